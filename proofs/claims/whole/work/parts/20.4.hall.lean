/-! ===== the class: hall ===== -/
theorem ScD.old {M M' : mM} {q nx : Nat} {K : Nat → Int32} (h : ScD M q nx K) (hI : ∀ a, q ≤ a → a ≤ q + 74 → gI M' a = gI M a) : ScD M' q nx K := h.mv hI
/-- what speaks of older cells stays, if those stay -/
theorem MR.old {M M' : mM} {K : Nat → Int32} (h : MR M K) (hS : Sh M') (hz : gz M ≤ gz M') (hT : ∀ q, q < gz M → gT M' q = gT M q) (hI : ∀ q, q < gz M → 107 ≤ q → gI M' q = gI M q) (hJ : ∀ q, q < gz M → 107 ≤ q → ∀ k, gJ M' q k = gJ M q k) (hR : ∀ q, q < gz M → 107 ≤ q → ∀ k, gR M' q k = gR M q k) : MR M' K := by
  obtain ⟨_, hW, h8, ⟨nx, hd⟩, p, cd, n, rd, l1, p0, p1, p2, p3⟩ := h
  have hb : ∀ q, (p ≤ q ∧ q ≤ p + 6) ∨ q = cd → q < gz M ∧ 107 ≤ q := fun q hq => by unfold PlA at p3; omega
  have hp := hb p (Or.inl ⟨by omega, by omega⟩)
  refine ⟨hS, hW, by omega, ⟨nx, hd.mv (fun a h1 h2 => hI a (by omega) (by omega))⟩, p, cd, n, rd, l1, by rw [hR 118 (by omega) (by omega)]; exact p0, ⟨?_, ?_⟩, p2.mv (hI p hp.1 hp.2) (hI (p + 4) (hb _ (Or.inl ⟨by omega, by omega⟩)).1 (hb _ (Or.inl ⟨by omega, by omega⟩)).2), by unfold PlA at p3 ⊢; omega⟩
  · have h1 := p1.1
    have e : ∀ q, (p ≤ q ∧ q ≤ p + 6) ∨ q = cd → gT M' q = gT M q := fun q hq => hT q (hb q hq).1
    unfold PlSh at h1 ⊢
    rw [e p (Or.inl ⟨by omega, by omega⟩), e (p + 1) (Or.inl ⟨by omega, by omega⟩), e (p + 2) (Or.inl ⟨by omega, by omega⟩), e (p + 3) (Or.inl ⟨by omega, by omega⟩), e (p + 4) (Or.inl ⟨by omega, by omega⟩), e (p + 6) (Or.inl ⟨by omega, by omega⟩), e cd (Or.inr rfl), hR p hp.1 hp.2, hR p hp.1 hp.2, hR p hp.1 hp.2, hR p hp.1 hp.2, hR p hp.1 hp.2, hR p hp.1 hp.2]
    exact h1
  · have h2 := p1.2
    have e : ∀ q, (p ≤ q ∧ q ≤ p + 6) ∨ q = cd → gI M' q = gI M q := fun q hq => hI q (hb q hq).1 (hb q hq).2
    unfold PlD ltB at h2 ⊢
    rw [e p (Or.inl ⟨by omega, by omega⟩), e (p + 2) (Or.inl ⟨by omega, by omega⟩), e (p + 3) (Or.inl ⟨by omega, by omega⟩), e (p + 6) (Or.inl ⟨by omega, by omega⟩), e cd (Or.inr rfl), hJ p hp.1 hp.2]
    exact h2
/-- cells that a hall leaves alone -/
def Kh (M M' : mM) : Prop := gz M ≤ gz M' ∧ ∀ q, q < gz M → (q = 101 ∨ (119 ≤ q ∧ q ≤ 125) ∨ (193 ≤ q ∧ (q ≤ 194 ∨ 222 ≤ q))) → gT M' q = gT M q ∧ gI M' q = gI M q ∧ (∀ k, gJ M' q k = gJ M q k) ∧ ∀ k, gR M' q k = gR M q k
section CH
variable (G : mG) (M : mM)
theorem c11_hallF (hS : Sh M) {n : Int32} {tp : Nat} (ht : gI M 100 1 = nI tp) (hn : ¬ (0 ≤ n ∧ n ≤ nI tp)) : Ct G Y11_hall 40 8 1023 [.ref 100, .int n] M (fun _ _ => False) (Tg iaE M) := by
  have hS' := hS
  have go : ∀ ls st, (st.map fun v : Value => v.category).sum ≤ 8 → V G Y11_hall 40 8 1023 (fun _ _ => False) (Tg iaE M) 12 ls st M := fun ls st hst => V.up (kc := 0 + 1) (ks := 0 + 6) (v_throw (cls := iaE) (text := "the tape has not so many bytes") (names := upE) rfl (by decide +kernel) (by decide +kernel) at_iaek (by decide +kernel) (at_in at_iae).1 (at_in at_iae).2 dX11_hall_12 dX11_hall_15 dX11_hall_16 dX11_hall_18 dX11_hall_21 (by decide) hst Tg.mk) (by decide) (by decide)
  refine Ct.of k11_hall.1 (Nat.le_of_ble_eq_true rfl) ?_
  by_cases h0 : n < 0
  · refine v_iload_n dX11_hall_0 rfl ?_
    refine v_if_lt 12 dX11_hall_1 (by decide) (fun h1 => ?_) (fun h1 => absurd h0 h1)
    exact go _ _ (by decide)
  · refine v_iload_n dX11_hall_0 rfl ?_
    refine v_if_lt 12 dX11_hall_1 (by decide) (fun h1 => absurd h1 h0) (fun h1 => ?_)
    refine v_iload_n dX11_hall_4 rfl ?_
    refine v_aload_n dX11_hall_5 rfl ?_
    refine v_getI 11 1 dX11_hall_6 f11_77 (by first | exact hS'.1 _ _ rfl | assumption) (by decide) ?_
    rw [ht]
    refine v_icmp_le 22 dX11_hall_9 (by decide) (fun h9 => absurd ⟨Int32.not_lt.mp h0, h9⟩ hn) (fun h9 => ?_)
    exact go _ _ (by decide)
theorem c11_hallT {K : Nat → Int32} (h : MR M K) {b : Nat → Nat} {nn tp : Nat} (ht : gI M 100 1 = nI tp) (h9 : tp ≤ 900) (hn : nn ≤ tp) (hb : ∀ j, j < nn → gI M 101 j = sb (b j) ∧ b j < 256) (Kt : Nat → Int32) :
    Ct G Y11_hall 40 8 1023 [.ref 100, .int (nI nn)] M (fun v M' => v = some (.int (if (hlS (b, nn) Kt).1 = 0 then (hlS (b, nn) Kt).2.2.2 0 else -10 - nI (hlS (b, nn) Kt).1)) ∧ Kh M M' ∧ MR M' (if (hlS (b, nn) Kt).1 = 0 then hlF (hlS (b, nn) Kt) K else K) ∧ gI M' 100 1 = 0 ∧ gI M' 100 2 = nI (hlS (b, nn) Kt).1 ∧ gI M' 100 3 = (if (hlS (b, nn) Kt).1 = 0 then -1 else nI (hlS (b, nn) Kt).2.1) ∧ (if (hlS (b, nn) Kt).1 = 0 then (gR M' 118 0 = some (gz M) ∧ gR M' (gz M) 14 = some (gz M + 7) ∧ ∃ n, n ≤ 965 ∧ gT M' (gz M + 7) = .inr (0, n)) else gR M' 118 0 = gR M 118 0)) NX := by
  have hS := h.1
  have h8 := h.2.2.1
  have hS' := hS
  have hLV := hlP (M := M) (Z := (b, nn)) (show nn ≤ 900 by omega) Kt
  have hok := fun z => hlS_HV (Z := (b, nn)) (show nn ≤ 900 by omega) Kt z
  have hr := c3_read G M (Z := (b, nn)) Kt hS h8 (show nn ≤ 900 by omega) hb
  generalize hlS (b, nn) Kt = R at hLV hok hr ⊢
  have fin : ∀ (v : Value) M1, (∃ N M0, OlM M M0 ∧ PM M0 (gz M) N ∧ CS (gz M) N (b, nn) M0 false 0 0 R M1) → v = (if R.1 = 0 then .ref (gz M) else .null) → V G Y11_hall 40 0 0 (fun v M' => v = some (.int (if R.1 = 0 then R.2.2.2 0 else -10 - nI R.1)) ∧ Kh M M' ∧ MR M' (if R.1 = 0 then hlF R K else K) ∧ gI M' 100 1 = 0 ∧ gI M' 100 2 = nI R.1 ∧ gI M' 100 3 = (if R.1 = 0 then -1 else nI R.2.1) ∧ (if R.1 = 0 then (gR M' 118 0 = some (gz M) ∧ gR M' (gz M) 14 = some (gz M + 7) ∧ ∃ n, n ≤ 965 ∧ gT M' (gz M + 7) = .inr (0, n)) else gR M' 118 0 = gR M 118 0)) NX 34 [some (.ref 100), some (.int (nI nn))] [v] M1 := by
    intro v M1 ⟨N, M0, hO, hPM0, hCS⟩ hv
    have hPM := hPM0.sq hCS.1
    have hS1 := hPM.1
    have hS' := hS1
    obtain ⟨c1, c2, c3, c4, c5, c6⟩ := hCS
    have z1 : gz M1 = gz M + 8 := c1.1.trans hO.1
    have t1 : ∀ q, q < gz M → gT M1 q = gT M q := fun q hq => by rw [c1.2.1]; exact hO.2.1 q hq
    have wcs : ∀ q k, q < gz M → ¬ (102 ≤ q ∧ q ≤ 103) → Wcs (gz M) q k = false := fun q k hq a => by
      unfold Wcs
      rw [nbeq_f (show q ≠ 102 by omega), nbeq_f (show q ≠ 103 by omega), show Nat.ble (gz M) q = false from Bool.eq_false_iff.mpr (fun z => by rw [Nat.ble_eq] at z; omega)]
      rfl
    have i1 : ∀ q, q < gz M → ¬ (102 ≤ q ∧ q ≤ 106) → gI M1 q = gI M q := fun q hq a => (funext (fun k => c1.2.2.2.1 q k (wcs q k hq (by omega)))).trans (hO.2.2 q hq a).1
    have j1 : ∀ q k, q < gz M → ¬ (102 ≤ q ∧ q ≤ 106) → gJ M1 q k = gJ M q k := fun q k hq a => (c1.2.2.2.2 q k (by omega)).trans ((hO.2.2 q hq a).2.1 k)
    have r1 : ∀ q k, q < gz M → ¬ (102 ≤ q ∧ q ≤ 106) → gR M1 q k = gR M q k := fun q k hq a => (c1.2.2.1 q k (by unfold Rnx; rw [nbeq_f (show q ≠ 103 by omega)]; rfl)).trans ((hO.2.2 q hq a).2.2 k)
    obtain ⟨M2, e2⟩ : ∃ M2, M2 = sI (sI (sI M1 100 1 0) 100 2 (nI R.1)) 100 3 (if R.1 = 0 then -1 else nI R.2.1) := ⟨_, rfl⟩
    have hS2 : Sh M2 := by rw [e2]; exact ⟨fun q sh hq => hS1.1 q sh hq, fun q k a hq => hS1.2 q k a hq⟩
    have z2 : gz M2 = gz M + 8 := by rw [e2]; exact z1
    have t2 : gT M2 = gT M1 := by rw [e2]; rfl
    have j2 : gJ M2 = gJ M1 := by rw [e2]; rfl
    have r2 : gR M2 = gR M1 := by rw [e2]; rfl
    have i2 : ∀ q, q ≠ 100 → gI M2 q = gI M1 q := fun q a => by rw [e2, gI_sr _ _ a, gI_sr _ _ a, gI_sr _ _ a]
    have f1 : gI M2 100 1 = 0 := by rw [e2, gI_sk _ _ (by decide), gI_sk _ _ (by decide), gI_ss]
    have f2 : gI M2 100 2 = nI R.1 := by rw [e2, gI_sk _ _ (by decide), gI_ss]
    have f3 : gI M2 100 3 = (if R.1 = 0 then -1 else nI R.2.1) := by rw [e2, gI_ss]
    have hm : MR M2 K := h.old hS2 (by omega) (fun q hq => by rw [t2]; exact t1 q hq) (fun q hq a => by rw [i2 q (by omega)]; exact i1 q hq (by omega)) (fun q hq a k => by rw [j2]; exact j1 q k hq (by omega)) (fun q hq a k => by rw [r2]; exact r1 q k hq (by omega))
    have hk : Kh M M2 := ⟨by omega, fun q hq a => ⟨by rw [t2]; exact t1 q hq, by rw [i2 q (by omega)]; exact i1 q hq (by omega), fun k => by rw [j2]; exact j1 q k hq (by omega), fun k => by rw [r2]; exact r1 q k hq (by omega)⟩⟩
    have e102 : gI (sI M1 100 1 0) 102 3 = nI R.1 := by rw [gI_sq _ _ (by decide)]; exact c2.1
    have e103 : gI (sI (sI M1 100 1 0) 100 2 (nI R.1)) 102 4 = (if R.1 = 0 then -1 else nI R.2.1) := by rw [gI_sq _ _ (by decide), gI_sq _ _ (by decide)]; exact c3
    by_cases hz : R.1 = 0
    · rw [if_pos hz] at hv
      subst hv
      obtain ⟨hTS, hCG, hRB⟩ := c6 hz
      obtain ⟨hJ, hH⟩ := hok hz
      have hN := hTS.2.2.1
      have hSH := hPM.2.1
      have h248 := hPM.2.2.1
      refine v_astore_n dX11_hall_34 rfl (by decide) ?_
      refine v_aload_n dX11_hall_35 rfl ?_
      refine v_iconst 0 dX11_hall_36 (by decide) ?_
      refine v_putI 11 1 dX11_hall_37 f11_77 (by first | exact hS'.1 _ _ rfl | assumption) (by decide) ?_
      refine v_aload_n dX11_hall_40 rfl ?_
      refine v_aload_n dX11_hall_41 rfl ?_
      refine v_getR 11 4 _ dX11_hall_42 f11_20 (by first | exact hS'.1 _ _ rfl | assumption) (by decide) (by first | exact hS'.2 _ _ _ rfl | assumption) ?_
      refine v_getI 3 3 dX11_hall_45 f11_95 (by first | exact hS'.1 _ _ rfl | assumption) (by decide) ?_
      rw [e102]
      refine v_putI 11 2 dX11_hall_48 f11_98 (by first | exact hS'.1 _ _ rfl | assumption) (by decide) ?_
      refine v_aload_n dX11_hall_51 rfl ?_
      refine v_aload_n dX11_hall_52 rfl ?_
      refine v_getR 11 4 _ dX11_hall_53 f11_20 (by first | exact hS'.1 _ _ rfl | assumption) (by decide) (by first | exact hS'.2 _ _ _ rfl | assumption) ?_
      refine v_getI 3 4 dX11_hall_56 f11_101 (by first | exact hS'.1 _ _ rfl | assumption) (by decide) ?_
      rw [e103]
      refine v_putI 11 3 dX11_hall_59 f11_13 (by first | exact hS'.1 _ _ rfl | assumption) (by decide) ?_
      skip
      rw [← e2]
      have hS' := hS2
      rw [if_pos hz, if_pos hz, if_pos hz]
      simp only [if_pos hz]
      obtain ⟨q1, q2, q3⟩ := CG.pl hLV hJ hH hCG c4 hN K
      have hrd := RB.rdr hLV hH hRB K
      obtain ⟨w1, w2, w3⟩ := hlF_ok hLV hH K
      have i2p : ∀ q, gz M ≤ q → gI M2 q = gI M1 q := fun q hq => i2 q (by omega)
      have hpl : Plr M2 (gz M) (gz M + 7) (N + 1) (hlF R K) := by
        refine ⟨by unfold PlSh at hSH ⊢; rw [t2, r2]; exact hSH, ?_⟩
        unfold PlD ltB at q1 ⊢
        rw [i2p _ (Nat.le_refl _), i2p _ (by omega), i2p _ (by omega), i2p _ (by omega), i2p _ (by omega), j2]
        exact q1
      have hl : ∀ i, i < 10 → gI M2 (118 + 15 + 6 * i) 8 = 0 ∨ gI M2 (118 + 15 + 6 * i) 8 = 1 := by
        obtain ⟨_, _, _, ⟨nx, hd⟩, _⟩ := hm
        exact hd.2.2.2.2.1
      have hop := c6_open G M2 (q := 118) (r := 115) hS2.sc hS2.rk hpl (fun q a => by omega) (fun q a => by omega) (by omega) (by omega) w1.p w2 w3 (fun d hd => by rw [i2p _ (by omega)]; exact q2 d hd) (by rw [i2p _ (Nat.le_refl _)]; exact q3) hl
      refine v_aload_n dX11_hall_62 rfl ?_
      skip
      refine v_ifnonnull 74 dX11_hall_63 (by decide) ?_
      refine v_aload_n dX11_hall_74 rfl ?_
      refine v_getR 11 6 _ dX11_hall_75 f11_34 (by first | exact hS'.1 _ _ rfl | assumption) (by decide) (by first | exact hS'.2 _ _ _ rfl | assumption) ?_
      refine v_aload_n dX11_hall_78 rfl ?_
      refine v_aload_n dX11_hall_79 rfl ?_
      refine v_getR 11 5 _ dX11_hall_80 f11_27 (by first | exact hS'.1 _ _ rfl | assumption) (by decide) (by first | exact hS'.2 _ _ _ rfl | assumption) ?_
      refine v_scVv [_, _] (hop) k6_open dX11_hall_83 l11_104 (by first | exact hS'.1 _ _ rfl | assumption) (by decide) rfl (Nat.le_of_ble_eq_true rfl) (Nat.le_of_ble_eq_true rfl) ?_
      intro M3 hM3
      skip
      obtain ⟨o1, o2⟩ := hM3
      have t3 : gT M3 = gT M2 := o1.2.1
      have r3 : ∀ q k, q ≠ 118 → gR M3 q k = gR M2 q k := fun q k a => by rw [o1.2.2.2.1]; exact gR_sq _ _ a
      have r30 : gR M3 118 0 = some (gz M) := by rw [o1.2.2.2.1]; exact gR_ss _ _ _ _
      have r3k : ∀ q k, ¬ (q = 118 ∧ k = 0) → gR M3 q k = gR M2 q k := fun q k a => by
        rw [o1.2.2.2.1, gR_sR]
        unfold up2
        rw [if_neg a]
      have wop : ∀ q, (¬ (115 ≤ q ∧ q ≤ 118) ∧ ¬ (126 ≤ q ∧ q ≤ 131)) → ∀ k, Wop 118 115 q k = false := fun q a k => by
        unfold Wop
        rw [Wln_o (by omega) (by omega) k, nbeq_f (show q ≠ 118 by omega)]
        rfl
      have i3 : ∀ q, (¬ (115 ≤ q ∧ q ≤ 118) ∧ ¬ (126 ≤ q ∧ q ≤ 131)) → gI M3 q = gI M2 q := fun q a => funext (fun k => o1.2.2.2.2 q k (wop q a k))
      have j3 : gJ M3 = gJ M2 := o1.2.2.1
      have z3 : gz M3 = gz M + 8 := o1.1.trans z2
      have hS3 : Sh M3 := ⟨fun q sh hq => by rw [t3]; exact hS2.1 q sh hq, fun q k a hq => by
        rw [r3k q k (fun z => by rw [z.1, z.2] at hq; cases (show (none : Option Nat) = some a from hq))]
        exact hS2.2 q k a hq⟩
      have hp3 : gT M3 (gz M) = .inl 4 := by rw [t3]; exact hpl.1.1
      have hl0 : gI M3 (gz M) 0 = R.2.2.2 0 := by rw [i3 _ (by omega), hpl.2.1.1]; exact hlF_i K (by omega) (by omega)
      have hpl3 : Plr M3 (gz M) (gz M + 7) (N + 1) (hlF R K) := hpl.mr2 t3 (funext (fun k => r3 _ k (by omega))) (by rw [j3]) (fun q hq => i3 q (by omega))
      have hrd3 := (hrd.mv (i2p _ (Nat.le_refl _)) (i2p _ (by omega))).mv (i3 (gz M) (by omega)) (i3 (gz M + 4) (by omega))
      have hmr : MR M3 (hlF R K) := ⟨hS3, w1, by omega, ⟨0, o2⟩, gz M, gz M + 7, N + 1, _, _, r30, hpl3, hrd3, Or.inr ⟨by omega, by omega, by omega, by omega⟩⟩
      have hk3 : Kh M M3 := ⟨by omega, fun q hq a => by
        obtain ⟨k1, k2, k3, k4⟩ := hk.2 q hq a
        exact ⟨by rw [t3]; exact k1, by rw [i3 q (by omega)]; exact k2, fun k => by rw [j3]; exact k3 k, fun k => by rw [r3 q k (by omega)]; exact k4 k⟩⟩
      refine v_aload_n dX11_hall_86 rfl ?_
      refine v_getI 4 0 dX11_hall_87 f11_108 hp3 (by decide) ?_
      rw [hl0]
      refine v_iret dX11_hall_90 rfl ?_
      exact ⟨rfl, hk3, hmr, by rw [i3 100 (by omega)]; exact f1, by rw [i3 100 (by omega)]; exact f2, by rw [i3 100 (by omega), f3, if_pos hz], r30, hpl3.1.2.2.2.2.2.2.2.2.2.2.2.1, N + 1, by have := hPM.2.2.2.2; omega, hpl3.1.2.2.2.2.2.2.2.2.2.2.2.2.1⟩
    · rw [if_neg hz] at hv
      subst hv
      refine v_astore_nN dX11_hall_34 rfl (by decide) ?_
      refine v_aload_n dX11_hall_35 rfl ?_
      refine v_iconst 0 dX11_hall_36 (by decide) ?_
      refine v_putI 11 1 dX11_hall_37 f11_77 (by first | exact hS'.1 _ _ rfl | assumption) (by decide) ?_
      refine v_aload_n dX11_hall_40 rfl ?_
      refine v_aload_n dX11_hall_41 rfl ?_
      refine v_getR 11 4 _ dX11_hall_42 f11_20 (by first | exact hS'.1 _ _ rfl | assumption) (by decide) (by first | exact hS'.2 _ _ _ rfl | assumption) ?_
      refine v_getI 3 3 dX11_hall_45 f11_95 (by first | exact hS'.1 _ _ rfl | assumption) (by decide) ?_
      rw [e102]
      refine v_putI 11 2 dX11_hall_48 f11_98 (by first | exact hS'.1 _ _ rfl | assumption) (by decide) ?_
      refine v_aload_n dX11_hall_51 rfl ?_
      refine v_aload_n dX11_hall_52 rfl ?_
      refine v_getR 11 4 _ dX11_hall_53 f11_20 (by first | exact hS'.1 _ _ rfl | assumption) (by decide) (by first | exact hS'.2 _ _ _ rfl | assumption) ?_
      refine v_getI 3 4 dX11_hall_56 f11_101 (by first | exact hS'.1 _ _ rfl | assumption) (by decide) ?_
      rw [e103]
      refine v_putI 11 3 dX11_hall_59 f11_13 (by first | exact hS'.1 _ _ rfl | assumption) (by decide) ?_
      skip
      rw [← e2]
      have hS' := hS2
      rw [if_neg hz, if_neg hz, if_neg hz]
      simp only [if_neg hz]
      refine v_aload_nN dX11_hall_62 rfl ?_
      skip
      refine v_ifnonnullN dX11_hall_63 ?_
      refine v_bipush (-10) dX11_hall_66 (by decide) ?_
      refine v_aload_n dX11_hall_68 rfl ?_
      refine v_getI 11 2 dX11_hall_69 f11_98 (by first | exact hS'.1 _ _ rfl | assumption) (by decide) ?_
      rw [f2]
      refine v_isub dX11_hall_72 ?_
      refine v_iret dX11_hall_73 rfl ?_
      exact ⟨rfl, hk, hm, f1, f2, by rw [f3, if_neg hz], by rw [r2]; exact r1 118 0 (by omega) (by omega)⟩
  refine Ct.of k11_hall.1 (Nat.le_of_ble_eq_true rfl) ?_
  have hle : nI nn ≤ nI tp := nI_le hn (by omega)
  refine v_iload_n dX11_hall_0 rfl ?_
  refine v_if_lt 12 dX11_hall_1 (by decide) (fun h1 => absurd h1 (nI_pos (by omega))) (fun h1 => ?_)
  refine v_iload_n dX11_hall_4 rfl ?_
  refine v_aload_n dX11_hall_5 rfl ?_
  refine v_getI 11 1 dX11_hall_6 f11_77 (by first | exact hS'.1 _ _ rfl | assumption) (by decide) ?_
  rw [ht]
  refine v_icmp_le 22 dX11_hall_9 (by decide) (fun h9 => ?_) (fun h9 => absurd hle h9)
  refine v_aload_n dX11_hall_22 rfl ?_
  refine v_getR 11 4 _ dX11_hall_23 f11_20 (by first | exact hS'.1 _ _ rfl | assumption) (by decide) (by first | exact hS'.2 _ _ _ rfl | assumption) ?_
  refine v_aload_n dX11_hall_26 rfl ?_
  refine v_getR 11 0 _ dX11_hall_27 f11_9 (by first | exact hS'.1 _ _ rfl | assumption) (by decide) (by first | exact hS'.2 _ _ _ rfl | assumption) ?_
  refine v_iload_n dX11_hall_30 rfl ?_
  skip
  refine v_callV [_, _] hr k3_read dX11_hall_31 l11_91 (hS.1 _ _ rfl) (by decide) rfl (Nat.le_of_ble_eq_true rfl) (Nat.le_of_ble_eq_true rfl) (fun v M1 hv => ?_) (fun _ _ h => h.elim)
  rw [hv.1]
  exact fin _ M1 hv.2 rfl
end CH
