/-! ===== the class's parser: what it knows, its small steps ===== -/
/-- the marks that a step reads, as bits; one more than the last of them -/
def rdb (mk s : Nat) : Nat := if 100 ≤ s ∧ s < 200 then 2 ^ (s - 100) else if 200 ≤ s ∧ s ≤ 301 then 2 ^ mk - 1 else 0
def rdl (mk s : Nat) : Nat := if 100 ≤ s ∧ s < 200 then s - 100 + 1 else if 200 ≤ s ∧ s ≤ 301 then mk else 0
def rdS (K : Nat → Int32) (mk : Nat) : Nat → Nat
  | 0 => 0
  | n + 1 => rdS K mk n ||| rdb mk (kn K (1155 + n))
def lwS (K : Nat → Int32) (mk a : Nat) : Nat → Nat
  | 0 => 0
  | n + 1 => max (lwS K mk a n) (rdl mk (kn K (1155 + (a + n))))
def Wcs (p q k : Nat) : Bool := (Nat.beq q 102 && (Nat.beq k 1 || (Nat.beq k 3 || Nat.beq k 4))) || ((Nat.beq q 103 && (Nat.beq k 6 || (Nat.beq k 9 || Nat.beq k 10))) || (Nat.ble p q && Nat.ble q (p + 7)))
/-- M is M0 but for what a parser writes -/
def Sq (p : Nat) (M0 M : mM) : Prop := gz M = gz M0 ∧ gT M = gT M0 ∧ (∀ q k, Rnx q k = false → gR M q k = gR M0 q k) ∧ (∀ q k, Wcs p q k = false → gI M q k = gI M0 q k) ∧ ∀ q k, ¬ (q = p ∧ k = 16) → gJ M q k = gJ M0 q k
theorem Sq.rf {p : Nat} {M : mM} : Sq p M M := ⟨rfl, rfl, fun _ _ _ => rfl, fun _ _ _ => rfl, fun _ _ _ => rfl⟩
theorem Sq.tr {p : Nat} {M M' M'' : mM} (h : Sq p M M') (g : Sq p M' M'') : Sq p M M'' := ⟨g.1.trans h.1, g.2.1.trans h.2.1, fun q k z => (g.2.2.1 q k z).trans (h.2.2.1 q k z), fun q k z => (g.2.2.2.1 q k z).trans (h.2.2.2.1 q k z), fun q k z => (g.2.2.2.2 q k z).trans (h.2.2.2.2 q k z)⟩
theorem Sq.st {p : Nat} {M M' : mM} (h : Sq p M M') {q k : Nat} (v : Int32) (w : Wcs p q k = true) : Sq p M (sI M' q k v) := ⟨h.1, h.2.1, h.2.2.1, fun a b z => by
  rw [gI_sI]
  by_cases e : a = q ∧ b = k
  · rw [e.1, e.2, w] at z; cases z
  · simp only [up2, e, if_false]; exact h.2.2.2.1 a b z, h.2.2.2.2⟩
theorem Wcs_p {p q : Nat} (k : Nat) (h : p ≤ q ∧ q ≤ p + 7) : Wcs p q k = true := by
  unfold Wcs
  rw [show Nat.ble p q = true from Nat.ble_eq.mpr h.1, show Nat.ble q (p + 7) = true from Nat.ble_eq.mpr h.2]
  simp
theorem Sq.nx {p : Nat} {M M' : mM} (h : Sn Wnx Rnx M M') : Sq p M M' := ⟨h.1, h.2.1, h.2.2.2.1, fun q k z => h.2.2.2.2 q k (by
  cases hq : Wnx q k
  · rfl
  · have : Wcs p q k = true := by
      unfold Wnx at hq
      unfold Wcs
      simp only [Bool.or_eq_true, Bool.and_eq_true, Nat.beq_eq] at hq ⊢
      omega
    rw [this] at z; cases z), fun q k _ => by rw [h.2.2.1]⟩
/-- what stays while a parser reads -/
def PM (M : mM) (p N : Nat) : Prop := Sh M ∧ PlSh M p (p + 7) (N + 1) ∧ 248 ≤ p ∧ gR M 102 2 = some p ∧ N ≤ 900
theorem PM.sq {M0 M : mM} {p N : Nat} (h : PM M0 p N) (e : Sq p M0 M) : PM M p N := by
  obtain ⟨h1, h2, h3, h4, h5⟩ := h
  refine ⟨⟨fun q sh hq => by rw [e.2.1]; exact h1.1 q sh hq, fun q k a hq => by rw [e.2.2.1 q k (Rnx_q q k a hq)]; exact h1.2 q k a hq⟩, ?_, h3, (e.2.2.1 102 2 rfl).trans h4, h5⟩
  have hr : ∀ k, gR M p k = gR M0 p k := fun k => e.2.2.1 p k (by unfold Rnx; rw [show Nat.beq p 103 = false from by rw [← Bool.not_eq_true, Nat.beq_eq]; omega]; rfl)
  unfold PlSh at h2 ⊢
  rw [e.2.1, hr, hr, hr, hr, hr, hr]
  exact h2
/-- whether a lamp before tells mark m, looking v -/
def hsL (K : Nat → Int32) (m v : Int32) : Nat → Nat → Bool
  | 0, _ => false
  | n + 1, k => decide (K (120 + 3 * k) = m ∧ K (120 + 3 * k + 1) = v) || hsL K m v n (k + 1)
theorem hsL_K {K K' : Nat → Int32} (e : ∀ i, 120 ≤ i → i < 144 → K' i = K i) (m v : Int32) : ∀ n k, k + n ≤ 8 → hsL K' m v n k = hsL K m v n k
  | 0, _, _ => rfl
  | n + 1, k, h => by rw [hsL, hsL, e (120 + 3 * k) (by omega) (by omega), e (120 + 3 * k + 1) (by omega) (by omega), hsL_K e m v n (k + 1) (by omega)]
/-- the plan so far -/
def CG (M : mM) (p : Nat) (K : Nat → Int32) : Prop :=
  (gI M p 0 = K 0 ∧ gI M p 2 = K 2 ∧ gI M p 3 = K 93 ∧ gI M p 4 = K 3 ∧ gI M p 5 = K 119 ∧ gI M p 6 = K 4 ∧ gI M p 7 = K 5 ∧ gI M p 8 = K 6) ∧ gI M 102 1 = K 7 ∧
  (∀ c, c < kn K 2 → gI M (p + 1) c = nI (pkR (cur K) c (kn K 1))) ∧ (∀ w, w < 10 → gI M (p + 2) w = K (109 + w)) ∧ (∀ w, w ≤ 10 → gI M (p + 3) w = K (144 + w)) ∧ (∀ k, k < kn K 7 → gI M (p + 7) k = nI (encS (kn K (1155 + k)))) ∧
  ∀ m v, m < 6 → v ≤ 9 → ltB M p (10 * m + v) = hsL K (nI m) (nI v) (kn K 4) 0 ∧ (if ltB M p (10 * m + v) = true then gI M (p + 6) (10 * m + v) else nI v) = lby K (nI m) (nI v) (kn K 4) 0
/-- what is noted of marks read; rb, rl noted ahead of their step -/
def RB (M : mM) (p : Nat) (b : Bool) (rb rl : Nat) (K : Nat → Int32) : Prop :=
  gI M p 9 = nI (rdS K (kn K 1) (kn K 7) ||| rb) ∧ (∀ w, w < kn K 3 → gI M (p + 4) w = nI (lwS K (kn K 1) (kn K (144 + w)) (kn K (144 + w + 1) - kn K (144 + w))) - 1) ∧
  (b = true → gI M (p + 4) (kn K 3) = nI (max (lwS K (kn K 1) (kn K (144 + kn K 3)) (kn K 7 - kn K (144 + kn K 3))) rl) - 1)
def CS (p N : Nat) (Z : (Nat → Nat) × Nat) (M0 : mM) (b : Bool) (rb rl : Nat) (R : RSt) (M : mM) : Prop :=
  Sq p M0 M ∧ (gI M 102 3 = nI R.1 ∧ R.1 ≤ 4) ∧ gI M 102 4 = (if R.1 = 0 then -1 else nI R.2.1) ∧ gI M p 1 = nI (kn R.2.2.2 1) ∧ (∃ w, gI M p 4 = nI w ∧ w ≤ 10 ∧ (b = true → w < 10)) ∧ (R.1 = 0 → TS M Z N R.2.2.1 ∧ CG M p R.2.2.2 ∧ RB M p b rb rl R.2.2.2)
theorem CG.mv {M M' : mM} {p : Nat} {K : Nat → Int32} (h : CG M p K) (h1 : gI M' 102 1 = gI M 102 1) (hI : ∀ q, p ≤ q → q ≤ p + 7 → gI M' q = gI M q) (hJ : gJ M' p = gJ M p) : CG M' p K := by
  unfold CG ltB at h ⊢
  rw [h1, hI p (by omega) (by omega), hI (p + 1) (by omega) (by omega), hI (p + 2) (by omega) (by omega), hI (p + 3) (by omega) (by omega), hI (p + 6) (by omega) (by omega), hI (p + 7) (by omega) (by omega), hJ]
  exact h
theorem RB.mv {M M' : mM} {p rb rl : Nat} {b : Bool} {K : Nat → Int32} (h : RB M p b rb rl K) (hI : ∀ q, p ≤ q → q ≤ p + 7 → gI M' q = gI M q) : RB M' p b rb rl K := by
  unfold RB at h ⊢
  rw [hI p (by omega) (by omega), hI (p + 4) (by omega) (by omega)]
  exact h
theorem CS.bad {p N : Nat} {Z : (Nat → Nat) × Nat} {M0 M : mM} {b : Bool} {rb rl : Nat} {R : RSt} (h : CS p N Z M0 b rb rl R M) : (R.1 = 0 → gI M 102 3 = 0) ∧ (R.1 ≠ 0 → ¬ gI M 102 3 = 0) := by
  obtain ⟨h1, h2, _⟩ := h
  exact ⟨fun z => by rw [h2.1, z]; rfl, fun z c => z (nI_z (by omega) (h2.1 ▸ c))⟩
theorem CS.nx {p N : Nat} {Z : (Nat → Nat) × Nat} {M0 M M' : mM} {b : Bool} {rb rl : Nat} {R : RSt} (hp : 248 ≤ p) (h : CS p N Z M0 b rb rl R M) (hb : R.1 = 0) (e : Sn Wnx Rnx M M') (t : TS M' Z N (R.2.2.1 + 1)) : CS p N Z M0 b rb rl (rnx R) M' := by
  obtain ⟨h1, h2, h3, h4, h5, h6⟩ := h
  obtain ⟨c1, c2, c3⟩ := h6 hb
  have o : ∀ q, q ≠ 103 → gI M' q = gI M q := fun q hq => funext (fun k => e.2.2.2.2 q k (by unfold Wnx; rw [show Nat.beq q 103 = false from by rw [← Bool.not_eq_true, Nat.beq_eq]; exact hq]; rfl))
  refine ⟨h1.tr (Sq.nx e), ?_, by rw [o 102 (by decide)]; exact h3, ?_, ?_, fun _ => ⟨t, c2.mv (by rw [o 102 (by decide)]) (fun q a _ => o q (by omega)) (by rw [e.2.2.1]), c3.mv (fun q a _ => o q (by omega))⟩⟩
  · rw [o 102 (by decide)]; exact h2
  · rw [o p (by omega)]; exact h4
  · rw [o p (by omega)]; exact h5
section CP
variable (G : mG) (M : mM)
theorem c3_stands {p N k : Nat} {Z : (Nat → Nat) × Nat} {M0 : mM} {b : Bool} {rb rl : Nat} {R : RSt} (hM : PM M0 p N) (h : CS p N Z M0 b rb rl R M) (hk : k < 33) : Ct G Y3_stands 0 0 0 [.ref 102, .ref k] M (Rv (some (.int (bI (rIs Z k R)))) M) NX := by
  have hS' := (hM.sq h.1).1
  have hkl := kd_le Z R.2.2.1
  have hB1 : rIs Z k R → bI (rIs Z k R) = 1 := fun z => bI_t z
  have hB0 : ¬ rIs Z k R → bI (rIs Z k R) = 0 := fun z => bI_f z
  generalize bI (rIs Z k R) = B at hB1 hB0 ⊢
  refine Ct.of k3_stands.1 (Nat.le_of_ble_eq_true rfl) ?_
  by_cases hb : R.1 = 0
  · have t8 := (h.2.2.2.2.2 hb).1.2.2.2.1
    by_cases hc : kd Z R.2.2.1 = k
    · rw [hB1 ⟨hb, hc⟩]
      refine v_aload_n dX3_stands_0 rfl ?_
      refine v_getI 3 3 dX3_stands_1 f3_29 (hS'.1 _ _ rfl) (by decide) ?_
      rw [h.bad.1 hb]
      refine v_if_ne 22 dX3_stands_4 (by decide) (fun h4 => absurd rfl h4) (fun h4 => ?_)
      refine v_aload_n dX3_stands_7 rfl ?_
      refine v_getR 3 0 _ dX3_stands_8 f3_12 (hS'.1 _ _ rfl) (by decide) (by first | exact hS'.2 _ _ _ rfl | assumption) ?_
      refine v_getR 9 8 _ dX3_stands_11 f3_87 (hS'.1 _ _ rfl) (by decide) (by first | exact hS'.2 _ _ _ rfl | assumption) ?_
      refine v_aload_n dX3_stands_14 rfl ?_
      refine v_acmp_ne 22 dX3_stands_15 (by decide) (kT_i G (by first | assumption | omega | decide) (by first | assumption | omega | decide)) (fun h15 => absurd hc h15) (fun h15 => ?_)
      refine v_iconst 1 dX3_stands_18 (by decide) ?_
      refine v_goto 23 dX3_stands_19 (by decide) ?_
      refine v_zret dX3_stands_23 rfl (by first | rfl | exact bI_nb _ | assumption) ?_
      exact ⟨rfl, rfl⟩
    · rw [hB0 (fun z => hc z.2)]
      refine v_aload_n dX3_stands_0 rfl ?_
      refine v_getI 3 3 dX3_stands_1 f3_29 (hS'.1 _ _ rfl) (by decide) ?_
      rw [h.bad.1 hb]
      refine v_if_ne 22 dX3_stands_4 (by decide) (fun h4 => absurd rfl h4) (fun h4 => ?_)
      refine v_aload_n dX3_stands_7 rfl ?_
      refine v_getR 3 0 _ dX3_stands_8 f3_12 (hS'.1 _ _ rfl) (by decide) (by first | exact hS'.2 _ _ _ rfl | assumption) ?_
      refine v_getR 9 8 _ dX3_stands_11 f3_87 (hS'.1 _ _ rfl) (by decide) (by first | exact hS'.2 _ _ _ rfl | assumption) ?_
      refine v_aload_n dX3_stands_14 rfl ?_
      refine v_acmp_ne 22 dX3_stands_15 (by decide) (kT_i G (by first | assumption | omega | decide) (by first | assumption | omega | decide)) (fun h15 => ?_) (fun h15 => absurd h15 hc)
      refine v_iconst 0 dX3_stands_22 (by decide) ?_
      refine v_zret dX3_stands_23 rfl (by first | rfl | exact bI_nb _ | assumption) ?_
      exact ⟨rfl, rfl⟩
  · rw [hB0 (fun z => hb z.1)]
    refine v_aload_n dX3_stands_0 rfl ?_
    refine v_getI 3 3 dX3_stands_1 f3_29 (hS'.1 _ _ rfl) (by decide) ?_
    refine v_if_ne 22 dX3_stands_4 (by decide) (fun h4 => ?_) (fun h4 => absurd (h.bad.2 hb) h4)
    refine v_iconst 0 dX3_stands_22 (by decide) ?_
    refine v_zret dX3_stands_23 rfl (by first | rfl | exact bI_nb _ | assumption) ?_
    exact ⟨rfl, rfl⟩
theorem c3_fail {p N k : Nat} {Z : (Nat → Nat) × Nat} {M0 : mM} {b : Bool} {rb rl : Nat} {R : RSt} {x : Int32} (hM : PM M0 p N) (h : CS p N Z M0 b rb rl R M) (hx : x = nI k) (hk : k ≤ 4) (h0 : 1 ≤ k) : Ct G Y3_fail 0 0 0 [.ref 102, .int x] M (Rs none (CS p N Z M0 b rb rl (rbl Z k R))) NX := by
  subst hx
  have hS' := (hM.sq h.1).1
  have hp := hM.2.2.1
  have hkl := kd_le Z R.2.2.1
  obtain ⟨h1, h2, h3, h4, h5, h6⟩ := id h
  refine Ct.of k3_fail.1 (Nat.le_of_ble_eq_true rfl) ?_
  by_cases hb : R.1 = 0
  · obtain ⟨t1, t2, t3, t8, t9, t10⟩ := (h6 hb).1
    have fin : ∀ v : Nat, v ≤ 4 → 1 ≤ k → v = (if kd Z R.2.2.1 = 31 then 1 else k) → CS p N Z M0 b rb rl (rbl Z k R) (sI (sI M 102 3 (nI v)) 102 4 (nI (ts Z R.2.2.1))) := by
      intro v hv4 hk1 hv
      have hbl := rbl_p (Z := Z) hk1 R
      have ei := rbl_i Z k R
      have e1 : (rbl Z k R).1 = v := by rw [rbl, if_pos hb, hv]
      have e2 : (rbl Z k R).2.1 = ts Z R.2.2.1 := by rw [rbl, if_pos hb]
      unfold CS
      rw [ei, e1, e2]
      exact ⟨(h1.st _ rfl).st _ rfl, ⟨(gI_sk _ _ (by decide)).trans (gI_ss _ _ _ _), hv4⟩, (gI_ss _ _ _ _).trans (if_neg (fun z => hbl (e1.trans z))).symm, (gI_sq _ _ (by omega)).trans ((gI_sq _ _ (by omega)).trans h4), by rw [gI_sq _ _ (by omega), gI_sq _ _ (by omega)]; exact h5, fun z => absurd (e1.trans z) hbl⟩
    by_cases h31 : kd Z R.2.2.1 = 31
    · refine v_aload_n dX3_fail_0 rfl ?_
      refine v_getI 3 3 dX3_fail_1 f3_29 (hS'.1 _ _ rfl) (by decide) ?_
      rw [h.bad.1 hb]
      refine v_if_ne 40 dX3_fail_4 (by decide) (fun h4 => absurd rfl h4) (fun h4 => ?_)
      refine v_aload_n dX3_fail_7 rfl ?_
      refine v_aload_n dX3_fail_8 rfl ?_
      refine v_getR 3 0 _ dX3_fail_9 f3_12 (hS'.1 _ _ rfl) (by decide) (by first | exact hS'.2 _ _ _ rfl | assumption) ?_
      refine v_getR 9 8 _ dX3_fail_12 f3_87 (hS'.1 _ _ rfl) (by decide) (by first | exact hS'.2 _ _ _ rfl | assumption) ?_
      rw [h31]
      refine v_gets (v := .ref 31) dX3_fail_15 g3_90 (kT_z G (i := 31) (by decide) rfl) ?_
      refine v_acmp_ne 25 dX3_fail_18 (by decide) (kT_i G (by first | assumption | omega | decide) (by first | assumption | omega | decide)) (fun h18 => absurd rfl h18) (fun h18 => ?_)
      refine v_iconst 1 dX3_fail_21 (by decide) ?_
      refine v_goto 26 dX3_fail_22 (by decide) ?_
      refine v_putI 3 3 dX3_fail_26 f3_29 (hS'.1 _ _ rfl) (by decide) ?_
      refine v_aload_n dX3_fail_29 rfl ?_
      refine v_aload_n dX3_fail_30 rfl ?_
      refine v_getR 3 0 _ dX3_fail_31 f3_12 (hS'.1 _ _ rfl) (by decide) (by first | exact hS'.2 _ _ _ rfl | assumption) ?_
      refine v_getI 9 9 dX3_fail_34 f3_93 (hS'.1 _ _ rfl) (by decide) ?_
      rw [gI_sq _ _ (by decide), t9]
      refine v_putI 3 4 dX3_fail_37 f3_25 (hS'.1 _ _ rfl) (by decide) ?_
      refine v_vret dX3_fail_40 rfl ?_
      exact ⟨rfl, fin 1 (by omega) (by omega) (if_pos h31).symm⟩
    · refine v_aload_n dX3_fail_0 rfl ?_
      refine v_getI 3 3 dX3_fail_1 f3_29 (hS'.1 _ _ rfl) (by decide) ?_
      rw [h.bad.1 hb]
      refine v_if_ne 40 dX3_fail_4 (by decide) (fun h4 => absurd rfl h4) (fun h4 => ?_)
      refine v_aload_n dX3_fail_7 rfl ?_
      refine v_aload_n dX3_fail_8 rfl ?_
      refine v_getR 3 0 _ dX3_fail_9 f3_12 (hS'.1 _ _ rfl) (by decide) (by first | exact hS'.2 _ _ _ rfl | assumption) ?_
      refine v_getR 9 8 _ dX3_fail_12 f3_87 (hS'.1 _ _ rfl) (by decide) (by first | exact hS'.2 _ _ _ rfl | assumption) ?_
      refine v_gets (v := .ref 31) dX3_fail_15 g3_90 (kT_z G (i := 31) (by decide) rfl) ?_
      refine v_acmp_ne 25 dX3_fail_18 (by decide) (kT_i G (by first | assumption | omega | decide) (by first | assumption | omega | decide)) (fun h18 => ?_) (fun h18 => absurd h18 h31)
      refine v_iload_n dX3_fail_25 rfl ?_
      refine v_putI 3 3 dX3_fail_26 f3_29 (hS'.1 _ _ rfl) (by decide) ?_
      refine v_aload_n dX3_fail_29 rfl ?_
      refine v_aload_n dX3_fail_30 rfl ?_
      refine v_getR 3 0 _ dX3_fail_31 f3_12 (hS'.1 _ _ rfl) (by decide) (by first | exact hS'.2 _ _ _ rfl | assumption) ?_
      refine v_getI 9 9 dX3_fail_34 f3_93 (hS'.1 _ _ rfl) (by decide) ?_
      rw [gI_sq _ _ (by decide), t9]
      refine v_putI 3 4 dX3_fail_37 f3_25 (hS'.1 _ _ rfl) (by decide) ?_
      refine v_vret dX3_fail_40 rfl ?_
      exact ⟨rfl, fin k hk (by omega) (if_neg h31).symm⟩
  · rw [rbl_b hb]
    refine v_aload_n dX3_fail_0 rfl ?_
    refine v_getI 3 3 dX3_fail_1 f3_29 (hS'.1 _ _ rfl) (by decide) ?_
    refine v_if_ne 40 dX3_fail_4 (by decide) (fun h4 => ?_) (fun h4 => absurd (h.bad.2 hb) h4)
    refine v_vret dX3_fail_40 rfl ?_
    exact ⟨rfl, h⟩
end CP
