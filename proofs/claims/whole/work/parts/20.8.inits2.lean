/-! ===== a new scene ===== -/
def Sme (M M' : mM) (q : Nat) : Prop := gT M' q = gT M q ∧ gI M' q = gI M q ∧ (∀ k, gJ M' q k = gJ M q k) ∧ ∀ k, gR M' q k = gR M q k
def StN (M : mM) (s : Nat) : Prop := StSh M s ∧ (∀ k, gI M s k = if k = 6 then -1 else 0) ∧ ∀ p, p < 6 → gI M (s + 4) p = -1 ∧ gI M (s + 5) p = 0
def PlN (M : mM) (p : Nat) : Prop := PlSh M p (p + 5) 0 ∧ (∀ k, gI M p k = if k = 1 then 1 else if k = 7 ∨ k = 8 then 2 else 0) ∧ (∀ k, gI M (p + 3) k = 0) ∧ ∀ k, gJ M p k = 0
theorem StN.sm {M M' : mM} {s : Nat} (h : StN M s) (e : ∀ r, s ≤ r → r ≤ s + 5 → Sme M M' r) : StN M' s := by
  have t := fun r a b => (e r a b).1
  have i := fun r a b => (e r a b).2.1
  have j := fun r a b => (e r a b).2.2.2
  unfold StN StSh at h ⊢
  rw [t s (by omega) (by omega), t (s + 1) (by omega) (by omega), t (s + 2) (by omega) (by omega), t (s + 3) (by omega) (by omega), t (s + 4) (by omega) (by omega), t (s + 5) (by omega) (by omega), j s (by omega) (by omega), j s (by omega) (by omega), j s (by omega) (by omega), j s (by omega) (by omega), j s (by omega) (by omega), i s (by omega) (by omega), i (s + 4) (by omega) (by omega), i (s + 5) (by omega) (by omega)]
  exact h
theorem PlN.sm {M M' : mM} {p : Nat} (h : PlN M p) (e : ∀ r, p ≤ r → r ≤ p + 6 → Sme M M' r) : PlN M' p := by
  have t := fun r a b => (e r a b).1
  have i := fun r a b => (e r a b).2.1
  have j := fun r a b => (e r a b).2.2.2
  obtain ⟨h1, h2, h3, h4⟩ := h
  refine ⟨?_, by rw [i p (by omega) (by omega)]; exact h2, by rw [i (p + 3) (by omega) (by omega)]; exact h3, fun k => by rw [(e p (by omega) (by omega)).2.2.1 k]; exact h4 k⟩
  unfold PlSh at h1 ⊢
  rw [t p (by omega) (by omega), t (p + 1) (by omega) (by omega), t (p + 2) (by omega) (by omega), t (p + 3) (by omega) (by omega), t (p + 4) (by omega) (by omega), t (p + 6) (by omega) (by omega), t (p + 5) (by omega) (by omega), j p (by omega) (by omega), j p (by omega) (by omega), j p (by omega) (by omega), j p (by omega) (by omega), j p (by omega) (by omega), j p (by omega) (by omega)]
  exact h1
theorem Old.sme {z q : Nat} {M M' : mM} (h : Old z M M') (hq : q < z) : Sme M M' q := h q hq
theorem iniP_t5 (M : mM) : gT (iniP (nw M (.inl 4)) (gz M)) (gz M + 5) = .inr (0, 0) := ((nw_To (show gz M + 5 ≠ gz M + 6 by omega)).trans (nw_Tz (show gz M + 5 = gz M + 5 by omega)))
theorem iniP_R14 (M : mM) : gR (iniP (nw M (.inl 4)) (gz M)) (gz M) 14 = some (gz M + 5) := by
  rw [iniP, gR_rn (by show gz M ≠ gz M + 6; omega) (Or.inr (by decide)), gR_rs]
  rfl
theorem iniP_N (M : mM) : PlN (iniP (nw M (.inl 4)) (gz M)) (gz M) ∧ Old (gz M) M (iniP (nw M (.inl 4)) (gz M)) := by
  obtain ⟨iz, itl, itp, it1, it2, it3, it4, it6⟩ := iniP_T M
  exact ⟨⟨⟨itp, it1, it2, it3, it4, it6, iniP_R10 M, iniP_R11 M, iniP_R12 M, iniP_R13 M, iniP_R15 M, iniP_R14 M, iniP_t5 M, by decide⟩, iniP_Ip M, iniP_I3 M, iniP_Jp M⟩, fun q hq => ⟨itl q hq, iniP_Il M hq, fun k => iniP_Jl M hq, fun k => iniP_Rl M hq⟩⟩
/-- a scene just made at q: its cells up to the i-th kept state -/
def NwC (M M' : mM) (q i : Nat) : Prop := gz M' = q + 15 + 6 * i ∧ Old q M M' ∧ (gT M' q = .inl 6 ∧ gR M' q 0 = some (q + 1) ∧ gR M' q 1 = some (q + 8) ∧ gR M' q 2 = some (q + 14) ∧ gI M' q = gI M q) ∧ gT M' (q + 14) = .inr (5, 10) ∧ PlN M' (q + 1) ∧ StN M' (q + 8) ∧ ∀ j, j < i → gR M' (q + 14) j = some (q + 15 + 6 * j) ∧ StN M' (q + 15 + 6 * j)
theorem NwC.sc {M M' : mM} {q : Nat} (h : NwC M M' q 10) : ScSh M' q := ⟨h.2.2.1.1, h.2.2.1.2.2.1, h.2.2.1.2.2.2.1, h.2.2.2.1, h.2.2.2.2.2.1.1, fun i hi => ⟨(h.2.2.2.2.2.2 i hi).1, (h.2.2.2.2.2.2 i hi).2.1⟩⟩
theorem NwS.n {M M' : mM} {s : Nat} (h : NwS M M' s) (h0 : ∀ k, gI M s k = 0) : StN M' s := ⟨h.2.2.1, fun k => by rw [h.2.2.2.1 k, h0 k], h.2.2.2.2⟩
section IC
variable (G : mG) (M : mM)
theorem l6_init {q : Nat} {kc ks : Nat} : ∀ r i M', i + r = 10 → NwC M M' q i → 6 * r ≤ kc → 63 * r ≤ ks → V G Y6_init 4 kc ks (Rs none (fun M' => NwC M M' q 10)) NX 37 [some (.ref q), some (.int (nI i))] [] M' := by
  intro r
  induction r generalizing kc ks with
  | zero =>
    intro i M' hi h hk hs
    obtain rfl : i = 10 := by omega
    refine v_iload_n dX6_init_37 rfl ?_
    refine v_bipush 10 dX6_init_38 (by decide) ?_
    refine v_icmp_ge 62 dX6_init_40 (by decide) (fun h40 => ?_) (fun h40 => absurd (by decide) h40)
    refine v_vret dX6_init_62 rfl ?_
    exact ⟨rfl, h⟩
  | succ r ih =>
    intro i M' hi h hk hs
    obtain ⟨h1, h2, ⟨h3, h4, h5, h6, h7⟩, h8, h9, h10, h11⟩ := id h
    refine v_iload_n dX6_init_37 rfl ?_
    refine v_bipush 10 dX6_init_38 (by decide) ?_
    refine v_icmp_ge 62 dX6_init_40 (by decide) (fun h40 => absurd ((nI_leI (a := 10) (by omega) (by omega)).mp h40) (by omega)) (fun h40 => ?_)
    refine v_aload_n dX6_init_43 rfl ?_
    refine v_getR 6 2 _ dX6_init_44 f6_25 h3 (by decide) h6 ?_
    refine v_iload_n dX6_init_47 rfl ?_
    skip
    refine V.up (kc := 6 * r + 5 + 1) (ks := 63 * r + 54 + 9) ?_ (by omega) (by omega)
    refine v_new (kc := 6 * r + 5) (ks := 63 * r + 54) 7 dX6_init_48 (by decide) ⟨c6_18, I_7, N_7⟩ ?_
    have hT : gT (nw M' (.inl 7)) (gz M') = .inl 7 := nw_T _ _
    have hi7 := c7_init G (nw M' (.inl 7)) hT rfl
    refine v_dup dX6_init_51 rfl ?_
    refine v_scI [] (hi7) k7_init dX6_init_52 l6_20 rfl (Nat.le_of_ble_eq_true rfl) (Nat.le_of_ble_eq_true rfl) ?_
    intro M2 hM2
    skip
    have hn := hM2.n (fun k => nw_Iz rfl)
    have ho : Old (gz M') M' M2 := (Old.nw (Nat.le_refl _) _).tr hM2.2.1 (Nat.le_refl _)
    have e14 := ho (q + 14) (by omega)
    have t2 : gT M2 (q + 14) = .inr (5, 10) := e14.1.trans h8
    obtain ⟨M3, e3⟩ : ∃ M3, M3 = sR M2 (q + 14) i (some (gz M')) := ⟨_, rfl⟩
    have s3 : ∀ r, r ≠ q + 14 → Sme M2 M3 r := fun r hr => by
      rw [e3]
      exact ⟨rfl, rfl, fun _ => rfl, fun k => gR_sq _ _ hr⟩
    have s23 : ∀ r, r < gz M' → r ≠ q + 14 → Sme M' M3 r := fun r a b => by
      obtain ⟨a1, a2, a3, a4⟩ := ho r a
      obtain ⟨b1, b2, b3, b4⟩ := s3 r b
      exact ⟨b1.trans a1, b2.trans a2, fun k => (b3 k).trans (a3 k), fun k => (b4 k).trans (a4 k)⟩
    have sq := s23 q (by omega) (by omega)
    have nxt : NwC M M3 q (i + 1) := by
      refine ⟨by rw [e3]; show gz M2 = _; rw [hM2.1]; omega, h2.tr (z' := q) (fun r hr => s23 r (by omega) (by omega)) (Nat.le_refl _), ⟨sq.1.trans h3, (sq.2.2.2 0).trans h4, (sq.2.2.2 1).trans h5, (sq.2.2.2 2).trans h6, sq.2.1.trans h7⟩, by rw [e3]; exact t2, h9.sm (fun r a b => s23 r (by omega) (by omega)), h10.sm (fun r a b => s23 r (by omega) (by omega)), fun j hj => ?_⟩
      by_cases e : j = i
      · subst e
        rw [e3]
        refine ⟨by rw [gR_ss, h1], ?_⟩
        rw [← e3, ← h1]
        exact hn.sm (fun r a b => s3 r (by omega))
      · obtain ⟨a, b⟩ := h11 j (by omega)
        refine ⟨?_, b.sm (fun r a b => s23 r (by omega) (by omega))⟩
        rw [e3, gR_sk _ _ e]
        exact (e14.2.2.2 j).trans a
    refine v_aast dX6_init_55 t2 (by decide) (vp_in_nI (by omega) (by decide)) (hM2.2.2.1.1) ?_
    rw [nI_clamp (by omega), ← e3]
    refine v_iinc 1 dX6_init_56 rfl (by decide) rfl (by decide) ?_
    refine v_goto 37 dX6_init_59 (by decide) ?_
    (rw [nI_1]; exact ih (i + 1) M3 (by omega) nxt (by omega) (by omega))
theorem c6_init {q : Nat} (hT : gT M q = .inl 6) (hz : gz M = q + 1) : Ct G Y6_init 4 74 825 [.ref q] M (Rs none (fun M' => NwC M M' q 10)) NX := by
  refine Ct.of k6_init.1 (Nat.le_of_ble_eq_true rfl) ?_
  obtain ⟨hp1, hp2⟩ := iniP_N M
  have hpz := (iniP_T M).1
  refine v_aload_n dX6_init_0 rfl ?_
  refine v_objInit dX6_init_1 ⟨l6_3, oI⟩ (Nat.le_of_ble_eq_true rfl) (Nat.le_of_ble_eq_true rfl) ?_
  refine v_aload_n dX6_init_4 rfl ?_
  skip
  refine v_new (kc := 73) (ks := 808) 4 dX6_init_5 (by decide) ⟨c6_9, I_4, N_4⟩ ?_
  have tq : gT (iniP (nw M (.inl 4)) (gz M)) q = .inl 6 := (hp2 q (by omega)).1.trans hT
  refine v_dup dX6_init_8 rfl ?_
  refine v_cIN [] (c4_init G (nw M (.inl 4)) (p := gz M) (nw_T _ _) (Nat.lt_succ_self _)) k4_init dX6_init_9 n6_11 rfl (Nat.le_of_ble_eq_true rfl) (Nat.le_of_ble_eq_true rfl) ?_
  refine v_putR 6 0 dX6_init_12 f6_12 tq (by decide) (by decide) ?_
  refine v_aload_n dX6_init_15 rfl ?_
  skip
  obtain ⟨M1, e1⟩ : ∃ M1, M1 = iniP (nw M (.inl 4)) (gz M) := ⟨_, rfl⟩
  obtain ⟨M2, e2⟩ : ∃ M2, M2 = sR M1 q 0 (some (gz M)) := ⟨_, rfl⟩
  rw [← e1] at hp1 hp2 hpz tq ⊢
  rw [← e2]
  clear e1
  have s2 : ∀ r, r ≠ q → Sme M1 M2 r := fun r hr => by
    rw [e2]
    exact ⟨rfl, rfl, fun _ => rfl, fun k => gR_sq _ _ hr⟩
  have z2 : gz M2 = q + 8 := by rw [e2]; show gz M1 = _; omega
  refine v_new (kc := 66) (ks := 694) 7 dX6_init_16 (by decide) ⟨c6_18, I_7, N_7⟩ ?_
  have hi7 := c7_init G (nw M2 (.inl 7)) (s := gz M2) (nw_T _ _) rfl
  refine v_dup dX6_init_19 rfl ?_
  refine v_scI [] (hi7) k7_init dX6_init_20 l6_20 rfl (Nat.le_of_ble_eq_true rfl) (Nat.le_of_ble_eq_true rfl) ?_
  intro M3 hM3
  skip
  have hn3 := hM3.n (fun k => nw_Iz rfl)
  have o3 : Old (gz M2) M2 M3 := (Old.nw (Nat.le_refl _) _).tr hM3.2.1 (Nat.le_refl _)
  have tq2 : gT M2 q = .inl 6 := by rw [e2]; exact tq
  have tq3 : gT M3 q = .inl 6 := (o3 q (by omega)).1.trans tq2
  refine v_putR 6 1 dX6_init_23 f6_21 tq3 (by decide) (by decide) ?_
  refine v_aload_n dX6_init_26 rfl ?_
  refine v_bipush 10 dX6_init_27 (by decide) ?_
  skip
  obtain ⟨M4, e4⟩ : ∃ M4, M4 = sR M3 q 1 (some (gz M2)) := ⟨_, rfl⟩
  rw [← e4]
  have s4 : ∀ r, r ≠ q → Sme M3 M4 r := fun r hr => by
    rw [e4]
    exact ⟨rfl, rfl, fun _ => rfl, fun k => gR_sq _ _ hr⟩
  have z4 : gz M4 = q + 14 := by rw [e4]; show gz M3 = _; rw [hM3.1]; omega
  have tq4 : gT M4 q = .inl 6 := by rw [e4]; exact tq3
  refine V.up (kc := 60 + 1) (ks := 630 + 10) ?_ (by omega) (by omega)
  refine v_anew (kc := 60) (ks := 630) (t := 5) (N := 10) dX6_init_29 (by decide) c6_18 ⟨by decide, rfl, by decide⟩ ?_
  refine v_putR 6 2 dX6_init_32 f6_25 ((nw_To (by omega)).trans tq4) (by decide) (by decide) ?_
  refine v_iconst 0 dX6_init_35 (by decide) ?_
  refine v_istore_n dX6_init_36 rfl (by decide) ?_
  skip
  obtain ⟨M5, e5⟩ : ∃ M5, M5 = nw M4 (.inr (5, 10)) := ⟨_, rfl⟩
  obtain ⟨M6, e6⟩ : ∃ M6, M6 = sR M5 q 2 (some (gz M4)) := ⟨_, rfl⟩
  rw [← e5, ← e6]
  have o5 : Old (gz M4) M4 M5 := by rw [e5]; exact Old.nw (Nat.le_refl _) _
  have s6 : ∀ r, r ≠ q → Sme M5 M6 r := fun r hr => by
    rw [e6]
    exact ⟨rfl, rfl, fun _ => rfl, fun k => gR_sq _ _ hr⟩
  have sm : ∀ r, r < q + 14 → r ≠ q → Sme M3 M6 r := fun r a b => by
    obtain ⟨a1, a2, a3, a4⟩ := s4 r b
    obtain ⟨b1, b2, b3, b4⟩ := o5 r (by omega)
    obtain ⟨c1, c2, c3, c4⟩ := s6 r b
    exact ⟨c1.trans (b1.trans a1), c2.trans (b2.trans a2), fun k => (c3 k).trans ((b3 k).trans (a3 k)), fun k => (c4 k).trans ((b4 k).trans (a4 k))⟩
  have sm1 : ∀ r, r < q + 8 → r ≠ q → Sme M1 M6 r := fun r a b => by
    obtain ⟨a1, a2, a3, a4⟩ := s2 r b
    obtain ⟨b1, b2, b3, b4⟩ := o3 r (by omega)
    obtain ⟨c1, c2, c3, c4⟩ := sm r (by omega) b
    exact ⟨c1.trans (b1.trans a1), c2.trans (b2.trans a2), fun k => (c3 k).trans ((b3 k).trans (a3 k)), fun k => (c4 k).trans ((b4 k).trans (a4 k))⟩
  have rq : ∀ k, gR M3 q k = gR M2 q k := (o3 q (by omega)).2.2.2
  have rq5 : ∀ k, gR M5 q k = gR M4 q k := (o5 q (by omega)).2.2.2
  have hN : NwC M M6 q 0 := by
    refine ⟨by rw [e6, e5]; show gz M4 + 1 = _; omega, fun r hr => ?_, ⟨?_, ?_, ?_, ?_, ?_⟩, ?_, ?_, ?_, fun j hj => absurd hj (Nat.not_lt_zero _)⟩
    · obtain ⟨a1, a2, a3, a4⟩ := hp2 r (by omega)
      obtain ⟨b1, b2, b3, b4⟩ := sm1 r (by omega) (by omega)
      exact ⟨b1.trans a1, b2.trans a2, fun k => (b3 k).trans (a3 k), fun k => (b4 k).trans (a4 k)⟩
    · rw [e6]; exact ((o5 q (by omega)).1).trans tq4
    · rw [e6, gR_sk _ _ (by decide), rq5, e4, gR_sk _ _ (by decide), rq, e2, gR_ss, hz]
    · rw [e6, gR_sk _ _ (by decide), rq5, e4, gR_ss, z2]
    · rw [e6, gR_ss, z4]
    · rw [e6, gI_sR, (o5 q (by omega)).2.1, e4, gI_sR, (o3 q (by omega)).2.1, e2, gI_sR, (hp2 q (by omega)).2.1]
    · rw [e6, gT_sR, e5, ← z4]; exact nw_T _ _
    · rw [← hz]
      exact hp1.sm (fun r a b => sm1 r (by omega) (by omega))
    · rw [← z2]
      exact hn3.sm (fun r a b => sm r (by omega) (by omega))
  exact l6_init G M 10 0 M6 (by omega) hN (by omega) (by omega)
end IC
