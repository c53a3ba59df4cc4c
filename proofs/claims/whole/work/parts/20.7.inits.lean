/-! ===== new states, new scenes ===== -/
def iniS (M : mM) (s : Nat) : mM := flI (sI (sR (nw (sR (nw (sR (nw (sR (nw (sR (nw M (.inr (0, 14))) s 0 (some (gz M))) (.inr (0, 14))) s 1 (some (gz M + 1))) (.inr (0, 14))) s 2 (some (gz M + 2))) (.inr (0, 6))) s 3 (some (gz M + 3))) (.inr (0, 6))) s 4 (some (gz M + 4))) s 6 (-1)) (gz M + 3) 6 (-1)
/-- what older cells hold stays -/
def Old (z : Nat) (M M' : mM) : Prop := ∀ q, q < z → gT M' q = gT M q ∧ gI M' q = gI M q ∧ (∀ k, gJ M' q k = gJ M q k) ∧ ∀ k, gR M' q k = gR M q k
theorem Old.rf {z : Nat} {M : mM} : Old z M M := fun _ _ => ⟨rfl, rfl, fun _ => rfl, fun _ => rfl⟩
theorem Old.tr {z z' : Nat} {M M' M2 : mM} (h : Old z M M') (g : Old z' M' M2) (hz : z ≤ z') : Old z M M2 := fun q hq => by
  obtain ⟨a1, a2, a3, a4⟩ := h q hq
  obtain ⟨b1, b2, b3, b4⟩ := g q (by omega)
  exact ⟨b1.trans a1, b2.trans a2, fun k => (b3 k).trans (a3 k), fun k => (b4 k).trans (a4 k)⟩
theorem Old.nw {z : Nat} {M : mM} (h : z ≤ gz M) (sh : Nat ⊕ (Nat × Nat)) : Old z M (nw M sh) := fun q hq => ⟨nw_To (by omega), funext (fun k => nw_Io (by omega)), fun k => nw_Jo (by omega), fun k => nw_Ro (by omega)⟩
theorem Old.sr {z : Nat} {M : mM} {p k : Nat} (v : Option Nat) (h : z ≤ p) : Old z M (sR M p k v) := fun q hq => ⟨rfl, rfl, fun _ => rfl, fun j => gR_sq _ _ (by omega)⟩
theorem Old.si {z : Nat} {M : mM} {p k : Nat} (v : Int32) (h : z ≤ p) : Old z M (sI M p k v) := fun q hq => ⟨rfl, gI_sr _ _ (by omega), fun _ => rfl, fun j => rfl⟩
theorem Old.fl {z : Nat} {M : mM} {p n : Nat} (v : Int32) (h : z ≤ p) : Old z M (flI M p n v) := fun q hq => ⟨rfl, funext (fun k => flI_ob _ _ (by omega)), fun _ => rfl, fun j => rfl⟩
/-- a state just made -/
def NwS (M M' : mM) (s : Nat) : Prop := gz M' = s + 6 ∧ Old s M M' ∧ StSh M' s ∧ (∀ k, gI M' s k = if k = 6 then -1 else gI M s k) ∧ ∀ p, p < 6 → gI M' (s + 4) p = -1 ∧ gI M' (s + 5) p = 0
theorem iniS_ok {M : mM} {s : Nat} (hT : gT M s = .inl 7) (hz : gz M = s + 1) : NwS M (iniS M s) s := by
  obtain ⟨A1, h1⟩ : ∃ A1, A1 = nw M (.inr (0, 14)) := ⟨_, rfl⟩
  obtain ⟨B1, k1⟩ : ∃ B1, B1 = sR A1 s 0 (some (gz M)) := ⟨_, rfl⟩
  obtain ⟨A2, h2⟩ : ∃ A2, A2 = nw B1 (.inr (0, 14)) := ⟨_, rfl⟩
  obtain ⟨B2, k2⟩ : ∃ B2, B2 = sR A2 s 1 (some (gz M + 1)) := ⟨_, rfl⟩
  obtain ⟨A3, h3⟩ : ∃ A3, A3 = nw B2 (.inr (0, 14)) := ⟨_, rfl⟩
  obtain ⟨B3, k3⟩ : ∃ B3, B3 = sR A3 s 2 (some (gz M + 2)) := ⟨_, rfl⟩
  obtain ⟨A4, h4⟩ : ∃ A4, A4 = nw B3 (.inr (0, 6)) := ⟨_, rfl⟩
  obtain ⟨B4, k4⟩ : ∃ B4, B4 = sR A4 s 3 (some (gz M + 3)) := ⟨_, rfl⟩
  obtain ⟨A5, h5⟩ : ∃ A5, A5 = nw B4 (.inr (0, 6)) := ⟨_, rfl⟩
  obtain ⟨B5, k5⟩ : ∃ B5, B5 = sR A5 s 4 (some (gz M + 4)) := ⟨_, rfl⟩
  obtain ⟨C, c1⟩ : ∃ C, C = sI B5 s 6 (-1) := ⟨_, rfl⟩
  have e : iniS M s = flI C (s + 4) 6 (-1) := by
    rw [c1, k5, h5, k4, h4, k3, h3, k2, h2, k1, h1, iniS, hz]
  rw [e]
  have z1 : gz B1 = s + 2 := by rw [k1, h1]; show gz M + 1 = _; omega
  have z2 : gz B2 = s + 3 := by rw [k2, h2]; show gz B1 + 1 = _; omega
  have z3 : gz B3 = s + 4 := by rw [k3, h3]; show gz B2 + 1 = _; omega
  have z4 : gz B4 = s + 5 := by rw [k4, h4]; show gz B3 + 1 = _; omega
  have z5 : gz B5 = s + 6 := by rw [k5, h5]; show gz B4 + 1 = _; omega
  have o1 : Old s M B1 := by rw [k1, h1]; exact (Old.nw (by omega) _).tr (Old.sr _ (Nat.le_refl _)) (Nat.le_refl _)
  have o2 : Old s B1 B2 := by rw [k2, h2]; exact (Old.nw (by omega) _).tr (Old.sr _ (Nat.le_refl _)) (Nat.le_refl _)
  have o3 : Old s B2 B3 := by rw [k3, h3]; exact (Old.nw (by omega) _).tr (Old.sr _ (Nat.le_refl _)) (Nat.le_refl _)
  have o4 : Old s B3 B4 := by rw [k4, h4]; exact (Old.nw (by omega) _).tr (Old.sr _ (Nat.le_refl _)) (Nat.le_refl _)
  have o5 : Old s B4 B5 := by rw [k5, h5]; exact (Old.nw (by omega) _).tr (Old.sr _ (Nat.le_refl _)) (Nat.le_refl _)
  have o6 : Old s B5 C := by rw [c1]; exact Old.si _ (Nat.le_refl _)
  have st : ∀ {X Y : mM} {sh : Nat ⊕ (Nat × Nat)} {k : Nat} {v : Option Nat}, Y = sR (nw X sh) s k v → ∀ q, q < gz X → gT Y q = gT X q ∧ (∀ j, gI Y q j = gI X q j) ∧ ∀ j, ¬ (q = s ∧ j = k) → gR Y q j = gR X q j := fun {X Y sh k v} hy q hq => by
    rw [hy]
    refine ⟨nw_To (sh := sh) (by omega), fun j => gI_rn (by omega), fun j hj => ?_⟩
    rw [gR_sR]
    unfold up2
    rw [if_neg hj]
    exact nw_Ro (by omega)
  have s1 := st (k1.trans (by rw [h1]))
  have s2 := st (k2.trans (by rw [h2]))
  have s3 := st (k3.trans (by rw [h3]))
  have s4 := st (k4.trans (by rw [h4]))
  have s5 := st (k5.trans (by rw [h5]))
  have new : ∀ {X Y : mM} {sh : Nat ⊕ (Nat × Nat)} {k : Nat} {v : Option Nat}, Y = sR (nw X sh) s k v → gT Y (gz X) = sh ∧ (∀ j, gI Y (gz X) j = 0) ∧ gR Y s k = v := fun {X Y sh k v} hy => by
    rw [hy]
    exact ⟨nw_T X sh, fun j => gI_rz rfl, gR_ss _ _ _ _⟩
  have n1 := new (k1.trans (by rw [h1]))
  have n2 := new (k2.trans (by rw [h2]))
  have n3 := new (k3.trans (by rw [h3]))
  have n4 := new (k4.trans (by rw [h4]))
  have n5 := new (k5.trans (by rw [h5]))
  rw [hz] at n1 s1
  rw [z1] at n2 s2
  rw [z2] at n3 s3
  rw [z3] at n4 s4
  rw [z4] at n5 s5
  have tC : gT (flI C (s + 4) 6 (-1)) = gT B5 := by rw [c1]; rfl
  have rC : gR (flI C (s + 4) 6 (-1)) = gR B5 := by rw [c1]; rfl
  refine ⟨by rw [c1]; exact z5, (((((o1.tr o2 (Nat.le_refl _)).tr o3 (Nat.le_refl _)).tr o4 (Nat.le_refl _)).tr o5 (Nat.le_refl _)).tr o6 (Nat.le_refl _)).tr (Old.fl _ (by omega)) (Nat.le_refl _), ?_, fun k => ?_, fun p hp => ⟨flI_in _ _ hp, ?_⟩⟩
  · unfold StSh
    rw [tC, rC]
    refine ⟨?_, ?_, ?_, ?_, ?_, ?_, ?_, ?_, ?_, ?_, ?_⟩
    · rw [(s5 s (by omega)).1, (s4 s (by omega)).1, (s3 s (by omega)).1, (s2 s (by omega)).1, (s1 s (by omega)).1]; exact hT
    · rw [(s5 _ (by omega)).1, (s4 _ (by omega)).1, (s3 _ (by omega)).1, (s2 _ (by omega)).1]; exact n1.1
    · rw [(s5 _ (by omega)).1, (s4 _ (by omega)).1, (s3 _ (by omega)).1]; exact n2.1
    · rw [(s5 _ (by omega)).1, (s4 _ (by omega)).1]; exact n3.1
    · rw [(s5 _ (by omega)).1]; exact n4.1
    · exact n5.1
    · rw [(s5 _ (by omega)).2.2 _ (by omega), (s4 _ (by omega)).2.2 _ (by omega), (s3 _ (by omega)).2.2 _ (by omega), (s2 _ (by omega)).2.2 _ (by omega), n1.2.2]
    · rw [(s5 _ (by omega)).2.2 _ (by omega), (s4 _ (by omega)).2.2 _ (by omega), (s3 _ (by omega)).2.2 _ (by omega), n2.2.2, hz]
    · rw [(s5 _ (by omega)).2.2 _ (by omega), (s4 _ (by omega)).2.2 _ (by omega), n3.2.2, hz]
    · rw [(s5 _ (by omega)).2.2 _ (by omega), n4.2.2, hz]
    · rw [n5.2.2, hz]
  · rw [flI_ob _ _ (by omega), c1]
    by_cases hk : k = 6
    · rw [hk, gI_ss, if_pos rfl]
    · rw [gI_sk _ _ hk, if_neg hk, (s5 s (by omega)).2.1, (s4 s (by omega)).2.1, (s3 s (by omega)).2.1, (s2 s (by omega)).2.1, (s1 s (by omega)).2.1]
  · rw [flI_ob _ _ (by omega), c1, gI_sq _ _ (by omega)]
    exact n5.2.1 p
section IS
variable (G : mG) (M : mM)
theorem c7_init {s : Nat} (hT : gT M s = .inl 7) (hz : gz M = s + 1) : Ct G Y7_init 2 5 54 [.ref s] M (Rs none (fun M' => NwS M M' s)) NX := by
  have hS := iniS_ok hT hz
  have tt : ∀ {X : mM} {sh : Nat ⊕ (Nat × Nat)}, s < gz X → gT (nw X sh) s = gT X s := fun hx => nw_To (by omega)
  refine Ct.of k7_init.1 (Nat.le_of_ble_eq_true rfl) ?_
  refine v_aload_n dX7_init_0 rfl ?_
  refine v_objInit dX7_init_1 ⟨l7_3, oI⟩ (Nat.le_of_ble_eq_true rfl) (Nat.le_of_ble_eq_true rfl) ?_
  refine v_aload_n dX7_init_4 rfl ?_
  refine v_bipush 14 dX7_init_5 (by decide) ?_
  skip
  refine v_newa (t := 0) (N := 14) dX7_init_7 ⟨rfl, by decide⟩ A_0 ⟨by decide, rfl, by decide⟩ ?_
  refine v_putR 7 0 dX7_init_9 f7_9 ((tt (by omega)).trans hT) (by decide) (by decide) ?_
  refine v_aload_n dX7_init_12 rfl ?_
  refine v_bipush 14 dX7_init_13 (by decide) ?_
  skip
  obtain ⟨M1, e1⟩ : ∃ M1, M1 = sR (nw M (.inr (0, 14))) s 0 (some (gz M)) := ⟨_, rfl⟩
  rw [← e1]
  have g1 : gz M1 = s + 2 ∧ gT M1 s = .inl 7 := by rw [e1]; exact ⟨by show gz M + 1 = _; omega, (tt (by omega)).trans hT⟩
  refine v_newa (t := 0) (N := 14) dX7_init_15 ⟨rfl, by decide⟩ A_0 ⟨by decide, rfl, by decide⟩ ?_
  refine v_putR 7 1 dX7_init_17 f7_15 ((tt (by omega)).trans g1.2) (by decide) (by decide) ?_
  refine v_aload_n dX7_init_20 rfl ?_
  refine v_bipush 14 dX7_init_21 (by decide) ?_
  skip
  obtain ⟨M2, e2⟩ : ∃ M2, M2 = sR (nw M1 (.inr (0, 14))) s 1 (some (gz M1)) := ⟨_, rfl⟩
  rw [← e2]
  have g2 : gz M2 = s + 3 ∧ gT M2 s = .inl 7 := by rw [e2]; exact ⟨by show gz M1 + 1 = _; omega, (tt (by omega)).trans g1.2⟩
  refine v_newa (t := 0) (N := 14) dX7_init_23 ⟨rfl, by decide⟩ A_0 ⟨by decide, rfl, by decide⟩ ?_
  refine v_putR 7 2 dX7_init_25 f7_18 ((tt (by omega)).trans g2.2) (by decide) (by decide) ?_
  refine v_aload_n dX7_init_28 rfl ?_
  refine v_bipush 6 dX7_init_29 (by decide) ?_
  skip
  obtain ⟨M3, e3⟩ : ∃ M3, M3 = sR (nw M2 (.inr (0, 14))) s 2 (some (gz M2)) := ⟨_, rfl⟩
  rw [← e3]
  have g3 : gz M3 = s + 4 ∧ gT M3 s = .inl 7 := by rw [e3]; exact ⟨by show gz M2 + 1 = _; omega, (tt (by omega)).trans g2.2⟩
  refine v_newa (t := 0) (N := 6) dX7_init_31 ⟨rfl, by decide⟩ A_0 ⟨by decide, rfl, by decide⟩ ?_
  refine v_putR 7 3 dX7_init_33 f7_21 ((tt (by omega)).trans g3.2) (by decide) (by decide) ?_
  refine v_aload_n dX7_init_36 rfl ?_
  refine v_bipush 6 dX7_init_37 (by decide) ?_
  skip
  obtain ⟨M4, e4⟩ : ∃ M4, M4 = sR (nw M3 (.inr (0, 6))) s 3 (some (gz M3)) := ⟨_, rfl⟩
  rw [← e4]
  have g4 : gz M4 = s + 5 ∧ gT M4 s = .inl 7 ∧ gR M4 s 3 = some (s + 4) ∧ gT M4 (s + 4) = .inr (0, 6) := by
    rw [e4]
    exact ⟨by show gz M3 + 1 = _; omega, (tt (by omega)).trans g3.2, by rw [gR_ss, g3.1], by rw [← g3.1]; exact nw_T _ _⟩
  refine v_newa (t := 0) (N := 6) dX7_init_39 ⟨rfl, by decide⟩ A_0 ⟨by decide, rfl, by decide⟩ ?_
  refine v_putR 7 4 dX7_init_41 f7_24 ((tt (by omega)).trans g4.2.1) (by decide) (by decide) ?_
  skip
  obtain ⟨M5, e5⟩ : ∃ M5, M5 = sR (nw M4 (.inr (0, 6))) s 4 (some (gz M4)) := ⟨_, rfl⟩
  rw [← e5]
  have g5 : gT M5 s = .inl 7 ∧ gR M5 s 3 = some (s + 4) ∧ gT M5 (s + 4) = .inr (0, 6) := by
    rw [e5]
    refine ⟨(tt (by omega)).trans g4.2.1, ?_, (nw_To (by omega)).trans g4.2.2.2⟩
    rw [gR_sk _ _ (by decide)]
    exact (nw_Ro (by omega)).trans g4.2.2.1
  have eE : iniS M s = flI (sI M5 s 6 (-1)) (s + 4) 6 (-1) := by
    rw [e5, g4.1, e4, g3.1, e3, g2.1, e2, g1.1, e1, iniS, hz]
  rw [eE] at hS
  refine v_aload_n dX7_init_44 rfl ?_
  refine v_iconst (-1) dX7_init_45 (by decide) ?_
  refine v_putI 7 6 dX7_init_46 f7_27 g5.1 (by decide) ?_
  refine v_aload_n dX7_init_49 rfl ?_
  refine v_getR 7 3 _ dX7_init_50 f7_21 g5.1 (by decide) g5.2.1 ?_
  refine v_iconst (-1) dX7_init_53 (by decide) ?_
  refine v_cSv [_, _] (cJ_fill G (sI M5 s 6 (-1)) (-1) g5.2.2 (by decide)) kJ_fill dX7_init_54 l7_31 rfl (Nat.le_of_ble_eq_true rfl) (Nat.le_of_ble_eq_true rfl) ?_
  refine v_vret dX7_init_57 rfl ?_
  exact ⟨rfl, hS⟩
end IS
