/-! ===== the class's parser: where it starts ===== -/
theorem bgK_z (K : Nat → Int32) {j : Nat} (hj : j < 2120) (h : ¬ (j = 1 ∨ j = 5 ∨ j = 6 ∨ (96 ≤ j ∧ j < 103))) : bgK K j = 0 ∧ kn (bgK K) j = 0 := by
  have e : bgK K j = 0 := by
    unfold bgK iniK
    rw [if_pos hj, if_neg (by omega), if_neg (by omega), if_neg (by omega)]
  exact ⟨e, by rw [kn, e]; rfl⟩
theorem CS_start {p N : Nat} {Z : (Nat → Nat) × Nat} {M : mM} (K : Nat → Int32) (hf : gI M 102 3 = 0) (hpl : gI M 102 4 = -1) (hc : gI M 102 1 = 0) (hp : ∀ k, gI M p k = if k = 1 then 1 else if k = 7 ∨ k = 8 then 2 else 0) (h2 : ∀ k, gI M (p + 2) k = 0) (h3 : ∀ k, gI M (p + 3) k = 0) (hj : gJ M p 16 = 0) (ht : TS M Z N 0) : CS p N Z M false 0 0 (0, 0, 0, bgK K) M := by
  have z := fun (j : Nat) (hj : j < 2120) (h : ¬ (j = 1 ∨ j = 5 ∨ j = 6 ∨ (96 ≤ j ∧ j < 103))) => bgK_z K hj h
  have k1 := bgK_k (K := K) (j := 1) (v := 1) (by decide) (by decide) (by decide)
  have k5 := bgK_k (K := K) (j := 5) (v := 2) (by decide) (by decide) (by decide)
  have k6 := bgK_k (K := K) (j := 6) (v := 2) (by decide) (by decide) (by decide)
  refine ⟨Sq.rf, ⟨hf, Nat.zero_le _⟩, hpl.trans (if_pos rfl).symm, ?_, ⟨0, ?_, by omega, fun q => by cases q⟩, fun _ => ⟨ht, ?_, ?_⟩⟩
  · show gI M p 1 = nI (kn (bgK K) 1)
    rw [k1.2, hp 1]; rfl
  · rw [hp 4]; rfl
  · show CG M p (bgK K)
    unfold CG
    rw [(z 2 (by decide) (by decide)).2, (z 4 (by decide) (by decide)).2, (z 7 (by decide) (by decide)).2, (z 0 (by decide) (by decide)).1, (z 2 (by decide) (by decide)).1, (z 93 (by decide) (by decide)).1, (z 3 (by decide) (by decide)).1, (z 119 (by decide) (by decide)).1, (z 4 (by decide) (by decide)).1, k5.1, k6.1, (z 7 (by decide) (by decide)).1, hp, hp, hp, hp, hp, hp, hp, hp]
    refine ⟨⟨rfl, rfl, rfl, rfl, rfl, rfl, rfl, rfl⟩, hc, fun c h => absurd h (Nat.not_lt_zero _), fun w hw => ?_, fun w hw => ?_, fun k h => absurd h (Nat.not_lt_zero _), fun m v hm hv => ?_⟩
    · rw [h2, (z (109 + w) (by omega) (by omega)).1]
    · rw [h3, (z (144 + w) (by omega) (by omega)).1]
    · have hl : ltB M p (10 * m + v) = false := by
        rw [ltB_bit (by omega), hj]
        exact BitVec.getLsbD_zero
      rw [hl]
      exact ⟨rfl, by rw [if_neg (by decide)]; rfl⟩
  · show RB M p false 0 0 (bgK K)
    unfold RB
    rw [(z 7 (by decide) (by decide)).2, (z 3 (by decide) (by decide)).2, hp]
    exact ⟨by rw [Nat.or_zero, rdS]; rfl, fun w h => absurd h (Nat.not_lt_zero _), fun q => by cases q⟩
theorem LJ0 (p0 : Nat) (K : Nat → Int32) : LJ (0, p0, 0, bgK K) := by
  have z := fun (j : Nat) (hj : j < 2120) (h : ¬ (j = 1 ∨ j = 5 ∨ j = 6 ∨ (96 ≤ j ∧ j < 103))) => (bgK_z K hj h).2
  unfold LJ KI
  show ((kn (bgK K) 2 ≤ 14 ∧ kn (bgK K) 3 ≤ 10 ∧ kn (bgK K) 4 ≤ 8) ∧ ∀ w, w ≤ kn (bgK K) 3 → kn (bgK K) (144 + w) ≤ kn (bgK K) 7) ∧ kn (bgK K) (144 + kn (bgK K) 3) = kn (bgK K) 7
  rw [z 2 (by decide) (by decide), z 3 (by decide) (by decide), z 4 (by decide) (by decide), z 7 (by decide) (by decide)]
  exact ⟨⟨⟨by omega, by omega, by omega⟩, fun w hw => by rw [z (144 + w) (by omega) (by omega)]; exact Nat.le_refl _⟩, z 144 (by decide) (by decide)⟩
