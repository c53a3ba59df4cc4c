/-! ===== the class's parser: readLamp ===== -/
/-- a number of K written that the plan's cells don't speak of yet -/
theorem CS.kw {p N j : Nat} {Z : (Nat → Nat) × Nat} {M0 M : mM} {b : Bool} {rb rl : Nat} {R : RSt} {v : Int32} (hp : 248 ≤ p) (h : CS p N Z M0 b rb rl R M) (hI : IV Z R) (hK : KI R.2.2.2) (hj : (9 + 6 * kn R.2.2.2 2 ≤ j ∧ j < 93) ∨ (120 + 3 * kn R.2.2.2 4 ≤ j ∧ j < 144)) : CS p N Z M0 b rb rl (rst R j v) M := by
  have hm := hI.2.2.2.2.1
  have k24 := hK.1
  have eo : ∀ i, i ≠ j → uK R.2.2.2 j v i = R.2.2.2 i := fun i hi => uK_n _ _ hi
  have ko : ∀ i, i ≠ j → kn (uK R.2.2.2 j v) i = kn R.2.2.2 i := fun i hi => kn_cg (eo i hi)
  refine CS.to hp h rfl rfl rfl Sq.rf (fun _ _ => rfl) rfl ?_ h.2.2.2.2.1 (fun _ g r => ⟨?_, ?_⟩)
  · show _ = nI (kn (uK R.2.2.2 j v) 1)
    rw [ko 1 (by omega)]
    exact h.2.2.2.1
  · show CG _ p (uK R.2.2.2 j v)
    generalize uK R.2.2.2 j v = K' at eo ko
    obtain ⟨⟨g0, g2, g3, g4, g5, g6, g7, g8⟩, gc, grow, gcost, gst, gcode, glamp⟩ := g
    unfold CG
    rw [ko 1 (by omega), ko 2 (by omega), ko 4 (by omega), ko 7 (by omega), eo 0 (by omega), eo 2 (by omega), eo 93 (by omega), eo 3 (by omega), eo 119 (by omega), eo 4 (by omega), eo 5 (by omega), eo 6 (by omega), eo 7 (by omega)]
    refine ⟨⟨g0, g2, g3, g4, g5, g6, g7, g8⟩, gc, fun c hc => ?_, fun w hw => ?_, fun w hw => ?_, fun k hk => ?_, fun m v hm' hv => ?_⟩
    · rw [grow c hc]
      exact congrArg nI (pkR_cg (b := cur R.2.2.2) (b' := cur K') (fun m hm => eo (9 + (6 * c + m)) (by omega)) _ hm.2.2).symm
    · rw [eo (109 + w) (by omega)]; exact gcost w hw
    · rw [eo (144 + w) (by omega)]; exact gst w hw
    · rw [ko (1155 + k) (by omega)]; exact gcode k hk
    · obtain ⟨e1, e2⟩ := hs_cg (K := R.2.2.2) (K' := K') (nI m) (nI v) (kn R.2.2.2 4) 0 (fun i a c => eo i (by omega))
      rw [e1, e2]; exact glamp m v hm' hv
  · show RB _ p b rb rl (uK R.2.2.2 j v)
    exact r.k hK (fun i hi => eo i (by omega))
theorem ltB_bit {M : mM} {p x : Nat} (hx : x < 60) : ltB M p x = (gJ M p 16).toBitVec.getLsbD x := by
  unfold ltB
  have := (tb_bit (x := gJ M p 16) hx).1
  cases h : (gJ M p 16).toBitVec.getLsbD x
  · rw [h] at this; exact decide_eq_false (fun z => by have := this.mp z; cases this)
  · rw [h] at this; exact decide_eq_true (this.mpr rfl)
section CM
variable (G : mG)
theorem c4_addLamp (M : mM) {p m v : Nat} {x : Int32} (hp0 : gT M p = .inl 4) (r15 : gR M p 15 = some (p + 6)) (t6 : gT M (p + 6) = .inr (0, 60)) (hm : m < 6) (hv : v ≤ 9) : Ct G Y4_addLamp 0 0 0 [.ref p, .int (nI m), .int (nI v), .int x] M (Rv none (if ltB M p (10 * m + v) = true then sI M p 6 (gI M p 6 + 1) else sI (sI (sJ M p 16 (gJ M p 16 ||| (1 : Int64) <<< ((nI (10 * m + v)).toInt64 &&& 63))) (p + 6) (10 * m + v) x) p 6 (gI M p 6 + 1))) NX := by
  have ea : nI m * 10 + nI v = nI (10 * m + v) := by rw [show nI m * 10 = nI (m * 10) from pk_mul m 10, nI_add, Nat.mul_comm]
  have hb := tb_bit (x := gJ M p 16) (b := 10 * m + v) (by omega)
  have hl := ltB_bit (M := M) (p := p) (x := 10 * m + v) (by omega)
  refine Ct.of k4_addLamp.1 (Nat.le_of_ble_eq_true rfl) ?_
  by_cases ht : ltB M p (10 * m + v) = true
  · rw [if_pos ht]
    have h1 := hb.1.mpr (hl ▸ ht)
    refine v_iload_n dX4_addLamp_0 rfl ?_
    refine v_bipush 10 dX4_addLamp_1 (by decide) ?_
    refine v_imul dX4_addLamp_3 ?_
    refine v_iload_n dX4_addLamp_4 rfl ?_
    refine v_iadd dX4_addLamp_5 ?_
    rw [ea]
    refine v_istore dX4_addLamp_6 rfl (by decide) ?_
    refine v_iload dX4_addLamp_8 rfl ?_
    refine v_if_lt 58 dX4_addLamp_10 (by decide) (fun h10 => absurd h10 (nI_pos (by omega))) (fun h10 => ?_)
    refine v_iload dX4_addLamp_13 rfl ?_
    refine v_aload_n dX4_addLamp_15 rfl ?_
    refine v_getR 4 15 _ dX4_addLamp_16 f4_37 hp0 (by decide) r15 ?_
    refine v_alen dX4_addLamp_19 t6 (by decide) ?_
    refine v_icmp_ge 58 dX4_addLamp_20 (by decide) (fun h20 => absurd ((nI_leI (a := 60) (by decide) (by omega)).mp h20) (by omega)) (fun h20 => ?_)
    refine v_aload_n dX4_addLamp_23 rfl ?_
    refine v_getJ 4 16 dX4_addLamp_24 f4_46 hp0 (by decide) ?_
    refine v_iload dX4_addLamp_27 rfl ?_
    refine v_lshr dX4_addLamp_29 ?_
    refine v_lconst 1 dX4_addLamp_30 (by decide) ?_
    refine v_land dX4_addLamp_31 ?_
    refine v_lconst 0 dX4_addLamp_32 (by decide) ?_
    rw [h1]
    refine v_lcmp dX4_addLamp_33 ?_
    refine v_if_ne 58 dX4_addLamp_34 (by decide) (fun h34 => ?_) (fun h34 => absurd (show ¬ lg_cmp 1 0 = 0 by decide) h34)
    refine v_aload_n dX4_addLamp_58 rfl ?_
    refine v_dup dX4_addLamp_59 rfl ?_
    refine v_getI 4 6 dX4_addLamp_60 f4_50 hp0 (by decide) ?_
    refine v_iconst 1 dX4_addLamp_63 (by decide) ?_
    refine v_iadd dX4_addLamp_64 ?_
    refine v_putI 4 6 dX4_addLamp_65 f4_50 hp0 (by decide) ?_
    refine v_vret dX4_addLamp_68 rfl ?_
    exact ⟨rfl, rfl⟩
  · rw [if_neg ht]
    have h0 := hb.2.mpr (by rw [← hl, ← Bool.not_eq_true]; exact ht)
    refine v_iload_n dX4_addLamp_0 rfl ?_
    refine v_bipush 10 dX4_addLamp_1 (by decide) ?_
    refine v_imul dX4_addLamp_3 ?_
    refine v_iload_n dX4_addLamp_4 rfl ?_
    refine v_iadd dX4_addLamp_5 ?_
    rw [ea]
    refine v_istore dX4_addLamp_6 rfl (by decide) ?_
    refine v_iload dX4_addLamp_8 rfl ?_
    refine v_if_lt 58 dX4_addLamp_10 (by decide) (fun h10 => absurd h10 (nI_pos (by omega))) (fun h10 => ?_)
    refine v_iload dX4_addLamp_13 rfl ?_
    refine v_aload_n dX4_addLamp_15 rfl ?_
    refine v_getR 4 15 _ dX4_addLamp_16 f4_37 hp0 (by decide) r15 ?_
    refine v_alen dX4_addLamp_19 t6 (by decide) ?_
    refine v_icmp_ge 58 dX4_addLamp_20 (by decide) (fun h20 => absurd ((nI_leI (a := 60) (by decide) (by omega)).mp h20) (by omega)) (fun h20 => ?_)
    refine v_aload_n dX4_addLamp_23 rfl ?_
    refine v_getJ 4 16 dX4_addLamp_24 f4_46 hp0 (by decide) ?_
    refine v_iload dX4_addLamp_27 rfl ?_
    refine v_lshr dX4_addLamp_29 ?_
    refine v_lconst 1 dX4_addLamp_30 (by decide) ?_
    refine v_land dX4_addLamp_31 ?_
    refine v_lconst 0 dX4_addLamp_32 (by decide) ?_
    rw [h0]
    refine v_lcmp dX4_addLamp_33 ?_
    refine v_if_ne 58 dX4_addLamp_34 (by decide) (fun h34 => absurd rfl h34) (fun h34 => ?_)
    refine v_aload_n dX4_addLamp_37 rfl ?_
    refine v_dup dX4_addLamp_38 rfl ?_
    refine v_getJ 4 16 dX4_addLamp_39 f4_46 hp0 (by decide) ?_
    refine v_lconst 1 dX4_addLamp_42 (by decide) ?_
    refine v_iload dX4_addLamp_43 rfl ?_
    refine v_lshl dX4_addLamp_45 ?_
    refine v_lor dX4_addLamp_46 ?_
    refine v_putJ 4 16 dX4_addLamp_47 f4_46 hp0 (by decide) ?_
    refine v_aload_n dX4_addLamp_50 rfl ?_
    refine v_getR 4 15 _ dX4_addLamp_51 f4_37 hp0 (by decide) r15 ?_
    refine v_iload dX4_addLamp_54 rfl ?_
    refine v_iload_n dX4_addLamp_56 rfl ?_
    refine v_iastN (10 * m + v) dX4_addLamp_57 t6 (by simp only [n_lit, pk_mul, nI_add]) ⟨by omega, by omega⟩ ?_
    refine v_aload_n dX4_addLamp_58 rfl ?_
    refine v_dup dX4_addLamp_59 rfl ?_
    refine v_getI 4 6 dX4_addLamp_60 f4_50 hp0 (by decide) ?_
    refine v_iconst 1 dX4_addLamp_63 (by decide) ?_
    refine v_iadd dX4_addLamp_64 ?_
    refine v_putI 4 6 dX4_addLamp_65 f4_50 hp0 (by decide) ?_
    refine v_vret dX4_addLamp_68 rfl ?_
    exact ⟨rfl, by rw [gI_sq _ _ (by omega)]; rfl⟩
/-- a lamp told, in the plan -/
theorem lamp_fin {M M' : mM} {p c m0 v0 : Nat} {lk : Int32} {K K' : Nat → Int32} (hm0 : m0 < 6) (hv0 : v0 ≤ 9) (g : ∀ m v, m < 6 → v ≤ 9 → ltB M p (10 * m + v) = hsL K (nI m) (nI v) c 0 ∧ (if ltB M p (10 * m + v) = true then gI M (p + 6) (10 * m + v) else nI v) = lby K (nI m) (nI v) c 0)
    (hK : ∀ i, 120 ≤ i → i < 144 → K' i = K i) (hc : c < 8) (k0 : K (120 + 3 * c) = nI m0) (k1 : K (120 + 3 * c + 1) = nI v0) (k2 : K (120 + 3 * c + 2) = lk) (ht : ∀ x, x < 60 → ltB M' p x = (ltB M p x || decide (x = 10 * m0 + v0))) (hl : ∀ x, x < 60 → gI M' (p + 6) x = if x = 10 * m0 + v0 ∧ ¬ ltB M p x = true then lk else gI M (p + 6) x) :
    ∀ m v, m < 6 → v ≤ 9 → ltB M' p (10 * m + v) = hsL K' (nI m) (nI v) (c + 1) 0 ∧ (if ltB M' p (10 * m + v) = true then gI M' (p + 6) (10 * m + v) else nI v) = lby K' (nI m) (nI v) (c + 1) 0 := by
  intro m v hm hv
  obtain ⟨g1, g2⟩ := g m v hm hv
  rw [hsL_K hK _ _ _ _ (by omega), lby_K hK _ _ _ _ (by omega)]
  obtain ⟨s1, s2⟩ := lamp_sn K (nI m) (nI v) c 0
  rw [Nat.zero_add] at s1 s2
  rw [s1, s2, ← g1, ht _ (by omega), hl _ (by omega), k0, k1, k2]
  have hx : (nI m0 = nI m ∧ nI v0 = nI v) ↔ 10 * m + v = 10 * m0 + v0 := by
    rw [nI_eq (by omega) (by omega), nI_eq (by omega) (by omega)]
    omega
  by_cases he : 10 * m + v = 10 * m0 + v0
  · rw [decide_eq_true he, decide_eq_true (hx.mpr he), Bool.or_true, if_pos rfl, if_pos (hx.mpr he)]
    refine ⟨rfl, ?_⟩
    by_cases hl' : ltB M p (10 * m + v) = true
    · rw [if_neg (fun z => z.2 hl'), if_pos hl']
      rw [if_pos hl'] at g2
      exact g2
    · rw [if_pos ⟨he, hl'⟩, if_neg hl']
  · rw [decide_eq_false he, decide_eq_false (fun z => he (hx.mp z)), Bool.or_false, if_neg (fun z : _ ∧ _ => he z.1), if_neg (fun z => he (hx.mp z))]
    refine ⟨rfl, ?_⟩
    by_cases hl' : ltB M p (10 * m + v) = true
    · rw [if_pos hl', if_pos hl']
      rw [if_pos hl'] at g2
      exact g2
    · rw [if_neg hl', if_neg hl']
end CM
