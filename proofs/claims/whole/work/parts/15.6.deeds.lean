/-! ===== the class LeastWords: deeds ===== -/
theorem Str.lit {M : mM} {s : Nat} {K : Nat → Int32} (h : Str M s K) (hP : WP K) (x : Int32) : Str (sI M s 8 x) s (uK K 94 x) := by
  obtain ⟨h1, d1, d2, d3, d4, d5, d6⟩ := h
  refine ⟨h1.mv rfl rfl, (show StD M s K from ⟨d1, d2, d3, d4, d5, d6⟩).ch hP (gI_sr _ _ (by omega)) (gI_sr _ _ (by omega)) (gI_sr _ _ (by omega)) (fun i hi => uK_n _ _ (by unfold plI at hi; omega)) (fun i hi => uK_n _ _ (by omega)) (fun p hp => ?_) ?_ ?_ ?_ ?_⟩
  · rw [gI_sr _ _ (by omega), gI_sr _ _ (by omega), uK_n _ _ (by omega), uK_n _ _ (by omega)]; exact d2 p hp
  · rw [gI_sk _ _ (by decide), uK_n _ _ (by decide)]; exact d3
  · rw [gI_sk _ _ (by decide), uK_n _ _ (by decide)]; exact d4
  · rw [gI_sk _ _ (by decide), uK_n _ _ (by decide)]; exact d5
  · rw [gI_ss, uK_s]
theorem Str.clm {M : mM} {s : Nat} {K : Nat → Int32} (h : Str M s K) (hP : WP K) {p : Nat} (hp6 : p < 6) (x : Int32) : Str (sI M (s + 4) p x) s (uK K (97 + p) x) := by
  obtain ⟨h1, d1, d2, d3, d4, d5, d6⟩ := h
  refine ⟨h1.mv rfl rfl, (show StD M s K from ⟨d1, d2, d3, d4, d5, d6⟩).ch hP (gI_sr _ _ (by omega)) (gI_sr _ _ (by omega)) (gI_sr _ _ (by omega)) (fun i hi => uK_n _ _ (by unfold plI at hi; omega)) (fun i hi => uK_n _ _ (by omega)) (fun r hr => ⟨?_, ?_⟩) ?_ ?_ ?_ ?_⟩
  · by_cases e : r = p
    · subst e; rw [gI_ss, uK_s]
    · rw [gI_sk _ _ e, uK_n _ _ (by omega)]; exact (d2 r hr).1
  · rw [gI_sr _ _ (by omega), uK_n _ _ (by omega)]; exact (d2 r hr).2
  · rw [gI_sr _ _ (by omega), uK_n _ _ (by omega)]; exact d3
  · rw [gI_sr _ _ (by omega), uK_n _ _ (by omega)]; exact d4
  · rw [gI_sr _ _ (by omega), uK_n _ _ (by omega)]; exact d5
  · rw [gI_sr _ _ (by omega), uK_n _ _ (by omega)]; exact d6
theorem WK.stk {K : Nat → Int32} (h : WK K) {c : Nat} (hc : c < kn K 2) (hb : (kn K 93).testBit c = true) : WK (noCl (uK K 96 (nI c))) := by
  obtain ⟨b1, b2, b3, b4, b5, b6⟩ := h.2.2.1
  have o : ∀ i, i ≠ 96 → (i < 97 ∨ 103 ≤ i) → noCl (uK K 96 (nI c)) i = K i := fun i h1 h2 => by rw [noCl_o h2, uK_n _ _ h1]
  have oc : ∀ i, i < 87 → cur (noCl (uK K 96 (nI c))) i = cur K i := fun i hi => o _ (by omega) (by omega)
  have on : ∀ i, i < 87 → nb (cur (noCl (uK K 96 (nI c)))) i = nb (cur K) i := fun i hi => by unfold nb; rw [oc i hi]
  refine h.deed (fun i hi => o _ (by omega) (by omega)) ⟨fun i hi => by rw [oc i (by omega), on i (by omega)]; exact b1 i hi, by rw [oc 84 (by omega), on 84 (by omega)]; exact b2, by rw [oc 85 (by omega)]; exact b3, by rw [oc 86 (by omega), on 86 (by omega)]; exact b4, Or.inr ⟨c, ?_, hc, by rw [on 84 (by omega)]; exact hb⟩, fun p hp => Or.inl ?_⟩
  · show noCl (uK K 96 (nI c)) 96 = nI c
    rw [noCl_o (by omega), uK_s]
  · rw [cur_97]; exact noCl_in hp
theorem undK_o {K : Nat → Int32} {n i : Nat} (h : i ≠ 8) (h2 : i < 9 ∨ 109 ≤ i) : undK K n i = K i := by unfold undK und1; rw [cpK_out (by omega), uK_n _ _ h]
section RM
variable (G : mG) (M : mM)
theorem c11_rem {K : Nat → Int32} (h : MR M K) : Ct G Y6_remember 2 0 0 [.ref 118] M (Rs none (fun M' => Kp M M' ∧ MR M' (kepK K))) NX := by
  obtain ⟨nx, hd⟩ := h.2.2.2.1
  exact (c6_remember G M h.1.sc hd h.2.1).post (fun v M' q => ⟨q.1, h.scn q.2.1 h.2.1.keeps q.2.2.2 (fun i hi => kepK_o h.2.1 (by omega))⟩) (fun _ _ q => q)
theorem c11_back {K : Nat → Int32} (h : MR M K) {n : Nat} (h1 : 1 ≤ n) (hn : n ≤ kn K 8) : Ct G Y6_goBack 2 0 0 [.ref 118, .int (nI n)] M (Rs none (fun M' => Kp M M' ∧ MR M' (undK K n))) NX := by
  obtain ⟨nx, hd⟩ := h.2.2.2.1
  exact (c6_goBack G M h.1.sc hd h.2.1 h1 hn).post (fun v M' q => ⟨q.1, h.scn q.2.1 (h.2.1.und h1 hn) q.2.2.2 (fun i hi => undK_o (by omega) (by omega))⟩) (fun _ _ q => q)
theorem nowS {K K' : Nat → Int32} {M' : mM} (h : MR M K) (e : Sm (Wsd 126) M M') (hd : Str M' 126 K') (hW : WK K') (hk : ∀ i, (i < 9 ∨ 109 ≤ i) → K' i = K i) : Kp M M' ∧ MR M' K' := h.now e (fun q k hq => Wsd_o (by unfold Hq at hq; omega) k) hd.2 hW hk
end RM
section O6
variable (G : mG) (M : mM)
theorem c11_lamp {K : Nat → Int32} (h : MR M K) : Ct G Y11_lamp 40 0 0 [.ref 100] M (Qt (0) (some (.int (lamK K 94))) M (lamK K)) (NX) := by
  have h0 := h
  have hs := h.sd
  obtain ⟨hS, hW, hz, hsc, p, cd, n, rd, l1, hp0, hp, hrd, hpa⟩ := h
  obtain ⟨ap1, ap2, ap3, ap4, ap5, ap6, ap7, ap8⟩ := hpa.ap hz
  have h14 := hW.p.2.1.2
  have h6 := hW.p.1.2.2
  have h10 := hW.p.2.2.1.2
  refine Ct.of k11_lamp.1 (Nat.le_of_ble_eq_true rfl) ?_
  have fin : ∀ M2, Kp M M2 → MR M2 (kepK K) → ∀ x, x = 1 - kepK K 94 → Qt 0 (some (.int (lamK K 94))) M (lamK K) (some (.int x)) (sI M2 126 8 x) := by
    intro M2 hk2 h2 x hx
    have e : lamK K = uK (kepK K) 94 x := by rw [hx]; rfl
    have q := nowS M2 h2 (M' := sI M2 126 8 x) (Sm.rf.st _ rfl) (h2.sd.lit h2.2.1.p x) (by rw [hx]; exact h2.2.1.lam) (fun i hi => uK_n _ _ (by omega))
    exact ⟨rfl, by rw [e, uK_s], hk2.tr q.1, by rw [e]; exact q.2⟩
  refine v_aload_n dX11_lamp_0 rfl ?_
  refine v_getR 11 6 _ dX11_lamp_1 f11_34 (by first | exact hS.1 _ _ rfl | exact hS'.1 _ _ rfl | assumption) (by decide) (by first | exact hp0 | exact hq0 | exact hS.2 _ _ _ rfl | exact hS'.2 _ _ _ rfl | assumption) ?_
  refine v_scVv [] (c11_rem G M h0) k6_remember dX11_lamp_4 l11_222 (by first | exact hS.1 _ _ rfl | exact hS'.1 _ _ rfl | assumption) (by decide) rfl (Nat.le_of_ble_eq_true rfl) (Nat.le_of_ble_eq_true rfl) ?_
  intro M2 hM2; have h2 := hM2.2; have hs2 := h2.sd; obtain ⟨hS', hW2, hz2, hsc2, p2, cd2, n2, rd2, l2, hq0, hq, hqrd, hqa⟩ := id h2
  skip
  have h8 := hs2.2.2.2.2.2.2
  rcases hW2.l with e | e
  · have f := fin M2 hM2.1 h2 1 (by rw [e]; rfl)
    refine v_aload_n dX11_lamp_7 rfl ?_
    refine v_getR 11 6 _ dX11_lamp_8 f11_34 (by first | exact hS.1 _ _ rfl | exact hS'.1 _ _ rfl | assumption) (by decide) (by first | exact hp0 | exact hq0 | exact hS.2 _ _ _ rfl | exact hS'.2 _ _ _ rfl | assumption) ?_
    refine v_getR 6 1 _ dX11_lamp_11 f11_119 (by first | exact hS.1 _ _ rfl | exact hS'.1 _ _ rfl | assumption) (by decide) (by first | exact hp0 | exact hq0 | exact hS.2 _ _ _ rfl | exact hS'.2 _ _ _ rfl | assumption) ?_
    refine v_aload_n dX11_lamp_14 rfl ?_
    refine v_getR 11 6 _ dX11_lamp_15 f11_34 (by first | exact hS.1 _ _ rfl | exact hS'.1 _ _ rfl | assumption) (by decide) (by first | exact hp0 | exact hq0 | exact hS.2 _ _ _ rfl | exact hS'.2 _ _ _ rfl | assumption) ?_
    refine v_getR 6 1 _ dX11_lamp_18 f11_119 (by first | exact hS.1 _ _ rfl | exact hS'.1 _ _ rfl | assumption) (by decide) (by first | exact hp0 | exact hq0 | exact hS.2 _ _ _ rfl | exact hS'.2 _ _ _ rfl | assumption) ?_
    refine v_getI 7 8 dX11_lamp_21 f11_126 (by first | exact hS.1 _ _ rfl | exact hS'.1 _ _ rfl | assumption) (by decide) ?_
    rw [h8, e]
    refine v_if_ne 31 dX11_lamp_24 (by decide) (fun h24 => absurd rfl h24) (fun h24 => ?_)
    refine v_iconst 1 dX11_lamp_27 (by decide) ?_
    refine v_goto 32 dX11_lamp_28 (by decide) ?_
    refine v_putZ 7 8 dX11_lamp_32 f11_126 (by first | exact hS.1 _ _ rfl | exact hS'.1 _ _ rfl | assumption) (by decide) (by first | assumption | decide) ?_
    refine v_aload_n dX11_lamp_35 rfl ?_
    refine v_getR 11 6 _ dX11_lamp_36 f11_34 (by first | exact hS.1 _ _ rfl | exact hS'.1 _ _ rfl | assumption) (by decide) (by first | exact hp0 | exact hq0 | exact hS.2 _ _ _ rfl | exact hS'.2 _ _ _ rfl | assumption) ?_
    refine v_getR 6 1 _ dX11_lamp_39 f11_119 (by first | exact hS.1 _ _ rfl | exact hS'.1 _ _ rfl | assumption) (by decide) (by first | exact hp0 | exact hq0 | exact hS.2 _ _ _ rfl | exact hS'.2 _ _ _ rfl | assumption) ?_
    refine v_getI 7 8 dX11_lamp_42 f11_126 (by first | exact hS.1 _ _ rfl | exact hS'.1 _ _ rfl | assumption) (by decide) ?_
    rw [gI_ss]
    refine v_if_eq 52 dX11_lamp_45 (by decide) (fun h45 => absurd h45 (by decide)) (fun h45 => ?_)
    refine v_iconst 1 dX11_lamp_48 (by decide) ?_
    refine v_goto 53 dX11_lamp_49 (by decide) ?_
    refine v_iret dX11_lamp_53 rfl ?_
    exact f
  · have f := fin M2 hM2.1 h2 0 (by rw [e]; rfl)
    refine v_aload_n dX11_lamp_7 rfl ?_
    refine v_getR 11 6 _ dX11_lamp_8 f11_34 (by first | exact hS.1 _ _ rfl | exact hS'.1 _ _ rfl | assumption) (by decide) (by first | exact hp0 | exact hq0 | exact hS.2 _ _ _ rfl | exact hS'.2 _ _ _ rfl | assumption) ?_
    refine v_getR 6 1 _ dX11_lamp_11 f11_119 (by first | exact hS.1 _ _ rfl | exact hS'.1 _ _ rfl | assumption) (by decide) (by first | exact hp0 | exact hq0 | exact hS.2 _ _ _ rfl | exact hS'.2 _ _ _ rfl | assumption) ?_
    refine v_aload_n dX11_lamp_14 rfl ?_
    refine v_getR 11 6 _ dX11_lamp_15 f11_34 (by first | exact hS.1 _ _ rfl | exact hS'.1 _ _ rfl | assumption) (by decide) (by first | exact hp0 | exact hq0 | exact hS.2 _ _ _ rfl | exact hS'.2 _ _ _ rfl | assumption) ?_
    refine v_getR 6 1 _ dX11_lamp_18 f11_119 (by first | exact hS.1 _ _ rfl | exact hS'.1 _ _ rfl | assumption) (by decide) (by first | exact hp0 | exact hq0 | exact hS.2 _ _ _ rfl | exact hS'.2 _ _ _ rfl | assumption) ?_
    refine v_getI 7 8 dX11_lamp_21 f11_126 (by first | exact hS.1 _ _ rfl | exact hS'.1 _ _ rfl | assumption) (by decide) ?_
    rw [h8, e]
    refine v_if_ne 31 dX11_lamp_24 (by decide) (fun h24 => ?_) (fun h24 => absurd (show ¬ (1 : Int32) = 0 by decide) h24)
    refine v_iconst 0 dX11_lamp_31 (by decide) ?_
    refine v_putZ 7 8 dX11_lamp_32 f11_126 (by first | exact hS.1 _ _ rfl | exact hS'.1 _ _ rfl | assumption) (by decide) (by first | assumption | decide) ?_
    refine v_aload_n dX11_lamp_35 rfl ?_
    refine v_getR 11 6 _ dX11_lamp_36 f11_34 (by first | exact hS.1 _ _ rfl | exact hS'.1 _ _ rfl | assumption) (by decide) (by first | exact hp0 | exact hq0 | exact hS.2 _ _ _ rfl | exact hS'.2 _ _ _ rfl | assumption) ?_
    refine v_getR 6 1 _ dX11_lamp_39 f11_119 (by first | exact hS.1 _ _ rfl | exact hS'.1 _ _ rfl | assumption) (by decide) (by first | exact hp0 | exact hq0 | exact hS.2 _ _ _ rfl | exact hS'.2 _ _ _ rfl | assumption) ?_
    refine v_getI 7 8 dX11_lamp_42 f11_126 (by first | exact hS.1 _ _ rfl | exact hS'.1 _ _ rfl | assumption) (by decide) ?_
    rw [gI_ss]
    refine v_if_eq 52 dX11_lamp_45 (by decide) (fun h45 => ?_) (fun h45 => absurd rfl h45)
    refine v_iconst 0 dX11_lamp_52 (by decide) ?_
    refine v_iret dX11_lamp_53 rfl ?_
    exact f
theorem c11_carry {K : Nat → Int32} (h : MR M K) (c : Int32) : Ct G Y11_carry 40 1 6 [.ref 100, .int c] M (Qt (tCar K c) (some (.int (bI ((kn (cryK K c) 93).testBit c.toNatClampNeg = true)))) M (cryK K c)) (Xt [(1, nsE)] (tCar K c) M) := by
  have h0 := h
  have hs := h.sd
  obtain ⟨hS, hW, hz, hsc, p, cd, n, rd, l1, hp0, hp, hrd, hpa⟩ := h
  obtain ⟨ap1, ap2, ap3, ap4, ap5, ap6, ap7, ap8⟩ := hpa.ap hz
  have h14 := hW.p.2.1.2
  have h6 := hW.p.1.2.2
  have h10 := hW.p.2.2.1.2
  refine Ct.of k11_carry.1 (Nat.le_of_ble_eq_true rfl) ?_
  by_cases hc : inR (kn K 2) c = true
  · have q1 := c11_needChest G M h0 hc
    rw [show tCar K c = 0 from if_pos hc, show cryK K c = carK (kepK K) c.toNatClampNeg from if_pos hc]
    obtain ⟨j, hj, rfl, hj2⟩ := inR_of hc
    rw [nI_clamp hj2]
    have hj3 : j < kn (kepK K) 2 := by rw [(kep2 hW).1]; exact hj
    refine v_aload_n dX11_carry_0 rfl ?_
    refine v_iload_n dX11_carry_1 rfl ?_
    refine v_cVv [_] (q1) k11_needChest dX11_carry_2 l11_113 (by first | exact hS.1 _ _ rfl | exact hS'.1 _ _ rfl | assumption) (by decide) rfl (Nat.le_of_ble_eq_true rfl) (Nat.le_of_ble_eq_true rfl) ?_
    refine v_aload_n dX11_carry_5 rfl ?_
    refine v_getR 11 6 _ dX11_carry_6 f11_34 (by first | exact hS.1 _ _ rfl | exact hS'.1 _ _ rfl | assumption) (by decide) (by first | exact hp0 | exact hq0 | exact hS.2 _ _ _ rfl | exact hS'.2 _ _ _ rfl | assumption) ?_
    refine v_scVv [] (c11_rem G M h0) k6_remember dX11_carry_9 l11_222 (by first | exact hS.1 _ _ rfl | exact hS'.1 _ _ rfl | assumption) (by decide) rfl (Nat.le_of_ble_eq_true rfl) (Nat.le_of_ble_eq_true rfl) ?_
    intro M2 hM2; have h2 := hM2.2; have hs2 := h2.sd; obtain ⟨hS', hW2, hz2, hsc2, p2, cd2, n2, rd2, l2, hq0, hq, hqrd, hqa⟩ := id h2
    refine v_aload_n dX11_carry_12 rfl ?_
    refine v_getR 11 6 _ dX11_carry_13 f11_34 (by first | exact hS.1 _ _ rfl | exact hS'.1 _ _ rfl | assumption) (by decide) (by first | exact hp0 | exact hq0 | exact hS.2 _ _ _ rfl | exact hS'.2 _ _ _ rfl | assumption) ?_
    refine v_getR 6 1 _ dX11_carry_16 f11_119 (by first | exact hS.1 _ _ rfl | exact hS'.1 _ _ rfl | assumption) (by decide) (by first | exact hp0 | exact hq0 | exact hS.2 _ _ _ rfl | exact hS'.2 _ _ _ rfl | assumption) ?_
    refine v_iload_n dX11_carry_19 rfl ?_
    skip
    have q2 := c7_carryChest G M2 hs2 hW2 hj3
    refine v_scVv [_] (q2) k7_carryChest dX11_carry_20 l11_235 (by first | exact hS.1 _ _ rfl | exact hS'.1 _ _ rfl | assumption) (by decide) rfl (Nat.le_of_ble_eq_true rfl) (Nat.le_of_ble_eq_true rfl) ?_
    intro M3 hM3; have m3 := nowS M2 h2 hM3.1 hM3.2 (hW2.car hj3) (fun i hi => carK_o hi); have hS' := m3.2.1
    skip
    have q3 := c7_isIn G M3 hM3.2 (hW2.car hj3) (c := j) (by omega)
    by_cases hb : (kn (carK (kepK K) j) 93).testBit j = true
    · rw [bI_t hb] at q3 ⊢
      refine v_aload_n dX11_carry_23 rfl ?_
      refine v_getR 11 6 _ dX11_carry_24 f11_34 (by first | exact hS.1 _ _ rfl | exact hS'.1 _ _ rfl | assumption) (by decide) (by first | exact hp0 | exact hq0 | exact hS.2 _ _ _ rfl | exact hS'.2 _ _ _ rfl | assumption) ?_
      refine v_getR 6 1 _ dX11_carry_27 f11_119 (by first | exact hS.1 _ _ rfl | exact hS'.1 _ _ rfl | assumption) (by decide) (by first | exact hp0 | exact hq0 | exact hS.2 _ _ _ rfl | exact hS'.2 _ _ _ rfl | assumption) ?_
      refine v_iload_n dX11_carry_30 rfl ?_
      refine v_cV [_] (q3) k7_isIn dX11_carry_31 l11_141 (by first | exact hS.1 _ _ rfl | exact hS'.1 _ _ rfl | assumption) (by decide) rfl (Nat.le_of_ble_eq_true rfl) (Nat.le_of_ble_eq_true rfl) ?_
      refine v_if_eq 41 dX11_carry_34 (by decide) (fun h34 => absurd h34 (by decide)) (fun h34 => ?_)
      refine v_iconst 1 dX11_carry_37 (by decide) ?_
      refine v_goto 42 dX11_carry_38 (by decide) ?_
      refine v_iret dX11_carry_42 rfl ?_
      exact ⟨rfl, rfl, hM2.1.tr m3.1, m3.2⟩
    · rw [bI_f hb] at q3 ⊢
      refine v_aload_n dX11_carry_23 rfl ?_
      refine v_getR 11 6 _ dX11_carry_24 f11_34 (by first | exact hS.1 _ _ rfl | exact hS'.1 _ _ rfl | assumption) (by decide) (by first | exact hp0 | exact hq0 | exact hS.2 _ _ _ rfl | exact hS'.2 _ _ _ rfl | assumption) ?_
      refine v_getR 6 1 _ dX11_carry_27 f11_119 (by first | exact hS.1 _ _ rfl | exact hS'.1 _ _ rfl | assumption) (by decide) (by first | exact hp0 | exact hq0 | exact hS.2 _ _ _ rfl | exact hS'.2 _ _ _ rfl | assumption) ?_
      refine v_iload_n dX11_carry_30 rfl ?_
      refine v_cV [_] (q3) k7_isIn dX11_carry_31 l11_141 (by first | exact hS.1 _ _ rfl | exact hS'.1 _ _ rfl | assumption) (by decide) rfl (Nat.le_of_ble_eq_true rfl) (Nat.le_of_ble_eq_true rfl) ?_
      refine v_if_eq 41 dX11_carry_34 (by decide) (fun h34 => ?_) (fun h34 => absurd rfl h34)
      refine v_iconst 0 dX11_carry_41 (by decide) ?_
      refine v_iret dX11_carry_42 rfl ?_
      exact ⟨rfl, rfl, hM2.1.tr m3.1, m3.2⟩
  · have ht : tCar K c = 1 := if_neg hc
    rw [ht]
    refine v_aload_n dX11_carry_0 rfl ?_
    refine v_iload_n dX11_carry_1 rfl ?_
    refine v_callV [_] (c11_needChestF G M h0 hc) k11_needChest dX11_carry_2 l11_113 (by first | exact hS.1 _ _ rfl | exact hS'.1 _ _ rfl | assumption) (by decide) rfl (Nat.le_of_ble_eq_true rfl) (Nat.le_of_ble_eq_true rfl) (fun _ _ h => h.elim) (fun E M9 he => ?_)
    exact Xt.of he (by simp)
theorem c11_change {K : Nat → Int32} (h : MR M K) (c : Int32) (m : Int32) (v : Int32) : Ct G Y11_change 40 1 6 [.ref 100, .int c, .int m, .int v] M (Qt (tChg K c m v) (some (.int (K (9 + 6 * c.toNatClampNeg + m.toNatClampNeg)))) M (chgK K c m v)) (Xt [(1, nsE), (2, iaE)] (tChg K c m v) M) := by
  have h0 := h
  have hs := h.sd
  obtain ⟨hS, hW, hz, hsc, p, cd, n, rd, l1, hp0, hp, hrd, hpa⟩ := h
  obtain ⟨ap1, ap2, ap3, ap4, ap5, ap6, ap7, ap8⟩ := hpa.ap hz
  have h14 := hW.p.2.1.2
  have h6 := hW.p.1.2.2
  have h10 := hW.p.2.2.1.2
  refine Ct.of k11_change.1 (Nat.le_of_ble_eq_true rfl) ?_
  by_cases hc : inR (kn K 2) c = true
  · have q1 := c11_needChest G M h0 hc
    by_cases hm : inR (kn K 1) m = true
    · have q2 := c11_needMark G M h0 hm
      by_cases hv : inR 10 v = true
      · have ht : tChg K c m v = 0 := by rw [tChg, if_pos ⟨hc, hm⟩, if_pos hv]
        rw [show chgK K c m v = uK (kepK K) (9 + 6 * c.toNatClampNeg + m.toNatClampNeg) v from if_pos ht, ht]
        obtain ⟨j, hj, rfl, hj2⟩ := inR_of hc
        obtain ⟨k, hk, rfl, hk2⟩ := inR_of hm
        obtain ⟨x, hx, rfl, hx2⟩ := inR_of hv
        rw [nI_clamp hj2, nI_clamp hk2]
        have q3 := c7_markOf G M hs hW hj hk
        have hj3 : j < kn (kepK K) 2 := by rw [(kep2 hW).1]; exact hj
        have hk3 : k < kn (kepK K) 1 := by rw [(kep2 hW).2.1]; exact hk
        refine v_aload_n dX11_change_0 rfl ?_
        refine v_iload_n dX11_change_1 rfl ?_
        refine v_cVv [_] (q1) k11_needChest dX11_change_2 l11_113 (by first | exact hS.1 _ _ rfl | exact hS'.1 _ _ rfl | assumption) (by decide) rfl (Nat.le_of_ble_eq_true rfl) (Nat.le_of_ble_eq_true rfl) ?_
        refine v_aload_n dX11_change_5 rfl ?_
        refine v_iload_n dX11_change_6 rfl ?_
        refine v_cVv [_] (q2) k11_needMark dX11_change_7 l11_116 (by first | exact hS.1 _ _ rfl | exact hS'.1 _ _ rfl | assumption) (by decide) rfl (Nat.le_of_ble_eq_true rfl) (Nat.le_of_ble_eq_true rfl) ?_
        refine v_iload_n dX11_change_10 rfl ?_
        refine v_if_lt 20 dX11_change_11 (by decide) (fun h11 => absurd h11 (nI_pos hx2)) (fun h11 => ?_)
        refine v_iload_n dX11_change_14 rfl ?_
        refine v_bipush 10 dX11_change_15 (by decide) ?_
        refine v_icmp_lt 30 dX11_change_17 (by decide) (fun h17 => ?_) (fun h17 => absurd (nI_lt (b := 10) hx (by decide)) h17)
        refine v_aload_n dX11_change_30 rfl ?_
        refine v_getR 11 6 _ dX11_change_31 f11_34 (by first | exact hS.1 _ _ rfl | exact hS'.1 _ _ rfl | assumption) (by decide) (by first | exact hp0 | exact hq0 | exact hS.2 _ _ _ rfl | exact hS'.2 _ _ _ rfl | assumption) ?_
        refine v_getR 6 1 _ dX11_change_34 f11_119 (by first | exact hS.1 _ _ rfl | exact hS'.1 _ _ rfl | assumption) (by decide) (by first | exact hp0 | exact hq0 | exact hS.2 _ _ _ rfl | exact hS'.2 _ _ _ rfl | assumption) ?_
        refine v_iload_n dX11_change_37 rfl ?_
        refine v_iload_n dX11_change_38 rfl ?_
        refine v_cV [_, _] (q3) k7_markOf dX11_change_39 l11_122 (by first | exact hS.1 _ _ rfl | exact hS'.1 _ _ rfl | assumption) (by decide) rfl (Nat.le_of_ble_eq_true rfl) (Nat.le_of_ble_eq_true rfl) ?_
        refine v_istore dX11_change_42 rfl (by decide) ?_
        refine v_aload_n dX11_change_44 rfl ?_
        refine v_getR 11 6 _ dX11_change_45 f11_34 (by first | exact hS.1 _ _ rfl | exact hS'.1 _ _ rfl | assumption) (by decide) (by first | exact hp0 | exact hq0 | exact hS.2 _ _ _ rfl | exact hS'.2 _ _ _ rfl | assumption) ?_
        refine v_scVv [] (c11_rem G M h0) k6_remember dX11_change_48 l11_222 (by first | exact hS.1 _ _ rfl | exact hS'.1 _ _ rfl | assumption) (by decide) rfl (Nat.le_of_ble_eq_true rfl) (Nat.le_of_ble_eq_true rfl) ?_
        intro M2 hM2; have h2 := hM2.2; have hs2 := h2.sd; obtain ⟨hS', hW2, hz2, hsc2, p2, cd2, n2, rd2, l2, hq0, hq, hqrd, hqa⟩ := id h2
        skip
        obtain ⟨bp1, bp2, bp3, bp4, bp5, bp6, bp7, bp8⟩ := hqa.ap hz2
        have q4 := c7_setMark G M2 hs2 hW2 hj3 hk3 (v := x) (by omega)
        have hq2 : Plr M2 p2 cd2 n2 (uK (kepK K) (9 + 6 * j + k) (nI x)) := hq.ck hW2.p (fun i hi => uK_n _ _ (by omega))
        have q5 := c7_learnStr G _ hs2 hW2 hS'.rk hq2 bp1 bp2 (by omega) hj3 hk3 (v := x) (by omega) rfl
        have hw := hW2.mrk (i := 6 * j + k) (v := x) (by omega) (by omega)
        rw [← Nat.add_assoc] at hw
        obtain ⟨M3, eM3⟩ : ∃ M3, M3 = sI M2 127 j (nI (pkR (cur (uK (kepK K) (9 + 6 * j + k) (nI x))) j (kn (kepK K) 1))) := ⟨_, rfl⟩
        rw [← eM3] at q4 q5
        have s3 : Sm (Wsd 126) M2 M3 := by rw [eM3]; exact Sm.rf.st _ rfl
        have hS'' := hS'.sm s3
        have hq03 : gR M3 118 0 = some p2 := by rw [s3.2.2.2.1]; exact hq0
        refine v_aload_n dX11_change_51 rfl ?_
        refine v_getR 11 6 _ dX11_change_52 f11_34 (by first | exact hS'.1 _ _ rfl | exact hS''.1 _ _ rfl) (by decide) (by first | exact hS'.2 _ _ _ rfl | exact hS''.2 _ _ _ rfl | assumption) ?_
        refine v_getR 6 1 _ dX11_change_55 f11_119 (by first | exact hS'.1 _ _ rfl | exact hS''.1 _ _ rfl) (by decide) (by first | exact hS'.2 _ _ _ rfl | exact hS''.2 _ _ _ rfl | assumption) ?_
        refine v_iload_n dX11_change_58 rfl ?_
        refine v_iload_n dX11_change_59 rfl ?_
        refine v_iload_n dX11_change_60 rfl ?_
        refine v_cVv [_, _, _] (q4) k7_setMark dX11_change_61 l11_240 (by first | exact hS'.1 _ _ rfl | exact hS''.1 _ _ rfl) (by decide) rfl (Nat.le_of_ble_eq_true rfl) (Nat.le_of_ble_eq_true rfl) ?_
        refine v_aload_n dX11_change_64 rfl ?_
        refine v_getR 11 6 _ dX11_change_65 f11_34 (by first | exact hS'.1 _ _ rfl | exact hS''.1 _ _ rfl) (by decide) (by first | exact hS'.2 _ _ _ rfl | exact hS''.2 _ _ _ rfl | assumption) ?_
        refine v_getR 6 1 _ dX11_change_68 f11_119 (by first | exact hS'.1 _ _ rfl | exact hS''.1 _ _ rfl) (by decide) (by first | exact hS'.2 _ _ _ rfl | exact hS''.2 _ _ _ rfl | assumption) ?_
        refine v_aload_n dX11_change_71 rfl ?_
        refine v_getR 11 6 _ dX11_change_72 f11_34 (by first | exact hS'.1 _ _ rfl | exact hS''.1 _ _ rfl) (by decide) (by first | exact hS'.2 _ _ _ rfl | exact hS''.2 _ _ _ rfl | assumption) ?_
        refine v_getR 6 0 _ dX11_change_75 f11_130 (by first | exact hS'.1 _ _ rfl | exact hS''.1 _ _ rfl) (by decide) (by first | exact hS'.2 _ _ _ rfl | exact hS''.2 _ _ _ rfl | assumption) ?_
        refine v_aload_n dX11_change_78 rfl ?_
        refine v_getR 11 5 _ dX11_change_79 f11_27 (by first | exact hS'.1 _ _ rfl | exact hS''.1 _ _ rfl) (by decide) (by first | exact hS'.2 _ _ _ rfl | exact hS''.2 _ _ _ rfl | assumption) ?_
        refine v_iload_n dX11_change_82 rfl ?_
        skip
        refine v_scVv [_, _, _] (q5) k7_learn dX11_change_83 l11_244 (hS''.1 _ _ rfl) (by decide) rfl (Nat.le_of_ble_eq_true rfl) (Nat.le_of_ble_eq_true rfl) ?_
        intro M4 hM4; have m4 := h2.now hM4.1 (fun q k hq => Wln_o (by unfold Hq at hq; omega) (by unfold Hq at hq; omega) k) hM4.2.2 hw (fun i hi => uK_n _ _ (by omega))
        refine v_iload dX11_change_86 rfl ?_
        refine v_iret dX11_change_88 rfl ?_
        exact ⟨rfl, rfl, hM2.1.tr m4.1, m4.2⟩
      · have ht : tChg K c m v = 2 := by rw [tChg, if_pos ⟨hc, hm⟩, if_neg hv]
        rw [ht]
        refine v_aload_n dX11_change_0 rfl ?_
        refine v_iload_n dX11_change_1 rfl ?_
        refine v_cVv [_] (q1) k11_needChest dX11_change_2 l11_113 (by first | exact hS.1 _ _ rfl | exact hS'.1 _ _ rfl | assumption) (by decide) rfl (Nat.le_of_ble_eq_true rfl) (Nat.le_of_ble_eq_true rfl) ?_
        refine v_aload_n dX11_change_5 rfl ?_
        refine v_iload_n dX11_change_6 rfl ?_
        refine v_cVv [_] (q2) k11_needMark dX11_change_7 l11_116 (by first | exact hS.1 _ _ rfl | exact hS'.1 _ _ rfl | assumption) (by decide) rfl (Nat.le_of_ble_eq_true rfl) (Nat.le_of_ble_eq_true rfl) ?_
        refine v_iload_n dX11_change_10 rfl ?_
        refine v_if_lt 20 dX11_change_11 (by decide) (fun h11 => ?_) (fun h11 => ?_)
        · exact V.post (v_throw (cls := iaE) (text := "a mark is 0 to 9") (names := upE) rfl (by decide +kernel) (by decide +kernel) at_iaek (by decide +kernel) (at_in at_iae).1 (at_in at_iae).2 dX11_change_20 dX11_change_23 dX11_change_24 dX11_change_26 dX11_change_29 (by decide) (by decide) Tg.mk : V G Y11_change 40 1 6 (fun _ _ => False) (Tg iaE M) 20 _ _ M) (fun _ _ h => h.elim) (fun E M' he => Xt.of he (by simp))
        · refine v_iload_n dX11_change_14 rfl ?_
          refine v_bipush 10 dX11_change_15 (by decide) ?_
          refine v_icmp_lt 30 dX11_change_17 (by decide) (fun h17 => absurd (inR_mk (n := 10) h11 h17 (by decide)) hv) (fun h17 => ?_)
          exact V.post (v_throw (cls := iaE) (text := "a mark is 0 to 9") (names := upE) rfl (by decide +kernel) (by decide +kernel) at_iaek (by decide +kernel) (at_in at_iae).1 (at_in at_iae).2 dX11_change_20 dX11_change_23 dX11_change_24 dX11_change_26 dX11_change_29 (by decide) (by decide) Tg.mk : V G Y11_change 40 1 6 (fun _ _ => False) (Tg iaE M) 20 _ _ M) (fun _ _ h => h.elim) (fun E M' he => Xt.of he (by simp))
    · have ht : tChg K c m v = 1 := if_neg (fun z => hm z.2)
      rw [ht]
      refine v_aload_n dX11_change_0 rfl ?_
      refine v_iload_n dX11_change_1 rfl ?_
      refine v_cVv [_] (q1) k11_needChest dX11_change_2 l11_113 (by first | exact hS.1 _ _ rfl | exact hS'.1 _ _ rfl | assumption) (by decide) rfl (Nat.le_of_ble_eq_true rfl) (Nat.le_of_ble_eq_true rfl) ?_
      refine v_aload_n dX11_change_5 rfl ?_
      refine v_iload_n dX11_change_6 rfl ?_
      refine v_callV [_] (c11_needMarkF G M h0 hm) k11_needMark dX11_change_7 l11_116 (by first | exact hS.1 _ _ rfl | exact hS'.1 _ _ rfl | assumption) (by decide) rfl (Nat.le_of_ble_eq_true rfl) (Nat.le_of_ble_eq_true rfl) (fun _ _ h => h.elim) (fun E M9 he => ?_)
      exact Xt.of he (by simp)
  · have ht : tChg K c m v = 1 := if_neg (fun z => hc z.1)
    rw [ht]
    refine v_aload_n dX11_change_0 rfl ?_
    refine v_iload_n dX11_change_1 rfl ?_
    refine v_callV [_] (c11_needChestF G M h0 hc) k11_needChest dX11_change_2 l11_113 (by first | exact hS.1 _ _ rfl | exact hS'.1 _ _ rfl | assumption) (by decide) rfl (Nat.le_of_ble_eq_true rfl) (Nat.le_of_ble_eq_true rfl) (fun _ _ h => h.elim) (fun E M9 he => ?_)
    exact Xt.of he (by simp)
theorem c11_stake {K : Nat → Int32} (h : MR M K) (c : Int32) : Ct G Y11_stake 40 1 6 [.ref 100, .int c] M (Qt (chF K c) (some (.int (K 96))) M (tStk K c)) (Xt [(1, nsE), (2, isE)] (chF K c) M) := by
  have h0 := h
  have hs := h.sd
  obtain ⟨hS, hW, hz, hsc, p, cd, n, rd, l1, hp0, hp, hrd, hpa⟩ := h
  obtain ⟨ap1, ap2, ap3, ap4, ap5, ap6, ap7, ap8⟩ := hpa.ap hz
  have h14 := hW.p.2.1.2
  have h6 := hW.p.1.2.2
  have h10 := hW.p.2.2.1.2
  refine Ct.of k11_stake.1 (Nat.le_of_ble_eq_true rfl) ?_
  by_cases hc : chF K c = 0
  · obtain ⟨j, hj, rfl, hb, hc0⟩ := chF_ok (K := K) (c := c) (by rw [hc]; decide)
    have q1 := c11_needChestIn G M h0 hj hb
    rw [show tStk K (nI j) = noCl (uK (kepK K) 96 (nI j)) from if_pos hc, hc]
    have hj3 : j < kn (kepK K) 2 := by rw [(kep2 hW).1]; exact hj
    have hb3 : (kn (kepK K) 93).testBit j = true := by rw [kn_cg (kepK_o hW (by omega))]; exact hb
    refine v_aload_n dX11_stake_0 rfl ?_
    refine v_iload_n dX11_stake_1 rfl ?_
    refine v_cVv [_] (q1) k11_needChestIn dX11_stake_2 l11_190 (by first | exact hS.1 _ _ rfl | exact hS'.1 _ _ rfl | assumption) (by decide) rfl (Nat.le_of_ble_eq_true rfl) (Nat.le_of_ble_eq_true rfl) ?_
    refine v_aload_n dX11_stake_5 rfl ?_
    refine v_getR 11 6 _ dX11_stake_6 f11_34 (by first | exact hS.1 _ _ rfl | exact hS'.1 _ _ rfl | assumption) (by decide) (by first | exact hp0 | exact hq0 | exact hS.2 _ _ _ rfl | exact hS'.2 _ _ _ rfl | assumption) ?_
    refine v_getR 6 1 _ dX11_stake_9 f11_119 (by first | exact hS.1 _ _ rfl | exact hS'.1 _ _ rfl | assumption) (by decide) (by first | exact hp0 | exact hq0 | exact hS.2 _ _ _ rfl | exact hS'.2 _ _ _ rfl | assumption) ?_
    refine v_getI 7 6 dX11_stake_12 f11_228 (by first | exact hS.1 _ _ rfl | exact hS'.1 _ _ rfl | assumption) (by decide) ?_
    rw [hs.2.2.2.2.1]
    refine v_istore_n dX11_stake_15 rfl (by decide) ?_
    refine v_aload_n dX11_stake_16 rfl ?_
    refine v_getR 11 6 _ dX11_stake_17 f11_34 (by first | exact hS.1 _ _ rfl | exact hS'.1 _ _ rfl | assumption) (by decide) (by first | exact hp0 | exact hq0 | exact hS.2 _ _ _ rfl | exact hS'.2 _ _ _ rfl | assumption) ?_
    refine v_scVv [] (c11_rem G M h0) k6_remember dX11_stake_20 l11_222 (by first | exact hS.1 _ _ rfl | exact hS'.1 _ _ rfl | assumption) (by decide) rfl (Nat.le_of_ble_eq_true rfl) (Nat.le_of_ble_eq_true rfl) ?_
    intro M2 hM2; have h2 := hM2.2; have hs2 := h2.sd; obtain ⟨hS', hW2, hz2, hsc2, p2, cd2, n2, rd2, l2, hq0, hq, hqrd, hqa⟩ := id h2
    refine v_aload_n dX11_stake_23 rfl ?_
    refine v_getR 11 6 _ dX11_stake_24 f11_34 (by first | exact hS.1 _ _ rfl | exact hS'.1 _ _ rfl | assumption) (by decide) (by first | exact hp0 | exact hq0 | exact hS.2 _ _ _ rfl | exact hS'.2 _ _ _ rfl | assumption) ?_
    refine v_getR 6 1 _ dX11_stake_27 f11_119 (by first | exact hS.1 _ _ rfl | exact hS'.1 _ _ rfl | assumption) (by decide) (by first | exact hp0 | exact hq0 | exact hS.2 _ _ _ rfl | exact hS'.2 _ _ _ rfl | assumption) ?_
    refine v_iload_n dX11_stake_30 rfl ?_
    skip
    have f1 : ∀ q, q ≠ 126 → q ≠ 130 → gI (flI (sI M2 126 6 (nI j)) 130 6 (-1)) q = gI M2 q := fun q a b => by funext k; rw [flI_ob _ _ b, gI_sr _ _ a]
    have d1 := hs2.2
    have st : StD (flI (sI M2 126 6 (nI j)) 130 6 (-1)) 126 (noCl (uK (kepK K) 96 (nI j))) := d1.stk hW2.p (fun q _ _ => rfl) (fun _ _ => rfl) (fun _ _ => rfl) (fun r hr => (d1.2.1 r hr).2) d1.2.2.1 d1.2.2.2.2.1 d1.2.2.2.2.2
    have sm : Sm (Wsd 126) M2 (flI (sI M2 126 6 (nI j)) 130 6 (-1)) := flI_sm (Sm.rf.st _ rfl) _ (fun _ _ => rfl)
    have mm := h2.now sm (fun q k hq => Wsd_o (by unfold Hq at hq; omega) k) st (hW2.stk hj3 hb3) (fun i hi => by rw [noCl_o (by omega), uK_n _ _ (by omega)])
    refine v_cVv [_] (c7_setStake G M2 hs2.1 _) k7_setStake dX11_stake_31 l11_248 (by first | exact hS.1 _ _ rfl | exact hS'.1 _ _ rfl | assumption) (by decide) rfl (Nat.le_of_ble_eq_true rfl) (Nat.le_of_ble_eq_true rfl) ?_
    refine v_iload_n dX11_stake_34 rfl ?_
    refine v_iret dX11_stake_35 rfl ?_
    exact ⟨rfl, rfl, hM2.1.tr mm.1, mm.2⟩
  · refine v_aload_n dX11_stake_0 rfl ?_
    refine v_iload_n dX11_stake_1 rfl ?_
    refine v_callV [_] (c11_needChestInF G M h0 hc) k11_needChestIn dX11_stake_2 l11_190 (by first | exact hS.1 _ _ rfl | exact hS'.1 _ _ rfl | assumption) (by decide) rfl (Nat.le_of_ble_eq_true rfl) (Nat.le_of_ble_eq_true rfl) (fun _ _ h => h.elim) (fun E M9 he => ?_)
    exact he.elim (fun z => Xt.of z.2 (by rw [z.1]; simp)) (fun z => Xt.of z.2 (by rw [z.1]; simp))
theorem c11_person {K : Nat → Int32} (h : MR M K) (c : Int32) (w : Int32) : Ct G Y11_person 40 1 6 [.ref 100, .int c, .int w] M (Qt (tPer K c w) (some (.int (if w = 0 then K (97 + c.toNatClampNeg) else K (103 + c.toNatClampNeg)))) M (K)) (Xt [(1, nsE), (2, iaE)] (tPer K c w) M) := by
  have h0 := h
  have hs := h.sd
  obtain ⟨hS, hW, hz, hsc, p, cd, n, rd, l1, hp0, hp, hrd, hpa⟩ := h
  obtain ⟨ap1, ap2, ap3, ap4, ap5, ap6, ap7, ap8⟩ := hpa.ap hz
  have h14 := hW.p.2.1.2
  have h6 := hW.p.1.2.2
  have h10 := hW.p.2.2.1.2
  refine Ct.of k11_person.1 (Nat.le_of_ble_eq_true rfl) ?_
  by_cases hc : inR (kn K 6) c = true
  · have q1 := c11_needPerson G M h0 hc
    by_cases hw : inR 2 w = true
    · have q2 := c11_needWhat G M (n := 1) (by decide) hw
      rw [show tPer K c w = 0 by rw [tPer, if_pos hc, if_pos hw]]
      obtain ⟨j, hj, rfl, hj2⟩ := inR_of hc
      obtain ⟨k, hk, rfl, hk2⟩ := inR_of hw
      have hp6 := hW.p.2.2.2.2.2.1.2.2
      have hcw := hs.2.2.1 j (by omega)
      rw [nI_clamp hj2]
      obtain rfl | rfl : k = 0 ∨ k = 1 := by omega
      · rw [if_pos (by decide)]
        refine v_aload_n dX11_person_0 rfl ?_
        refine v_iload_n dX11_person_1 rfl ?_
        refine v_cVv [_] (q1) k11_needPerson dX11_person_2 l11_216 (by first | exact hS.1 _ _ rfl | exact hS'.1 _ _ rfl | assumption) (by decide) rfl (Nat.le_of_ble_eq_true rfl) (Nat.le_of_ble_eq_true rfl) ?_
        refine v_aload_n dX11_person_5 rfl ?_
        refine v_iload_n dX11_person_6 rfl ?_
        refine v_iconst 1 dX11_person_7 (by decide) ?_
        refine v_cVv [_, _] (q2) k11_needWhat dX11_person_8 l11_137 (by first | exact hS.1 _ _ rfl | exact hS'.1 _ _ rfl | assumption) (by decide) rfl (Nat.le_of_ble_eq_true rfl) (Nat.le_of_ble_eq_true rfl) ?_
        refine v_iload_n dX11_person_11 rfl ?_
        refine v_if_ne 30 dX11_person_12 (by decide) (fun h12 => absurd (by decide) h12) (fun h12 => ?_)
        refine v_aload_n dX11_person_15 rfl ?_
        refine v_getR 11 6 _ dX11_person_16 f11_34 (by first | exact hS.1 _ _ rfl | exact hS'.1 _ _ rfl | assumption) (by decide) (by first | exact hp0 | exact hq0 | exact hS.2 _ _ _ rfl | exact hS'.2 _ _ _ rfl | assumption) ?_
        refine v_getR 6 1 _ dX11_person_19 f11_119 (by first | exact hS.1 _ _ rfl | exact hS'.1 _ _ rfl | assumption) (by decide) (by first | exact hp0 | exact hq0 | exact hS.2 _ _ _ rfl | exact hS'.2 _ _ _ rfl | assumption) ?_
        refine v_getR 7 3 _ dX11_person_22 f11_225 (by first | exact hS.1 _ _ rfl | exact hS'.1 _ _ rfl | assumption) (by decide) (by first | exact hp0 | exact hq0 | exact hS.2 _ _ _ rfl | exact hS'.2 _ _ _ rfl | assumption) ?_
        refine v_iload_n dX11_person_25 rfl ?_
        refine v_ialdN (j) dX11_person_26 (by first | exact hS.1 _ _ rfl | exact hS'.1 _ _ rfl | assumption) (by simp only [n_lit, pk_mul, nI_add]) ⟨by omega, by omega⟩ ?_
        refine v_goto 42 dX11_person_27 (by decide) ?_
        rw [hcw.1]
        refine v_iret dX11_person_42 rfl ?_
        exact ⟨rfl, rfl, Kp.rf, h0⟩
      · rw [if_neg (by decide)]
        refine v_aload_n dX11_person_0 rfl ?_
        refine v_iload_n dX11_person_1 rfl ?_
        refine v_cVv [_] (q1) k11_needPerson dX11_person_2 l11_216 (by first | exact hS.1 _ _ rfl | exact hS'.1 _ _ rfl | assumption) (by decide) rfl (Nat.le_of_ble_eq_true rfl) (Nat.le_of_ble_eq_true rfl) ?_
        refine v_aload_n dX11_person_5 rfl ?_
        refine v_iload_n dX11_person_6 rfl ?_
        refine v_iconst 1 dX11_person_7 (by decide) ?_
        refine v_cVv [_, _] (q2) k11_needWhat dX11_person_8 l11_137 (by first | exact hS.1 _ _ rfl | exact hS'.1 _ _ rfl | assumption) (by decide) rfl (Nat.le_of_ble_eq_true rfl) (Nat.le_of_ble_eq_true rfl) ?_
        refine v_iload_n dX11_person_11 rfl ?_
        refine v_if_ne 30 dX11_person_12 (by decide) (fun h12 => ?_) (fun h12 => absurd (by decide) h12)
        refine v_aload_n dX11_person_30 rfl ?_
        refine v_getR 11 6 _ dX11_person_31 f11_34 (by first | exact hS.1 _ _ rfl | exact hS'.1 _ _ rfl | assumption) (by decide) (by first | exact hp0 | exact hq0 | exact hS.2 _ _ _ rfl | exact hS'.2 _ _ _ rfl | assumption) ?_
        refine v_getR 6 1 _ dX11_person_34 f11_119 (by first | exact hS.1 _ _ rfl | exact hS'.1 _ _ rfl | assumption) (by decide) (by first | exact hp0 | exact hq0 | exact hS.2 _ _ _ rfl | exact hS'.2 _ _ _ rfl | assumption) ?_
        refine v_getR 7 4 _ dX11_person_37 f11_251 (by first | exact hS.1 _ _ rfl | exact hS'.1 _ _ rfl | assumption) (by decide) (by first | exact hp0 | exact hq0 | exact hS.2 _ _ _ rfl | exact hS'.2 _ _ _ rfl | assumption) ?_
        refine v_iload_n dX11_person_40 rfl ?_
        refine v_ialdN (j) dX11_person_41 (by first | exact hS.1 _ _ rfl | exact hS'.1 _ _ rfl | assumption) (by simp only [n_lit, pk_mul, nI_add]) ⟨by omega, by omega⟩ ?_
        rw [hcw.2]
        refine v_iret dX11_person_42 rfl ?_
        exact ⟨rfl, rfl, Kp.rf, h0⟩
    · have ht : tPer K c w = 2 := by rw [tPer, if_pos hc, if_neg hw]
      rw [ht]
      refine v_aload_n dX11_person_0 rfl ?_
      refine v_iload_n dX11_person_1 rfl ?_
      refine v_cVv [_] (q1) k11_needPerson dX11_person_2 l11_216 (by first | exact hS.1 _ _ rfl | exact hS'.1 _ _ rfl | assumption) (by decide) rfl (Nat.le_of_ble_eq_true rfl) (Nat.le_of_ble_eq_true rfl) ?_
      refine v_aload_n dX11_person_5 rfl ?_
      refine v_iload_n dX11_person_6 rfl ?_
      refine v_iconst 1 dX11_person_7 (by decide) ?_
      refine v_callV [_, _] (c11_needWhatF G M (n := 1) (by decide) hw) k11_needWhat dX11_person_8 l11_137 (by first | exact hS.1 _ _ rfl | exact hS'.1 _ _ rfl | assumption) (by decide) rfl (Nat.le_of_ble_eq_true rfl) (Nat.le_of_ble_eq_true rfl) (fun _ _ h => h.elim) (fun E M9 he => ?_)
      exact Xt.of he (by simp)
  · have ht : tPer K c w = 1 := if_neg hc
    rw [ht]
    refine v_aload_n dX11_person_0 rfl ?_
    refine v_iload_n dX11_person_1 rfl ?_
    refine v_callV [_] (c11_needPersonF G M h0 hc) k11_needPerson dX11_person_2 l11_216 (by first | exact hS.1 _ _ rfl | exact hS'.1 _ _ rfl | assumption) (by decide) rfl (Nat.le_of_ble_eq_true rfl) (Nat.le_of_ble_eq_true rfl) (fun _ _ h => h.elim) (fun E M9 he => ?_)
    exact Xt.of he (by simp)
theorem c11_winner {K : Nat → Int32} (h : MR M K) : Ct G Y11_winner 40 0 0 [.ref 100] M (Qt (0) (some (.int (encP (winO K)))) M (K)) (NX) := by
  have h0 := h
  have hs := h.sd
  obtain ⟨hS, hW, hz, hsc, p, cd, n, rd, l1, hp0, hp, hrd, hpa⟩ := h
  obtain ⟨ap1, ap2, ap3, ap4, ap5, ap6, ap7, ap8⟩ := hpa.ap hz
  have h14 := hW.p.2.1.2
  have h6 := hW.p.1.2.2
  have h10 := hW.p.2.2.1.2
  refine Ct.of k11_winner.1 (Nat.le_of_ble_eq_true rfl) ?_
  refine v_aload_n dX11_winner_0 rfl ?_
  refine v_getR 11 6 _ dX11_winner_1 f11_34 (by first | exact hS.1 _ _ rfl | exact hS'.1 _ _ rfl | assumption) (by decide) (by first | exact hp0 | exact hq0 | exact hS.2 _ _ _ rfl | exact hS'.2 _ _ _ rfl | assumption) ?_
  refine v_getR 6 1 _ dX11_winner_4 f11_119 (by first | exact hS.1 _ _ rfl | exact hS'.1 _ _ rfl | assumption) (by decide) (by first | exact hp0 | exact hq0 | exact hS.2 _ _ _ rfl | exact hS'.2 _ _ _ rfl | assumption) ?_
  refine v_aload_n dX11_winner_7 rfl ?_
  refine v_getR 11 6 _ dX11_winner_8 f11_34 (by first | exact hS.1 _ _ rfl | exact hS'.1 _ _ rfl | assumption) (by decide) (by first | exact hp0 | exact hq0 | exact hS.2 _ _ _ rfl | exact hS'.2 _ _ _ rfl | assumption) ?_
  refine v_getR 6 0 _ dX11_winner_11 f11_130 (by first | exact hS.1 _ _ rfl | exact hS'.1 _ _ rfl | assumption) (by decide) (by first | exact hp0 | exact hq0 | exact hS.2 _ _ _ rfl | exact hS'.2 _ _ _ rfl | assumption) ?_
  refine v_cV [_] (c7_winning G M hs hp hW) k7_winning dX11_winner_14 l11_254 (by first | exact hS.1 _ _ rfl | exact hS'.1 _ _ rfl | assumption) (by decide) rfl (Nat.le_of_ble_eq_true rfl) (Nat.le_of_ble_eq_true rfl) ?_
  refine v_iret dX11_winner_17 rfl ?_
  exact ⟨rfl, rfl, Kp.rf, h0⟩
theorem c11_undo {K : Nat → Int32} (h : MR M K) (x : Int32) : Ct G Y11_undo 40 1 6 [.ref 100, .int x] M (Qt (if okUb K x = true then 0 else 1) (some (.int (undK K x.toNatClampNeg 8))) M (undK K x.toNatClampNeg)) (Xt [(1, iaE)] (if okUb K x = true then 0 else 1) M) := by
  have h0 := h
  have hs := h.sd
  obtain ⟨hS, hW, hz, hsc, p, cd, n, rd, l1, hp0, hp, hrd, hpa⟩ := h
  obtain ⟨ap1, ap2, ap3, ap4, ap5, ap6, ap7, ap8⟩ := hpa.ap hz
  have h14 := hW.p.2.1.2
  have h6 := hW.p.1.2.2
  have h10 := hW.p.2.2.1.2
  refine Ct.of k11_undo.1 (Nat.le_of_ble_eq_true rfl) ?_
  obtain ⟨nx, hd⟩ := hsc
  have h8 := hW.2.1
  by_cases hx : okUb K x = true
  · rw [if_pos hx]
    have hx2 := of_decide_eq_true hx
    have hm0 : ¬ x < 0 := fun z => by have := Int32.lt_of_le_of_lt hx2.1.1 z; exact absurd this (by decide)
    obtain ⟨a, ha, rfl⟩ := nI_of hm0
    have ha1 : 1 ≤ a := (nI_leI (a := 1) (by decide) ha).mp hx2.1.1
    have ha2 : a ≤ kn K 8 := by have := hx2.2; rw [h8.1] at this; exact (nI_leI ha (by omega)).mp this
    rw [nI_clamp ha]
    refine v_iload_n dX11_undo_0 rfl ?_
    refine v_iconst 1 dX11_undo_1 (by decide) ?_
    refine v_icmp_lt 22 dX11_undo_2 (by decide) (fun h2 => absurd h2 (Int32.not_lt.mpr hx2.1.1)) (fun h2 => ?_)
    refine v_iload_n dX11_undo_5 rfl ?_
    refine v_bipush 10 dX11_undo_6 (by decide) ?_
    refine v_icmp_gt 22 dX11_undo_8 (by decide) (fun h8 => absurd h8 (Int32.not_lt.mpr hx2.1.2)) (fun h8 => ?_)
    refine v_iload_n dX11_undo_11 rfl ?_
    refine v_aload_n dX11_undo_12 rfl ?_
    refine v_getR 11 6 _ dX11_undo_13 f11_34 (by first | exact hS.1 _ _ rfl | exact hS'.1 _ _ rfl | assumption) (by decide) (by first | exact hp0 | exact hq0 | exact hS.2 _ _ _ rfl | exact hS'.2 _ _ _ rfl | assumption) ?_
    refine v_getI 6 4 dX11_undo_16 f11_257 (by first | exact hS.1 _ _ rfl | exact hS'.1 _ _ rfl | assumption) (by decide) ?_
    rw [hd.2.1]
    refine v_icmp_le 33 dX11_undo_19 (by decide) (fun h19 => ?_) (fun h19 => absurd hx2.2 h19)
    refine v_aload_n dX11_undo_33 rfl ?_
    refine v_getR 11 6 _ dX11_undo_34 f11_34 (by first | exact hS.1 _ _ rfl | exact hS'.1 _ _ rfl | assumption) (by decide) (by first | exact hp0 | exact hq0 | exact hS.2 _ _ _ rfl | exact hS'.2 _ _ _ rfl | assumption) ?_
    refine v_iload_n dX11_undo_37 rfl ?_
    refine v_scVv [_] (c11_back G M h0 ha1 ha2) k6_goBack dX11_undo_38 l11_262 (by first | exact hS.1 _ _ rfl | exact hS'.1 _ _ rfl | assumption) (by decide) rfl (Nat.le_of_ble_eq_true rfl) (Nat.le_of_ble_eq_true rfl) ?_
    intro M2 hM2; have h2 := hM2.2; obtain ⟨hS', hW2, hz2, ⟨nx2, hd2⟩, -⟩ := id h2
    skip
    refine v_aload_n dX11_undo_41 rfl ?_
    refine v_getR 11 6 _ dX11_undo_42 f11_34 (by first | exact hS.1 _ _ rfl | exact hS'.1 _ _ rfl | assumption) (by decide) (by first | exact hp0 | exact hq0 | exact hS.2 _ _ _ rfl | exact hS'.2 _ _ _ rfl | assumption) ?_
    refine v_getI 6 4 dX11_undo_45 f11_257 (by first | exact hS.1 _ _ rfl | exact hS'.1 _ _ rfl | assumption) (by decide) ?_
    rw [hd2.2.1]
    refine v_iret dX11_undo_48 rfl ?_
    exact ⟨rfl, rfl, hM2.1, h2⟩
  · have ht : (if okUb K x = true then (0 : Int32) else 1) = 1 := if_neg hx
    rw [ht]
    refine v_iload_n dX11_undo_0 rfl ?_
    refine v_iconst 1 dX11_undo_1 (by decide) ?_
    refine v_icmp_lt 22 dX11_undo_2 (by decide) (fun h2 => ?_) (fun h2 => ?_)
    · exact V.post (v_throwW (cls := iaE) (text := "not so many deeds can be undone") rfl (by decide +kernel) at_iaek (by decide +kernel) at_iae dX11_undo_22 dX11_undo_25 dX11_undo_26 dX11_undo_29 dX11_undo_32 (by decide) (by decide) Tg.mk : V G Y11_undo 40 1 6 (fun _ _ => False) (Tg iaE M) 22 _ _ M) (fun _ _ h => h.elim) (fun E M' he => Xt.of he (by simp))
    · refine v_iload_n dX11_undo_5 rfl ?_
      refine v_bipush 10 dX11_undo_6 (by decide) ?_
      refine v_icmp_gt 22 dX11_undo_8 (by decide) (fun h8 => ?_) (fun h8 => ?_)
      · exact V.post (v_throwW (cls := iaE) (text := "not so many deeds can be undone") rfl (by decide +kernel) at_iaek (by decide +kernel) at_iae dX11_undo_22 dX11_undo_25 dX11_undo_26 dX11_undo_29 dX11_undo_32 (by decide) (by decide) Tg.mk : V G Y11_undo 40 1 6 (fun _ _ => False) (Tg iaE M) 22 _ _ M) (fun _ _ h => h.elim) (fun E M' he => Xt.of he (by simp))
      · refine v_iload_n dX11_undo_11 rfl ?_
        refine v_aload_n dX11_undo_12 rfl ?_
        refine v_getR 11 6 _ dX11_undo_13 f11_34 (by first | exact hS.1 _ _ rfl | exact hS'.1 _ _ rfl | assumption) (by decide) (by first | exact hp0 | exact hq0 | exact hS.2 _ _ _ rfl | exact hS'.2 _ _ _ rfl | assumption) ?_
        refine v_getI 6 4 dX11_undo_16 f11_257 (by first | exact hS.1 _ _ rfl | exact hS'.1 _ _ rfl | assumption) (by decide) ?_
        rw [hd.2.1]
        refine v_icmp_le 33 dX11_undo_19 (by decide) (fun h19 => absurd (decide_eq_true (show (1 ≤ x ∧ x ≤ 10) ∧ x ≤ K 8 from ⟨⟨Int32.not_lt.mp h2, Int32.not_lt.mp h8⟩, h19⟩)) hx) (fun h19 => ?_)
        exact V.post (v_throwW (cls := iaE) (text := "not so many deeds can be undone") rfl (by decide +kernel) at_iaek (by decide +kernel) at_iae dX11_undo_22 dX11_undo_25 dX11_undo_26 dX11_undo_29 dX11_undo_32 (by decide) (by decide) Tg.mk : V G Y11_undo 40 1 6 (fun _ _ => False) (Tg iaE M) 22 _ _ M) (fun _ _ h => h.elim) (fun E M' he => Xt.of he (by simp))
theorem c11_settle {K : Nat → Int32} (h : MR M K) : Ct G Y11_settle 40 1 6 [.ref 100] M (Qt (if K 96 = -1 then 1 else 0) (some (.int (encP (winO (kepK K))))) M (setK (kepK K))) (Xt [(1, isE)] (if K 96 = -1 then 1 else 0) M) := by
  have h0 := h
  have hs := h.sd
  obtain ⟨hS, hW, hz, hsc, p, cd, n, rd, l1, hp0, hp, hrd, hpa⟩ := h
  obtain ⟨ap1, ap2, ap3, ap4, ap5, ap6, ap7, ap8⟩ := hpa.ap hz
  have h14 := hW.p.2.1.2
  have h6 := hW.p.1.2.2
  have h10 := hW.p.2.2.1.2
  refine Ct.of k11_settle.1 (Nat.le_of_ble_eq_true rfl) ?_
  by_cases hc : K 96 = -1
  · have ht : (if K 96 = -1 then (1 : Int32) else 0) = 1 := if_pos hc
    rw [ht]
    refine v_aload_n dX11_settle_0 rfl ?_
    refine v_callV [] (c11_needStakeF G M h0 hc) k11_needStake dX11_settle_1 l11_219 (by first | exact hS.1 _ _ rfl | exact hS'.1 _ _ rfl | assumption) (by decide) rfl (Nat.le_of_ble_eq_true rfl) (Nat.le_of_ble_eq_true rfl) (fun _ _ h => h.elim) (fun E M9 he => ?_)
    exact Xt.of he (by simp)
  · rw [if_neg hc]
    have hc3 : kepK K 96 ≠ -1 := by rw [kepK_o hW (by omega)]; exact hc
    refine v_aload_n dX11_settle_0 rfl ?_
    refine v_cVv [] (c11_needStake G M h0 hc) k11_needStake dX11_settle_1 l11_219 (by first | exact hS.1 _ _ rfl | exact hS'.1 _ _ rfl | assumption) (by decide) rfl (Nat.le_of_ble_eq_true rfl) (Nat.le_of_ble_eq_true rfl) ?_
    refine v_aload_n dX11_settle_4 rfl ?_
    refine v_getR 11 6 _ dX11_settle_5 f11_34 (by first | exact hS.1 _ _ rfl | exact hS'.1 _ _ rfl | assumption) (by decide) (by first | exact hp0 | exact hq0 | exact hS.2 _ _ _ rfl | exact hS'.2 _ _ _ rfl | assumption) ?_
    refine v_scVv [] (c11_rem G M h0) k6_remember dX11_settle_8 l11_222 (by first | exact hS.1 _ _ rfl | exact hS'.1 _ _ rfl | assumption) (by decide) rfl (Nat.le_of_ble_eq_true rfl) (Nat.le_of_ble_eq_true rfl) ?_
    intro M2 hM2; have h2 := hM2.2; have hs2 := h2.sd; obtain ⟨hS', hW2, hz2, hsc2, p2, cd2, n2, rd2, l2, hq0, hq, hqrd, hqa⟩ := id h2
    refine v_aload_n dX11_settle_11 rfl ?_
    refine v_getR 11 6 _ dX11_settle_12 f11_34 (by first | exact hS.1 _ _ rfl | exact hS'.1 _ _ rfl | assumption) (by decide) (by first | exact hp0 | exact hq0 | exact hS.2 _ _ _ rfl | exact hS'.2 _ _ _ rfl | assumption) ?_
    refine v_getR 6 1 _ dX11_settle_15 f11_119 (by first | exact hS.1 _ _ rfl | exact hS'.1 _ _ rfl | assumption) (by decide) (by first | exact hp0 | exact hq0 | exact hS.2 _ _ _ rfl | exact hS'.2 _ _ _ rfl | assumption) ?_
    refine v_aload_n dX11_settle_18 rfl ?_
    refine v_getR 11 6 _ dX11_settle_19 f11_34 (by first | exact hS.1 _ _ rfl | exact hS'.1 _ _ rfl | assumption) (by decide) (by first | exact hp0 | exact hq0 | exact hS.2 _ _ _ rfl | exact hS'.2 _ _ _ rfl | assumption) ?_
    refine v_getR 6 0 _ dX11_settle_22 f11_130 (by first | exact hS.1 _ _ rfl | exact hS'.1 _ _ rfl | assumption) (by decide) (by first | exact hp0 | exact hq0 | exact hS.2 _ _ _ rfl | exact hS'.2 _ _ _ rfl | assumption) ?_
    skip
    refine v_scV [_] (c7_settleClaims G M2 hs2 hq hW2 hc3) k7_settleClaims dX11_settle_25 l11_231 (by first | exact hS.1 _ _ rfl | exact hS'.1 _ _ rfl | assumption) (by decide) rfl (Nat.le_of_ble_eq_true rfl) (Nat.le_of_ble_eq_true rfl) ?_
    intro M3 hM3; have m3 := nowS M2 h2 hM3.1 hM3.2 (hW2.set hc3) (fun i hi => setK_o hW2 hi)
    refine v_iret dX11_settle_28 rfl ?_
    exact ⟨rfl, rfl, hM2.1.tr m3.1, m3.2⟩
theorem c11_claim {K : Nat → Int32} (h : MR M K) (c : Int32) (d : Int32) : Ct G Y11_claim 40 1 6 [.ref 100, .int c, .int d] M (Qt (tClm K c d) (some (.int (bI (telK (clmK K c d) d.toNatClampNeg = K 96)))) M (clmK K c d)) (Xt [(1, nsE), (2, isE), (3, iaE)] (tClm K c d) M) := by
  have h0 := h
  have hs := h.sd
  obtain ⟨hS, hW, hz, hsc, p, cd, n, rd, l1, hp0, hp, hrd, hpa⟩ := h
  obtain ⟨ap1, ap2, ap3, ap4, ap5, ap6, ap7, ap8⟩ := hpa.ap hz
  have h14 := hW.p.2.1.2
  have h6 := hW.p.1.2.2
  have h10 := hW.p.2.2.1.2
  refine Ct.of k11_claim.1 (Nat.le_of_ble_eq_true rfl) ?_
  by_cases hc : inR (kn K 6) c = true
  · have q1 := c11_needPerson G M h0 hc
    by_cases h96 : K 96 = -1
    · have ht : tClm K c d = 2 := by rw [tClm, if_pos hc, if_pos h96]
      rw [ht]
      refine v_aload_n dX11_claim_0 rfl ?_
      refine v_iload_n dX11_claim_1 rfl ?_
      refine v_cVv [_] (q1) k11_needPerson dX11_claim_2 l11_216 (by first | exact hS.1 _ _ rfl | exact hS'.1 _ _ rfl | assumption) (by decide) rfl (Nat.le_of_ble_eq_true rfl) (Nat.le_of_ble_eq_true rfl) ?_
      refine v_aload_n dX11_claim_5 rfl ?_
      refine v_callV [] (c11_needStakeF G M h0 h96) k11_needStake dX11_claim_6 l11_219 (by first | exact hS.1 _ _ rfl | exact hS'.1 _ _ rfl | assumption) (by decide) rfl (Nat.le_of_ble_eq_true rfl) (Nat.le_of_ble_eq_true rfl) (fun _ _ h => h.elim) (fun E M9 he => ?_)
      exact Xt.of he (by simp)
    · have q2 := c11_needStake G M h0 h96
      by_cases hd : isDI (kn K 3) d = true
      · have q3 := c11_needDescription G M h0 hd
        have ht : tClm K c d = 0 := by rw [tClm, if_pos hc, if_neg h96, if_pos hd]
        rw [show clmK K c d = uK (kepK K) (97 + c.toNatClampNeg) d from if_pos ht, ht]
        obtain ⟨j, hj, rfl, hj2⟩ := inR_of hc
        obtain ⟨D, rfl, hD, hD2, hD3⟩ := isDI_of hd
        obtain ⟨hD4, hD5⟩ := isDN_dj hD3
        have hp6 := hW.p.2.2.2.2.2.1.2.2
        rw [hD2, nI_clamp hj2]
        refine v_aload_n dX11_claim_0 rfl ?_
        refine v_iload_n dX11_claim_1 rfl ?_
        refine v_cVv [_] (q1) k11_needPerson dX11_claim_2 l11_216 (by first | exact hS.1 _ _ rfl | exact hS'.1 _ _ rfl | assumption) (by decide) rfl (Nat.le_of_ble_eq_true rfl) (Nat.le_of_ble_eq_true rfl) ?_
        refine v_aload_n dX11_claim_5 rfl ?_
        refine v_cVv [] (q2) k11_needStake dX11_claim_6 l11_219 (by first | exact hS.1 _ _ rfl | exact hS'.1 _ _ rfl | assumption) (by decide) rfl (Nat.le_of_ble_eq_true rfl) (Nat.le_of_ble_eq_true rfl) ?_
        refine v_aload_n dX11_claim_9 rfl ?_
        refine v_iload_n dX11_claim_10 rfl ?_
        refine v_cVv [_] (q3) k11_needDescription dX11_claim_11 l11_177 (by first | exact hS.1 _ _ rfl | exact hS'.1 _ _ rfl | assumption) (by decide) rfl (Nat.le_of_ble_eq_true rfl) (Nat.le_of_ble_eq_true rfl) ?_
        refine v_aload_n dX11_claim_14 rfl ?_
        refine v_getR 11 6 _ dX11_claim_15 f11_34 (by first | exact hS.1 _ _ rfl | exact hS'.1 _ _ rfl | assumption) (by decide) (by first | exact hp0 | exact hq0 | exact hS.2 _ _ _ rfl | exact hS'.2 _ _ _ rfl | assumption) ?_
        refine v_scVv [] (c11_rem G M h0) k6_remember dX11_claim_18 l11_222 (by first | exact hS.1 _ _ rfl | exact hS'.1 _ _ rfl | assumption) (by decide) rfl (Nat.le_of_ble_eq_true rfl) (Nat.le_of_ble_eq_true rfl) ?_
        intro M2 hM2; have h2 := hM2.2; have hs2 := h2.sd; obtain ⟨hS', hW2, hz2, hsc2, p2, cd2, n2, rd2, l2, hq0, hq, hqrd, hqa⟩ := id h2
        refine v_aload_n dX11_claim_21 rfl ?_
        refine v_getR 11 6 _ dX11_claim_22 f11_34 (by first | exact hS.1 _ _ rfl | exact hS'.1 _ _ rfl | assumption) (by decide) (by first | exact hp0 | exact hq0 | exact hS.2 _ _ _ rfl | exact hS'.2 _ _ _ rfl | assumption) ?_
        refine v_getR 6 1 _ dX11_claim_25 f11_119 (by first | exact hS.1 _ _ rfl | exact hS'.1 _ _ rfl | assumption) (by decide) (by first | exact hp0 | exact hq0 | exact hS.2 _ _ _ rfl | exact hS'.2 _ _ _ rfl | assumption) ?_
        refine v_getR 7 3 _ dX11_claim_28 f11_225 (by first | exact hS.1 _ _ rfl | exact hS'.1 _ _ rfl | assumption) (by decide) (by first | exact hp0 | exact hq0 | exact hS.2 _ _ _ rfl | exact hS'.2 _ _ _ rfl | assumption) ?_
        refine v_iload_n dX11_claim_31 rfl ?_
        refine v_iload_n dX11_claim_32 rfl ?_
        skip
        have hw := hW2.clm (p := j) (by rw [(kep2 hW).2.2.2]; exact hj) (d := D) (by rw [(kep2 hW).2.2.1]; exact hD3)
        have m3 := nowS M2 h2 (M' := sI M2 130 j (nI D)) (Sm.rf.st _ rfl) (hs2.clm hW2.p (by omega) (nI D)) hw (fun i hi => uK_n _ _ (by omega))
        have hs3 := m3.2.sd
        have hS'' := m3.2.1
        have q4 := c7_toldBy G (sI M2 130 j (nI D)) hs3 hw hD4 hD5
        have e96 : gI (sI M2 130 j (nI D)) 126 6 = K 96 := by rw [hs3.2.2.2.2.1, uK_n _ _ (by omega), kepK_o hW (by omega)]
        refine v_iastN j dX11_claim_33 (hS'.1 _ _ rfl) rfl ⟨by omega, by omega⟩ ?_
        by_cases hb : telK (uK (kepK K) (97 + j) (nI D)) D = K 96
        · rw [bI_t hb]
          refine v_aload_n dX11_claim_34 rfl ?_
          refine v_getR 11 6 _ dX11_claim_35 f11_34 (hS''.1 _ _ rfl) (by decide) (hS''.2 _ _ _ rfl) ?_
          refine v_getR 6 1 _ dX11_claim_38 f11_119 (hS''.1 _ _ rfl) (by decide) (hS''.2 _ _ _ rfl) ?_
          refine v_iload_n dX11_claim_41 rfl ?_
          refine v_cV [_] (q4) k7_toldBy dX11_claim_42 l11_183 (hS''.1 _ _ rfl) (by decide) rfl (Nat.le_of_ble_eq_true rfl) (Nat.le_of_ble_eq_true rfl) ?_
          refine v_aload_n dX11_claim_45 rfl ?_
          refine v_getR 11 6 _ dX11_claim_46 f11_34 (hS''.1 _ _ rfl) (by decide) (hS''.2 _ _ _ rfl) ?_
          refine v_getR 6 1 _ dX11_claim_49 f11_119 (hS''.1 _ _ rfl) (by decide) (hS''.2 _ _ _ rfl) ?_
          refine v_getI 7 6 dX11_claim_52 f11_228 (hS''.1 _ _ rfl) (by decide) ?_
          rw [e96]
          refine v_icmp_ne 62 dX11_claim_55 (by decide) (fun h55 => absurd hb h55) (fun h55 => ?_)
          refine v_iconst 1 dX11_claim_58 (by decide) ?_
          refine v_goto 63 dX11_claim_59 (by decide) ?_
          refine v_iret dX11_claim_63 rfl ?_
          exact ⟨rfl, rfl, hM2.1.tr m3.1, m3.2⟩
        · rw [bI_f hb]
          refine v_aload_n dX11_claim_34 rfl ?_
          refine v_getR 11 6 _ dX11_claim_35 f11_34 (hS''.1 _ _ rfl) (by decide) (hS''.2 _ _ _ rfl) ?_
          refine v_getR 6 1 _ dX11_claim_38 f11_119 (hS''.1 _ _ rfl) (by decide) (hS''.2 _ _ _ rfl) ?_
          refine v_iload_n dX11_claim_41 rfl ?_
          refine v_cV [_] (q4) k7_toldBy dX11_claim_42 l11_183 (hS''.1 _ _ rfl) (by decide) rfl (Nat.le_of_ble_eq_true rfl) (Nat.le_of_ble_eq_true rfl) ?_
          refine v_aload_n dX11_claim_45 rfl ?_
          refine v_getR 11 6 _ dX11_claim_46 f11_34 (hS''.1 _ _ rfl) (by decide) (hS''.2 _ _ _ rfl) ?_
          refine v_getR 6 1 _ dX11_claim_49 f11_119 (hS''.1 _ _ rfl) (by decide) (hS''.2 _ _ _ rfl) ?_
          refine v_getI 7 6 dX11_claim_52 f11_228 (hS''.1 _ _ rfl) (by decide) ?_
          rw [e96]
          refine v_icmp_ne 62 dX11_claim_55 (by decide) (fun h55 => ?_) (fun h55 => absurd (Decidable.not_not.mp h55) hb)
          refine v_iconst 0 dX11_claim_62 (by decide) ?_
          refine v_iret dX11_claim_63 rfl ?_
          exact ⟨rfl, rfl, hM2.1.tr m3.1, m3.2⟩
      · have ht : tClm K c d = 3 := by rw [tClm, if_pos hc, if_neg h96, if_neg hd]
        rw [ht]
        refine v_aload_n dX11_claim_0 rfl ?_
        refine v_iload_n dX11_claim_1 rfl ?_
        refine v_cVv [_] (q1) k11_needPerson dX11_claim_2 l11_216 (by first | exact hS.1 _ _ rfl | exact hS'.1 _ _ rfl | assumption) (by decide) rfl (Nat.le_of_ble_eq_true rfl) (Nat.le_of_ble_eq_true rfl) ?_
        refine v_aload_n dX11_claim_5 rfl ?_
        refine v_cVv [] (q2) k11_needStake dX11_claim_6 l11_219 (by first | exact hS.1 _ _ rfl | exact hS'.1 _ _ rfl | assumption) (by decide) rfl (Nat.le_of_ble_eq_true rfl) (Nat.le_of_ble_eq_true rfl) ?_
        refine v_aload_n dX11_claim_9 rfl ?_
        refine v_iload_n dX11_claim_10 rfl ?_
        refine v_callV [_] (c11_needDescriptionF G M h0 hd) k11_needDescription dX11_claim_11 l11_177 (by first | exact hS.1 _ _ rfl | exact hS'.1 _ _ rfl | assumption) (by decide) rfl (Nat.le_of_ble_eq_true rfl) (Nat.le_of_ble_eq_true rfl) (fun _ _ h => h.elim) (fun E M9 he => ?_)
        exact Xt.of he (by simp)
  · have ht : tClm K c d = 1 := if_neg hc
    rw [ht]
    refine v_aload_n dX11_claim_0 rfl ?_
    refine v_iload_n dX11_claim_1 rfl ?_
    refine v_callV [_] (c11_needPersonF G M h0 hc) k11_needPerson dX11_claim_2 l11_216 (by first | exact hS.1 _ _ rfl | exact hS'.1 _ _ rfl | assumption) (by decide) rfl (Nat.le_of_ble_eq_true rfl) (Nat.le_of_ble_eq_true rfl) (fun _ _ h => h.elim) (fun E M9 he => ?_)
    exact Xt.of he (by simp)
end O6
