/-! ===== the class LeastWords: least, by sound, by any light, prices, ways, books ===== -/
theorem prc_e (K : Nat → Int32) (c : Nat) : prcN K c = encE (lstN K c (2 ^ kn K 3 - 1) false) := by
  unfold prcN encE
  cases lstN K c (2 ^ kn K 3 - 1) false with
  | none => rfl
  | some x => obtain ⟨a, b⟩ := x; rfl
theorem lessN_big {K : Nat → Int32} (hP : WP K) (c : Nat) {x y : Nat} (hx : 190 < x) (hy : 190 < y) : lessN K c x = lessN K c y := by
  unfold lessN
  congr 1
  funext s
  have := costN_le hP (dsc K c s)
  rw [decide_eq_true (show costN K (dsc K c s) < x by omega), decide_eq_true (show costN K (dsc K c s) < y by omega)]
theorem and1023n {n : Nat} (h : n ≤ 10) : 1023 &&& (2 ^ n - 1) = 2 ^ n - 1 := by
  have : 2 ^ n ≤ 1024 := Nat.pow_le_pow_right (n := 2) (by decide) h
  rw [Nat.and_comm, show (1023 : Nat) = 2 ^ 10 - 1 from rfl, Nat.and_two_pow_sub_one_eq_mod, Nat.mod_eq_of_lt (by omega)]
theorem sjDe {M M' : mM} {K : Nat → Int32} (h : MR M K) (e : Sj Wde J202 M M') : Kp M M' ∧ MR M' K := h.sj e (fun q k hq => Wde_o (by unfold Hq at hq; omega) k) (fun q k hq => nbeq_f (by unfold Hq at hq; omega))
theorem sjBg {M M' : mM} {K : Nat → Int32} (h : MR M K) (e : Sj Wbg J206 M M') : Kp M M' ∧ MR M' K := h.sj e (fun q k hq => Wbg_o (by unfold Hq at hq; omega) k) (fun q k hq => nbeq_f (by unfold Hq at hq; omega))
theorem smDf {M M' : mM} {K : Nat → Int32} (h : MR M K) (e : Sm Wdf M M') : Kp M M' ∧ MR M' K := h.sj (W := Wdf) (J := J202) e.j (fun q k hq => nbeq_f (by unfold Hq at hq; omega)) (fun q k hq => nbeq_f (by unfold Hq at hq; omega))
section O3
variable (G : mG) (M : mM)
theorem c11_least {K : Nat → Int32} (h : MR M K) (c : Int32) : Ct G Y11_least 40 1 6 [.ref 100, .int c] M (Qt (chF K c) (some (.int (encD (lstN K c.toNatClampNeg (2 ^ kn K 3 - 1) false)))) M (K)) (Xt [(1, nsE), (2, isE)] (chF K c) M) := by
  have h0 := h
  have hs := h.sd
  obtain ⟨hS, hW, hz, hsc, p, cd, n, rd, l1, hp0, hp, hrd, hpa⟩ := h
  obtain ⟨ap1, ap2, ap3, ap4, ap5, ap6, ap7, ap8⟩ := hpa.ap hz
  have h14 := hW.p.2.1.2
  have h6 := hW.p.1.2.2
  have h10 := hW.p.2.2.1.2
  refine Ct.of k11_least.1 (Nat.le_of_ble_eq_true rfl) ?_
  by_cases hc : chF K c = 0
  · obtain ⟨j, hj, rfl, hb, hc0⟩ := chF_ok (K := K) (c := c) (by rw [hc]; decide)
    have q1 := c11_needChestIn G M h0 hj hb
    rw [hc, nI_clamp (by omega)]
    have q2 := c1_cheapest G M hS hs hp hW ap4 hj 1023
    have hp3 : 2 ^ kn K 3 ≤ 1024 := Nat.pow_le_pow_right (n := 2) (by decide) h10
    rw [and1023n h10] at q2
    refine v_aload_n dX11_least_0 rfl ?_
    refine v_iload_n dX11_least_1 rfl ?_
    refine v_cVv [_] (q1) k11_needChestIn dX11_least_2 l11_190 (by first | exact hS.1 _ _ rfl | assumption) (by decide) rfl (Nat.le_of_ble_eq_true rfl) (Nat.le_of_ble_eq_true rfl) ?_
    refine v_aload_n dX11_least_5 rfl ?_
    refine v_getR 11 10 _ dX11_least_6 f11_58 (by first | exact hS.1 _ _ rfl | assumption) (by decide) (by first | exact hS.2 _ _ _ rfl | assumption) ?_
    refine v_aload_n dX11_least_9 rfl ?_
    refine v_getR 11 6 _ dX11_least_10 f11_34 (by first | exact hS.1 _ _ rfl | assumption) (by decide) (by first | exact hS.2 _ _ _ rfl | assumption) ?_
    refine v_getR 6 0 _ dX11_least_13 f11_130 (by first | exact hS.1 _ _ rfl | assumption) (by decide) (by first | exact hS.2 _ _ _ rfl | assumption) ?_
    refine v_aload_n dX11_least_16 rfl ?_
    refine v_getR 11 6 _ dX11_least_17 f11_34 (by first | exact hS.1 _ _ rfl | assumption) (by decide) (by first | exact hS.2 _ _ _ rfl | assumption) ?_
    refine v_getR 6 1 _ dX11_least_20 f11_119 (by first | exact hS.1 _ _ rfl | assumption) (by decide) (by first | exact hS.2 _ _ _ rfl | assumption) ?_
    refine v_iload_n dX11_least_23 rfl ?_
    refine v_sipush 1023 dX11_least_24 (by decide) ?_
    refine v_scV [_, _, _, _] (q2) k1_cheapest dX11_least_27 l11_193 (by first | exact hS.1 _ _ rfl | assumption) (by decide) rfl (Nat.le_of_ble_eq_true rfl) (Nat.le_of_ble_eq_true rfl) ?_
    intro M2 hM2; have hS' := hS.sj hM2; have mm := sjDe h0 hM2
    refine v_cS [_] (c1_numberIn G M2 _ (lstN_b hW.p (by omega))) k1_numberIn dX11_least_30 l11_197 rfl (Nat.le_of_ble_eq_true rfl) (Nat.le_of_ble_eq_true rfl) ?_
    refine v_iret dX11_least_33 rfl ?_
    exact ⟨rfl, rfl, mm.1, mm.2⟩
  · refine v_aload_n dX11_least_0 rfl ?_
    refine v_iload_n dX11_least_1 rfl ?_
    refine v_callV [_] (c11_needChestInF G M h0 hc) k11_needChestIn dX11_least_2 l11_190 (by first | exact hS.1 _ _ rfl | assumption) (by decide) rfl (Nat.le_of_ble_eq_true rfl) (Nat.le_of_ble_eq_true rfl) (fun _ _ h => h.elim) (fun E M9 he => ?_)
    exact he.elim (fun z => Xt.of z.2 (by rw [z.1]; simp)) (fun z => Xt.of z.2 (by rw [z.1]; simp))
theorem c11_blind {K : Nat → Int32} (h : MR M K) (c : Int32) : Ct G Y11_blind 40 1 6 [.ref 100, .int c] M (Qt (chF K c) (some (.int (encD (lstN K c.toNatClampNeg (kn K 119 &&& (2 ^ kn K 3 - 1)) false)))) M (K)) (Xt [(1, nsE), (2, isE)] (chF K c) M) := by
  have h0 := h
  have hs := h.sd
  obtain ⟨hS, hW, hz, hsc, p, cd, n, rd, l1, hp0, hp, hrd, hpa⟩ := h
  obtain ⟨ap1, ap2, ap3, ap4, ap5, ap6, ap7, ap8⟩ := hpa.ap hz
  have h14 := hW.p.2.1.2
  have h6 := hW.p.1.2.2
  have h10 := hW.p.2.2.1.2
  refine Ct.of k11_blind.1 (Nat.le_of_ble_eq_true rfl) ?_
  by_cases hc : chF K c = 0
  · obtain ⟨j, hj, rfl, hb, hc0⟩ := chF_ok (K := K) (c := c) (by rw [hc]; decide)
    have q1 := c11_needChestIn G M h0 hj hb
    rw [hc, nI_clamp (by omega)]
    have q2 := c1_cheapest G M hS hs hp hW ap4 hj (kn K 119)
    have hp3 : 2 ^ kn K 3 ≤ 1024 := Nat.pow_le_pow_right (n := 2) (by decide) h10
    refine v_aload_n dX11_blind_0 rfl ?_
    refine v_iload_n dX11_blind_1 rfl ?_
    refine v_cVv [_] (q1) k11_needChestIn dX11_blind_2 l11_190 (by first | exact hS.1 _ _ rfl | assumption) (by decide) rfl (Nat.le_of_ble_eq_true rfl) (Nat.le_of_ble_eq_true rfl) ?_
    refine v_aload_n dX11_blind_5 rfl ?_
    refine v_getR 11 10 _ dX11_blind_6 f11_58 (by first | exact hS.1 _ _ rfl | assumption) (by decide) (by first | exact hS.2 _ _ _ rfl | assumption) ?_
    refine v_aload_n dX11_blind_9 rfl ?_
    refine v_getR 11 6 _ dX11_blind_10 f11_34 (by first | exact hS.1 _ _ rfl | assumption) (by decide) (by first | exact hS.2 _ _ _ rfl | assumption) ?_
    refine v_getR 6 0 _ dX11_blind_13 f11_130 (by first | exact hS.1 _ _ rfl | assumption) (by decide) (by first | exact hS.2 _ _ _ rfl | assumption) ?_
    refine v_aload_n dX11_blind_16 rfl ?_
    refine v_getR 11 6 _ dX11_blind_17 f11_34 (by first | exact hS.1 _ _ rfl | assumption) (by decide) (by first | exact hS.2 _ _ _ rfl | assumption) ?_
    refine v_getR 6 1 _ dX11_blind_20 f11_119 (by first | exact hS.1 _ _ rfl | assumption) (by decide) (by first | exact hS.2 _ _ _ rfl | assumption) ?_
    refine v_iload_n dX11_blind_23 rfl ?_
    refine v_aload_n dX11_blind_24 rfl ?_
    refine v_getR 11 6 _ dX11_blind_25 f11_34 (by first | exact hS.1 _ _ rfl | assumption) (by decide) (by first | exact hS.2 _ _ _ rfl | assumption) ?_
    refine v_getR 6 0 _ dX11_blind_28 f11_130 (by first | exact hS.1 _ _ rfl | assumption) (by decide) (by first | exact hS.2 _ _ _ rfl | assumption) ?_
    refine v_getI 4 5 dX11_blind_31 f11_167 hp.1.1 (by decide) ?_
    rw [hp.2.1.2.2.2.2.1, hW.p.2.2.2.2.2.2.2.2.2.1]
    refine v_scV [_, _, _, _] (q2) k1_cheapest dX11_blind_34 l11_193 (by first | exact hS.1 _ _ rfl | assumption) (by decide) rfl (Nat.le_of_ble_eq_true rfl) (Nat.le_of_ble_eq_true rfl) ?_
    intro M2 hM2; have hS' := hS.sj hM2; have mm := sjDe h0 hM2
    refine v_cS [_] (c1_numberIn G M2 _ (lstN_b hW.p (Nat.lt_of_le_of_lt Nat.and_le_right (by omega)))) k1_numberIn dX11_blind_37 l11_197 rfl (Nat.le_of_ble_eq_true rfl) (Nat.le_of_ble_eq_true rfl) ?_
    refine v_iret dX11_blind_40 rfl ?_
    exact ⟨rfl, rfl, mm.1, mm.2⟩
  · refine v_aload_n dX11_blind_0 rfl ?_
    refine v_iload_n dX11_blind_1 rfl ?_
    refine v_callV [_] (c11_needChestInF G M h0 hc) k11_needChestIn dX11_blind_2 l11_190 (by first | exact hS.1 _ _ rfl | assumption) (by decide) rfl (Nat.le_of_ble_eq_true rfl) (Nat.le_of_ble_eq_true rfl) (fun _ _ h => h.elim) (fun E M9 he => ?_)
    exact he.elim (fun z => Xt.of z.2 (by rw [z.1]; simp)) (fun z => Xt.of z.2 (by rw [z.1]; simp))
theorem c11_sure {K : Nat → Int32} (h : MR M K) (c : Int32) : Ct G Y11_sure 40 1 6 [.ref 100, .int c] M (Qt (chF K c) (some (.int (encD (lstN K c.toNatClampNeg (2 ^ kn K 3 - 1) true)))) M (K)) (Xt [(1, nsE), (2, isE)] (chF K c) M) := by
  have h0 := h
  have hs := h.sd
  obtain ⟨hS, hW, hz, hsc, p, cd, n, rd, l1, hp0, hp, hrd, hpa⟩ := h
  obtain ⟨ap1, ap2, ap3, ap4, ap5, ap6, ap7, ap8⟩ := hpa.ap hz
  have h14 := hW.p.2.1.2
  have h6 := hW.p.1.2.2
  have h10 := hW.p.2.2.1.2
  refine Ct.of k11_sure.1 (Nat.le_of_ble_eq_true rfl) ?_
  by_cases hc : chF K c = 0
  · obtain ⟨j, hj, rfl, hb, hc0⟩ := chF_ok (K := K) (c := c) (by rw [hc]; decide)
    have q1 := c11_needChestIn G M h0 hj hb
    rw [hc, nI_clamp (by omega)]
    have q2 := c1_sure G M hS hs hp hW ap4 hj
    have hp3 : 2 ^ kn K 3 ≤ 1024 := Nat.pow_le_pow_right (n := 2) (by decide) h10
    refine v_aload_n dX11_sure_0 rfl ?_
    refine v_iload_n dX11_sure_1 rfl ?_
    refine v_cVv [_] (q1) k11_needChestIn dX11_sure_2 l11_190 (by first | exact hS.1 _ _ rfl | assumption) (by decide) rfl (Nat.le_of_ble_eq_true rfl) (Nat.le_of_ble_eq_true rfl) ?_
    refine v_aload_n dX11_sure_5 rfl ?_
    refine v_getR 11 10 _ dX11_sure_6 f11_58 (by first | exact hS.1 _ _ rfl | assumption) (by decide) (by first | exact hS.2 _ _ _ rfl | assumption) ?_
    refine v_aload_n dX11_sure_9 rfl ?_
    refine v_getR 11 6 _ dX11_sure_10 f11_34 (by first | exact hS.1 _ _ rfl | assumption) (by decide) (by first | exact hS.2 _ _ _ rfl | assumption) ?_
    refine v_getR 6 0 _ dX11_sure_13 f11_130 (by first | exact hS.1 _ _ rfl | assumption) (by decide) (by first | exact hS.2 _ _ _ rfl | assumption) ?_
    refine v_aload_n dX11_sure_16 rfl ?_
    refine v_getR 11 6 _ dX11_sure_17 f11_34 (by first | exact hS.1 _ _ rfl | assumption) (by decide) (by first | exact hS.2 _ _ _ rfl | assumption) ?_
    refine v_getR 6 1 _ dX11_sure_20 f11_119 (by first | exact hS.1 _ _ rfl | assumption) (by decide) (by first | exact hS.2 _ _ _ rfl | assumption) ?_
    refine v_iload_n dX11_sure_23 rfl ?_
    refine v_scV [_, _, _] (q2) k1_cheapestByAnLight dX11_sure_24 l11_201 (by first | exact hS.1 _ _ rfl | assumption) (by decide) rfl (Nat.le_of_ble_eq_true rfl) (Nat.le_of_ble_eq_true rfl) ?_
    intro M2 hM2; have hS' := hS.sj hM2; have mm := sjDe h0 hM2
    refine v_cS [_] (c1_numberIn G M2 _ (lstN_b hW.p (by omega))) k1_numberIn dX11_sure_27 l11_197 rfl (Nat.le_of_ble_eq_true rfl) (Nat.le_of_ble_eq_true rfl) ?_
    refine v_iret dX11_sure_30 rfl ?_
    exact ⟨rfl, rfl, mm.1, mm.2⟩
  · refine v_aload_n dX11_sure_0 rfl ?_
    refine v_iload_n dX11_sure_1 rfl ?_
    refine v_callV [_] (c11_needChestInF G M h0 hc) k11_needChestIn dX11_sure_2 l11_190 (by first | exact hS.1 _ _ rfl | assumption) (by decide) rfl (Nat.le_of_ble_eq_true rfl) (Nat.le_of_ble_eq_true rfl) (fun _ _ h => h.elim) (fun E M9 he => ?_)
    exact he.elim (fun z => Xt.of z.2 (by rw [z.1]; simp)) (fun z => Xt.of z.2 (by rw [z.1]; simp))
theorem c11_price {K : Nat → Int32} (h : MR M K) (c : Int32) : Ct G Y11_price 40 1 6 [.ref 100, .int c] M (Qt (chF K c) (some (.int (prcN K c.toNatClampNeg))) M (K)) (Xt [(1, nsE), (2, isE)] (chF K c) M) := by
  have h0 := h
  have hs := h.sd
  obtain ⟨hS, hW, hz, hsc, p, cd, n, rd, l1, hp0, hp, hrd, hpa⟩ := h
  obtain ⟨ap1, ap2, ap3, ap4, ap5, ap6, ap7, ap8⟩ := hpa.ap hz
  have h14 := hW.p.2.1.2
  have h6 := hW.p.1.2.2
  have h10 := hW.p.2.2.1.2
  refine Ct.of k11_price.1 (Nat.le_of_ble_eq_true rfl) ?_
  by_cases hc : chF K c = 0
  · obtain ⟨j, hj, rfl, hb, hc0⟩ := chF_ok (K := K) (c := c) (by rw [hc]; decide)
    have q1 := c11_needChestIn G M h0 hj hb
    rw [hc, nI_clamp (by omega)]
    have q2 := c1_cheapest G M hS hs hp hW ap4 hj 1023
    have hp3 : 2 ^ kn K 3 ≤ 1024 := Nat.pow_le_pow_right (n := 2) (by decide) h10
    rw [and1023n h10] at q2
    rw [prc_e]
    refine v_aload_n dX11_price_0 rfl ?_
    refine v_iload_n dX11_price_1 rfl ?_
    refine v_cVv [_] (q1) k11_needChestIn dX11_price_2 l11_190 (by first | exact hS.1 _ _ rfl | assumption) (by decide) rfl (Nat.le_of_ble_eq_true rfl) (Nat.le_of_ble_eq_true rfl) ?_
    refine v_aload_n dX11_price_5 rfl ?_
    refine v_getR 11 10 _ dX11_price_6 f11_58 (by first | exact hS.1 _ _ rfl | assumption) (by decide) (by first | exact hS.2 _ _ _ rfl | assumption) ?_
    refine v_aload_n dX11_price_9 rfl ?_
    refine v_getR 11 6 _ dX11_price_10 f11_34 (by first | exact hS.1 _ _ rfl | assumption) (by decide) (by first | exact hS.2 _ _ _ rfl | assumption) ?_
    refine v_getR 6 0 _ dX11_price_13 f11_130 (by first | exact hS.1 _ _ rfl | assumption) (by decide) (by first | exact hS.2 _ _ _ rfl | assumption) ?_
    refine v_aload_n dX11_price_16 rfl ?_
    refine v_getR 11 6 _ dX11_price_17 f11_34 (by first | exact hS.1 _ _ rfl | assumption) (by decide) (by first | exact hS.2 _ _ _ rfl | assumption) ?_
    refine v_getR 6 1 _ dX11_price_20 f11_119 (by first | exact hS.1 _ _ rfl | assumption) (by decide) (by first | exact hS.2 _ _ _ rfl | assumption) ?_
    refine v_iload_n dX11_price_23 rfl ?_
    refine v_sipush 1023 dX11_price_24 (by decide) ?_
    refine v_scV [_, _, _, _] (q2) k1_cheapest dX11_price_27 l11_193 (by first | exact hS.1 _ _ rfl | assumption) (by decide) rfl (Nat.le_of_ble_eq_true rfl) (Nat.le_of_ble_eq_true rfl) ?_
    intro M2 hM2; have hS' := hS.sj hM2; have mm := sjDe h0 hM2
    refine v_cS [_] (c1_costIn G M2 _ (lstN_b hW.p (by omega))) k1_costIn dX11_price_30 l11_205 rfl (Nat.le_of_ble_eq_true rfl) (Nat.le_of_ble_eq_true rfl) ?_
    refine v_iret dX11_price_33 rfl ?_
    exact ⟨rfl, rfl, mm.1, mm.2⟩
  · refine v_aload_n dX11_price_0 rfl ?_
    refine v_iload_n dX11_price_1 rfl ?_
    refine v_callV [_] (c11_needChestInF G M h0 hc) k11_needChestIn dX11_price_2 l11_190 (by first | exact hS.1 _ _ rfl | assumption) (by decide) rfl (Nat.le_of_ble_eq_true rfl) (Nat.le_of_ble_eq_true rfl) (fun _ _ h => h.elim) (fun E M9 he => ?_)
    exact he.elim (fun z => Xt.of z.2 (by rw [z.1]; simp)) (fun z => Xt.of z.2 (by rw [z.1]; simp))
theorem c11_ways {K : Nat → Int32} (h : MR M K) (c : Int32) : Ct G Y11_ways 40 1 6 [.ref 100, .int c] M (Qt (chF K c) (some (.int (nI (lessN K c.toNatClampNeg 536870912)))) M (K)) (Xt [(1, nsE), (2, isE)] (chF K c) M) := by
  have h0 := h
  have hs := h.sd
  obtain ⟨hS, hW, hz, hsc, p, cd, n, rd, l1, hp0, hp, hrd, hpa⟩ := h
  obtain ⟨ap1, ap2, ap3, ap4, ap5, ap6, ap7, ap8⟩ := hpa.ap hz
  have h14 := hW.p.2.1.2
  have h6 := hW.p.1.2.2
  have h10 := hW.p.2.2.1.2
  refine Ct.of k11_ways.1 (Nat.le_of_ble_eq_true rfl) ?_
  by_cases hc : chF K c = 0
  · obtain ⟨j, hj, rfl, hb, hc0⟩ := chF_ok (K := K) (c := c) (by rw [hc]; decide)
    have q1 := c11_needChestIn G M h0 hj hb
    rw [hc, nI_clamp (by omega)]
    rw [lessN_big hW.p j (show 190 < 536870912 by decide) (show 190 < 2147483647 by decide)]
    refine v_aload_n dX11_ways_0 rfl ?_
    refine v_iload_n dX11_ways_1 rfl ?_
    refine v_cVv [_] (q1) k11_needChestIn dX11_ways_2 l11_190 (by first | exact hS.1 _ _ rfl | assumption) (by decide) rfl (Nat.le_of_ble_eq_true rfl) (Nat.le_of_ble_eq_true rfl) ?_
    refine v_aload_n dX11_ways_5 rfl ?_
    refine v_getR 11 10 _ dX11_ways_6 f11_58 (by first | exact hS.1 _ _ rfl | assumption) (by decide) (by first | exact hS.2 _ _ _ rfl | assumption) ?_
    refine v_aload_n dX11_ways_9 rfl ?_
    refine v_getR 11 6 _ dX11_ways_10 f11_34 (by first | exact hS.1 _ _ rfl | assumption) (by decide) (by first | exact hS.2 _ _ _ rfl | assumption) ?_
    refine v_getR 6 0 _ dX11_ways_13 f11_130 (by first | exact hS.1 _ _ rfl | assumption) (by decide) (by first | exact hS.2 _ _ _ rfl | assumption) ?_
    refine v_aload_n dX11_ways_16 rfl ?_
    refine v_getR 11 6 _ dX11_ways_17 f11_34 (by first | exact hS.1 _ _ rfl | assumption) (by decide) (by first | exact hS.2 _ _ _ rfl | assumption) ?_
    refine v_getR 6 1 _ dX11_ways_20 f11_119 (by first | exact hS.1 _ _ rfl | assumption) (by decide) (by first | exact hS.2 _ _ _ rfl | assumption) ?_
    refine v_iload_n dX11_ways_23 rfl ?_
    refine v_ldc 2147483647 dX11_ways_24 K11_211 ?_
    refine v_scV [_, _, _, _] (c1_tellingBelow G M hS hs hp hW ap4 hj (x := 2147483647) (by decide)) k1_tellingBelow dX11_ways_26 l11_212 (by first | exact hS.1 _ _ rfl | assumption) (by decide) rfl (Nat.le_of_ble_eq_true rfl) (Nat.le_of_ble_eq_true rfl) ?_
    intro M2 hM2; have hS' := hS.sj hM2; have mm := sjDe h0 hM2
    refine v_iret dX11_ways_29 rfl ?_
    exact ⟨rfl, rfl, mm.1, mm.2⟩
  · refine v_aload_n dX11_ways_0 rfl ?_
    refine v_iload_n dX11_ways_1 rfl ?_
    refine v_callV [_] (c11_needChestInF G M h0 hc) k11_needChestIn dX11_ways_2 l11_190 (by first | exact hS.1 _ _ rfl | assumption) (by decide) rfl (Nat.le_of_ble_eq_true rfl) (Nat.le_of_ble_eq_true rfl) (fun _ _ h => h.elim) (fun E M9 he => ?_)
    exact he.elim (fun z => Xt.of z.2 (by rw [z.1]; simp)) (fun z => Xt.of z.2 (by rw [z.1]; simp))
theorem c11_greedy {K : Nat → Int32} (h : MR M K) (c : Int32) : Ct G Y11_greedy 40 1 6 [.ref 100, .int c] M (Qt (chF K c) (some (.int (grO K c.toNatClampNeg 16 0))) M (K)) (Xt [(1, nsE), (2, isE)] (chF K c) M) := by
  have h0 := h
  have hs := h.sd
  obtain ⟨hS, hW, hz, hsc, p, cd, n, rd, l1, hp0, hp, hrd, hpa⟩ := h
  obtain ⟨ap1, ap2, ap3, ap4, ap5, ap6, ap7, ap8⟩ := hpa.ap hz
  have h14 := hW.p.2.1.2
  have h6 := hW.p.1.2.2
  have h10 := hW.p.2.2.1.2
  refine Ct.of k11_greedy.1 (Nat.le_of_ble_eq_true rfl) ?_
  by_cases hc : chF K c = 0
  · obtain ⟨j, hj, rfl, hb, hc0⟩ := chF_ok (K := K) (c := c) (by rw [hc]; decide)
    have q1 := c11_needChestIn G M h0 hj hb
    rw [hc, nI_clamp (by omega)]
    skip
    refine v_aload_n dX11_greedy_0 rfl ?_
    refine v_iload_n dX11_greedy_1 rfl ?_
    refine v_cVv [_] (q1) k11_needChestIn dX11_greedy_2 l11_190 (by first | exact hS.1 _ _ rfl | assumption) (by decide) rfl (Nat.le_of_ble_eq_true rfl) (Nat.le_of_ble_eq_true rfl) ?_
    refine v_aload_n dX11_greedy_5 rfl ?_
    refine v_getR 11 10 _ dX11_greedy_6 f11_58 (by first | exact hS.1 _ _ rfl | assumption) (by decide) (by first | exact hS.2 _ _ _ rfl | assumption) ?_
    refine v_aload_n dX11_greedy_9 rfl ?_
    refine v_getR 11 6 _ dX11_greedy_10 f11_34 (by first | exact hS.1 _ _ rfl | assumption) (by decide) (by first | exact hS.2 _ _ _ rfl | assumption) ?_
    refine v_getR 6 0 _ dX11_greedy_13 f11_130 (by first | exact hS.1 _ _ rfl | assumption) (by decide) (by first | exact hS.2 _ _ _ rfl | assumption) ?_
    refine v_aload_n dX11_greedy_16 rfl ?_
    refine v_getR 11 6 _ dX11_greedy_17 f11_34 (by first | exact hS.1 _ _ rfl | assumption) (by decide) (by first | exact hS.2 _ _ _ rfl | assumption) ?_
    refine v_getR 6 1 _ dX11_greedy_20 f11_119 (by first | exact hS.1 _ _ rfl | assumption) (by decide) (by first | exact hS.2 _ _ _ rfl | assumption) ?_
    refine v_iload_n dX11_greedy_23 rfl ?_
    refine v_scV [_, _, _] (c1_wordByWord G M hS hs hp hW ap4 hj) k1_wordByWord dX11_greedy_24 l11_365 (by first | exact hS.1 _ _ rfl | assumption) (by decide) rfl (Nat.le_of_ble_eq_true rfl) (Nat.le_of_ble_eq_true rfl) ?_
    intro M2 hM2; have hS' := hS.sj hM2; have mm := sjDe h0 hM2
    refine v_iret dX11_greedy_27 rfl ?_
    exact ⟨rfl, rfl, mm.1, mm.2⟩
  · refine v_aload_n dX11_greedy_0 rfl ?_
    refine v_iload_n dX11_greedy_1 rfl ?_
    refine v_callV [_] (c11_needChestInF G M h0 hc) k11_needChestIn dX11_greedy_2 l11_190 (by first | exact hS.1 _ _ rfl | assumption) (by decide) rfl (Nat.le_of_ble_eq_true rfl) (Nat.le_of_ble_eq_true rfl) (fun _ _ h => h.elim) (fun E M9 he => ?_)
    exact he.elim (fun z => Xt.of z.2 (by rw [z.1]; simp)) (fun z => Xt.of z.2 (by rw [z.1]; simp))
theorem c11_rank {K : Nat → Int32} (h : MR M K) (d : Int32) : Ct G Y11_rank 40 1 6 [.ref 100, .int d] M (Qt (tD K d) (some (.int (rkN K d.toNatClampNeg))) M (K)) (Xt [(1, iaE)] (tD K d) M) := by
  have h0 := h
  have hs := h.sd
  obtain ⟨hS, hW, hz, hsc, p, cd, n, rd, l1, hp0, hp, hrd, hpa⟩ := h
  obtain ⟨ap1, ap2, ap3, ap4, ap5, ap6, ap7, ap8⟩ := hpa.ap hz
  have h14 := hW.p.2.1.2
  have h6 := hW.p.1.2.2
  have h10 := hW.p.2.2.1.2
  refine Ct.of k11_rank.1 (Nat.le_of_ble_eq_true rfl) ?_
  by_cases hd : isDI (kn K 3) d = true
  · have q1 := c11_needDescription G M h0 hd
    rw [show tD K d = 0 from if_pos hd]
    obtain ⟨D, rfl, hD, hD2, hD3⟩ := isDI_of hd
    obtain ⟨hD4, hD5⟩ := isDN_dj hD3
    rw [hD2]
    have q2 := c7_toldBy G M hs hW hD4 hD5
    have hcb := costN_le hW.p D
    rcases telK_of hW.p D with e | ⟨c, hc, e⟩
    · rw [show rkN K D = -1 from if_pos e]
      rw [e] at q2
      refine v_aload_n dX11_rank_0 rfl ?_
      refine v_iload_n dX11_rank_1 rfl ?_
      refine v_cVv [_] (q1) k11_needDescription dX11_rank_2 l11_177 (by first | exact hS.1 _ _ rfl | assumption) (by decide) rfl (Nat.le_of_ble_eq_true rfl) (Nat.le_of_ble_eq_true rfl) ?_
      refine v_aload_n dX11_rank_5 rfl ?_
      refine v_getR 11 6 _ dX11_rank_6 f11_34 (by first | exact hS.1 _ _ rfl | assumption) (by decide) (by first | exact hS.2 _ _ _ rfl | assumption) ?_
      refine v_getR 6 1 _ dX11_rank_9 f11_119 (by first | exact hS.1 _ _ rfl | assumption) (by decide) (by first | exact hS.2 _ _ _ rfl | assumption) ?_
      refine v_iload_n dX11_rank_12 rfl ?_
      refine v_cV [_] (q2) k7_toldBy dX11_rank_13 l11_183 (by first | exact hS.1 _ _ rfl | assumption) (by decide) rfl (Nat.le_of_ble_eq_true rfl) (Nat.le_of_ble_eq_true rfl) ?_
      refine v_istore_n dX11_rank_16 rfl (by decide) ?_
      refine v_iload_n dX11_rank_17 rfl ?_
      refine v_iconst (-1) dX11_rank_18 (by decide) ?_
      refine v_icmp_ne 24 dX11_rank_19 (by decide) (fun h19 => absurd rfl h19) (fun h19 => ?_)
      refine v_iconst (-1) dX11_rank_22 (by decide) ?_
      refine v_iret dX11_rank_23 rfl ?_
      exact ⟨rfl, rfl, Kp.rf, h0⟩
    · have hn : ¬ (nI c : Int32) = -1 := nI_m1 (by omega)
      rw [show rkN K D = nI (lessN K c (costN K D)) by rw [rkN, e, if_neg hn, nI_clamp (by omega)]]
      rw [e] at q2
      refine v_aload_n dX11_rank_0 rfl ?_
      refine v_iload_n dX11_rank_1 rfl ?_
      refine v_cVv [_] (q1) k11_needDescription dX11_rank_2 l11_177 (by first | exact hS.1 _ _ rfl | assumption) (by decide) rfl (Nat.le_of_ble_eq_true rfl) (Nat.le_of_ble_eq_true rfl) ?_
      refine v_aload_n dX11_rank_5 rfl ?_
      refine v_getR 11 6 _ dX11_rank_6 f11_34 (by first | exact hS.1 _ _ rfl | assumption) (by decide) (by first | exact hS.2 _ _ _ rfl | assumption) ?_
      refine v_getR 6 1 _ dX11_rank_9 f11_119 (by first | exact hS.1 _ _ rfl | assumption) (by decide) (by first | exact hS.2 _ _ _ rfl | assumption) ?_
      refine v_iload_n dX11_rank_12 rfl ?_
      refine v_cV [_] (q2) k7_toldBy dX11_rank_13 l11_183 (by first | exact hS.1 _ _ rfl | assumption) (by decide) rfl (Nat.le_of_ble_eq_true rfl) (Nat.le_of_ble_eq_true rfl) ?_
      refine v_istore_n dX11_rank_16 rfl (by decide) ?_
      refine v_iload_n dX11_rank_17 rfl ?_
      refine v_iconst (-1) dX11_rank_18 (by decide) ?_
      refine v_icmp_ne 24 dX11_rank_19 (by decide) (fun h19 => ?_) (fun h19 => absurd (Decidable.not_not.mp h19) hn)
      refine v_aload_n dX11_rank_24 rfl ?_
      refine v_getR 11 10 _ dX11_rank_25 f11_58 (by first | exact hS.1 _ _ rfl | assumption) (by decide) (by first | exact hS.2 _ _ _ rfl | assumption) ?_
      refine v_aload_n dX11_rank_28 rfl ?_
      refine v_getR 11 6 _ dX11_rank_29 f11_34 (by first | exact hS.1 _ _ rfl | assumption) (by decide) (by first | exact hS.2 _ _ _ rfl | assumption) ?_
      refine v_getR 6 0 _ dX11_rank_32 f11_130 (by first | exact hS.1 _ _ rfl | assumption) (by decide) (by first | exact hS.2 _ _ _ rfl | assumption) ?_
      refine v_aload_n dX11_rank_35 rfl ?_
      refine v_getR 11 6 _ dX11_rank_36 f11_34 (by first | exact hS.1 _ _ rfl | assumption) (by decide) (by first | exact hS.2 _ _ _ rfl | assumption) ?_
      refine v_getR 6 1 _ dX11_rank_39 f11_119 (by first | exact hS.1 _ _ rfl | assumption) (by decide) (by first | exact hS.2 _ _ _ rfl | assumption) ?_
      refine v_iload_n dX11_rank_42 rfl ?_
      refine v_aload_n dX11_rank_43 rfl ?_
      refine v_getR 11 6 _ dX11_rank_44 f11_34 (by first | exact hS.1 _ _ rfl | assumption) (by decide) (by first | exact hS.2 _ _ _ rfl | assumption) ?_
      refine v_getR 6 1 _ dX11_rank_47 f11_119 (by first | exact hS.1 _ _ rfl | assumption) (by decide) (by first | exact hS.2 _ _ _ rfl | assumption) ?_
      refine v_aload_n dX11_rank_50 rfl ?_
      refine v_getR 11 6 _ dX11_rank_51 f11_34 (by first | exact hS.1 _ _ rfl | assumption) (by decide) (by first | exact hS.2 _ _ _ rfl | assumption) ?_
      refine v_getR 6 0 _ dX11_rank_54 f11_130 (by first | exact hS.1 _ _ rfl | assumption) (by decide) (by first | exact hS.2 _ _ _ rfl | assumption) ?_
      refine v_iload_n dX11_rank_57 rfl ?_
      refine v_cV [_, _] (c7_costOf G M hs hp hW hD4) k7_costOf dX11_rank_58 l11_186 (by first | exact hS.1 _ _ rfl | assumption) (by decide) rfl (Nat.le_of_ble_eq_true rfl) (Nat.le_of_ble_eq_true rfl) ?_
      refine v_scV [_, _, _, _] (c1_tellingBelow G M hS hs hp hW ap4 hc (x := costN K D) (by omega)) k1_tellingBelow dX11_rank_61 l11_212 (by first | exact hS.1 _ _ rfl | assumption) (by decide) rfl (Nat.le_of_ble_eq_true rfl) (Nat.le_of_ble_eq_true rfl) ?_
      intro M2 hM2; have hS' := hS.sj hM2; have mm := sjDe h0 hM2
      refine v_iret dX11_rank_64 rfl ?_
      exact ⟨rfl, rfl, mm.1, mm.2⟩
  · have ht : tD K d = 1 := if_neg hd
    rw [ht]
    refine v_aload_n dX11_rank_0 rfl ?_
    refine v_iload_n dX11_rank_1 rfl ?_
    refine v_callV [_] (c11_needDescriptionF G M h0 hd) k11_needDescription dX11_rank_2 l11_177 (by first | exact hS.1 _ _ rfl | assumption) (by decide) rfl (Nat.le_of_ble_eq_true rfl) (Nat.le_of_ble_eq_true rfl) (fun _ _ h => h.elim) (fun E M9 he => ?_)
    exact Xt.of he (by simp)
theorem c11_hardened {K : Nat → Int32} (h : MR M K) (c : Int32) (m : Int32) : Ct G Y11_hardened 40 1 6 [.ref 100, .int c, .int m] M (Qt (hdT K c m) (some (.int (encO (hdF K c.toNatClampNeg m (outN K) (outN K + 1))))) M (K)) (Xt [(1, nsE), (2, isE), (3, iaE)] (hdT K c m) M) := by
  have h0 := h
  have hs := h.sd
  obtain ⟨hS, hW, hz, hsc, p, cd, n, rd, l1, hp0, hp, hrd, hpa⟩ := h
  obtain ⟨ap1, ap2, ap3, ap4, ap5, ap6, ap7, ap8⟩ := hpa.ap hz
  have h14 := hW.p.2.1.2
  have h6 := hW.p.1.2.2
  have h10 := hW.p.2.2.1.2
  refine Ct.of k11_hardened.1 (Nat.le_of_ble_eq_true rfl) ?_
  by_cases hc : chF K c = 0
  · obtain ⟨j, hj, rfl, hb, hc0⟩ := chF_ok (K := K) (c := c) (by rw [hc]; decide)
    have q1 := c11_needChestIn G M h0 hj hb
    have hp2 : 2 ^ kn K 2 ≤ 16384 := (show 2 ^ kn K 2 ≤ 2 ^ 14 from Nat.pow_le_pow_right (by decide) h14)
    have ho : outN K < 16384 := dif_lt (by omega)
    have hpc := pcn_le (outN K)
    rw [nI_clamp (by omega)]
    have eo : ∀ x : Int32, x = nI (2 ^ kn K 2 - 1) &&& (gI M 126 5 ^^^ (-1)) → x = nI (outN K) := fun x e => by rw [e, hs.2.2.2.1, hW.i.1, andnot]; rfl
    by_cases h6p : 6 < pcn (outN K)
    · have ht : hdT K (nI j) m = 2 := by rw [hdT, if_pos hc, if_pos h6p]
      rw [ht]
      refine v_aload_n dX11_hardened_0 rfl ?_
      refine v_iload_n dX11_hardened_1 rfl ?_
      refine v_cVv [_] (q1) k11_needChestIn dX11_hardened_2 l11_190 (by first | exact hS.1 _ _ rfl | assumption) (by decide) rfl (Nat.le_of_ble_eq_true rfl) (Nat.le_of_ble_eq_true rfl) ?_
      refine v_aload_n dX11_hardened_5 rfl ?_
      refine v_getR 11 6 _ dX11_hardened_6 f11_34 (by first | exact hS.1 _ _ rfl | assumption) (by decide) (by first | exact hS.2 _ _ _ rfl | assumption) ?_
      refine v_getR 6 0 _ dX11_hardened_9 f11_130 (by first | exact hS.1 _ _ rfl | assumption) (by decide) (by first | exact hS.2 _ _ _ rfl | assumption) ?_
      refine v_cV [] (c4_allChests G M hp hW.p) k4_allChests dX11_hardened_12 l11_319 hp.1.1 (by decide) rfl (Nat.le_of_ble_eq_true rfl) (Nat.le_of_ble_eq_true rfl) ?_
      refine v_aload_n dX11_hardened_15 rfl ?_
      refine v_getR 11 6 _ dX11_hardened_16 f11_34 (by first | exact hS.1 _ _ rfl | assumption) (by decide) (by first | exact hS.2 _ _ _ rfl | assumption) ?_
      refine v_getR 6 1 _ dX11_hardened_19 f11_119 (by first | exact hS.1 _ _ rfl | assumption) (by decide) (by first | exact hS.2 _ _ _ rfl | assumption) ?_
      refine v_getI 7 5 dX11_hardened_22 f11_288 (by first | exact hS.1 _ _ rfl | assumption) (by decide) ?_
      refine v_iconst (-1) dX11_hardened_25 (by decide) ?_
      refine v_ixor dX11_hardened_26 ?_
      refine v_iand dX11_hardened_27 ?_
      rw [eo _ rfl]
      refine v_cS [_] (cJ_bitCount G M _) kJ_bitCount dX11_hardened_28 l11_152 rfl (Nat.le_of_ble_eq_true rfl) (Nat.le_of_ble_eq_true rfl) ?_
      rw [bcI_n ho]
      refine v_bipush 6 dX11_hardened_31 (by decide) ?_
      refine v_icmp_le 47 dX11_hardened_33 (by decide) (fun h33 => absurd ((nI_leI (b := 6) (by omega) (by decide)).mp h33) (by omega)) (fun h33 => ?_)
      exact V.post (v_throwW (cls := isE) (text := "more than 6 chests are out") rfl (by decide +kernel) at_isek (by decide +kernel) at_ise dX11_hardened_36 dX11_hardened_39 dX11_hardened_40 dX11_hardened_43 dX11_hardened_46 (by decide) (by decide) Tg.mk : V G Y11_hardened 40 1 6 (fun _ _ => False) (Tg isE M) 36 _ _ M) (fun _ _ h => h.elim) (fun E M' he => Xt.of he (by simp))
    · by_cases hn : inT 99 m = true
      · have ht : hdT K (nI j) m = 0 := by rw [hdT, if_pos hc, if_neg h6p, if_pos hn]
        rw [ht]
        have hn2 := of_decide_eq_true hn
        have hm0 : ¬ m < 0 := fun z => by have := Int32.le_trans hn2.1 (Int32.le_of_lt z); exact absurd this (by decide)
        obtain ⟨a, ha, rfl⟩ := nI_of hm0
        have ha1 : ¬ nI a < (1 : Int32) := Int32.not_lt.mpr hn2.1
        refine v_aload_n dX11_hardened_0 rfl ?_
        refine v_iload_n dX11_hardened_1 rfl ?_
        refine v_cVv [_] (q1) k11_needChestIn dX11_hardened_2 l11_190 (by first | exact hS.1 _ _ rfl | assumption) (by decide) rfl (Nat.le_of_ble_eq_true rfl) (Nat.le_of_ble_eq_true rfl) ?_
        refine v_aload_n dX11_hardened_5 rfl ?_
        refine v_getR 11 6 _ dX11_hardened_6 f11_34 (by first | exact hS.1 _ _ rfl | assumption) (by decide) (by first | exact hS.2 _ _ _ rfl | assumption) ?_
        refine v_getR 6 0 _ dX11_hardened_9 f11_130 (by first | exact hS.1 _ _ rfl | assumption) (by decide) (by first | exact hS.2 _ _ _ rfl | assumption) ?_
        refine v_cV [] (c4_allChests G M hp hW.p) k4_allChests dX11_hardened_12 l11_319 hp.1.1 (by decide) rfl (Nat.le_of_ble_eq_true rfl) (Nat.le_of_ble_eq_true rfl) ?_
        refine v_aload_n dX11_hardened_15 rfl ?_
        refine v_getR 11 6 _ dX11_hardened_16 f11_34 (by first | exact hS.1 _ _ rfl | assumption) (by decide) (by first | exact hS.2 _ _ _ rfl | assumption) ?_
        refine v_getR 6 1 _ dX11_hardened_19 f11_119 (by first | exact hS.1 _ _ rfl | assumption) (by decide) (by first | exact hS.2 _ _ _ rfl | assumption) ?_
        refine v_getI 7 5 dX11_hardened_22 f11_288 (by first | exact hS.1 _ _ rfl | assumption) (by decide) ?_
        refine v_iconst (-1) dX11_hardened_25 (by decide) ?_
        refine v_ixor dX11_hardened_26 ?_
        refine v_iand dX11_hardened_27 ?_
        rw [eo _ rfl]
        refine v_cS [_] (cJ_bitCount G M _) kJ_bitCount dX11_hardened_28 l11_152 rfl (Nat.le_of_ble_eq_true rfl) (Nat.le_of_ble_eq_true rfl) ?_
        rw [bcI_n ho]
        refine v_bipush 6 dX11_hardened_31 (by decide) ?_
        refine v_icmp_le 47 dX11_hardened_33 (by decide) (fun h33 => ?_) (fun h33 => absurd (nI_le (b := 6) (by omega) (by decide)) h33)
        refine v_iload_n dX11_hardened_47 rfl ?_
        refine v_iconst 1 dX11_hardened_48 (by decide) ?_
        refine v_icmp_lt 58 dX11_hardened_49 (by decide) (fun h49 => absurd h49 ha1) (fun h49 => ?_)
        refine v_iload_n dX11_hardened_52 rfl ?_
        refine v_bipush 99 dX11_hardened_53 (by decide) ?_
        refine v_icmp_le 69 dX11_hardened_55 (by decide) (fun h55 => ?_) (fun h55 => absurd hn2.2 h55)
        refine v_aload_n dX11_hardened_69 rfl ?_
        refine v_getR 11 10 _ dX11_hardened_70 f11_58 (by first | exact hS.1 _ _ rfl | assumption) (by decide) (by first | exact hS.2 _ _ _ rfl | assumption) ?_
        refine v_aload_n dX11_hardened_73 rfl ?_
        refine v_getR 11 6 _ dX11_hardened_74 f11_34 (by first | exact hS.1 _ _ rfl | assumption) (by decide) (by first | exact hS.2 _ _ _ rfl | assumption) ?_
        refine v_getR 6 0 _ dX11_hardened_77 f11_130 (by first | exact hS.1 _ _ rfl | assumption) (by decide) (by first | exact hS.2 _ _ _ rfl | assumption) ?_
        refine v_aload_n dX11_hardened_80 rfl ?_
        refine v_getR 11 6 _ dX11_hardened_81 f11_34 (by first | exact hS.1 _ _ rfl | assumption) (by decide) (by first | exact hS.2 _ _ _ rfl | assumption) ?_
        refine v_getR 6 1 _ dX11_hardened_84 f11_119 (by first | exact hS.1 _ _ rfl | assumption) (by decide) (by first | exact hS.2 _ _ _ rfl | assumption) ?_
        refine v_iload_n dX11_hardened_87 rfl ?_
        refine v_iload_n dX11_hardened_88 rfl ?_
        refine v_scV [_, _, _, _] (c1_fewest G M hS hs hp hW ap4 hj ha (by omega)) k1_fewestThatHarden dX11_hardened_89 l11_327 (by first | exact hS.1 _ _ rfl | assumption) (by decide) rfl (Nat.le_of_ble_eq_true rfl) (Nat.le_of_ble_eq_true rfl) ?_
        intro M2 hM2; have hS' := hS.sj hM2; have mm := sjDe h0 hM2
        refine v_iret dX11_hardened_92 rfl ?_
        exact ⟨rfl, rfl, mm.1, mm.2⟩
      · have ht : hdT K (nI j) m = 3 := by rw [hdT, if_pos hc, if_neg h6p, if_neg hn]
        rw [ht]
        refine v_aload_n dX11_hardened_0 rfl ?_
        refine v_iload_n dX11_hardened_1 rfl ?_
        refine v_cVv [_] (q1) k11_needChestIn dX11_hardened_2 l11_190 (by first | exact hS.1 _ _ rfl | assumption) (by decide) rfl (Nat.le_of_ble_eq_true rfl) (Nat.le_of_ble_eq_true rfl) ?_
        refine v_aload_n dX11_hardened_5 rfl ?_
        refine v_getR 11 6 _ dX11_hardened_6 f11_34 (by first | exact hS.1 _ _ rfl | assumption) (by decide) (by first | exact hS.2 _ _ _ rfl | assumption) ?_
        refine v_getR 6 0 _ dX11_hardened_9 f11_130 (by first | exact hS.1 _ _ rfl | assumption) (by decide) (by first | exact hS.2 _ _ _ rfl | assumption) ?_
        refine v_cV [] (c4_allChests G M hp hW.p) k4_allChests dX11_hardened_12 l11_319 hp.1.1 (by decide) rfl (Nat.le_of_ble_eq_true rfl) (Nat.le_of_ble_eq_true rfl) ?_
        refine v_aload_n dX11_hardened_15 rfl ?_
        refine v_getR 11 6 _ dX11_hardened_16 f11_34 (by first | exact hS.1 _ _ rfl | assumption) (by decide) (by first | exact hS.2 _ _ _ rfl | assumption) ?_
        refine v_getR 6 1 _ dX11_hardened_19 f11_119 (by first | exact hS.1 _ _ rfl | assumption) (by decide) (by first | exact hS.2 _ _ _ rfl | assumption) ?_
        refine v_getI 7 5 dX11_hardened_22 f11_288 (by first | exact hS.1 _ _ rfl | assumption) (by decide) ?_
        refine v_iconst (-1) dX11_hardened_25 (by decide) ?_
        refine v_ixor dX11_hardened_26 ?_
        refine v_iand dX11_hardened_27 ?_
        rw [eo _ rfl]
        refine v_cS [_] (cJ_bitCount G M _) kJ_bitCount dX11_hardened_28 l11_152 rfl (Nat.le_of_ble_eq_true rfl) (Nat.le_of_ble_eq_true rfl) ?_
        rw [bcI_n ho]
        refine v_bipush 6 dX11_hardened_31 (by decide) ?_
        refine v_icmp_le 47 dX11_hardened_33 (by decide) (fun h33 => ?_) (fun h33 => absurd (nI_le (b := 6) (by omega) (by decide)) h33)
        refine v_iload_n dX11_hardened_47 rfl ?_
        refine v_iconst 1 dX11_hardened_48 (by decide) ?_
        refine v_icmp_lt 58 dX11_hardened_49 (by decide) (fun h49 => ?_) (fun h49 => ?_)
        · exact V.post (v_throwW (cls := iaE) (text := "so hard is 1 to 99") rfl (by decide +kernel) at_iaek (by decide +kernel) at_iae dX11_hardened_58 dX11_hardened_61 dX11_hardened_62 dX11_hardened_65 dX11_hardened_68 (by decide) (by decide) Tg.mk : V G Y11_hardened 40 1 6 (fun _ _ => False) (Tg iaE M) 58 _ _ M) (fun _ _ h => h.elim) (fun E M' he => Xt.of he (by simp))
        · refine v_iload_n dX11_hardened_52 rfl ?_
          refine v_bipush 99 dX11_hardened_53 (by decide) ?_
          refine v_icmp_le 69 dX11_hardened_55 (by decide) (fun h55 => absurd (decide_eq_true (show (1 : Int32) ≤ m ∧ m ≤ nI 99 from ⟨Int32.not_lt.mp h49, h55⟩)) hn) (fun h55 => ?_)
          exact V.post (v_throwW (cls := iaE) (text := "so hard is 1 to 99") rfl (by decide +kernel) at_iaek (by decide +kernel) at_iae dX11_hardened_58 dX11_hardened_61 dX11_hardened_62 dX11_hardened_65 dX11_hardened_68 (by decide) (by decide) Tg.mk : V G Y11_hardened 40 1 6 (fun _ _ => False) (Tg iaE M) 58 _ _ M) (fun _ _ h => h.elim) (fun E M' he => Xt.of he (by simp))
  · have ht : hdT K c m = chF K c := if_neg hc
    rw [ht]
    refine v_aload_n dX11_hardened_0 rfl ?_
    refine v_iload_n dX11_hardened_1 rfl ?_
    refine v_callV [_] (c11_needChestInF G M h0 hc) k11_needChestIn dX11_hardened_2 l11_190 (by first | exact hS.1 _ _ rfl | assumption) (by decide) rfl (Nat.le_of_ble_eq_true rfl) (Nat.le_of_ble_eq_true rfl) (fun _ _ h => h.elim) (fun E M9 he => ?_)
    exact he.elim (fun z => Xt.of z.2 (by rw [z.1]; simp)) (fun z => Xt.of z.2 (by rw [z.1]; simp))
theorem c11_book {K : Nat → Int32} (h : MR M K) : Ct G Y11_book 40 0 0 [.ref 100] M (Qt (0) (some (.int (encO (bkF K (2 ^ kn K 3))))) M (K)) (NX) := by
  have h0 := h
  have hs := h.sd
  obtain ⟨hS, hW, hz, hsc, p, cd, n, rd, l1, hp0, hp, hrd, hpa⟩ := h
  obtain ⟨ap1, ap2, ap3, ap4, ap5, ap6, ap7, ap8⟩ := hpa.ap hz
  have h14 := hW.p.2.1.2
  have h6 := hW.p.1.2.2
  have h10 := hW.p.2.2.1.2
  refine Ct.of k11_book.1 (Nat.le_of_ble_eq_true rfl) ?_
  refine v_aload_n dX11_book_0 rfl ?_
  refine v_getR 11 11 _ dX11_book_1 f11_65 (by first | exact hS.1 _ _ rfl | assumption) (by decide) (by first | exact hS.2 _ _ _ rfl | assumption) ?_
  refine v_aload_n dX11_book_4 rfl ?_
  refine v_getR 11 6 _ dX11_book_5 f11_34 (by first | exact hS.1 _ _ rfl | assumption) (by decide) (by first | exact hS.2 _ _ _ rfl | assumption) ?_
  refine v_getR 6 0 _ dX11_book_8 f11_130 (by first | exact hS.1 _ _ rfl | assumption) (by decide) (by first | exact hS.2 _ _ _ rfl | assumption) ?_
  refine v_aload_n dX11_book_11 rfl ?_
  refine v_getR 11 6 _ dX11_book_12 f11_34 (by first | exact hS.1 _ _ rfl | assumption) (by decide) (by first | exact hS.2 _ _ _ rfl | assumption) ?_
  refine v_getR 6 1 _ dX11_book_15 f11_119 (by first | exact hS.1 _ _ rfl | assumption) (by decide) (by first | exact hS.2 _ _ _ rfl | assumption) ?_
  refine v_scV [_, _] (c0_fewestWords G M hS hs hp hW ap5) k0_fewestWords dX11_book_18 l11_330 (by first | exact hS.1 _ _ rfl | assumption) (by decide) rfl (Nat.le_of_ble_eq_true rfl) (Nat.le_of_ble_eq_true rfl) ?_
  intro M2 hM2; have mm := smDf h0 hM2
  refine v_iret dX11_book_21 rfl ?_
  exact ⟨rfl, rfl, mm.1, mm.2⟩
theorem c11_asking {K : Nat → Int32} (h : MR M K) (x : Int32) : Ct G Y11_asking 40 1 6 [.ref 100, .int x] M (Qt (tI2 x) (some (.int (askV K x))) M (K)) (Xt [(1, iaE)] (tI2 x) M) := by
  have h0 := h
  have hs := h.sd
  obtain ⟨hS, hW, hz, hsc, p, cd, n, rd, l1, hp0, hp, hrd, hpa⟩ := h
  obtain ⟨ap1, ap2, ap3, ap4, ap5, ap6, ap7, ap8⟩ := hpa.ap hz
  have h14 := hW.p.2.1.2
  have h6 := hW.p.1.2.2
  have h10 := hW.p.2.2.1.2
  refine Ct.of k11_asking.1 (Nat.le_of_ble_eq_true rfl) ?_
  by_cases hx : inR 2 x = true
  · have q1 := c11_needWhat G M (n := 1) (by decide) hx
    rw [show tI2 x = 0 from if_pos hx]
    obtain ⟨k, hk, rfl, hk2⟩ := inR_of hx
    obtain rfl | rfl : k = 0 ∨ k = 1 := by omega
    · refine v_aload_n dX11_asking_0 rfl ?_
      refine v_iload_n dX11_asking_1 rfl ?_
      refine v_iconst 1 dX11_asking_2 (by decide) ?_
      refine v_cVv [_, _] (q1) k11_needWhat dX11_asking_3 l11_137 (by first | exact hS.1 _ _ rfl | assumption) (by decide) rfl (Nat.le_of_ble_eq_true rfl) (Nat.le_of_ble_eq_true rfl) ?_
      refine v_iload_n dX11_asking_6 rfl ?_
      refine v_if_ne 34 dX11_asking_7 (by decide) (fun h7 => absurd (by decide) h7) (fun h7 => ?_)
      refine v_aload_n dX11_asking_10 rfl ?_
      refine v_getR 11 11 _ dX11_asking_11 f11_65 (by first | exact hS.1 _ _ rfl | assumption) (by decide) (by first | exact hS.2 _ _ _ rfl | assumption) ?_
      refine v_aload_n dX11_asking_14 rfl ?_
      refine v_getR 11 6 _ dX11_asking_15 f11_34 (by first | exact hS.1 _ _ rfl | assumption) (by decide) (by first | exact hS.2 _ _ _ rfl | assumption) ?_
      refine v_getR 6 0 _ dX11_asking_18 f11_130 (by first | exact hS.1 _ _ rfl | assumption) (by decide) (by first | exact hS.2 _ _ _ rfl | assumption) ?_
      refine v_aload_n dX11_asking_21 rfl ?_
      refine v_getR 11 6 _ dX11_asking_22 f11_34 (by first | exact hS.1 _ _ rfl | assumption) (by decide) (by first | exact hS.2 _ _ _ rfl | assumption) ?_
      refine v_getR 6 1 _ dX11_asking_25 f11_119 (by first | exact hS.1 _ _ rfl | assumption) (by decide) (by first | exact hS.2 _ _ _ rfl | assumption) ?_
      refine v_scV [_, _] (c0_questions G M hS hs hp hW ap5) k0_questions dX11_asking_28 l11_334 (by first | exact hS.1 _ _ rfl | assumption) (by decide) rfl (Nat.le_of_ble_eq_true rfl) (Nat.le_of_ble_eq_true rfl) ?_
      intro M2 hM2; have mm := sjBg h0 hM2
      refine v_goto 55 dX11_asking_31 (by decide) ?_
      refine v_iret dX11_asking_55 rfl ?_
      exact ⟨rfl, rfl, mm.1, mm.2⟩
    · refine v_aload_n dX11_asking_0 rfl ?_
      refine v_iload_n dX11_asking_1 rfl ?_
      refine v_iconst 1 dX11_asking_2 (by decide) ?_
      refine v_cVv [_, _] (q1) k11_needWhat dX11_asking_3 l11_137 (by first | exact hS.1 _ _ rfl | assumption) (by decide) rfl (Nat.le_of_ble_eq_true rfl) (Nat.le_of_ble_eq_true rfl) ?_
      refine v_iload_n dX11_asking_6 rfl ?_
      refine v_if_ne 34 dX11_asking_7 (by decide) (fun h7 => ?_) (fun h7 => absurd (by decide) h7)
      refine v_aload_n dX11_asking_34 rfl ?_
      refine v_getR 11 11 _ dX11_asking_35 f11_65 (by first | exact hS.1 _ _ rfl | assumption) (by decide) (by first | exact hS.2 _ _ _ rfl | assumption) ?_
      refine v_aload_n dX11_asking_38 rfl ?_
      refine v_getR 11 6 _ dX11_asking_39 f11_34 (by first | exact hS.1 _ _ rfl | assumption) (by decide) (by first | exact hS.2 _ _ _ rfl | assumption) ?_
      refine v_getR 6 0 _ dX11_asking_42 f11_130 (by first | exact hS.1 _ _ rfl | assumption) (by decide) (by first | exact hS.2 _ _ _ rfl | assumption) ?_
      refine v_aload_n dX11_asking_45 rfl ?_
      refine v_getR 11 6 _ dX11_asking_46 f11_34 (by first | exact hS.1 _ _ rfl | assumption) (by decide) (by first | exact hS.2 _ _ _ rfl | assumption) ?_
      refine v_getR 6 1 _ dX11_asking_49 f11_119 (by first | exact hS.1 _ _ rfl | assumption) (by decide) (by first | exact hS.2 _ _ _ rfl | assumption) ?_
      refine v_scV [_, _] (c0_firstQuestion G M hS hs hp hW ap5) k0_firstQuestion dX11_asking_52 l11_337 (by first | exact hS.1 _ _ rfl | assumption) (by decide) rfl (Nat.le_of_ble_eq_true rfl) (Nat.le_of_ble_eq_true rfl) ?_
      intro M2 hM2; have mm := sjBg h0 hM2
      refine v_iret dX11_asking_55 rfl ?_
      exact ⟨rfl, rfl, mm.1, mm.2⟩
  · have ht : tI2 x = 1 := if_neg hx
    rw [ht]
    refine v_aload_n dX11_asking_0 rfl ?_
    refine v_iload_n dX11_asking_1 rfl ?_
    refine v_iconst 1 dX11_asking_2 (by decide) ?_
    refine v_callV [_, _] (c11_needWhatF G M (n := 1) (by decide) hx) k11_needWhat dX11_asking_3 l11_137 (by first | exact hS.1 _ _ rfl | assumption) (by decide) rfl (Nat.le_of_ble_eq_true rfl) (Nat.le_of_ble_eq_true rfl) (fun _ _ h => h.elim) (fun E M9 he => ?_)
    exact Xt.of he (by simp)
end O3
