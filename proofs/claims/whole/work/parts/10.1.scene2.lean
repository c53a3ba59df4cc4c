/-! ===== the class: Scene goes back, takes over ===== -/
def fmI (x : Int32) : Int32 := if 0 ≤ x ^^^ 10 then x - x / 10 * 10 else if x - x / 10 * 10 = 0 then x - x / 10 * 10 else x - x / 10 * 10 + 10
theorem fm_tab {nx n : Nat} (h : nx < 10) (h2 : n < 11) : fmI (nI nx - nI n) = nI ((nx + 10 - n) % 10) := by
  have : ∀ nx, nx < 10 → ∀ n, n < 11 → fmI (nI nx - nI n) = nI ((nx + 10 - n) % 10) := by decide +kernel
  exact this nx h n h2
theorem WK.blit {K : Nat → Int32} (h : WK K) {j : Nat} (hj : j < kn K 8) : blkK K j 94 = 0 ∨ blkK K j 94 = 1 := by
  rw [blkK_c (by omega) (by omega)]
  exact (h.2.2.2 j hj).2.2.1
section C6b
variable (G : mG) (M : mM)
theorem cJ_floorMod (x : Int32) : Ct G YJ_floorMod 0 0 0 [.int x, .int 10] M (Rv (some (.int (fmI x))) M) NX := by
  refine Ct.of kJ_floorMod.1 (Nat.le_of_ble_eq_true rfl) ?_
  unfold fmI
  refine v_iload_n dJ_floorMod_0 rfl ?_
  refine v_iload_n dJ_floorMod_1 rfl ?_
  refine v_irem dJ_floorMod_2 (by decide) ?_
  refine v_istore_n dJ_floorMod_3 rfl (by decide) ?_
  refine v_iload_n dJ_floorMod_4 rfl ?_
  refine v_iload_n dJ_floorMod_5 rfl ?_
  refine v_ixor dJ_floorMod_6 ?_
  refine v_if_ge 18 dJ_floorMod_7 (by decide) (fun h7 => ?_) (fun h7 => ?_)
  · refine v_iload_n dJ_floorMod_18 rfl ?_
    refine v_iret dJ_floorMod_19 rfl ?_
    first | exact ⟨by rw [if_pos h7], rfl⟩ | exact ⟨by rw [if_neg h7, if_pos h11], rfl⟩
  · refine v_iload_n dJ_floorMod_10 rfl ?_
    refine v_if_eq 18 dJ_floorMod_11 (by decide) (fun h11 => ?_) (fun h11 => ?_)
    · refine v_iload_n dJ_floorMod_18 rfl ?_
      refine v_iret dJ_floorMod_19 rfl ?_
      first | exact ⟨by rw [if_pos h7], rfl⟩ | exact ⟨by rw [if_neg h7, if_pos h11], rfl⟩
    · refine v_iload_n dJ_floorMod_14 rfl ?_
      refine v_iload_n dJ_floorMod_15 rfl ?_
      refine v_iadd dJ_floorMod_16 ?_
      refine v_iret dJ_floorMod_17 rfl ?_
      exact ⟨by rw [if_neg h7, if_neg h11], rfl⟩
theorem c6_goBack {q nx n : Nat} {K : Nat → Int32} (hs : ScSh M q) (hd : ScD M q nx K) (hW : WK K) (h1 : 1 ≤ n) (hn : n ≤ kn K 8) : Ct G Y6_goBack 2 0 0 [.ref q, .int (nI n)] M (Rs none (fun M' => Sm (Wsc q) M M' ∧ (∀ a, q + 15 ≤ a → gI M' a = gI M a) ∧ ScD M' q ((nx + 10 - n) % 10) (undK K n))) NX := by
  obtain ⟨d1, d2, d3, d4, d5, d6⟩ := hd
  have h8 := hW.2.1
  obtain ⟨q1, q2, q3, q4, q5, q6⟩ := hs
  have h14 := hW.p.2.1.2
  have hx : (nx + 10 - n) % 10 < 10 := Nat.mod_lt _ (by decide)
  obtain ⟨p1, p2⟩ := q6 _ hx
  have esl : slot nx (kn K 8) (kn K 8 - n) = (nx + 10 - n) % 10 := by unfold slot; omega
  obtain ⟨M1, e1⟩ : ∃ M1, M1 = sI (sI M q 3 (nI ((nx + 10 - n) % 10))) q 4 (nI (kn K 8 - n)) := ⟨_, rfl⟩
  have m1 : Sm (Wsc q) M M1 := by rw [e1]; exact (Sm.rf.st _ (Wsc_f (Or.inl rfl))).st _ (Wsc_f (Or.inr rfl))
  have r1 : ∀ a, a ≠ q → gI M1 a = gI M a := fun a ha => by rw [e1, gI_sr _ _ ha, gI_sr _ _ ha]
  have hj := d6 (kn K 8 - n) (by omega)
  rw [esl] at hj
  have hst : Str M1 (q + 15 + 6 * ((nx + 10 - n) % 10)) (blkK K (kn K 8 - n)) := (show Str M _ _ from ⟨p2, hj⟩).mv m1.2.1 m1.2.2.2.1 (fun a h1 h2 => r1 a (by omega))
  have s8 : StSh M1 (q + 8) := q5.mv m1.2.1 m1.2.2.2.1
  have hcon := c7_takeFrom G M1 s8 hst (by omega) (hW.blit (by omega)) (by rw [kn_cg (blkK_p 2 (Or.inl (by omega)))]; exact h14)
  have e3 : gI M1 q 3 = nI ((nx + 10 - n) % 10) := by rw [e1, gI_sk _ _ (by decide), gI_ss]
  have hcl : (nI ((nx + 10 - n) % 10)).toNatClampNeg = (nx + 10 - n) % 10 := nI_clamp (by omega)
  have pn : gR M1 (q + 14) (nI ((nx + 10 - n) % 10)).toNatClampNeg = some (q + 15 + 6 * ((nx + 10 - n) % 10)) := by rw [hcl, m1.2.2.2.1]; exact p1
  have t1 : gT M1 q = .inl 6 := by rw [m1.2.1]; exact q1
  have t2 : gT M1 (q + 14) = .inr (5, 10) := by rw [m1.2.1]; exact q4
  have u1 : gR M1 q 1 = some (q + 8) := by rw [m1.2.2.2.1]; exact q2
  have u2 : gR M1 q 2 = some (q + 14) := by rw [m1.2.2.2.1]; exact q3
  have ef : gI (sI M q 3 (nI ((nx + 10 - n) % 10))) q 4 = nI (kn K 8) := by rw [gI_sk _ _ (by decide), d2]; exact h8.1
  refine Ct.of k6_goBack.1 (Nat.le_of_ble_eq_true rfl) ?_
  refine v_aload_n dX6_goBack_0 rfl ?_
  refine v_aload_n dX6_goBack_1 rfl ?_
  refine v_getI 6 3 dX6_goBack_2 f6_33 (by assumption) (by decide) ?_
  rw [d3]
  refine v_iload_n dX6_goBack_5 rfl ?_
  refine v_isub dX6_goBack_6 ?_
  refine v_bipush 10 dX6_goBack_7 (by decide) ?_
  refine v_cS [_, _] (cJ_floorMod G M _) kJ_floorMod dX6_goBack_9 l6_50 rfl (Nat.le_of_ble_eq_true rfl) (Nat.le_of_ble_eq_true rfl) ?_
  rw [fm_tab d4 (by omega)]
  refine v_putI 6 3 dX6_goBack_12 f6_33 (by assumption) (by decide) ?_
  refine v_aload_n dX6_goBack_15 rfl ?_
  refine v_dup dX6_goBack_16 rfl ?_
  refine v_getI 6 4 dX6_goBack_17 f6_37 (by assumption) (by decide) ?_
  rw [ef]
  refine v_iload_n dX6_goBack_20 rfl ?_
  refine v_isub dX6_goBack_21 ?_
  rw [pk_sub hn]
  refine v_putI 6 4 dX6_goBack_22 f6_37 (by assumption) (by decide) ?_
  skip
  rw [← e1]
  refine v_aload_n dX6_goBack_25 rfl ?_
  refine v_getR 6 1 _ dX6_goBack_26 f6_21 (by assumption) (by decide) (by assumption) ?_
  refine v_aload_n dX6_goBack_29 rfl ?_
  refine v_getR 6 2 _ dX6_goBack_30 f6_25 (by assumption) (by decide) (by assumption) ?_
  refine v_aload_n dX6_goBack_33 rfl ?_
  refine v_getI 6 3 dX6_goBack_34 f6_33 (by assumption) (by decide) ?_
  rw [e3]
  refine v_aald _ dX6_goBack_37 (by assumption) (by decide) (vp_in_nI hx (by decide)) pn ?_
  skip
  refine v_scVv [_] hcon k7_takeFrom dX6_goBack_38 l6_40 s8.1 (by decide) rfl (Nat.le_of_ble_eq_true rfl) (Nat.le_of_ble_eq_true rfl) (fun M2 hM2 => ?_)
  have m2 : Sm (Wsc q) M M2 := m1.tr (hM2.1.sc (by omega) (by omega))
  have r2 : ∀ a, a < q + 8 ∨ q + 13 < a → gI M2 a = gI M1 a := fun a ha => hM2.1.row (Wsd_o (by omega))
  have n8 : kn (undK K n) 8 = kn K 8 - n := kn_n (i := 8) (by rw [undK, cpK_out (by omega), und1, uK_s]) (by omega)
  have kp : ∀ i, plI i → undK K n i = K i := fun i hi => by unfold plI at hi; rw [undK, cpK_out (by omega), und1, uK_n _ _ (by omega)]
  refine v_vret dX6_goBack_41 rfl ⟨rfl, m2, fun a ha => (r2 a (by omega)).trans (r1 a (by omega)), ?_, ?_, ?_, hx, fun i hi => ?_, fun j hj => ?_⟩
  · refine hM2.2.2.cg (hW.p.cong blkK_p) (fun i hi => by rw [kp i hi, blkK_p i hi]) (fun i h1 h2 => ?_)
    rw [blkK_c h1 h2, undK, cpK_in h1 (by omega), blk, und1, uK_n _ _ (by omega)]
  · rw [r2 q (by omega), e1, gI_ss, undK, cpK_out (by omega), und1, uK_s]
  · rw [r2 q (by omega), e3]
  · rw [r2 _ (by omega), r1 _ (by omega)]; exact d5 i hi
  · rw [n8] at hj ⊢
    have es : slot ((nx + 10 - n) % 10) (kn K 8 - n) j = slot nx (kn K 8) j := by unfold slot; omega
    have hsl2 : slot nx (kn K 8) j < 10 := Nat.mod_lt _ (by decide)
    rw [es]
    have hst2 := ((show Str M (q + 15 + 6 * slot nx (kn K 8) j) (blkK K j) from ⟨(q6 _ hsl2).2, d6 j (by omega)⟩).mv m2.2.1 m2.2.2.2.1 (fun a h1 h2 => (r2 a (by omega)).trans (r1 a (by omega)))).2
    refine hst2.cg (hW.p.cong blkK_p) (fun i hi => by rw [blkK_p i hi, blkK_p i hi, kp i hi]) (fun i h1 h2 => ?_)
    rw [blkK_c h1 h2, blkK_c h1 h2, blk, blk, undK, cpK_out (by omega), und1, uK_n _ _ (by omega)]
theorem st34 {M : mM} {q s : Nat} {K : Nat → Int32} {x y : Int32} (h : q < s) (hd : StD M s K) : StD (sI (sI M q 3 x) q 4 y) s K := by
  unfold StD at hd ⊢
  rw [gI_sr _ (a := s + 1) _ (by omega), gI_sr _ (a := s + 1) _ (by omega), gI_sr _ (a := s + 2) _ (by omega), gI_sr _ (a := s + 2) _ (by omega), gI_sr _ (a := s + 3) _ (by omega), gI_sr _ (a := s + 3) _ (by omega), gI_sr _ (a := s + 4) _ (by omega), gI_sr _ (a := s + 4) _ (by omega), gI_sr _ (a := s + 5) _ (by omega), gI_sr _ (a := s + 5) _ (by omega), gI_sr _ (a := s) _ (by omega), gI_sr _ (a := s) _ (by omega)]
  exact hd
theorem l6_takeFrom {q o nx : Nat} {K : Nat → Int32} (hq : ScSh M q) (ho : ScSh M o) (hd : ScD M o nx K) (hap : q + 74 < o ∨ o + 74 < q) (h14 : kn K 2 ≤ 14) : ∀ i k M', k + i = 10 → Sm (Wsc q) M M' → StD M' (q + 8) K → (∀ j, j < k → CpS M M' (q + 15 + 6 * j) (o + 15 + 6 * j)) →
    V G Y6_takeFrom 2 0 0 (Rs none (fun M' => Sm (Wsc q) M M' ∧ ScD M' q nx K)) NX 21 [some (.ref q), some (.ref o), some (.int (nI k))] [] M' := by
  obtain ⟨q1, q2, q3, q4, q5, q6⟩ := hq
  obtain ⟨o1, o2, o3, o4, o5, o6⟩ := ho
  obtain ⟨d1, d2, d3, d4, d5, d6⟩ := hd
  intro i
  induction i with
  | zero =>
    intro k M' hk hM h8 hc
    obtain rfl : k = 10 := by omega
    have t1 : gT M' q = .inl 6 := by rw [hM.2.1]; exact q1
    have t2 : gT M' o = .inl 6 := by rw [hM.2.1]; exact o1
    have ro : gI M' o = gI M o := hM.row (Wsc_o (by omega))
    have e4 : ∀ x, gI (sI M' q 3 x) o 4 = K 8 := fun x => by rw [gI_sq _ _ (by omega), ro]; exact d2
    refine v_iload_n dX6_takeFrom_21 rfl ?_
    refine v_bipush 10 dX6_takeFrom_22 (by decide) ?_
    refine v_icmp_ge 48 dX6_takeFrom_24 (by decide) (fun h24 => ?_) (fun h24 => absurd (by decide) h24)
    refine v_aload_n dX6_takeFrom_48 rfl ?_
    refine v_aload_n dX6_takeFrom_49 rfl ?_
    refine v_getI 6 3 dX6_takeFrom_50 f6_33 (by assumption) (by decide) ?_
    rw [ro, d3]
    refine v_putI 6 3 dX6_takeFrom_53 f6_33 (by assumption) (by decide) ?_
    refine v_aload_n dX6_takeFrom_56 rfl ?_
    refine v_aload_n dX6_takeFrom_57 rfl ?_
    refine v_getI 6 4 dX6_takeFrom_58 f6_37 (by assumption) (by decide) ?_
    rw [e4]
    refine v_putI 6 4 dX6_takeFrom_61 f6_37 (by assumption) (by decide) ?_
    refine v_vret dX6_takeFrom_64 rfl ?_
    skip
    refine ⟨rfl, (hM.st _ (Wsc_f (Or.inl rfl))).st _ (Wsc_f (Or.inr rfl)), ?_, ?_, ?_, d4, fun i hi => ?_, fun j hj => ?_⟩
    · exact st34 (by omega) h8
    · rw [gI_ss]
    · rw [gI_sk _ _ (by decide), gI_ss]
    · rw [gI_sq _ _ (by omega), gI_sq _ _ (by omega), (hc i hi).2.2.2.2.2]; exact d5 i hi
    · have hsl2 : slot nx (kn K 8) j < 10 := Nat.mod_lt _ (by decide)
      have := (hc _ hsl2).std (d6 j hj) (by rw [kn_cg (blkK_p 2 (Or.inl (by omega)))]; exact h14)
      exact st34 (by omega) this
  | succ i ih =>
    intro k M' hk hM h8 hc
    have t1 : gT M' q = .inl 6 := by rw [hM.2.1]; exact q1
    have t2 : gT M' o = .inl 6 := by rw [hM.2.1]; exact o1
    have t3 : gT M' (q + 14) = .inr (5, 10) := by rw [hM.2.1]; exact q4
    have t4 : gT M' (o + 14) = .inr (5, 10) := by rw [hM.2.1]; exact o4
    have u1 : gR M' q 2 = some (q + 14) := by rw [hM.2.2.2.1]; exact q3
    have u2 : gR M' o 2 = some (o + 14) := by rw [hM.2.2.2.1]; exact o3
    have hcl : (nI k).toNatClampNeg = k := nI_clamp (by omega)
    have pn : gR M' (q + 14) (nI k).toNatClampNeg = some (q + 15 + 6 * k) := by rw [hcl, hM.2.2.2.1]; exact (q6 k (by omega)).1
    have po : gR M' (o + 14) (nI k).toNatClampNeg = some (o + 15 + 6 * k) := by rw [hcl, hM.2.2.2.1]; exact (o6 k (by omega)).1
    have sq : StSh M' (q + 15 + 6 * k) := (q6 k (by omega)).2.mv hM.2.1 hM.2.2.2.1
    have so : StSh M' (o + 15 + 6 * k) := (o6 k (by omega)).2.mv hM.2.1 hM.2.2.2.1
    have rro : ∀ a, o ≤ a → a ≤ o + 74 → gI M' a = gI M a := fun a h1 h2 => hM.row (Wsc_o (by omega))
    have hcon := c7_takeFromC G M' sq so (by omega) (by rw [rro _ (by omega) (by omega)]; exact d5 k (by omega))
    refine v_iload_n dX6_takeFrom_21 rfl ?_
    refine v_bipush 10 dX6_takeFrom_22 (by decide) ?_
    refine v_icmp_ge 48 dX6_takeFrom_24 (by decide) (fun h24 => absurd ((nI_leI (a := 10) (by decide) (by omega)).mp h24) (by omega)) (fun h24 => ?_)
    refine v_aload_n dX6_takeFrom_27 rfl ?_
    refine v_getR 6 2 _ dX6_takeFrom_28 f6_25 (by assumption) (by decide) (by assumption) ?_
    refine v_iload_n dX6_takeFrom_31 rfl ?_
    refine v_aald _ dX6_takeFrom_32 (by assumption) (by decide) (vp_in_nI (show k < 10 by omega) (by decide)) pn ?_
    refine v_aload_n dX6_takeFrom_33 rfl ?_
    refine v_getR 6 2 _ dX6_takeFrom_34 f6_25 (by assumption) (by decide) (by assumption) ?_
    refine v_iload_n dX6_takeFrom_37 rfl ?_
    refine v_aald _ dX6_takeFrom_38 (by assumption) (by decide) (vp_in_nI (show k < 10 by omega) (by decide)) po ?_
    skip
    refine v_scVv [_] hcon k7_takeFrom dX6_takeFrom_39 l6_40 sq.1 (by decide) rfl (Nat.le_of_ble_eq_true rfl) (Nat.le_of_ble_eq_true rfl) (fun M2 hM2 => ?_)
    refine v_iinc 1 dX6_takeFrom_42 rfl (by decide) rfl (by decide) ?_
    refine v_goto 21 dX6_takeFrom_45 (by decide) ?_
    -- at 21: .iload_n 2
    rw [nI_1]
    refine ih (k + 1) M2 (by omega) (hM.tr (hM2.1.sc (by omega) (by omega))) ?_ (fun j hj => ?_)
    · exact ((show Str M' (q + 8) K from ⟨q5.mv hM.2.1 hM.2.2.2.1, h8⟩).mv hM2.1.2.1 hM2.1.2.2.2.1 (fun a h1 h2 => hM2.1.row (Wsd_o (by omega)))).2
    · by_cases e : j = k
      · subst e
        have c := hM2.2
        unfold CpS at c ⊢
        rw [rro _ (by omega) (by omega), rro _ (by omega) (by omega), rro _ (by omega) (by omega), rro _ (by omega) (by omega), rro _ (by omega) (by omega), rro _ (by omega) (by omega)] at c
        exact c
      · have c := hc j (by omega)
        have rr2 : ∀ a, q + 15 + 6 * j ≤ a → a ≤ q + 15 + 6 * j + 5 → gI M2 a = gI M' a := fun a h1 h2 => hM2.1.row (Wsd_o (by omega))
        unfold CpS at c ⊢
        rw [rr2 _ (by omega) (by omega), rr2 _ (by omega) (by omega), rr2 _ (by omega) (by omega), rr2 _ (by omega) (by omega), rr2 _ (by omega) (by omega), rr2 _ (by omega) (by omega)]
        exact c
theorem sR_sh {M : mM} {q p : Nat} {o : Nat} (h : ScSh M o) (hT : gT M q = .inl 6) : ScSh (sR M q 0 (some p)) o := by
  obtain ⟨q1, q2, q3, q4, q5, q6⟩ := h
  have st : ∀ s, StSh M s → StSh (sR M q 0 (some p)) s := by
    intro s hs
    have e : ∀ k, gR (sR M q 0 (some p)) s k = gR M s k := fun k => by
      rw [gR_sR]
      by_cases e : s = q
      · rw [e] at hs; have := hs.1.symm.trans hT; cases this
      · exact up2_q _ _ e
    unfold StSh at hs ⊢
    rw [e, e, e, e, e]
    exact hs
  refine ⟨q1, ?_, ?_, q4, st _ q5, fun i hi => ⟨?_, st _ (q6 i hi).2⟩⟩
  · rw [gR_sR]; by_cases e : o = q
    · subst e; rw [up2_k _ _ (by decide)]; exact q2
    · rw [up2_q _ _ e]; exact q2
  · rw [gR_sR]; by_cases e : o = q
    · subst e; rw [up2_k _ _ (by decide)]; exact q3
    · rw [up2_q _ _ e]; exact q3
  · rw [gR_sR]
    have e : o + 14 ≠ q := fun z => by rw [z] at q4; have := q4.symm.trans hT; cases this
    rw [up2_q _ _ e]
    exact (q6 i hi).1
theorem c6_takeFrom {q o p nx : Nat} {K : Nat → Int32} (hq : ScSh M q) (ho : ScSh M o) (hp : gR M o 0 = some p) (hd : ScD M o nx K) (hap : q + 74 < o ∨ o + 74 < q) (hW : WK K) : Ct G Y6_takeFrom 2 0 0 [.ref q, .ref o] M (Rs none (fun M' => Sm (Wsc q) (sR M q 0 (some p)) M' ∧ ScD M' q nx K)) NX := by
  have h14 := hW.p.2.1.2
  have hq2 : ScSh (sR M q 0 (some p)) q := sR_sh hq hq.1
  have ho2 : ScSh (sR M q 0 (some p)) o := sR_sh ho hq.1
  have hd2 : ScD (sR M q 0 (some p)) o nx K := hd
  have hcon := c7_takeFrom G (sR M q 0 (some p)) hq2.2.2.2.2.1 (show Str _ (o + 8) K from ⟨ho2.2.2.2.2.1, hd2.1⟩) (by omega) hW.l h14
  have t1 := hq.1
  have t2 := ho.1
  have u1 := hq2.2.1
  have u2 := ho2.2.1
  have t3 := hq2.1
  have t4 := ho2.1
  refine Ct.of k6_takeFrom.1 (Nat.le_of_ble_eq_true rfl) ?_
  refine v_aload_n dX6_takeFrom_0 rfl ?_
  refine v_aload_n dX6_takeFrom_1 rfl ?_
  refine v_getR 6 0 _ dX6_takeFrom_2 f6_12 (by assumption) (by decide) (by assumption) ?_
  refine v_putR 6 0 dX6_takeFrom_5 f6_12 (by assumption) (by decide) (by decide) ?_
  refine v_aload_n dX6_takeFrom_8 rfl ?_
  refine v_getR 6 1 _ dX6_takeFrom_9 f6_21 (by assumption) (by decide) (by assumption) ?_
  refine v_aload_n dX6_takeFrom_12 rfl ?_
  refine v_getR 6 1 _ dX6_takeFrom_13 f6_21 (by assumption) (by decide) (by assumption) ?_
  skip
  refine v_scVv [_] hcon k7_takeFrom dX6_takeFrom_16 l6_40 hq2.2.2.2.2.1.1 (by decide) rfl (Nat.le_of_ble_eq_true rfl) (Nat.le_of_ble_eq_true rfl) (fun M2 hM2 => ?_)
  refine v_iconst 0 dX6_takeFrom_19 (by decide) ?_
  refine v_istore_n dX6_takeFrom_20 rfl (by decide) ?_
  -- at 21: .iload_n 2
  exact l6_takeFrom G (sR M q 0 (some p)) hq2 ho2 hd2 hap h14 10 0 M2 (by omega) (hM2.1.sc (by omega) (by omega)) hM2.2.2 (fun j hj => absurd hj (by omega))
end C6b
