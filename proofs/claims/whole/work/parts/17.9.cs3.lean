/-! ===== the class's parser: marks noted, atoms ===== -/
def bts (a : Nat) : Nat → Nat
  | 0 => 0
  | n + 1 => bts a n ||| 2 ^ (a + n)
theorem bts_all : ∀ n, n < 7 → bts 0 n = 2 ^ n - 1 := by decide
theorem lwS_le {K : Nat → Int32} {mk a : Nat} (hm : mk ≤ 6) : ∀ n, lwS K mk a n ≤ 100
  | 0 => Nat.zero_le _
  | n + 1 => by
    have := lwS_le (K := K) (a := a) hm n
    rw [lwS]
    have h2 : rdl mk (kn K (1155 + (a + n))) ≤ 100 := by
      unfold rdl
      split
      · omega
      · split <;> omega
    exact Nat.max_le.mpr ⟨this, h2⟩
theorem enc_or {d m : Nat} (hd : d < 20) (hm : m < 1024) : nI d <<< ((10 : Int32) &&& 31) ||| nI m = nI (d * 1024 + m) := by
  rw [shl10 (by omega), nIor, Nat.mul_comm d 1024]
  exact congrArg nI (Nat.two_pow_add_eq_or_of_lt (i := 10) hm d).symm
theorem CS.w9 {p N : Nat} {Z : (Nat → Nat) × Nat} {M0 M : mM} {b : Bool} {rb rl rb' : Nat} {R : RSt} {v : Int32} (hp : 248 ≤ p) (h : CS p N Z M0 b rb rl R M) (hv : R.1 = 0 → v = nI (rdS R.2.2.2 (kn R.2.2.2 1) (kn R.2.2.2 7) ||| rb')) : CS p N Z M0 b rb' rl R (sI M p 9 v) := by
  obtain ⟨h1, h2, h3, h4, h5, h6⟩ := h
  have mo : ∀ q k, q ≠ p ∨ k ≠ 9 → gI (sI M p 9 v) q k = gI M q k := fun q k a => by
    by_cases hq : q = p
    · subst hq; exact gI_sk _ _ (a.resolve_left (fun z => z rfl))
    · exact gI_sq _ _ hq
  have mq : ∀ q, q ≠ p → gI (sI M p 9 v) q = gI M q := fun q a => gI_sr _ _ a
  refine ⟨h1.st _ (Wcs_p _ ⟨by omega, by omega⟩), ⟨(mo 102 3 (Or.inl (by omega))).trans h2.1, h2.2⟩, (mo 102 4 (Or.inl (by omega))).trans h3, (mo p 1 (Or.inr (by decide))).trans h4, by rw [mo p 4 (Or.inr (by decide))]; exact h5, fun z => ?_⟩
  obtain ⟨⟨⟨a1, a2, a3, a4, a5⟩, b1, b2, b3, b4, b5⟩, ⟨⟨g0, g2, g3, g4, g5, g6, g7, g8⟩, gc, grow, gcost, gst, gcode, glamp⟩, ⟨q1, q2, q3⟩⟩ := h6 z
  refine ⟨⟨⟨by rw [mq 103 (by omega)]; exact a1, a2, a3, a4, fun j hj => by rw [mq 105 (by omega), mq 106 (by omega)]; exact a5 j hj⟩, by rw [mq 103 (by omega)]; exact b1, b2, b3, by rw [mq 103 (by omega)]; exact b4, by rw [mq 103 (by omega)]; exact b5⟩, ⟨⟨?_, ?_, ?_, ?_, ?_, ?_, ?_, ?_⟩, by rw [mq 102 (by omega)]; exact gc, by rw [mq (p + 1) (by omega)]; exact grow, by rw [mq (p + 2) (by omega)]; exact gcost, by rw [mq (p + 3) (by omega)]; exact gst, by rw [mq (p + 7) (by omega)]; exact gcode, by rw [mq (p + 6) (by omega)]; exact glamp⟩, ?_, by rw [mq (p + 4) (by omega)]; exact q2, by rw [mq (p + 4) (by omega)]; exact q3⟩
  · rw [mo p 0 (Or.inr (by decide))]; exact g0
  · rw [mo p 2 (Or.inr (by decide))]; exact g2
  · rw [mo p 3 (Or.inr (by decide))]; exact g3
  · rw [mo p 4 (Or.inr (by decide))]; exact g4
  · rw [mo p 5 (Or.inr (by decide))]; exact g5
  · rw [mo p 6 (Or.inr (by decide))]; exact g6
  · rw [mo p 7 (Or.inr (by decide))]; exact g7
  · rw [mo p 8 (Or.inr (by decide))]; exact g8
  · rw [gI_ss]; exact hv z
theorem CS.wl {p N w : Nat} {Z : (Nat → Nat) × Nat} {M0 M : mM} {rb rl rl' : Nat} {R : RSt} {v : Int32} (hp : 248 ≤ p) (h : CS p N Z M0 true rb rl R M) (hw : R.1 = 0 → w = kn R.2.2.2 3) (hv : R.1 = 0 → v = nI (max (lwS R.2.2.2 (kn R.2.2.2 1) (kn R.2.2.2 (144 + kn R.2.2.2 3)) (kn R.2.2.2 7 - kn R.2.2.2 (144 + kn R.2.2.2 3))) rl') - 1) : CS p N Z M0 true rb rl' R (sI M (p + 4) w v) := by
  obtain ⟨h1, h2, h3, h4, h5, h6⟩ := h
  have mq : ∀ q, q ≠ p + 4 → gI (sI M (p + 4) w v) q = gI M q := fun q a => gI_sr _ _ a
  refine ⟨h1.st _ (Wcs_p _ ⟨by omega, by omega⟩), by rw [mq 102 (by omega)]; exact h2, by rw [mq 102 (by omega)]; exact h3, by rw [mq p (by omega)]; exact h4, by rw [mq p (by omega)]; exact h5, fun z => ?_⟩
  obtain ⟨⟨⟨a1, a2, a3, a4, a5⟩, b1, b2, b3, b4, b5⟩, ⟨gf, gc, grow, gcost, gst, gcode, glamp⟩, ⟨q1, q2, q3⟩⟩ := h6 z
  have hw' := hw z
  refine ⟨⟨⟨by rw [mq 103 (by omega)]; exact a1, a2, a3, a4, fun j hj => by rw [mq 105 (by omega), mq 106 (by omega)]; exact a5 j hj⟩, by rw [mq 103 (by omega)]; exact b1, b2, b3, by rw [mq 103 (by omega)]; exact b4, by rw [mq 103 (by omega)]; exact b5⟩, ⟨by rw [mq p (by omega)]; exact gf, by rw [mq 102 (by omega)]; exact gc, by rw [mq (p + 1) (by omega)]; exact grow, by rw [mq (p + 2) (by omega)]; exact gcost, by rw [mq (p + 3) (by omega)]; exact gst, by rw [mq (p + 7) (by omega)]; exact gcode, by rw [mq (p + 6) (by omega)]; exact glamp⟩, by rw [mq p (by omega)]; exact q1, fun d hd => ?_, fun _ => ?_⟩
  · rw [gI_sk _ _ (by omega)]; exact q2 d hd
  · rw [← hw', gI_ss, hw']; exact hv z
theorem CS.words {p N : Nat} {Z : (Nat → Nat) × Nat} {M0 M : mM} {rb rl : Nat} {R : RSt} (h : CS p N Z M0 true rb rl R M) : ∃ w, gI M p 4 = nI w ∧ w < 10 ∧ (R.1 = 0 → w = kn R.2.2.2 3) := by
  obtain ⟨h1, h2, h3, h4, ⟨w, w1, w2, w3⟩, h6⟩ := h
  refine ⟨w, w1, w3 rfl, fun z => ?_⟩
  have := (h6 z).2.1.1.2.2.2.1
  rw [w1] at this
  rw [kn, ← this, nI_clamp (by omega)]
section CN
variable (G : mG) (M : mM)
theorem c3_noteRead {p N a t : Nat} {Z : (Nat → Nat) × Nat} {M0 : mM} {R : RSt} (hM : PM M0 p N) (h : CS p N Z M0 true 0 0 R M) (hm6 : kn R.2.2.2 1 ≤ 6) (ha : a ≤ t + 1) (ht : t < 20) : Ct G Y3_noteRead 1 0 0 [.ref 102, .int (nI a), .int (nI t)] M (Rs none (CS p N Z M0 true (bts a (t + 1 - a)) (t + 1) R)) NX := by
  have hp := hM.2.2.1
  have loop : ∀ r k M', k + r = t + 1 - a → CS p N Z M0 true (bts a k) 0 R M' → V G Y3_noteRead 1 0 0 (Rs none (CS p N Z M0 true (bts a (t + 1 - a)) (t + 1) R)) NX 2 [some (.ref 102), some (.int (nI a)), some (.int (nI t)), some (.int (nI (a + k)))] [] M' := by
    intro r
    induction r with
    | zero =>
      intro k M' hk h
      have hPM := hM.sq h.1
      have hS' := hPM.1
      have hp2 := hPM.2.2.2.1
      obtain ⟨p0, p1, p2, p3, p4, p6, r10, r11, r12, r13, r15, r14, tc, hlt⟩ := hPM.2.1
      have ek : k = t + 1 - a := by omega
      subst ek
      obtain ⟨w, w1, w2, w3⟩ := h.words
      have fin : CS p N Z M0 true (bts a (t + 1 - a)) (t + 1) R (sI M' (p + 4) w (if gI M' (p + 4) w < nI t then nI t else gI M' (p + 4) w)) := by
        refine h.wl hp w3 (fun z => ?_)
        have q3 := (h.2.2.2.2.2 z).2.2.2.2 rfl
        rw [← w3 z, Nat.max_zero] at q3
        rw [← w3 z, q3, max_m1 (by have := lwS_le (K := R.2.2.2) (a := kn R.2.2.2 (144 + w)) hm6 (kn R.2.2.2 7 - kn R.2.2.2 (144 + w)); omega) (by omega)]
      have hmx := cJ_max G M' (gI M' (p + 4) w) (nI t)
      refine v_iload_n dX3_noteRead_2 rfl ?_
      refine v_iload_n dX3_noteRead_3 rfl ?_
      refine v_icmp_gt 28 dX3_noteRead_4 (by decide) (fun h4 => ?_) (fun h4 => absurd ((nI_ltI (by omega) (by omega)).mpr (by omega)) h4)
      refine v_aload_n dX3_noteRead_28 rfl ?_
      refine v_getR 3 2 _ dX3_noteRead_29 f3_21 (by first | exact hS'.1 _ _ rfl | assumption) (by decide) hp2 ?_
      refine v_getI 4 4 dX3_noteRead_32 f3_160 p0 (by decide) ?_
      rw [w1]
      refine v_bipush 10 dX3_noteRead_35 (by decide) ?_
      refine v_icmp_ge 74 dX3_noteRead_37 (by decide) (fun h37 => absurd ((nI_leI (a := 10) (by omega) (by omega)).mp h37) (by omega)) (fun h37 => ?_)
      refine v_aload_n dX3_noteRead_40 rfl ?_
      refine v_getR 3 2 _ dX3_noteRead_41 f3_21 (by first | exact hS'.1 _ _ rfl | assumption) (by decide) hp2 ?_
      refine v_getR 4 13 _ dX3_noteRead_44 f3_178 p0 (by decide) r13 ?_
      refine v_aload_n dX3_noteRead_47 rfl ?_
      refine v_getR 3 2 _ dX3_noteRead_48 f3_21 (by first | exact hS'.1 _ _ rfl | assumption) (by decide) hp2 ?_
      refine v_getI 4 4 dX3_noteRead_51 f3_160 p0 (by decide) ?_
      refine v_aload_n dX3_noteRead_54 rfl ?_
      refine v_getR 3 2 _ dX3_noteRead_55 f3_21 (by first | exact hS'.1 _ _ rfl | assumption) (by decide) hp2 ?_
      refine v_getR 4 13 _ dX3_noteRead_58 f3_178 p0 (by decide) r13 ?_
      refine v_aload_n dX3_noteRead_61 rfl ?_
      refine v_getR 3 2 _ dX3_noteRead_62 f3_21 (by first | exact hS'.1 _ _ rfl | assumption) (by decide) hp2 ?_
      refine v_getI 4 4 dX3_noteRead_65 f3_160 p0 (by decide) ?_
      rw [w1]
      refine v_ialdN (w) dX3_noteRead_68 p4 (by simp only [n_lit, pk_mul, nI_add]) ⟨by omega, by omega⟩ ?_
      refine v_iload_n dX3_noteRead_69 rfl ?_
      refine v_cS [_, _] (hmx) kJ_max dX3_noteRead_70 l3_189 rfl (Nat.le_of_ble_eq_true rfl) (Nat.le_of_ble_eq_true rfl) ?_
      refine v_iastN (w) dX3_noteRead_73 p4 (by simp only [n_lit, pk_mul, nI_add]) ⟨by omega, by omega⟩ ?_
      refine v_vret dX3_noteRead_74 rfl ?_
      exact ⟨rfl, fin⟩
    | succ r ih =>
      intro k M' hk h
      have hPM := hM.sq h.1
      have hS' := hPM.1
      have hp2 := hPM.2.2.2.1
      obtain ⟨p0, p1, p2, p3, p4, p6, r10, r11, r12, r13, r15, r14, tc, hlt⟩ := hPM.2.1
      have h' : CS p N Z M0 true (bts a (k + 1)) 0 R (sI M' p 9 (gI M' p 9 ||| nI (2 ^ (a + k)))) := h.w9 hp (fun z => by rw [(h.2.2.2.2.2 z).2.2.1, nIor, bts, Nat.or_assoc])
      have g := ih (k + 1) _ (by omega) h'
      refine v_iload_n dX3_noteRead_2 rfl ?_
      refine v_iload_n dX3_noteRead_3 rfl ?_
      refine v_icmp_gt 28 dX3_noteRead_4 (by decide) (fun h4 => absurd ((nI_ltI (by omega) (by omega)).mp h4) (by omega)) (fun h4 => ?_)
      refine v_aload_n dX3_noteRead_7 rfl ?_
      refine v_getR 3 2 _ dX3_noteRead_8 f3_21 (by first | exact hS'.1 _ _ rfl | assumption) (by decide) hp2 ?_
      refine v_dup dX3_noteRead_11 rfl ?_
      refine v_getI 4 9 dX3_noteRead_12 f3_186 p0 (by decide) ?_
      refine v_iconst 1 dX3_noteRead_15 (by decide) ?_
      refine v_iload_n dX3_noteRead_16 rfl ?_
      refine v_ishl dX3_noteRead_17 ?_
      rw [shl1 (by omega)]
      refine v_ior dX3_noteRead_18 ?_
      refine v_putI 4 9 dX3_noteRead_19 f3_186 p0 (by decide) ?_
      refine v_iinc 1 dX3_noteRead_22 rfl (by decide) rfl (by decide) ?_
      refine v_goto 2 dX3_noteRead_25 (by decide) ?_
      (rw [nI_1]; exact g)
  refine Ct.of k3_noteRead.1 (Nat.le_of_ble_eq_true rfl) ?_
  refine v_iload_n dX3_noteRead_0 rfl ?_
  refine v_istore_n dX3_noteRead_1 rfl (by decide) ?_
  exact loop (t + 1 - a) 0 M (Nat.zero_add _) h
theorem c3_readSign {p N : Nat} {Z : (Nat → Nat) × Nat} {M0 : mM} {b : Bool} {rb rl : Nat} {R : RSt} (hM : PM M0 p N) (h : CS p N Z M0 b rb rl R M) : Ct G Y3_readSign 2 0 0 [.ref 102] M (Rs (some (.int (if rIs Z 26 R then nI 9 else if rIs Z 27 R then nI 10 else nI 11))) (CS p N Z M0 b rb rl (if R.1 = 0 then cmpS Z R else R))) NX := by
  have hS' := (hM.sq h.1).1
  have t26 := c3_takeIf G M (k := 26) hM h (by decide)
  have t27 := c3_takeIf G M (k := 27) hM h (by decide)
  have t28 := c3_take G M (k := 28) hM h (by decide)
  unfold rtk at t26 t27
  refine Ct.of k3_readSign.1 (Nat.le_of_ble_eq_true rfl) ?_
  by_cases h26 : rIs Z 26 R
  · have e : (if R.1 = 0 then cmpS Z R else R) = rnx R := by rw [if_pos h26.1, cmpS, if_pos (Or.inl h26.2), rgo_z h26.1]
    rw [if_pos h26, bI_t h26] at t26
    rw [if_pos h26, e]
    refine v_aload_n dX3_readSign_0 rfl ?_
    refine v_gets (v := .ref 26) dX3_readSign_1 g3_227 (kT_z G (i := 26) (by decide) rfl) ?_
    refine v_scV [_] (t26) k3_takeIf dX3_readSign_4 l3_132 (by first | exact hS'.1 _ _ rfl | assumption) (by decide) rfl (Nat.le_of_ble_eq_true rfl) (Nat.le_of_ble_eq_true rfl) ?_
    intro M2 hM2
    refine v_if_eq 13 dX3_readSign_7 (by decide) (fun h7 => absurd h7 (by decide)) (fun h7 => ?_)
    refine v_bipush 9 dX3_readSign_10 (by decide) ?_
    refine v_iret dX3_readSign_12 rfl ?_
    exact ⟨rfl, hM2⟩
  · rw [if_neg h26, bI_f h26] at t26
    rw [if_neg h26]
    by_cases h27 : rIs Z 27 R
    · have e : (if R.1 = 0 then cmpS Z R else R) = rnx R := by rw [if_pos h27.1, cmpS, if_pos (Or.inr (Or.inl h27.2)), rgo_z h27.1]
      rw [if_pos h27, e]
      refine v_aload_n dX3_readSign_0 rfl ?_
      refine v_gets (v := .ref 26) dX3_readSign_1 g3_227 (kT_z G (i := 26) (by decide) rfl) ?_
      refine v_scV [_] (t26) k3_takeIf dX3_readSign_4 l3_132 (by first | exact hS'.1 _ _ rfl | assumption) (by decide) rfl (Nat.le_of_ble_eq_true rfl) (Nat.le_of_ble_eq_true rfl) ?_
      intro M2 hM2; have t27 := c3_takeIf G M2 (k := 27) hM hM2 (by decide); unfold rtk at t27; rw [if_pos h27, bI_t h27] at t27; have hS' := (hM.sq hM2.1).1
      refine v_if_eq 13 dX3_readSign_7 (by decide) (fun h7 => ?_) (fun h7 => absurd rfl h7)
      refine v_aload_n dX3_readSign_13 rfl ?_
      refine v_gets (v := .ref 27) dX3_readSign_14 g3_230 (kT_z G (i := 27) (by decide) rfl) ?_
      refine v_scV [_] (t27) k3_takeIf dX3_readSign_17 l3_132 (by first | exact hS'.1 _ _ rfl | assumption) (by decide) rfl (Nat.le_of_ble_eq_true rfl) (Nat.le_of_ble_eq_true rfl) ?_
      intro M3 hM3
      refine v_if_eq 26 dX3_readSign_20 (by decide) (fun h20 => absurd h20 (by decide)) (fun h20 => ?_)
      refine v_bipush 10 dX3_readSign_23 (by decide) ?_
      refine v_iret dX3_readSign_25 rfl ?_
      exact ⟨rfl, hM3⟩
    · have e : (if R.1 = 0 then cmpS Z R else R) = rmu Z 28 R := by
        by_cases hb : R.1 = 0
        · rw [if_pos hb, cmpS, rmu]
          by_cases h28 : kd Z R.2.2.1 = 28
          · rw [if_pos (Or.inr (Or.inr h28)), if_pos h28]
          · rw [if_neg h28, if_neg (fun z => z.elim (fun z => h26 ⟨hb, z⟩) (fun z => z.elim (fun z => h27 ⟨hb, z⟩) h28))]
        · rw [if_neg hb, rmu_b hb]
      rw [if_neg h27, e]
      refine v_aload_n dX3_readSign_0 rfl ?_
      refine v_gets (v := .ref 26) dX3_readSign_1 g3_227 (kT_z G (i := 26) (by decide) rfl) ?_
      refine v_scV [_] (t26) k3_takeIf dX3_readSign_4 l3_132 (by first | exact hS'.1 _ _ rfl | assumption) (by decide) rfl (Nat.le_of_ble_eq_true rfl) (Nat.le_of_ble_eq_true rfl) ?_
      intro M2 hM2; have t27 := c3_takeIf G M2 (k := 27) hM hM2 (by decide); unfold rtk at t27; rw [if_neg h27, bI_f h27] at t27; have hS' := (hM.sq hM2.1).1
      refine v_if_eq 13 dX3_readSign_7 (by decide) (fun h7 => ?_) (fun h7 => absurd rfl h7)
      refine v_aload_n dX3_readSign_13 rfl ?_
      refine v_gets (v := .ref 27) dX3_readSign_14 g3_230 (kT_z G (i := 27) (by decide) rfl) ?_
      refine v_scV [_] (t27) k3_takeIf dX3_readSign_17 l3_132 (by first | exact hS'.1 _ _ rfl | assumption) (by decide) rfl (Nat.le_of_ble_eq_true rfl) (Nat.le_of_ble_eq_true rfl) ?_
      intro M3 hM3; have hS' := (hM.sq hM3.1).1
      refine v_if_eq 26 dX3_readSign_20 (by decide) (fun h20 => ?_) (fun h20 => absurd rfl h20)
      refine v_aload_n dX3_readSign_26 rfl ?_
      refine v_gets (v := .ref 28) dX3_readSign_27 g3_233 (kT_z G (i := 28) (by decide) rfl) ?_
      refine v_scVv [_] (c3_take G M3 (k := 28) hM hM3 (by decide)) k3_take dX3_readSign_30 l3_52 (by first | exact hS'.1 _ _ rfl | assumption) (by decide) rfl (Nat.le_of_ble_eq_true rfl) (Nat.le_of_ble_eq_true rfl) ?_
      intro M4 hM4
      refine v_bipush 11 dX3_readSign_33 (by decide) ?_
      refine v_iret dX3_readSign_35 rfl ?_
      exact ⟨rfl, hM4⟩
end CN
