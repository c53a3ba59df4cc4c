/-! ===== the class LeastWords: parts, nearest, common ===== -/
/-- the least so far, as the class has it: above all at first -/
def lsM (r : Int32 × Int32) (top : Int32) : Int32 := if r.1 = -1 then top else r.2
theorem lsM_lt {r : Int32 × Int32} {top z : Int32} (hz : z < top) : z < lsM r top ↔ (r.1 = -1 ∨ z < r.2) := by
  unfold lsM
  by_cases h : r.1 = -1
  · rw [if_pos h]; exact ⟨fun _ => Or.inl h, fun _ => hz⟩
  · rw [if_neg h]; exact ⟨Or.inr, fun q => q.resolve_left h⟩
theorem dif_dif (a b c : Nat) : dif (dif a b) c = dif a (b ||| c) := by
  apply Nat.eq_of_testBit_eq
  intro i
  rw [dif_bit, dif_bit, dif_bit, Nat.testBit_or]
  cases a.testBit i <;> cases b.testBit i <;> cases c.testBit i <;> rfl
section O5
variable (G : mG) (M : mM)
theorem l11_parts {K : Nat → Int32} (h : MR M K) : ∀ i c (a b : Option Value), c + i = kn K 3 → V G Y11_parts 40 0 0 (Qt 0 (some (.int (fmF (fun _ => true) (ptG K) (kn K 3)).1)) M K) NX 23 [some (.ref 100), some (.int (nI (pcn (kn K 93)))), some (.int (fmF (fun _ => true) (ptG K) c).1), some (.int (lsM (fmF (fun _ => true) (ptG K) c) (nI (pcn (kn K 93) + 1)))), some (.int (nI c)), a, b] [] M := by
  have h0 := h
  have hs := h.sd
  obtain ⟨hS, hW, hz, hsc, p, cd, n, rd, l1, hp0, hp, hrd, hpa⟩ := h
  have h14 := hW.p.2.1.2
  have h10 := hW.p.2.2.1.2
  intro i
  induction i with
  | zero =>
    intro c a b hc
    obtain rfl : c = kn K 3 := by omega
    refine v_iload dX11_parts_23 rfl ?_
    refine v_aload_n dX11_parts_25 rfl ?_
    refine v_getR 11 6 _ dX11_parts_26 f11_34 (by first | exact hS.1 _ _ rfl | assumption) (by decide) (by first | exact hp0 | exact hS.2 _ _ _ rfl | assumption) ?_
    refine v_getR 6 0 _ dX11_parts_29 f11_130 (by first | exact hS.1 _ _ rfl | assumption) (by decide) (by first | exact hp0 | exact hS.2 _ _ _ rfl | assumption) ?_
    refine v_getI 4 4 dX11_parts_32 f11_352 hp.1.1 (by decide) ?_
    rw [hp.2.1.2.2.2.1, hW.p.2.2.1.1]
    refine v_icmp_ge 84 dX11_parts_35 (by decide) (fun h35 => ?_) (fun h35 => absurd (nI_le (Nat.le_refl _) (by omega)) h35)
    refine v_iload_n dX11_parts_84 rfl ?_
    refine v_iret dX11_parts_85 rfl ?_
    exact ⟨rfl, rfl, Kp.rf, h0⟩
  | succ i ih =>
    intro c a b hc
    have hn := fun a b => ih (c + 1) a b (by omega)
    simp only [fmF] at hn
    have q1 := c7_holders G M hs hW (w := c) (by omega)
    have hp2 : 2 ^ kn K 2 ≤ 16384 := (show 2 ^ kn K 2 ≤ 2 ^ 14 from Nat.pow_le_pow_right (by decide) h14)
    have b1 : bset (kn K 2) (inbP K c) < 16384 := Nat.lt_of_lt_of_le (bset_lt _ _) hp2
    have b2 : kn K 93 < 16384 := Nat.lt_of_lt_of_le hW.i.2 hp2
    have b3 : pcn (bset (kn K 2) (inbP K c)) ≤ pcn (kn K 93) := by
      have hsub : bset (kn K 2) (inbP K c) &&& kn K 93 = bset (kn K 2) (inbP K c) := by
        apply Nat.eq_of_testBit_eq
        intro j
        rw [Nat.testBit_and, bset_bit]
        unfold inbP
        cases (kn K 93).testBit j <;> simp
      have h1 := pcn_split (kn K 93) (bset (kn K 2) (inbP K c))
      rw [Nat.and_comm, hsub] at h1
      omega
    have b4 := pcn_le (kn K 93)
    have hgv : ptG K c = nI (max (pcn (bset (kn K 2) (inbP K c))) (pcn (kn K 93) - pcn (bset (kn K 2) (inbP K c)))) := by
      unfold ptG
      rw [pk_sub b3, nI_max _ _ (by omega) (by omega)]
    have hgt : ptG K c < nI (pcn (kn K 93) + 1) := by
      rw [hgv]; exact nI_lt (by omega) (by omega)
    have hl := lsM_lt (r := fmF (fun _ => true) (ptG K) c) hgt
    have hpt : ptG K c = (if nI (pcn (bset (kn K 2) (inbP K c))) < nI (pcn (kn K 93)) - nI (pcn (bset (kn K 2) (inbP K c))) then nI (pcn (kn K 93)) - nI (pcn (bset (kn K 2) (inbP K c))) else nI (pcn (bset (kn K 2) (inbP K c)))) := rfl
    generalize hX : ptG K c = X at *
    by_cases hlt : X < lsM (fmF (fun _ => true) (ptG K) c) (nI (pcn (kn K 93) + 1))
    · rw [if_pos ⟨trivial, hl.mp hlt⟩, show lsM (nI c, X) (nI (pcn (kn K 93) + 1)) = X from if_neg (nI_m1 (by omega))] at hn
      generalize hR : fmF (fun _ => true) (ptG K) c = R at *
      refine v_iload dX11_parts_23 rfl ?_
      refine v_aload_n dX11_parts_25 rfl ?_
      refine v_getR 11 6 _ dX11_parts_26 f11_34 (by first | exact hS.1 _ _ rfl | assumption) (by decide) (by first | exact hp0 | exact hS.2 _ _ _ rfl | assumption) ?_
      refine v_getR 6 0 _ dX11_parts_29 f11_130 (by first | exact hS.1 _ _ rfl | assumption) (by decide) (by first | exact hp0 | exact hS.2 _ _ _ rfl | assumption) ?_
      refine v_getI 4 4 dX11_parts_32 f11_352 hp.1.1 (by decide) ?_
      rw [hp.2.1.2.2.2.1, hW.p.2.2.1.1]
      refine v_icmp_ge 84 dX11_parts_35 (by decide) (fun h35 => absurd ((nI_leI (by omega) (by omega)).mp h35) (by omega)) (fun h35 => ?_)
      refine v_aload_n dX11_parts_38 rfl ?_
      refine v_getR 11 6 _ dX11_parts_39 f11_34 (by first | exact hS.1 _ _ rfl | assumption) (by decide) (by first | exact hp0 | exact hS.2 _ _ _ rfl | assumption) ?_
      refine v_getR 6 1 _ dX11_parts_42 f11_119 (by first | exact hS.1 _ _ rfl | assumption) (by decide) (by first | exact hp0 | exact hS.2 _ _ _ rfl | assumption) ?_
      refine v_iload dX11_parts_45 rfl ?_
      refine v_cV [_] (q1) k7_holders dX11_parts_47 l11_164 (by first | exact hS.1 _ _ rfl | assumption) (by decide) rfl (Nat.le_of_ble_eq_true rfl) (Nat.le_of_ble_eq_true rfl) ?_
      refine v_cS [_] (cJ_bitCount G M _) kJ_bitCount dX11_parts_50 l11_152 rfl (Nat.le_of_ble_eq_true rfl) (Nat.le_of_ble_eq_true rfl) ?_
      rw [bcI_n b1]
      refine v_istore dX11_parts_53 rfl (by decide) ?_
      refine v_iload dX11_parts_55 rfl ?_
      refine v_iload_n dX11_parts_57 rfl ?_
      refine v_iload dX11_parts_58 rfl ?_
      refine v_isub dX11_parts_60 ?_
      refine v_cS [_, _] (cJ_max G M _ _) kJ_max dX11_parts_61 l11_355 rfl (Nat.le_of_ble_eq_true rfl) (Nat.le_of_ble_eq_true rfl) ?_
      rw [← hpt]
      refine v_istore dX11_parts_64 rfl (by decide) ?_
      refine v_iload dX11_parts_66 rfl ?_
      refine v_iload_n dX11_parts_68 rfl ?_
      refine v_icmp_ge 78 dX11_parts_69 (by decide) (fun h69 => absurd hlt (Int32.not_lt.mpr h69)) (fun h69 => ?_)
      refine v_iload dX11_parts_72 rfl ?_
      refine v_istore_n dX11_parts_74 rfl (by decide) ?_
      refine v_iload dX11_parts_75 rfl ?_
      refine v_istore_n dX11_parts_77 rfl (by decide) ?_
      refine v_iinc 1 dX11_parts_78 rfl (by decide) rfl (by decide) ?_
      refine v_goto 23 dX11_parts_81 (by decide) ?_
      (rw [nI_1]; exact hn _ _)
    · rw [if_neg (fun z => hlt (hl.mpr z.2))] at hn
      generalize hR : fmF (fun _ => true) (ptG K) c = R at *
      refine v_iload dX11_parts_23 rfl ?_
      refine v_aload_n dX11_parts_25 rfl ?_
      refine v_getR 11 6 _ dX11_parts_26 f11_34 (by first | exact hS.1 _ _ rfl | assumption) (by decide) (by first | exact hp0 | exact hS.2 _ _ _ rfl | assumption) ?_
      refine v_getR 6 0 _ dX11_parts_29 f11_130 (by first | exact hS.1 _ _ rfl | assumption) (by decide) (by first | exact hp0 | exact hS.2 _ _ _ rfl | assumption) ?_
      refine v_getI 4 4 dX11_parts_32 f11_352 hp.1.1 (by decide) ?_
      rw [hp.2.1.2.2.2.1, hW.p.2.2.1.1]
      refine v_icmp_ge 84 dX11_parts_35 (by decide) (fun h35 => absurd ((nI_leI (by omega) (by omega)).mp h35) (by omega)) (fun h35 => ?_)
      refine v_aload_n dX11_parts_38 rfl ?_
      refine v_getR 11 6 _ dX11_parts_39 f11_34 (by first | exact hS.1 _ _ rfl | assumption) (by decide) (by first | exact hp0 | exact hS.2 _ _ _ rfl | assumption) ?_
      refine v_getR 6 1 _ dX11_parts_42 f11_119 (by first | exact hS.1 _ _ rfl | assumption) (by decide) (by first | exact hp0 | exact hS.2 _ _ _ rfl | assumption) ?_
      refine v_iload dX11_parts_45 rfl ?_
      refine v_cV [_] (q1) k7_holders dX11_parts_47 l11_164 (by first | exact hS.1 _ _ rfl | assumption) (by decide) rfl (Nat.le_of_ble_eq_true rfl) (Nat.le_of_ble_eq_true rfl) ?_
      refine v_cS [_] (cJ_bitCount G M _) kJ_bitCount dX11_parts_50 l11_152 rfl (Nat.le_of_ble_eq_true rfl) (Nat.le_of_ble_eq_true rfl) ?_
      rw [bcI_n b1]
      refine v_istore dX11_parts_53 rfl (by decide) ?_
      refine v_iload dX11_parts_55 rfl ?_
      refine v_iload_n dX11_parts_57 rfl ?_
      refine v_iload dX11_parts_58 rfl ?_
      refine v_isub dX11_parts_60 ?_
      refine v_cS [_, _] (cJ_max G M _ _) kJ_max dX11_parts_61 l11_355 rfl (Nat.le_of_ble_eq_true rfl) (Nat.le_of_ble_eq_true rfl) ?_
      rw [← hpt]
      refine v_istore dX11_parts_64 rfl (by decide) ?_
      refine v_iload dX11_parts_66 rfl ?_
      refine v_iload_n dX11_parts_68 rfl ?_
      refine v_icmp_ge 78 dX11_parts_69 (by decide) (fun h69 => ?_) (fun h69 => absurd (Int32.not_lt.mp hlt) h69)
      refine v_iinc 1 dX11_parts_78 rfl (by decide) rfl (by decide) ?_
      refine v_goto 23 dX11_parts_81 (by decide) ?_
      (rw [nI_1]; exact hn _ _)
theorem c11_parts {K : Nat → Int32} (h : MR M K) : Ct G Y11_parts 40 0 0 [.ref 100] M (Qt (0) (some (.int (fmF (fun _ => true) (ptG K) (kn K 3)).1)) M (K)) (NX) := by
  have h0 := h
  have hs := h.sd
  obtain ⟨hS, hW, hz, hsc, p, cd, n, rd, l1, hp0, hp, hrd, hpa⟩ := h
  obtain ⟨ap1, ap2, ap3, ap4, ap5, ap6, ap7, ap8⟩ := hpa.ap hz
  have h14 := hW.p.2.1.2
  have h6 := hW.p.1.2.2
  have h10 := hW.p.2.2.1.2
  refine Ct.of k11_parts.1 (Nat.le_of_ble_eq_true rfl) ?_
  have hp2 : 2 ^ kn K 2 ≤ 16384 := (show 2 ^ kn K 2 ≤ 2 ^ 14 from Nat.pow_le_pow_right (by decide) h14)
  have b2 : kn K 93 < 16384 := Nat.lt_of_lt_of_le hW.i.2 hp2
  refine v_aload_n dX11_parts_0 rfl ?_
  refine v_getR 11 6 _ dX11_parts_1 f11_34 (by first | exact hS.1 _ _ rfl | assumption) (by decide) (by first | exact hp0 | exact hS.2 _ _ _ rfl | assumption) ?_
  refine v_getR 6 1 _ dX11_parts_4 f11_119 (by first | exact hS.1 _ _ rfl | assumption) (by decide) (by first | exact hp0 | exact hS.2 _ _ _ rfl | assumption) ?_
  refine v_getI 7 5 dX11_parts_7 f11_288 (by first | exact hS.1 _ _ rfl | assumption) (by decide) ?_
  rw [hs.2.2.2.1, hW.i.1]
  refine v_cS [_] (cJ_bitCount G M _) kJ_bitCount dX11_parts_10 l11_152 rfl (Nat.le_of_ble_eq_true rfl) (Nat.le_of_ble_eq_true rfl) ?_
  rw [bcI_n b2]
  refine v_istore_n dX11_parts_13 rfl (by decide) ?_
  refine v_iconst (-1) dX11_parts_14 (by decide) ?_
  refine v_istore_n dX11_parts_15 rfl (by decide) ?_
  refine v_iload_n dX11_parts_16 rfl ?_
  refine v_iconst 1 dX11_parts_17 (by decide) ?_
  refine v_iadd dX11_parts_18 ?_
  refine v_istore_n dX11_parts_19 rfl (by decide) ?_
  refine v_iconst 0 dX11_parts_20 (by decide) ?_
  refine v_istore dX11_parts_21 rfl (by decide) ?_
  (rw [nI_1]; exact v_pad (v_pad (l11_parts G M h0 (kn K 3) 0 none none (by omega))))
theorem l11_nearest {K : Nat → Int32} (h : MR M K) {d : Nat} (hd : d < kn K 2) : ∀ i c (a : Option Value), c + i = kn K 2 → V G Y11_nearest 40 1 6 (Qt 0 (some (.int (fmF (nrO K d) (nrG K d) (kn K 2)).1)) M K) NX 13 [some (.ref 100), some (.int (nI d)), some (.int (fmF (nrO K d) (nrG K d) c).1), some (.int (lsM (fmF (nrO K d) (nrG K d) c) 11)), some (.int (nI c)), a] [] M := by
  have h0 := h
  have hs := h.sd
  obtain ⟨hS, hW, hz, hsc, p, cd, n, rd, l1, hp0, hp, hrd, hpa⟩ := h
  have h14 := hW.p.2.1.2
  have h10 := hW.p.2.2.1.2
  intro i
  induction i with
  | zero =>
    intro c a hc
    obtain rfl : c = kn K 2 := by omega
    refine v_iload dX11_nearest_13 rfl ?_
    refine v_aload_n dX11_nearest_15 rfl ?_
    refine v_getR 11 6 _ dX11_nearest_16 f11_34 (by first | exact hS.1 _ _ rfl | assumption) (by decide) (by first | exact hp0 | exact hS.2 _ _ _ rfl | assumption) ?_
    refine v_getR 6 0 _ dX11_nearest_19 f11_130 (by first | exact hS.1 _ _ rfl | assumption) (by decide) (by first | exact hp0 | exact hS.2 _ _ _ rfl | assumption) ?_
    refine v_getI 4 2 dX11_nearest_22 f11_208 hp.1.1 (by decide) ?_
    rw [hp.2.1.2.2.1, hW.p.2.1.1]
    refine v_icmp_ge 96 dX11_nearest_25 (by decide) (fun h25 => ?_) (fun h25 => absurd (nI_le (Nat.le_refl _) (by omega)) h25)
    refine v_iload_n dX11_nearest_96 rfl ?_
    refine v_iret dX11_nearest_97 rfl ?_
    exact ⟨rfl, rfl, Kp.rf, h0⟩
  | succ i ih =>
    intro c a hc
    have hn := fun a => ih (c + 1) a (by omega)
    simp only [fmF] at hn
    by_cases hcd : c = d
    · rw [if_neg (fun z => by have := z.1; unfold nrO at this; simp [hcd] at this)] at hn
      refine v_iload dX11_nearest_13 rfl ?_
      refine v_aload_n dX11_nearest_15 rfl ?_
      refine v_getR 11 6 _ dX11_nearest_16 f11_34 (by first | exact hS.1 _ _ rfl | assumption) (by decide) (by first | exact hp0 | exact hS.2 _ _ _ rfl | assumption) ?_
      refine v_getR 6 0 _ dX11_nearest_19 f11_130 (by first | exact hS.1 _ _ rfl | assumption) (by decide) (by first | exact hp0 | exact hS.2 _ _ _ rfl | assumption) ?_
      refine v_getI 4 2 dX11_nearest_22 f11_208 hp.1.1 (by decide) ?_
      rw [hp.2.1.2.2.1, hW.p.2.1.1]
      refine v_icmp_ge 96 dX11_nearest_25 (by decide) (fun h25 => absurd ((nI_leI (by omega) (by omega)).mp h25) (by omega)) (fun h25 => ?_)
      refine v_iload dX11_nearest_28 rfl ?_
      refine v_iload_n dX11_nearest_30 rfl ?_
      refine v_icmp_eq 90 dX11_nearest_31 (by decide) (fun h31 => ?_) (fun h31 => absurd (by rw [hcd]) h31)
      refine v_iinc 1 dX11_nearest_90 rfl (by decide) rfl (by decide) ?_
      refine v_goto 13 dX11_nearest_93 (by decide) ?_
      (rw [nI_1]; exact hn _)
    · have q1 := c7_isIn G M hs hW (c := c) (by omega)
      by_cases hb : (kn K 93).testBit c = true
      · rw [bI_t hb] at q1
        have q2 := c7_truthN G M hs hW hd
        have q3 := c7_truthN G M hs hW (c := c) (by omega)
        have t1 : trH K d < 1024 := trN_lt hW.p _ d
        have t2 : trH K c < 1024 := trN_lt hW.p _ c
        have t3 : trH K d ^^^ trH K c < 1024 := Nat.xor_lt_two_pow (n := 10) t1 t2
        have hgv : nrG K d c = nI (pcn (trH K d ^^^ trH K c)) := rfl
        have hgt : nrG K d c < (11 : Int32) := by rw [hgv]; exact nI_lt (b := 11) (by have := pcn_le10 t3; omega) (by decide)
        have hl := lsM_lt (r := fmF (nrO K d) (nrG K d) c) hgt
        have hok : nrO K d c = true := by unfold nrO; rw [hb]; simp [hcd]
        generalize hX : nrG K d c = X at *
        by_cases hlt : X < lsM (fmF (nrO K d) (nrG K d) c) 11
        · rw [if_pos ⟨hok, hl.mp hlt⟩, show lsM (nI c, X) 11 = X from if_neg (nI_m1 (by omega))] at hn
          generalize hR : fmF (nrO K d) (nrG K d) c = R at *
          refine v_iload dX11_nearest_13 rfl ?_
          refine v_aload_n dX11_nearest_15 rfl ?_
          refine v_getR 11 6 _ dX11_nearest_16 f11_34 (by first | exact hS.1 _ _ rfl | assumption) (by decide) (by first | exact hp0 | exact hS.2 _ _ _ rfl | assumption) ?_
          refine v_getR 6 0 _ dX11_nearest_19 f11_130 (by first | exact hS.1 _ _ rfl | assumption) (by decide) (by first | exact hp0 | exact hS.2 _ _ _ rfl | assumption) ?_
          refine v_getI 4 2 dX11_nearest_22 f11_208 hp.1.1 (by decide) ?_
          rw [hp.2.1.2.2.1, hW.p.2.1.1]
          refine v_icmp_ge 96 dX11_nearest_25 (by decide) (fun h25 => absurd ((nI_leI (by omega) (by omega)).mp h25) (by omega)) (fun h25 => ?_)
          refine v_iload dX11_nearest_28 rfl ?_
          refine v_iload_n dX11_nearest_30 rfl ?_
          refine v_icmp_eq 90 dX11_nearest_31 (by decide) (fun h31 => absurd ((nI_eq (by omega) (by omega)).mp h31) hcd) (fun h31 => ?_)
          refine v_aload_n dX11_nearest_34 rfl ?_
          refine v_getR 11 6 _ dX11_nearest_35 f11_34 (by first | exact hS.1 _ _ rfl | assumption) (by decide) (by first | exact hp0 | exact hS.2 _ _ _ rfl | assumption) ?_
          refine v_getR 6 1 _ dX11_nearest_38 f11_119 (by first | exact hS.1 _ _ rfl | assumption) (by decide) (by first | exact hp0 | exact hS.2 _ _ _ rfl | assumption) ?_
          refine v_iload dX11_nearest_41 rfl ?_
          refine v_cV [_] (q1) k7_isIn dX11_nearest_43 l11_141 (by first | exact hS.1 _ _ rfl | assumption) (by decide) rfl (Nat.le_of_ble_eq_true rfl) (Nat.le_of_ble_eq_true rfl) ?_
          refine v_if_eq 90 dX11_nearest_46 (by decide) (fun h46 => absurd h46 (by decide)) (fun h46 => ?_)
          refine v_aload_n dX11_nearest_49 rfl ?_
          refine v_getR 11 6 _ dX11_nearest_50 f11_34 (by first | exact hS.1 _ _ rfl | assumption) (by decide) (by first | exact hp0 | exact hS.2 _ _ _ rfl | assumption) ?_
          refine v_getR 6 1 _ dX11_nearest_53 f11_119 (by first | exact hS.1 _ _ rfl | assumption) (by decide) (by first | exact hp0 | exact hS.2 _ _ _ rfl | assumption) ?_
          refine v_iload_n dX11_nearest_56 rfl ?_
          refine v_cV [_] (q2) k7_truth dX11_nearest_57 l11_145 (by first | exact hS.1 _ _ rfl | assumption) (by decide) rfl (Nat.le_of_ble_eq_true rfl) (Nat.le_of_ble_eq_true rfl) ?_
          refine v_aload_n dX11_nearest_60 rfl ?_
          refine v_getR 11 6 _ dX11_nearest_61 f11_34 (by first | exact hS.1 _ _ rfl | assumption) (by decide) (by first | exact hp0 | exact hS.2 _ _ _ rfl | assumption) ?_
          refine v_getR 6 1 _ dX11_nearest_64 f11_119 (by first | exact hS.1 _ _ rfl | assumption) (by decide) (by first | exact hp0 | exact hS.2 _ _ _ rfl | assumption) ?_
          refine v_iload dX11_nearest_67 rfl ?_
          refine v_cV [_] (q3) k7_truth dX11_nearest_69 l11_145 (by first | exact hS.1 _ _ rfl | assumption) (by decide) rfl (Nat.le_of_ble_eq_true rfl) (Nat.le_of_ble_eq_true rfl) ?_
          refine v_ixor dX11_nearest_72 ?_
          rw [nIxor]
          refine v_cS [_] (cJ_bitCount G M _) kJ_bitCount dX11_nearest_73 l11_152 rfl (Nat.le_of_ble_eq_true rfl) (Nat.le_of_ble_eq_true rfl) ?_
          rw [bcI_n (by omega), ← hgv]
          refine v_istore dX11_nearest_76 rfl (by decide) ?_
          refine v_iload dX11_nearest_78 rfl ?_
          refine v_iload_n dX11_nearest_80 rfl ?_
          refine v_icmp_ge 90 dX11_nearest_81 (by decide) (fun h81 => absurd hlt (Int32.not_lt.mpr h81)) (fun h81 => ?_)
          refine v_iload dX11_nearest_84 rfl ?_
          refine v_istore_n dX11_nearest_86 rfl (by decide) ?_
          refine v_iload dX11_nearest_87 rfl ?_
          refine v_istore_n dX11_nearest_89 rfl (by decide) ?_
          refine v_iinc 1 dX11_nearest_90 rfl (by decide) rfl (by decide) ?_
          refine v_goto 13 dX11_nearest_93 (by decide) ?_
          (rw [nI_1]; exact hn _)
        · rw [if_neg (fun z => hlt (hl.mpr z.2))] at hn
          generalize hR : fmF (nrO K d) (nrG K d) c = R at *
          refine v_iload dX11_nearest_13 rfl ?_
          refine v_aload_n dX11_nearest_15 rfl ?_
          refine v_getR 11 6 _ dX11_nearest_16 f11_34 (by first | exact hS.1 _ _ rfl | assumption) (by decide) (by first | exact hp0 | exact hS.2 _ _ _ rfl | assumption) ?_
          refine v_getR 6 0 _ dX11_nearest_19 f11_130 (by first | exact hS.1 _ _ rfl | assumption) (by decide) (by first | exact hp0 | exact hS.2 _ _ _ rfl | assumption) ?_
          refine v_getI 4 2 dX11_nearest_22 f11_208 hp.1.1 (by decide) ?_
          rw [hp.2.1.2.2.1, hW.p.2.1.1]
          refine v_icmp_ge 96 dX11_nearest_25 (by decide) (fun h25 => absurd ((nI_leI (by omega) (by omega)).mp h25) (by omega)) (fun h25 => ?_)
          refine v_iload dX11_nearest_28 rfl ?_
          refine v_iload_n dX11_nearest_30 rfl ?_
          refine v_icmp_eq 90 dX11_nearest_31 (by decide) (fun h31 => absurd ((nI_eq (by omega) (by omega)).mp h31) hcd) (fun h31 => ?_)
          refine v_aload_n dX11_nearest_34 rfl ?_
          refine v_getR 11 6 _ dX11_nearest_35 f11_34 (by first | exact hS.1 _ _ rfl | assumption) (by decide) (by first | exact hp0 | exact hS.2 _ _ _ rfl | assumption) ?_
          refine v_getR 6 1 _ dX11_nearest_38 f11_119 (by first | exact hS.1 _ _ rfl | assumption) (by decide) (by first | exact hp0 | exact hS.2 _ _ _ rfl | assumption) ?_
          refine v_iload dX11_nearest_41 rfl ?_
          refine v_cV [_] (q1) k7_isIn dX11_nearest_43 l11_141 (by first | exact hS.1 _ _ rfl | assumption) (by decide) rfl (Nat.le_of_ble_eq_true rfl) (Nat.le_of_ble_eq_true rfl) ?_
          refine v_if_eq 90 dX11_nearest_46 (by decide) (fun h46 => absurd h46 (by decide)) (fun h46 => ?_)
          refine v_aload_n dX11_nearest_49 rfl ?_
          refine v_getR 11 6 _ dX11_nearest_50 f11_34 (by first | exact hS.1 _ _ rfl | assumption) (by decide) (by first | exact hp0 | exact hS.2 _ _ _ rfl | assumption) ?_
          refine v_getR 6 1 _ dX11_nearest_53 f11_119 (by first | exact hS.1 _ _ rfl | assumption) (by decide) (by first | exact hp0 | exact hS.2 _ _ _ rfl | assumption) ?_
          refine v_iload_n dX11_nearest_56 rfl ?_
          refine v_cV [_] (q2) k7_truth dX11_nearest_57 l11_145 (by first | exact hS.1 _ _ rfl | assumption) (by decide) rfl (Nat.le_of_ble_eq_true rfl) (Nat.le_of_ble_eq_true rfl) ?_
          refine v_aload_n dX11_nearest_60 rfl ?_
          refine v_getR 11 6 _ dX11_nearest_61 f11_34 (by first | exact hS.1 _ _ rfl | assumption) (by decide) (by first | exact hp0 | exact hS.2 _ _ _ rfl | assumption) ?_
          refine v_getR 6 1 _ dX11_nearest_64 f11_119 (by first | exact hS.1 _ _ rfl | assumption) (by decide) (by first | exact hp0 | exact hS.2 _ _ _ rfl | assumption) ?_
          refine v_iload dX11_nearest_67 rfl ?_
          refine v_cV [_] (q3) k7_truth dX11_nearest_69 l11_145 (by first | exact hS.1 _ _ rfl | assumption) (by decide) rfl (Nat.le_of_ble_eq_true rfl) (Nat.le_of_ble_eq_true rfl) ?_
          refine v_ixor dX11_nearest_72 ?_
          rw [nIxor]
          refine v_cS [_] (cJ_bitCount G M _) kJ_bitCount dX11_nearest_73 l11_152 rfl (Nat.le_of_ble_eq_true rfl) (Nat.le_of_ble_eq_true rfl) ?_
          rw [bcI_n (by omega), ← hgv]
          refine v_istore dX11_nearest_76 rfl (by decide) ?_
          refine v_iload dX11_nearest_78 rfl ?_
          refine v_iload_n dX11_nearest_80 rfl ?_
          refine v_icmp_ge 90 dX11_nearest_81 (by decide) (fun h81 => ?_) (fun h81 => absurd (Int32.not_lt.mp hlt) h81)
          refine v_iinc 1 dX11_nearest_90 rfl (by decide) rfl (by decide) ?_
          refine v_goto 13 dX11_nearest_93 (by decide) ?_
          (rw [nI_1]; exact hn _)
      · rw [bI_f hb] at q1
        rw [if_neg (fun z => by have := z.1; unfold nrO at this; simp [hb] at this)] at hn
        generalize hR : fmF (nrO K d) (nrG K d) c = R at *
        refine v_iload dX11_nearest_13 rfl ?_
        refine v_aload_n dX11_nearest_15 rfl ?_
        refine v_getR 11 6 _ dX11_nearest_16 f11_34 (by first | exact hS.1 _ _ rfl | assumption) (by decide) (by first | exact hp0 | exact hS.2 _ _ _ rfl | assumption) ?_
        refine v_getR 6 0 _ dX11_nearest_19 f11_130 (by first | exact hS.1 _ _ rfl | assumption) (by decide) (by first | exact hp0 | exact hS.2 _ _ _ rfl | assumption) ?_
        refine v_getI 4 2 dX11_nearest_22 f11_208 hp.1.1 (by decide) ?_
        rw [hp.2.1.2.2.1, hW.p.2.1.1]
        refine v_icmp_ge 96 dX11_nearest_25 (by decide) (fun h25 => absurd ((nI_leI (by omega) (by omega)).mp h25) (by omega)) (fun h25 => ?_)
        refine v_iload dX11_nearest_28 rfl ?_
        refine v_iload_n dX11_nearest_30 rfl ?_
        refine v_icmp_eq 90 dX11_nearest_31 (by decide) (fun h31 => absurd ((nI_eq (by omega) (by omega)).mp h31) hcd) (fun h31 => ?_)
        refine v_aload_n dX11_nearest_34 rfl ?_
        refine v_getR 11 6 _ dX11_nearest_35 f11_34 (by first | exact hS.1 _ _ rfl | assumption) (by decide) (by first | exact hp0 | exact hS.2 _ _ _ rfl | assumption) ?_
        refine v_getR 6 1 _ dX11_nearest_38 f11_119 (by first | exact hS.1 _ _ rfl | assumption) (by decide) (by first | exact hp0 | exact hS.2 _ _ _ rfl | assumption) ?_
        refine v_iload dX11_nearest_41 rfl ?_
        refine v_cV [_] (q1) k7_isIn dX11_nearest_43 l11_141 (by first | exact hS.1 _ _ rfl | assumption) (by decide) rfl (Nat.le_of_ble_eq_true rfl) (Nat.le_of_ble_eq_true rfl) ?_
        refine v_if_eq 90 dX11_nearest_46 (by decide) (fun h46 => ?_) (fun h46 => absurd rfl h46)
        refine v_iinc 1 dX11_nearest_90 rfl (by decide) rfl (by decide) ?_
        refine v_goto 13 dX11_nearest_93 (by decide) ?_
        (rw [nI_1]; exact hn _)
theorem c11_nearest {K : Nat → Int32} (h : MR M K) (c : Int32) : Ct G Y11_nearest 40 1 6 [.ref 100, .int c] M (Qt (tIn K c) (some (.int (fmF (nrO K c.toNatClampNeg) (nrG K c.toNatClampNeg) (kn K 2)).1)) M (K)) (Xt [(1, nsE)] (tIn K c) M) := by
  have h0 := h
  have hs := h.sd
  obtain ⟨hS, hW, hz, hsc, p, cd, n, rd, l1, hp0, hp, hrd, hpa⟩ := h
  obtain ⟨ap1, ap2, ap3, ap4, ap5, ap6, ap7, ap8⟩ := hpa.ap hz
  have h14 := hW.p.2.1.2
  have h6 := hW.p.1.2.2
  have h10 := hW.p.2.2.1.2
  refine Ct.of k11_nearest.1 (Nat.le_of_ble_eq_true rfl) ?_
  by_cases hc : inR (kn K 2) c = true
  · have q1 := c11_needChest G M h0 hc
    rw [show tIn K c = 0 from if_pos hc]
    obtain ⟨j, hj, rfl, hj2⟩ := inR_of hc
    rw [nI_clamp hj2]
    refine v_aload_n dX11_nearest_0 rfl ?_
    refine v_iload_n dX11_nearest_1 rfl ?_
    refine v_cVv [_] (q1) k11_needChest dX11_nearest_2 l11_113 (by first | exact hS.1 _ _ rfl | assumption) (by decide) rfl (Nat.le_of_ble_eq_true rfl) (Nat.le_of_ble_eq_true rfl) ?_
    refine v_iconst (-1) dX11_nearest_5 (by decide) ?_
    refine v_istore_n dX11_nearest_6 rfl (by decide) ?_
    refine v_bipush 11 dX11_nearest_7 (by decide) ?_
    refine v_istore_n dX11_nearest_9 rfl (by decide) ?_
    refine v_iconst 0 dX11_nearest_10 (by decide) ?_
    refine v_istore dX11_nearest_11 rfl (by decide) ?_
    exact V.post (v_pad (l11_nearest G M h0 hj (kn K 2) 0 none (by omega))) (fun _ _ h => h) (fun _ _ h => h.elim)
  · have ht : tIn K c = 1 := if_neg hc
    rw [ht]
    refine v_aload_n dX11_nearest_0 rfl ?_
    refine v_iload_n dX11_nearest_1 rfl ?_
    refine v_callV [_] (c11_needChestF G M h0 hc) k11_needChest dX11_nearest_2 l11_113 (by first | exact hS.1 _ _ rfl | assumption) (by decide) rfl (Nat.le_of_ble_eq_true rfl) (Nat.le_of_ble_eq_true rfl) (fun _ _ h => h.elim) (fun E M9 he => ?_)
    exact Xt.of he (by simp)
theorem l11_common {K : Nat → Int32} (h : MR M K) {S : Nat} (hs2 : S < 16384) : ∀ i c, c + i = kn K 2 → V G Y11_common 40 1 6 (Qt 0 (some (.int (nI (cmA K S (kn K 2) ||| dif (2 ^ kn K 3 - 1) (cmS K S (kn K 2)) * 1024)))) M K) NX 57 [some (.ref 100), some (.int (nI S)), some (.int (nI (cmA K S c))), some (.int (nI (dif (2 ^ kn K 3 - 1) (cmS K S c)))), some (.int (nI c))] [] M := by
  have h0 := h
  have hs := h.sd
  obtain ⟨hS, hW, hz, hsc, p, cd, n, rd, l1, hp0, hp, hrd, hpa⟩ := h
  have h14 := hW.p.2.1.2
  have h10 := hW.p.2.2.1.2
  intro i
  induction i with
  | zero =>
    intro c hc
    obtain rfl : c = kn K 2 := by omega
    have hp3 : 2 ^ kn K 3 ≤ 1024 := Nat.pow_le_pow_right (n := 2) (by decide) h10
    have hd := dif_le (2 ^ kn K 3 - 1) (cmS K S (kn K 2)) (n := 10) (by omega)
    refine v_iload dX11_common_57 rfl ?_
    refine v_aload_n dX11_common_59 rfl ?_
    refine v_getR 11 6 _ dX11_common_60 f11_34 (by first | exact hS.1 _ _ rfl | assumption) (by decide) (by first | exact hp0 | exact hS.2 _ _ _ rfl | assumption) ?_
    refine v_getR 6 0 _ dX11_common_63 f11_130 (by first | exact hS.1 _ _ rfl | assumption) (by decide) (by first | exact hp0 | exact hS.2 _ _ _ rfl | assumption) ?_
    refine v_getI 4 2 dX11_common_66 f11_208 hp.1.1 (by decide) ?_
    rw [hp.2.1.2.2.1, hW.p.2.1.1]
    refine v_icmp_ge 120 dX11_common_69 (by decide) (fun h69 => ?_) (fun h69 => absurd (nI_le (Nat.le_refl _) (by omega)) h69)
    refine v_iload_n dX11_common_120 rfl ?_
    refine v_iload_n dX11_common_121 rfl ?_
    refine v_bipush 10 dX11_common_122 (by decide) ?_
    refine v_ishl dX11_common_124 ?_
    rw [shl10 (show _ < 2 ^ 20 by omega)]
    refine v_ior dX11_common_125 ?_
    rw [nIor]
    refine v_iret dX11_common_126 rfl ?_
    exact ⟨rfl, rfl, Kp.rf, h0⟩
  | succ i ih =>
    intro c hc
    have hn := ih (c + 1) (by omega)
    have q1 := c7_truthN G M hs hW (c := c) (by omega)
    have b1 := hasN (s := S) (k := c) (by omega) (by omega)
    by_cases hb : S.testBit c = true
    · rw [(cmA_t hb).1, (cmA_t hb).2, ← dif_dif] at hn
      refine v_iload dX11_common_57 rfl ?_
      refine v_aload_n dX11_common_59 rfl ?_
      refine v_getR 11 6 _ dX11_common_60 f11_34 (by first | exact hS.1 _ _ rfl | assumption) (by decide) (by first | exact hp0 | exact hS.2 _ _ _ rfl | assumption) ?_
      refine v_getR 6 0 _ dX11_common_63 f11_130 (by first | exact hS.1 _ _ rfl | assumption) (by decide) (by first | exact hp0 | exact hS.2 _ _ _ rfl | assumption) ?_
      refine v_getI 4 2 dX11_common_66 f11_208 hp.1.1 (by decide) ?_
      rw [hp.2.1.2.2.1, hW.p.2.1.1]
      refine v_icmp_ge 120 dX11_common_69 (by decide) (fun h69 => absurd ((nI_leI (by omega) (by omega)).mp h69) (by omega)) (fun h69 => ?_)
      refine v_iload_n dX11_common_72 rfl ?_
      refine v_iload dX11_common_73 rfl ?_
      refine v_ishr dX11_common_75 ?_
      refine v_iconst 1 dX11_common_76 (by decide) ?_
      refine v_iand dX11_common_77 ?_
      refine v_iconst 1 dX11_common_78 (by decide) ?_
      refine v_icmp_ne 114 dX11_common_79 (by decide) (fun h79 => absurd (b1.mpr hb) h79) (fun h79 => ?_)
      refine v_iload_n dX11_common_82 rfl ?_
      refine v_aload_n dX11_common_83 rfl ?_
      refine v_getR 11 6 _ dX11_common_84 f11_34 (by first | exact hS.1 _ _ rfl | assumption) (by decide) (by first | exact hp0 | exact hS.2 _ _ _ rfl | assumption) ?_
      refine v_getR 6 1 _ dX11_common_87 f11_119 (by first | exact hS.1 _ _ rfl | assumption) (by decide) (by first | exact hp0 | exact hS.2 _ _ _ rfl | assumption) ?_
      refine v_iload dX11_common_90 rfl ?_
      refine v_cV [_] (q1) k7_truth dX11_common_92 l11_145 (by first | exact hS.1 _ _ rfl | assumption) (by decide) rfl (Nat.le_of_ble_eq_true rfl) (Nat.le_of_ble_eq_true rfl) ?_
      refine v_iand dX11_common_95 ?_
      rw [nIand]
      refine v_istore_n dX11_common_96 rfl (by decide) ?_
      refine v_iload_n dX11_common_97 rfl ?_
      refine v_aload_n dX11_common_98 rfl ?_
      refine v_getR 11 6 _ dX11_common_99 f11_34 (by first | exact hS.1 _ _ rfl | assumption) (by decide) (by first | exact hp0 | exact hS.2 _ _ _ rfl | assumption) ?_
      refine v_getR 6 1 _ dX11_common_102 f11_119 (by first | exact hS.1 _ _ rfl | assumption) (by decide) (by first | exact hp0 | exact hS.2 _ _ _ rfl | assumption) ?_
      refine v_iload dX11_common_105 rfl ?_
      refine v_cV [_] (q1) k7_truth dX11_common_107 l11_145 (by first | exact hS.1 _ _ rfl | assumption) (by decide) rfl (Nat.le_of_ble_eq_true rfl) (Nat.le_of_ble_eq_true rfl) ?_
      refine v_iconst (-1) dX11_common_110 (by decide) ?_
      refine v_ixor dX11_common_111 ?_
      refine v_iand dX11_common_112 ?_
      rw [andnot]
      refine v_istore_n dX11_common_113 rfl (by decide) ?_
      refine v_iinc 1 dX11_common_114 rfl (by decide) rfl (by decide) ?_
      refine v_goto 57 dX11_common_117 (by decide) ?_
      (rw [nI_1]; exact hn)
    · rw [(cmA_f hb).1, (cmA_f hb).2] at hn
      refine v_iload dX11_common_57 rfl ?_
      refine v_aload_n dX11_common_59 rfl ?_
      refine v_getR 11 6 _ dX11_common_60 f11_34 (by first | exact hS.1 _ _ rfl | assumption) (by decide) (by first | exact hp0 | exact hS.2 _ _ _ rfl | assumption) ?_
      refine v_getR 6 0 _ dX11_common_63 f11_130 (by first | exact hS.1 _ _ rfl | assumption) (by decide) (by first | exact hp0 | exact hS.2 _ _ _ rfl | assumption) ?_
      refine v_getI 4 2 dX11_common_66 f11_208 hp.1.1 (by decide) ?_
      rw [hp.2.1.2.2.1, hW.p.2.1.1]
      refine v_icmp_ge 120 dX11_common_69 (by decide) (fun h69 => absurd ((nI_leI (by omega) (by omega)).mp h69) (by omega)) (fun h69 => ?_)
      refine v_iload_n dX11_common_72 rfl ?_
      refine v_iload dX11_common_73 rfl ?_
      refine v_ishr dX11_common_75 ?_
      refine v_iconst 1 dX11_common_76 (by decide) ?_
      refine v_iand dX11_common_77 ?_
      refine v_iconst 1 dX11_common_78 (by decide) ?_
      refine v_icmp_ne 114 dX11_common_79 (by decide) (fun h79 => ?_) (fun h79 => absurd (b1.mp (Decidable.not_not.mp h79)) hb)
      refine v_iinc 1 dX11_common_114 rfl (by decide) rfl (by decide) ?_
      refine v_goto 57 dX11_common_117 (by decide) ?_
      (rw [nI_1]; exact hn)
theorem c11_common {K : Nat → Int32} (h : MR M K) (x : Int32) : Ct G Y11_common 40 1 6 [.ref 100, .int x] M (Qt (tCm K x) (some (.int (nI (cmA K x.toNatClampNeg (kn K 2) ||| dif (2 ^ kn K 3 - 1) (cmS K x.toNatClampNeg (kn K 2)) * 1024)))) M (K)) (Xt [(1, iaE)] (tCm K x) M) := by
  have h0 := h
  have hs := h.sd
  obtain ⟨hS, hW, hz, hsc, p, cd, n, rd, l1, hp0, hp, hrd, hpa⟩ := h
  obtain ⟨ap1, ap2, ap3, ap4, ap5, ap6, ap7, ap8⟩ := hpa.ap hz
  have h14 := hW.p.2.1.2
  have h6 := hW.p.1.2.2
  have h10 := hW.p.2.2.1.2
  refine Ct.of k11_common.1 (Nat.le_of_ble_eq_true rfl) ?_
  obtain ⟨c1, c2, c3⟩ := tCm_e hW x
  by_cases hx : tCm K x = 0
  · rw [hx]
    have hp2 : 2 ^ kn K 2 ≤ 16384 := (show 2 ^ kn K 2 ≤ 2 ^ 14 from Nat.pow_le_pow_right (by decide) h14)
    obtain ⟨S, hS2, rfl⟩ := c3 hx
    have d1 := c1.mp hx
    rw [nI_clamp (by omega)]
    have hA : cmA K S 0 = 2 ^ kn K 3 - 1 := rfl
    have hB : dif (2 ^ kn K 3 - 1) (cmS K S 0) = 2 ^ kn K 3 - 1 := by
      apply Nat.eq_of_testBit_eq
      intro i
      rw [dif_bit, show cmS K S 0 = 0 from rfl, Nat.zero_testBit]
      simp
    have hn := l11_common G M h0 (S := S) (by omega) (kn K 2) 0 (by omega)
    rw [hA, hB] at hn
    refine v_iload_n dX11_common_0 rfl ?_
    refine v_if_eq 21 dX11_common_1 (by decide) (fun h1 => absurd (Or.inl h1) d1) (fun h1 => ?_)
    refine v_iload_n dX11_common_4 rfl ?_
    refine v_aload_n dX11_common_5 rfl ?_
    refine v_getR 11 6 _ dX11_common_6 f11_34 (by first | exact hS.1 _ _ rfl | assumption) (by decide) (by first | exact hp0 | exact hS.2 _ _ _ rfl | assumption) ?_
    refine v_getR 6 1 _ dX11_common_9 f11_119 (by first | exact hS.1 _ _ rfl | assumption) (by decide) (by first | exact hp0 | exact hS.2 _ _ _ rfl | assumption) ?_
    refine v_getI 7 5 dX11_common_12 f11_288 (by first | exact hS.1 _ _ rfl | assumption) (by decide) ?_
    rw [hs.2.2.2.1]
    refine v_iconst (-1) dX11_common_15 (by decide) ?_
    refine v_ixor dX11_common_16 ?_
    refine v_iand dX11_common_17 ?_
    refine v_if_eq 32 dX11_common_18 (by decide) (fun h18 => ?_) (fun h18 => absurd (Or.inr h18) d1)
    refine v_aload_n dX11_common_32 rfl ?_
    refine v_getR 11 6 _ dX11_common_33 f11_34 (by first | exact hS.1 _ _ rfl | assumption) (by decide) (by first | exact hp0 | exact hS.2 _ _ _ rfl | assumption) ?_
    refine v_getR 6 0 _ dX11_common_36 f11_130 (by first | exact hS.1 _ _ rfl | assumption) (by decide) (by first | exact hp0 | exact hS.2 _ _ _ rfl | assumption) ?_
    refine v_cV [] (c4_allWords G M hp hW.p) k4_allWords dX11_common_39 l11_362 hp.1.1 (by decide) rfl (Nat.le_of_ble_eq_true rfl) (Nat.le_of_ble_eq_true rfl) ?_
    refine v_istore_n dX11_common_42 rfl (by decide) ?_
    refine v_aload_n dX11_common_43 rfl ?_
    refine v_getR 11 6 _ dX11_common_44 f11_34 (by first | exact hS.1 _ _ rfl | assumption) (by decide) (by first | exact hp0 | exact hS.2 _ _ _ rfl | assumption) ?_
    refine v_getR 6 0 _ dX11_common_47 f11_130 (by first | exact hS.1 _ _ rfl | assumption) (by decide) (by first | exact hp0 | exact hS.2 _ _ _ rfl | assumption) ?_
    refine v_cV [] (c4_allWords G M hp hW.p) k4_allWords dX11_common_50 l11_362 hp.1.1 (by decide) rfl (Nat.le_of_ble_eq_true rfl) (Nat.le_of_ble_eq_true rfl) ?_
    refine v_istore_n dX11_common_53 rfl (by decide) ?_
    refine v_iconst 0 dX11_common_54 (by decide) ?_
    refine v_istore dX11_common_55 rfl (by decide) ?_
    exact V.post hn (fun _ _ h => h) (fun _ _ h => h.elim)
  · have ht : tCm K x = 1 := c2.resolve_left hx
    rw [ht]
    have d1 : x = 0 ∨ ¬ x &&& (K 93 ^^^ (-1)) = 0 := Decidable.not_not.mp (fun z => hx (c1.mpr z))
    refine v_iload_n dX11_common_0 rfl ?_
    refine v_if_eq 21 dX11_common_1 (by decide) (fun h1 => ?_) (fun h1 => ?_)
    · exact V.post (v_throwW (cls := iaE) (text := "no set of chests in the hall") rfl (by decide +kernel) at_iaek (by decide +kernel) at_iae dX11_common_21 dX11_common_24 dX11_common_25 dX11_common_28 dX11_common_31 (by decide) (by decide) Tg.mk : V G Y11_common 40 1 6 (fun _ _ => False) (Tg iaE M) 21 _ _ M) (fun _ _ h => h.elim) (fun E M' he => Xt.of he (by simp))
    · refine v_iload_n dX11_common_4 rfl ?_
      refine v_aload_n dX11_common_5 rfl ?_
      refine v_getR 11 6 _ dX11_common_6 f11_34 (by first | exact hS.1 _ _ rfl | assumption) (by decide) (by first | exact hp0 | exact hS.2 _ _ _ rfl | assumption) ?_
      refine v_getR 6 1 _ dX11_common_9 f11_119 (by first | exact hS.1 _ _ rfl | assumption) (by decide) (by first | exact hp0 | exact hS.2 _ _ _ rfl | assumption) ?_
      refine v_getI 7 5 dX11_common_12 f11_288 (by first | exact hS.1 _ _ rfl | assumption) (by decide) ?_
      rw [hs.2.2.2.1]
      refine v_iconst (-1) dX11_common_15 (by decide) ?_
      refine v_ixor dX11_common_16 ?_
      refine v_iand dX11_common_17 ?_
      refine v_if_eq 32 dX11_common_18 (by decide) (fun h18 => absurd h18 (d1.resolve_left h1)) (fun h18 => ?_)
      exact V.post (v_throwW (cls := iaE) (text := "no set of chests in the hall") rfl (by decide +kernel) at_iaek (by decide +kernel) at_iae dX11_common_21 dX11_common_24 dX11_common_25 dX11_common_28 dX11_common_31 (by decide) (by decide) Tg.mk : V G Y11_common 40 1 6 (fun _ _ => False) (Tg iaE M) 21 _ _ M) (fun _ _ h => h.elim) (fun E M' he => Xt.of he (by simp))
end O5
