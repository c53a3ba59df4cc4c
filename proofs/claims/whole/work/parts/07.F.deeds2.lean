/-! ===== the reference: deeds keep the state good; settles, carries ===== -/
theorem xor_bit1 {I c n : Nat} (hI : I < 2 ^ n) (hc : c < n) : I ^^^ 2 ^ c < 2 ^ n := Nat.xor_lt_two_pow hI (Nat.pow_lt_pow_right (by omega) hc)
theorem noCl_in {K : Nat → Int32} {p : Nat} (hp : p < 6) : noCl K (97 + p) = -1 := cpK_in (by omega) (by omega)
theorem noCl_o {K : Nat → Int32} {i : Nat} (h : i < 97 ∨ 103 ≤ i) : noCl K i = K i := cpK_out (by omega)
theorem cur_97 (K : Nat → Int32) (p : Nat) : cur K (88 + p) = K (97 + p) := by unfold cur; exact congrArg K (by omega)
theorem zero_of_bits {I n : Nat} (hI : I < 2 ^ n) (h : ∀ j, j < n → I.testBit j = false) : I = 0 := eq_of_bits hI (Nat.two_pow_pos n) (fun i hi => by rw [h i hi, Nat.zero_testBit])
theorem kn_n {K : Nat → Int32} {i j : Nat} (h : K i = nI j) (hj : j < 2 ^ 31) : kn K i = j := by rw [kn, h, nI_clamp hj]
theorem fst_ok {K : Nat → Int32} (h14 : kn K 2 ≤ 14) (hI : kn K 93 < 2 ^ kn K 2) : (fstI K = -1 ∧ kn K 93 = 0) ∨ ∃ c, fstI K = nI c ∧ c < kn K 2 ∧ (kn K 93).testBit c = true := by
  rcases fstF_ok (p := fun c => (kn K 93).testBit c) (kn K 2) 0 with ⟨a, b⟩ | ⟨j, a, b, c, d⟩
  · exact Or.inl ⟨a, zero_of_bits hI (fun j hj => b j (by omega) (by omega))⟩
  · exact Or.inr ⟨j, a, by omega, d⟩
theorem WK.car {K : Nat → Int32} (h : WK K) {c : Nat} (hc : c < kn K 2) : WK (carK K c) := by
  have h14 := h.p.2.1.2
  have hx := xor_bit1 h.i.2 hc
  have hx2 : kn K 93 ^^^ 2 ^ c < 2 ^ 31 := Nat.lt_of_lt_of_le hx (Nat.pow_le_pow_right (by omega) (by omega))
  obtain ⟨b1, b2, b3, b4, b5, b6⟩ := h.2.2.1
  unfold carK
  split
  · rename_i hs
    refine h.deed (fun i hi => uK_n _ _ (by omega)) ⟨fun i hi => ?_, ?_, ?_, ?_, ?_, fun p hp => ?_⟩
    · rw [nb, show cur (uK K 93 (nI (kn K 93 ^^^ 2 ^ c))) i = cur K i from uK_n _ _ (by omega)]; exact b1 i hi
    · rw [nb, show cur (uK K 93 (nI (kn K 93 ^^^ 2 ^ c))) 84 = nI (kn K 93 ^^^ 2 ^ c) from uK_s _ _ _, nI_clamp hx2]; exact ⟨rfl, hx⟩
    · exact b3
    · exact b4
    · rw [nb, show cur (uK K 93 (nI (kn K 93 ^^^ 2 ^ c))) 84 = nI (kn K 93 ^^^ 2 ^ c) from uK_s _ _ _, nI_clamp hx2]
      rcases h.s with ⟨s1, _⟩ | ⟨s, s1, s2, _⟩
      · exact absurd s1 hs.1
      · refine Or.inr ⟨s, (uK_n _ _ (by omega)).trans s1, s2, ?_⟩
        rw [kn_n s1 (by omega)] at hs
        exact hs.2
    · rw [cur_97, uK_n _ _ (by omega)]; exact (cur_97 K p) ▸ b6 p hp
  · have e2 : kn (uK K 93 (nI (kn K 93 ^^^ 2 ^ c))) 2 = kn K 2 := by unfold kn; rw [uK_n _ _ (by omega)]
    have e93 : kn (uK K 93 (nI (kn K 93 ^^^ 2 ^ c))) 93 = kn K 93 ^^^ 2 ^ c := by rw [kn, uK_s, nI_clamp hx2]
    have hf := fst_ok (K := uK K 93 (nI (kn K 93 ^^^ 2 ^ c))) (by rw [e2]; exact h14) (by rw [e93, e2]; exact hx)
    rw [e93, e2] at hf
    generalize fstI (uK K 93 (nI (kn K 93 ^^^ 2 ^ c))) = f at hf ⊢
    have o : ∀ i, i ≠ 93 → i ≠ 96 → (i < 97 ∨ 103 ≤ i) → noCl (uK (uK K 93 (nI (kn K 93 ^^^ 2 ^ c))) 96 f) i = K i := fun i h1 h2 h3 => by rw [noCl_o h3, uK_n _ _ h2, uK_n _ _ h1]
    have o93 : noCl (uK (uK K 93 (nI (kn K 93 ^^^ 2 ^ c))) 96 f) 93 = nI (kn K 93 ^^^ 2 ^ c) := by rw [noCl_o (by omega), uK_n _ _ (by omega), uK_s]
    have o96 : noCl (uK (uK K 93 (nI (kn K 93 ^^^ 2 ^ c))) 96 f) 96 = f := by rw [noCl_o (by omega), uK_s]
    refine h.deed (fun i hi => o i (by omega) (by omega) (by omega)) ⟨fun i hi => ?_, ?_, ?_, ?_, ?_, fun p hp => ?_⟩
    · rw [nb, show cur (noCl (uK (uK K 93 (nI (kn K 93 ^^^ 2 ^ c))) 96 f)) i = cur K i from o _ (by omega) (by omega) (by omega)]; exact b1 i hi
    · rw [nb, show cur (noCl (uK (uK K 93 (nI (kn K 93 ^^^ 2 ^ c))) 96 f)) 84 = nI (kn K 93 ^^^ 2 ^ c) from o93, nI_clamp hx2]; exact ⟨rfl, hx⟩
    · rw [show cur (noCl (uK (uK K 93 (nI (kn K 93 ^^^ 2 ^ c))) 96 f)) 85 = cur K 85 from o _ (by omega) (by omega) (by omega)]; exact b3
    · rw [nb, show cur (noCl (uK (uK K 93 (nI (kn K 93 ^^^ 2 ^ c))) 96 f)) 86 = cur K 86 from o _ (by omega) (by omega) (by omega)]; exact b4
    · rw [nb, show cur (noCl (uK (uK K 93 (nI (kn K 93 ^^^ 2 ^ c))) 96 f)) 84 = nI (kn K 93 ^^^ 2 ^ c) from o93, nI_clamp hx2, show cur (noCl (uK (uK K 93 (nI (kn K 93 ^^^ 2 ^ c))) 96 f)) 87 = f from o96]; exact hf
    · rw [cur_97]; exact Or.inl (noCl_in hp)
section RF
variable (G : mG) (M : mM)
theorem c12_carries (hS : Sh M) (hW : WK (gI M 231)) {c : Nat} (hc : c < kn (gI M 231) 2) : Ct G Y12_carries 3 0 0 [.ref 230, .int (nI c)] M (Rs none (fun M' => Sm W231 M M' ∧ gI M' 231 = carK (gI M 231) c)) NX := by
  have h14 := hW.p.2.1.2
  have hx := xor_bit1 hW.i.2 hc
  have hx2 : kn (gI M 231) 93 ^^^ 2 ^ c < 2 ^ 31 := Nat.lt_of_lt_of_le hx (Nat.pow_le_pow_right (by omega) (by omega))
  refine Ct.of k12_carries.1 (Nat.le_of_ble_eq_true rfl) ?_
  refine v_aload_n dX12_carries_0 rfl ?_
  refine v_getR 12 0 _ dX12_carries_1 f12_9 (by first | exact hS.1 _ _ rfl | exact hS'.1 _ _ rfl | assumption) (by decide) (by first | exact hS.2 _ _ _ rfl | exact hS'.2 _ _ _ rfl | assumption) ?_
  refine v_bipush 93 dX12_carries_4 (by decide) ?_
  refine v_dup2 dX12_carries_6 rfl rfl ?_
  -- at 7: .iaload
  refine v_ialdN 93 dX12_carries_7 (hS.1 _ _ rfl) rfl (by decide) ?_
  rw [hW.i.1]
  refine v_iconst 1 dX12_carries_8 (by decide) ?_
  refine v_iload_n dX12_carries_9 rfl ?_
  refine v_ishl dX12_carries_10 ?_
  refine v_ixor dX12_carries_11 ?_
  -- at 12: .iastore
  rw [shl1 (by omega), nIxor]
  refine v_iastN 93 dX12_carries_12 (hS.1 _ _ rfl) rfl (by decide) ?_
  have hM1 : Sm W231 M (sI M 231 93 (nI (kn (gI M 231) 93 ^^^ 2 ^ c))) := Sm.rf.st _ rfl
  have eK1 : gI (sI M 231 93 (nI (kn (gI M 231) 93 ^^^ 2 ^ c))) 231 = uK (gI M 231) 93 (nI (kn (gI M 231) 93 ^^^ 2 ^ c)) := gI_uK _ _ _ _
  have e2 : kn (uK (gI M 231) 93 (nI (kn (gI M 231) 93 ^^^ 2 ^ c))) 2 = kn (gI M 231) 2 := by unfold kn; rw [uK_n _ _ (by omega)]
  have e93 : kn (uK (gI M 231) 93 (nI (kn (gI M 231) 93 ^^^ 2 ^ c))) 93 = kn (gI M 231) 93 ^^^ 2 ^ c := by rw [kn, uK_s, nI_clamp hx2]
  have hP1 : WP (uK (gI M 231) 93 (nI (kn (gI M 231) 93 ^^^ 2 ^ c))) := hW.p.cong (fun i hi => uK_n _ _ (by unfold plI at hi; omega))
  have hI1 : inOK (uK (gI M 231) 93 (nI (kn (gI M 231) 93 ^^^ 2 ^ c))) := ⟨by rw [e93]; exact uK_s _ _ _, by rw [e93, e2]; exact hx⟩
  obtain ⟨M1, eM1⟩ : ∃ M1, M1 = sI M 231 93 (nI (kn (gI M 231) 93 ^^^ 2 ^ c)) := ⟨_, rfl⟩
  rw [← eM1] at hM1 eK1 ⊢
  have hS' := hS.sm hM1
  have s96 : gI M1 231 96 = gI M 231 96 := by rw [eK1, uK_n _ _ (by omega)]
  have again : ¬ (gI M 231 96 ≠ -1 ∧ (kn (gI M 231) 93 ^^^ 2 ^ c).testBit (kn (gI M 231) 96) = true) → V G Y12_carries 3 0 0 (Rs none (fun M' => Sm W231 M M' ∧ gI M' 231 = carK (gI M 231) c)) NX 39 [some (.ref 230), some (.int (nI c))] [] M1 := by
    intro hno
    refine v_aload_n dX12_carries_39 rfl ?_
    refine v_getR 12 0 _ dX12_carries_40 f12_9 (by first | exact hS.1 _ _ rfl | exact hS'.1 _ _ rfl | assumption) (by decide) (by first | exact hS.2 _ _ _ rfl | exact hS'.2 _ _ _ rfl | assumption) ?_
    refine v_bipush 96 dX12_carries_43 (by decide) ?_
    refine v_aload_n dX12_carries_45 rfl ?_
    -- at 46: .invokevirtual 239
    have hcon := c12_firstIn G M1 hS' (by rw [eK1]; exact hP1) (by rw [eK1]; exact hI1)
    rw [eK1] at hcon
    refine v_cV [] (hcon) k12_firstIn dX12_carries_46 l12_239 (by first | exact hS.1 _ _ rfl | exact hS'.1 _ _ rfl | assumption) (by decide) rfl (Nat.le_of_ble_eq_true rfl) (Nat.le_of_ble_eq_true rfl) ?_
    refine v_iastN 96 dX12_carries_49 (hS'.1 _ _ rfl) rfl (by decide) ?_
    refine v_aload_n dX12_carries_50 rfl ?_
    -- at 51: .invokevirtual 361
    refine v_scVv [] (c12_noClaims G (sI M1 231 96 (fstI (uK (gI M 231) 93 (nI (kn (gI M 231) 93 ^^^ 2 ^ c))))) hS') k12_noClaims dX12_carries_51 l12_361 (hS'.1 _ _ rfl) (by decide) rfl (Nat.le_of_ble_eq_true rfl) (Nat.le_of_ble_eq_true rfl) (fun M3 hM3 => ?_)
    refine v_vret dX12_carries_54 rfl ⟨rfl, (hM1.st _ rfl).tr hM3.1, by rw [hM3.2, gI_uK, eK1, carK, if_neg hno]⟩
  refine v_aload_n dX12_carries_13 rfl ?_
  refine v_getR 12 0 _ dX12_carries_14 f12_9 (by first | exact hS.1 _ _ rfl | exact hS'.1 _ _ rfl | assumption) (by decide) (by first | exact hS.2 _ _ _ rfl | exact hS'.2 _ _ _ rfl | assumption) ?_
  refine v_bipush 96 dX12_carries_17 (by decide) ?_
  refine v_ialdN 96 dX12_carries_19 (by first | exact hS.1 _ _ rfl | exact hS'.1 _ _ rfl | assumption) rfl (by decide) ?_
  refine v_iconst (-1) dX12_carries_20 (by decide) ?_
  -- at 21: .if_icmp .eq 18
  rw [s96]
  refine v_icmp_eq 39 dX12_carries_21 (by decide) (fun h21 => ?_) (fun h21 => ?_)
  · exact again (fun z => z.1 h21)
  · refine v_aload_n dX12_carries_24 rfl ?_
    refine v_aload_n dX12_carries_25 rfl ?_
    refine v_getR 12 0 _ dX12_carries_26 f12_9 (by first | exact hS.1 _ _ rfl | exact hS'.1 _ _ rfl | assumption) (by decide) (by first | exact hS.2 _ _ _ rfl | exact hS'.2 _ _ _ rfl | assumption) ?_
    refine v_bipush 96 dX12_carries_29 (by decide) ?_
    refine v_ialdN 96 dX12_carries_31 (by first | exact hS.1 _ _ rfl | exact hS'.1 _ _ rfl | assumption) rfl (by decide) ?_
    -- at 32: .invokevirtual 250
    rw [s96]
    rcases hW.s with ⟨s1, _⟩ | ⟨s, s1, s2, _⟩
    · exact absurd s1 h21
    · have hk := kn_n s1 (by omega)
      rw [s1]
      have hcon := c12_isInN G M1 hS' (by rw [eK1]; exact hP1) (by rw [eK1]; exact hI1) (c := s) (by omega)
      rw [eK1, e93] at hcon
      refine v_cV [_] (hcon) k12_isIn dX12_carries_32 l12_250 (by first | exact hS.1 _ _ rfl | exact hS'.1 _ _ rfl | assumption) (by decide) rfl (Nat.le_of_ble_eq_true rfl) (Nat.le_of_ble_eq_true rfl) ?_
      by_cases hb : (kn (gI M 231) 93 ^^^ 2 ^ c).testBit s = true
      · rw [bI_t hb]
        refine v_if_eq 39 dX12_carries_35 (by decide) (fun h35 => ?_) (fun h35 => ?_)
        · exact absurd h35 (by decide)
        · refine v_vret dX12_carries_38 rfl ⟨rfl, hM1, by rw [eK1, carK, if_pos ⟨h21, by rw [hk]; exact hb⟩]⟩
      · rw [bI_f hb]
        refine v_if_eq 39 dX12_carries_35 (by decide) (fun h35 => ?_) (fun h35 => ?_)
        · exact again (fun z => hb (by rw [← hk]; exact z.2))
        · exact absurd rfl h35
theorem set1_o {K : Nat → Int32} {i : Nat} (h : i ≠ 93 ∧ i ≠ 95 ∧ (i < 103 ∨ 109 ≤ i)) (hw : ∀ p, winO K = some p → p < 6) : set1 K i = K i := by
  unfold set1
  cases hc : winO K with
  | none => rfl
  | some p =>
    have := hw p hc
    simp only
    rw [uK_n _ _ (by omega), uK_n _ _ (by omega), uK_n _ _ (by omega)]
theorem winO_lt {K : Nat → Int32} (hP : WP K) : ∀ p, winO K = some p → p < 6 ∧ p < kn K 6 ∧ K (97 + p) ≠ -1 := by
  intro p h
  unfold winO at h
  split at h
  · cases h
  · have := winF_lt _ _ h
    have h6 := hP.2.2.2.2.2.1.2.2
    exact ⟨by omega, this.1, this.2⟩
theorem isDN_lt {nw d : Nat} (h : isDN nw d = true) : (d ||| d / 1024) % 1024 < 2 ^ nw := by
  simp only [isDN, decide_eq_true_eq] at h
  obtain ⟨h1, _, h3⟩ := h
  have e : (d ||| d / 1024) % 1024 = (d % 1024) ||| (d / 1024) := by
    rw [show 1024 = 2 ^ 10 from rfl, Nat.or_mod_two_pow]
    congr 1
    exact Nat.mod_eq_of_lt (by omega)
  rw [e]
  exact h3
theorem set1_93 {K : Nat → Int32} (hW : WK K) : set1 K 93 = nI (kn (set1 K) 93) ∧ kn (set1 K) 93 < 2 ^ kn K 2 := by
  have h14 := hW.p.2.1.2
  unfold set1
  cases hc : winO K with
  | none => exact hW.i
  | some p =>
    simp only
    have hd := dif_le (kn K 93) (2 ^ kn K 96) hW.i.2
    have e : uK (uK (uK K (103 + p) (K (103 + p) + 1)) 93 (nI (dif (kn K 93) (2 ^ kn K 96)))) 95 (nI (kn K 95 ||| (kn K (97 + p) ||| kn K (97 + p) / 1024) % 1024)) 93 = nI (dif (kn K 93) (2 ^ kn K 96)) := by rw [uK_n _ _ (by omega), uK_s]
    rw [kn_n e (Nat.lt_of_lt_of_le hd (Nat.pow_le_pow_right (by omega) (by omega)))]
    exact ⟨e, hd⟩
theorem set1_95 {K : Nat → Int32} (hW : WK K) : set1 K 95 = nI (kn (set1 K) 95) ∧ kn (set1 K) 95 < 2 ^ kn K 3 := by
  have h10 := hW.p.2.2.1.2
  unfold set1
  cases hc : winO K with
  | none => exact hW.u
  | some p =>
    obtain ⟨h1, h2, h3⟩ := winO_lt hW.p p hc
    obtain ⟨d1, d2, d3⟩ := hW.c.d h1 h3
    simp only
    have ho := Nat.or_lt_two_pow hW.u.2 (isDN_lt d3)
    rw [kn_n (uK_s _ _ _) (Nat.lt_of_lt_of_le ho (Nat.pow_le_pow_right (by omega) (by omega)))]
    exact ⟨uK_s _ _ _, ho⟩
theorem set_plan {K : Nat → Int32} (hW : WK K) {i : Nat} (h : i < 9 ∨ 109 ≤ i) : noCl (set1 K) i = K i := by
  rw [noCl_o (by omega), set1_o ⟨by omega, by omega, by omega⟩ (fun p hp => (winO_lt hW.p p hp).1)]
theorem beh_ok {K : Nat → Int32} {c : Nat} (hc : c < kn K 2) (hI : kn K 93 < 2 ^ kn K 2) : (behI K c = -1 ∧ kn K 93 = 0) ∨ ∃ j, behI K c = nI j ∧ j < kn K 2 ∧ (kn K 93).testBit j = true := by
  rcases behF_ok (p := fun c => (kn K 93).testBit c) (nc := kn K 2) (c := c) (by omega) (kn K 2) 1 with ⟨a, b⟩ | h
  · refine Or.inl ⟨a, zero_of_bits hI (fun j hj => ?_)⟩
    by_cases hjc : c < j
    · have := b (j - c) (by omega) (by omega)
      rw [show c + (j - c) = j by omega, Nat.mod_eq_of_lt hj] at this
      exact this
    · have := b (kn K 2 - c + j) (by omega) (by omega)
      rw [show c + (kn K 2 - c + j) = j + kn K 2 by omega, Nat.add_mod_right, Nat.mod_eq_of_lt hj] at this
      exact this
  · exact Or.inr h
theorem WK.set {K : Nat → Int32} (h : WK K) (hs : K 96 ≠ -1) : WK (setK K) := by
  have h14 := h.p.2.1.2
  obtain ⟨b1, b2, b3, b4, b5, b6⟩ := h.2.2.1
  have hw : ∀ p, winO K = some p → p < 6 := fun p hp => (winO_lt h.p p hp).1
  have e2 : kn (noCl (set1 K)) 2 = kn K 2 := by unfold kn; rw [set_plan h (by omega)]
  have n93 : noCl (set1 K) 93 = set1 K 93 := noCl_o (by omega)
  have e93 : kn (noCl (set1 K)) 93 = kn (set1 K) 93 := by unfold kn; rw [n93]
  obtain ⟨s, s1, s2, -⟩ : ∃ c, K 96 = nI c ∧ c < kn K 2 ∧ (kn K 93).testBit c = true := by
    rcases h.s with ⟨z, _⟩ | z
    · exact absurd z hs
    · exact z
  have hk := kn_n s1 (by omega)
  have hb := beh_ok (K := noCl (set1 K)) (c := kn K 96) (by rw [e2, hk]; exact s2) (by rw [e93, e2]; exact (set1_93 h).2)
  rw [e93, e2] at hb
  have o : ∀ i, i ≠ 96 → (i < 97 ∨ 103 ≤ i) → setK K i = set1 K i := fun i h1 h2 => by unfold setK; rw [uK_n _ _ h1, noCl_o h2]
  refine h.deed (fun i hi => by rw [setK, uK_n _ _ (by omega), set_plan h hi]) ⟨fun i hi => ?_, ?_, ?_, ?_, ?_, fun p hp => ?_⟩
  · rw [nb, show cur (setK K) i = cur K i from (o _ (by omega) (by omega)).trans (set1_o ⟨by omega, by omega, by omega⟩ hw)]; exact b1 i hi
  · rw [nb, show cur (setK K) 84 = set1 K 93 from o _ (by omega) (by omega)]; exact set1_93 h
  · rw [show cur (setK K) 85 = cur K 85 from (o _ (by omega) (by omega)).trans (set1_o ⟨by omega, by omega, by omega⟩ hw)]; exact b3
  · rw [nb, show cur (setK K) 86 = set1 K 95 from o _ (by omega) (by omega)]; exact set1_95 h
  · rw [nb, show cur (setK K) 84 = set1 K 93 from o _ (by omega) (by omega), show cur (setK K) 87 = behI (noCl (set1 K)) (kn K 96) by show setK K 96 = _; exact uK_s _ _ _]; exact hb
  · rw [cur_97]
    refine Or.inl ?_
    rw [setK, uK_n _ _ (by omega)]
    exact noCl_in hp
end RF
