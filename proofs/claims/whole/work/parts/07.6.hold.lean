/-! ===== the reference: all chests' words, what fits, what it costs ===== -/
def litB (K : Nat → Int32) : Bool := decide (K 94 = 1)
/-- the words that hold now -/
def trH (K : Nat → Int32) (c : Nat) : Nat := trN K (litB K) c
def HHn (M' : mM) (K : Nat → Int32) (n : Nat) : Prop := ∀ c, c < n → gI M' 239 c = nI (trN K false c) ∧ gI M' 240 c = nI (trN K true c) ∧ gI M' 238 c = nI (trH K c)
def HH (M' : mM) (K : Nat → Int32) : Prop := HHn M' K (kn K 2)
/-- of chests below n those IN that a description d fits by words h -/
def fitN (nc I : Nat) (h : Nat → Nat) (d : Nat) : Nat := bset nc (fun c => I.testBit c && decide (dif (d % 1024) (h c) = 0 ∧ (d / 1024) &&& h c = 0))
def costW (K : Nat → Int32) (d w : Nat) : Nat := if d.testBit w = true ∨ d.testBit (w + 10) = true then kn K (109 + w) + (if d.testBit w = true then 0 else 1) + (if (kn K 95).testBit w = true then kn K 5 else 0) else 0
def costF (K : Nat → Int32) (d : Nat) : Nat → Nat
  | 0 => 0
  | w + 1 => costF K d w + costW K d w
/-- what a description costs -/
def costN (K : Nat → Int32) (d : Nat) : Nat := costF K d (kn K 3)
theorem costF_le {K : Nat → Int32} (hP : WP K) (d : Nat) : ∀ w, w ≤ 10 → costF K d w ≤ 19 * w := by
  intro w
  induction w with
  | zero => intro _; simp [costF]
  | succ w ih =>
    intro hw
    have h1 := ih (by omega)
    have h2 := (hP.2.2.2.2.2.2.2.2.1 w (by omega)).2
    have h5 := hP.2.2.2.2.1.2
    simp only [costF, costW]
    split
    · split <;> split <;> omega
    · omega
theorem costN_le {K : Nat → Int32} (hP : WP K) (d : Nat) : costN K d ≤ 190 := by
  have := costF_le hP d (kn K 3) hP.2.2.1.2
  have := hP.2.2.1.2
  unfold costN
  omega
section R6
variable (G : mG) (M : mM)
theorem l12_laysHold (hS : Sh M) (hP : WP (gI M 231)) : ∀ i c M', c + i = kn (gI M 231) 2 → Sm Wlh M M' → HHn M' (gI M 231) c → V G Y12_laysHold 6 0 0 (Rs none (fun M' => Sm Wlh M M' ∧ HH M' (gI M 231))) NX 2 [some (.ref 230), some (.int (nI c))] [] M' := by
  have h14 := hP.2.1.2
  intro i
  induction i with
  | zero =>
    intro c M' hc hM hH
    have hS' := hS.sm hM
    have eK : gI M' 231 = gI M 231 := hM.K (fun _ => rfl)
    obtain rfl : c = kn (gI M 231) 2 := by omega
    refine v_iload_n dX12_laysHold_2 rfl ?_
    refine v_aload_n dX12_laysHold_3 rfl ?_
    -- at 4: .invokevirtual 245
    refine v_cV [] (c12_chests G M' hS') k12_chests dX12_laysHold_4 l12_245 (by first | exact hS.1 _ _ rfl | exact hS'.1 _ _ rfl | assumption) (by decide) rfl (Nat.le_of_ble_eq_true rfl) (Nat.le_of_ble_eq_true rfl) ?_
    rw [eK, hP.2.1.1]
    refine v_icmp_ge 72 dX12_laysHold_7 (by decide) (fun hc2 => ?_) (fun hc2 => ?_)
    · refine v_vret dX12_laysHold_72 rfl ⟨rfl, hM, hH⟩
    · exact absurd (nI_le (Nat.le_refl _) (by omega)) hc2
  | succ i ih =>
    intro c M' hc hM hH
    have hS' := hS.sm hM
    have eK : gI M' 231 = gI M 231 := hM.K (fun _ => rfl)
    refine v_iload_n dX12_laysHold_2 rfl ?_
    refine v_aload_n dX12_laysHold_3 rfl ?_
    -- at 4: .invokevirtual 245
    refine v_cV [] (c12_chests G M' hS') k12_chests dX12_laysHold_4 l12_245 (by first | exact hS.1 _ _ rfl | exact hS'.1 _ _ rfl | assumption) (by decide) rfl (Nat.le_of_ble_eq_true rfl) (Nat.le_of_ble_eq_true rfl) ?_
    rw [eK, hP.2.1.1]
    refine v_icmp_ge 72 dX12_laysHold_7 (by decide) (fun hc2 => ?_) (fun hc2 => ?_)
    · exact absurd ((nI_leI (by omega) (by omega)).mp hc2) (by omega)
    refine v_aload_n dX12_laysHold_10 rfl ?_
    refine v_getR 12 21 _ dX12_laysHold_11 f12_39 (by first | exact hS.1 _ _ rfl | exact hS'.1 _ _ rfl | assumption) (by decide) (by first | exact hS.2 _ _ _ rfl | exact hS'.2 _ _ _ rfl | assumption) ?_
    refine v_iload_n dX12_laysHold_14 rfl ?_
    refine v_aload_n dX12_laysHold_15 rfl ?_
    refine v_iload_n dX12_laysHold_16 rfl ?_
    refine v_iconst 0 dX12_laysHold_17 (by decide) ?_
    -- at 18: .invokevirtual 293
    have hcon := c12_wordsOf G M' hS' (by rw [eK]; exact hP) (c := c) (by omega) false
    rw [eK] at hcon
    refine v_scV [_, _] hcon k12_wordsOf dX12_laysHold_18 l12_293 (hS'.1 _ _ rfl) (by decide) rfl (Nat.le_of_ble_eq_true rfl) (Nat.le_of_ble_eq_true rfl) (fun M2 hM2 => ?_)
    have hM2' : Sm Wlh M M2 := hM.tr (hM2.wk (fun q k z => by simp only [Wlh, Wev, Bool.or_eq_false_iff] at z ⊢; exact ⟨⟨z.1.1.1.1.1, z.1.1.1.1.2⟩, z.2⟩))
    have hS2 := hS.sm hM2'
    have eK2 : gI M2 231 = gI M 231 := hM2'.K (fun _ => rfl)
    refine v_iastN c dX12_laysHold_21 (hS2.1 _ _ rfl) rfl ⟨by omega, by omega⟩ ?_
    have hM3' : Sm Wlh M (sI M2 239 c (nI (trN (gI M 231) false c))) := hM2'.st _ rfl
    have hS3 := hS.sm hM3'
    have eK3 := hM3'.K (fun _ => rfl)
    obtain ⟨M3, e3⟩ : ∃ M3, M3 = sI M2 239 c (nI (trN (gI M 231) false c)) := ⟨_, rfl⟩
    rw [← e3] at hM3' hS3 eK3 ⊢
    refine v_aload_n dX12_laysHold_22 rfl ?_
    refine v_getR 12 22 _ dX12_laysHold_23 f12_42 (hS3.1 _ _ rfl) (by decide) (hS3.2 _ _ _ rfl) ?_
    refine v_iload_n dX12_laysHold_26 rfl ?_
    refine v_aload_n dX12_laysHold_27 rfl ?_
    refine v_iload_n dX12_laysHold_28 rfl ?_
    refine v_iconst 1 dX12_laysHold_29 (by decide) ?_
    -- at 30: .invokevirtual 293
    have hcon := c12_wordsOf G M3 hS3 (by rw [eK3]; exact hP) (c := c) (by omega) true
    rw [eK3] at hcon
    refine v_scV [_, _] hcon k12_wordsOf dX12_laysHold_30 l12_293 (hS3.1 _ _ rfl) (by decide) rfl (Nat.le_of_ble_eq_true rfl) (Nat.le_of_ble_eq_true rfl) (fun M4 hM4 => ?_)
    have hM4' : Sm Wlh M M4 := hM3'.tr (hM4.wk (fun q k z => by simp only [Wlh, Wev, Bool.or_eq_false_iff] at z ⊢; exact ⟨⟨z.1.1.1.1.1, z.1.1.1.1.2⟩, z.2⟩))
    have hS4 := hS.sm hM4'
    refine v_iastN c dX12_laysHold_33 (hS4.1 _ _ rfl) rfl ⟨by omega, by omega⟩ ?_
    have hM5' : Sm Wlh M (sI M4 240 c (nI (trN (gI M 231) true c))) := hM4'.st _ rfl
    have hS5 := hS.sm hM5'
    have eK5 := hM5'.K (fun _ => rfl)
    have d5 : ∀ j, j < c + 1 → gI (sI M4 240 c (nI (trN (gI M 231) true c))) 239 j = nI (trN (gI M 231) false j) ∧ gI (sI M4 240 c (nI (trN (gI M 231) true c))) 240 j = nI (trN (gI M 231) true j) ∧ (j < c → gI (sI M4 240 c (nI (trN (gI M 231) true c))) 238 j = nI (trH (gI M 231) j)) := by
      intro j hj
      rw [gI_sr _ (a := 239) _ (by decide), gI_sr _ (a := 238) _ (by decide), hM4.2.2.2.2 239 j rfl, hM4.2.2.2.2 238 j rfl, e3, gI_sr _ (a := 238) _ (by decide), hM2.2.2.2.2 238 j rfl]
      by_cases e : j = c
      · subst e
        exact ⟨gI_ss _ _ _ _, gI_ss _ _ _ _, fun z => absurd z (by omega)⟩
      · rw [gI_sk _ _ e, gI_sk _ _ e, hM4.2.2.2.2 240 j rfl, e3, gI_sr _ (a := 240) _ (by decide), hM2.2.2.2.2 239 j rfl, hM2.2.2.2.2 240 j rfl]
        have := hH j (by omega)
        exact ⟨this.1, this.2.1, fun _ => this.2.2⟩
    obtain ⟨M5, e5⟩ : ∃ M5, M5 = sI M4 240 c (nI (trN (gI M 231) true c)) := ⟨_, rfl⟩
    rw [← e5] at hM5' hS5 eK5 d5 ⊢
    have fin : ∀ v, v = nI (trH (gI M 231) c) → V G Y12_laysHold 6 0 0 (Rs none (fun M' => Sm Wlh M M' ∧ HH M' (gI M 231))) NX 65 [some (.ref 230), some (.int (nI c))] [.int v, .int (nI c), .ref 238] M5 := by
      intro v hv
      subst hv
      refine v_iastN c dX12_laysHold_65 (hS5.1 _ _ rfl) rfl ⟨by omega, by omega⟩ ?_
      refine v_iinc 1 dX12_laysHold_66 rfl (by decide) rfl (by decide) ?_
      refine v_goto 2 dX12_laysHold_69 (by decide) ?_
      -- at 2: .iload_n 1
      rw [nI_1]
      refine ih (c + 1) _ (by omega) (hM5'.st _ rfl) (fun j hj => ?_)
      rw [gI_sr _ (a := 239) _ (by decide), gI_sr _ (a := 240) _ (by decide)]
      refine ⟨(d5 j hj).1, (d5 j hj).2.1, ?_⟩
      by_cases e : j = c
      · subst e; exact gI_ss _ _ _ _
      · rw [gI_sk _ _ e]; exact (d5 j hj).2.2 (by omega)
    refine v_aload_n dX12_laysHold_34 rfl ?_
    refine v_getR 12 20 _ dX12_laysHold_35 f12_36 (hS5.1 _ _ rfl) (by decide) (hS5.2 _ _ _ rfl) ?_
    refine v_iload_n dX12_laysHold_38 rfl ?_
    refine v_aload_n dX12_laysHold_39 rfl ?_
    refine v_getR 12 0 _ dX12_laysHold_40 f12_9 (hS5.1 _ _ rfl) (by decide) (hS5.2 _ _ _ rfl) ?_
    refine v_bipush 94 dX12_laysHold_43 (by decide) ?_
    refine v_ialdN 94 dX12_laysHold_45 (hS5.1 _ _ rfl) rfl (by decide) ?_
    refine v_iconst 1 dX12_laysHold_46 (by decide) ?_
    -- at 47: .if_icmp .ne 12
    rw [eK5]
    refine v_icmp_ne 59 dX12_laysHold_47 (by decide) (fun h47 => ?_) (fun h47 => ?_)
    · refine v_aload_n dX12_laysHold_59 rfl ?_
      refine v_getR 12 21 _ dX12_laysHold_60 f12_39 (hS5.1 _ _ rfl) (by decide) (hS5.2 _ _ _ rfl) ?_
      refine v_iload_n dX12_laysHold_63 rfl ?_
      refine v_ialdN (c) dX12_laysHold_64 (hS5.1 _ _ rfl) (by simp only [n_lit, pk_mul, nI_add]) ⟨by omega, by omega⟩ ?_
      -- at 65: .iastore
      exact fin _ (by rw [(d5 c (by omega)).1, trH, litB, decide_eq_false h47])
    · refine v_aload_n dX12_laysHold_50 rfl ?_
      refine v_getR 12 22 _ dX12_laysHold_51 f12_42 (hS5.1 _ _ rfl) (by decide) (hS5.2 _ _ _ rfl) ?_
      refine v_iload_n dX12_laysHold_54 rfl ?_
      refine v_ialdN (c) dX12_laysHold_55 (hS5.1 _ _ rfl) (by simp only [n_lit, pk_mul, nI_add]) ⟨by omega, by omega⟩ ?_
      refine v_goto 65 dX12_laysHold_56 (by decide) ?_
      -- at 65: .iastore
      exact fin _ (by rw [(d5 c (by omega)).2.1, trH, litB, decide_eq_true (Decidable.not_not.mp h47)])
theorem c12_laysHold (hS : Sh M) (hP : WP (gI M 231)) : Ct G Y12_laysHold 6 0 0 [.ref 230] M (Rs none (fun M' => Sm Wlh M M' ∧ HH M' (gI M 231))) NX := by
  refine Ct.of k12_laysHold.1 (Nat.le_of_ble_eq_true rfl) ?_
  refine v_iconst 0 dX12_laysHold_0 (by decide) ?_
  refine v_istore_n dX12_laysHold_1 rfl (by decide) ?_
  -- at 2: .iload_n 1
  exact l12_laysHold G M hS hP (kn (gI M 231) 2) 0 M (by omega) Sm.rf (fun j hj => absurd hj (by omega))
/-- IN, as a set of chests -/
def inOK (K : Nat → Int32) : Prop := K 93 = nI (kn K 93) ∧ kn K 93 < 2 ^ kn K 2
theorem in_lt {K : Nat → Int32} (hP : WP K) (h : inOK K) : kn K 93 < 16384 := Nat.lt_of_lt_of_le h.2 (show 2 ^ kn K 2 ≤ 2 ^ 14 from Nat.pow_le_pow_right (by omega) hP.2.1.2)
theorem bI_has {s k : Nat} (hs : s < 2 ^ 31) (hk : k < 32) : bI ((nI s >>> (nI k &&& 31)) &&& 1 = 1) = bI (s.testBit k = true) := by
  by_cases h : s.testBit k = true
  · rw [bI_t h, bI_t ((hasN hs hk).mpr h)]
  · rw [bI_f h, bI_f (fun z => h ((hasN hs hk).mp z))]
theorem c12_isInN (hS : Sh M) (hP : WP (gI M 231)) (hI : inOK (gI M 231)) {c : Nat} (hc : c < 32) : Ct G Y12_isIn 1 0 0 [.ref 230, .int (nI c)] M (Rv (some (.int (bI ((kn (gI M 231) 93).testBit c = true)))) M) NX := by
  have h := c12_isIn G M hS (nI c)
  rw [hI.1, bI_has (by have := in_lt hP hI; omega) hc] at h
  exact h
theorem c12_hasN {s k : Nat} (hs : s < 2 ^ 31) (hk : k < 32) : Ct G Y12_has 0 0 0 [.int (nI s), .int (nI k)] M (Rv (some (.int (bI (s.testBit k = true)))) M) NX := by
  have h := c12_has G M (nI s) (nI k)
  rw [bI_has hs hk] at h
  exact h
end R6
