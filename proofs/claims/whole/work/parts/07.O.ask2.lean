/-! ===== the reference: questions of a chest, of a word ===== -/
section RO
variable (G : mG) (M : mM)
def likP (K : Nat → Int32) (c k : Nat) : Bool := decide (k ≠ c) && (kn K 93).testBit k && decide (trH K k = trH K c)
def likN (K : Nat → Int32) (c : Nat) : Nat := cnt (kn K 2) (likP K c)
theorem l12_likeIt (hS : Sh M) (hP : WP (gI M 231)) (hI : inOK (gI M 231)) (hH : HH M (gI M 231)) {c : Nat} (hc : c < kn (gI M 231) 2) :
    ∀ i k, k + i = kn (gI M 231) 2 → V G Y12_likeIt 2 0 0 (Rv (some (.int (nI (likN (gI M 231) c)))) M) NX 4 [some (.ref 230), some (.int (nI c)), some (.int (nI (cnt k (likP (gI M 231) c)))), some (.int (nI k))] [] M := by
  have h14 := hP.2.1.2
  intro i
  induction i with
  | zero =>
    intro k hk
    obtain rfl : k = kn (gI M 231) 2 := by omega
    refine v_iload_n dX12_likeIt_4 rfl ?_
    refine v_aload_n dX12_likeIt_5 rfl ?_
    -- at 6: .invokevirtual 245
    refine v_cV [] (c12_chests G M hS) k12_chests dX12_likeIt_6 l12_245 (by first | exact hS.1 _ _ rfl | exact hS'.1 _ _ rfl | assumption) (by decide) rfl (Nat.le_of_ble_eq_true rfl) (Nat.le_of_ble_eq_true rfl) ?_
    rw [hP.2.1.1]
    refine v_icmp_ge 54 dX12_likeIt_9 (by decide) (fun h9 => ?_) (fun h9 => ?_)
    · refine v_iload_n dX12_likeIt_54 rfl ?_
      -- at 55: .ireturn
      refine v_iret dX12_likeIt_55 rfl ⟨rfl, rfl⟩
    · exact absurd (nI_le (Nat.le_refl _) (by omega)) h9
  | succ i ih =>
    intro k hk
    have hn := ih (k + 1) (by omega)
    simp only [cnt] at hn
    have no : ¬ likP (gI M 231) c k = true → V G Y12_likeIt 2 0 0 (Rv (some (.int (nI (likN (gI M 231) c)))) M) NX 45 [some (.ref 230), some (.int (nI c)), some (.int (nI (cnt k (likP (gI M 231) c)))), some (.int (nI k))] [.int (nI (cnt k (likP (gI M 231) c)))] M := by
      intro hno
      rw [if_neg hno, Nat.add_zero] at hn
      refine v_iconst 0 dX12_likeIt_45 (by decide) ?_
      refine v_iadd dX12_likeIt_46 ?_
      refine v_istore_n dX12_likeIt_47 rfl (by decide) ?_
      refine v_iinc 1 dX12_likeIt_48 rfl (by decide) rfl (by decide) ?_
      refine v_goto 4 dX12_likeIt_51 (by decide) ?_
      -- at 4: .iload_n 3
      rw [nI_1, Int32.add_zero]
      exact hn
    refine v_iload_n dX12_likeIt_4 rfl ?_
    refine v_aload_n dX12_likeIt_5 rfl ?_
    -- at 6: .invokevirtual 245
    refine v_cV [] (c12_chests G M hS) k12_chests dX12_likeIt_6 l12_245 (by first | exact hS.1 _ _ rfl | exact hS'.1 _ _ rfl | assumption) (by decide) rfl (Nat.le_of_ble_eq_true rfl) (Nat.le_of_ble_eq_true rfl) ?_
    rw [hP.2.1.1]
    refine v_icmp_ge 54 dX12_likeIt_9 (by decide) (fun h9 => ?_) (fun h9 => ?_)
    · exact absurd ((nI_leI (by omega) (by omega)).mp h9) (by omega)
    refine v_iload_n dX12_likeIt_12 rfl ?_
    refine v_iload_n dX12_likeIt_13 rfl ?_
    refine v_iload_n dX12_likeIt_14 rfl ?_
    -- at 15: .if_icmp .eq 30
    refine v_icmp_eq 45 dX12_likeIt_15 (by decide) (fun h15 => ?_) (fun h15 => ?_)
    · have h15' := (nI_eq (by omega) (by omega)).mp h15
      exact no (by rw [likP, decide_eq_false (not_not_intro h15')]; simp)
    have h15' : k ≠ c := fun z => h15 (by rw [z])
    refine v_aload_n dX12_likeIt_18 rfl ?_
    refine v_iload_n dX12_likeIt_19 rfl ?_
    -- at 20: .invokevirtual 250
    refine v_cV [_] (c12_isInN G M hS hP hI (c := k) (by omega)) k12_isIn dX12_likeIt_20 l12_250 (by first | exact hS.1 _ _ rfl | exact hS'.1 _ _ rfl | assumption) (by decide) rfl (Nat.le_of_ble_eq_true rfl) (Nat.le_of_ble_eq_true rfl) ?_
    by_cases hin : (kn (gI M 231) 93).testBit k = true
    · rw [bI_t hin]
      refine v_if_eq 45 dX12_likeIt_23 (by decide) (fun h23 => ?_) (fun h23 => ?_)
      · exact absurd h23 (by decide)
      have hk1 := hH.hold hP k (by omega)
      have hc1 := hH.hold hP c (by omega)
      refine v_aload_n dX12_likeIt_26 rfl ?_
      refine v_getR 12 20 _ dX12_likeIt_27 f12_36 (by first | exact hS.1 _ _ rfl | exact hS'.1 _ _ rfl | assumption) (by decide) (by first | exact hS.2 _ _ _ rfl | exact hS'.2 _ _ _ rfl | assumption) ?_
      refine v_iload_n dX12_likeIt_30 rfl ?_
      refine v_ialdN (k) dX12_likeIt_31 (by first | exact hS.1 _ _ rfl | exact hS'.1 _ _ rfl | assumption) (by simp only [n_lit, pk_mul, nI_add]) ⟨by omega, by omega⟩ ?_
      refine v_aload_n dX12_likeIt_32 rfl ?_
      refine v_getR 12 20 _ dX12_likeIt_33 f12_36 (by first | exact hS.1 _ _ rfl | exact hS'.1 _ _ rfl | assumption) (by decide) (by first | exact hS.2 _ _ _ rfl | exact hS'.2 _ _ _ rfl | assumption) ?_
      refine v_iload_n dX12_likeIt_36 rfl ?_
      refine v_ialdN (c) dX12_likeIt_37 (by first | exact hS.1 _ _ rfl | exact hS'.1 _ _ rfl | assumption) (by simp only [n_lit, pk_mul, nI_add]) ⟨by omega, by omega⟩ ?_
      -- at 38: .if_icmp .ne 7
      rw [hk1.1, hc1.1]
      refine v_icmp_ne 45 dX12_likeIt_38 (by decide) (fun h38 => ?_) (fun h38 => ?_)
      · exact no (by
          simp only [likP, Bool.and_eq_true, decide_eq_true_eq]
          exact fun z => h38 (by rw [z.2]))
      · have h38' := (nI_eq (by omega) (by omega)).mp (Decidable.not_not.mp h38)
        rw [if_pos (by simp only [likP, Bool.and_eq_true, decide_eq_true_eq]; exact ⟨⟨h15', hin⟩, h38'⟩)] at hn
        refine v_iconst 1 dX12_likeIt_41 (by decide) ?_
        refine v_goto 46 dX12_likeIt_42 (by decide) ?_
        refine v_iadd dX12_likeIt_46 ?_
        refine v_istore_n dX12_likeIt_47 rfl (by decide) ?_
        refine v_iinc 1 dX12_likeIt_48 rfl (by decide) rfl (by decide) ?_
        refine v_goto 4 dX12_likeIt_51 (by decide) ?_
        -- at 4: .iload_n 3
        rw [nI_1, nI_1]
        exact hn
    · rw [bI_f hin]
      refine v_if_eq 45 dX12_likeIt_23 (by decide) (fun h23 => ?_) (fun h23 => ?_)
      · exact no (by simp [likP, hin])
      · exact absurd rfl h23
theorem c12_likeIt (hS : Sh M) (hP : WP (gI M 231)) (hI : inOK (gI M 231)) (hH : HH M (gI M 231)) {c : Nat} (hc : c < kn (gI M 231) 2) : Ct G Y12_likeIt 2 0 0 [.ref 230, .int (nI c)] M (Rv (some (.int (nI (likN (gI M 231) c)))) M) NX := by
  refine Ct.of k12_likeIt.1 (Nat.le_of_ble_eq_true rfl) ?_
  refine v_iconst 0 dX12_likeIt_0 (by decide) ?_
  refine v_istore_n dX12_likeIt_1 rfl (by decide) ?_
  refine v_iconst 0 dX12_likeIt_2 (by decide) ?_
  refine v_istore_n dX12_likeIt_3 rfl (by decide) ?_
  -- at 4: .iload_n 3
  exact l12_likeIt G M hS hP hI hH hc (kn (gI M 231) 2) 0 (by omega)
def inbP (K : Nat → Int32) (w k : Nat) : Bool := (kn K 93).testBit k && (trH K k).testBit w
theorem l12_inBy (hS : Sh M) (hP : WP (gI M 231)) (hI : inOK (gI M 231)) (hH : HH M (gI M 231)) {w : Nat} (hw : w < 10) :
    ∀ i k, k + i = kn (gI M 231) 2 → V G Y12_inBy 2 0 0 (Rv (some (.int (nI (bset (kn (gI M 231) 2) (inbP (gI M 231) w))))) M) NX 4 [some (.ref 230), some (.int (nI w)), some (.int (nI (bset k (inbP (gI M 231) w)))), some (.int (nI k))] [] M := by
  have h14 := hP.2.1.2
  intro i
  induction i with
  | zero =>
    intro k hk
    obtain rfl : k = kn (gI M 231) 2 := by omega
    refine v_iload_n dX12_inBy_4 rfl ?_
    refine v_aload_n dX12_inBy_5 rfl ?_
    -- at 6: .invokevirtual 245
    refine v_cV [] (c12_chests G M hS) k12_chests dX12_inBy_6 l12_245 (by first | exact hS.1 _ _ rfl | exact hS'.1 _ _ rfl | assumption) (by decide) rfl (Nat.le_of_ble_eq_true rfl) (Nat.le_of_ble_eq_true rfl) ?_
    rw [hP.2.1.1]
    refine v_icmp_ge 49 dX12_inBy_9 (by decide) (fun h9 => ?_) (fun h9 => ?_)
    · refine v_iload_n dX12_inBy_49 rfl ?_
      -- at 50: .ireturn
      refine v_iret dX12_inBy_50 rfl ⟨rfl, rfl⟩
    · exact absurd (nI_le (Nat.le_refl _) (by omega)) h9
  | succ i ih =>
    intro k hk
    have hn := ih (k + 1) (by omega)
    rw [← bset_step _ (by omega), ← nI_1] at hn
    have no : ¬ inbP (gI M 231) w k = true → V G Y12_inBy 2 0 0 (Rv (some (.int (nI (bset (kn (gI M 231) 2) (inbP (gI M 231) w))))) M) NX 40 [some (.ref 230), some (.int (nI w)), some (.int (nI (bset k (inbP (gI M 231) w)))), some (.int (nI k))] [.int (nI (bset k (inbP (gI M 231) w)))] M := by
      intro hno
      rw [if_neg hno] at hn
      refine v_iconst 0 dX12_inBy_40 (by decide) ?_
      refine v_ior dX12_inBy_41 ?_
      refine v_istore_n dX12_inBy_42 rfl (by decide) ?_
      refine v_iinc 1 dX12_inBy_43 rfl (by decide) rfl (by decide) ?_
      refine v_goto 4 dX12_inBy_46 (by decide) ?_
      -- at 4: .iload_n 3
      exact hn
    refine v_iload_n dX12_inBy_4 rfl ?_
    refine v_aload_n dX12_inBy_5 rfl ?_
    -- at 6: .invokevirtual 245
    refine v_cV [] (c12_chests G M hS) k12_chests dX12_inBy_6 l12_245 (by first | exact hS.1 _ _ rfl | exact hS'.1 _ _ rfl | assumption) (by decide) rfl (Nat.le_of_ble_eq_true rfl) (Nat.le_of_ble_eq_true rfl) ?_
    rw [hP.2.1.1]
    refine v_icmp_ge 49 dX12_inBy_9 (by decide) (fun h9 => ?_) (fun h9 => ?_)
    · exact absurd ((nI_leI (by omega) (by omega)).mp h9) (by omega)
    refine v_iload_n dX12_inBy_12 rfl ?_
    refine v_aload_n dX12_inBy_13 rfl ?_
    refine v_iload_n dX12_inBy_14 rfl ?_
    -- at 15: .invokevirtual 250
    refine v_cV [_] (c12_isInN G M hS hP hI (c := k) (by omega)) k12_isIn dX12_inBy_15 l12_250 (by first | exact hS.1 _ _ rfl | exact hS'.1 _ _ rfl | assumption) (by decide) rfl (Nat.le_of_ble_eq_true rfl) (Nat.le_of_ble_eq_true rfl) ?_
    by_cases hin : (kn (gI M 231) 93).testBit k = true
    · rw [bI_t hin]
      refine v_if_eq 40 dX12_inBy_18 (by decide) (fun h18 => ?_) (fun h18 => ?_)
      · exact absurd h18 (by decide)
      have hk1 := hH.hold hP k (by omega)
      refine v_aload_n dX12_inBy_21 rfl ?_
      refine v_getR 12 20 _ dX12_inBy_22 f12_36 (by first | exact hS.1 _ _ rfl | exact hS'.1 _ _ rfl | assumption) (by decide) (by first | exact hS.2 _ _ _ rfl | exact hS'.2 _ _ _ rfl | assumption) ?_
      refine v_iload_n dX12_inBy_25 rfl ?_
      refine v_ialdN (k) dX12_inBy_26 (by first | exact hS.1 _ _ rfl | exact hS'.1 _ _ rfl | assumption) (by simp only [n_lit, pk_mul, nI_add]) ⟨by omega, by omega⟩ ?_
      refine v_iload_n dX12_inBy_27 rfl ?_
      -- at 28: .invokestatic 248
      rw [hk1.1]
      refine v_cS [_, _] (c12_hasN G M (s := trH (gI M 231) k) (k := w) (by omega) (by omega)) k12_has dX12_inBy_28 l12_248 rfl (Nat.le_of_ble_eq_true rfl) (Nat.le_of_ble_eq_true rfl) ?_
      by_cases hb : (trH (gI M 231) k).testBit w = true
      · rw [bI_t hb]
        rw [if_pos (by simp [inbP, hin, hb]), ← shl1 (by omega)] at hn
        refine v_if_eq 40 dX12_inBy_31 (by decide) (fun h31 => ?_) (fun h31 => ?_)
        · exact absurd h31 (by decide)
        · refine v_iconst 1 dX12_inBy_34 (by decide) ?_
          refine v_iload_n dX12_inBy_35 rfl ?_
          refine v_ishl dX12_inBy_36 ?_
          refine v_goto 41 dX12_inBy_37 (by decide) ?_
          refine v_ior dX12_inBy_41 ?_
          refine v_istore_n dX12_inBy_42 rfl (by decide) ?_
          refine v_iinc 1 dX12_inBy_43 rfl (by decide) rfl (by decide) ?_
          refine v_goto 4 dX12_inBy_46 (by decide) ?_
          -- at 4: .iload_n 3
          exact hn
      · rw [bI_f hb]
        refine v_if_eq 40 dX12_inBy_31 (by decide) (fun h31 => ?_) (fun h31 => ?_)
        · exact no (by simp [inbP, hb])
        · exact absurd rfl h31
    · rw [bI_f hin]
      refine v_if_eq 40 dX12_inBy_18 (by decide) (fun h18 => ?_) (fun h18 => ?_)
      · exact no (by simp [inbP, hin])
      · exact absurd rfl h18
theorem c12_inBy (hS : Sh M) (hP : WP (gI M 231)) (hI : inOK (gI M 231)) (hH : HH M (gI M 231)) {w : Nat} (hw : w < 10) : Ct G Y12_inBy 2 0 0 [.ref 230, .int (nI w)] M (Rv (some (.int (nI (bset (kn (gI M 231) 2) (inbP (gI M 231) w))))) M) NX := by
  refine Ct.of k12_inBy.1 (Nat.le_of_ble_eq_true rfl) ?_
  refine v_iconst 0 dX12_inBy_0 (by decide) ?_
  refine v_istore_n dX12_inBy_1 rfl (by decide) ?_
  refine v_iconst 0 dX12_inBy_2 (by decide) ?_
  refine v_istore_n dX12_inBy_3 rfl (by decide) ?_
  -- at 4: .iload_n 3
  exact l12_inBy G M hS hP hI hH hw (kn (gI M 231) 2) 0 (by omega)
def tCh (K : Nat → Int32) (c w : Int32) : Int32 := if inR (kn K 2) c = true then (if inR 3 w = true then 0 else 2) else 1
def rCh (K : Nat → Int32) (c : Nat) (w : Int32) : Int32 := if w = 0 then bI ((kn K 93).testBit c = true) else if w = 1 then nI (trH K c) else nI (likN K c)
theorem c12_chest (hS : Sh M) (hQ : WQ (gI M 231)) (c w : Int32) : Ct G Y12_chest 7 0 0 [.ref 230, .int c, .int w] M (Rs (some (.int (if tCh (gI M 231) c w = 0 then rCh (gI M 231) c.toNatClampNeg w else 0))) (Pq M (tCh (gI M 231) c w))) NX := by
  obtain ⟨hP, hI, hU⟩ := hQ
  have h14 := hP.2.1.2
  have e1 : ∀ t, gI (sI M 230 4 t) 231 = gI M 231 := fun t => gI_sr _ _ (by decide)
  have fin : ∀ t, t = 1 ∨ t = 2 → tCh (gI M 231) c w = t → V G Y12_chest 7 0 0 (Rs (some (.int (if tCh (gI M 231) c w = 0 then rCh (gI M 231) c.toNatClampNeg w else 0))) (Pq M (tCh (gI M 231) c w))) NX 31 [some (.ref 230), some (.int c), some (.int w)] [.int t, .ref 230] M := by
    intro t ht e
    rw [e, if_neg (by rcases ht with rfl | rfl <;> decide)]
    refine v_putI 12 4 dX12_chest_31 f12_68 (by first | exact hS.1 _ _ rfl | exact hS'.1 _ _ rfl | assumption) (by decide) ?_
    refine v_aload_n dX12_chest_34 rfl ?_
    refine v_getI 12 4 dX12_chest_35 f12_68 (by first | exact hS.1 _ _ rfl | exact hS'.1 _ _ rfl | assumption) (by decide) ?_
    -- at 38: .ifCond .le 5
    rw [gI_ss]
    refine v_if_le 43 dX12_chest_38 (by decide) (fun h38 => ?_) (fun h38 => ?_)
    · exact absurd h38 (by rcases ht with rfl | rfl <;> decide)
    · refine v_iconst 0 dX12_chest_41 (by decide) ?_
      -- at 42: .ireturn
      refine v_iret dX12_chest_42 rfl ⟨rfl, Pq.st⟩
  refine Ct.of k12_chest.1 (Nat.le_of_ble_eq_true rfl) ?_
  refine v_aload_n dX12_chest_0 rfl ?_
  refine v_aload_n dX12_chest_1 rfl ?_
  refine v_iload_n dX12_chest_2 rfl ?_
  refine v_i2l dX12_chest_3 ?_
  -- at 4: .invokevirtual 297
  refine v_cV [_] (c12_isChestN G M hS hP c) k12_isChest dX12_chest_4 l12_297 (by first | exact hS.1 _ _ rfl | exact hS'.1 _ _ rfl | assumption) (by decide) rfl (Nat.le_of_ble_eq_true rfl) (Nat.le_of_ble_eq_true rfl) ?_
  by_cases hc : inR (kn (gI M 231) 2) c = true
  · rw [bI_t hc]
    refine v_if_ne 14 dX12_chest_7 (by decide) (fun h7 => ?_) (fun h7 => ?_)
    · refine v_iload_n dX12_chest_14 rfl ?_
      refine v_i2l dX12_chest_15 ?_
      refine v_lconst 0 dX12_chest_16 (by decide) ?_
      refine v_ldc2 2 dX12_chest_17 K12_304 ?_
      -- at 20: .invokestatic 132
      refine v_cS [_, _, _] (c12_within _ _ _ _ _) k12_within dX12_chest_20 l12_132 rfl (Nat.le_of_ble_eq_true rfl) (Nat.le_of_ble_eq_true rfl) ?_
      rw [bI_cong (within2 w)]
      by_cases hw : inR 3 w = true
      · rw [bI_t hw]
        refine v_if_eq 30 dX12_chest_23 (by decide) (fun h23 => ?_) (fun h23 => ?_)
        · exact absurd h23 (by decide)
        obtain ⟨C, hC, rfl, hC2⟩ := inR_of hc
        rw [show tCh (gI M 231) (nI C) w = 0 by rw [tCh, if_pos hc, if_pos hw], if_pos rfl, nI_clamp hC2]
        refine v_iconst 0 dX12_chest_26 (by decide) ?_
        refine v_goto 31 dX12_chest_27 (by decide) ?_
        refine v_putI 12 4 dX12_chest_31 f12_68 (by first | exact hS.1 _ _ rfl | exact hS'.1 _ _ rfl | assumption) (by decide) ?_
        refine v_aload_n dX12_chest_34 rfl ?_
        refine v_getI 12 4 dX12_chest_35 f12_68 (by first | exact hS.1 _ _ rfl | exact hS'.1 _ _ rfl | assumption) (by decide) ?_
        -- at 38: .ifCond .le 5
        rw [gI_ss]
        refine v_if_le 43 dX12_chest_38 (by decide) (fun h38 => ?_) (fun h38 => ?_)
        · refine v_aload_n dX12_chest_43 rfl ?_
          -- at 44: .invokevirtual 306
          refine v_scVv [] (c12_laysHold G (sI M 230 4 0) hS (by rw [e1]; exact hP)) k12_laysHold dX12_chest_44 l12_306 (hS.1 _ _ rfl) (by decide) rfl (Nat.le_of_ble_eq_true rfl) (Nat.le_of_ble_eq_true rfl) (fun M2 hM2 => ?_)
          have hS' := Sh.sm (M := sI M 230 4 0) hS hM2.1
          have e2 : gI M2 231 = gI M 231 := (hM2.1.K (fun _ => rfl)).trans (e1 0)
          have hH := hM2.2
          rw [e1, ← e2] at hH
          have hP2 : WP (gI M2 231) := by rw [e2]; exact hP
          have hI2 : inOK (gI M2 231) := by rw [e2]; exact hI
          have hC3 : C < kn (gI M2 231) 2 := by rw [e2]; exact hC
          have hpq := Pq.of hM2.1
          rw [← e2]
          refine v_iload_n dX12_chest_47 rfl ?_
          -- at 48: .ifCond .ne 19
          by_cases hw0 : w = 0
          · subst hw0
            refine v_if_ne 67 dX12_chest_48 (by decide) (fun h48 => ?_) (fun h48 => ?_)
            · exact absurd rfl h48
            · refine v_aload_n dX12_chest_51 rfl ?_
              refine v_iload_n dX12_chest_52 rfl ?_
              -- at 53: .invokevirtual 250
              refine v_cV [_] (c12_isInN G M2 hS' hP2 hI2 (c := C) (by omega)) k12_isIn dX12_chest_53 l12_250 (by first | exact hS.1 _ _ rfl | exact hS'.1 _ _ rfl | assumption) (by decide) rfl (Nat.le_of_ble_eq_true rfl) (Nat.le_of_ble_eq_true rfl) ?_
              rw [rCh, if_pos rfl]
              by_cases hb : (kn (gI M2 231) 93).testBit C = true
              · rw [bI_t hb]
                refine v_if_eq 63 dX12_chest_56 (by decide) (fun h56 => ?_) (fun h56 => ?_)
                · exact absurd h56 (by decide)
                · refine v_iconst 1 dX12_chest_59 (by decide) ?_
                  refine v_goto 86 dX12_chest_60 (by decide) ?_
                  -- at 86: .ireturn
                  refine v_iret dX12_chest_86 rfl ⟨rfl, hpq⟩
              · rw [bI_f hb]
                refine v_if_eq 63 dX12_chest_56 (by decide) (fun h56 => ?_) (fun h56 => ?_)
                · refine v_iconst 0 dX12_chest_63 (by decide) ?_
                  refine v_goto 86 dX12_chest_64 (by decide) ?_
                  -- at 86: .ireturn
                  refine v_iret dX12_chest_86 rfl ⟨rfl, hpq⟩
                · exact absurd rfl h56
          · refine v_if_ne 67 dX12_chest_48 (by decide) (fun h48 => ?_) (fun h48 => ?_)
            · refine v_iload_n dX12_chest_67 rfl ?_
              refine v_iconst 1 dX12_chest_68 (by decide) ?_
              -- at 69: .if_icmp .ne 12
              by_cases hw1 : w = 1
              · subst hw1
                refine v_icmp_ne 81 dX12_chest_69 (by decide) (fun h69 => ?_) (fun h69 => ?_)
                · exact absurd rfl h69
                · refine v_aload_n dX12_chest_72 rfl ?_
                  refine v_getR 12 20 _ dX12_chest_73 f12_36 (by first | exact hS.1 _ _ rfl | exact hS'.1 _ _ rfl | assumption) (by decide) (by first | exact hS.2 _ _ _ rfl | exact hS'.2 _ _ _ rfl | assumption) ?_
                  refine v_iload_n dX12_chest_76 rfl ?_
                  refine v_ialdN (C) dX12_chest_77 (by first | exact hS.1 _ _ rfl | exact hS'.1 _ _ rfl | assumption) (by simp only [n_lit, pk_mul, nI_add]) ⟨by omega, by omega⟩ ?_
                  -- at 78: .goto 8
                  rw [(hH.hold hP2 C hC3).1]
                  refine v_goto 86 dX12_chest_78 (by decide) ?_
                  -- at 86: .ireturn
                  refine v_iret dX12_chest_86 rfl ⟨rfl, hpq⟩
              · refine v_icmp_ne 81 dX12_chest_69 (by decide) (fun h69 => ?_) (fun h69 => ?_)
                · refine v_aload_n dX12_chest_81 rfl ?_
                  refine v_iload_n dX12_chest_82 rfl ?_
                  -- at 83: .invokevirtual 309
                  refine v_cV [_] (c12_likeIt G M2 hS' hP2 hI2 hH hC3) k12_likeIt dX12_chest_83 l12_309 (by first | exact hS.1 _ _ rfl | exact hS'.1 _ _ rfl | assumption) (by decide) rfl (Nat.le_of_ble_eq_true rfl) (Nat.le_of_ble_eq_true rfl) ?_
                  refine v_iret dX12_chest_86 rfl ⟨by rw [rCh, if_neg hw0, if_neg hw1], hpq⟩
                · exact absurd (Decidable.not_not.mp h69) hw1
            · exact absurd (Decidable.not_not.mp h48) hw0
        · exact absurd (by decide) h38
      · rw [bI_f hw]
        refine v_if_eq 30 dX12_chest_23 (by decide) (fun h23 => ?_) (fun h23 => ?_)
        · refine v_iconst 2 dX12_chest_30 (by decide) ?_
          -- at 31: .putfield 68
          exact fin 2 (Or.inr rfl) (by rw [tCh, if_pos hc, if_neg hw])
        · exact absurd rfl h23
    · exact absurd (by decide) h7
  · rw [bI_f hc]
    refine v_if_ne 14 dX12_chest_7 (by decide) (fun h7 => ?_) (fun h7 => ?_)
    · exact absurd rfl h7
    · refine v_iconst 1 dX12_chest_10 (by decide) ?_
      refine v_goto 31 dX12_chest_11 (by decide) ?_
      -- at 31: .putfield 68
      exact fin 1 (Or.inl rfl) (by rw [tCh, if_neg hc])
def tWd (K : Nat → Int32) (w k : Int32) : Int32 := if inR (kn K 3) w = true then (if inR 4 k = true then 0 else 2) else 1
def rWd (K : Nat → Int32) (w : Nat) (k : Int32) : Int32 := if k = 0 then K (109 + w) else if k = 1 then bI ((kn K 119).testBit w = true) else if k = 2 then bI ((kn K 95).testBit w = true) else nI (bset (kn K 2) (inbP K w))
theorem c12_word (hS : Sh M) (hQ : WQ (gI M 231)) (w k : Int32) : Ct G Y12_word 7 0 0 [.ref 230, .int w, .int k] M (Rs (some (.int (if tWd (gI M 231) w k = 0 then rWd (gI M 231) w.toNatClampNeg k else 0))) (Pq M (tWd (gI M 231) w k))) NX := by
  obtain ⟨hP, hI, hU⟩ := hQ
  have h14 := hP.2.1.2
  have h10w := hP.2.2.1.2
  have e1 : ∀ t, gI (sI M 230 4 t) 231 = gI M 231 := fun t => gI_sr _ _ (by decide)
  have fin : ∀ t, t = 1 ∨ t = 2 → tWd (gI M 231) w k = t → V G Y12_word 7 0 0 (Rs (some (.int (if tWd (gI M 231) w k = 0 then rWd (gI M 231) w.toNatClampNeg k else 0))) (Pq M (tWd (gI M 231) w k))) NX 30 [some (.ref 230), some (.int w), some (.int k)] [.int t, .ref 230] M := by
    intro t ht e
    rw [e, if_neg (by rcases ht with rfl | rfl <;> decide)]
    refine v_putI 12 4 dX12_word_30 f12_68 (by first | exact hS.1 _ _ rfl | exact hS'.1 _ _ rfl | assumption) (by decide) ?_
    refine v_aload_n dX12_word_33 rfl ?_
    refine v_getI 12 4 dX12_word_34 f12_68 (by first | exact hS.1 _ _ rfl | exact hS'.1 _ _ rfl | assumption) (by decide) ?_
    -- at 37: .ifCond .le 5
    rw [gI_ss]
    refine v_if_le 42 dX12_word_37 (by decide) (fun h38 => ?_) (fun h38 => ?_)
    · exact absurd h38 (by rcases ht with rfl | rfl <;> decide)
    · refine v_iconst 0 dX12_word_40 (by decide) ?_
      -- at 41: .ireturn
      refine v_iret dX12_word_41 rfl ⟨rfl, Pq.st⟩
  refine Ct.of k12_word.1 (Nat.le_of_ble_eq_true rfl) ?_
  refine v_aload_n dX12_word_0 rfl ?_
  refine v_aload_n dX12_word_1 rfl ?_
  refine v_iload_n dX12_word_2 rfl ?_
  -- at 3: .invokevirtual 312
  refine v_cV [_] (c12_isHallWord G M hS hP w) k12_isHallWord dX12_word_3 l12_312 (by first | exact hS.1 _ _ rfl | exact hS'.1 _ _ rfl | assumption) (by decide) rfl (Nat.le_of_ble_eq_true rfl) (Nat.le_of_ble_eq_true rfl) ?_
  by_cases hw : inR (kn (gI M 231) 3) w = true
  · rw [bI_t hw]
    refine v_if_ne 13 dX12_word_6 (by decide) (fun h7 => ?_) (fun h7 => ?_)
    · refine v_iload_n dX12_word_13 rfl ?_
      refine v_i2l dX12_word_14 ?_
      refine v_lconst 0 dX12_word_15 (by decide) ?_
      refine v_ldc2 3 dX12_word_16 K12_315 ?_
      -- at 19: .invokestatic 132
      refine v_cS [_, _, _] (c12_within _ _ _ _ _) k12_within dX12_word_19 l12_132 rfl (Nat.le_of_ble_eq_true rfl) (Nat.le_of_ble_eq_true rfl) ?_
      rw [bI_cong (within3 k)]
      by_cases hk : inR 4 k = true
      · rw [bI_t hk]
        refine v_if_eq 29 dX12_word_22 (by decide) (fun h23 => ?_) (fun h23 => ?_)
        · exact absurd h23 (by decide)
        obtain ⟨W, hW, rfl, hW2⟩ := inR_of hw
        rw [show tWd (gI M 231) (nI W) k = 0 by rw [tWd, if_pos hw, if_pos hk], if_pos rfl, nI_clamp hW2]
        refine v_iconst 0 dX12_word_25 (by decide) ?_
        refine v_goto 30 dX12_word_26 (by decide) ?_
        refine v_putI 12 4 dX12_word_30 f12_68 (by first | exact hS.1 _ _ rfl | exact hS'.1 _ _ rfl | assumption) (by decide) ?_
        refine v_aload_n dX12_word_33 rfl ?_
        refine v_getI 12 4 dX12_word_34 f12_68 (by first | exact hS.1 _ _ rfl | exact hS'.1 _ _ rfl | assumption) (by decide) ?_
        -- at 37: .ifCond .le 5
        rw [gI_ss]
        refine v_if_le 42 dX12_word_37 (by decide) (fun h38 => ?_) (fun h38 => ?_)
        · refine v_aload_n dX12_word_42 rfl ?_
          -- at 43: .invokevirtual 306
          refine v_scVv [] (c12_laysHold G (sI M 230 4 0) hS (by rw [e1]; exact hP)) k12_laysHold dX12_word_43 l12_306 (hS.1 _ _ rfl) (by decide) rfl (Nat.le_of_ble_eq_true rfl) (Nat.le_of_ble_eq_true rfl) (fun M2 hM2 => ?_)
          have hS' := Sh.sm (M := sI M 230 4 0) hS hM2.1
          have e2 : gI M2 231 = gI M 231 := (hM2.1.K (fun _ => rfl)).trans (e1 0)
          have hH := hM2.2
          rw [e1, ← e2] at hH
          have hP2 : WP (gI M2 231) := by rw [e2]; exact hP
          have hI2 : inOK (gI M2 231) := by rw [e2]; exact hI
          have hU2 : usOK (gI M2 231) := by rw [e2]; exact hU
          have hpq := Pq.of hM2.1
          rw [← e2]
          rw [← e2] at h10w hW
          have hu : kn (gI M2 231) 95 < 1024 := Nat.lt_of_lt_of_le hU2.2 (show 2 ^ kn (gI M2 231) 3 ≤ 2 ^ 10 from Nat.pow_le_pow_right (by omega) h10w)
          have hv : kn (gI M2 231) 119 < 1024 := Nat.lt_of_lt_of_le hP2.2.2.2.2.2.2.2.2.2.2 (show 2 ^ kn (gI M2 231) 3 ≤ 2 ^ 10 from Nat.pow_le_pow_right (by omega) h10w)
          obtain ⟨j, hj, rfl, -⟩ := inR_of hk
          refine v_iload_n dX12_word_46 rfl ?_
          -- at 47: .tableswitch 75 0 2 #[25, 35, 55]
          obtain rfl | rfl | rfl | rfl : j = 0 ∨ j = 1 ∨ j = 2 ∨ j = 3 := by omega
          · refine v_tableIn 72 dX12_word_47 (by decide) (by decide) rfl (by decide) ?_
            refine v_aload_n dX12_word_72 rfl ?_
            refine v_getR 12 0 _ dX12_word_73 f12_9 (by first | exact hS.1 _ _ rfl | exact hS'.1 _ _ rfl | assumption) (by decide) (by first | exact hS.2 _ _ _ rfl | exact hS'.2 _ _ _ rfl | assumption) ?_
            refine v_bipush 109 dX12_word_76 (by decide) ?_
            refine v_iload_n dX12_word_78 rfl ?_
            refine v_iadd dX12_word_79 ?_
            refine v_ialdN (109 + W) dX12_word_80 (by first | exact hS.1 _ _ rfl | exact hS'.1 _ _ rfl | assumption) (by simp only [n_lit, pk_mul, nI_add]) ⟨by omega, by omega⟩ ?_
            -- at 81: .ireturn
            refine v_iret dX12_word_81 rfl ⟨rfl, hpq⟩
          · refine v_tableIn 82 dX12_word_47 (by decide) (by decide) rfl (by decide) ?_
            refine v_aload_n dX12_word_82 rfl ?_
            refine v_getR 12 0 _ dX12_word_83 f12_9 (by first | exact hS.1 _ _ rfl | exact hS'.1 _ _ rfl | assumption) (by decide) (by first | exact hS.2 _ _ _ rfl | exact hS'.2 _ _ _ rfl | assumption) ?_
            refine v_bipush 119 dX12_word_86 (by decide) ?_
            refine v_ialdN 119 dX12_word_88 (by first | exact hS.1 _ _ rfl | exact hS'.1 _ _ rfl | assumption) rfl (by decide) ?_
            refine v_iload_n dX12_word_89 rfl ?_
            -- at 90: .invokestatic 248
            rw [hP2.2.2.2.2.2.2.2.2.2.1]
            refine v_cS [_, _] (c12_hasN G M2 (s := kn (gI M2 231) 119) (k := W) (by omega) (by omega)) k12_has dX12_word_90 l12_248 rfl (Nat.le_of_ble_eq_true rfl) (Nat.le_of_ble_eq_true rfl) ?_
            rw [show rWd (gI M2 231) W (nI 1) = bI ((kn (gI M2 231) 119).testBit W = true) from rfl]
            by_cases hb : (kn (gI M2 231) 119).testBit W = true
            · rw [bI_t hb]
              refine v_if_eq 100 dX12_word_93 (by decide) (fun h93 => ?_) (fun h93 => ?_)
              · exact absurd h93 (by decide)
              · refine v_iconst 1 dX12_word_96 (by decide) ?_
                refine v_goto 101 dX12_word_97 (by decide) ?_
                -- at 101: .ireturn
                refine v_iret dX12_word_101 rfl ⟨rfl, hpq⟩
            · rw [bI_f hb]
              refine v_if_eq 100 dX12_word_93 (by decide) (fun h93 => ?_) (fun h93 => ?_)
              · refine v_iconst 0 dX12_word_100 (by decide) ?_
                -- at 101: .ireturn
                refine v_iret dX12_word_101 rfl ⟨rfl, hpq⟩
              · exact absurd rfl h93
          · refine v_tableIn 102 dX12_word_47 (by decide) (by decide) rfl (by decide) ?_
            refine v_aload_n dX12_word_102 rfl ?_
            refine v_getR 12 0 _ dX12_word_103 f12_9 (by first | exact hS.1 _ _ rfl | exact hS'.1 _ _ rfl | assumption) (by decide) (by first | exact hS.2 _ _ _ rfl | exact hS'.2 _ _ _ rfl | assumption) ?_
            refine v_bipush 95 dX12_word_106 (by decide) ?_
            refine v_ialdN 95 dX12_word_108 (by first | exact hS.1 _ _ rfl | exact hS'.1 _ _ rfl | assumption) rfl (by decide) ?_
            refine v_iload_n dX12_word_109 rfl ?_
            -- at 110: .invokestatic 248
            rw [hU2.1]
            refine v_cS [_, _] (c12_hasN G M2 (s := kn (gI M2 231) 95) (k := W) (by omega) (by omega)) k12_has dX12_word_110 l12_248 rfl (Nat.le_of_ble_eq_true rfl) (Nat.le_of_ble_eq_true rfl) ?_
            rw [show rWd (gI M2 231) W (nI 2) = bI ((kn (gI M2 231) 95).testBit W = true) from rfl]
            by_cases hb : (kn (gI M2 231) 95).testBit W = true
            · rw [bI_t hb]
              refine v_if_eq 120 dX12_word_113 (by decide) (fun h93 => ?_) (fun h93 => ?_)
              · exact absurd h93 (by decide)
              · refine v_iconst 1 dX12_word_116 (by decide) ?_
                refine v_goto 121 dX12_word_117 (by decide) ?_
                -- at 121: .ireturn
                refine v_iret dX12_word_121 rfl ⟨rfl, hpq⟩
            · rw [bI_f hb]
              refine v_if_eq 120 dX12_word_113 (by decide) (fun h93 => ?_) (fun h93 => ?_)
              · refine v_iconst 0 dX12_word_120 (by decide) ?_
                -- at 121: .ireturn
                refine v_iret dX12_word_121 rfl ⟨rfl, hpq⟩
              · exact absurd rfl h93
          · refine v_tableOut 122 dX12_word_47 (by decide) (by decide) ?_
            refine v_aload_n dX12_word_122 rfl ?_
            refine v_iload_n dX12_word_123 rfl ?_
            -- at 124: .invokevirtual 317
            refine v_cV [_] (c12_inBy G M2 hS' hP2 hI2 hH (w := W) (by omega)) k12_inBy dX12_word_124 l12_317 (by first | exact hS.1 _ _ rfl | exact hS'.1 _ _ rfl | assumption) (by decide) rfl (Nat.le_of_ble_eq_true rfl) (Nat.le_of_ble_eq_true rfl) ?_
            refine v_iret dX12_word_127 rfl ⟨rfl, hpq⟩
        · exact absurd (by decide) h38
      · rw [bI_f hk]
        refine v_if_eq 29 dX12_word_22 (by decide) (fun h23 => ?_) (fun h23 => ?_)
        · refine v_iconst 2 dX12_word_29 (by decide) ?_
          -- at 30: .putfield 68
          exact fin 2 (Or.inr rfl) (by rw [tWd, if_pos hw, if_neg hk])
        · exact absurd rfl h23
    · exact absurd (by decide) h7
  · rw [bI_f hw]
    refine v_if_ne 13 dX12_word_6 (by decide) (fun h7 => ?_) (fun h7 => ?_)
    · exact absurd rfl h7
    · refine v_iconst 1 dX12_word_9 (by decide) ?_
      refine v_goto 30 dX12_word_10 (by decide) ?_
      -- at 30: .putfield 68
      exact fin 1 (Or.inl rfl) (by rw [tWd, if_neg hw])
end RO
