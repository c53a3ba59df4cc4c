/-! ===== the reference: questions of a chest, of a word ===== -/
section RO
variable (G : mG) (M : mM)
def likP (K : Nat → Int32) (c k : Nat) : Bool := decide (k ≠ c) && (kn K 93).testBit k && decide (trH K k = trH K c)
def likN (K : Nat → Int32) (c : Nat) : Nat := cnt (kn K 2) (likP K c)
theorem l12_likeIt (hS : Sh M) (hP : WP (gI M 231)) (hI : inOK (gI M 231)) (hH : HH M (gI M 231)) {c : Nat} (hc : c < kn (gI M 231) 2) :
    ∀ i k, k + i = kn (gI M 231) 2 → V G Y12_likeIt 2 0 0 (Rv (some (.int (nI (likN (gI M 231) c)))) M) NX 4 [some (.ref 230), some (.int (nI c)), some (.int (nI (cnt k (likP (gI M 231) c)))), some (.int (nI k))] [] M := by
  have h14 := hP.2.1.2
  intro i
  induction i with
  | zero =>
    intro k hk
    obtain rfl : k = kn (gI M 231) 2 := by omega
    refine v_iload_n dX12_likeIt_4 rfl ?_
    refine v_aload_n dX12_likeIt_5 rfl ?_
    -- at 6: .invokevirtual 245
    refine v_cV [] (c12_chests G M hS) k12_chests dX12_likeIt_6 l12_245 (by first | exact hS.1 _ _ rfl | exact hS'.1 _ _ rfl | assumption) (by decide) rfl (Nat.le_of_ble_eq_true rfl) (Nat.le_of_ble_eq_true rfl) ?_
    rw [hP.2.1.1]
    refine v_icmp_ge 54 dX12_likeIt_9 (by decide) (fun h9 => ?_) (fun h9 => ?_)
    · refine v_iload_n dX12_likeIt_54 rfl ?_
      -- at 55: .ireturn
      refine v_iret dX12_likeIt_55 rfl ⟨rfl, rfl⟩
    · exact absurd (nI_le (Nat.le_refl _) (by omega)) h9
  | succ i ih =>
    intro k hk
    have hn := ih (k + 1) (by omega)
    simp only [cnt] at hn
    have no : ¬ likP (gI M 231) c k = true → V G Y12_likeIt 2 0 0 (Rv (some (.int (nI (likN (gI M 231) c)))) M) NX 45 [some (.ref 230), some (.int (nI c)), some (.int (nI (cnt k (likP (gI M 231) c)))), some (.int (nI k))] [.int (nI (cnt k (likP (gI M 231) c)))] M := by
      intro hno
      rw [if_neg hno, Nat.add_zero] at hn
      refine v_iconst 0 dX12_likeIt_45 (by decide) ?_
      refine v_iadd dX12_likeIt_46 ?_
      refine v_istore_n dX12_likeIt_47 rfl (by decide) ?_
      refine v_iinc 1 dX12_likeIt_48 rfl (by decide) rfl (by decide) ?_
      refine v_goto 4 dX12_likeIt_51 (by decide) ?_
      -- at 4: .iload_n 3
      rw [nI_1, Int32.add_zero]
      exact hn
    refine v_iload_n dX12_likeIt_4 rfl ?_
    refine v_aload_n dX12_likeIt_5 rfl ?_
    -- at 6: .invokevirtual 245
    refine v_cV [] (c12_chests G M hS) k12_chests dX12_likeIt_6 l12_245 (by first | exact hS.1 _ _ rfl | exact hS'.1 _ _ rfl | assumption) (by decide) rfl (Nat.le_of_ble_eq_true rfl) (Nat.le_of_ble_eq_true rfl) ?_
    rw [hP.2.1.1]
    refine v_icmp_ge 54 dX12_likeIt_9 (by decide) (fun h9 => ?_) (fun h9 => ?_)
    · exact absurd ((nI_leI (by omega) (by omega)).mp h9) (by omega)
    refine v_iload_n dX12_likeIt_12 rfl ?_
    refine v_iload_n dX12_likeIt_13 rfl ?_
    refine v_iload_n dX12_likeIt_14 rfl ?_
    -- at 15: .if_icmp .eq 30
    refine v_icmp_eq 45 dX12_likeIt_15 (by decide) (fun h15 => ?_) (fun h15 => ?_)
    · have h15' := (nI_eq (by omega) (by omega)).mp h15
      exact no (by rw [likP, decide_eq_false (not_not_intro h15')]; simp)
    have h15' : k ≠ c := fun z => h15 (by rw [z])
    refine v_aload_n dX12_likeIt_18 rfl ?_
    refine v_iload_n dX12_likeIt_19 rfl ?_
    -- at 20: .invokevirtual 250
    refine v_cV [_] (c12_isInN G M hS hP hI (c := k) (by omega)) k12_isIn dX12_likeIt_20 l12_250 (by first | exact hS.1 _ _ rfl | exact hS'.1 _ _ rfl | assumption) (by decide) rfl (Nat.le_of_ble_eq_true rfl) (Nat.le_of_ble_eq_true rfl) ?_
    by_cases hin : (kn (gI M 231) 93).testBit k = true
    · rw [bI_t hin]
      refine v_if_eq 45 dX12_likeIt_23 (by decide) (fun h23 => ?_) (fun h23 => ?_)
      · exact absurd h23 (by decide)
      have hk1 := hH.hold hP k (by omega)
      have hc1 := hH.hold hP c (by omega)
      refine v_aload_n dX12_likeIt_26 rfl ?_
      refine v_getR 12 20 _ dX12_likeIt_27 f12_36 (by first | exact hS.1 _ _ rfl | exact hS'.1 _ _ rfl | assumption) (by decide) (by first | exact hS.2 _ _ _ rfl | exact hS'.2 _ _ _ rfl | assumption) ?_
      refine v_iload_n dX12_likeIt_30 rfl ?_
      refine v_ialdN (k) dX12_likeIt_31 (by first | exact hS.1 _ _ rfl | exact hS'.1 _ _ rfl | assumption) (by simp only [n_lit, pk_mul, nI_add]) ⟨by omega, by omega⟩ ?_
      refine v_aload_n dX12_likeIt_32 rfl ?_
      refine v_getR 12 20 _ dX12_likeIt_33 f12_36 (by first | exact hS.1 _ _ rfl | exact hS'.1 _ _ rfl | assumption) (by decide) (by first | exact hS.2 _ _ _ rfl | exact hS'.2 _ _ _ rfl | assumption) ?_
      refine v_iload_n dX12_likeIt_36 rfl ?_
      refine v_ialdN (c) dX12_likeIt_37 (by first | exact hS.1 _ _ rfl | exact hS'.1 _ _ rfl | assumption) (by simp only [n_lit, pk_mul, nI_add]) ⟨by omega, by omega⟩ ?_
      -- at 38: .if_icmp .ne 7
      rw [hk1.1, hc1.1]
      refine v_icmp_ne 45 dX12_likeIt_38 (by decide) (fun h38 => ?_) (fun h38 => ?_)
      · exact no (by
          simp only [likP, Bool.and_eq_true, decide_eq_true_eq]
          exact fun z => h38 (by rw [z.2]))
      · have h38' := (nI_eq (by omega) (by omega)).mp (Decidable.not_not.mp h38)
        rw [if_pos (by simp only [likP, Bool.and_eq_true, decide_eq_true_eq]; exact ⟨⟨h15', hin⟩, h38'⟩)] at hn
        refine v_iconst 1 dX12_likeIt_41 (by decide) ?_
        refine v_goto 46 dX12_likeIt_42 (by decide) ?_
        refine v_iadd dX12_likeIt_46 ?_
        refine v_istore_n dX12_likeIt_47 rfl (by decide) ?_
        refine v_iinc 1 dX12_likeIt_48 rfl (by decide) rfl (by decide) ?_
        refine v_goto 4 dX12_likeIt_51 (by decide) ?_
        -- at 4: .iload_n 3
        rw [nI_1, nI_1]
        exact hn
    · rw [bI_f hin]
      refine v_if_eq 45 dX12_likeIt_23 (by decide) (fun h23 => ?_) (fun h23 => ?_)
      · exact no (by simp [likP, hin])
      · exact absurd rfl h23
theorem c12_likeIt (hS : Sh M) (hP : WP (gI M 231)) (hI : inOK (gI M 231)) (hH : HH M (gI M 231)) {c : Nat} (hc : c < kn (gI M 231) 2) : Ct G Y12_likeIt 2 0 0 [.ref 230, .int (nI c)] M (Rv (some (.int (nI (likN (gI M 231) c)))) M) NX := by
  refine Ct.of k12_likeIt.1 (Nat.le_of_ble_eq_true rfl) ?_
  refine v_iconst 0 dX12_likeIt_0 (by decide) ?_
  refine v_istore_n dX12_likeIt_1 rfl (by decide) ?_
  refine v_iconst 0 dX12_likeIt_2 (by decide) ?_
  refine v_istore_n dX12_likeIt_3 rfl (by decide) ?_
  -- at 4: .iload_n 3
  exact l12_likeIt G M hS hP hI hH hc (kn (gI M 231) 2) 0 (by omega)
def inbP (K : Nat → Int32) (w k : Nat) : Bool := (kn K 93).testBit k && (trH K k).testBit w
theorem l12_inBy (hS : Sh M) (hP : WP (gI M 231)) (hI : inOK (gI M 231)) (hH : HH M (gI M 231)) {w : Nat} (hw : w < 10) :
    ∀ i k, k + i = kn (gI M 231) 2 → V G Y12_inBy 2 0 0 (Rv (some (.int (nI (bset (kn (gI M 231) 2) (inbP (gI M 231) w))))) M) NX 4 [some (.ref 230), some (.int (nI w)), some (.int (nI (bset k (inbP (gI M 231) w)))), some (.int (nI k))] [] M := by
  have h14 := hP.2.1.2
  intro i
  induction i with
  | zero =>
    intro k hk
    obtain rfl : k = kn (gI M 231) 2 := by omega
    refine v_iload_n dX12_inBy_4 rfl ?_
    refine v_aload_n dX12_inBy_5 rfl ?_
    -- at 6: .invokevirtual 245
    refine v_cV [] (c12_chests G M hS) k12_chests dX12_inBy_6 l12_245 (by first | exact hS.1 _ _ rfl | exact hS'.1 _ _ rfl | assumption) (by decide) rfl (Nat.le_of_ble_eq_true rfl) (Nat.le_of_ble_eq_true rfl) ?_
    rw [hP.2.1.1]
    refine v_icmp_ge 49 dX12_inBy_9 (by decide) (fun h9 => ?_) (fun h9 => ?_)
    · refine v_iload_n dX12_inBy_49 rfl ?_
      -- at 50: .ireturn
      refine v_iret dX12_inBy_50 rfl ⟨rfl, rfl⟩
    · exact absurd (nI_le (Nat.le_refl _) (by omega)) h9
  | succ i ih =>
    intro k hk
    have hn := ih (k + 1) (by omega)
    rw [← bset_step _ (by omega), ← nI_1] at hn
    have no : ¬ inbP (gI M 231) w k = true → V G Y12_inBy 2 0 0 (Rv (some (.int (nI (bset (kn (gI M 231) 2) (inbP (gI M 231) w))))) M) NX 40 [some (.ref 230), some (.int (nI w)), some (.int (nI (bset k (inbP (gI M 231) w)))), some (.int (nI k))] [.int (nI (bset k (inbP (gI M 231) w)))] M := by
      intro hno
      rw [if_neg hno] at hn
      refine v_iconst 0 dX12_inBy_40 (by decide) ?_
      refine v_ior dX12_inBy_41 ?_
      refine v_istore_n dX12_inBy_42 rfl (by decide) ?_
      refine v_iinc 1 dX12_inBy_43 rfl (by decide) rfl (by decide) ?_
      refine v_goto 4 dX12_inBy_46 (by decide) ?_
      -- at 4: .iload_n 3
      exact hn
    refine v_iload_n dX12_inBy_4 rfl ?_
    refine v_aload_n dX12_inBy_5 rfl ?_
    -- at 6: .invokevirtual 245
    refine v_cV [] (c12_chests G M hS) k12_chests dX12_inBy_6 l12_245 (by first | exact hS.1 _ _ rfl | exact hS'.1 _ _ rfl | assumption) (by decide) rfl (Nat.le_of_ble_eq_true rfl) (Nat.le_of_ble_eq_true rfl) ?_
    rw [hP.2.1.1]
    refine v_icmp_ge 49 dX12_inBy_9 (by decide) (fun h9 => ?_) (fun h9 => ?_)
    · exact absurd ((nI_leI (by omega) (by omega)).mp h9) (by omega)
    refine v_iload_n dX12_inBy_12 rfl ?_
    refine v_aload_n dX12_inBy_13 rfl ?_
    refine v_iload_n dX12_inBy_14 rfl ?_
    -- at 15: .invokevirtual 250
    refine v_cV [_] (c12_isInN G M hS hP hI (c := k) (by omega)) k12_isIn dX12_inBy_15 l12_250 (by first | exact hS.1 _ _ rfl | exact hS'.1 _ _ rfl | assumption) (by decide) rfl (Nat.le_of_ble_eq_true rfl) (Nat.le_of_ble_eq_true rfl) ?_
    by_cases hin : (kn (gI M 231) 93).testBit k = true
    · rw [bI_t hin]
      refine v_if_eq 40 dX12_inBy_18 (by decide) (fun h18 => ?_) (fun h18 => ?_)
      · exact absurd h18 (by decide)
      have hk1 := hH.hold hP k (by omega)
      refine v_aload_n dX12_inBy_21 rfl ?_
      refine v_getR 12 20 _ dX12_inBy_22 f12_36 (by first | exact hS.1 _ _ rfl | exact hS'.1 _ _ rfl | assumption) (by decide) (by first | exact hS.2 _ _ _ rfl | exact hS'.2 _ _ _ rfl | assumption) ?_
      refine v_iload_n dX12_inBy_25 rfl ?_
      refine v_ialdN (k) dX12_inBy_26 (by first | exact hS.1 _ _ rfl | exact hS'.1 _ _ rfl | assumption) (by simp only [n_lit, pk_mul, nI_add]) ⟨by omega, by omega⟩ ?_
      refine v_iload_n dX12_inBy_27 rfl ?_
      -- at 28: .invokestatic 248
      rw [hk1.1]
      refine v_cS [_, _] (c12_hasN G M (s := trH (gI M 231) k) (k := w) (by omega) (by omega)) k12_has dX12_inBy_28 l12_248 rfl (Nat.le_of_ble_eq_true rfl) (Nat.le_of_ble_eq_true rfl) ?_
      by_cases hb : (trH (gI M 231) k).testBit w = true
      · rw [bI_t hb]
        rw [if_pos (by simp [inbP, hin, hb]), ← shl1 (by omega)] at hn
        refine v_if_eq 40 dX12_inBy_31 (by decide) (fun h31 => ?_) (fun h31 => ?_)
        · exact absurd h31 (by decide)
        · refine v_iconst 1 dX12_inBy_34 (by decide) ?_
          refine v_iload_n dX12_inBy_35 rfl ?_
          refine v_ishl dX12_inBy_36 ?_
          refine v_goto 41 dX12_inBy_37 (by decide) ?_
          refine v_ior dX12_inBy_41 ?_
          refine v_istore_n dX12_inBy_42 rfl (by decide) ?_
          refine v_iinc 1 dX12_inBy_43 rfl (by decide) rfl (by decide) ?_
          refine v_goto 4 dX12_inBy_46 (by decide) ?_
          -- at 4: .iload_n 3
          exact hn
      · rw [bI_f hb]
        refine v_if_eq 40 dX12_inBy_31 (by decide) (fun h31 => ?_) (fun h31 => ?_)
        · exact no (by simp [inbP, hb])
        · exact absurd rfl h31
    · rw [bI_f hin]
      refine v_if_eq 40 dX12_inBy_18 (by decide) (fun h18 => ?_) (fun h18 => ?_)
      · exact no (by simp [inbP, hin])
      · exact absurd rfl h18
theorem c12_inBy (hS : Sh M) (hP : WP (gI M 231)) (hI : inOK (gI M 231)) (hH : HH M (gI M 231)) {w : Nat} (hw : w < 10) : Ct G Y12_inBy 2 0 0 [.ref 230, .int (nI w)] M (Rv (some (.int (nI (bset (kn (gI M 231) 2) (inbP (gI M 231) w))))) M) NX := by
  refine Ct.of k12_inBy.1 (Nat.le_of_ble_eq_true rfl) ?_
  refine v_iconst 0 dX12_inBy_0 (by decide) ?_
  refine v_istore_n dX12_inBy_1 rfl (by decide) ?_
  refine v_iconst 0 dX12_inBy_2 (by decide) ?_
  refine v_istore_n dX12_inBy_3 rfl (by decide) ?_
  -- at 4: .iload_n 3
  exact l12_inBy G M hS hP hI hH hw (kn (gI M 231) 2) 0 (by omega)
end RO
