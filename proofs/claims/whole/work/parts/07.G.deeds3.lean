/-! ===== the reference: settles, does, why a told deed can't be ===== -/
def Ws (q k : Nat) : Bool := Wlh q k || Nat.beq q 231
def Wd (q k : Nat) : Bool := Wq q k || Nat.beq q 231 || Nat.beq q 241
theorem Sm.s1 {M M' : mM} (h : Sm Wlh M M') : Sm Ws M M' := h.wk (fun q k z => by simp only [Ws, Bool.or_eq_false_iff] at z; exact z.1)
theorem Sm.s2 {M M' : mM} (h : Sm W231 M M') : Sm Ws M M' := h.wk (fun q k z => by simp only [Ws, Bool.or_eq_false_iff] at z; exact z.2)
theorem Sm.sd {M M' : mM} (h : Sm Ws M M') : Sm Wd M M' := h.wk (fun q k z => by simp only [Ws, Wd, Wq, Bool.or_eq_false_iff] at z ⊢; exact ⟨z.1.1.1.1.1, z.1.2⟩)
theorem Sm.d1 {M M' : mM} (h : Sm Wlh M M') : Sm Wd M M' := h.s1.sd
theorem Sm.d2 {M M' : mM} (h : Sm W231 M M') : Sm Wd M M' := h.s2.sd
theorem Sm.d3 {M M' : mM} (h : Sm Wq M M') : Sm Wd M M' := h.wk (fun q k z => by simp only [Wd, Bool.or_eq_false_iff] at z; exact z.1.1)
theorem Sm.t4s {M M' : mM} (h : Sm Ws M M') : gI M' 230 4 = gI M 230 4 := h.2.2.2.2 230 4 rfl
section RG
variable (G : mG) (M : mM)
theorem l12_settles (hS : Sh M) (hW : WK (gI M 231)) (hs : gI M 231 96 ≠ -1) (M2 : mM) (hM : Sm Ws M M2) (eK : gI M2 231 = set1 (gI M 231)) (v : Int32) (o : Option Value) : V G Y12_settles 8 0 0 (Rs (some (.int v)) (fun M' => Sm Ws M M' ∧ gI M' 231 = setK (gI M 231))) NX 74 [some (.ref 230), some (.int v), o] [] M2 := by
  have h14 := hW.p.2.1.2
  have hS' := hS.sm hM
  have hw : ∀ p, winO (gI M 231) = some p → p < 6 := fun p hp => (winO_lt hW.p p hp).1
  refine v_aload_n dX12_settles_74 rfl ?_
  -- at 75: .invokevirtual 361
  refine v_scVv [] (c12_noClaims G M2 hS') k12_noClaims dX12_settles_75 l12_361 (hS'.1 _ _ rfl) (by decide) rfl (Nat.le_of_ble_eq_true rfl) (Nat.le_of_ble_eq_true rfl) (fun M3 hM3 => ?_)
  have hM3' := hM.tr hM3.1.s2
  have hS3 := hS.sm hM3'
  have eK3 : gI M3 231 = noCl (set1 (gI M 231)) := by rw [hM3.2, eK]
  have e96 : gI M3 231 96 = gI M 231 96 := by rw [eK3, noCl_o (by omega), set1_o ⟨by omega, by omega, by omega⟩ hw]
  have e2 : kn (noCl (set1 (gI M 231))) 2 = kn (gI M 231) 2 := by unfold kn; rw [set_plan hW (by omega)]
  have e93 : kn (noCl (set1 (gI M 231))) 93 = kn (set1 (gI M 231)) 93 := by unfold kn; rw [noCl_o (by omega)]
  have hP3 : WP (noCl (set1 (gI M 231))) := hW.p.cong (fun i hi => set_plan hW (by unfold plI at hi; omega))
  have hI3 : inOK (noCl (set1 (gI M 231))) := by
    have := set1_93 hW
    refine ⟨by rw [e93, noCl_o (by omega)]; exact this.1, by rw [e93, e2]; exact this.2⟩
  obtain ⟨s, s1, s2, -⟩ : ∃ c, gI M 231 96 = nI c ∧ c < kn (gI M 231) 2 ∧ (kn (gI M 231) 93).testBit c = true := by
    rcases hW.s with ⟨z, _⟩ | z
    · exact absurd z hs
    · exact z
  refine v_aload_n dX12_settles_78 rfl ?_
  refine v_getR 12 0 _ dX12_settles_79 f12_9 (hS3.1 _ _ rfl) (by decide) (hS3.2 _ _ _ rfl) ?_
  refine v_bipush 96 dX12_settles_82 (by decide) ?_
  refine v_aload_n dX12_settles_84 rfl ?_
  refine v_aload_n dX12_settles_85 rfl ?_
  refine v_getR 12 0 _ dX12_settles_86 f12_9 (hS3.1 _ _ rfl) (by decide) (hS3.2 _ _ _ rfl) ?_
  refine v_bipush 96 dX12_settles_89 (by decide) ?_
  refine v_ialdN 96 dX12_settles_91 (hS3.1 _ _ rfl) rfl (by decide) ?_
  -- at 92: .invokevirtual 364
  rw [e96, s1]
  have hcon := c12_inBehind G M3 hS3 (by rw [eK3]; exact hP3) (by rw [eK3]; exact hI3) (c := s) (by rw [eK3, e2]; exact s2)
  rw [eK3] at hcon
  refine v_cV [_] hcon k12_inBehind dX12_settles_92 l12_364 (hS3.1 _ _ rfl) (by decide) rfl (Nat.le_of_ble_eq_true rfl) (Nat.le_of_ble_eq_true rfl) ?_
  refine v_iastN 96 dX12_settles_95 (hS3.1 _ _ rfl) rfl (by decide) ?_
  refine v_iload_n dX12_settles_96 rfl ?_
  -- at 97: .ireturn
  refine v_iret dX12_settles_97 rfl ⟨rfl, hM3'.st _ rfl, by rw [gI_uK, eK3, setK, kn_n s1 (by omega)]⟩
theorem c12_settles (hS : Sh M) (hW : WK (gI M 231)) (hs : gI M 231 96 ≠ -1) : Ct G Y12_settles 8 0 0 [.ref 230] M (Rs (some (.int (encP (winO (gI M 231))))) (fun M' => Sm Ws M M' ∧ gI M' 231 = setK (gI M 231))) NX := by
  have h14 := hW.p.2.1.2
  have hw := winO_lt hW.p
  have key := l12_settles G M hS hW hs
  refine Ct.of k12_settles.1 (Nat.le_of_ble_eq_true rfl) ?_
  refine v_aload_n dX12_settles_0 rfl ?_
  -- at 1: .invokevirtual 358
  refine v_scV [] (c12_winnerOf G M hS hW.q hW.c) k12_winnerOf dX12_settles_1 l12_358 (hS.1 _ _ rfl) (by decide) rfl (Nat.le_of_ble_eq_true rfl) (Nat.le_of_ble_eq_true rfl) (fun M2 hM2 => ?_)
  have hS' := hS.sm hM2
  have eK : gI M2 231 = gI M 231 := hM2.K (fun _ => rfl)
  have hn : winO (gI M 231) = none → set1 (gI M 231) = gI M 231 := fun z => by unfold set1; rw [z]
  have hn2 : ∀ p, winO (gI M 231) = some p → set1 (gI M 231) = uK (uK (uK (gI M 231) (103 + p) (gI M 231 (103 + p) + 1)) 93 (nI (dif (kn (gI M 231) 93) (2 ^ kn (gI M 231) 96)))) 95 (nI (kn (gI M 231) 95 ||| (kn (gI M 231) (97 + p) ||| kn (gI M 231) (97 + p) / 1024) % 1024)) := fun p z => by unfold set1; rw [z]
  generalize winO (gI M 231) = w at hn hn2 hw ⊢
  cases w with
  | none =>
    refine v_istore_n dX12_settles_4 rfl (by decide) ?_
    refine v_iload_n dX12_settles_5 rfl ?_
    refine v_iconst (-1) dX12_settles_6 (by decide) ?_
    -- at 7: .if_icmp .eq 67
    refine v_icmp_eq 74 dX12_settles_7 (by decide) (fun h7 => ?_) (fun h7 => ?_)
    · refine v_pad ?_
      exact key M2 hM2.s1 (by rw [eK, hn rfl]) _ none
    · exact absurd rfl h7
  | some p =>
    obtain ⟨p1, p2, p3⟩ := hw p rfl
    obtain ⟨d1, d2, d3⟩ := hW.c.d p1 p3
    obtain ⟨s, s1, s2, -⟩ : ∃ c, gI M 231 96 = nI c ∧ c < kn (gI M 231) 2 ∧ (kn (gI M 231) 93).testBit c = true := by
      rcases hW.s with ⟨z, _⟩ | z
      · exact absurd z hs
      · exact z
    have hk := kn_n s1 (by omega)
    have hul := us_lt hW.p hW.u
    rw [show encP (some p) = nI p from rfl]
    refine v_istore_n dX12_settles_4 rfl (by decide) ?_
    refine v_iload_n dX12_settles_5 rfl ?_
    refine v_iconst (-1) dX12_settles_6 (by decide) ?_
    -- at 7: .if_icmp .eq 67
    refine v_icmp_eq 74 dX12_settles_7 (by decide) (fun h7 => ?_) (fun h7 => ?_)
    · exact absurd h7 (fun z => absurd (show (-1 : Int32) < 0 by decide) (by rw [← z]; exact nI_pos (n := p) (by omega)))
    · refine v_aload_n dX12_settles_10 rfl ?_
      refine v_getR 12 0 _ dX12_settles_11 f12_9 (by first | exact hS.1 _ _ rfl | exact hS'.1 _ _ rfl | assumption) (by decide) (by first | exact hS.2 _ _ _ rfl | exact hS'.2 _ _ _ rfl | assumption) ?_
      refine v_bipush 97 dX12_settles_14 (by decide) ?_
      refine v_iload_n dX12_settles_16 rfl ?_
      refine v_iadd dX12_settles_17 ?_
      refine v_ialdN (97 + p) dX12_settles_18 (by first | exact hS.1 _ _ rfl | exact hS'.1 _ _ rfl | assumption) (by simp only [n_lit, pk_mul, nI_add]) ⟨by omega, by omega⟩ ?_
      -- at 19: .istore_n 2
      rw [eK, d1]
      refine v_istore_n dX12_settles_19 rfl (by decide) ?_
      refine v_aload_n dX12_settles_20 rfl ?_
      refine v_getR 12 0 _ dX12_settles_21 f12_9 (by first | exact hS.1 _ _ rfl | exact hS'.1 _ _ rfl | assumption) (by decide) (by first | exact hS.2 _ _ _ rfl | exact hS'.2 _ _ _ rfl | assumption) ?_
      refine v_bipush 103 dX12_settles_24 (by decide) ?_
      refine v_iload_n dX12_settles_26 rfl ?_
      refine v_iadd dX12_settles_27 ?_
      refine v_dup2 dX12_settles_28 rfl rfl ?_
      -- at 29: .iaload
      refine v_ialdN (103 + p) dX12_settles_29 (hS'.1 _ _ rfl) (by simp only [n_lit, nI_add]) ⟨by omega, by omega⟩ ?_
      rw [eK]
      refine v_iconst 1 dX12_settles_30 (by decide) ?_
      refine v_iadd dX12_settles_31 ?_
      -- at 32: .iastore
      refine v_iastN (103 + p) dX12_settles_32 (hS'.1 _ _ rfl) (by simp only [n_lit, nI_add]) ⟨by omega, by omega⟩ ?_
      have eK1 : gI (sI M2 231 (103 + p) (gI M 231 (103 + p) + 1)) 231 = uK (gI M 231) (103 + p) (gI M 231 (103 + p) + 1) := by rw [gI_uK, eK]
      have hM3 := (hM2.s1).st (q := 231) (k := 103 + p) (gI M 231 (103 + p) + 1) rfl
      obtain ⟨M3, eM3⟩ : ∃ M3, M3 = sI M2 231 (103 + p) (gI M 231 (103 + p) + 1) := ⟨_, rfl⟩
      rw [← eM3] at eK1 hM3 ⊢
      have hS3 := hS.sm hM3
      refine v_aload_n dX12_settles_33 rfl ?_
      refine v_getR 12 0 _ dX12_settles_34 f12_9 (hS3.1 _ _ rfl) (by decide) (hS3.2 _ _ _ rfl) ?_
      refine v_bipush 93 dX12_settles_37 (by decide) ?_
      refine v_dup2 dX12_settles_39 rfl rfl ?_
      -- at 40: .iaload
      refine v_ialdN 93 dX12_settles_40 (hS3.1 _ _ rfl) rfl (by decide) ?_
      rw [eK1, uK_n _ _ (by omega), hW.i.1]
      refine v_iconst 1 dX12_settles_41 (by decide) ?_
      refine v_aload_n dX12_settles_42 rfl ?_
      refine v_getR 12 0 _ dX12_settles_43 f12_9 (hS3.1 _ _ rfl) (by decide) (hS3.2 _ _ _ rfl) ?_
      refine v_bipush 96 dX12_settles_46 (by decide) ?_
      refine v_ialdN 96 dX12_settles_48 (hS3.1 _ _ rfl) rfl (by decide) ?_
      -- at 49: .ishl
      rw [eK1, uK_n _ _ (by omega), s1]
      refine v_ishl dX12_settles_49 ?_
      refine v_iconst (-1) dX12_settles_50 (by decide) ?_
      refine v_ixor dX12_settles_51 ?_
      refine v_iand dX12_settles_52 ?_
      -- at 53: .iastore
      rw [shl1 (by omega), andnot, ← hk]
      refine v_iastN 93 dX12_settles_53 (hS3.1 _ _ rfl) rfl (by decide) ?_
      have eK2 : gI (sI M3 231 93 (nI (dif (kn (gI M 231) 93) (2 ^ kn (gI M 231) 96)))) 231 = uK (uK (gI M 231) (103 + p) (gI M 231 (103 + p) + 1)) 93 (nI (dif (kn (gI M 231) 93) (2 ^ kn (gI M 231) 96))) := by rw [gI_uK, eK1]
      have hM4 := hM3.st (q := 231) (k := 93) (nI (dif (kn (gI M 231) 93) (2 ^ kn (gI M 231) 96))) rfl
      obtain ⟨M4, eM4⟩ : ∃ M4, M4 = sI M3 231 93 (nI (dif (kn (gI M 231) 93) (2 ^ kn (gI M 231) 96))) := ⟨_, rfl⟩
      rw [← eM4] at eK2 hM4 ⊢
      have hS4 := hS.sm hM4
      refine v_aload_n dX12_settles_54 rfl ?_
      refine v_getR 12 0 _ dX12_settles_55 f12_9 (hS4.1 _ _ rfl) (by decide) (hS4.2 _ _ _ rfl) ?_
      refine v_bipush 95 dX12_settles_58 (by decide) ?_
      refine v_dup2 dX12_settles_60 rfl rfl ?_
      -- at 61: .iaload
      refine v_ialdN 95 dX12_settles_61 (hS4.1 _ _ rfl) rfl (by decide) ?_
      rw [eK2, uK_n _ _ (by omega), uK_n _ _ (by omega), hW.u.1]
      refine v_iload_n dX12_settles_62 rfl ?_
      refine v_iload_n dX12_settles_63 rfl ?_
      refine v_bipush 10 dX12_settles_64 (by decide) ?_
      refine v_ishr dX12_settles_66 ?_
      refine v_ior dX12_settles_67 ?_
      refine v_sipush 1023 dX12_settles_68 (by decide) ?_
      refine v_iand dX12_settles_71 ?_
      refine v_ior dX12_settles_72 ?_
      -- at 73: .iastore
      rw [shr10 (by omega), nIor, and1023 (Nat.lt_of_lt_of_le (Nat.or_lt_two_pow (n := 20) d2 (by omega)) (by decide)), nIor]
      refine v_iastN 95 dX12_settles_73 (hS4.1 _ _ rfl) rfl (by decide) ?_
      refine key _ (hM4.st _ rfl) ?_ _ _
      rw [gI_uK, eK2, hn2 p rfl]
/-- a told deed done: -1 a settling, a mark changed, a chest carried, the lamp -/
def doK (K : Nat → Int32) (v : Int32) : Nat → Int32 :=
  if v = -1 then setK K else if v < 2000 then uK K (9 + 6 * (v.toNatClampNeg / 100) + v.toNatClampNeg / 10 % 10) (nI (v.toNatClampNeg % 10)) else if v < 3000 then carK K (v.toNatClampNeg - 2000) else uK K 94 (1 - K 94)
/-- a told deed that can be -/
def okT9 (K : Nat → Int32) (v : Int32) : Prop := (v = -1 ∧ K 96 ≠ -1) ∨ (∃ n, v = nI n ∧ ((n < 1400 ∧ n / 100 < kn K 2 ∧ n / 10 % 10 < kn K 1) ∨ (2000 ≤ n ∧ n < 2014 ∧ n - 2000 < kn K 2) ∨ n = 3000))
theorem c12_does (hS : Sh M) (hW : WK (gI M 231)) {v : Int32} (hv : okT9 (gI M 231) v) : Ct G Y12_does 9 0 0 [.ref 230, .int v] M (Rs none (fun M' => Sm Ws M M' ∧ gI M' 231 = doK (gI M 231) v)) NX := by
  have h14 := hW.p.2.1.2
  have h6 := hW.p.1.2.2
  refine Ct.of k12_does.1 (Nat.le_of_ble_eq_true rfl) ?_
  refine v_iload_n dX12_does_0 rfl ?_
  refine v_iconst (-1) dX12_does_1 (by decide) ?_
  -- at 2: .if_icmp .ne 11
  rcases hv with ⟨rfl, hs⟩ | ⟨n, rfl, hv⟩
  · refine v_icmp_ne 13 dX12_does_2 (by decide) (fun h2 => ?_) (fun h2 => ?_)
    · exact absurd rfl h2
    · refine v_aload_n dX12_does_5 rfl ?_
      -- at 6: .invokevirtual 373
      refine v_scV [] (c12_settles G M hS hW hs) k12_settles dX12_does_6 l12_373 (hS.1 _ _ rfl) (by decide) rfl (Nat.le_of_ble_eq_true rfl) (Nat.le_of_ble_eq_true rfl) (fun M2 hM2 => ?_)
      refine v_pop dX12_does_9 rfl ?_
      refine v_goto 85 dX12_does_10 (by decide) ?_
      -- at 85: .return_
      refine v_vret dX12_does_85 rfl ⟨rfl, hM2.1, by rw [hM2.2, doK, if_pos rfl]⟩
  · have hn : n < 4000 := by omega
    have hne : ¬ nI n = -1 := fun z => absurd (show (-1 : Int32) < 0 by decide) (by rw [← z]; exact nI_pos (n := n) (by omega))
    rw [show doK (gI M 231) (nI n) = if nI n < 2000 then uK (gI M 231) (9 + 6 * (n / 100) + n / 10 % 10) (nI (n % 10)) else if nI n < 3000 then carK (gI M 231) (n - 2000) else uK (gI M 231) 94 (1 - gI M 231 94) by rw [doK, if_neg hne, nI_clamp (by omega)]]
    refine v_icmp_ne 13 dX12_does_2 (by decide) (fun h2 => ?_) (fun h2 => ?_)
    · refine v_iload_n dX12_does_13 rfl ?_
      refine v_sipush 2000 dX12_does_14 (by decide) ?_
      -- at 17: .if_icmp .ge 33
      refine v_icmp_ge 50 dX12_does_17 (by decide) (fun h17 => ?_) (fun h17 => ?_)
      · have h17' : 2000 ≤ n := (nI_leI (a := 2000) (by omega) (by omega)).mp h17
        rw [if_neg (Int32.not_lt.mpr h17)]
        refine v_iload_n dX12_does_50 rfl ?_
        refine v_sipush 3000 dX12_does_51 (by decide) ?_
        -- at 54: .if_icmp .ge 15
        refine v_icmp_ge 69 dX12_does_54 (by decide) (fun h54 => ?_) (fun h54 => ?_)
        · have h54' : 3000 ≤ n := (nI_leI (a := 3000) (by omega) (by omega)).mp h54
          rw [if_neg (Int32.not_lt.mpr h54)]
          refine v_aload_n dX12_does_69 rfl ?_
          refine v_getR 12 0 _ dX12_does_70 f12_9 (by first | exact hS.1 _ _ rfl | exact hS'.1 _ _ rfl | assumption) (by decide) (by first | exact hS.2 _ _ _ rfl | exact hS'.2 _ _ _ rfl | assumption) ?_
          refine v_bipush 94 dX12_does_73 (by decide) ?_
          refine v_iconst 1 dX12_does_75 (by decide) ?_
          refine v_aload_n dX12_does_76 rfl ?_
          refine v_getR 12 0 _ dX12_does_77 f12_9 (by first | exact hS.1 _ _ rfl | exact hS'.1 _ _ rfl | assumption) (by decide) (by first | exact hS.2 _ _ _ rfl | exact hS'.2 _ _ _ rfl | assumption) ?_
          refine v_bipush 94 dX12_does_80 (by decide) ?_
          refine v_ialdN 94 dX12_does_82 (by first | exact hS.1 _ _ rfl | exact hS'.1 _ _ rfl | assumption) rfl (by decide) ?_
          refine v_isub dX12_does_83 ?_
          -- at 84: .iastore
          refine v_iastN 94 dX12_does_84 (hS.1 _ _ rfl) rfl (by decide) ?_
          refine v_vret dX12_does_85 rfl ⟨rfl, Sm.rf.st _ rfl, gI_uK _ _ _ _⟩
        · have h54' : n < 3000 := (nI_ltI (b := 3000) (by omega) (by omega)).mp (Int32.not_le.mp h54)
          rw [if_pos (Int32.not_le.mp h54)]
          refine v_aload_n dX12_does_57 rfl ?_
          refine v_iload_n dX12_does_58 rfl ?_
          refine v_sipush 2000 dX12_does_59 (by decide) ?_
          refine v_isub dX12_does_62 ?_
          -- at 63: .invokevirtual 376
          rw [show nI n - 2000 = nI (n - 2000) from pk_sub (b := 2000) h17']
          refine v_scVv [_] (c12_carries G M hS hW (c := n - 2000) (by omega)) k12_carries dX12_does_63 l12_376 (hS.1 _ _ rfl) (by decide) rfl (Nat.le_of_ble_eq_true rfl) (Nat.le_of_ble_eq_true rfl) (fun M2 hM2 => ?_)
          refine v_goto 85 dX12_does_66 (by decide) ?_
          -- at 85: .return_
          refine v_vret dX12_does_85 rfl ⟨rfl, hM2.1.s2, hM2.2⟩
      · have h17' : n < 2000 := (nI_ltI (b := 2000) (by omega) (by omega)).mp (Int32.not_le.mp h17)
        rw [if_pos (Int32.not_le.mp h17)]
        refine v_aload_n dX12_does_20 rfl ?_
        refine v_getR 12 0 _ dX12_does_21 f12_9 (by first | exact hS.1 _ _ rfl | exact hS'.1 _ _ rfl | assumption) (by decide) (by first | exact hS.2 _ _ _ rfl | exact hS'.2 _ _ _ rfl | assumption) ?_
        refine v_bipush 9 dX12_does_24 (by decide) ?_
        refine v_bipush 6 dX12_does_26 (by decide) ?_
        refine v_iload_n dX12_does_28 rfl ?_
        refine v_bipush 100 dX12_does_29 (by decide) ?_
        -- at 31: .idiv
        refine v_idiv dX12_does_31 (by decide) ?_
        rw [show nI n / 100 = nI (n / 100) from pk_div (d := 100) (by omega) (by omega) (by omega)]
        refine v_imul dX12_does_32 ?_
        refine v_iadd dX12_does_33 ?_
        refine v_iload_n dX12_does_34 rfl ?_
        refine v_bipush 10 dX12_does_35 (by decide) ?_
        -- at 37: .idiv
        refine v_idiv dX12_does_37 (by decide) ?_
        rw [show nI n / 10 = nI (n / 10) from pk_div (d := 10) (by omega) (by omega) (by omega)]
        refine v_bipush 10 dX12_does_38 (by decide) ?_
        -- at 40: .irem
        refine v_irem dX12_does_40 (by decide) ?_
        rw [show nI (n / 10) - nI (n / 10) / 10 * 10 = nI (n / 10 % 10) from pk_rem (d := 10) (by omega) (by omega) (by omega)]
        refine v_iadd dX12_does_41 ?_
        refine v_iload_n dX12_does_42 rfl ?_
        refine v_bipush 10 dX12_does_43 (by decide) ?_
        -- at 45: .irem
        refine v_irem dX12_does_45 (by decide) ?_
        rw [show nI n - nI n / 10 * 10 = nI (n % 10) from pk_rem (d := 10) (by omega) (by omega) (by omega)]
        refine v_iastN (9 + 6 * (n / 100) + n / 10 % 10) dX12_does_46 (hS.1 _ _ rfl) (by simp only [n_lit, pk_mul, nI_add]) ⟨by omega, by omega⟩ ?_
        refine v_goto 85 dX12_does_47 (by decide) ?_
        -- at 85: .return_
        refine v_vret dX12_does_85 rfl ⟨rfl, Sm.rf.st _ rfl, gI_uK _ _ _ _⟩
    · exact absurd hne h2
end RG
