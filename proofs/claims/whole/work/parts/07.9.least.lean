/-! ===== the reference: descriptions, the least ===== -/
def isDN (nw D : Nat) : Bool := decide (D < 1048576 ∧ (D % 1024) &&& (D / 1024) = 0 ∧ ((D % 1024) ||| (D / 1024)) < 2 ^ nw)
def isDI (nw : Nat) (d : Int32) : Bool := decide (¬ d < 0) && isDN nw d.toNatClampNeg
theorem dif_low {x n : Nat} : dif x (2 ^ n - 1) = 0 ↔ x < 2 ^ n := by
  constructor
  · intro h
    apply Nat.lt_pow_two_of_testBit
    intro i hi
    have := congrArg (fun z => z.testBit i) h
    simp only [dif_bit, Nat.testBit_two_pow_sub_one, Nat.zero_testBit] at this
    have h2 : decide (i < n) = false := decide_eq_false (by omega)
    rw [h2] at this
    simpa using this
  · intro h
    apply Nat.eq_of_testBit_eq
    intro i
    rw [dif_bit, Nat.testBit_two_pow_sub_one, Nat.zero_testBit]
    by_cases hi : i < n
    · simp [hi]
    · rw [testBit_big h (by omega)]; rfl
/-- sets 0, 1 .. : the least by cost, then by number, of those that are ok -/
def mnF (ok : Nat → Bool) (cs ds : Nat → Nat) : Nat → Option (Nat × Nat)
  | 0 => none
  | s + 1 => if ok s = true then (match mnF ok cs ds s with
      | none => some (cs s, ds s)
      | some (c, d) => if cs s < c ∨ (cs s = c ∧ ds s < d) then some (cs s, ds s) else some (c, d)) else mnF ok cs ds s
def encD (o : Option (Nat × Nat)) : Int32 := match o with
  | none => -1
  | some (_, d) => nI d
def encC (o : Option (Nat × Nat)) : Int32 := match o with
  | none => 536870912
  | some (c, _) => nI c
theorem mnF_b {ok : Nat → Bool} {cs ds : Nat → Nat} (hc : ∀ s, cs s ≤ 190) (hd : ∀ s, s < 1024 → ds s < 1048576) : ∀ n c d, n ≤ 1024 → mnF ok cs ds n = some (c, d) → c ≤ 190 ∧ d < 1048576 := by
  intro n
  induction n with
  | zero => intro c d _ h; simp [mnF] at h
  | succ n ih =>
    intro c d hn h
    simp only [mnF] at h
    split at h
    · split at h
      · cases h; exact ⟨hc _, hd _ (by omega)⟩
      · rename_i c0 d0 h0
        split at h
        · cases h; exact ⟨hc _, hd _ (by omega)⟩
        · cases h; exact ih _ _ (by omega) h0
    · exact ih _ _ (by omega) h
/-- the description of chest c by a set of words -/
def dsc (K : Nat → Int32) (c s : Nat) : Nat := (s &&& trH K c) ||| dif s (trH K c) * 1024
theorem dsc_lt (K : Nat → Int32) (c : Nat) {s : Nat} (hs : s < 1024) : dsc K c s < 1048576 := by
  have h1 := dif_le s (trH K c) (n := 10) hs
  have h2 : s &&& trH K c < 1024 := Nat.lt_of_le_of_lt Nat.and_le_left hs
  exact Nat.or_lt_two_pow (n := 20) (by omega) (by omega)
/-- whether it tells chest c by words h -/
def telB (K : Nat → Int32) (h : Nat → Nat) (c d : Nat) : Bool := decide (fitN (kn K 2) (kn K 93) h d = 2 ^ c)
def okL (K : Nat → Int32) (c sm : Nat) (sure : Bool) (s : Nat) : Bool := decide (dif s sm = 0) && (if sure then telB K (trN K false) c (dsc K c s) && telB K (trN K true) c (dsc K c s) else telB K (trH K) c (dsc K c s))
def lstN (K : Nat → Int32) (c sm : Nat) (sure : Bool) : Option (Nat × Nat) := mnF (okL K c sm sure) (fun s => costN K (dsc K c s)) (dsc K c) (sm + 1)
section R9
variable (G : mG) (M : mM)
theorem c12_isDescription (hS : Sh M) (hP : WP (gI M 231)) (d : Int32) : Ct G Y12_isDescription 2 0 0 [.ref 230, .int d] M (Rv (some (.int (bI (isDI (kn (gI M 231) 3) d = true)))) M) NX := by
  have h10 := hP.2.2.1.2
  have hp : 2 ^ kn (gI M 231) 3 ≤ 1024 := show 2 ^ kn (gI M 231) 3 ≤ 2 ^ 10 from Nat.pow_le_pow_right (by omega) h10
  refine Ct.of k12_isDescription.1 (Nat.le_of_ble_eq_true rfl) ?_
  refine v_iload_n dX12_isDescription_0 rfl ?_
  refine v_sipush 1023 dX12_isDescription_1 (by decide) ?_
  refine v_iand dX12_isDescription_4 ?_
  refine v_istore_n dX12_isDescription_5 rfl (by decide) ?_
  refine v_iload_n dX12_isDescription_6 rfl ?_
  refine v_bipush 10 dX12_isDescription_7 (by decide) ?_
  refine v_ishr dX12_isDescription_9 ?_
  refine v_istore_n dX12_isDescription_10 rfl (by decide) ?_
  refine v_iload_n dX12_isDescription_11 rfl ?_
  -- at 12: .ifCond .lt 33
  refine v_if_lt 45 dX12_isDescription_12 (by decide) (fun h12 => ?_) (fun h12 => ?_)
  · refine v_iconst 0 dX12_isDescription_45 (by decide) ?_
    -- at 46: .ireturn
    refine v_zret dX12_isDescription_46 rfl (by first | rfl | exact bI_nb _ | assumption) ⟨by rw [bI_f (by simp [isDI, h12])], rfl⟩
  · obtain ⟨D, hD, rfl⟩ := nI_of h12
    rw [and1023 (by omega), shr10 hD]
    have hD2 : isDI (kn (gI M 231) 3) (nI D) = isDN (kn (gI M 231) 3) D := by rw [isDI, decide_eq_true h12, nI_clamp hD, Bool.true_and]
    rw [hD2]
    have ha : (D % 1024) &&& (D / 1024) < 2 ^ 31 := Nat.lt_of_le_of_lt Nat.and_le_left (by omega)
    refine v_iload_n dX12_isDescription_15 rfl ?_
    refine v_sipush 1024 dX12_isDescription_16 (by decide) ?_
    -- at 19: .if_icmp .ge 26
    refine v_icmp_ge 45 dX12_isDescription_19 (by decide) (fun h19 => ?_) (fun h19 => ?_)
    · have : 1024 ≤ D / 1024 := (nI_leI (a := 1024) (by omega) (by omega)).mp h19
      refine v_iconst 0 dX12_isDescription_45 (by decide) ?_
      -- at 46: .ireturn
      refine v_zret dX12_isDescription_46 rfl (by first | rfl | exact bI_nb _ | assumption) ⟨by rw [bI_f (by simp only [isDN, decide_eq_true_eq]; omega)], rfl⟩
    · have h19' : D / 1024 < 1024 := (nI_ltI (b := 1024) (by omega) (by omega)).mp (Int32.not_le.mp h19)
      have ho : (D % 1024) ||| (D / 1024) < 2 ^ 10 := Nat.or_lt_two_pow (by omega) (by omega)
      refine v_iload_n dX12_isDescription_22 rfl ?_
      refine v_iload_n dX12_isDescription_23 rfl ?_
      refine v_iand dX12_isDescription_24 ?_
      -- at 25: .ifCond .ne 20
      rw [nIand]
      refine v_if_ne 45 dX12_isDescription_25 (by decide) (fun h25 => ?_) (fun h25 => ?_)
      · refine v_iconst 0 dX12_isDescription_45 (by decide) ?_
        -- at 46: .ireturn
        refine v_zret dX12_isDescription_46 rfl (by first | rfl | exact bI_nb _ | assumption) ⟨by rw [bI_f (by simp only [isDN, decide_eq_true_eq]; exact fun z => h25 ((nI0 ha).mpr z.2.1))], rfl⟩
      · refine v_iload_n dX12_isDescription_28 rfl ?_
        refine v_iload_n dX12_isDescription_29 rfl ?_
        refine v_ior dX12_isDescription_30 ?_
        refine v_aload_n dX12_isDescription_31 rfl ?_
        -- at 32: .invokevirtual 320
        refine v_cV [] (c12_allWords G M hS hP) k12_allWords dX12_isDescription_32 l12_320 (by first | exact hS.1 _ _ rfl | exact hS'.1 _ _ rfl | assumption) (by decide) rfl (Nat.le_of_ble_eq_true rfl) (Nat.le_of_ble_eq_true rfl) ?_
        refine v_iconst (-1) dX12_isDescription_35 (by decide) ?_
        refine v_ixor dX12_isDescription_36 ?_
        refine v_iand dX12_isDescription_37 ?_
        -- at 38: .ifCond .ne 7
        rw [nIor, andnot]
        refine v_if_ne 45 dX12_isDescription_38 (by decide) (fun h38 => ?_) (fun h38 => ?_)
        · refine v_iconst 0 dX12_isDescription_45 (by decide) ?_
          -- at 46: .ireturn
          refine v_zret dX12_isDescription_46 rfl (by first | rfl | exact bI_nb _ | assumption) ⟨by rw [bI_f (by simp only [isDN, decide_eq_true_eq]; exact fun z => h38 ((nI0 (Nat.lt_of_lt_of_le (dif_le _ _ ho) (by decide))).mpr (dif_low.mpr z.2.2)))], rfl⟩
        · refine v_iconst 1 dX12_isDescription_41 (by decide) ?_
          refine v_goto 46 dX12_isDescription_42 (by decide) ?_
          -- at 46: .ireturn
          refine v_zret dX12_isDescription_46 rfl (by first | rfl | exact bI_nb _ | assumption) ⟨by rw [bI_t (by simp only [isDN, decide_eq_true_eq]; exact ⟨by omega, (nI0 ha).mp (Decidable.not_not.mp h25), dif_low.mp ((nI0 (Nat.lt_of_lt_of_le (dif_le _ _ ho) (by decide))).mp (Decidable.not_not.mp h38))⟩)], rfl⟩
theorem two_pow_lt {c : Nat} (h : c < 14) : 2 ^ c < 16384 := show 2 ^ c < 2 ^ 14 from Nat.pow_lt_pow_right (by omega) h
theorem l12_leastOf (hS : Sh M) (hP : WP (gI M 231)) (hI : inOK (gI M 231)) (hU : usOK (gI M 231)) (hH : HH M (gI M 231)) {c sm : Nat} (hc : c < kn (gI M 231) 2) (hsm : sm < 1024) (sure : Bool) :
    ∀ i s (o7 o8 o9 : Option Value), isL o7 = false → isL o8 = false → s + i = sm + 1 → V G Y12_leastOf 3 0 0 (Rv (some (.int (encD (lstN (gI M 231) c sm sure)))) M) NX 11 [some (.ref 230), some (.int (nI c)), some (.int (nI sm)), some (.int (bI (sure = true))), some (.int (encD (mnF (okL (gI M 231) c sm sure) (fun s => costN (gI M 231) (dsc (gI M 231) c s)) (dsc (gI M 231) c) s))), some (.int (encC (mnF (okL (gI M 231) c sm sure) (fun s => costN (gI M 231) (dsc (gI M 231) c s)) (dsc (gI M 231) c) s))), some (.int (nI s)), o7, o8, o9] [] M := by
  have h14 := hP.2.1.2
  intro i
  induction i with
  | zero =>
    intro s o7 o8 o9 _ _ hs
    obtain rfl : s = sm + 1 := by omega
    refine v_iload dX12_leastOf_11 rfl ?_
    refine v_iload_n dX12_leastOf_13 rfl ?_
    -- at 14: .if_icmp .gt 145
    refine v_icmp_gt 159 dX12_leastOf_14 (by decide) (fun hc2 => ?_) (fun hc2 => ?_)
    · refine v_iload dX12_leastOf_159 rfl ?_
      -- at 161: .ireturn
      refine v_iret dX12_leastOf_161 rfl ⟨rfl, rfl⟩
    · exact absurd (nI_lt (Nat.lt_succ_self _) (by omega)) hc2
  | succ i ih =>
    intro s o7 o8 o9 ho7 ho8 hs
    have hn := fun o7 o8 o9 h7 h8 => ih (s + 1) o7 o8 o9 h7 h8 (by omega)
    simp only [mnF] at hn
    have hd := dsc_lt (gI M 231) c (s := s) (by omega)
    have hb := mnF_b (ok := okL (gI M 231) c sm sure) (cs := fun s => costN (gI M 231) (dsc (gI M 231) c s)) (ds := dsc (gI M 231) c) (fun s => costN_le hP _) (fun s h => dsc_lt _ _ h) s
    have hcn := costN_le hP (dsc (gI M 231) c s)
    generalize mnF (okL (gI M 231) c sm sure) (fun s => costN (gI M 231) (dsc (gI M 231) c s)) (dsc (gI M 231) c) s = o at hn hb ⊢
    have hp := two_pow_lt (c := c) (by omega)
    refine v_iload dX12_leastOf_11 rfl ?_
    refine v_iload_n dX12_leastOf_13 rfl ?_
    -- at 14: .if_icmp .gt 145
    refine v_icmp_gt 159 dX12_leastOf_14 (by decide) (fun hc2 => ?_) (fun hc2 => ?_)
    · exact absurd ((nI_ltI (by omega) (by omega)).mp hc2) (by omega)
    have skip : ∀ o7 o8 o9, isL o7 = false → isL o8 = false → ¬ okL (gI M 231) c sm sure s = true → V G Y12_leastOf 3 0 0 (Rv (some (.int (encD (lstN (gI M 231) c sm sure)))) M) NX 153 [some (.ref 230), some (.int (nI c)), some (.int (nI sm)), some (.int (bI (sure = true))), some (.int (encD o)), some (.int (encC o)), some (.int (nI s)), o7, o8, o9] [] M := by
      intro o7 o8 o9 h7 h8 hno
      refine v_iinc 1 dX12_leastOf_153 rfl (by decide) rfl (by decide) ?_
      refine v_goto 11 dX12_leastOf_156 (by decide) ?_
      -- at 11: .iload 6
      rw [nI_1]
      have := hn o7 o8 o9 h7 h8
      rw [if_neg hno] at this
      exact this
    refine v_iload dX12_leastOf_17 rfl ?_
    refine v_iload_n dX12_leastOf_19 rfl ?_
    refine v_iconst (-1) dX12_leastOf_20 (by decide) ?_
    refine v_ixor dX12_leastOf_21 ?_
    refine v_iand dX12_leastOf_22 ?_
    -- at 23: .ifCond .eq 6
    rw [andnot]
    refine v_if_eq 29 dX12_leastOf_23 (by decide) (fun h23 => ?_) (fun h23 => ?_)
    · have h23' : dif s sm = 0 := (nI0 (Nat.lt_of_lt_of_le (dif_le _ _ (n := 10) (show s < 1024 by omega)) (by decide))).mp h23
      refine v_aload_n dX12_leastOf_29 rfl ?_
      refine v_iload_n dX12_leastOf_30 rfl ?_
      refine v_iload dX12_leastOf_31 rfl ?_
      -- at 33: .invokevirtual 343
      refine v_cV [_, _] (c12_described G M hS hP hH hc (by omega)) k12_described dX12_leastOf_33 l12_343 (by first | exact hS.1 _ _ rfl | exact hS'.1 _ _ rfl | assumption) (by decide) rfl (Nat.le_of_ble_eq_true rfl) (Nat.le_of_ble_eq_true rfl) ?_
      rw [show ((s &&& trH (gI M 231) c) ||| dif s (trH (gI M 231) c) * 1024) = dsc (gI M 231) c s from rfl]
      have tail : okL (gI M 231) c sm sure s = true → V G Y12_leastOf 3 0 0 (Rv (some (.int (encD (lstN (gI M 231) c sm sure)))) M) NX 113 [some (.ref 230), some (.int (nI c)), some (.int (nI sm)), some (.int (bI (sure = true))), some (.int (encD o)), some (.int (encC o)), some (.int (nI s)), some (.int (nI (dsc (gI M 231) c s))), some (.int 1), o9] [] M := by
        intro hok
        refine v_aload_n dX12_leastOf_113 rfl ?_
        refine v_iload dX12_leastOf_114 rfl ?_
        -- at 116: .invokevirtual 339
        refine v_cV [_] (c12_costOf G M hS hP hU hd) k12_costOf dX12_leastOf_116 l12_339 (by first | exact hS.1 _ _ rfl | exact hS'.1 _ _ rfl | assumption) (by decide) rfl (Nat.le_of_ble_eq_true rfl) (Nat.le_of_ble_eq_true rfl) ?_
        refine v_istore dX12_leastOf_119 rfl (by decide) ?_
        refine v_iload dX12_leastOf_121 rfl ?_
        refine v_iload dX12_leastOf_123 rfl ?_
        -- at 125: .if_icmp .gt 28
        have hn2 := hn (some (.int (nI (dsc (gI M 231) c s)))) (some (.int 1)) (some (.int (nI (costN (gI M 231) (dsc (gI M 231) c s))))) rfl rfl
        rw [if_pos hok] at hn2
        cases o with
        | none =>
          simp only [encC, encD] at hn2 ⊢
          refine v_icmp_gt 153 dX12_leastOf_125 (by decide) (fun h125 => ?_) (fun h125 => ?_)
          · exact absurd ((nI_ltI (a := 536870912) (by omega) (by omega)).mp h125) (by omega)
          · refine v_iload dX12_leastOf_128 rfl ?_
            refine v_iload dX12_leastOf_130 rfl ?_
            -- at 132: .if_icmp .ne 13
            refine v_icmp_ne 145 dX12_leastOf_132 (by decide) (fun h132 => ?_) (fun h132 => ?_)
            · refine v_iload dX12_leastOf_145 rfl ?_
              refine v_istore dX12_leastOf_147 rfl (by decide) ?_
              refine v_iload dX12_leastOf_149 rfl ?_
              refine v_istore dX12_leastOf_151 rfl (by decide) ?_
              refine v_iinc 1 dX12_leastOf_153 rfl (by decide) rfl (by decide) ?_
              refine v_goto 11 dX12_leastOf_156 (by decide) ?_
              -- at 11: .iload 6
              rw [nI_1]
              exact hn2
            · exact absurd ((nI_eq (b := 536870912) (by omega) (by omega)).mp (Decidable.not_not.mp h132)) (by omega)
        | some p =>
          obtain ⟨c0, d0⟩ := p
          have hb2 := hb c0 d0 (by omega) rfl
          simp only [encC, encD] at hn2 ⊢
          refine v_icmp_gt 153 dX12_leastOf_125 (by decide) (fun h125 => ?_) (fun h125 => ?_)
          · have h125' := (nI_ltI (by omega) (by omega)).mp h125
            refine v_iinc 1 dX12_leastOf_153 rfl (by decide) rfl (by decide) ?_
            refine v_goto 11 dX12_leastOf_156 (by decide) ?_
            -- at 11: .iload 6
            rw [nI_1]
            rw [if_neg (by omega)] at hn2
            exact hn2
          · have h125' : costN (gI M 231) (dsc (gI M 231) c s) ≤ c0 := (nI_leI (by omega) (by omega)).mp (Int32.not_lt.mp h125)
            refine v_iload dX12_leastOf_128 rfl ?_
            refine v_iload dX12_leastOf_130 rfl ?_
            -- at 132: .if_icmp .ne 13
            refine v_icmp_ne 145 dX12_leastOf_132 (by decide) (fun h132 => ?_) (fun h132 => ?_)
            · have h132' : costN (gI M 231) (dsc (gI M 231) c s) ≠ c0 := fun z => h132 (by rw [z])
              refine v_iload dX12_leastOf_145 rfl ?_
              refine v_istore dX12_leastOf_147 rfl (by decide) ?_
              refine v_iload dX12_leastOf_149 rfl ?_
              refine v_istore dX12_leastOf_151 rfl (by decide) ?_
              refine v_iinc 1 dX12_leastOf_153 rfl (by decide) rfl (by decide) ?_
              refine v_goto 11 dX12_leastOf_156 (by decide) ?_
              -- at 11: .iload 6
              rw [nI_1]
              rw [if_pos (by omega)] at hn2
              exact hn2
            · have h132' : costN (gI M 231) (dsc (gI M 231) c s) = c0 := (nI_eq (by omega) (by omega)).mp (Decidable.not_not.mp h132)
              refine v_iload dX12_leastOf_135 rfl ?_
              refine v_iload dX12_leastOf_137 rfl ?_
              -- at 139: .if_icmp .lt 6
              refine v_icmp_lt 145 dX12_leastOf_139 (by decide) (fun h139 => ?_) (fun h139 => ?_)
              · have h139' := (nI_ltI (by omega) (by omega)).mp h139
                refine v_iload dX12_leastOf_145 rfl ?_
                refine v_istore dX12_leastOf_147 rfl (by decide) ?_
                refine v_iload dX12_leastOf_149 rfl ?_
                refine v_istore dX12_leastOf_151 rfl (by decide) ?_
                refine v_iinc 1 dX12_leastOf_153 rfl (by decide) rfl (by decide) ?_
                refine v_goto 11 dX12_leastOf_156 (by decide) ?_
                -- at 11: .iload 6
                rw [nI_1]
                rw [if_pos (by omega)] at hn2
                exact hn2
              · have h139' : d0 ≤ dsc (gI M 231) c s := (nI_leI (by omega) (by omega)).mp (Int32.not_lt.mp h139)
                refine v_goto 153 dX12_leastOf_142 (by decide) ?_
                refine v_iinc 1 dX12_leastOf_153 rfl (by decide) rfl (by decide) ?_
                refine v_goto 11 dX12_leastOf_156 (by decide) ?_
                -- at 11: .iload 6
                rw [nI_1]
                rw [if_neg (by omega)] at hn2
                exact hn2
      have fl : ∀ v, (v = bI (okL (gI M 231) c sm sure s = true)) → V G Y12_leastOf 3 0 0 (Rv (some (.int (encD (lstN (gI M 231) c sm sure)))) M) NX 103 [some (.ref 230), some (.int (nI c)), some (.int (nI sm)), some (.int (bI (sure = true))), some (.int (encD o)), some (.int (encC o)), some (.int (nI s)), some (.int (nI (dsc (gI M 231) c s))), o8, o9] [.int v] M := by
        intro v hv
        subst hv
        refine v_istore dX12_leastOf_103 rfl (by decide) ?_
        refine v_iload dX12_leastOf_105 rfl ?_
        -- at 107: .ifCond .ne 6
        by_cases hok : okL (gI M 231) c sm sure s = true
        · rw [bI_t hok]
          refine v_if_ne 113 dX12_leastOf_107 (by decide) (fun h107 => ?_) (fun h107 => ?_)
          · exact tail hok
          · exact absurd (by decide) h107
        · rw [bI_f hok]
          refine v_if_ne 113 dX12_leastOf_107 (by decide) (fun h107 => ?_) (fun h107 => ?_)
          · exact absurd rfl h107
          · refine v_goto 153 dX12_leastOf_110 (by decide) ?_
            -- at 153: .iinc 6 1
            exact skip _ _ _ rfl rfl hok
      refine v_istore dX12_leastOf_36 rfl (by decide) ?_
      refine v_iload_n dX12_leastOf_38 rfl ?_
      -- at 39: .ifCond .eq 43
      cases sure with
      | false =>
        refine v_if_eq 82 dX12_leastOf_39 (by decide) (fun h39 => ?_) (fun h39 => ?_)
        · refine v_aload_n dX12_leastOf_82 rfl ?_
          refine v_iload dX12_leastOf_83 rfl ?_
          refine v_aload_n dX12_leastOf_85 rfl ?_
          refine v_getR 12 20 _ dX12_leastOf_86 f12_36 (by first | exact hS.1 _ _ rfl | exact hS'.1 _ _ rfl | assumption) (by decide) (by first | exact hS.2 _ _ _ rfl | exact hS'.2 _ _ _ rfl | assumption) ?_
          -- at 89: .invokevirtual 326
          refine v_cV [_, _] (c12_fitsOf G M hS hP hI (hS.1 238 _ rfl) (hH.hold hP) hd) k12_fitsOf dX12_leastOf_89 l12_326 (by first | exact hS.1 _ _ rfl | exact hS'.1 _ _ rfl | assumption) (by decide) rfl (Nat.le_of_ble_eq_true rfl) (Nat.le_of_ble_eq_true rfl) ?_
          refine v_iconst 1 dX12_leastOf_92 (by decide) ?_
          refine v_iload_n dX12_leastOf_93 rfl ?_
          refine v_ishl dX12_leastOf_94 ?_
          -- at 95: .if_icmp .ne 7
          rw [shl1 (by omega)]
          have hF := fitN_lt (I := kn (gI M 231) 93) hP.2.1.2 (trH (gI M 231)) (dsc (gI M 231) c s)
          refine v_icmp_ne 102 dX12_leastOf_95 (by decide) (fun h95 => ?_) (fun h95 => ?_)
          · refine v_iconst 0 dX12_leastOf_102 (by decide) ?_
            -- at 103: .istore 8
            refine fl 0 (by rw [bI_f]; simp only [okL, telB, Bool.false_eq_true, if_false, Bool.and_eq_true, decide_eq_true_eq]; exact fun z => h95 (by rw [z.2]))
          · refine v_iconst 1 dX12_leastOf_98 (by decide) ?_
            refine v_goto 103 dX12_leastOf_99 (by decide) ?_
            -- at 103: .istore 8
            refine fl 1 (by rw [bI_t]; simp only [okL, telB, Bool.false_eq_true, if_false, Bool.and_eq_true, decide_eq_true_eq]; exact ⟨h23', (nI_eq (by omega) (by omega)).mp (Decidable.not_not.mp h95)⟩)
        · exact absurd rfl h39
      | true =>
        refine v_if_eq 82 dX12_leastOf_39 (by decide) (fun h39 => ?_) (fun h39 => ?_)
        · exact absurd h39 (by decide)
        · refine v_aload_n dX12_leastOf_42 rfl ?_
          refine v_iload dX12_leastOf_43 rfl ?_
          refine v_aload_n dX12_leastOf_45 rfl ?_
          refine v_getR 12 21 _ dX12_leastOf_46 f12_39 (by first | exact hS.1 _ _ rfl | exact hS'.1 _ _ rfl | assumption) (by decide) (by first | exact hS.2 _ _ _ rfl | exact hS'.2 _ _ _ rfl | assumption) ?_
          -- at 49: .invokevirtual 326
          refine v_cV [_, _] (c12_fitsOf G M hS hP hI (hS.1 239 _ rfl) (fun c hc => ⟨(hH c hc).1, trN_lt hP _ _⟩) hd) k12_fitsOf dX12_leastOf_49 l12_326 (by first | exact hS.1 _ _ rfl | exact hS'.1 _ _ rfl | assumption) (by decide) rfl (Nat.le_of_ble_eq_true rfl) (Nat.le_of_ble_eq_true rfl) ?_
          refine v_iconst 1 dX12_leastOf_52 (by decide) ?_
          refine v_iload_n dX12_leastOf_53 rfl ?_
          refine v_ishl dX12_leastOf_54 ?_
          -- at 55: .if_icmp .ne 23
          rw [shl1 (by omega)]
          have hF := fitN_lt (I := kn (gI M 231) 93) hP.2.1.2 (trN (gI M 231) false) (dsc (gI M 231) c s)
          refine v_icmp_ne 78 dX12_leastOf_55 (by decide) (fun h55 => ?_) (fun h55 => ?_)
          · refine v_iconst 0 dX12_leastOf_78 (by decide) ?_
            refine v_goto 103 dX12_leastOf_79 (by decide) ?_
            -- at 103: .istore 8
            refine fl 0 (by rw [bI_f]; simp only [okL, telB, Bool.and_eq_true, decide_eq_true_eq, if_true]; exact fun z => h55 (by rw [z.2.1]))
          · refine v_aload_n dX12_leastOf_58 rfl ?_
            refine v_iload dX12_leastOf_59 rfl ?_
            refine v_aload_n dX12_leastOf_61 rfl ?_
            refine v_getR 12 22 _ dX12_leastOf_62 f12_42 (by first | exact hS.1 _ _ rfl | exact hS'.1 _ _ rfl | assumption) (by decide) (by first | exact hS.2 _ _ _ rfl | exact hS'.2 _ _ _ rfl | assumption) ?_
            -- at 65: .invokevirtual 326
            refine v_cV [_, _] (c12_fitsOf G M hS hP hI (hS.1 240 _ rfl) (fun c hc => ⟨(hH c hc).2.1, trN_lt hP _ _⟩) hd) k12_fitsOf dX12_leastOf_65 l12_326 (by first | exact hS.1 _ _ rfl | exact hS'.1 _ _ rfl | assumption) (by decide) rfl (Nat.le_of_ble_eq_true rfl) (Nat.le_of_ble_eq_true rfl) ?_
            refine v_iconst 1 dX12_leastOf_68 (by decide) ?_
            refine v_iload_n dX12_leastOf_69 rfl ?_
            refine v_ishl dX12_leastOf_70 ?_
            -- at 71: .if_icmp .ne 7
            rw [shl1 (by omega)]
            have hF2 := fitN_lt (I := kn (gI M 231) 93) hP.2.1.2 (trN (gI M 231) true) (dsc (gI M 231) c s)
            refine v_icmp_ne 78 dX12_leastOf_71 (by decide) (fun h71 => ?_) (fun h71 => ?_)
            · refine v_iconst 0 dX12_leastOf_78 (by decide) ?_
              refine v_goto 103 dX12_leastOf_79 (by decide) ?_
              -- at 103: .istore 8
              refine fl 0 (by rw [bI_f]; simp only [okL, telB, Bool.and_eq_true, decide_eq_true_eq, if_true]; exact fun z => h71 (by rw [z.2.2]))
            · refine v_iconst 1 dX12_leastOf_74 (by decide) ?_
              refine v_goto 103 dX12_leastOf_75 (by decide) ?_
              -- at 103: .istore 8
              refine fl 1 (by rw [bI_t]; simp only [okL, telB, Bool.and_eq_true, decide_eq_true_eq, if_true]; exact ⟨h23', (nI_eq (by omega) (by omega)).mp (Decidable.not_not.mp h55), (nI_eq (by omega) (by omega)).mp (Decidable.not_not.mp h71)⟩)
    · refine v_goto 153 dX12_leastOf_26 (by decide) ?_
      -- at 153: .iinc 6 1
      refine skip _ _ _ ho7 ho8 ?_
      simp only [okL, Bool.and_eq_true, decide_eq_true_eq]
      exact fun z => h23 (by rw [z.1]; rfl)
theorem c12_leastOf (hS : Sh M) (hP : WP (gI M 231)) (hI : inOK (gI M 231)) (hU : usOK (gI M 231)) (hH : HH M (gI M 231)) {c sm : Nat} (hc : c < kn (gI M 231) 2) (hsm : sm < 1024) (sure : Bool) : Ct G Y12_leastOf 3 0 0 [.ref 230, .int (nI c), .int (nI sm), .int (bI (sure = true))] M (Rv (some (.int (encD (lstN (gI M 231) c sm sure)))) M) NX := by
  refine Ct.of k12_leastOf.1 (Nat.le_of_ble_eq_true rfl) ?_
  refine v_iconst (-1) dX12_leastOf_0 (by decide) ?_
  refine v_istore dX12_leastOf_1 rfl (by decide) ?_
  refine v_ldcw 536870912 dX12_leastOf_3 K12_342 ?_
  refine v_istore dX12_leastOf_6 rfl (by decide) ?_
  refine v_iconst 0 dX12_leastOf_8 (by decide) ?_
  refine v_istore dX12_leastOf_9 rfl (by decide) ?_
  -- at 11: .iload 6
  refine v_pad (v_pad (v_pad ?_))
  exact l12_leastOf G M hS hP hI hU hH hc hsm sure (sm + 1) 0 none none none rfl rfl (by omega)
/-- what the least costs; -1 -/
def prcN (K : Nat → Int32) (c : Nat) : Int32 := match lstN K c (2 ^ kn K 3 - 1) false with
  | none => -1
  | some (x, _) => nI x
theorem mnF_c {ok : Nat → Bool} {cs ds : Nat → Nat} : ∀ n c d, mnF ok cs ds n = some (c, d) → ∃ s, s < n ∧ ok s = true ∧ c = cs s ∧ d = ds s := by
  intro n
  induction n with
  | zero => intro c d h; simp [mnF] at h
  | succ n ih =>
    intro c d h
    simp only [mnF] at h
    split at h
    · rename_i hok
      split at h
      · cases h; exact ⟨n, by omega, hok, rfl, rfl⟩
      · rename_i c0 d0 h0
        split at h
        · cases h; exact ⟨n, by omega, hok, rfl, rfl⟩
        · cases h; obtain ⟨s, a, b⟩ := ih _ _ h0; exact ⟨s, by omega, b⟩
    · obtain ⟨s, a, b⟩ := ih _ _ h; exact ⟨s, by omega, b⟩
theorem aw_lt {K : Nat → Int32} (hP : WP K) : 2 ^ kn K 3 - 1 < 1024 := by
  have : 2 ^ kn K 3 ≤ 2 ^ 10 := Nat.pow_le_pow_right (by omega) hP.2.2.1.2
  have := Nat.one_le_two_pow (n := kn K 3)
  omega
theorem c12_priceOf (hS : Sh M) (hP : WP (gI M 231)) (hI : inOK (gI M 231)) (hU : usOK (gI M 231)) (hH : HH M (gI M 231)) {c : Nat} (hc : c < kn (gI M 231) 2) : Ct G Y12_priceOf 4 0 0 [.ref 230, .int (nI c)] M (Rv (some (.int (prcN (gI M 231) c))) M) NX := by
  refine Ct.of k12_priceOf.1 (Nat.le_of_ble_eq_true rfl) ?_
  refine v_aload_n dX12_priceOf_0 rfl ?_
  refine v_iload_n dX12_priceOf_1 rfl ?_
  refine v_aload_n dX12_priceOf_2 rfl ?_
  -- at 3: .invokevirtual 320
  refine v_cV [] (c12_allWords G M hS hP) k12_allWords dX12_priceOf_3 l12_320 (by first | exact hS.1 _ _ rfl | exact hS'.1 _ _ rfl | assumption) (by decide) rfl (Nat.le_of_ble_eq_true rfl) (Nat.le_of_ble_eq_true rfl) ?_
  refine v_iconst 0 dX12_priceOf_6 (by decide) ?_
  -- at 7: .invokevirtual 349
  refine v_cV [_, _, _] (c12_leastOf G M hS hP hI hU hH hc (aw_lt hP) false) k12_leastOf dX12_priceOf_7 l12_349 (by first | exact hS.1 _ _ rfl | exact hS'.1 _ _ rfl | assumption) (by decide) rfl (Nat.le_of_ble_eq_true rfl) (Nat.le_of_ble_eq_true rfl) ?_
  unfold prcN
  have hc2 := mnF_c (ok := okL (gI M 231) c (2 ^ kn (gI M 231) 3 - 1) false) (cs := fun s => costN (gI M 231) (dsc (gI M 231) c s)) (ds := dsc (gI M 231) c) (2 ^ kn (gI M 231) 3 - 1 + 1)
  change ∀ c' d', lstN (gI M 231) c (2 ^ kn (gI M 231) 3 - 1) false = some (c', d') → _ at hc2
  generalize lstN (gI M 231) c (2 ^ kn (gI M 231) 3 - 1) false = o at hc2 ⊢
  cases o with
  | none =>
    simp only [encD]
    refine v_istore_n dX12_priceOf_10 rfl (by decide) ?_
    refine v_iload_n dX12_priceOf_11 rfl ?_
    refine v_iconst (-1) dX12_priceOf_12 (by decide) ?_
    -- at 13: .if_icmp .ne 7
    refine v_icmp_ne 20 dX12_priceOf_13 (by decide) (fun h13 => ?_) (fun h13 => ?_)
    · exact absurd rfl h13
    · refine v_iconst (-1) dX12_priceOf_16 (by decide) ?_
      refine v_goto 25 dX12_priceOf_17 (by decide) ?_
      -- at 25: .ireturn
      refine v_iret dX12_priceOf_25 rfl ⟨rfl, rfl⟩
  | some p =>
    obtain ⟨x, d⟩ := p
    obtain ⟨s, s1, s2, s3, s4⟩ := hc2 x d rfl
    have hd : d < 1048576 := by rw [s4]; exact dsc_lt _ _ (by have := aw_lt hP; omega)
    simp only [encD]
    refine v_istore_n dX12_priceOf_10 rfl (by decide) ?_
    refine v_iload_n dX12_priceOf_11 rfl ?_
    refine v_iconst (-1) dX12_priceOf_12 (by decide) ?_
    -- at 13: .if_icmp .ne 7
    refine v_icmp_ne 20 dX12_priceOf_13 (by decide) (fun h13 => ?_) (fun h13 => ?_)
    · refine v_aload_n dX12_priceOf_20 rfl ?_
      refine v_iload_n dX12_priceOf_21 rfl ?_
      -- at 22: .invokevirtual 339
      refine v_cV [_] (c12_costOf G M hS hP hU hd) k12_costOf dX12_priceOf_22 l12_339 (by first | exact hS.1 _ _ rfl | exact hS'.1 _ _ rfl | assumption) (by decide) rfl (Nat.le_of_ble_eq_true rfl) (Nat.le_of_ble_eq_true rfl) ?_
      refine v_iret dX12_priceOf_25 rfl ⟨by rw [s3, s4], rfl⟩
    · exact absurd (Decidable.not_not.mp h13) (fun z => absurd (show (-1 : Int32) < 0 by decide) (by rw [← z]; exact nI_pos (by omega)))
theorem l12_cheaper (hS : Sh M) (hP : WP (gI M 231)) (hI : inOK (gI M 231)) (hU : usOK (gI M 231)) (hH : HH M (gI M 231)) {c x : Nat} (hc : c < kn (gI M 231) 2) (hx : x < 2 ^ 31) :
    ∀ i s (o : Option Value), s + i = 2 ^ kn (gI M 231) 3 → V G Y12_cheaper 3 0 0 (Rv (some (.int (nI (cnt (2 ^ kn (gI M 231) 3) (fun s => telB (gI M 231) (trH (gI M 231)) c (dsc (gI M 231) c s) && decide (costN (gI M 231) (dsc (gI M 231) c s) < x)))))) M) NX 5 [some (.ref 230), some (.int (nI c)), some (.int (nI x)), some (.int (nI (cnt s (fun s => telB (gI M 231) (trH (gI M 231)) c (dsc (gI M 231) c s) && decide (costN (gI M 231) (dsc (gI M 231) c s) < x))))), some (.int (nI s)), o] [] M := by
  have h14 := hP.2.1.2
  have haw := aw_lt hP
  have h1 := Nat.one_le_two_pow (n := kn (gI M 231) 3)
  intro i
  induction i with
  | zero =>
    intro s o hs
    obtain rfl : s = 2 ^ kn (gI M 231) 3 := by omega
    refine v_iload dX12_cheaper_5 rfl ?_
    refine v_aload_n dX12_cheaper_7 rfl ?_
    -- at 8: .invokevirtual 320
    refine v_cV [] (c12_allWords G M hS hP) k12_allWords dX12_cheaper_8 l12_320 (by first | exact hS.1 _ _ rfl | exact hS'.1 _ _ rfl | assumption) (by decide) rfl (Nat.le_of_ble_eq_true rfl) (Nat.le_of_ble_eq_true rfl) ?_
    refine v_icmp_gt 63 dX12_cheaper_11 (by decide) (fun hc2 => ?_) (fun hc2 => ?_)
    · refine v_iload_n dX12_cheaper_63 rfl ?_
      -- at 64: .ireturn
      refine v_iret dX12_cheaper_64 rfl ⟨rfl, rfl⟩
    · exact absurd (nI_lt (by omega) (by omega)) hc2
  | succ i ih =>
    intro s o hs
    have hn := fun o => ih (s + 1) o (by omega)
    simp only [cnt] at hn
    have hp := two_pow_lt (c := c) (by omega)
    have hd := dsc_lt (gI M 231) c (s := s) (by omega)
    have hcn := costN_le hP (dsc (gI M 231) c s)
    refine v_iload dX12_cheaper_5 rfl ?_
    refine v_aload_n dX12_cheaper_7 rfl ?_
    -- at 8: .invokevirtual 320
    refine v_cV [] (c12_allWords G M hS hP) k12_allWords dX12_cheaper_8 l12_320 (by first | exact hS.1 _ _ rfl | exact hS'.1 _ _ rfl | assumption) (by decide) rfl (Nat.le_of_ble_eq_true rfl) (Nat.le_of_ble_eq_true rfl) ?_
    refine v_icmp_gt 63 dX12_cheaper_11 (by decide) (fun hc2 => ?_) (fun hc2 => ?_)
    · exact absurd ((nI_ltI (by omega) (by omega)).mp hc2) (by omega)
    refine v_aload_n dX12_cheaper_14 rfl ?_
    refine v_iload_n dX12_cheaper_15 rfl ?_
    refine v_iload dX12_cheaper_16 rfl ?_
    -- at 18: .invokevirtual 343
    refine v_cV [_, _] (c12_described G M hS hP hH hc (by omega)) k12_described dX12_cheaper_18 l12_343 (by first | exact hS.1 _ _ rfl | exact hS'.1 _ _ rfl | assumption) (by decide) rfl (Nat.le_of_ble_eq_true rfl) (Nat.le_of_ble_eq_true rfl) ?_
    rw [show ((s &&& trH (gI M 231) c) ||| dif s (trH (gI M 231) c) * 1024) = dsc (gI M 231) c s from rfl]
    refine v_istore dX12_cheaper_21 rfl (by decide) ?_
    refine v_iload_n dX12_cheaper_23 rfl ?_
    refine v_aload_n dX12_cheaper_24 rfl ?_
    refine v_iload dX12_cheaper_25 rfl ?_
    refine v_aload_n dX12_cheaper_27 rfl ?_
    refine v_getR 12 20 _ dX12_cheaper_28 f12_36 (by first | exact hS.1 _ _ rfl | exact hS'.1 _ _ rfl | assumption) (by decide) (by first | exact hS.2 _ _ _ rfl | exact hS'.2 _ _ _ rfl | assumption) ?_
    -- at 31: .invokevirtual 326
    refine v_cV [_, _] (c12_fitsOf G M hS hP hI (hS.1 238 _ rfl) (hH.hold hP) hd) k12_fitsOf dX12_cheaper_31 l12_326 (by first | exact hS.1 _ _ rfl | exact hS'.1 _ _ rfl | assumption) (by decide) rfl (Nat.le_of_ble_eq_true rfl) (Nat.le_of_ble_eq_true rfl) ?_
    refine v_iconst 1 dX12_cheaper_34 (by decide) ?_
    refine v_iload_n dX12_cheaper_35 rfl ?_
    refine v_ishl dX12_cheaper_36 ?_
    -- at 37: .if_icmp .ne 17
    rw [shl1 (by omega)]
    have hF := fitN_lt (I := kn (gI M 231) 93) hP.2.1.2 (trH (gI M 231)) (dsc (gI M 231) c s)
    have no : ¬ (telB (gI M 231) (trH (gI M 231)) c (dsc (gI M 231) c s) && decide (costN (gI M 231) (dsc (gI M 231) c s) < x)) = true → V G Y12_cheaper 3 0 0 (Rv (some (.int (nI (cnt (2 ^ kn (gI M 231) 3) (fun s => telB (gI M 231) (trH (gI M 231)) c (dsc (gI M 231) c s) && decide (costN (gI M 231) (dsc (gI M 231) c s) < x)))))) M) NX 54 [some (.ref 230), some (.int (nI c)), some (.int (nI x)), some (.int (nI (cnt s (fun s => telB (gI M 231) (trH (gI M 231)) c (dsc (gI M 231) c s) && decide (costN (gI M 231) (dsc (gI M 231) c s) < x))))), some (.int (nI s)), some (.int (nI (dsc (gI M 231) c s)))] [.int (nI (cnt s (fun s => telB (gI M 231) (trH (gI M 231)) c (dsc (gI M 231) c s) && decide (costN (gI M 231) (dsc (gI M 231) c s) < x))))] M := by
      intro hno
      refine v_iconst 0 dX12_cheaper_54 (by decide) ?_
      refine v_iadd dX12_cheaper_55 ?_
      refine v_istore_n dX12_cheaper_56 rfl (by decide) ?_
      refine v_iinc 1 dX12_cheaper_57 rfl (by decide) rfl (by decide) ?_
      refine v_goto 5 dX12_cheaper_60 (by decide) ?_
      -- at 5: .iload 4
      rw [nI_1, Int32.add_zero]
      have := hn (some (.int (nI (dsc (gI M 231) c s))))
      rw [if_neg hno, Nat.add_zero] at this
      exact this
    refine v_icmp_ne 54 dX12_cheaper_37 (by decide) (fun h37 => ?_) (fun h37 => ?_)
    · exact no (by simp only [telB, Bool.and_eq_true, decide_eq_true_eq]; exact fun z => h37 (by rw [z.1]))
    · have h37' := (nI_eq (by omega) (by omega)).mp (Decidable.not_not.mp h37)
      refine v_aload_n dX12_cheaper_40 rfl ?_
      refine v_iload dX12_cheaper_41 rfl ?_
      -- at 43: .invokevirtual 339
      refine v_cV [_] (c12_costOf G M hS hP hU hd) k12_costOf dX12_cheaper_43 l12_339 (by first | exact hS.1 _ _ rfl | exact hS'.1 _ _ rfl | assumption) (by decide) rfl (Nat.le_of_ble_eq_true rfl) (Nat.le_of_ble_eq_true rfl) ?_
      refine v_iload_n dX12_cheaper_46 rfl ?_
      -- at 47: .if_icmp .ge 7
      refine v_icmp_ge 54 dX12_cheaper_47 (by decide) (fun h47 => ?_) (fun h47 => ?_)
      · have h47' := (nI_leI (by omega) (by omega)).mp h47
        exact no (by simp only [telB, Bool.and_eq_true, decide_eq_true_eq]; omega)
      · have h47' := (nI_ltI (by omega) (by omega)).mp (Int32.not_le.mp h47)
        refine v_iconst 1 dX12_cheaper_50 (by decide) ?_
        refine v_goto 55 dX12_cheaper_51 (by decide) ?_
        refine v_iadd dX12_cheaper_55 ?_
        refine v_istore_n dX12_cheaper_56 rfl (by decide) ?_
        refine v_iinc 1 dX12_cheaper_57 rfl (by decide) rfl (by decide) ?_
        refine v_goto 5 dX12_cheaper_60 (by decide) ?_
        -- at 5: .iload 4
        rw [nI_1, nI_1]
        have := hn (some (.int (nI (dsc (gI M 231) c s))))
        rw [if_pos (by simp only [telB, Bool.and_eq_true, decide_eq_true_eq]; exact ⟨h37', h47'⟩)] at this
        exact this
/-- how many descriptions tell c at less than x -/
def lessN (K : Nat → Int32) (c x : Nat) : Nat := cnt (2 ^ kn K 3) (fun s => telB K (trH K) c (dsc K c s) && decide (costN K (dsc K c s) < x))
theorem c12_cheaper (hS : Sh M) (hP : WP (gI M 231)) (hI : inOK (gI M 231)) (hU : usOK (gI M 231)) (hH : HH M (gI M 231)) {c x : Nat} (hc : c < kn (gI M 231) 2) (hx : x < 2 ^ 31) : Ct G Y12_cheaper 3 0 0 [.ref 230, .int (nI c), .int (nI x)] M (Rv (some (.int (nI (lessN (gI M 231) c x)))) M) NX := by
  refine Ct.of k12_cheaper.1 (Nat.le_of_ble_eq_true rfl) ?_
  refine v_iconst 0 dX12_cheaper_0 (by decide) ?_
  refine v_istore_n dX12_cheaper_1 rfl (by decide) ?_
  refine v_iconst 0 dX12_cheaper_2 (by decide) ?_
  refine v_istore dX12_cheaper_3 rfl (by decide) ?_
  -- at 5: .iload 4
  refine v_pad ?_
  exact l12_cheaper G M hS hP hI hU hH hc hx (2 ^ kn (gI M 231) 3) 0 none (by omega)
end R9
