/-! ===== the reference: a night ===== -/
def ntV (nc nm : Nat) (x : Int32) : Int32 × Nat :=
  if drN (drI x) % 3 = 0 then (drI x, 3000) else if drN (drI x) % 3 = 1 then (drI (drI (drI (drI x))), 100 * (drN (drI (drI x)) % nc) + 10 * (drN (drI (drI (drI x))) % nm) + drN (drI (drI (drI (drI x)))) % 10) else (drI (drI x), 2000 + drN (drI (drI x)) % nc)
def ntF (nc nm : Nat) : Nat → Int32 → (Nat → Int32) → (Nat → Int32)
  | 0, _, K => K
  | n + 1, x, K => ntF nc nm n (ntV nc nm x).1 (doK (kepK K) (nI (ntV nc nm x).2))
theorem ntV_ok {K : Nat → Int32} (hP : WP K) (hc : 0 < kn K 2) (x : Int32) : okT9 K (nI (ntV (kn K 2) (kn K 1) x).2) := by
  have h14 := hP.2.1.2
  have h6 := hP.1
  refine Or.inr ⟨_, rfl, ?_⟩
  unfold ntV
  split
  · exact Or.inr (Or.inr rfl)
  · split
    · have h1 := Nat.mod_lt (drN (drI (drI x))) hc
      have h2 := Nat.mod_lt (drN (drI (drI (drI x)))) (show 0 < kn K 1 by omega)
      have h3 := Nat.mod_lt (drN (drI (drI (drI (drI x))))) (show 0 < 10 by decide)
      simp only
      generalize drN (drI (drI x)) % kn K 2 = a at *
      generalize drN (drI (drI (drI x))) % kn K 1 = b at *
      generalize drN (drI (drI (drI (drI x)))) % 10 = c at *
      left
      omega
    · have h1 := Nat.mod_lt (drN (drI (drI x))) hc
      simp only
      right; left; omega
def Wn (q k : Nat) : Bool := Ws q k || W230s q k
theorem Sm.n1 {M M' : mM} (h : Sm Ws M M') : Sm Wn M M' := h.wk (fun q k z => by simp only [Wn, Bool.or_eq_false_iff] at z; exact z.1)
section RM
variable (G : mG) (M : mM)
theorem l12_night (hS : Sh M) {nc nm T : Nat} (hT : T < 100) (sd : Int32) : ∀ i k M' (o4 o5 o6 : Option Value), k + i = T → Sm Wn M M' → WK (gI M' 231) → kn (gI M' 231) 2 = nc → kn (gI M' 231) 1 = nm → 0 < nc → isL o4 = false → isL o5 = false →
    V G Y12_night 10 0 0 (Rs (some (.int (nI T))) (fun M2 => Sm Wn M M2 ∧ gI M2 231 = ntF nc nm i (gI M' 230 24) (gI M' 231))) NX 48 [some (.ref 230), some (.int sd), some (.int (nI T)), some (.int (nI k)), o4, o5, o6] [] M' := by
  intro i
  induction i with
  | zero =>
    intro k M' o4 o5 o6 hk hM hW hnc hnm h0 h4 h5
    obtain rfl : k = T := by omega
    refine v_iload_n dX12_night_48 rfl ?_
    refine v_iload_n dX12_night_49 rfl ?_
    -- at 50: .if_icmp .ge 102
    refine v_icmp_ge 152 dX12_night_50 (by decide) (fun hc => ?_) (fun hc => ?_)
    · refine v_iload_n dX12_night_152 rfl ?_
      -- at 153: .ireturn
      refine v_iret dX12_night_153 rfl ⟨rfl, hM, rfl⟩
    · exact absurd (nI_le (Nat.le_refl _) (by omega)) hc
  | succ i ih =>
    intro k M' o4 o5 o6 hk hM hW hnc hnm h0 h4 h5
    have hS' := hS.sm hM
    have h14 := hW.p.2.1.2
    have h6 := hW.p.1.2.2
    have hnm1 := hW.p.1.2.1
    rw [hnc] at h14
    rw [hnm] at h6 hnm1
    have hok := ntV_ok hW.p (by omega) (gI M' 230 24)
    rw [hnc, hnm] at hok
    rw [show ntF nc nm (i + 1) (gI M' 230 24) (gI M' 231) = ntF nc nm i (ntV nc nm (gI M' 230 24)).1 (doK (kepK (gI M' 231)) (nI (ntV nc nm (gI M' 230 24)).2)) from rfl]
    -- the deed itself, from a memory that differs in the draw's number
    have deed : ∀ (v : Nat) (x' : Int32) (M2 : mM) (o4 o5 : Option Value), ntV nc nm (gI M' 230 24) = (x', v) → Sm Wn M M2 → gI M2 231 = gI M' 231 → gI M2 230 24 = x' → isL o4 = false → isL o5 = false → V G Y12_night 10 0 0 (Rs (some (.int (nI T))) (fun M2 => Sm Wn M M2 ∧ gI M2 231 = ntF nc nm i (ntV nc nm (gI M' 230 24)).1 (doK (kepK (gI M' 231)) (nI (ntV nc nm (gI M' 230 24)).2)))) NX 136 [some (.ref 230), some (.int sd), some (.int (nI T)), some (.int (nI k)), o4, o5, some (.int (nI v))] [] M2 := by
      intro v x' M2 o4 o5 hv hM2 eK ex h4 h5
      rw [hv] at hok ⊢
      have hS2 := hS.sm hM2
      have hokk := hok.keep hW
      refine v_aload_n dX12_night_136 rfl ?_
      -- at 137: .invokevirtual 370
      refine v_scVv [] (c12_keeps G M2 hS2 (by rw [eK]; exact hW.2.1.1) (by rw [eK]; exact hW.2.1.2)) k12_keeps dX12_night_137 l12_370 (hS2.1 _ _ rfl) (by decide) rfl (Nat.le_of_ble_eq_true rfl) (Nat.le_of_ble_eq_true rfl) (fun M3 hM3 => ?_)
      rw [eK] at hM3
      have hM3' := hM2.tr hM3.1.s2.n1
      have hS3 := hS.sm hM3'
      have hcon := c12_does G M3 hS3 (by rw [hM3.2]; exact hW.keeps) (v := nI v) (by rw [hM3.2]; exact hokk)
      rw [hM3.2] at hcon
      refine v_aload_n dX12_night_140 rfl ?_
      refine v_iload dX12_night_141 rfl ?_
      -- at 143: .invokevirtual 407
      refine v_scVv [_] hcon k12_does dX12_night_143 l12_407 (hS3.1 _ _ rfl) (by decide) rfl (Nat.le_of_ble_eq_true rfl) (Nat.le_of_ble_eq_true rfl) (fun M4 hM4 => ?_)
      have e24 : gI M4 230 24 = x' := by rw [hM4.1.2.2.2.2 230 24 rfl, hM3.1.2.2.2.2 230 24 rfl, ex]
      refine v_iinc 1 dX12_night_146 rfl (by decide) rfl (by decide) ?_
      refine v_goto 48 dX12_night_149 (by decide) ?_
      -- at 48: .iload_n 3
      rw [nI_1]
      have hK4 := hW.keeps
      have := ih (k + 1) M4 o4 o5 (some (.int (nI v))) (by omega) (hM3'.tr hM4.1.n1) (by rw [hM4.2]; exact hK4.dd hokk) (by rw [hM4.2, kn, doK_o hK4 hokk (by omega), kepK_o hW (by omega)]; exact hnc) (by rw [hM4.2, kn, doK_o hK4 hokk (by omega), kepK_o hW (by omega)]; exact hnm) h0 h4 h5
      rw [hM4.2, e24] at this
      exact this
    refine v_iload_n dX12_night_48 rfl ?_
    refine v_iload_n dX12_night_49 rfl ?_
    -- at 50: .if_icmp .ge 102
    refine v_icmp_ge 152 dX12_night_50 (by decide) (fun hc => ?_) (fun hc => ?_)
    · exact absurd ((nI_leI (by omega) (by omega)).mp hc) (by omega)
    refine v_aload_n dX12_night_53 rfl ?_
    refine v_iconst 3 dX12_night_54 (by decide) ?_
    -- at 55: .invokevirtual 419
    refine v_cV [_] (c12_draw G M' hS' (m := 3) (by omega) (by omega)) k12_draw dX12_night_55 l12_419 (by first | exact hS.1 _ _ rfl | exact hS'.1 _ _ rfl | assumption) (by decide) rfl (Nat.le_of_ble_eq_true rfl) (Nat.le_of_ble_eq_true rfl) ?_
    have hM1 : Sm Wn M (sI M' 230 24 (drI (gI M' 230 24))) := hM.st _ rfl
    have eK1 : gI (sI M' 230 24 (drI (gI M' 230 24))) 231 = gI M' 231 := gI_sr _ _ (by decide)
    refine v_istore dX12_night_58 rfl (by decide) ?_
    refine v_iload dX12_night_60 rfl ?_
    -- at 62: .ifCond .ne 7
    by_cases hw0 : drN (drI (gI M' 230 24)) % 3 = 0
    · rw [hw0]
      refine v_if_ne 69 dX12_night_62 (by decide) (fun h62 => ?_) (fun h62 => ?_)
      · exact absurd rfl h62
      · refine v_iconst 0 dX12_night_65 (by decide) ?_
        refine v_goto 77 dX12_night_66 (by decide) ?_
        refine v_istore dX12_night_77 rfl (by decide) ?_
        refine v_iload dX12_night_79 rfl ?_
        -- at 81: .ifCond .ne 9
        refine v_if_ne 90 dX12_night_81 (by decide) (fun h81 => ?_) (fun h81 => ?_)
        · exact absurd rfl h81
        · refine v_sipush 3000 dX12_night_84 (by decide) ?_
          refine v_goto 96 dX12_night_87 (by decide) ?_
          refine v_istore dX12_night_96 rfl (by decide) ?_
          refine v_iload dX12_night_98 rfl ?_
          refine v_iconst 1 dX12_night_100 (by decide) ?_
          -- at 101: .if_icmp .ne 35
          refine v_icmp_ne 136 dX12_night_101 (by decide) (fun h101 => ?_) (fun h101 => ?_)
          · exact deed 3000 (drI (gI M' 230 24)) _ _ _ (by rw [ntV, if_pos hw0]) hM1 eK1 (gI_ss _ _ _ _) rfl rfl
          · exact absurd (show ¬ nI 0 = 1 by decide) h101
    · have hw3 := Nat.mod_lt (drN (drI (gI M' 230 24))) (show 0 < 3 by decide)
      refine v_if_ne 69 dX12_night_62 (by decide) (fun h62 => ?_) (fun h62 => ?_)
      · refine v_aload_n dX12_night_69 rfl ?_
        refine v_aload_n dX12_night_70 rfl ?_
        -- at 71: .invokevirtual 245
        have hcon := c12_chests G (sI M' 230 24 (drI (gI M' 230 24))) hS'
        rw [eK1, hW.p.2.1.1, hnc] at hcon
        refine v_cV [] (hcon) k12_chests dX12_night_71 l12_245 (by first | exact hS.1 _ _ rfl | exact hS'.1 _ _ rfl | assumption) (by decide) rfl (Nat.le_of_ble_eq_true rfl) (Nat.le_of_ble_eq_true rfl) ?_
        have hcon := c12_draw G (sI M' 230 24 (drI (gI M' 230 24))) hS' (m := nc) h0 (by omega)
        rw [gI_ss] at hcon
        refine v_cV [_] (hcon) k12_draw dX12_night_74 l12_419 (by first | exact hS.1 _ _ rfl | exact hS'.1 _ _ rfl | assumption) (by decide) rfl (Nat.le_of_ble_eq_true rfl) (Nat.le_of_ble_eq_true rfl) ?_
        have hM2 := hM1.st (q := 230) (k := 24) (drI (drI (gI M' 230 24))) rfl
        have eK2 : gI (sI (sI M' 230 24 (drI (gI M' 230 24))) 230 24 (drI (drI (gI M' 230 24)))) 231 = gI M' 231 := (gI_sr _ _ (by decide)).trans eK1
        have hcl := Nat.mod_lt (drN (drI (drI (gI M' 230 24)))) h0
        obtain ⟨M2, eM2⟩ : ∃ M2, M2 = sI (sI M' 230 24 (drI (gI M' 230 24))) 230 24 (drI (drI (gI M' 230 24))) := ⟨_, rfl⟩
        have ex2 : gI M2 230 24 = drI (drI (gI M' 230 24)) := by rw [eM2]; exact gI_ss _ _ _ _
        rw [← eM2] at hM2 eK2 ⊢
        have hS2 := hS.sm hM2
        refine v_istore dX12_night_77 rfl (by decide) ?_
        refine v_iload dX12_night_79 rfl ?_
        -- at 81: .ifCond .ne 9
        refine v_if_ne 90 dX12_night_81 (by decide) (fun h81 => ?_) (fun h81 => ?_)
        · refine v_sipush 2000 dX12_night_90 (by decide) ?_
          refine v_iload dX12_night_93 rfl ?_
          refine v_iadd dX12_night_95 ?_
          refine v_istore dX12_night_96 rfl (by decide) ?_
          refine v_iload dX12_night_98 rfl ?_
          refine v_iconst 1 dX12_night_100 (by decide) ?_
          -- at 101: .if_icmp .ne 35
          rw [show (2000 : Int32) + nI (drN (drI (drI (gI M' 230 24))) % nc) = nI (2000 + drN (drI (drI (gI M' 230 24))) % nc) from nI_add 2000 _]
          by_cases hw1 : drN (drI (gI M' 230 24)) % 3 = 1
          · refine v_icmp_ne 136 dX12_night_101 (by decide) (fun h101 => ?_) (fun h101 => ?_)
            · exact absurd (by rw [hw1]; rfl) h101
            · refine v_bipush 100 dX12_night_104 (by decide) ?_
              refine v_iload dX12_night_106 rfl ?_
              refine v_imul dX12_night_108 ?_
              refine v_bipush 10 dX12_night_109 (by decide) ?_
              refine v_aload_n dX12_night_111 rfl ?_
              refine v_aload_n dX12_night_112 rfl ?_
              refine v_getR 12 0 _ dX12_night_113 f12_9 (hS2.1 _ _ rfl) (by decide) (hS2.2 _ _ _ rfl) ?_
              refine v_iconst 1 dX12_night_116 (by decide) ?_
              refine v_ialdN 1 dX12_night_117 (hS2.1 _ _ rfl) rfl (by decide) ?_
              -- at 118: .invokevirtual 419
              rw [eK2, hW.p.1.1, hnm]
              have hcon := c12_draw G M2 hS2 (m := nm) (by omega) (by omega)
              rw [ex2] at hcon
              refine v_cV [_] hcon k12_draw dX12_night_118 l12_419 (hS2.1 _ _ rfl) (by decide) rfl (Nat.le_of_ble_eq_true rfl) (Nat.le_of_ble_eq_true rfl) ?_
              have hM3 := hM2.st (q := 230) (k := 24) (drI (drI (drI (gI M' 230 24)))) rfl
              have eK3 : gI (sI M2 230 24 (drI (drI (drI (gI M' 230 24))))) 231 = gI M' 231 := (gI_sr _ _ (by decide)).trans eK2
              refine v_imul dX12_night_121 ?_
              refine v_iadd dX12_night_122 ?_
              refine v_istore dX12_night_123 rfl (by decide) ?_
              refine v_iload dX12_night_125 rfl ?_
              refine v_aload_n dX12_night_127 rfl ?_
              refine v_bipush 10 dX12_night_128 (by decide) ?_
              -- at 130: .invokevirtual 419
              have hcon := c12_draw G (sI M2 230 24 (drI (drI (drI (gI M' 230 24))))) hS2 (m := 10) (by omega) (by omega)
              rw [gI_ss] at hcon
              refine v_cV [_] hcon k12_draw dX12_night_130 l12_419 (hS2.1 _ _ rfl) (by decide) rfl (Nat.le_of_ble_eq_true rfl) (Nat.le_of_ble_eq_true rfl) ?_
              refine v_iadd dX12_night_133 ?_
              refine v_istore dX12_night_134 rfl (by decide) ?_
              -- at 136: .aload_n 0
              rw [show (100 : Int32) * nI (drN (drI (drI (gI M' 230 24))) % nc) + 10 * nI (drN (drI (drI (drI (gI M' 230 24)))) % nm) + nI (drN (drI (drI (drI (drI (gI M' 230 24))))) % 10) = nI (100 * (drN (drI (drI (gI M' 230 24))) % nc) + 10 * (drN (drI (drI (drI (gI M' 230 24)))) % nm) + drN (drI (drI (drI (drI (gI M' 230 24))))) % 10) by simp only [n_lit, pk_mul, nI_add]]
              exact deed _ (drI (drI (drI (drI (gI M' 230 24))))) _ (some (.int (nI (drN (drI (gI M' 230 24)) % 3)))) (some (.int (nI (drN (drI (drI (gI M' 230 24))) % nc)))) (by rw [ntV, if_neg hw0, if_pos hw1]) (hM3.st _ rfl) ((gI_sr _ _ (by decide)).trans eK3) (gI_ss _ _ _ _) rfl rfl
          · refine v_icmp_ne 136 dX12_night_101 (by decide) (fun h101 => ?_) (fun h101 => ?_)
            · exact deed _ (drI (drI (gI M' 230 24))) _ _ _ (by rw [ntV, if_neg hw0, if_neg hw1]) hM2 eK2 ex2 rfl rfl
            · exact absurd ((nI_eq (b := 1) (by omega) (by omega)).mp (Decidable.not_not.mp h101)) hw1
        · exact absurd ((nI0 (by omega)).mp (Decidable.not_not.mp h81)) hw0
      · exact absurd ((nI0 (by omega)).mp (Decidable.not_not.mp h62)) hw0
def Wdn (q k : Nat) : Bool := Wd q k || W230s q k
def Pn (M : mM) (t : Int32) (K' : Nat → Int32) (M' : mM) : Prop := Sm Wdn M M' ∧ gI M' 230 4 = t ∧ gI M' 231 = K'
theorem Sm.nd {M M' : mM} (h : Sm Wn M M') : Sm Wdn M M' := h.wk (fun q k z => by simp only [Wn, Wdn, Ws, Wd, Wq, Bool.or_eq_false_iff] at z ⊢; exact ⟨⟨z.1.1.1.1.1.1, z.1.1.2⟩, z.2⟩)
def inT (n : Nat) (x : Int32) : Bool := decide (1 ≤ x ∧ x ≤ nI n)
theorem inT_of {n : Nat} (hn : n < 2 ^ 30) {x : Int32} (h : inT n x = true) : ∃ j, 1 ≤ j ∧ j ≤ n ∧ x = nI j := by
  have h := of_decide_eq_true h
  have h1 : (1 : Int) ≤ x.toInt := Int32.le_iff_toInt_le.mp h.1
  have h2 : x.toInt ≤ (nI n).toInt := Int32.le_iff_toInt_le.mp h.2
  rw [nI_toInt (by omega)] at h2
  refine ⟨x.toInt.toNat, by omega, by omega, ?_⟩
  apply Int32.toInt_inj.mp
  rw [nI_toInt (by omega)]
  omega
theorem within30 (v : Int32) : ((1 : Int64) ≤ v.toInt64 ∧ v.toInt64 ≤ 30) ↔ inT 30 v = true := (within_c (a := 1) (b := 30)).trans (by simp only [inT, decide_eq_true_eq]; exact Iff.rfl)
def tNt (K : Nat → Int32) (times : Int32) : Int32 := if inT 30 times = true then (if K 2 = 0 then 2 else 0) else 1
theorem c12_night (hS : Sh M) (hW : WK (gI M 231)) (sd times : Int32) : Ct G Y12_night 10 0 0 [.ref 230, .int sd, .int times] M (Rs (some (.int (if tNt (gI M 231) times = 0 then times else 0))) (Pn M (tNt (gI M 231) times) (if tNt (gI M 231) times = 0 then ntF (kn (gI M 231) 2) (kn (gI M 231) 1) times.toNatClampNeg sd (gI M 231) else gI M 231))) NX := by
  have fin : ∀ t, t = 1 ∨ t = 2 → tNt (gI M 231) times = t → V G Y12_night 10 0 0 (Rs (some (.int (if tNt (gI M 231) times = 0 then times else 0))) (Pn M (tNt (gI M 231) times) (if tNt (gI M 231) times = 0 then ntF (kn (gI M 231) 2) (kn (gI M 231) 1) times.toNatClampNeg sd (gI M 231) else gI M 231))) NX 29 [some (.ref 230), some (.int sd), some (.int times)] [.int t, .ref 230] M := by
    intro t ht e
    have e1 : gI (sI M 230 4 t) 231 = gI M 231 := gI_sr _ _ (by decide)
    have ht0 : ¬ t = 0 := by rcases ht with rfl | rfl <;> decide
    rw [e, if_neg ht0, if_neg ht0]
    refine v_putI 12 4 dX12_night_29 f12_68 (by first | exact hS.1 _ _ rfl | exact hS'.1 _ _ rfl | assumption) (by decide) ?_
    refine v_aload_n dX12_night_32 rfl ?_
    refine v_getI 12 4 dX12_night_33 f12_68 (by first | exact hS.1 _ _ rfl | exact hS'.1 _ _ rfl | assumption) (by decide) ?_
    -- at 36: .ifCond .le 5
    rw [gI_ss]
    refine v_if_le 41 dX12_night_36 (by decide) (fun h36 => ?_) (fun h36 => ?_)
    · exact absurd h36 (by rcases ht with rfl | rfl <;> decide)
    · refine v_iconst 0 dX12_night_39 (by decide) ?_
      -- at 40: .ireturn
      refine v_iret dX12_night_40 rfl ⟨rfl, Sm.rf.st _ rfl, gI_ss _ _ _ _, e1⟩
  have h2 := hW.p.2.1.1
  have h14 := hW.p.2.1.2
  refine Ct.of k12_night.1 (Nat.le_of_ble_eq_true rfl) ?_
  refine v_aload_n dX12_night_0 rfl ?_
  refine v_iload_n dX12_night_1 rfl ?_
  refine v_i2l dX12_night_2 ?_
  refine v_lconst 1 dX12_night_3 (by decide) ?_
  refine v_ldc2 30 dX12_night_4 K12_417 ?_
  -- at 7: .invokestatic 132
  refine v_cS [_, _, _] (c12_within _ _ _ _ _) k12_within dX12_night_7 l12_132 rfl (Nat.le_of_ble_eq_true rfl) (Nat.le_of_ble_eq_true rfl) ?_
  rw [bI_cong (within30 times)]
  by_cases ht : inT 30 times = true
  · rw [bI_t ht]
    refine v_if_ne 17 dX12_night_10 (by decide) (fun h10 => ?_) (fun h10 => ?_)
    · refine v_aload_n dX12_night_17 rfl ?_
      -- at 18: .invokevirtual 245
      refine v_cV [] (c12_chests G M hS) k12_chests dX12_night_18 l12_245 (by first | exact hS.1 _ _ rfl | exact hS'.1 _ _ rfl | assumption) (by decide) rfl (Nat.le_of_ble_eq_true rfl) (Nat.le_of_ble_eq_true rfl) ?_
      by_cases hc0 : gI M 231 2 = 0
      · rw [hc0]
        refine v_if_ne 28 dX12_night_21 (by decide) (fun h21 => ?_) (fun h21 => ?_)
        · exact absurd rfl h21
        · refine v_iconst 2 dX12_night_24 (by decide) ?_
          refine v_goto 29 dX12_night_25 (by decide) ?_
          -- at 29: .putfield 68
          exact fin 2 (Or.inr rfl) (by rw [tNt, if_pos ht, if_pos hc0])
      · refine v_if_ne 28 dX12_night_21 (by decide) (fun h21 => ?_) (fun h21 => ?_)
        · refine v_iconst 0 dX12_night_28 (by decide) ?_
          refine v_putI 12 4 dX12_night_29 f12_68 (by first | exact hS.1 _ _ rfl | exact hS'.1 _ _ rfl | assumption) (by decide) ?_
          refine v_aload_n dX12_night_32 rfl ?_
          refine v_getI 12 4 dX12_night_33 f12_68 (by first | exact hS.1 _ _ rfl | exact hS'.1 _ _ rfl | assumption) (by decide) ?_
          -- at 36: .ifCond .le 5
          rw [gI_ss, show tNt (gI M 231) times = 0 by rw [tNt, if_pos ht, if_neg hc0], if_pos rfl, if_pos rfl]
          refine v_if_le 41 dX12_night_36 (by decide) (fun h36 => ?_) (fun h36 => ?_)
          · refine v_aload_n dX12_night_41 rfl ?_
            refine v_iload_n dX12_night_42 rfl ?_
            refine v_putI 12 24 dX12_night_43 f12_414 (by first | exact hS.1 _ _ rfl | exact hS'.1 _ _ rfl | assumption) (by decide) ?_
            refine v_iconst 0 dX12_night_46 (by decide) ?_
            refine v_istore_n dX12_night_47 rfl (by decide) ?_
            -- at 48: .iload_n 3
            obtain ⟨T, hT1, hT2, rfl⟩ := inT_of (by omega) ht
            rw [nI_clamp (by omega)]
            have hM : Sm Wn (sI M 230 4 0) (sI (sI M 230 4 0) 230 24 sd) := Sm.rf.st _ rfl
            have eK : gI (sI (sI M 230 4 0) 230 24 sd) 231 = gI M 231 := (gI_sr _ _ (by decide)).trans (gI_sr _ _ (by decide))
            have hl := l12_night G (sI M 230 4 0) hS (nc := kn (gI M 231) 2) (nm := kn (gI M 231) 1) (T := T) (by omega) sd T 0 _ none none none (by omega) hM (by rw [eK]; exact hW) (by rw [eK]) (by rw [eK]) (by
              rcases Nat.eq_zero_or_pos (kn (gI M 231) 2) with h | h
              · rw [h] at h2; exact absurd h2 hc0
              · exact h) rfl rfl
            rw [eK, gI_ss] at hl
            refine v_pad (v_pad (v_pad ?_))
            refine V.post hl (fun v M2 h => ⟨h.1, ?_, ?_, h.2.2⟩) (fun _ _ h => h)
            · exact (show Sm Wdn M (sI M 230 4 0) from Sm.rf.st _ rfl).tr h.2.1.nd
            · exact (h.2.1.2.2.2.2 230 4 rfl).trans (gI_ss _ _ _ _)
          · exact absurd (by decide) h36
        · exact absurd (Decidable.not_not.mp h21) hc0
    · exact absurd (by decide) h10
  · rw [bI_f ht]
    refine v_if_ne 17 dX12_night_10 (by decide) (fun h10 => ?_) (fun h10 => ?_)
    · exact absurd rfl h10
    · refine v_iconst 1 dX12_night_13 (by decide) ?_
      refine v_goto 29 dX12_night_14 (by decide) ?_
      -- at 29: .putfield 68
      exact fin 1 (Or.inl rfl) (by rw [tNt, if_neg ht])
end RM
