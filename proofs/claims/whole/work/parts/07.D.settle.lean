/-! ===== the reference: settling, carrying ===== -/
/-- the stake: a chest IN the hall, or none if none is IN -/
def stOK (K : Nat → Int32) : Prop := (K 96 = -1 ∧ kn K 93 = 0) ∨ ∃ c, K 96 = nI c ∧ c < kn K 2 ∧ (kn K 93).testBit c = true
def clOK (K : Nat → Int32) : Prop := ∀ p, p < 6 → K (97 + p) = -1 ∨ (p < kn K 6 ∧ ∃ d, K (97 + p) = nI d ∧ isDN (kn K 3) d = true)
/-- who would win: over the first n persons -/
def winF (K : Nat → Int32) : Nat → Option Nat
  | 0 => none
  | p + 1 => if K (97 + p) ≠ -1 ∧ oneOf (fitN (kn K 2) (kn K 93) (trH K) (kn K (97 + p))) = K 96 then (match winF K p with
      | none => some p
      | some b => if costN K (kn K (97 + p)) < costN K (kn K (97 + b)) then some p else some b) else winF K p
def winO (K : Nat → Int32) : Option Nat := if K 96 = -1 then none else winF K (kn K 6)
def encP (o : Option Nat) : Int32 := match o with
  | none => -1
  | some p => nI p
theorem winF_lt {K : Nat → Int32} : ∀ n b, winF K n = some b → b < n ∧ K (97 + b) ≠ -1 := by
  intro n
  induction n with
  | zero => intro b h; simp [winF] at h
  | succ n ih =>
    intro b h
    simp only [winF] at h
    split at h
    · rename_i h1
      split at h
      · cases h; exact ⟨by omega, h1.1⟩
      · rename_i b0 h0
        split at h
        · cases h; exact ⟨by omega, h1.1⟩
        · cases h; have := ih _ h0; exact ⟨by omega, this.2⟩
    · have := ih _ h; exact ⟨by omega, this.2⟩
theorem clOK.d {K : Nat → Int32} (h : clOK K) {p : Nat} (hp : p < 6) (hn : K (97 + p) ≠ -1) : K (97 + p) = nI (kn K (97 + p)) ∧ kn K (97 + p) < 1048576 ∧ isDN (kn K 3) (kn K (97 + p)) = true := by
  rcases h p hp with h1 | ⟨_, d, h1, h2⟩
  · exact absurd h1 hn
  · have hd := h2
    simp only [isDN, decide_eq_true_eq] at hd
    have e : kn K (97 + p) = d := by rw [kn, h1, nI_clamp (by omega)]
    rw [e]
    exact ⟨h1, hd.1, h2⟩
section RD
variable (G : mG) (M : mM)
theorem l12_winnerOf (hS : Sh M) (hP : WP (gI M 231)) (hI : inOK (gI M 231)) (hU : usOK (gI M 231)) (hC : clOK (gI M 231)) (hH : HH M (gI M 231)) {Q : Option Value → mM → Prop} (hq : Q (some (.int (encP (winF (gI M 231) (kn (gI M 231) 6))))) M) : ∀ i p (o : Option Value), p + i = kn (gI M 231) 6 → V G Y12_winnerOf 7 0 0 Q NX 21 [some (.ref 230), some (.int (encP (winF (gI M 231) p))), some (.int (nI p)), o] [] M := by
  have h6 := hP.2.2.2.2.2.1.2.2
  intro i
  induction i with
  | zero =>
    intro p o hp
    obtain rfl : p = kn (gI M 231) 6 := by omega
    refine v_iload_n dX12_winnerOf_21 rfl ?_
    refine v_aload_n dX12_winnerOf_22 rfl ?_
    refine v_getR 12 0 _ dX12_winnerOf_23 f12_9 (by first | exact hS.1 _ _ rfl | exact hS'.1 _ _ rfl | assumption) (by decide) (by first | exact hS.2 _ _ _ rfl | exact hS'.2 _ _ _ rfl | assumption) ?_
    refine v_bipush 6 dX12_winnerOf_26 (by decide) ?_
    refine v_ialdN 6 dX12_winnerOf_28 (by first | exact hS.1 _ _ rfl | exact hS'.1 _ _ rfl | assumption) rfl (by decide) ?_
    -- at 29: .if_icmp .ge 70
    rw [hP.2.2.2.2.2.1.1]
    refine v_icmp_ge 99 dX12_winnerOf_29 (by decide) (fun hc => ?_) (fun hc => ?_)
    · refine v_iload_n dX12_winnerOf_99 rfl ?_
      -- at 100: .ireturn
      refine v_iret dX12_winnerOf_100 rfl hq
    · exact absurd (nI_le (Nat.le_refl _) (by omega)) hc
  | succ i ih =>
    intro p o hp
    have hn := fun o => ih (p + 1) o (by omega)
    simp only [winF] at hn
    have hb := winF_lt (K := gI M 231) p
    refine v_iload_n dX12_winnerOf_21 rfl ?_
    refine v_aload_n dX12_winnerOf_22 rfl ?_
    refine v_getR 12 0 _ dX12_winnerOf_23 f12_9 (by first | exact hS.1 _ _ rfl | exact hS'.1 _ _ rfl | assumption) (by decide) (by first | exact hS.2 _ _ _ rfl | exact hS'.2 _ _ _ rfl | assumption) ?_
    refine v_bipush 6 dX12_winnerOf_26 (by decide) ?_
    refine v_ialdN 6 dX12_winnerOf_28 (by first | exact hS.1 _ _ rfl | exact hS'.1 _ _ rfl | assumption) rfl (by decide) ?_
    -- at 29: .if_icmp .ge 70
    rw [hP.2.2.2.2.2.1.1]
    refine v_icmp_ge 99 dX12_winnerOf_29 (by decide) (fun hc => ?_) (fun hc => ?_)
    · exact absurd ((nI_leI (by omega) (by omega)).mp hc) (by omega)
    refine v_aload_n dX12_winnerOf_32 rfl ?_
    refine v_getR 12 0 _ dX12_winnerOf_33 f12_9 (by first | exact hS.1 _ _ rfl | exact hS'.1 _ _ rfl | assumption) (by decide) (by first | exact hS.2 _ _ _ rfl | exact hS'.2 _ _ _ rfl | assumption) ?_
    refine v_bipush 97 dX12_winnerOf_36 (by decide) ?_
    refine v_iload_n dX12_winnerOf_38 rfl ?_
    refine v_iadd dX12_winnerOf_39 ?_
    refine v_ialdN (97 + p) dX12_winnerOf_40 (by first | exact hS.1 _ _ rfl | exact hS'.1 _ _ rfl | assumption) (by simp only [n_lit, pk_mul, nI_add]) ⟨by omega, by omega⟩ ?_
    refine v_istore_n dX12_winnerOf_41 rfl (by decide) ?_
    refine v_iload_n dX12_winnerOf_42 rfl ?_
    refine v_iconst (-1) dX12_winnerOf_43 (by decide) ?_
    -- at 44: .if_icmp .eq 49
    refine v_icmp_eq 93 dX12_winnerOf_44 (by decide) (fun h44 => ?_) (fun h44 => ?_)
    · refine v_iinc 1 dX12_winnerOf_93 rfl (by decide) rfl (by decide) ?_
      refine v_goto 21 dX12_winnerOf_96 (by decide) ?_
      -- at 21: .iload_n 2
      rw [nI_1]
      have := hn (some (.int (gI M 231 (97 + p))))
      rw [if_neg (fun z => z.1 h44)] at this
      exact this
    · obtain ⟨d1, d2, d3⟩ := hC.d (p := p) (by omega) h44
      refine v_aload_n dX12_winnerOf_47 rfl ?_
      refine v_iload_n dX12_winnerOf_48 rfl ?_
      -- at 49: .invokevirtual 336
      have hcon := c12_toldBy G M hS hP hI hH d2
      rw [← d1] at hcon
      refine v_cV [_] (hcon) k12_toldBy dX12_winnerOf_49 l12_336 (by first | exact hS.1 _ _ rfl | exact hS'.1 _ _ rfl | assumption) (by decide) rfl (Nat.le_of_ble_eq_true rfl) (Nat.le_of_ble_eq_true rfl) ?_
      refine v_aload_n dX12_winnerOf_52 rfl ?_
      refine v_getR 12 0 _ dX12_winnerOf_53 f12_9 (by first | exact hS.1 _ _ rfl | exact hS'.1 _ _ rfl | assumption) (by decide) (by first | exact hS.2 _ _ _ rfl | exact hS'.2 _ _ _ rfl | assumption) ?_
      refine v_bipush 96 dX12_winnerOf_56 (by decide) ?_
      refine v_ialdN 96 dX12_winnerOf_58 (by first | exact hS.1 _ _ rfl | exact hS'.1 _ _ rfl | assumption) rfl (by decide) ?_
      -- at 59: .if_icmp .eq 6
      refine v_icmp_eq 65 dX12_winnerOf_59 (by decide) (fun h59 => ?_) (fun h59 => ?_)
      · have hn2 := hn (some (.int (gI M 231 (97 + p))))
        rw [if_pos ⟨h44, h59⟩] at hn2
        generalize winF (gI M 231) p = w at hn2 hb ⊢
        refine v_iload_n dX12_winnerOf_65 rfl ?_
        refine v_iconst (-1) dX12_winnerOf_66 (by decide) ?_
        -- at 67: .if_icmp .eq 24
        cases w with
        | none =>
          refine v_icmp_eq 91 dX12_winnerOf_67 (by decide) (fun h67 => ?_) (fun h67 => ?_)
          · refine v_iload_n dX12_winnerOf_91 rfl ?_
            refine v_istore_n dX12_winnerOf_92 rfl (by decide) ?_
            refine v_iinc 1 dX12_winnerOf_93 rfl (by decide) rfl (by decide) ?_
            refine v_goto 21 dX12_winnerOf_96 (by decide) ?_
            -- at 21: .iload_n 2
            rw [nI_1]
            exact hn2
          · exact absurd rfl h67
        | some b =>
          have hb2 := hb b rfl
          obtain ⟨b1, b2, b3⟩ := hC.d (p := b) (by omega) hb2.2
          refine v_icmp_eq 91 dX12_winnerOf_67 (by decide) (fun h67 => ?_) (fun h67 => ?_)
          · exact absurd h67 (fun z => absurd (show (-1 : Int32) < 0 by decide) (by rw [← z]; exact nI_pos (n := b) (by omega)))
          · refine v_aload_n dX12_winnerOf_70 rfl ?_
            refine v_iload_n dX12_winnerOf_71 rfl ?_
            -- at 72: .invokevirtual 339
            have hcon := c12_costOf G M hS hP hU d2
            rw [← d1] at hcon
            refine v_cV [_] (hcon) k12_costOf dX12_winnerOf_72 l12_339 (by first | exact hS.1 _ _ rfl | exact hS'.1 _ _ rfl | assumption) (by decide) rfl (Nat.le_of_ble_eq_true rfl) (Nat.le_of_ble_eq_true rfl) ?_
            refine v_aload_n dX12_winnerOf_75 rfl ?_
            refine v_aload_n dX12_winnerOf_76 rfl ?_
            refine v_getR 12 0 _ dX12_winnerOf_77 f12_9 (by first | exact hS.1 _ _ rfl | exact hS'.1 _ _ rfl | assumption) (by decide) (by first | exact hS.2 _ _ _ rfl | exact hS'.2 _ _ _ rfl | assumption) ?_
            refine v_bipush 97 dX12_winnerOf_80 (by decide) ?_
            refine v_iload_n dX12_winnerOf_82 rfl ?_
            refine v_iadd dX12_winnerOf_83 ?_
            -- at 84: .iaload
            rw [show encP (some b) = nI b from rfl]
            refine v_ialdN (97 + b) dX12_winnerOf_84 (hS.1 _ _ rfl) (by simp only [n_lit, nI_add]) ⟨by omega, by omega⟩ ?_
            have hcon := c12_costOf G M hS hP hU b2
            rw [← b1] at hcon
            refine v_cV [_] (hcon) k12_costOf dX12_winnerOf_85 l12_339 (by first | exact hS.1 _ _ rfl | exact hS'.1 _ _ rfl | assumption) (by decide) rfl (Nat.le_of_ble_eq_true rfl) (Nat.le_of_ble_eq_true rfl) ?_
            have l1 := costN_le hP (kn (gI M 231) (97 + p))
            have l2 := costN_le hP (kn (gI M 231) (97 + b))
            simp only at hn2
            refine v_icmp_ge 93 dX12_winnerOf_88 (by decide) (fun h88 => ?_) (fun h88 => ?_)
            · have h88' := (nI_leI (by omega) (by omega)).mp h88
              rw [if_neg (by omega)] at hn2
              refine v_iinc 1 dX12_winnerOf_93 rfl (by decide) rfl (by decide) ?_
              refine v_goto 21 dX12_winnerOf_96 (by decide) ?_
              -- at 21: .iload_n 2
              rw [nI_1]
              exact hn2
            · have h88' := (nI_ltI (by omega) (by omega)).mp (Int32.not_le.mp h88)
              rw [if_pos (by omega)] at hn2
              refine v_iload_n dX12_winnerOf_91 rfl ?_
              refine v_istore_n dX12_winnerOf_92 rfl (by decide) ?_
              refine v_iinc 1 dX12_winnerOf_93 rfl (by decide) rfl (by decide) ?_
              refine v_goto 21 dX12_winnerOf_96 (by decide) ?_
              -- at 21: .iload_n 2
              rw [nI_1]
              exact hn2
      · refine v_goto 93 dX12_winnerOf_62 (by decide) ?_
        refine v_iinc 1 dX12_winnerOf_93 rfl (by decide) rfl (by decide) ?_
        refine v_goto 21 dX12_winnerOf_96 (by decide) ?_
        -- at 21: .iload_n 2
        rw [nI_1]
        have := hn (some (.int (gI M 231 (97 + p))))
        rw [if_neg (fun z => h59 z.2)] at this
        exact this
theorem c12_winnerOf (hS : Sh M) (hQ : WQ (gI M 231)) (hC : clOK (gI M 231)) : Ct G Y12_winnerOf 7 0 0 [.ref 230] M (Rs (some (.int (encP (winO (gI M 231))))) (Sm Wlh M)) NX := by
  obtain ⟨hP, hI, hU⟩ := hQ
  refine Ct.of k12_winnerOf.1 (Nat.le_of_ble_eq_true rfl) ?_
  refine v_aload_n dX12_winnerOf_0 rfl ?_
  refine v_getR 12 0 _ dX12_winnerOf_1 f12_9 (by first | exact hS.1 _ _ rfl | exact hS'.1 _ _ rfl | assumption) (by decide) (by first | exact hS.2 _ _ _ rfl | exact hS'.2 _ _ _ rfl | assumption) ?_
  refine v_bipush 96 dX12_winnerOf_4 (by decide) ?_
  refine v_ialdN 96 dX12_winnerOf_6 (by first | exact hS.1 _ _ rfl | exact hS'.1 _ _ rfl | assumption) rfl (by decide) ?_
  refine v_iconst (-1) dX12_winnerOf_7 (by decide) ?_
  -- at 8: .if_icmp .ne 5
  refine v_icmp_ne 13 dX12_winnerOf_8 (by decide) (fun h8 => ?_) (fun h8 => ?_)
  · refine v_aload_n dX12_winnerOf_13 rfl ?_
    -- at 14: .invokevirtual 306
    refine v_scVv [] (c12_laysHold G M hS hP) k12_laysHold dX12_winnerOf_14 l12_306 (hS.1 _ _ rfl) (by decide) rfl (Nat.le_of_ble_eq_true rfl) (Nat.le_of_ble_eq_true rfl) (fun M2 hM2 => ?_)
    have hS' := hS.sm hM2.1
    have e2 : gI M2 231 = gI M 231 := hM2.1.K (fun _ => rfl)
    have hH := hM2.2
    rw [← e2] at hH
    refine v_iconst (-1) dX12_winnerOf_17 (by decide) ?_
    refine v_istore_n dX12_winnerOf_18 rfl (by decide) ?_
    refine v_iconst 0 dX12_winnerOf_19 (by decide) ?_
    refine v_istore_n dX12_winnerOf_20 rfl (by decide) ?_
    -- at 21: .iload_n 2
    refine v_pad ?_
    have := l12_winnerOf G M2 hS' (by rw [e2]; exact hP) (by rw [e2]; exact hI) (by rw [e2]; exact hU) (by rw [e2]; exact hC) hH (Q := Rs (some (.int (encP (winO (gI M 231))))) (Sm Wlh M)) ⟨by rw [e2, winO, if_neg h8], hM2.1⟩ (kn (gI M2 231) 6) 0 none (by omega)
    exact this
  · refine v_iconst (-1) dX12_winnerOf_11 (by decide) ?_
    -- at 12: .ireturn
    refine v_iret dX12_winnerOf_12 rfl ⟨by rw [winO, if_pos (Decidable.not_not.mp h8)]; rfl, Sm.rf⟩
end RD
