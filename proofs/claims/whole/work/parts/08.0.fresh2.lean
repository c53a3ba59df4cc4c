/-! ===== the reference: fresh ===== -/
def gn0 (K : Nat → Int32) (c n : Nat) : Option (List Nat) := (cnd (wasM K c) (kn K 1) 0 n).find? (fun t => nwB K (fun i => nI (t.getD i 0)))
theorem gnR_0 (K : Nat → Int32) (c n : Nat) (p : Nat → Int32) : gnR K c (kn K 1) 0 n p = gn0 K c n := rfl
def frN (K : Nat → Int32) (c : Nat) : Nat → Nat → Option (Nat × List Nat)
  | 0, _ => none
  | i + 1, n => match gn0 K c n with
    | some t => some (n, t)
    | none => frN K c i (n + 1)
def frV (K : Nat → Int32) (w : Int32) (o : Option (Nat × List Nat)) : Int32 := match o with
  | none => -1
  | some (n, t) => if w = 0 then nI n else if w - 10 < K 1 then nI (t.getD (w - 10).toNatClampNeg 0) else -1
def okW (w : Int32) : Bool := decide (w = 0 ∨ (10 ≤ w ∧ w ≤ 15))
def frT (K : Nat → Int32) (c w : Int32) : Int32 := if inR (kn K 2) c = true then (if okW w = true then 0 else 2) else 1
theorem Sm.gq {M M' : mM} (h : Sm Wgn M M') : Sm Wq M M' := h.wk (fun q k z => by simp only [Wgn, Wq, Wlh, Bool.or_eq_false_iff] at z ⊢; exact ⟨⟨z.1.1.1.1.1.1.1, z.1.1.1.2⟩, z.2⟩)
section R80
variable (G : mG) (M : mM)
theorem l12_fresh (hS : Sh M) (hP : WP (gI M 231)) (hI : inOK (gI M 231)) (hH : HH M (gI M 231)) {c : Nat} (hc : c < kn (gI M 231) 2) {w : Int32} (hw : okW w = true) (r : Option (Nat × List Nat)) : ∀ i n M', n + i = 4 → Sm Wgn M M' → r = frN (gI M 231) c i n → V G Y12_fresh 13 0 0 (Rs (some (.int (frV (gI M 231) w r))) (Sm Wgn M)) NX 55 [some (.ref 230), some (.int (nI c)), some (.int w), some (.int (nI n))] [] M' := by
  have h14 := hP.2.1.2
  have h6 := hP.1.2.2
  intro i
  induction i with
  | zero =>
    intro n M' hn hM hr
    obtain rfl : n = 4 := by omega
    obtain rfl : r = none := hr
    refine v_iload_n dX12_fresh_55 rfl ?_
    refine v_iconst 3 dX12_fresh_56 (by decide) ?_
    refine v_icmp_gt 76 dX12_fresh_57 (by decide) (fun h57 => ?_) (fun h57 => absurd (by decide) h57)
    refine v_iload_n dX12_fresh_76 rfl ?_
    refine v_iconst 3 dX12_fresh_77 (by decide) ?_
    refine v_icmp_le 83 dX12_fresh_78 (by decide) (fun h78 => absurd h78 (by decide)) (fun h78 => ?_)
    refine v_iconst (-1) dX12_fresh_81 (by decide) ?_
    refine v_iret dX12_fresh_82 rfl ?_
    exact ⟨rfl, hM⟩
  | succ i ih =>
    intro n M' hn hM hr
    have hS' := hS.sm hM
    have eK : gI M' 231 = gI M 231 := hM.K (fun _ => rfl)
    have hcon := c12_goesNew_all G (gI M 231) (c := c) (by omega) (kn (gI M 231) 1) 0 n (by omega) (by omega) M' eK hS' hP hI (hH.gn hM)
    rw [gnR_0] at hcon
    rw [frN] at hr
    refine v_iload_n dX12_fresh_55 rfl ?_
    refine v_iconst 3 dX12_fresh_56 (by decide) ?_
    refine v_icmp_gt 76 dX12_fresh_57 (by decide) (fun h57 => absurd h57 (fun z => absurd ((nI_ltI (a := 3) (by decide) (by omega)).mp z) (by omega))) (fun h57 => ?_)
    refine v_aload_n dX12_fresh_60 rfl ?_
    refine v_iload_n dX12_fresh_61 rfl ?_
    refine v_iconst 0 dX12_fresh_62 (by decide) ?_
    refine v_iload_n dX12_fresh_63 rfl ?_
    skip
    refine v_scV [_, _, _] hcon k12_goesNew dX12_fresh_64 l12_444 (hS'.1 _ _ rfl) (by decide) rfl (by omega) (Nat.le_of_ble_eq_true rfl) (fun M3 hM3 => ?_)
    generalize gn0 (gI M 231) c n = o at hr hM3 ⊢
    cases o with
    | none =>
      rw [show bI ((none : Option (List Nat)).isSome = true) = 0 from rfl]
      refine v_if_ne 76 dX12_fresh_67 (by decide) (fun h67 => absurd rfl h67) (fun h67 => ?_)
      refine v_iinc 1 dX12_fresh_70 rfl (by decide) rfl (by decide) ?_
      refine v_goto 55 dX12_fresh_73 (by decide) ?_
      (rw [nI_1]; exact ih (n + 1) M3 (by omega) (hM.tr hM3.1) hr)
    | some t =>
      rw [show bI ((some t : Option (List Nat)).isSome = true) = 1 from rfl]
      obtain rfl : r = some (n, t) := hr
      have hS3 := hS'.sm hM3.1
      have e3 : gI M3 231 = gI M 231 := (hM3.1.K (fun _ => rfl)).trans eK
      have ht := hM3.2.2 t rfl
      by_cases hw0 : w = 0
      · subst hw0
        refine v_if_ne 76 dX12_fresh_67 (by decide) (fun h67 => ?_) (fun h67 => absurd (by decide) h67)
        refine v_iload_n dX12_fresh_76 rfl ?_
        refine v_iconst 3 dX12_fresh_77 (by decide) ?_
        refine v_icmp_le 83 dX12_fresh_78 (by decide) (fun h78 => ?_) (fun h78 => absurd ((nI_leI (b := 3) (by omega) (by decide)).mpr (by omega)) h78)
        refine v_iload_n dX12_fresh_83 rfl ?_
        refine v_if_ne 91 dX12_fresh_84 (by decide) (fun h84 => absurd rfl h84) (fun h84 => ?_)
        refine v_iload_n dX12_fresh_87 rfl ?_
        refine v_goto 117 dX12_fresh_88 (by decide) ?_
        refine v_iret dX12_fresh_117 rfl ?_
        exact ⟨rfl, hM.tr hM3.1⟩
      · obtain ⟨a, ha, rfl⟩ : ∃ a, a < 6 ∧ w = nI (10 + a) := by
          have h1 := (of_decide_eq_true hw).resolve_left hw0
          obtain ⟨k, hk, rfl⟩ := nI_of2 (M := 15) (n := 15) (by decide) (fun z => absurd (Int32.lt_of_lt_of_le (show (0 : Int32) < 10 by decide) h1.1) (fun y => absurd (Int32.lt_trans y z) (by decide))) h1.2
          have h2 := (nI_leI (a := 10) (by decide) (by omega)).mp h1.1
          exact ⟨k - 10, by omega, by rw [show 10 + (k - 10) = k by omega]⟩
        have e10 : nI (10 + a) - 10 = nI a := by rw [show (10 : Int32) = nI 10 from rfl, pk_sub (by omega), Nat.add_sub_cancel_left]
        have er : frV (gI M 231) (nI (10 + a)) (some (n, t)) = if a < kn (gI M 231) 1 then nI (t.getD a 0) else -1 := by
          simp only [frV]
          rw [if_neg hw0, e10, nI_clamp (by omega), hP.1.1]
          by_cases hz : a < kn (gI M 231) 1
          · rw [if_pos hz, if_pos (nI_lt hz (by omega))]
          · rw [if_neg hz, if_neg (nI_nlt (by omega) (by omega))]
        rw [er]
        by_cases hz : a < kn (gI M 231) 1
        · rw [if_pos hz]
          refine v_if_ne 76 dX12_fresh_67 (by decide) (fun h67 => ?_) (fun h67 => absurd (by decide) h67)
          refine v_iload_n dX12_fresh_76 rfl ?_
          refine v_iconst 3 dX12_fresh_77 (by decide) ?_
          refine v_icmp_le 83 dX12_fresh_78 (by decide) (fun h78 => ?_) (fun h78 => absurd ((nI_leI (b := 3) (by omega) (by decide)).mpr (by omega)) h78)
          refine v_iload_n dX12_fresh_83 rfl ?_
          refine v_if_ne 91 dX12_fresh_84 (by decide) (fun h84 => ?_) (fun h84 => (h84 hw0).elim)
          refine v_iload_n dX12_fresh_91 rfl ?_
          refine v_bipush 10 dX12_fresh_92 (by decide) ?_
          refine v_isub dX12_fresh_94 ?_
          rw [e10]
          refine v_aload_n dX12_fresh_95 rfl ?_
          refine v_getR 12 0 _ dX12_fresh_96 f12_9 (hS3.1 _ _ rfl) (by decide) (hS3.2 _ _ _ rfl) ?_
          refine v_iconst 1 dX12_fresh_99 (by decide) ?_
          refine v_ialdN 1 dX12_fresh_100 (hS3.1 _ _ rfl) rfl (by decide) ?_
          rw [e3, hP.1.1]
          refine v_icmp_ge 116 dX12_fresh_101 (by decide) (fun h101 => absurd ((nI_leI (by omega) (by omega)).mp h101) (by omega)) (fun h101 => ?_)
          refine v_aload_n dX12_fresh_104 rfl ?_
          refine v_getR 12 26 _ dX12_fresh_105 f12_51 (hS3.1 _ _ rfl) (by decide) (hS3.2 _ _ _ rfl) ?_
          refine v_iload_n dX12_fresh_108 rfl ?_
          refine v_bipush 10 dX12_fresh_109 (by decide) ?_
          refine v_isub dX12_fresh_111 ?_
          rw [e10]
          refine v_ialdN (a) dX12_fresh_112 (hS3.1 _ _ rfl) (by simp only [n_lit, pk_mul, nI_add]) ⟨by omega, by omega⟩ ?_
          rw [ht a (Nat.zero_le _) hz]
          refine v_goto 117 dX12_fresh_113 (by decide) ?_
          refine v_iret dX12_fresh_117 rfl ?_
          exact ⟨rfl, hM.tr hM3.1⟩
        · rw [if_neg hz]
          refine v_if_ne 76 dX12_fresh_67 (by decide) (fun h67 => ?_) (fun h67 => absurd (by decide) h67)
          refine v_iload_n dX12_fresh_76 rfl ?_
          refine v_iconst 3 dX12_fresh_77 (by decide) ?_
          refine v_icmp_le 83 dX12_fresh_78 (by decide) (fun h78 => ?_) (fun h78 => absurd ((nI_leI (b := 3) (by omega) (by decide)).mpr (by omega)) h78)
          refine v_iload_n dX12_fresh_83 rfl ?_
          refine v_if_ne 91 dX12_fresh_84 (by decide) (fun h84 => ?_) (fun h84 => (h84 hw0).elim)
          refine v_iload_n dX12_fresh_91 rfl ?_
          refine v_bipush 10 dX12_fresh_92 (by decide) ?_
          refine v_isub dX12_fresh_94 ?_
          rw [e10]
          refine v_aload_n dX12_fresh_95 rfl ?_
          refine v_getR 12 0 _ dX12_fresh_96 f12_9 (hS3.1 _ _ rfl) (by decide) (hS3.2 _ _ _ rfl) ?_
          refine v_iconst 1 dX12_fresh_99 (by decide) ?_
          refine v_ialdN 1 dX12_fresh_100 (hS3.1 _ _ rfl) rfl (by decide) ?_
          rw [e3, hP.1.1]
          refine v_icmp_ge 116 dX12_fresh_101 (by decide) (fun h101 => ?_) (fun h101 => absurd (nI_le (by omega) (by omega)) h101)
          refine v_iconst (-1) dX12_fresh_116 (by decide) ?_
          refine v_iret dX12_fresh_117 rfl ?_
          exact ⟨rfl, hM.tr hM3.1⟩
theorem c12_fresh (hS : Sh M) (hQ : WQ (gI M 231)) (c w : Int32) : Ct G Y12_fresh 13 0 0 [.ref 230, .int c, .int w] M (Rs (some (.int (if frT (gI M 231) c w = 0 then frV (gI M 231) w (frN (gI M 231) c.toNatClampNeg 4 0) else 0))) (Pq M (frT (gI M 231) c w))) NX := by
  obtain ⟨hP, hI, hU⟩ := hQ
  have hc1 := c12_isChestN G M hS hP c
  have hc2 : Ct G Y12_within 0 0 0 [.long w.toInt64, .long 10, .long 15] M (Rv (some (.int (bI (10 ≤ w ∧ w ≤ 15)))) M) NX := by
    have h := c12_within G M w.toInt64 10 15
    rw [bI_cong (show ((10 : Int64) ≤ w.toInt64 ∧ w.toInt64 ≤ 15) ↔ (10 ≤ w ∧ w ≤ 15) from within_c (a := 10) (b := 15))] at h
    exact h
  have bad : ∀ v, ¬ v ≤ 0 → frT (gI M 231) c w = v → V G Y12_fresh 13 0 0 (Rs (some (.int (if frT (gI M 231) c w = 0 then frV (gI M 231) w (frN (gI M 231) c.toNatClampNeg 4 0) else 0))) (Pq M (frT (gI M 231) c w))) NX 37 [some (.ref 230), some (.int c), some (.int w)] [.int v, .ref 230] M := by
    intro v hv e
    rw [e, if_neg (fun z => hv (by rw [z]; decide))]
    refine v_putI 12 4 dX12_fresh_37 f12_68 (by first | exact hS.1 _ _ rfl | exact hS'.1 _ _ rfl | assumption) (by decide) ?_
    refine v_aload_n dX12_fresh_40 rfl ?_
    refine v_getI 12 4 dX12_fresh_41 f12_68 (by first | exact hS.1 _ _ rfl | exact hS'.1 _ _ rfl | assumption) (by decide) ?_
    rw [gI_ss]
    refine v_if_le 49 dX12_fresh_44 (by decide) (fun h44 => absurd h44 hv) (fun h44 => ?_)
    refine v_iconst 0 dX12_fresh_47 (by decide) ?_
    refine v_iret dX12_fresh_48 rfl ?_
    exact ⟨rfl, Pq.st⟩
  have good : inR (kn (gI M 231) 2) c = true → okW w = true → V G Y12_fresh 13 0 0 (Rs (some (.int (if frT (gI M 231) c w = 0 then frV (gI M 231) w (frN (gI M 231) c.toNatClampNeg 4 0) else 0))) (Pq M (frT (gI M 231) c w))) NX 37 [some (.ref 230), some (.int c), some (.int w)] [.int 0, .ref 230] M := by
    intro h1 h2
    have e0 : frT (gI M 231) c w = 0 := by rw [frT, if_pos h1, if_pos h2]
    rw [e0, if_pos rfl]
    obtain ⟨j, hj, rfl, hj2⟩ := inR_of h1
    rw [nI_clamp hj2]
    refine v_putI 12 4 dX12_fresh_37 f12_68 (by first | exact hS.1 _ _ rfl | exact hS'.1 _ _ rfl | assumption) (by decide) ?_
    refine v_aload_n dX12_fresh_40 rfl ?_
    refine v_getI 12 4 dX12_fresh_41 f12_68 (by first | exact hS.1 _ _ rfl | exact hS'.1 _ _ rfl | assumption) (by decide) ?_
    rw [gI_ss]
    refine v_if_le 49 dX12_fresh_44 (by decide) (fun h44 => ?_) (fun h44 => absurd (by decide) h44)
    refine v_aload_n dX12_fresh_49 rfl ?_
    skip
    have e1 : gI (sI M 230 4 0) 231 = gI M 231 := gI_sr _ _ (by decide)
    refine v_scVv [] (c12_laysHold G (sI M 230 4 0) hS (by rw [e1]; exact hP)) k12_laysHold dX12_fresh_50 l12_306 (hS.1 _ _ rfl) (by decide) rfl (Nat.le_of_ble_eq_true rfl) (Nat.le_of_ble_eq_true rfl) (fun M2 hM2 => ?_)
    have hS' := Sh.sm (M := sI M 230 4 0) hS hM2.1
    have e2 : gI M2 231 = gI M 231 := (hM2.1.K (fun _ => rfl)).trans e1
    have hH := hM2.2
    rw [e1, ← e2] at hH
    have hpq := Pq.of hM2.1
    rw [← e2] at hP hI hU ⊢
    rw [← e2] at hj
    refine v_iconst 0 dX12_fresh_53 (by decide) ?_
    refine v_istore_n dX12_fresh_54 rfl (by decide) ?_
    -- at 55: .iload_n 3
    refine V.post (l12_fresh G M2 hS' hP hI hH hj h2 _ 4 0 M2 (by omega) Sm.rf rfl) (fun v M3 h => ⟨h.1, hpq.1.tr h.2.gq, (h.2.2.2.2.2 230 4 rfl).trans hpq.2⟩) (fun _ _ h => h)
  refine Ct.of k12_fresh.1 (Nat.le_of_ble_eq_true rfl) ?_
  by_cases h1 : inR (kn (gI M 231) 2) c = true
  · rw [bI_t h1] at hc1
    by_cases h0 : w = 0
    · subst h0
      refine v_aload_n dX12_fresh_0 rfl ?_
      refine v_aload_n dX12_fresh_1 rfl ?_
      refine v_iload_n dX12_fresh_2 rfl ?_
      refine v_i2l dX12_fresh_3 ?_
      refine v_cV [_] (hc1) k12_isChest dX12_fresh_4 l12_297 (by first | exact hS.1 _ _ rfl | exact hS'.1 _ _ rfl | assumption) (by decide) rfl (Nat.le_of_ble_eq_true rfl) (Nat.le_of_ble_eq_true rfl) ?_
      refine v_if_ne 14 dX12_fresh_7 (by decide) (fun h7 => ?_) (fun h7 => absurd (by decide) h7)
      refine v_iload_n dX12_fresh_14 rfl ?_
      refine v_if_eq 32 dX12_fresh_15 (by decide) (fun h15 => ?_) (fun h15 => absurd rfl h15)
      refine v_iconst 0 dX12_fresh_32 (by decide) ?_
      refine v_goto 37 dX12_fresh_33 (by decide) ?_
      exact good h1 rfl
    · by_cases h2 : 10 ≤ w ∧ w ≤ 15
      · rw [bI_t h2] at hc2
        refine v_aload_n dX12_fresh_0 rfl ?_
        refine v_aload_n dX12_fresh_1 rfl ?_
        refine v_iload_n dX12_fresh_2 rfl ?_
        refine v_i2l dX12_fresh_3 ?_
        refine v_cV [_] (hc1) k12_isChest dX12_fresh_4 l12_297 (by first | exact hS.1 _ _ rfl | exact hS'.1 _ _ rfl | assumption) (by decide) rfl (Nat.le_of_ble_eq_true rfl) (Nat.le_of_ble_eq_true rfl) ?_
        refine v_if_ne 14 dX12_fresh_7 (by decide) (fun h7 => ?_) (fun h7 => absurd (by decide) h7)
        refine v_iload_n dX12_fresh_14 rfl ?_
        refine v_if_eq 32 dX12_fresh_15 (by decide) (fun h15 => absurd h15 h0) (fun h15 => ?_)
        refine v_iload_n dX12_fresh_18 rfl ?_
        refine v_i2l dX12_fresh_19 ?_
        refine v_ldc2 10 dX12_fresh_20 K12_381 ?_
        refine v_ldc2 15 dX12_fresh_23 K12_448 ?_
        refine v_cS [_, _, _] (hc2) k12_within dX12_fresh_26 l12_132 rfl (Nat.le_of_ble_eq_true rfl) (Nat.le_of_ble_eq_true rfl) ?_
        refine v_if_eq 36 dX12_fresh_29 (by decide) (fun h29 => absurd h29 (by decide)) (fun h29 => ?_)
        refine v_iconst 0 dX12_fresh_32 (by decide) ?_
        refine v_goto 37 dX12_fresh_33 (by decide) ?_
        exact good h1 (decide_eq_true (Or.inr h2))
      · rw [bI_f h2] at hc2
        refine v_aload_n dX12_fresh_0 rfl ?_
        refine v_aload_n dX12_fresh_1 rfl ?_
        refine v_iload_n dX12_fresh_2 rfl ?_
        refine v_i2l dX12_fresh_3 ?_
        refine v_cV [_] (hc1) k12_isChest dX12_fresh_4 l12_297 (by first | exact hS.1 _ _ rfl | exact hS'.1 _ _ rfl | assumption) (by decide) rfl (Nat.le_of_ble_eq_true rfl) (Nat.le_of_ble_eq_true rfl) ?_
        refine v_if_ne 14 dX12_fresh_7 (by decide) (fun h7 => ?_) (fun h7 => absurd (by decide) h7)
        refine v_iload_n dX12_fresh_14 rfl ?_
        refine v_if_eq 32 dX12_fresh_15 (by decide) (fun h15 => absurd h15 h0) (fun h15 => ?_)
        refine v_iload_n dX12_fresh_18 rfl ?_
        refine v_i2l dX12_fresh_19 ?_
        refine v_ldc2 10 dX12_fresh_20 K12_381 ?_
        refine v_ldc2 15 dX12_fresh_23 K12_448 ?_
        refine v_cS [_, _, _] (hc2) k12_within dX12_fresh_26 l12_132 rfl (Nat.le_of_ble_eq_true rfl) (Nat.le_of_ble_eq_true rfl) ?_
        refine v_if_eq 36 dX12_fresh_29 (by decide) (fun h29 => ?_) (fun h29 => absurd rfl h29)
        refine v_iconst 2 dX12_fresh_36 (by decide) ?_
        exact bad 2 (by decide) (by rw [frT, if_pos h1, if_neg (fun z => (of_decide_eq_true z).elim h0 h2)])
  · rw [bI_f h1] at hc1
    refine v_aload_n dX12_fresh_0 rfl ?_
    refine v_aload_n dX12_fresh_1 rfl ?_
    refine v_iload_n dX12_fresh_2 rfl ?_
    refine v_i2l dX12_fresh_3 ?_
    refine v_cV [_] (hc1) k12_isChest dX12_fresh_4 l12_297 (by first | exact hS.1 _ _ rfl | exact hS'.1 _ _ rfl | assumption) (by decide) rfl (Nat.le_of_ble_eq_true rfl) (Nat.le_of_ble_eq_true rfl) ?_
    refine v_if_ne 14 dX12_fresh_7 (by decide) (fun h7 => absurd rfl h7) (fun h7 => ?_)
    refine v_iconst 1 dX12_fresh_10 (by decide) ?_
    refine v_goto 37 dX12_fresh_11 (by decide) ?_
    exact bad 1 (by decide) (by rw [frT, if_neg h1])
end R80
