/-! ===== the class LeastWords: fresh, count, trays ===== -/
theorem frN_le {K : Nat → Int32} {c : Nat} : ∀ f n0 n t, frN K c f n0 = some (n, t) → n ≤ n0 + f := by
  intro f
  induction f with
  | zero => intro n0 n t h; cases h
  | succ f ih =>
    intro n0 n t h
    rw [frN] at h
    cases hg : gn0 K c n0 with
    | some x =>
      rw [hg] at h
      simp only [Option.some.injEq, Prod.mk.injEq] at h
      omega
    | none =>
      rw [hg] at h
      have := ih (n0 + 1) n t h
      omega
/-- cells that a tray's call leaves alone -/
def Ky (M M' : mM) : Prop := gz M ≤ gz M' ∧ (∀ q, q < gz M → Fx q → ¬ (222 ≤ q ∧ q ≤ 229) → gT M' q = gT M q ∧ gI M' q = gI M q ∧ gJ M' q = gJ M q ∧ gR M' q = gR M q) ∧ gR M' 118 0 = gR M 118 0
theorem MR.gen {M M' : mM} {K : Nat → Int32} (h : MR M K) (hz : gz M' = gz M) (hT : gT M' = gT M) (hR : gR M' = gR M) (hI : ∀ q, (118 ≤ q ∧ q ≤ 192) ∨ 248 ≤ q → gI M' q = gI M q) (hJ : ∀ q, (118 ≤ q ∧ q ≤ 192) ∨ 248 ≤ q → gJ M' q = gJ M q) : MR M' K := by
  obtain ⟨hS, hW, h8, ⟨nx, hd⟩, p, cd, n, rd, l1, p0, p1, p2, p3⟩ := h
  have hpl : ∀ q, (p ≤ q ∧ q ≤ p + 6) ∨ q = cd → (118 ≤ q ∧ q ≤ 192) ∨ 248 ≤ q := by
    intro q hq
    unfold PlA at p3
    omega
  exact ⟨⟨fun q sh hq => by rw [hT]; exact hS.1 q sh hq, fun q k a hq => by rw [hR]; exact hS.2 q k a hq⟩, hW, by rw [hz]; exact h8, ⟨nx, hd.mv (fun a h1 h2 => hI a (Or.inl ⟨h1, h2⟩))⟩, p, cd, n, rd, l1, by rw [hR]; exact p0, p1.mv hT hR (hJ p (hpl p (Or.inl ⟨by omega, by omega⟩))) (fun q hq => hI q (hpl q hq)), p2.mv (hI p (hpl p (Or.inl ⟨by omega, by omega⟩))) (hI (p + 4) (hpl (p + 4) (Or.inl ⟨by omega, by omega⟩))), by unfold PlA at p3 ⊢; rw [hz]; exact p3⟩
theorem Ky.of {M M' : mM} (hz : gz M' = gz M) (hT : gT M' = gT M) (hR : gR M' = gR M) (hI : ∀ q, ¬ (222 ≤ q ∧ q ≤ 229) → gI M' q = gI M q) (hJ : ∀ q, ¬ (222 ≤ q ∧ q ≤ 229) → gJ M' q = gJ M q) : Ky M M' := ⟨by rw [hz]; exact Nat.le_refl _, fun q _ _ h => ⟨by rw [hT], hI q h, hJ q h, by rw [hR]⟩, by rw [hR]⟩
theorem Ky.kp {M M' : mM} (h : Kp M M') : Ky M M' := ⟨h.1, fun q a b _ => h.2.1 q a b, h.2.2⟩
def cnA (K : Nat → Int32) (tp x : Int32) : Int32 := if x < 0 ∨ 12 < x then -1 else match x.toNatClampNeg with
  | 0 => K 0
  | 1 => K 1
  | 2 => K 2
  | 3 => nI (pcn (kn K 93))
  | 4 => K 3
  | 5 => nI (pcn (kn K 95))
  | 6 => K 6
  | 7 => K 96
  | 8 => K 94
  | 9 => nI (cnt (kn K 6) (clP K))
  | 10 => K 5
  | 11 => K 8
  | _ => tp
theorem cnV_A (M : mM) (x : Int32) : cnV M x = cnA (gI M 231) (gI M 230 6) x := rfl
def trA (t s n : Int32) (A : Nat → Int32) : Nat → Int32 := if tTr t s n = 0 then uK A t.toNatClampNeg s else A
def wrA (A B : Nat → Int32) (t p : Int32) : Int32 := if tFA A t = 0 then (if inR (kn B t.toNatClampNeg) p = true then 0 else 3) else tFA A t
def wrJA (A B : Nat → Int32) (J : Nat → Int64) (t p : Int32) (v : Int64) : Nat → Int64 := fun j => if j = 30 * t.toNatClampNeg + p.toNatClampNeg then ctV (kn A t.toNatClampNeg) v else J j
section O9
variable (G : mG) (M : mM)
theorem c11_fault (hS : Sh M) (x : Int32) : Ct G Y11_fault 40 0 0 [.ref 100, .int x] M (Rv (some (.int (if x = 0 then gI M 100 2 else if x = 1 then gI M 100 3 else -1))) M) NX := by
  refine Ct.of k11_fault.1 (Nat.le_of_ble_eq_true rfl) ?_
  by_cases h0 : x = 0
  · rw [if_pos h0]
    refine v_iload_n dX11_fault_0 rfl ?_
    refine v_if_ne 11 dX11_fault_1 (by decide) (fun h1 => absurd h0 h1) (fun h1 => ?_)
    refine v_aload_n dX11_fault_4 rfl ?_
    refine v_getI 11 2 dX11_fault_5 f11_98 (by first | exact hS.1 _ _ rfl | assumption) (by decide) ?_
    refine v_goto 24 dX11_fault_8 (by decide) ?_
    refine v_iret dX11_fault_24 rfl ?_
    exact ⟨rfl, rfl⟩
  · rw [if_neg h0]
    by_cases h2 : x = 1
    · rw [if_pos h2]
      refine v_iload_n dX11_fault_0 rfl ?_
      refine v_if_ne 11 dX11_fault_1 (by decide) (fun h1 => ?_) (fun h1 => absurd (Decidable.not_not.mp h1) h0)
      refine v_iload_n dX11_fault_11 rfl ?_
      refine v_iconst 1 dX11_fault_12 (by decide) ?_
      refine v_icmp_ne 23 dX11_fault_13 (by decide) (fun h13 => absurd h2 h13) (fun h13 => ?_)
      refine v_aload_n dX11_fault_16 rfl ?_
      refine v_getI 11 3 dX11_fault_17 f11_13 (by first | exact hS.1 _ _ rfl | assumption) (by decide) ?_
      refine v_goto 24 dX11_fault_20 (by decide) ?_
      refine v_iret dX11_fault_24 rfl ?_
      exact ⟨rfl, rfl⟩
    · rw [if_neg h2]
      refine v_iload_n dX11_fault_0 rfl ?_
      refine v_if_ne 11 dX11_fault_1 (by decide) (fun h1 => ?_) (fun h1 => absurd (Decidable.not_not.mp h1) h0)
      refine v_iload_n dX11_fault_11 rfl ?_
      refine v_iconst 1 dX11_fault_12 (by decide) ?_
      refine v_icmp_ne 23 dX11_fault_13 (by decide) (fun h13 => ?_) (fun h13 => absurd (Decidable.not_not.mp h13) h2)
      refine v_iconst (-1) dX11_fault_23 (by decide) ?_
      refine v_iret dX11_fault_24 rfl ?_
      exact ⟨rfl, rfl⟩
theorem c11_fresh {K : Nat → Int32} (h : MR M K) (c w : Int32) : Ct G Y11_fresh 40 1 6 [.ref 100, .int c, .int w] M (Qt (frT K c w) (some (.int (frV K w (frN K c.toNatClampNeg 4 0)))) M K) (Xt [(1, nsE), (2, iaE)] (frT K c w) M) := by
  have h0 := h
  have hs := h.sd
  obtain ⟨hS, hW, hz, hsc, p, cd, n, rd, l1, hp0, hp, hrd, hpa⟩ := h
  obtain ⟨ap1, ap2, ap3, ap4, ap5, ap6, ap7, ap8⟩ := hpa.ap hz
  have h14 := hW.p.2.1.2
  have h6 := hW.p.1.2.2
  refine Ct.of k11_fresh.1 (Nat.le_of_ble_eq_true rfl) ?_
  by_cases hc : inR (kn K 2) c = true
  · have q1 := c11_needChest G M h0 hc
    by_cases hw : okW w = true
    · rw [show frT K c w = 0 by rw [frT, if_pos hc, if_pos hw]]
      obtain ⟨j, hj, rfl, hj2⟩ := inR_of hc
      rw [nI_clamp hj2]
      have q2 := c2_make G M hS hp hrd ap6 hs (by omega) hW hj
      have mk : ∀ M2, Sm Wma (sR M 209 3 (some p)) M2 → Kp M M2 ∧ MR M2 K := fun M2 e => h0.hp e.1 e.2.1 (fun q hq => by rw [e.2.2.2.1, gR_sR]; exact up2_row hq) (fun k hk => by rw [e.2.2.2.1, gR_sR]; exact up2_k _ _ hk) (fun q hq => (e.row (Wma_o (by unfold Hq at hq; omega))).trans (by rw [gI_sR])) (fun q _ => by rw [e.2.2.1, gJ_sR])
      have hle := frN_le (K := K) (c := j) 4 0
      generalize frN K j 4 0 = o at *
      have hw2 := of_decide_eq_true hw
      by_cases w0 : w = 0
      · subst w0
        rw [show frV K 0 o = mkO o by cases o with
          | none => rfl
          | some x => obtain ⟨a, b⟩ := x; rfl]
        refine v_aload_n dX11_fresh_0 rfl ?_
        refine v_iload_n dX11_fresh_1 rfl ?_
        refine v_cVv [_] (q1) k11_needChest dX11_fresh_2 l11_113 (by first | exact hS.1 _ _ rfl | assumption) (by decide) rfl (Nat.le_of_ble_eq_true rfl) (Nat.le_of_ble_eq_true rfl) ?_
        refine v_iload_n dX11_fresh_5 rfl ?_
        refine v_bipush 10 dX11_fresh_6 (by decide) ?_
        refine v_isub dX11_fresh_8 ?_
        refine v_istore_n dX11_fresh_9 rfl (by decide) ?_
        refine v_iload_n dX11_fresh_10 rfl ?_
        refine v_if_eq 35 dX11_fresh_11 (by decide) (fun h11 => ?_) (fun h11 => absurd rfl h11)
        refine v_iload_n dX11_fresh_35 rfl ?_
        refine v_if_eq 55 dX11_fresh_36 (by decide) (fun h36 => ?_) (fun h36 => absurd rfl h36)
        refine v_aload_n dX11_fresh_55 rfl ?_
        refine v_getR 11 12 _ dX11_fresh_56 f11_72 (by first | exact hS.1 _ _ rfl | assumption) (by decide) (by first | exact hp0 | exact hS.2 _ _ _ rfl | assumption) ?_
        refine v_aload_n dX11_fresh_59 rfl ?_
        refine v_getR 11 6 _ dX11_fresh_60 f11_34 (by first | exact hS.1 _ _ rfl | assumption) (by decide) (by first | exact hp0 | exact hS.2 _ _ _ rfl | assumption) ?_
        refine v_getR 6 0 _ dX11_fresh_63 f11_130 (by first | exact hS.1 _ _ rfl | assumption) (by decide) (by first | exact hp0 | exact hS.2 _ _ _ rfl | assumption) ?_
        refine v_aload_n dX11_fresh_66 rfl ?_
        refine v_getR 11 6 _ dX11_fresh_67 f11_34 (by first | exact hS.1 _ _ rfl | assumption) (by decide) (by first | exact hp0 | exact hS.2 _ _ _ rfl | assumption) ?_
        refine v_getR 6 1 _ dX11_fresh_70 f11_119 (by first | exact hS.1 _ _ rfl | assumption) (by decide) (by first | exact hp0 | exact hS.2 _ _ _ rfl | assumption) ?_
        refine v_iload_n dX11_fresh_73 rfl ?_
        refine v_scV [_, _, _] (q2) k2_make dX11_fresh_74 l11_342 (by first | exact hS.1 _ _ rfl | assumption) (by decide) rfl (Nat.le_of_ble_eq_true rfl) (Nat.le_of_ble_eq_true rfl) ?_
        intro M2 hM2; have mm := mk M2 hM2.1
        refine v_istore dX11_fresh_77 rfl (by decide) ?_
        refine v_iload_n dX11_fresh_79 rfl ?_
        refine v_if_eq 89 dX11_fresh_80 (by decide) (fun h80 => ?_) (fun h80 => absurd rfl h80)
        refine v_iload dX11_fresh_89 rfl ?_
        refine v_goto 106 dX11_fresh_91 (by decide) ?_
        refine v_iret dX11_fresh_106 rfl ?_
        exact ⟨rfl, rfl, mm.1, mm.2⟩
      · have hw3 := hw2.resolve_left w0
        obtain ⟨a, ha, rfl⟩ := nI_of2 (x := w) (M := 15) (n := 15) (by decide) (fun z => absurd (Int32.le_trans hw3.1 (Int32.le_of_lt z)) (by decide)) hw3.2
        have ha1 : 10 ≤ a := (nI_leI (a := 10) (by decide) (by omega)).mp hw3.1
        have e1 : nI a - 10 = nI (a - 10) := pk_sub (b := 10) ha1
        by_cases hm : a - 10 < kn K 1
        · have hm2 : nI (a - 10) < K 1 := by rw [hW.p.1.1]; exact nI_lt hm (by omega)
          cases o with
          | none =>
            refine v_aload_n dX11_fresh_0 rfl ?_
            refine v_iload_n dX11_fresh_1 rfl ?_
            refine v_cVv [_] (q1) k11_needChest dX11_fresh_2 l11_113 (by first | exact hS.1 _ _ rfl | assumption) (by decide) rfl (Nat.le_of_ble_eq_true rfl) (Nat.le_of_ble_eq_true rfl) ?_
            refine v_iload_n dX11_fresh_5 rfl ?_
            refine v_bipush 10 dX11_fresh_6 (by decide) ?_
            refine v_isub dX11_fresh_8 ?_
            rw [e1]
            refine v_istore_n dX11_fresh_9 rfl (by decide) ?_
            refine v_iload_n dX11_fresh_10 rfl ?_
            refine v_if_eq 35 dX11_fresh_11 (by decide) (fun h11 => absurd h11 w0) (fun h11 => ?_)
            refine v_iload_n dX11_fresh_14 rfl ?_
            refine v_if_lt 24 dX11_fresh_15 (by decide) (fun h15 => absurd h15 (nI_pos (by omega))) (fun h15 => ?_)
            refine v_iload_n dX11_fresh_18 rfl ?_
            refine v_bipush 6 dX11_fresh_19 (by decide) ?_
            refine v_icmp_lt 35 dX11_fresh_21 (by decide) (fun h21 => ?_) (fun h21 => absurd (nI_lt (b := 6) (by omega) (by decide)) h21)
            refine v_iload_n dX11_fresh_35 rfl ?_
            refine v_if_eq 55 dX11_fresh_36 (by decide) (fun h36 => absurd h36 w0) (fun h36 => ?_)
            refine v_iload_n dX11_fresh_39 rfl ?_
            refine v_aload_n dX11_fresh_40 rfl ?_
            refine v_getR 11 6 _ dX11_fresh_41 f11_34 (by first | exact hS.1 _ _ rfl | assumption) (by decide) (by first | exact hp0 | exact hS.2 _ _ _ rfl | assumption) ?_
            refine v_getR 6 0 _ dX11_fresh_44 f11_130 (by first | exact hS.1 _ _ rfl | assumption) (by decide) (by first | exact hp0 | exact hS.2 _ _ _ rfl | assumption) ?_
            refine v_getI 4 1 dX11_fresh_47 f11_297 hp.1.1 (by decide) ?_
            rw [hp.2.1.2.1]
            refine v_icmp_lt 55 dX11_fresh_50 (by decide) (fun h50 => ?_) (fun h50 => absurd hm2 h50)
            refine v_aload_n dX11_fresh_55 rfl ?_
            refine v_getR 11 12 _ dX11_fresh_56 f11_72 (by first | exact hS.1 _ _ rfl | assumption) (by decide) (by first | exact hp0 | exact hS.2 _ _ _ rfl | assumption) ?_
            refine v_aload_n dX11_fresh_59 rfl ?_
            refine v_getR 11 6 _ dX11_fresh_60 f11_34 (by first | exact hS.1 _ _ rfl | assumption) (by decide) (by first | exact hp0 | exact hS.2 _ _ _ rfl | assumption) ?_
            refine v_getR 6 0 _ dX11_fresh_63 f11_130 (by first | exact hS.1 _ _ rfl | assumption) (by decide) (by first | exact hp0 | exact hS.2 _ _ _ rfl | assumption) ?_
            refine v_aload_n dX11_fresh_66 rfl ?_
            refine v_getR 11 6 _ dX11_fresh_67 f11_34 (by first | exact hS.1 _ _ rfl | assumption) (by decide) (by first | exact hp0 | exact hS.2 _ _ _ rfl | assumption) ?_
            refine v_getR 6 1 _ dX11_fresh_70 f11_119 (by first | exact hS.1 _ _ rfl | assumption) (by decide) (by first | exact hp0 | exact hS.2 _ _ _ rfl | assumption) ?_
            refine v_iload_n dX11_fresh_73 rfl ?_
            refine v_scV [_, _, _] (q2) k2_make dX11_fresh_74 l11_342 (by first | exact hS.1 _ _ rfl | assumption) (by decide) rfl (Nat.le_of_ble_eq_true rfl) (Nat.le_of_ble_eq_true rfl) ?_
            intro M2 hM2; have mm := mk M2 hM2.1
            refine v_istore dX11_fresh_77 rfl (by decide) ?_
            refine v_iload_n dX11_fresh_79 rfl ?_
            refine v_if_eq 89 dX11_fresh_80 (by decide) (fun h80 => absurd h80 w0) (fun h80 => ?_)
            refine v_iload dX11_fresh_83 rfl ?_
            refine v_iconst (-1) dX11_fresh_85 (by decide) ?_
            refine v_icmp_ne 94 dX11_fresh_86 (by decide) (fun h86 => absurd rfl h86) (fun h86 => ?_)
            refine v_iload dX11_fresh_89 rfl ?_
            refine v_goto 106 dX11_fresh_91 (by decide) ?_
            refine v_iret dX11_fresh_106 rfl ?_
            exact ⟨rfl, rfl, mm.1, mm.2⟩
          | some y =>
            obtain ⟨b, t⟩ := y
            have hb : ¬ mkO (some (b, t)) = -1 := nI_m1 (by have := hle b t rfl; omega)
            rw [show frV K (nI a) (some (b, t)) = nI (t.getD (a - 10) 0) by rw [frV, if_neg w0, e1, if_pos hm2, nI_clamp (by omega)]]
            refine v_aload_n dX11_fresh_0 rfl ?_
            refine v_iload_n dX11_fresh_1 rfl ?_
            refine v_cVv [_] (q1) k11_needChest dX11_fresh_2 l11_113 (by first | exact hS.1 _ _ rfl | assumption) (by decide) rfl (Nat.le_of_ble_eq_true rfl) (Nat.le_of_ble_eq_true rfl) ?_
            refine v_iload_n dX11_fresh_5 rfl ?_
            refine v_bipush 10 dX11_fresh_6 (by decide) ?_
            refine v_isub dX11_fresh_8 ?_
            rw [e1]
            refine v_istore_n dX11_fresh_9 rfl (by decide) ?_
            refine v_iload_n dX11_fresh_10 rfl ?_
            refine v_if_eq 35 dX11_fresh_11 (by decide) (fun h11 => absurd h11 w0) (fun h11 => ?_)
            refine v_iload_n dX11_fresh_14 rfl ?_
            refine v_if_lt 24 dX11_fresh_15 (by decide) (fun h15 => absurd h15 (nI_pos (by omega))) (fun h15 => ?_)
            refine v_iload_n dX11_fresh_18 rfl ?_
            refine v_bipush 6 dX11_fresh_19 (by decide) ?_
            refine v_icmp_lt 35 dX11_fresh_21 (by decide) (fun h21 => ?_) (fun h21 => absurd (nI_lt (b := 6) (by omega) (by decide)) h21)
            refine v_iload_n dX11_fresh_35 rfl ?_
            refine v_if_eq 55 dX11_fresh_36 (by decide) (fun h36 => absurd h36 w0) (fun h36 => ?_)
            refine v_iload_n dX11_fresh_39 rfl ?_
            refine v_aload_n dX11_fresh_40 rfl ?_
            refine v_getR 11 6 _ dX11_fresh_41 f11_34 (by first | exact hS.1 _ _ rfl | assumption) (by decide) (by first | exact hp0 | exact hS.2 _ _ _ rfl | assumption) ?_
            refine v_getR 6 0 _ dX11_fresh_44 f11_130 (by first | exact hS.1 _ _ rfl | assumption) (by decide) (by first | exact hp0 | exact hS.2 _ _ _ rfl | assumption) ?_
            refine v_getI 4 1 dX11_fresh_47 f11_297 hp.1.1 (by decide) ?_
            rw [hp.2.1.2.1]
            refine v_icmp_lt 55 dX11_fresh_50 (by decide) (fun h50 => ?_) (fun h50 => absurd hm2 h50)
            refine v_aload_n dX11_fresh_55 rfl ?_
            refine v_getR 11 12 _ dX11_fresh_56 f11_72 (by first | exact hS.1 _ _ rfl | assumption) (by decide) (by first | exact hp0 | exact hS.2 _ _ _ rfl | assumption) ?_
            refine v_aload_n dX11_fresh_59 rfl ?_
            refine v_getR 11 6 _ dX11_fresh_60 f11_34 (by first | exact hS.1 _ _ rfl | assumption) (by decide) (by first | exact hp0 | exact hS.2 _ _ _ rfl | assumption) ?_
            refine v_getR 6 0 _ dX11_fresh_63 f11_130 (by first | exact hS.1 _ _ rfl | assumption) (by decide) (by first | exact hp0 | exact hS.2 _ _ _ rfl | assumption) ?_
            refine v_aload_n dX11_fresh_66 rfl ?_
            refine v_getR 11 6 _ dX11_fresh_67 f11_34 (by first | exact hS.1 _ _ rfl | assumption) (by decide) (by first | exact hp0 | exact hS.2 _ _ _ rfl | assumption) ?_
            refine v_getR 6 1 _ dX11_fresh_70 f11_119 (by first | exact hS.1 _ _ rfl | assumption) (by decide) (by first | exact hp0 | exact hS.2 _ _ _ rfl | assumption) ?_
            refine v_iload_n dX11_fresh_73 rfl ?_
            refine v_scV [_, _, _] (q2) k2_make dX11_fresh_74 l11_342 (by first | exact hS.1 _ _ rfl | assumption) (by decide) rfl (Nat.le_of_ble_eq_true rfl) (Nat.le_of_ble_eq_true rfl) ?_
            intro M2 hM2; have mm := mk M2 hM2.1; have hS' := mm.2.1; have hv := hM2.2 b t rfl (a - 10) hm
            refine v_istore dX11_fresh_77 rfl (by decide) ?_
            refine v_iload_n dX11_fresh_79 rfl ?_
            refine v_if_eq 89 dX11_fresh_80 (by decide) (fun h80 => absurd h80 w0) (fun h80 => ?_)
            refine v_iload dX11_fresh_83 rfl ?_
            refine v_iconst (-1) dX11_fresh_85 (by decide) ?_
            refine v_icmp_ne 94 dX11_fresh_86 (by decide) (fun h86 => ?_) (fun h86 => absurd (Decidable.not_not.mp h86) hb)
            refine v_aload_n dX11_fresh_94 rfl ?_
            refine v_getR 11 12 _ dX11_fresh_95 f11_72 (hS'.1 _ _ rfl) (by decide) (hS'.2 _ _ _ rfl) ?_
            refine v_getR 2 0 _ dX11_fresh_98 f11_346 (hS'.1 _ _ rfl) (by decide) (hS'.2 _ _ _ rfl) ?_
            refine v_getR 5 0 _ dX11_fresh_101 f11_349 (hS'.1 _ _ rfl) (by decide) (hS'.2 _ _ _ rfl) ?_
            refine v_iload_n dX11_fresh_104 rfl ?_
            refine v_ialdN (a - 10) dX11_fresh_105 (hS'.1 _ _ rfl) (by simp only [n_lit, pk_mul, nI_add]) ⟨by omega, by omega⟩ ?_
            rw [hv]
            refine v_iret dX11_fresh_106 rfl ?_
            exact ⟨rfl, rfl, mm.1, mm.2⟩
        · have hm2 : ¬ nI (a - 10) < K 1 := by rw [hW.p.1.1]; exact nI_nlt (by omega) (by omega)
          rw [show frV K (nI a) o = -1 by cases o with
            | none => rfl
            | some x => obtain ⟨b, t⟩ := x; rw [frV, if_neg w0, e1, if_neg hm2]]
          refine v_aload_n dX11_fresh_0 rfl ?_
          refine v_iload_n dX11_fresh_1 rfl ?_
          refine v_cVv [_] (q1) k11_needChest dX11_fresh_2 l11_113 (by first | exact hS.1 _ _ rfl | assumption) (by decide) rfl (Nat.le_of_ble_eq_true rfl) (Nat.le_of_ble_eq_true rfl) ?_
          refine v_iload_n dX11_fresh_5 rfl ?_
          refine v_bipush 10 dX11_fresh_6 (by decide) ?_
          refine v_isub dX11_fresh_8 ?_
          rw [e1]
          refine v_istore_n dX11_fresh_9 rfl (by decide) ?_
          refine v_iload_n dX11_fresh_10 rfl ?_
          refine v_if_eq 35 dX11_fresh_11 (by decide) (fun h11 => absurd h11 w0) (fun h11 => ?_)
          refine v_iload_n dX11_fresh_14 rfl ?_
          refine v_if_lt 24 dX11_fresh_15 (by decide) (fun h15 => absurd h15 (nI_pos (by omega))) (fun h15 => ?_)
          refine v_iload_n dX11_fresh_18 rfl ?_
          refine v_bipush 6 dX11_fresh_19 (by decide) ?_
          refine v_icmp_lt 35 dX11_fresh_21 (by decide) (fun h21 => ?_) (fun h21 => absurd (nI_lt (b := 6) (by omega) (by decide)) h21)
          refine v_iload_n dX11_fresh_35 rfl ?_
          refine v_if_eq 55 dX11_fresh_36 (by decide) (fun h36 => absurd h36 w0) (fun h36 => ?_)
          refine v_iload_n dX11_fresh_39 rfl ?_
          refine v_aload_n dX11_fresh_40 rfl ?_
          refine v_getR 11 6 _ dX11_fresh_41 f11_34 (by first | exact hS.1 _ _ rfl | assumption) (by decide) (by first | exact hp0 | exact hS.2 _ _ _ rfl | assumption) ?_
          refine v_getR 6 0 _ dX11_fresh_44 f11_130 (by first | exact hS.1 _ _ rfl | assumption) (by decide) (by first | exact hp0 | exact hS.2 _ _ _ rfl | assumption) ?_
          refine v_getI 4 1 dX11_fresh_47 f11_297 hp.1.1 (by decide) ?_
          rw [hp.2.1.2.1]
          refine v_icmp_lt 55 dX11_fresh_50 (by decide) (fun h50 => absurd h50 hm2) (fun h50 => ?_)
          refine v_iconst (-1) dX11_fresh_53 (by decide) ?_
          refine v_iret dX11_fresh_54 rfl ?_
          exact ⟨rfl, rfl, Kp.rf, h0⟩
    · have ht : frT K c w = 2 := by rw [frT, if_pos hc, if_neg hw]
      rw [ht]
      have hw2 : ¬ (w = 0 ∨ (10 ≤ w ∧ w ≤ 15)) := fun z => hw (decide_eq_true z)
      have key : ¬ w - 10 < 0 → w - 10 < 6 → ¬ w = 0 → False := by
        intro k1 k2 k3
        obtain ⟨a, ha, e⟩ := nI_of k1
        have e2 : w = nI (a + 10) := by
          have : w - 10 + 10 = nI a + 10 := by rw [e]
          rw [Int32.sub_add_cancel] at this
          rw [this]; exact nI_add a 10
        have h6' : a < 6 := by rw [e] at k2; exact (nI_ltI (b := 6) ha (by decide)).mp k2
        exact hw2 (Or.inr ⟨by rw [e2]; exact nI_le (a := 10) (by omega) (by omega), by rw [e2]; exact nI_le (b := 15) (by omega) (by decide)⟩)
      refine v_aload_n dX11_fresh_0 rfl ?_
      refine v_iload_n dX11_fresh_1 rfl ?_
      refine v_cVv [_] (q1) k11_needChest dX11_fresh_2 l11_113 (by first | exact hS.1 _ _ rfl | assumption) (by decide) rfl (Nat.le_of_ble_eq_true rfl) (Nat.le_of_ble_eq_true rfl) ?_
      refine v_iload_n dX11_fresh_5 rfl ?_
      refine v_bipush 10 dX11_fresh_6 (by decide) ?_
      refine v_isub dX11_fresh_8 ?_
      refine v_istore_n dX11_fresh_9 rfl (by decide) ?_
      refine v_iload_n dX11_fresh_10 rfl ?_
      refine v_if_eq 35 dX11_fresh_11 (by decide) (fun h11 => absurd (Or.inl h11) hw2) (fun h11 => ?_)
      refine v_iload_n dX11_fresh_14 rfl ?_
      refine v_if_lt 24 dX11_fresh_15 (by decide) (fun h15 => ?_) (fun h15 => ?_)
      · exact V.post (v_throwW (cls := iaE) (text := "no such question") rfl (by decide +kernel) at_iaek (by decide +kernel) at_iae dX11_fresh_24 dX11_fresh_27 dX11_fresh_28 dX11_fresh_31 dX11_fresh_34 (by decide) (by decide) Tg.mk : V G Y11_fresh 40 1 6 (fun _ _ => False) (Tg iaE M) 24 _ _ M) (fun _ _ h => h.elim) (fun E M' he => Xt.of he (by simp))
      · refine v_iload_n dX11_fresh_18 rfl ?_
        refine v_bipush 6 dX11_fresh_19 (by decide) ?_
        refine v_icmp_lt 35 dX11_fresh_21 (by decide) (fun h21 => absurd (key h15 h21 h11) id) (fun h21 => ?_)
        exact V.post (v_throwW (cls := iaE) (text := "no such question") rfl (by decide +kernel) at_iaek (by decide +kernel) at_iae dX11_fresh_24 dX11_fresh_27 dX11_fresh_28 dX11_fresh_31 dX11_fresh_34 (by decide) (by decide) Tg.mk : V G Y11_fresh 40 1 6 (fun _ _ => False) (Tg iaE M) 24 _ _ M) (fun _ _ h => h.elim) (fun E M' he => Xt.of he (by simp))
  · have ht : frT K c w = 1 := if_neg hc
    rw [ht]
    refine v_aload_n dX11_fresh_0 rfl ?_
    refine v_iload_n dX11_fresh_1 rfl ?_
    refine v_callV [_] (c11_needChestF G M h0 hc) k11_needChest dX11_fresh_2 l11_113 (by first | exact hS.1 _ _ rfl | assumption) (by decide) rfl (Nat.le_of_ble_eq_true rfl) (Nat.le_of_ble_eq_true rfl) (fun _ _ h => h.elim) (fun E M9 he => ?_)
    exact Xt.of he (by simp)
theorem c11_count {K : Nat → Int32} (h : MR M K) (x : Int32) : Ct G Y11_count 40 0 0 [.ref 100, .int x] M (Rv (some (.int (cnA K (gI M 100 1) x))) M) NX := by
  have hs := h.sd
  obtain ⟨hS, hW, hz, ⟨nx, hd⟩, p, cd, n, rd, l1, hp0, hp, hrd, hpa⟩ := h
  have h14 := hW.p.2.1.2
  have h10 := hW.p.2.2.1.2
  have hp2 : 2 ^ kn K 2 ≤ 16384 := (show 2 ^ kn K 2 ≤ 2 ^ 14 from Nat.pow_le_pow_right (by decide) h14)
  have hp3 : 2 ^ kn K 3 ≤ 1024 := Nat.pow_le_pow_right (n := 2) (by decide) h10
  have i2 := hW.i.2
  have u2 := hW.u.2
  refine Ct.of k11_count.1 (Nat.le_of_ble_eq_true rfl) ?_
  refine v_iload_n dX11_count_0 rfl ?_
  -- at 1: .tableswitch 215 0 12 #[67, 78, 89, 100, 114, 125, 139, 150, 161, 180, 191, 202, 210]
  by_cases hx : x < 0 ∨ 12 < x
  · rw [cnA, if_pos hx]
    refine v_tableOut 216 dX11_count_1 ?_ (by decide) ?_
    · rcases hx with h | h
      · exact Or.inl (by rw [Int32.lt_iff_toInt_lt] at h; simpa using h)
      · exact Or.inr (by rw [Int32.lt_iff_toInt_lt] at h; simpa using h)
    · refine v_iconst (-1) dX11_count_216 (by decide) ?_
      refine v_iret dX11_count_217 rfl ?_
      exact ⟨rfl, rfl⟩
  · rw [cnA, if_neg hx]
    obtain ⟨j, hj, rfl⟩ := nI_of2 (M := 12) (n := 12) (by decide) (fun z => hx (Or.inl z)) (Int32.not_lt.mp (fun z => hx (Or.inr z)))
    rw [nI_clamp (by omega)]
    obtain rfl | rfl | rfl | rfl | rfl | rfl | rfl | rfl | rfl | rfl | rfl | rfl | rfl : j = 0 ∨ j = 1 ∨ j = 2 ∨ j = 3 ∨ j = 4 ∨ j = 5 ∨ j = 6 ∨ j = 7 ∨ j = 8 ∨ j = 9 ∨ j = 10 ∨ j = 11 ∨ j = 12 := by omega
    · refine v_tableIn 68 dX11_count_1 (by decide) (by decide) rfl (by decide) ?_
      refine v_aload_n dX11_count_68 rfl ?_
      refine v_getR 11 6 _ dX11_count_69 f11_34 (by first | exact hS.1 _ _ rfl | assumption) (by decide) (by first | exact hp0 | exact hS.2 _ _ _ rfl | assumption) ?_
      refine v_getR 6 0 _ dX11_count_72 f11_130 (by first | exact hS.1 _ _ rfl | assumption) (by decide) (by first | exact hp0 | exact hS.2 _ _ _ rfl | assumption) ?_
      refine v_getI 4 0 dX11_count_75 f11_108 hp.1.1 (by decide) ?_
      refine v_iret dX11_count_78 rfl ?_
      exact ⟨by rw [hp.2.1.1] <;> rfl, rfl⟩
    · refine v_tableIn 79 dX11_count_1 (by decide) (by decide) rfl (by decide) ?_
      refine v_aload_n dX11_count_79 rfl ?_
      refine v_getR 11 6 _ dX11_count_80 f11_34 (by first | exact hS.1 _ _ rfl | assumption) (by decide) (by first | exact hp0 | exact hS.2 _ _ _ rfl | assumption) ?_
      refine v_getR 6 0 _ dX11_count_83 f11_130 (by first | exact hS.1 _ _ rfl | assumption) (by decide) (by first | exact hp0 | exact hS.2 _ _ _ rfl | assumption) ?_
      refine v_getI 4 1 dX11_count_86 f11_297 hp.1.1 (by decide) ?_
      refine v_iret dX11_count_89 rfl ?_
      exact ⟨by rw [hp.2.1.2.1] <;> rfl, rfl⟩
    · refine v_tableIn 90 dX11_count_1 (by decide) (by decide) rfl (by decide) ?_
      refine v_aload_n dX11_count_90 rfl ?_
      refine v_getR 11 6 _ dX11_count_91 f11_34 (by first | exact hS.1 _ _ rfl | assumption) (by decide) (by first | exact hp0 | exact hS.2 _ _ _ rfl | assumption) ?_
      refine v_getR 6 0 _ dX11_count_94 f11_130 (by first | exact hS.1 _ _ rfl | assumption) (by decide) (by first | exact hp0 | exact hS.2 _ _ _ rfl | assumption) ?_
      refine v_getI 4 2 dX11_count_97 f11_208 hp.1.1 (by decide) ?_
      refine v_iret dX11_count_100 rfl ?_
      exact ⟨by rw [hp.2.1.2.2.1] <;> rfl, rfl⟩
    · refine v_tableIn 101 dX11_count_1 (by decide) (by decide) rfl (by decide) ?_
      refine v_aload_n dX11_count_101 rfl ?_
      refine v_getR 11 6 _ dX11_count_102 f11_34 (by first | exact hS.1 _ _ rfl | assumption) (by decide) (by first | exact hp0 | exact hS.2 _ _ _ rfl | assumption) ?_
      refine v_getR 6 1 _ dX11_count_105 f11_119 (by first | exact hS.1 _ _ rfl | assumption) (by decide) (by first | exact hp0 | exact hS.2 _ _ _ rfl | assumption) ?_
      refine v_getI 7 5 dX11_count_108 f11_288 (by first | exact hS.1 _ _ rfl | assumption) (by decide) ?_
      rw [hs.2.2.2.1, hW.i.1]
      refine v_cS [_] (cJ_bitCount G M _) kJ_bitCount dX11_count_111 l11_152 rfl (Nat.le_of_ble_eq_true rfl) (Nat.le_of_ble_eq_true rfl) ?_
      refine v_iret dX11_count_114 rfl ?_
      exact ⟨by rw [bcI_n (by omega)] <;> rfl, rfl⟩
    · refine v_tableIn 115 dX11_count_1 (by decide) (by decide) rfl (by decide) ?_
      refine v_aload_n dX11_count_115 rfl ?_
      refine v_getR 11 6 _ dX11_count_116 f11_34 (by first | exact hS.1 _ _ rfl | assumption) (by decide) (by first | exact hp0 | exact hS.2 _ _ _ rfl | assumption) ?_
      refine v_getR 6 0 _ dX11_count_119 f11_130 (by first | exact hS.1 _ _ rfl | assumption) (by decide) (by first | exact hp0 | exact hS.2 _ _ _ rfl | assumption) ?_
      refine v_getI 4 4 dX11_count_122 f11_352 hp.1.1 (by decide) ?_
      refine v_iret dX11_count_125 rfl ?_
      exact ⟨by rw [hp.2.1.2.2.2.1] <;> rfl, rfl⟩
    · refine v_tableIn 126 dX11_count_1 (by decide) (by decide) rfl (by decide) ?_
      refine v_aload_n dX11_count_126 rfl ?_
      refine v_getR 11 6 _ dX11_count_127 f11_34 (by first | exact hS.1 _ _ rfl | assumption) (by decide) (by first | exact hp0 | exact hS.2 _ _ _ rfl | assumption) ?_
      refine v_getR 6 1 _ dX11_count_130 f11_119 (by first | exact hS.1 _ _ rfl | assumption) (by decide) (by first | exact hp0 | exact hS.2 _ _ _ rfl | assumption) ?_
      refine v_getI 7 7 dX11_count_133 f11_170 (by first | exact hS.1 _ _ rfl | assumption) (by decide) ?_
      rw [hs.2.2.2.2.2.1, hW.u.1]
      refine v_cS [_] (cJ_bitCount G M _) kJ_bitCount dX11_count_136 l11_152 rfl (Nat.le_of_ble_eq_true rfl) (Nat.le_of_ble_eq_true rfl) ?_
      refine v_iret dX11_count_139 rfl ?_
      exact ⟨by rw [bcI_n (by omega)] <;> rfl, rfl⟩
    · refine v_tableIn 140 dX11_count_1 (by decide) (by decide) rfl (by decide) ?_
      refine v_aload_n dX11_count_140 rfl ?_
      refine v_getR 11 6 _ dX11_count_141 f11_34 (by first | exact hS.1 _ _ rfl | assumption) (by decide) (by first | exact hp0 | exact hS.2 _ _ _ rfl | assumption) ?_
      refine v_getR 6 0 _ dX11_count_144 f11_130 (by first | exact hS.1 _ _ rfl | assumption) (by decide) (by first | exact hp0 | exact hS.2 _ _ _ rfl | assumption) ?_
      refine v_getI 4 8 dX11_count_147 f11_393 hp.1.1 (by decide) ?_
      refine v_iret dX11_count_150 rfl ?_
      exact ⟨by rw [hp.2.1.2.2.2.2.2.2] <;> rfl, rfl⟩
    · refine v_tableIn 151 dX11_count_1 (by decide) (by decide) rfl (by decide) ?_
      refine v_aload_n dX11_count_151 rfl ?_
      refine v_getR 11 6 _ dX11_count_152 f11_34 (by first | exact hS.1 _ _ rfl | assumption) (by decide) (by first | exact hp0 | exact hS.2 _ _ _ rfl | assumption) ?_
      refine v_getR 6 1 _ dX11_count_155 f11_119 (by first | exact hS.1 _ _ rfl | assumption) (by decide) (by first | exact hp0 | exact hS.2 _ _ _ rfl | assumption) ?_
      refine v_getI 7 6 dX11_count_158 f11_228 (by first | exact hS.1 _ _ rfl | assumption) (by decide) ?_
      refine v_iret dX11_count_161 rfl ?_
      exact ⟨by rw [hs.2.2.2.2.1] <;> rfl, rfl⟩
    · refine v_tableIn 162 dX11_count_1 (by decide) (by decide) rfl (by decide) ?_
      rcases hW.l with e | e
      · refine v_aload_n dX11_count_162 rfl ?_
        refine v_getR 11 6 _ dX11_count_163 f11_34 (by first | exact hS.1 _ _ rfl | assumption) (by decide) (by first | exact hp0 | exact hS.2 _ _ _ rfl | assumption) ?_
        refine v_getR 6 1 _ dX11_count_166 f11_119 (by first | exact hS.1 _ _ rfl | assumption) (by decide) (by first | exact hp0 | exact hS.2 _ _ _ rfl | assumption) ?_
        refine v_getI 7 8 dX11_count_169 f11_126 (by first | exact hS.1 _ _ rfl | assumption) (by decide) ?_
        rw [hs.2.2.2.2.2.2, e]
        refine v_if_eq 179 dX11_count_172 (by decide) (fun h172 => ?_) (fun h172 => absurd rfl h172)
        refine v_iconst 0 dX11_count_179 (by decide) ?_
        refine v_iret dX11_count_180 rfl ?_
        exact ⟨rfl, rfl⟩
      · refine v_aload_n dX11_count_162 rfl ?_
        refine v_getR 11 6 _ dX11_count_163 f11_34 (by first | exact hS.1 _ _ rfl | assumption) (by decide) (by first | exact hp0 | exact hS.2 _ _ _ rfl | assumption) ?_
        refine v_getR 6 1 _ dX11_count_166 f11_119 (by first | exact hS.1 _ _ rfl | assumption) (by decide) (by first | exact hp0 | exact hS.2 _ _ _ rfl | assumption) ?_
        refine v_getI 7 8 dX11_count_169 f11_126 (by first | exact hS.1 _ _ rfl | assumption) (by decide) ?_
        rw [hs.2.2.2.2.2.2, e]
        refine v_if_eq 179 dX11_count_172 (by decide) (fun h172 => absurd h172 (by decide)) (fun h172 => ?_)
        refine v_iconst 1 dX11_count_175 (by decide) ?_
        refine v_goto 180 dX11_count_176 (by decide) ?_
        refine v_iret dX11_count_180 rfl ?_
        exact ⟨rfl, rfl⟩
    · refine v_tableIn 181 dX11_count_1 (by decide) (by decide) rfl (by decide) ?_
      refine v_aload_n dX11_count_181 rfl ?_
      refine v_getR 11 6 _ dX11_count_182 f11_34 (by first | exact hS.1 _ _ rfl | assumption) (by decide) (by first | exact hp0 | exact hS.2 _ _ _ rfl | assumption) ?_
      refine v_getR 6 1 _ dX11_count_185 f11_119 (by first | exact hS.1 _ _ rfl | assumption) (by decide) (by first | exact hp0 | exact hS.2 _ _ _ rfl | assumption) ?_
      refine v_cV [] (c7_claimants G M hs hW) k7_claimants dX11_count_188 l11_396 (by first | exact hS.1 _ _ rfl | assumption) (by decide) rfl (Nat.le_of_ble_eq_true rfl) (Nat.le_of_ble_eq_true rfl) ?_
      refine v_iret dX11_count_191 rfl ?_
      exact ⟨rfl, rfl⟩
    · refine v_tableIn 192 dX11_count_1 (by decide) (by decide) rfl (by decide) ?_
      refine v_aload_n dX11_count_192 rfl ?_
      refine v_getR 11 6 _ dX11_count_193 f11_34 (by first | exact hS.1 _ _ rfl | assumption) (by decide) (by first | exact hp0 | exact hS.2 _ _ _ rfl | assumption) ?_
      refine v_getR 6 0 _ dX11_count_196 f11_130 (by first | exact hS.1 _ _ rfl | assumption) (by decide) (by first | exact hp0 | exact hS.2 _ _ _ rfl | assumption) ?_
      refine v_getI 4 7 dX11_count_199 f11_399 hp.1.1 (by decide) ?_
      refine v_iret dX11_count_202 rfl ?_
      exact ⟨by rw [hp.2.1.2.2.2.2.2.1] <;> rfl, rfl⟩
    · refine v_tableIn 203 dX11_count_1 (by decide) (by decide) rfl (by decide) ?_
      refine v_aload_n dX11_count_203 rfl ?_
      refine v_getR 11 6 _ dX11_count_204 f11_34 (by first | exact hS.1 _ _ rfl | assumption) (by decide) (by first | exact hp0 | exact hS.2 _ _ _ rfl | assumption) ?_
      refine v_getI 6 4 dX11_count_207 f11_257 (by first | exact hS.1 _ _ rfl | assumption) (by decide) ?_
      refine v_iret dX11_count_210 rfl ?_
      exact ⟨by rw [hd.2.1] <;> rfl, rfl⟩
    · refine v_tableIn 211 dX11_count_1 (by decide) (by decide) rfl (by decide) ?_
      refine v_aload_n dX11_count_211 rfl ?_
      refine v_getI 11 1 dX11_count_212 f11_77 (by first | exact hS.1 _ _ rfl | assumption) (by decide) ?_
      refine v_iret dX11_count_215 rfl ?_
      exact ⟨rfl, rfl⟩
theorem c11_tray {K : Nat → Int32} (h : MR M K) {A B : Nat → Int32} {J : Nat → Int64} (hT : MT M A B J) (t s n : Int32) : Ct G Y11_tray 40 1 6 [.ref 100, .int t, .int s, .int n] M (fun v M' => tTr t s n = 0 ∧ v = none ∧ Ky M M' ∧ MR M' K ∧ MT M' (uK A t.toNatClampNeg s) (uK B t.toNatClampNeg n) (trJ J t.toNatClampNeg)) (Xt [(1, nsE), (2, iaE)] (tTr t s n) M) := by
  have hS := h.1
  refine Ct.of k11_tray.1 (Nat.le_of_ble_eq_true rfl) ?_
  by_cases hr : inR 4 t = true
  · have hr0 := hr
    obtain ⟨j, hj, rfl, hj2⟩ := inR_of hr
    have q1 := c11_needTray G M hr0
    obtain ⟨t1, t2, t3, t4⟩ := hS.ty hj
    by_cases hs : inR 4 s = true ∧ inR 31 n = true
    · have ht : tTr (nI j) s n = 0 := by rw [tTr, if_pos hr0, if_pos hs]
      obtain ⟨a, ha, rfl, ha2⟩ := inR_of hs.1
      obtain ⟨b, hb, rfl, hb2⟩ := inR_of hs.2
      rw [ht, nI_clamp hj2]
      have q2 := c10_lay G M t1 t2 t3 (nI a) (nI b)
      obtain ⟨M2, eM2⟩ : ∃ M2, M2 = flJ (sI (sI (sI M (222 + 2 * j) 0 0) (222 + 2 * j) 3 (nI a)) (222 + 2 * j) 1 (nI b)) (223 + 2 * j) 30 0 := ⟨_, rfl⟩
      rw [← eM2] at q2
      have eI : ∀ q, q ≠ 222 + 2 * j → gI M2 q = gI M q := fun q hq => by
        rw [eM2]
        show gI (sI (sI (sI M (222 + 2 * j) 0 0) (222 + 2 * j) 3 (nI a)) (222 + 2 * j) 1 (nI b)) q = _
        rw [gI_sr _ _ hq, gI_sr _ _ hq, gI_sr _ _ hq]
      have eJ : ∀ q, q ≠ 223 + 2 * j → gJ M2 q = gJ M q := fun q hq => by
        rw [eM2]
        funext k
        exact if_neg (fun z => hq z.1)
      have hky : Ky M M2 := Ky.of (by rw [eM2]; rfl) (by rw [eM2]; rfl) (by rw [eM2]; rfl) (fun q hq => eI q (by omega)) (fun q hq => eJ q (by omega))
      have hmr : MR M2 K := h.gen (by rw [eM2]; rfl) (by rw [eM2]; rfl) (by rw [eM2]; rfl) (fun q hq => eI q (by omega)) (fun q hq => eJ q (by omega))
      have hmt : MT M2 (uK A j (nI a)) (uK B j (nI b)) (trJ J j) := by
        intro r hr
        by_cases e : r = j
        · subst e
          refine Or.inr ⟨by rw [uK_s]; exact nI_m1 (by omega), ?_, ?_, ?_, fun k hk => ?_⟩
          · rw [eM2]
            show gI (sI (sI (sI M (222 + 2 * r) 0 0) (222 + 2 * r) 3 (nI a)) (222 + 2 * r) 1 (nI b)) (222 + 2 * r) 0 = 0
            rw [gI_sk _ _ (by decide), gI_sk _ _ (by decide), gI_ss]
          · rw [eM2, uK_s]
            exact gI_ss _ _ _ _
          · rw [eM2, uK_s]
            show gI (sI (sI (sI M (222 + 2 * r) 0 0) (222 + 2 * r) 3 (nI a)) (222 + 2 * r) 1 (nI b)) (222 + 2 * r) 3 = nI a
            rw [gI_sk _ _ (by decide), gI_ss]
          · rw [eM2]
            refine (if_pos ⟨rfl, hk⟩ : _ = (0 : Int64)).trans ?_
            exact (if_pos (by omega)).symm
        · have h1 := hT r hr
          unfold TyR at h1 ⊢
          rw [eI _ (by omega), eJ _ (by omega), uK_n _ _ e, uK_n _ _ e]
          rcases h1 with h1 | ⟨h1, h2, h3, h4, h5⟩
          · exact Or.inl h1
          · exact Or.inr ⟨h1, h2, h3, h4, fun k hk => by rw [h5 k hk]; exact (if_neg (by omega)).symm⟩
      refine v_aload_n dX11_tray_0 rfl ?_
      refine v_iload_n dX11_tray_1 rfl ?_
      refine v_cVv [_] (q1) k11_needTray dX11_tray_2 l11_368 (by first | exact hS.1 _ _ rfl | assumption) (by decide) rfl (Nat.le_of_ble_eq_true rfl) (Nat.le_of_ble_eq_true rfl) ?_
      refine v_iload_n dX11_tray_5 rfl ?_
      refine v_if_lt 24 dX11_tray_6 (by decide) (fun h6 => absurd h6 (nI_pos ha2)) (fun h6 => ?_)
      refine v_iload_n dX11_tray_9 rfl ?_
      refine v_iconst 4 dX11_tray_10 (by decide) ?_
      refine v_icmp_ge 24 dX11_tray_11 (by decide) (fun h11 => absurd (nI_lt (b := 4) ha (by decide)) (Int32.not_lt.mpr h11)) (fun h11 => ?_)
      refine v_iload_n dX11_tray_14 rfl ?_
      refine v_if_lt 24 dX11_tray_15 (by decide) (fun h15 => absurd h15 (nI_pos hb2)) (fun h15 => ?_)
      refine v_iload_n dX11_tray_18 rfl ?_
      refine v_bipush 30 dX11_tray_19 (by decide) ?_
      refine v_icmp_le 35 dX11_tray_21 (by decide) (fun h21 => ?_) (fun h21 => absurd (nI_le (b := 30) (by omega) (by decide)) h21)
      refine v_aload_n dX11_tray_35 rfl ?_
      refine v_getR 11 8 _ dX11_tray_36 f11_44 (by first | exact hS.1 _ _ rfl | assumption) (by decide) (hS.2 _ _ _ rfl) ?_
      refine v_iload_n dX11_tray_39 rfl ?_
      refine v_aald _ dX11_tray_40 (by first | exact hS.1 _ _ rfl | assumption) (by decide) (vp_in_nI hj (by decide)) t4 ?_
      refine v_iload_n dX11_tray_41 rfl ?_
      refine v_iload_n dX11_tray_42 rfl ?_
      refine v_cVv [_, _] (q2) k10_lay dX11_tray_43 l11_373 t1 (by decide) rfl (Nat.le_of_ble_eq_true rfl) (Nat.le_of_ble_eq_true rfl) ?_
      refine v_vret dX11_tray_46 rfl ?_
      exact ⟨rfl, rfl, hky, hmr, hmt⟩
    · have ht : tTr (nI j) s n = 2 := by rw [tTr, if_pos hr0, if_neg hs]
      rw [ht]
      refine v_aload_n dX11_tray_0 rfl ?_
      refine v_iload_n dX11_tray_1 rfl ?_
      refine v_cVv [_] (q1) k11_needTray dX11_tray_2 l11_368 (by first | exact hS.1 _ _ rfl | assumption) (by decide) rfl (Nat.le_of_ble_eq_true rfl) (Nat.le_of_ble_eq_true rfl) ?_
      refine v_iload_n dX11_tray_5 rfl ?_
      refine v_if_lt 24 dX11_tray_6 (by decide) (fun h6 => ?_) (fun h6 => ?_)
      · exact V.post (v_throwW (cls := iaE) (text := "no such row") rfl (by decide +kernel) at_iaek (by decide +kernel) at_iae dX11_tray_24 dX11_tray_27 dX11_tray_28 dX11_tray_31 dX11_tray_34 (by decide) (by decide) Tg.mk : V G Y11_tray 40 1 6 (fun _ _ => False) (Tg iaE M) 24 _ _ M) (fun _ _ h => h.elim) (fun E M' he => Xt.of he (by simp))
      · refine v_iload_n dX11_tray_9 rfl ?_
        refine v_iconst 4 dX11_tray_10 (by decide) ?_
        refine v_icmp_ge 24 dX11_tray_11 (by decide) (fun h11 => ?_) (fun h11 => ?_)
        · exact V.post (v_throwW (cls := iaE) (text := "no such row") rfl (by decide +kernel) at_iaek (by decide +kernel) at_iae dX11_tray_24 dX11_tray_27 dX11_tray_28 dX11_tray_31 dX11_tray_34 (by decide) (by decide) Tg.mk : V G Y11_tray 40 1 6 (fun _ _ => False) (Tg iaE M) 24 _ _ M) (fun _ _ h => h.elim) (fun E M' he => Xt.of he (by simp))
        · refine v_iload_n dX11_tray_14 rfl ?_
          refine v_if_lt 24 dX11_tray_15 (by decide) (fun h15 => ?_) (fun h15 => ?_)
          · exact V.post (v_throwW (cls := iaE) (text := "no such row") rfl (by decide +kernel) at_iaek (by decide +kernel) at_iae dX11_tray_24 dX11_tray_27 dX11_tray_28 dX11_tray_31 dX11_tray_34 (by decide) (by decide) Tg.mk : V G Y11_tray 40 1 6 (fun _ _ => False) (Tg iaE M) 24 _ _ M) (fun _ _ h => h.elim) (fun E M' he => Xt.of he (by simp))
          · refine v_iload_n dX11_tray_18 rfl ?_
            refine v_bipush 30 dX11_tray_19 (by decide) ?_
            refine v_icmp_le 35 dX11_tray_21 (by decide) (fun h21 => absurd ⟨inR_mk (n := 4) h6 (Int32.not_le.mp h11) (by decide), inR_mkL (n := 30) h15 h21 (by decide)⟩ hs) (fun h21 => ?_)
            exact V.post (v_throwW (cls := iaE) (text := "no such row") rfl (by decide +kernel) at_iaek (by decide +kernel) at_iae dX11_tray_24 dX11_tray_27 dX11_tray_28 dX11_tray_31 dX11_tray_34 (by decide) (by decide) Tg.mk : V G Y11_tray 40 1 6 (fun _ _ => False) (Tg iaE M) 24 _ _ M) (fun _ _ h => h.elim) (fun E M' he => Xt.of he (by simp))
  · have ht : tTr t s n = 1 := if_neg hr
    rw [ht]
    refine v_aload_n dX11_tray_0 rfl ?_
    refine v_iload_n dX11_tray_1 rfl ?_
    refine v_callV [_] (c11_needTrayF G M hr) k11_needTray dX11_tray_2 l11_368 (by first | exact hS.1 _ _ rfl | assumption) (by decide) rfl (Nat.le_of_ble_eq_true rfl) (Nat.le_of_ble_eq_true rfl) (fun _ _ h => h.elim) (fun E M9 he => ?_)
    exact Xt.of he (by simp)
theorem MT.put {A B : Nat → Int32} {J : Nat → Int64} (hT : MT M A B J) {j k : Nat} (hj : j < 4) (hk : k < 30) (v : Int64) : MT (sJ M (223 + 2 * j) k v) A B (fun i => if i = 30 * j + k then v else J i) := by
  intro r hr
  have h1 := hT r hr
  unfold TyR at h1 ⊢
  rcases h1 with h1 | ⟨h1, h2, h3, h4, h5⟩
  · exact Or.inl h1
  · refine Or.inr ⟨h1, h2, h3, h4, fun i hi => ?_⟩
    by_cases e : r = j ∧ i = k
    · rw [e.1, e.2, gJ_ss]; exact (if_pos rfl).symm
    · show gJ (sJ M (223 + 2 * j) k v) (223 + 2 * r) i = if 30 * r + i = 30 * j + k then v else J (30 * r + i)
      rw [show (if 30 * r + i = 30 * j + k then v else J (30 * r + i)) = J (30 * r + i) from if_neg (by omega), ← h5 i hi, gJ_sJ]
      exact if_neg (fun z => e ⟨by omega, z.2⟩)
theorem Ky.put {K : Nat → Int32} (h : MR M K) {j k : Nat} (hj : j < 4) (v : Int64) : Ky M (sJ M (223 + 2 * j) k v) ∧ MR (sJ M (223 + 2 * j) k v) K := by
  have eJ : ∀ q, q ≠ 223 + 2 * j → gJ (sJ M (223 + 2 * j) k v) q = gJ M q := fun q hq => by rw [gJ_sJ]; exact up2_row hq
  exact ⟨Ky.of rfl rfl rfl (fun _ _ => rfl) (fun q hq => eJ q (by omega)), h.gen rfl rfl rfl (fun _ _ => rfl) (fun q hq => eJ q (by omega))⟩
theorem c11_write {K : Nat → Int32} (h : MR M K) {A B : Nat → Int32} {J : Nat → Int64} (hT : MT M A B J) (hA : ∀ t, t < 4 → (A t = -1 ∨ ∃ s, s < 4 ∧ A t = nI s)) (hB : ∀ t, t < 4 → B t = nI (kn B t) ∧ kn B t ≤ 30) (t p : Int32) (v : Int64) : Ct G Y11_write 40 1 6 [.ref 100, .int t, .int p, .long v] M (fun r M' => wrA A B t p = 0 ∧ r = some (.long (ctV (kn A t.toNatClampNeg) v)) ∧ Ky M M' ∧ MR M' K ∧ MT M' A B (wrJA A B J t p v)) (Xt [(1, nsE), (2, isE), (3, ioE)] (wrA A B t p) M) := by
  have hS := h.1
  refine Ct.of k11_write.1 (Nat.le_of_ble_eq_true rfl) ?_
  by_cases ht : tFA A t = 0
  · have ht0 := ht
    obtain ⟨j, hj, rfl, hj2, hAj⟩ := tFA_y ht
    have hy := (hT j hj).resolve_left (fun z => hAj z.1)
    have q0 := c11_filled G M hS hj hy.2.1
    obtain ⟨t1, t2, t3, t4⟩ := hS.ty hj
    obtain ⟨b1, b2⟩ := hB j hj
    obtain ⟨s, hs4, es⟩ := (hA j hj).resolve_left hAj
    have ek : kn A j = s := kn_n es (by omega)
    by_cases hp : inR (kn B j) p = true
    · have hw : wrA A B (nI j) p = 0 := by rw [wrA, if_pos ht0, nI_clamp hj2, if_pos hp]
      obtain ⟨k, hk, rfl, hk2⟩ := inR_of hp
      have m1 := Ky.put M h hj (k := k) (ctV s v)
      have m2 := MT.put M hT hj (k := k) (by omega) (ctV s v)
      have q2 := c10_cut G M t1 (by rw [hy.2.2.2.1]; exact es) hs4 v
      rw [hw, nI_clamp hj2, ek]
      have eW : wrJA A B J (nI j) (nI k) v = (fun i => if i = 30 * j + k then ctV s v else J i) := by unfold wrJA; rw [nI_clamp hj2, nI_clamp hk2, ek]
      rw [eW]
      refine v_aload_n dX11_write_0 rfl ?_
      refine v_iload_n dX11_write_1 rfl ?_
      refine v_cV [_] (q0) k11_needFilledTray dX11_write_2 l11_265 (by first | exact hS.1 _ _ rfl | assumption) (by decide) rfl (Nat.le_of_ble_eq_true rfl) (Nat.le_of_ble_eq_true rfl) ?_
      refine v_astore dX11_write_5 rfl (by decide) ?_
      refine v_iload_n dX11_write_7 rfl ?_
      refine v_if_lt 20 dX11_write_8 (by decide) (fun h8 => absurd h8 (nI_pos hk2)) (fun h8 => ?_)
      refine v_iload_n dX11_write_11 rfl ?_
      refine v_aload dX11_write_12 rfl ?_
      refine v_getI 10 1 dX11_write_14 f11_273 t1 (by decide) ?_
      rw [hy.2.2.1, b1]
      refine v_icmp_lt 31 dX11_write_17 (by decide) (fun h17 => ?_) (fun h17 => absurd (nI_lt hk (by omega)) h17)
      skip
      refine v_aload dX11_write_31 rfl ?_
      refine v_getR 10 2 _ dX11_write_33 f11_276 t1 (by decide) t2 ?_
      refine v_iload_n dX11_write_36 rfl ?_
      refine v_aload dX11_write_37 rfl ?_
      refine v_lload_n dX11_write_39 rfl ?_
      refine v_cV [_] (q2) k10_cut dX11_write_40 l11_381 t1 (by decide) rfl (Nat.le_of_ble_eq_true rfl) (Nat.le_of_ble_eq_true rfl) ?_
      refine v_lastN (k) dX11_write_43 t3 (by simp only [n_lit, pk_mul, nI_add]) ⟨by omega, by omega⟩ ?_
      refine v_aload dX11_write_44 rfl ?_
      refine v_getR 10 2 _ dX11_write_46 f11_276 t1 (by decide) t2 ?_
      refine v_iload_n dX11_write_49 rfl ?_
      refine v_laldN (k) dX11_write_50 t3 (by simp only [n_lit, pk_mul, nI_add]) ⟨by omega, by omega⟩ ?_
      rw [gJ_ss]
      refine v_lret dX11_write_51 rfl ?_
      exact ⟨rfl, rfl, m1.1, m1.2, m2⟩
    · have hw : wrA A B (nI j) p = 3 := by rw [wrA, if_pos ht0, nI_clamp hj2, if_neg hp]
      rw [hw]
      refine v_aload_n dX11_write_0 rfl ?_
      refine v_iload_n dX11_write_1 rfl ?_
      refine v_cV [_] (q0) k11_needFilledTray dX11_write_2 l11_265 (by first | exact hS.1 _ _ rfl | assumption) (by decide) rfl (Nat.le_of_ble_eq_true rfl) (Nat.le_of_ble_eq_true rfl) ?_
      refine v_astore dX11_write_5 rfl (by decide) ?_
      refine v_iload_n dX11_write_7 rfl ?_
      refine v_if_lt 20 dX11_write_8 (by decide) (fun h8 => ?_) (fun h8 => ?_)
      · exact V.post (v_throwW (cls := ioE) (text := "the tray has no such place") rfl (by decide +kernel) at_iook (by decide +kernel) at_ioo dX11_write_20 dX11_write_23 dX11_write_24 dX11_write_27 dX11_write_30 (by decide) (by decide) Tg.mk : V G Y11_write 40 1 6 (fun _ _ => False) (Tg ioE M) 20 _ _ M) (fun _ _ h => h.elim) (fun E M' he => Xt.of he (by simp))
      · refine v_iload_n dX11_write_11 rfl ?_
        refine v_aload dX11_write_12 rfl ?_
        refine v_getI 10 1 dX11_write_14 f11_273 t1 (by decide) ?_
        rw [hy.2.2.1, b1]
        refine v_icmp_lt 31 dX11_write_17 (by decide) (fun h17 => absurd (inR_mk h8 h17 (by omega)) hp) (fun h17 => ?_)
        exact V.post (v_throwW (cls := ioE) (text := "the tray has no such place") rfl (by decide +kernel) at_iook (by decide +kernel) at_ioo dX11_write_20 dX11_write_23 dX11_write_24 dX11_write_27 dX11_write_30 (by decide) (by decide) Tg.mk : V G Y11_write 40 1 6 (fun _ _ => False) (Tg ioE M) 20 _ _ M) (fun _ _ h => h.elim) (fun E M' he => Xt.of he (by simp))
  · rw [show wrA A B t p = tFA A t from if_neg ht]
    refine v_aload_n dX11_write_0 rfl ?_
    refine v_iload_n dX11_write_1 rfl ?_
    refine v_callV [_] (c11_filledF G M hS hT (tFA_n ht)) k11_needFilledTray dX11_write_2 l11_265 (by first | exact hS.1 _ _ rfl | assumption) (by decide) rfl (Nat.le_of_ble_eq_true rfl) (Nat.le_of_ble_eq_true rfl) (fun _ _ h => h.elim) (fun E M9 he => ?_)
    exact Xt.ty M he (by simp) (by simp)
theorem l11_copy {K : Nat → Int32} {A B : Nat → Int32} {J : Nat → Int64} {x : Int32} {j many : Nat} (hj : j < 4) (hm : many ≤ 30) (hz0 : 248 ≤ gz M) : ∀ i c M', c + i = kn K 2 → MR M' K → gI M' (222 + 2 * j) 1 = nI many → Ky M M' → MT M' A B (cpyF (kn K 93) many j J c).2 → V G Y11_copy 40 1 6 (fun r M2 => (0 : Int32) = 0 ∧ r = some (.int (nI (cpyF (kn K 93) many j J (kn K 2)).1)) ∧ Ky M M2 ∧ MR M2 K ∧ MT M2 A B (cpyF (kn K 93) many j J (kn K 2)).2) (Xt [(1, nsE), (2, isE)] 0 M) 11 [some (.ref 100), some (.int x), some (.ref (222 + 2 * j)), some (.int (nI (cpyF (kn K 93) many j J c).1)), some (.int (nI c))] [] M' := by
  intro i
  induction i with
  | zero =>
    intro c M' hc h hmn hky hT
    have h0 := h
    obtain ⟨hS, hW, hz, hsc, p, cd, n, rd, l1, hp0, hp, hrd, hpa⟩ := h
    have h14 := hW.p.2.1.2
    obtain rfl : c = kn K 2 := by omega
    refine v_iload dX11_copy_11 rfl ?_
    refine v_aload_n dX11_copy_13 rfl ?_
    refine v_getR 11 6 _ dX11_copy_14 f11_34 (by first | exact hS.1 _ _ rfl | assumption) (by decide) (by first | exact hp0 | exact hS.2 _ _ _ rfl | assumption) ?_
    refine v_getR 6 0 _ dX11_copy_17 f11_130 (by first | exact hS.1 _ _ rfl | assumption) (by decide) (by first | exact hp0 | exact hS.2 _ _ _ rfl | assumption) ?_
    refine v_getI 4 2 dX11_copy_20 f11_208 hp.1.1 (by decide) ?_
    rw [hp.2.1.2.2.1, hW.p.2.1.1]
    refine v_icmp_ge 67 dX11_copy_23 (by decide) (fun h23 => ?_) (fun h23 => absurd (nI_le (Nat.le_refl _) (by omega)) h23)
    refine v_iload_n dX11_copy_67 rfl ?_
    refine v_iret dX11_copy_68 rfl ?_
    exact ⟨rfl, rfl, hky, h0, hT⟩
  | succ i ih =>
    intro c M' hc h hmn hky hT
    have h0 := h
    have hs := h.sd
    obtain ⟨hS, hW, hz, hsc, p, cd, n, rd, l1, hp0, hp, hrd, hpa⟩ := h
    have h14 := hW.p.2.1.2
    obtain ⟨t1, t2, t3, t4⟩ := hS.ty hj
    have hle := cpyF_le (kn K 93) many j J c
    by_cases hl : (cpyF (kn K 93) many j J c).1 < many
    · have q1 := c7_isIn G M' hs hW (c := c) (by omega)
      by_cases hb : (kn K 93).testBit c = true
      · rw [bI_t hb] at q1
        have e := (show cpyF (kn K 93) many j J (c + 1) = ((cpyF (kn K 93) many j J c).1 + 1, fun i => if i = 30 * j + (cpyF (kn K 93) many j J c).1 then lN c else (cpyF (kn K 93) many j J c).2 i) from if_pos ⟨hl, hb⟩)
        have hn := ih (c + 1)
        rw [e] at hn
        have m1 := Ky.put M' h0 hj (k := (cpyF (kn K 93) many j J c).1) (lN c)
        have m2 := MT.put M' hT hj (k := (cpyF (kn K 93) many j J c).1) (by omega) (lN c)
        have mk : Ky M (sJ M' (223 + 2 * j) (cpyF (kn K 93) many j J c).1 (lN c)) := ⟨Nat.le_trans hky.1 m1.1.1, fun q a b d => by
          obtain ⟨x1, x2, x3, x4⟩ := hky.2.1 q a b d
          obtain ⟨y1, y2, y3, y4⟩ := m1.1.2.1 q (Nat.lt_of_lt_of_le a hky.1) b d
          exact ⟨y1.trans x1, y2.trans x2, y3.trans x3, y4.trans x4⟩, m1.1.2.2.trans hky.2.2⟩
        have hn2 := hn _ (by omega) m1.2 hmn mk m2
        generalize (cpyF (kn K 93) many j J c).1 = a at *
        generalize (cpyF (kn K 93) many j J c).2 = b at *
        generalize cpyF (kn K 93) many j J (kn K 2) = R at *
        clear hn ih e
        refine v_iload dX11_copy_11 rfl ?_
        refine v_aload_n dX11_copy_13 rfl ?_
        refine v_getR 11 6 _ dX11_copy_14 f11_34 (by first | exact hS.1 _ _ rfl | assumption) (by decide) (by first | exact hp0 | exact hS.2 _ _ _ rfl | assumption) ?_
        refine v_getR 6 0 _ dX11_copy_17 f11_130 (by first | exact hS.1 _ _ rfl | assumption) (by decide) (by first | exact hp0 | exact hS.2 _ _ _ rfl | assumption) ?_
        refine v_getI 4 2 dX11_copy_20 f11_208 hp.1.1 (by decide) ?_
        rw [hp.2.1.2.2.1, hW.p.2.1.1]
        refine v_icmp_ge 67 dX11_copy_23 (by decide) (fun h23 => absurd ((nI_leI (by omega) (by omega)).mp h23) (by omega)) (fun h23 => ?_)
        refine v_iload_n dX11_copy_26 rfl ?_
        refine v_aload_n dX11_copy_27 rfl ?_
        refine v_getI 10 1 dX11_copy_28 f11_273 t1 (by decide) ?_
        rw [hmn]
        refine v_icmp_ge 67 dX11_copy_31 (by decide) (fun h31 => absurd ((nI_leI (by omega) (by omega)).mp h31) (by omega)) (fun h31 => ?_)
        refine v_aload_n dX11_copy_34 rfl ?_
        refine v_getR 11 6 _ dX11_copy_35 f11_34 (by first | exact hS.1 _ _ rfl | assumption) (by decide) (by first | exact hp0 | exact hS.2 _ _ _ rfl | assumption) ?_
        refine v_getR 6 1 _ dX11_copy_38 f11_119 (by first | exact hS.1 _ _ rfl | assumption) (by decide) (by first | exact hp0 | exact hS.2 _ _ _ rfl | assumption) ?_
        refine v_iload dX11_copy_41 rfl ?_
        refine v_cV [_] (q1) k7_isIn dX11_copy_43 l11_141 (by first | exact hS.1 _ _ rfl | assumption) (by decide) rfl (Nat.le_of_ble_eq_true rfl) (Nat.le_of_ble_eq_true rfl) ?_
        refine v_if_eq 61 dX11_copy_46 (by decide) (fun h46 => absurd h46 (by decide)) (fun h46 => ?_)
        refine v_aload_n dX11_copy_49 rfl ?_
        refine v_getR 10 2 _ dX11_copy_50 f11_276 t1 (by decide) t2 ?_
        refine v_iload_n dX11_copy_53 rfl ?_
        refine v_iload dX11_copy_54 rfl ?_
        refine v_i2l dX11_copy_56 ?_
        rw [nI_l (by omega)]
        refine v_lastN (a) dX11_copy_57 t3 (by simp only [n_lit, pk_mul, nI_add]) ⟨by omega, by omega⟩ ?_
        refine v_iinc 1 dX11_copy_58 rfl (by decide) rfl (by decide) ?_
        refine v_iinc 1 dX11_copy_61 rfl (by decide) rfl (by decide) ?_
        refine v_goto 11 dX11_copy_64 (by decide) ?_
        (rw [nI_1, nI_1]; exact hn2)
      · rw [bI_f hb] at q1
        have e := (show cpyF (kn K 93) many j J (c + 1) = cpyF (kn K 93) many j J c from if_neg (fun z => hb z.2))
        have hn2 := ih (c + 1) M' (by omega) h0 hmn hky (by rw [e]; exact hT)
        rw [e] at hn2
        generalize (cpyF (kn K 93) many j J c).1 = a at *
        generalize cpyF (kn K 93) many j J (kn K 2) = R at *
        clear ih e
        refine v_iload dX11_copy_11 rfl ?_
        refine v_aload_n dX11_copy_13 rfl ?_
        refine v_getR 11 6 _ dX11_copy_14 f11_34 (by first | exact hS.1 _ _ rfl | assumption) (by decide) (by first | exact hp0 | exact hS.2 _ _ _ rfl | assumption) ?_
        refine v_getR 6 0 _ dX11_copy_17 f11_130 (by first | exact hS.1 _ _ rfl | assumption) (by decide) (by first | exact hp0 | exact hS.2 _ _ _ rfl | assumption) ?_
        refine v_getI 4 2 dX11_copy_20 f11_208 hp.1.1 (by decide) ?_
        rw [hp.2.1.2.2.1, hW.p.2.1.1]
        refine v_icmp_ge 67 dX11_copy_23 (by decide) (fun h23 => absurd ((nI_leI (by omega) (by omega)).mp h23) (by omega)) (fun h23 => ?_)
        refine v_iload_n dX11_copy_26 rfl ?_
        refine v_aload_n dX11_copy_27 rfl ?_
        refine v_getI 10 1 dX11_copy_28 f11_273 t1 (by decide) ?_
        rw [hmn]
        refine v_icmp_ge 67 dX11_copy_31 (by decide) (fun h31 => absurd ((nI_leI (by omega) (by omega)).mp h31) (by omega)) (fun h31 => ?_)
        refine v_aload_n dX11_copy_34 rfl ?_
        refine v_getR 11 6 _ dX11_copy_35 f11_34 (by first | exact hS.1 _ _ rfl | assumption) (by decide) (by first | exact hp0 | exact hS.2 _ _ _ rfl | assumption) ?_
        refine v_getR 6 1 _ dX11_copy_38 f11_119 (by first | exact hS.1 _ _ rfl | assumption) (by decide) (by first | exact hp0 | exact hS.2 _ _ _ rfl | assumption) ?_
        refine v_iload dX11_copy_41 rfl ?_
        refine v_cV [_] (q1) k7_isIn dX11_copy_43 l11_141 (by first | exact hS.1 _ _ rfl | assumption) (by decide) rfl (Nat.le_of_ble_eq_true rfl) (Nat.le_of_ble_eq_true rfl) ?_
        refine v_if_eq 61 dX11_copy_46 (by decide) (fun h46 => ?_) (fun h46 => absurd rfl h46)
        refine v_iinc 1 dX11_copy_61 rfl (by decide) rfl (by decide) ?_
        refine v_goto 11 dX11_copy_64 (by decide) ?_
        (rw [nI_1]; exact hn2)
    · have e := cpyF_stop (I := kn K 93) (many := many) (t := j) (J := J) (c := c) (by omega) (i + 1)
      rw [hc] at e
      rw [e]
      generalize (cpyF (kn K 93) many j J c).1 = a at *
      generalize (cpyF (kn K 93) many j J c).2 = b at *
      clear ih
      refine v_iload dX11_copy_11 rfl ?_
      refine v_aload_n dX11_copy_13 rfl ?_
      refine v_getR 11 6 _ dX11_copy_14 f11_34 (by first | exact hS.1 _ _ rfl | assumption) (by decide) (by first | exact hp0 | exact hS.2 _ _ _ rfl | assumption) ?_
      refine v_getR 6 0 _ dX11_copy_17 f11_130 (by first | exact hS.1 _ _ rfl | assumption) (by decide) (by first | exact hp0 | exact hS.2 _ _ _ rfl | assumption) ?_
      refine v_getI 4 2 dX11_copy_20 f11_208 hp.1.1 (by decide) ?_
      rw [hp.2.1.2.2.1, hW.p.2.1.1]
      refine v_icmp_ge 67 dX11_copy_23 (by decide) (fun h23 => absurd ((nI_leI (by omega) (by omega)).mp h23) (by omega)) (fun h23 => ?_)
      refine v_iload_n dX11_copy_26 rfl ?_
      refine v_aload_n dX11_copy_27 rfl ?_
      refine v_getI 10 1 dX11_copy_28 f11_273 t1 (by decide) ?_
      rw [hmn]
      refine v_icmp_ge 67 dX11_copy_31 (by decide) (fun h31 => ?_) (fun h31 => absurd (nI_le (by omega) (by omega)) h31)
      refine v_iload_n dX11_copy_67 rfl ?_
      refine v_iret dX11_copy_68 rfl ?_
      exact ⟨rfl, rfl, hky, h0, hT⟩
theorem c11_copy {K : Nat → Int32} (h : MR M K) {A B : Nat → Int32} {J : Nat → Int64} (hT : MT M A B J) (hB : ∀ t, t < 4 → B t = nI (kn B t) ∧ kn B t ≤ 30) (t : Int32) : Ct G Y11_copy 40 1 6 [.ref 100, .int t] M (fun r M2 => tFA A t = 0 ∧ r = some (.int (nI (cpyF (kn K 93) (kn B t.toNatClampNeg) t.toNatClampNeg J (kn K 2)).1)) ∧ Ky M M2 ∧ MR M2 K ∧ MT M2 A B (cpyF (kn K 93) (kn B t.toNatClampNeg) t.toNatClampNeg J (kn K 2)).2) (Xt [(1, nsE), (2, isE)] (tFA A t) M) := by
  have hS := h.1
  have hz := h.2.2.1
  refine Ct.of k11_copy.1 (Nat.le_of_ble_eq_true rfl) ?_
  by_cases ht : tFA A t = 0
  · obtain ⟨j, hj, rfl, hj2, hA⟩ := tFA_y ht
    rw [ht, nI_clamp hj2]
    have hy := (hT j hj).resolve_left (fun z => hA z.1)
    refine v_aload_n dX11_copy_0 rfl ?_
    refine v_iload_n dX11_copy_1 rfl ?_
    refine v_cV [_] (c11_filled G M hS hj hy.2.1) k11_needFilledTray dX11_copy_2 l11_265 (by first | exact hS.1 _ _ rfl | assumption) (by decide) rfl (Nat.le_of_ble_eq_true rfl) (Nat.le_of_ble_eq_true rfl) ?_
    refine v_astore_n dX11_copy_5 rfl (by decide) ?_
    refine v_iconst 0 dX11_copy_6 (by decide) ?_
    refine v_istore_n dX11_copy_7 rfl (by decide) ?_
    refine v_iconst 0 dX11_copy_8 (by decide) ?_
    refine v_istore dX11_copy_9 rfl (by decide) ?_
    exact l11_copy G M hj (hB j hj).2 hz (kn K 2) 0 M (by omega) h (by rw [hy.2.2.1]; exact (hB j hj).1) (Ky.kp Kp.rf) hT
  · refine v_aload_n dX11_copy_0 rfl ?_
    refine v_iload_n dX11_copy_1 rfl ?_
    refine v_callV [_] (c11_filledF G M hS hT (tFA_n ht)) k11_needFilledTray dX11_copy_2 l11_265 (by first | exact hS.1 _ _ rfl | assumption) (by decide) rfl (Nat.le_of_ble_eq_true rfl) (Nat.le_of_ble_eq_true rfl) (fun _ _ h => h.elim) (fun E M9 he => ?_)
    exact Xt.ty M he (by simp) (by simp)
end O9
