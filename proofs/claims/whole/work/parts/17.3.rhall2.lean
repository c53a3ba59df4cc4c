/-! ===== the reference: tellsNothing, hall ===== -/
theorem rnv_rng {Z : (Nat → Nat) × Nat} {lo hi : Nat} {R : RSt} (h : lo ≤ hi) : lo ≤ rnv Z lo hi R ∧ rnv Z lo hi R ≤ hi := by
  unfold rnv
  by_cases h0 : (rn1 Z lo hi R).1 = 0
  · rw [if_pos h0]
    exact (rn1_ok h0).2.2.2
  · rw [if_neg h0]
    exact ⟨Nat.le_refl _, h⟩
theorem nst_1 {Z : (Nat → Nat) × Nat} {R : RSt} (h : LV Z R) : lr Z R (nst Z 1 6 1 R) := by
  have g := lr.gs h (gs.nu (lo := 1) (hi := 6) h.1).1
  have hr := rnv_rng (Z := Z) (lo := 1) (hi := 6) (R := R) (by omega)
  refine g.tr ?_
  unfold nst
  generalize rnv Z 1 6 R = v at hr ⊢
  obtain ⟨⟨⟨a1, a2, a3, a4, a5, a6⟩, h2, h3, h4⟩, _⟩ := g
  generalize rnu Z 1 6 R = S at a1 a2 a3 a4 a5 a6 h2 h3 h4 ⊢
  have e : ∀ i, i ≠ 1 → uK S.2.2.2 1 (nI v) i = S.2.2.2 i := fun i hi => uK_n _ _ hi
  have f : ∀ i, i ≠ 1 → kn (uK S.2.2.2 1 (nI v)) i = kn S.2.2.2 i := fun i hi => congrArg Int32.toNatClampNeg (e i hi)
  unfold lr LV IV rst
  refine ⟨⟨⟨a1, a2, ?_, ?_, ?_, a6⟩, ?_, ?_, ?_⟩, Nat.le_refl _⟩
  · show uK S.2.2.2 1 (nI v) 7 = nI (kn (uK S.2.2.2 1 (nI v)) 7)
    rw [e 7 (by omega), f 7 (by omega)]; exact a3
  · show kn (uK S.2.2.2 1 (nI v)) 7 ≤ S.2.2.1
    rw [f 7 (by omega)]; exact a4
  · show uK S.2.2.2 1 (nI v) 1 = nI (kn (uK S.2.2.2 1 (nI v)) 1) ∧ 1 ≤ kn (uK S.2.2.2 1 (nI v)) 1 ∧ kn (uK S.2.2.2 1 (nI v)) 1 ≤ 6
    rw [kn_uK (by omega), uK_s]; exact ⟨rfl, hr⟩
  · show uK S.2.2.2 1 (nI v) 2 = nI (kn (uK S.2.2.2 1 (nI v)) 2) ∧ kn (uK S.2.2.2 1 (nI v)) 2 ≤ 14
    rw [e 2 (by omega), f 2 (by omega)]; exact h2
  · show uK S.2.2.2 1 (nI v) 3 = nI (kn (uK S.2.2.2 1 (nI v)) 3) ∧ kn (uK S.2.2.2 1 (nI v)) 3 ≤ 10
    rw [e 3 (by omega), f 3 (by omega)]; exact h3
  · show uK S.2.2.2 1 (nI v) 4 = nI (kn (uK S.2.2.2 1 (nI v)) 4) ∧ kn (uK S.2.2.2 1 (nI v)) 4 ≤ 8
    rw [e 4 (by omega), f 4 (by omega)]; exact h4
def bgK (K : Nat → Int32) : Nat → Int32 := fun j => if j < 2120 then iniK j else K j
theorem bgK_k {K : Nat → Int32} {j v : Nat} (hj : j < 2120) (h : iniK j = nI v) (hv : v < 2 ^ 31) : bgK K j = nI v ∧ kn (bgK K) j = v := by
  have e : bgK K j = nI v := (if_pos hj).trans h
  exact ⟨e, by rw [kn, e, nI_clamp hv]⟩
theorem LV0 {Z : (Nat → Nat) × Nat} (h : Z.2 ≤ 900) (p0 : Nat) (K : Nat → Int32) : LV Z (0, p0, 0, bgK K) := by
  have k7 := bgK_k (K := K) (j := 7) (v := 0) (by decide) (by decide) (by decide)
  have k1 := bgK_k (K := K) (j := 1) (v := 1) (by decide) (by decide) (by decide)
  have k2 := bgK_k (K := K) (j := 2) (v := 0) (by decide) (by decide) (by decide)
  have k3 := bgK_k (K := K) (j := 3) (v := 0) (by decide) (by decide) (by decide)
  have k4 := bgK_k (K := K) (j := 4) (v := 0) (by decide) (by decide) (by decide)
  unfold LV IV
  show ((0 : Nat) ≤ 4 ∧ (0 : Nat) ≤ Z.2 ∧ bgK K 7 = nI (kn (bgK K) 7) ∧ kn (bgK K) 7 ≤ 0 ∧ (bgK K 1 = nI (kn (bgK K) 1) ∧ 1 ≤ kn (bgK K) 1 ∧ kn (bgK K) 1 ≤ 6) ∧ Z.2 ≤ 900) ∧ (bgK K 2 = nI (kn (bgK K) 2) ∧ kn (bgK K) 2 ≤ 14) ∧ (bgK K 3 = nI (kn (bgK K) 3) ∧ kn (bgK K) 3 ≤ 10) ∧ (bgK K 4 = nI (kn (bgK K) 4) ∧ kn (bgK K) 4 ≤ 8)
  rw [k7.2, k1.2, k2.2, k3.2, k4.2]
  exact ⟨⟨by omega, by omega, k7.1, by omega, ⟨k1.1, by omega, by omega⟩, h⟩, ⟨k2.1, by omega⟩, ⟨k3.1, by omega⟩, ⟨k4.1, by omega⟩⟩
/-- a hall read to its first line's end -/
def hl1 (Z : (Nat → Nat) × Nat) (K : Nat → Int32) : RSt := sto Z (nst Z 1 6 1 (rmu Z 0 (0, 0, 0, bgK K)))
theorem hl1_lr {Z : (Nat → Nat) × Nat} (h : Z.2 ≤ 900) (K : Nat → Int32) : LV Z (rmu Z 0 (0, 0, 0, bgK K)) ∧ LV Z (nst Z 1 6 1 (rmu Z 0 (0, 0, 0, bgK K))) ∧ LV Z (hl1 Z K) := by
  have a := LV0 h 0 K
  have b := lr.gs a (gs.mu (k := 0) a.1 (by decide))
  have c := nst_1 b.1
  exact ⟨b.1, c.1, (sto_lr c.1).1.1⟩
def hlS (Z : (Nat → Nat) × Nat) (K : Nat → Int32) : RSt := itr (liB Z) (lin Z) 901 (hl1 Z K)
def W232 (q _k : Nat) : Bool := Nat.beq q 232
def Whl (q k : Nat) : Bool := (Nat.beq q 230 && (Nat.beq k 4 || (Nat.ble 6 k && Nat.ble k 16))) || (Nat.beq q 231 || Nat.beq q 232)
/-- what 'known' becomes by a hall without fault -/
def hlK (R : RSt) (K : Nat → Int32) : Nat → Int32 := fun j => if j < 2120 then R.2.2.2 j else K j
section PH
variable (G : mG) (M : mM)
theorem c12_tellsNothing (hS : Sh M) : Ct G Y12_tellsNothing 0 0 0 [.ref 232] M (Rs none (fun M' => Sm W232 M M' ∧ gI M' 232 = bgK (gI M 232))) NX := by
  refine Ct.of k12_tellsNothing.1 (Nat.le_of_ble_eq_true rfl) ?_
  have l2 : ∀ r p M', p + r = 6 → Sm W232 M M' → gI M' 232 = cpK (uK (uK (uK (uK (cpK (gI M 232) 0 (fun _ => 0) 2120) 1 1) 5 2) 6 2) 96 (-1)) 97 (fun _ => -1) p → V G Y12_tellsNothing 0 0 0 (Rs none (fun M' => Sm W232 M M' ∧ gI M' 232 = bgK (gI M 232))) NX 39 [some (.ref 232), some (.int (nI p))] [] M' := by
    intro r
    induction r with
    | zero =>
      intro p M' hp e eK
      have hS' := hS.sm e
      have ep : p = 6 := by omega
      subst ep
      have fin : gI M' 232 = bgK (gI M 232) := by
        rw [eK]
        funext j
        unfold bgK iniK
        by_cases h97 : 97 ≤ j ∧ j < 103
        · rw [cpK_in h97.1 (by omega), if_pos (by omega), if_neg (by omega), if_neg (by omega), if_pos (by omega)]
        · rw [cpK_out (by omega)]
          by_cases h96 : j = 96
          · subst h96; rw [uK_s]; rfl
          · rw [uK_n _ _ h96]
            by_cases h6 : j = 6
            · subst h6; rw [uK_s]; rfl
            · rw [uK_n _ _ h6]
              by_cases h5 : j = 5
              · subst h5; rw [uK_s]; rfl
              · rw [uK_n _ _ h5]
                by_cases h1 : j = 1
                · subst h1; rw [uK_s]; rfl
                · rw [uK_n _ _ h1]
                  by_cases hj : j < 2120
                  · rw [cpK_in (by omega) (by omega), if_pos hj, if_neg h1, if_neg (by omega), if_neg (by omega)]
                  · rw [cpK_out (by omega), if_neg hj]
      refine v_iload_n dX12_tellsNothing_39 rfl ?_
      refine v_bipush 6 dX12_tellsNothing_40 (by decide) ?_
      refine v_icmp_ge 58 dX12_tellsNothing_42 (by decide) (fun h42 => ?_) (fun h42 => absurd (by decide) h42)
      refine v_vret dX12_tellsNothing_58 rfl ?_
      exact ⟨rfl, e, fin⟩
    | succ r ih =>
      intro p M' hp e eK
      have hS' := hS.sm e
      have g := ih (p + 1) (sI M' 232 (97 + p) (-1)) (by omega) (e.st _ rfl) (by rw [gI_uK, eK]; exact uK_cpK _ _ (fun _ => (-1 : Int32)) _)
      refine v_iload_n dX12_tellsNothing_39 rfl ?_
      refine v_bipush 6 dX12_tellsNothing_40 (by decide) ?_
      refine v_icmp_ge 58 dX12_tellsNothing_42 (by decide) (fun h42 => absurd ((nI_leI (a := 6) (by omega) (by omega)).mp h42) (by omega)) (fun h42 => ?_)
      refine v_aload_n dX12_tellsNothing_45 rfl ?_
      refine v_bipush 97 dX12_tellsNothing_46 (by decide) ?_
      refine v_iload_n dX12_tellsNothing_48 rfl ?_
      refine v_iadd dX12_tellsNothing_49 ?_
      refine v_iconst (-1) dX12_tellsNothing_50 (by decide) ?_
      refine v_iastN (97 + p) dX12_tellsNothing_51 (by first | exact hS'.1 _ _ rfl | assumption) (by simp only [n_lit, pk_mul, nI_add]) ⟨by omega, by omega⟩ ?_
      refine v_iinc 1 dX12_tellsNothing_52 rfl (by decide) rfl (by decide) ?_
      refine v_goto 39 dX12_tellsNothing_55 (by decide) ?_
      (rw [nI_1]; exact g)
  have l1 : ∀ r p M', p + r = 2120 → Sm W232 M M' → gI M' 232 = cpK (gI M 232) 0 (fun _ => 0) p → V G Y12_tellsNothing 0 0 0 (Rs none (fun M' => Sm W232 M M' ∧ gI M' 232 = bgK (gI M 232))) NX 2 [some (.ref 232), some (.int (nI p))] [] M' := by
    intro r
    induction r with
    | zero =>
      intro p M' hp e eK
      have hS' := hS.sm e
      have ep : p = 2120 := by omega
      subst ep
      have g := l2 6 0 (sI (sI (sI (sI M' 232 1 1) 232 5 2) 232 6 2) 232 96 (-1)) rfl ((((e.st _ rfl).st _ rfl).st _ rfl).st _ rfl) (by rw [gI_uK, gI_uK, gI_uK, gI_uK, eK, cpK_0])
      refine v_iload_n dX12_tellsNothing_2 rfl ?_
      refine v_sipush 2120 dX12_tellsNothing_3 (by decide) ?_
      refine v_icmp_ge 19 dX12_tellsNothing_6 (by decide) (fun h6 => ?_) (fun h6 => absurd (by decide) h6)
      refine v_aload_n dX12_tellsNothing_19 rfl ?_
      refine v_iconst 1 dX12_tellsNothing_20 (by decide) ?_
      refine v_iconst 1 dX12_tellsNothing_21 (by decide) ?_
      refine v_iastN (1) dX12_tellsNothing_22 (by first | exact hS'.1 _ _ rfl | assumption) (by simp only [n_lit, pk_mul, nI_add]) ⟨by omega, by omega⟩ ?_
      refine v_aload_n dX12_tellsNothing_23 rfl ?_
      refine v_iconst 5 dX12_tellsNothing_24 (by decide) ?_
      refine v_iconst 2 dX12_tellsNothing_25 (by decide) ?_
      refine v_iastN (5) dX12_tellsNothing_26 (by first | exact hS'.1 _ _ rfl | assumption) (by simp only [n_lit, pk_mul, nI_add]) ⟨by omega, by omega⟩ ?_
      refine v_aload_n dX12_tellsNothing_27 rfl ?_
      refine v_bipush 6 dX12_tellsNothing_28 (by decide) ?_
      refine v_iconst 2 dX12_tellsNothing_30 (by decide) ?_
      refine v_iastN (6) dX12_tellsNothing_31 (by first | exact hS'.1 _ _ rfl | assumption) (by simp only [n_lit, pk_mul, nI_add]) ⟨by omega, by omega⟩ ?_
      refine v_aload_n dX12_tellsNothing_32 rfl ?_
      refine v_bipush 96 dX12_tellsNothing_33 (by decide) ?_
      refine v_iconst (-1) dX12_tellsNothing_35 (by decide) ?_
      refine v_iastN (96) dX12_tellsNothing_36 (by first | exact hS'.1 _ _ rfl | assumption) (by simp only [n_lit, pk_mul, nI_add]) ⟨by omega, by omega⟩ ?_
      refine v_iconst 0 dX12_tellsNothing_37 (by decide) ?_
      refine v_istore_n dX12_tellsNothing_38 rfl (by decide) ?_
      exact g
    | succ r ih =>
      intro p M' hp e eK
      have hS' := hS.sm e
      have g := ih (p + 1) (sI M' 232 p 0) (by omega) (e.st _ rfl) (by rw [gI_uK, eK]; have := uK_cpK (gI M 232) 0 (fun _ => (0 : Int32)) p; rw [Nat.zero_add] at this; exact this)
      refine v_iload_n dX12_tellsNothing_2 rfl ?_
      refine v_sipush 2120 dX12_tellsNothing_3 (by decide) ?_
      refine v_icmp_ge 19 dX12_tellsNothing_6 (by decide) (fun h6 => absurd ((nI_leI (a := 2120) (by omega) (by omega)).mp h6) (by omega)) (fun h6 => ?_)
      refine v_aload_n dX12_tellsNothing_9 rfl ?_
      refine v_iload_n dX12_tellsNothing_10 rfl ?_
      refine v_iconst 0 dX12_tellsNothing_11 (by decide) ?_
      refine v_iastN (p) dX12_tellsNothing_12 (by first | exact hS'.1 _ _ rfl | assumption) (by simp only [n_lit, pk_mul, nI_add]) ⟨by omega, by omega⟩ ?_
      refine v_iinc 1 dX12_tellsNothing_13 rfl (by decide) rfl (by decide) ?_
      refine v_goto 2 dX12_tellsNothing_16 (by decide) ?_
      (rw [nI_1]; exact g)
  refine v_iconst 0 dX12_tellsNothing_0 (by decide) ?_
  refine v_istore_n dX12_tellsNothing_1 rfl (by decide) ?_
  exact l1 2120 0 M (Nat.zero_add _) Sm.rf (funext (fun j => (cpK_out (by omega)).symm))
/-- hall, n out of bounds -/
theorem c12_hallF (hS : Sh M) {n : Int32} {tp : Nat} (ht : gI M 230 6 = nI tp) (h9 : tp ≤ 900) (hn : ¬ (0 ≤ n ∧ n ≤ nI tp)) : Ct G Y12_hall 33 0 0 [.ref 230, .int n] M (Rv (some (.int 0)) (sI (sI M 230 4 0) 230 4 1)) NX := by
  have hS' := hS
  have hw := c12_within G (sI M 230 4 0) n.toInt64 0 (nI tp).toInt64
  rw [bI_f (fun z => hn ⟨by have := z.1; rw [Int64.le_iff_toInt_le, Int32.toInt_toInt64] at this; rw [Int32.le_iff_toInt_le]; exact this, by have := z.2; rw [Int64.le_iff_toInt_le, Int32.toInt_toInt64, Int32.toInt_toInt64] at this; rw [Int32.le_iff_toInt_le]; exact this⟩)] at hw
  refine Ct.of k12_hall.1 (Nat.le_of_ble_eq_true rfl) ?_
  refine v_aload_n dX12_hall_0 rfl ?_
  refine v_iconst 0 dX12_hall_1 (by decide) ?_
  refine v_putI 12 4 dX12_hall_2 f12_68 (by first | exact hS'.1 _ _ rfl | assumption) (by decide) ?_
  refine v_iload_n dX12_hall_5 rfl ?_
  refine v_i2l dX12_hall_6 ?_
  refine v_lconst 0 dX12_hall_7 (by decide) ?_
  refine v_aload_n dX12_hall_8 rfl ?_
  refine v_getI 12 6 dX12_hall_9 f12_71 (by first | exact hS'.1 _ _ rfl | assumption) (by decide) ?_
  rw [gI_sk _ _ (by decide), ht]
  refine v_i2l dX12_hall_12 ?_
  refine v_cS [_, _, _] (hw) k12_within dX12_hall_13 l12_132 rfl (Nat.le_of_ble_eq_true rfl) (Nat.le_of_ble_eq_true rfl) ?_
  refine v_if_ne 25 dX12_hall_16 (by decide) (fun h16 => absurd rfl h16) (fun h16 => ?_)
  refine v_aload_n dX12_hall_19 rfl ?_
  refine v_iconst 1 dX12_hall_20 (by decide) ?_
  refine v_cV [_] (c12_fails G (sI M 230 4 0) hS 1) k12_fails dX12_hall_21 l12_224 (by first | exact hS'.1 _ _ rfl | assumption) (by decide) rfl (Nat.le_of_ble_eq_true rfl) (Nat.le_of_ble_eq_true rfl) ?_
  refine v_iret dX12_hall_24 rfl ?_
  exact ⟨rfl, rfl⟩
theorem hlP {M : mM} {Z : (Nat → Nat) × Nat} (h9 : Z.2 ≤ 900) (K : Nat → Int32) : LV Z (hlS Z K) := by
  have h := (hl1_lr (Z := Z) h9 K).2.2
  unfold hlS
  have : ∀ k R, LV Z R → LV Z (itr (liB Z) (lin Z) k R) := by
    intro k
    induction k with
    | zero => intro R h; exact h
    | succ k ih =>
      intro R h
      rw [itr]
      split
      · exact ih _ (lin_lr h).1.1
      · exact h
  exact this _ _ h
/-- hall, n within bounds -/
theorem c12_hallT (hS : Sh M) {b : Nat → Nat} {nn tp : Nat} (ht : gI M 230 6 = nI tp) (h9 : tp ≤ 900) (hn : nn ≤ tp) (hb : ∀ j, j < nn → gI M 235 j = nI (b j) ∧ b j < 256)
    (hW : (hlS (b, nn) (gI M 232)).1 = 0 → WP (hlK (hlS (b, nn) (gI M 232)) (gI M 231)) ∧ inOK (hlK (hlS (b, nn) (gI M 232)) (gI M 231))) :
    Ct G Y12_hall 33 0 0 [.ref 230, .int (nI nn)] M (Rs (some (.int (if (hlS (b, nn) (gI M 232)).1 = 0 then (hlS (b, nn) (gI M 232)).2.2.2 0 else -10 - nI (hlS (b, nn) (gI M 232)).1))) (fun M' => Sm Whl M M' ∧ gI M' 230 4 = 0 ∧ gI M' 230 6 = 0 ∧ gI M' 230 14 = nI (hlS (b, nn) (gI M 232)).1 ∧ gI M' 230 15 = (if (hlS (b, nn) (gI M 232)).1 = 0 then -1 else nI (hlS (b, nn) (gI M 232)).2.1) ∧ gI M' 231 = if (hlS (b, nn) (gI M 232)).1 = 0 then uK (hlK (hlS (b, nn) (gI M 232)) (gI M 231)) 96 (fstI (hlK (hlS (b, nn) (gI M 232)) (gI M 231))) else gI M 231)) NX := by
  have hS' := hS
  have hw := c12_within G (sI M 230 4 0) (nI nn).toInt64 0 (nI tp).toInt64
  rw [bI_t ⟨by rw [Int64.le_iff_toInt_le, Int32.toInt_toInt64, nI_toInt (by omega)]; exact Int.natCast_nonneg _, (nL_le (by omega) (by omega)).mpr hn⟩] at hw
  have hle := (hl1_lr (Z := (b, nn)) (show nn ≤ 900 by omega) (gI M 232)).2.2
  have hlv := hlP (M := M) (Z := (b, nn)) (show nn ≤ 900 by omega) (gI M 232)
  have hl1v := hl1_lr (Z := (b, nn)) (show nn ≤ 900 by omega) (gI M 232)
  refine Ct.of k12_hall.1 (Nat.le_of_ble_eq_true rfl) ?_
  -- the end, in the reader's words
  generalize hR : hlS (b, nn) (gI M 232) = R at hW hlv ⊢
  have fin : ∀ M0 M2, Sm Whl M M0 → gI M0 230 4 = 0 → gI M0 230 6 = 0 → gI M0 231 = gI M 231 → PS M0 (b, nn) 0 R M2 → V G Y12_hall 33 0 0 (Rs (some (.int (if R.1 = 0 then R.2.2.2 0 else -10 - nI R.1))) (fun M' => Sm Whl M M' ∧ gI M' 230 4 = 0 ∧ gI M' 230 6 = 0 ∧ gI M' 230 14 = nI R.1 ∧ gI M' 230 15 = (if R.1 = 0 then -1 else nI R.2.1) ∧ gI M' 231 = if R.1 = 0 then uK (hlK R (gI M 231)) 96 (fstI (hlK R (gI M 231))) else gI M 231)) NX 105 [some (.ref 230), some (.int (nI nn))] [] M2 := by
    intro M0 M2 e0 f4 f6 f231 hp
    have hS' := (hS.sm e0).sm hp.1
    have wps : ∀ q k, Whl q k = false → Wpa q k = false := fun q k z => by
      cases hq : Wpa q k
      · rfl
      · have : Whl q k = true := by
          unfold Wpa at hq
          unfold Whl
          simp only [Bool.or_eq_true, Bool.and_eq_true, Nat.beq_eq, Nat.ble_eq] at hq ⊢
          omega
        rw [this] at z; cases z
    have e2 : Sm Whl M M2 := e0.tr (hp.1.wk wps)
    obtain ⟨h1, h2, h3, hp4, h5, h6, h7, h8, h9'⟩ := id hp
    have g4 : gI M2 230 4 = 0 := (h1.2.2.2.2 230 4 rfl).trans f4
    have g6 : gI M2 230 6 = 0 := (h1.2.2.2.2 230 6 rfl).trans f6
    have g231 : gI M2 231 = gI M 231 := (h1.K (fun _ => rfl)).trans f231
    by_cases hbad : R.1 = 0
    · rw [if_pos hbad]
      obtain ⟨hWP, hIn⟩ := hW hbad
      have lp : ∀ r p M', p + r = 2120 → Sm Whl M M' → gI M' 230 4 = 0 → gI M' 230 6 = 0 → gI M' 230 14 = nI R.1 → gI M' 230 15 = -1 → gI M' 232 = R.2.2.2 → gI M' 231 = cpK (gI M 231) 0 R.2.2.2 p → V G Y12_hall 33 0 0 (Rs (some (.int (R.2.2.2 0))) (fun M' => Sm Whl M M' ∧ gI M' 230 4 = 0 ∧ gI M' 230 6 = 0 ∧ gI M' 230 14 = nI R.1 ∧ gI M' 230 15 = (if R.1 = 0 then -1 else nI R.2.1) ∧ gI M' 231 = if R.1 = 0 then uK (hlK R (gI M 231)) 96 (fstI (hlK R (gI M 231))) else gI M 231)) NX 149 [some (.ref 230), some (.int (nI nn)), some (.int (nI p))] [] M' := by
        intro r
        induction r with
        | zero =>
          intro p M' hpr e q4 q6 q14 q15 q232 q231
          have hS' := hS.sm e
          have ep : p = 2120 := by omega
          subst ep
          have eK : gI M' 231 = hlK R (gI M 231) := by
            rw [q231]
            funext j
            unfold hlK
            by_cases hj : j < 2120
            · rw [cpK_in (by omega) (by omega), if_pos hj]; rfl
            · rw [cpK_out (by omega), if_neg hj]
          have hf := c12_firstIn G M' hS' (by rw [eK]; exact hWP) (by rw [eK]; exact hIn)
          rw [eK] at hf
          have eK0 : gI (sI M' 231 96 (fstI (hlK R (gI M 231)))) 231 0 = R.2.2.2 0 := by rw [gI_sk _ _ (by decide), eK]; rfl
          refine v_iload_n dX12_hall_149 rfl ?_
          refine v_sipush 2120 dX12_hall_150 (by decide) ?_
          refine v_icmp_ge 174 dX12_hall_153 (by decide) (fun h153 => ?_) (fun h153 => absurd (by decide) h153)
          refine v_aload_n dX12_hall_174 rfl ?_
          refine v_getR 12 0 _ dX12_hall_175 f12_9 (by first | exact hS'.1 _ _ rfl | assumption) (by decide) (by first | exact hS'.2 _ _ _ rfl | assumption) ?_
          refine v_bipush 96 dX12_hall_178 (by decide) ?_
          refine v_aload_n dX12_hall_180 rfl ?_
          refine v_cV [] (hf) k12_firstIn dX12_hall_181 l12_239 (by first | exact hS'.1 _ _ rfl | assumption) (by decide) rfl (Nat.le_of_ble_eq_true rfl) (Nat.le_of_ble_eq_true rfl) ?_
          refine v_iastN (96) dX12_hall_184 (by first | exact hS'.1 _ _ rfl | assumption) (by simp only [n_lit, pk_mul, nI_add]) ⟨by omega, by omega⟩ ?_
          refine v_aload_n dX12_hall_185 rfl ?_
          refine v_getR 12 0 _ dX12_hall_186 f12_9 (by first | exact hS'.1 _ _ rfl | assumption) (by decide) (by first | exact hS'.2 _ _ _ rfl | assumption) ?_
          refine v_iconst 0 dX12_hall_189 (by decide) ?_
          refine v_ialdN 0 dX12_hall_190 (by first | exact hS'.1 _ _ rfl | assumption) rfl (by decide) ?_
          rw [eK0]
          refine v_iret dX12_hall_191 rfl ?_
          exact ⟨rfl, e.st _ rfl, (gI_sq _ _ (by decide)).trans q4, (gI_sq _ _ (by decide)).trans q6, (gI_sq _ _ (by decide)).trans q14, by rw [if_pos hbad]; exact (gI_sq _ _ (by decide)).trans q15, by rw [if_pos hbad, gI_uK, eK]⟩
        | succ r ih =>
          intro p M' hpr e q4 q6 q14 q15 q232 q231
          have hS' := hS.sm e
          have g := ih (p + 1) (sI M' 231 p (R.2.2.2 p)) (by omega) (e.st _ rfl) ((gI_sq _ _ (by decide)).trans q4) ((gI_sq _ _ (by decide)).trans q6) ((gI_sq _ _ (by decide)).trans q14) ((gI_sq _ _ (by decide)).trans q15) ((gI_sr _ _ (by decide)).trans q232) (by rw [gI_uK, q231]; have := uK_cpK (gI M 231) 0 R.2.2.2 p; rw [Nat.zero_add] at this; exact this)
          refine v_iload_n dX12_hall_149 rfl ?_
          refine v_sipush 2120 dX12_hall_150 (by decide) ?_
          refine v_icmp_ge 174 dX12_hall_153 (by decide) (fun h153 => absurd ((nI_leI (a := 2120) (by omega) (by omega)).mp h153) (by omega)) (fun h153 => ?_)
          refine v_aload_n dX12_hall_156 rfl ?_
          refine v_getR 12 0 _ dX12_hall_157 f12_9 (by first | exact hS'.1 _ _ rfl | assumption) (by decide) (by first | exact hS'.2 _ _ _ rfl | assumption) ?_
          refine v_iload_n dX12_hall_160 rfl ?_
          refine v_aload_n dX12_hall_161 rfl ?_
          refine v_getR 12 1 _ dX12_hall_162 f12_13 (by first | exact hS'.1 _ _ rfl | assumption) (by decide) (by first | exact hS'.2 _ _ _ rfl | assumption) ?_
          refine v_iload_n dX12_hall_165 rfl ?_
          refine v_ialdN (p) dX12_hall_166 (by first | exact hS'.1 _ _ rfl | assumption) (by simp only [n_lit, pk_mul, nI_add]) ⟨by omega, by omega⟩ ?_
          rw [q232]
          refine v_iastN (p) dX12_hall_167 (by first | exact hS'.1 _ _ rfl | assumption) (by simp only [n_lit, pk_mul, nI_add]) ⟨by omega, by omega⟩ ?_
          refine v_iinc 1 dX12_hall_168 rfl (by decide) rfl (by decide) ?_
          refine v_goto 149 dX12_hall_171 (by decide) ?_
          (rw [nI_1]; exact g)
      refine v_aload_n dX12_hall_105 rfl ?_
      refine v_aload_n dX12_hall_106 rfl ?_
      refine v_getI 12 12 dX12_hall_107 f12_103 (by first | exact hS'.1 _ _ rfl | assumption) (by decide) ?_
      rw [h3.1]
      refine v_putI 12 14 dX12_hall_110 f12_236 (by first | exact hS'.1 _ _ rfl | assumption) (by decide) ?_
      refine v_aload_n dX12_hall_113 rfl ?_
      refine v_aload_n dX12_hall_114 rfl ?_
      refine v_getI 12 12 dX12_hall_115 f12_103 (by first | exact hS'.1 _ _ rfl | assumption) (by decide) ?_
      rw [gI_sk _ _ (by decide), hp.bad.1 hbad]
      refine v_if_ne 125 dX12_hall_118 (by decide) (fun h118 => absurd rfl h118) (fun h118 => ?_)
      refine v_iconst (-1) dX12_hall_121 (by decide) ?_
      refine v_goto 129 dX12_hall_122 (by decide) ?_
      refine v_putI 12 15 dX12_hall_129 f12_26 (by first | exact hS'.1 _ _ rfl | assumption) (by decide) ?_
      refine v_aload_n dX12_hall_132 rfl ?_
      refine v_getI 12 12 dX12_hall_133 f12_103 (by first | exact hS'.1 _ _ rfl | assumption) (by decide) ?_
      rw [gI_sk _ _ (by decide), gI_sk _ _ (by decide), hp.bad.1 hbad]
      refine v_if_eq 147 dX12_hall_136 (by decide) (fun h136 => ?_) (fun h136 => absurd rfl h136)
      refine v_iconst 0 dX12_hall_147 (by decide) ?_
      refine v_istore_n dX12_hall_148 rfl (by decide) ?_
      exact lp 2120 0 _ (Nat.zero_add _) ((e2.st _ rfl).st _ rfl) ((gI_sk _ _ (by decide)).trans ((gI_sk _ _ (by decide)).trans g4)) ((gI_sk _ _ (by decide)).trans ((gI_sk _ _ (by decide)).trans g6)) ((gI_sk _ _ (by decide)).trans (gI_ss _ _ _ _)) (gI_ss _ _ _ _) ((gI_sr _ _ (by decide)).trans ((gI_sr _ _ (by decide)).trans h2)) ((gI_sr _ _ (by decide)).trans ((gI_sr _ _ (by decide)).trans (g231.trans (cpK_0 _ _ _).symm)))
    · rw [if_neg hbad]
      refine v_aload_n dX12_hall_105 rfl ?_
      refine v_aload_n dX12_hall_106 rfl ?_
      refine v_getI 12 12 dX12_hall_107 f12_103 (by first | exact hS'.1 _ _ rfl | assumption) (by decide) ?_
      rw [h3.1]
      refine v_putI 12 14 dX12_hall_110 f12_236 (by first | exact hS'.1 _ _ rfl | assumption) (by decide) ?_
      refine v_aload_n dX12_hall_113 rfl ?_
      refine v_aload_n dX12_hall_114 rfl ?_
      refine v_getI 12 12 dX12_hall_115 f12_103 (by first | exact hS'.1 _ _ rfl | assumption) (by decide) ?_
      rw [gI_sk _ _ (by decide), h3.1]
      refine v_if_ne 125 dX12_hall_118 (by decide) (fun h118 => ?_) (fun h118 => absurd (fun z => hbad (nI_z (by omega) z)) h118)
      refine v_aload_n dX12_hall_125 rfl ?_
      refine v_getI 12 13 dX12_hall_126 f12_106 (by first | exact hS'.1 _ _ rfl | assumption) (by decide) ?_
      rw [gI_sk _ _ (by decide), hp4 hbad]
      refine v_putI 12 15 dX12_hall_129 f12_26 (by first | exact hS'.1 _ _ rfl | assumption) (by decide) ?_
      refine v_aload_n dX12_hall_132 rfl ?_
      refine v_getI 12 12 dX12_hall_133 f12_103 (by first | exact hS'.1 _ _ rfl | assumption) (by decide) ?_
      rw [gI_sk _ _ (by decide), gI_sk _ _ (by decide), h3.1]
      refine v_if_eq 147 dX12_hall_136 (by decide) (fun h136 => absurd (nI_z (by omega) h136) hbad) (fun h136 => ?_)
      refine v_bipush (-10) dX12_hall_139 (by decide) ?_
      refine v_aload_n dX12_hall_141 rfl ?_
      refine v_getI 12 12 dX12_hall_142 f12_103 (by first | exact hS'.1 _ _ rfl | assumption) (by decide) ?_
      rw [gI_sk _ _ (by decide), gI_sk _ _ (by decide), h3.1]
      refine v_isub dX12_hall_145 ?_
      refine v_iret dX12_hall_146 rfl ?_
      exact ⟨rfl, (e2.st _ rfl).st _ rfl, (gI_sk _ _ (by decide)).trans ((gI_sk _ _ (by decide)).trans g4), (gI_sk _ _ (by decide)).trans ((gI_sk _ _ (by decide)).trans g6), (gI_sk _ _ (by decide)).trans (gI_ss _ _ _ _), by rw [if_neg hbad]; exact gI_ss _ _ _ _, by rw [if_neg hbad]; exact (gI_sr _ _ (by decide)).trans ((gI_sr _ _ (by decide)).trans g231)⟩
  have loop : ∀ n R' M0 M2, (R'.1 = 0 → nn + 1 ≤ R'.2.2.1 + n) → Sm Whl M M0 → gI M0 230 4 = 0 → gI M0 230 6 = 0 → gI M0 231 = gI M 231 → Tp M0 (b, nn) → LV (b, nn) R' → PS M0 (b, nn) 0 R' M2 → itr (liB (b, nn)) (lin (b, nn)) 901 R' = R → V G Y12_hall 33 0 0 (Rs (some (.int (if R.1 = 0 then R.2.2.2 0 else -10 - nI R.1))) (fun M' => Sm Whl M M' ∧ gI M' 230 4 = 0 ∧ gI M' 230 6 = 0 ∧ gI M' 230 14 = nI R.1 ∧ gI M' 230 15 = (if R.1 = 0 then -1 else nI R.2.1) ∧ gI M' 231 = if R.1 = 0 then uK (hlK R (gI M 231)) 96 (fstI (hlK R (gI M 231))) else gI M 231)) NX 84 [some (.ref 230), some (.int (nI nn))] [] M2 := by
    intro n
    induction n with
    | zero =>
      intro R' M0 M2 hn0 e0 f4 f6 f231 hT hL hp hi
      have hS' := (hS.sm e0).sm hp.1
      have hb : R'.1 ≠ 0 := fun z => by have := hn0 z; have := hL.1.2.1; have : R'.2.2.1 ≤ nn := this; omega
      rw [lin_901 hL, if_neg (fun z => hb (liB_t.mp z).1)] at hi
      subst hi
      refine v_aload_n dX12_hall_84 rfl ?_
      refine v_getI 12 12 dX12_hall_85 f12_103 (by first | exact hS'.1 _ _ rfl | assumption) (by decide) ?_
      refine v_if_ne 105 dX12_hall_88 (by decide) (fun h88 => ?_) (fun h88 => absurd (hp.bad.2 hb) h88)
      exact fin M0 M2 e0 f4 f6 f231 hp
    | succ n ih =>
      intro R' M0 M2 hn0 e0 f4 f6 f231 hT hL hp hi
      have hS' := (hS.sm e0).sm hp.1
      have hkl := kd_le (b, nn) R'.2.2.1
      have hrz := rc_z (kd (b, nn) R'.2.2.1) (by omega)
      have hcn := rc_sn (kd (b, nn) R'.2.2.1) (by omega)
      rw [lin_901 hL] at hi
      by_cases hc : liB (b, nn) R' = true
      · rw [if_pos hc] at hi
        obtain ⟨c1, c2⟩ := liB_t.mp hc
        obtain ⟨l1, l2⟩ := lin_lr hL
        refine v_aload_n dX12_hall_84 rfl ?_
        refine v_getI 12 12 dX12_hall_85 f12_103 (by first | exact hS'.1 _ _ rfl | assumption) (by decide) ?_
        rw [hp.bad.1 c1]
        refine v_if_ne 105 dX12_hall_88 (by decide) (fun h88 => absurd rfl h88) (fun h88 => ?_)
        refine v_aload_n dX12_hall_91 rfl ?_
        refine v_getI 12 10 dX12_hall_92 f12_83 (by first | exact hS'.1 _ _ rfl | assumption) (by decide) ?_
        rw [hp.2.2.2.2.2.2.2.1]
        refine v_if_eq 105 dX12_hall_95 (by decide) (fun h95 => absurd (hrz.mp (nI_z (by omega) h95)) c2) (fun h95 => ?_)
        refine v_aload_n dX12_hall_98 rfl ?_
        refine v_scVv [] (c12_readLine G M0 M2 (hS.sm e0) hT hp hL c1) k12_readLine dX12_hall_99 l12_233 (by first | exact hS'.1 _ _ rfl | assumption) (by decide) rfl (Nat.le_of_ble_eq_true rfl) (Nat.le_of_ble_eq_true rfl) ?_
        intro M3 hM3
        refine v_goto 84 dX12_hall_102 (by decide) ?_
        exact ih _ M0 M3 (fun z => by have := l2 z; have := hn0 c1; omega) e0 f4 f6 f231 hT l1.1 hM3 hi
      · rw [if_neg hc] at hi
        subst hi
        by_cases hb : R'.1 = 0
        · have c2 : kd (b, nn) R'.2.2.1 = 32 := Decidable.not_not.mp (fun z => hc (liB_t.mpr ⟨hb, z⟩))
          refine v_aload_n dX12_hall_84 rfl ?_
          refine v_getI 12 12 dX12_hall_85 f12_103 (by first | exact hS'.1 _ _ rfl | assumption) (by decide) ?_
          rw [hp.bad.1 hb]
          refine v_if_ne 105 dX12_hall_88 (by decide) (fun h88 => absurd rfl h88) (fun h88 => ?_)
          refine v_aload_n dX12_hall_91 rfl ?_
          refine v_getI 12 10 dX12_hall_92 f12_83 (by first | exact hS'.1 _ _ rfl | assumption) (by decide) ?_
          rw [hp.2.2.2.2.2.2.2.1, hrz.mpr c2]
          refine v_if_eq 105 dX12_hall_95 (by decide) (fun h95 => ?_) (fun h95 => absurd rfl h95)
          exact fin M0 M2 e0 f4 f6 f231 hp
        · refine v_aload_n dX12_hall_84 rfl ?_
          refine v_getI 12 12 dX12_hall_85 f12_103 (by first | exact hS'.1 _ _ rfl | assumption) (by decide) ?_
          refine v_if_ne 105 dX12_hall_88 (by decide) (fun h88 => ?_) (fun h88 => absurd (hp.bad.2 hb) h88)
          exact fin M0 M2 e0 f4 f6 f231 hp
  -- the start
  obtain ⟨M1, hM1⟩ : ∃ M1, M1 = sI (sI (sI (sI (sI (sI M 230 4 0) 230 7 (nI nn)) 230 6 0) 230 8 0) 230 12 0) 230 16 0 := ⟨_, rfl⟩
  have e1 : Sm Whl M M1 := by rw [hM1]; exact (((((Sm.rf.st _ rfl).st _ rfl).st _ rfl).st _ rfl).st _ rfl).st _ rfl
  have q4 : gI M1 230 4 = 0 := by rw [hM1]; simp [gI_sk, gI_ss]
  have q6 : gI M1 230 6 = 0 := by rw [hM1]; simp [gI_sk, gI_ss]
  have q7 : gI M1 230 7 = nI nn := by rw [hM1]; simp [gI_sk, gI_ss]
  have q8 : gI M1 230 8 = 0 := by rw [hM1]; simp [gI_sk, gI_ss]
  have q12 : gI M1 230 12 = 0 := by rw [hM1]; simp [gI_sk, gI_ss]
  have q16 : gI M1 230 16 = 0 := by rw [hM1]; simp [gI_sk, gI_ss]
  have q232 : gI M1 232 = gI M 232 := by rw [hM1]; simp [gI_sr]
  have q231 : gI M1 231 = gI M 231 := e1.2.2.2.2 231 |> fun h => by rw [hM1]; simp [gI_sr]
  have q235 : gI M1 235 = gI M 235 := by rw [hM1]; simp [gI_sr]
  have w232 : ∀ q k, Whl q k = false → W232 q k = false := fun q k z => by
    unfold Whl at z
    rw [Bool.or_eq_false_iff, Bool.or_eq_false_iff] at z
    exact z.2.2
  have start : ∀ M5, Sm W232 M1 M5 → gI M5 232 = bgK (gI M 232) → V G Y12_hall 33 0 0 (Rs (some (.int (if R.1 = 0 then R.2.2.2 0 else -10 - nI R.1))) (fun M' => Sm Whl M M' ∧ gI M' 230 4 = 0 ∧ gI M' 230 6 = 0 ∧ gI M' 230 14 = nI R.1 ∧ gI M' 230 15 = (if R.1 = 0 then -1 else nI R.2.1) ∧ gI M' 231 = if R.1 = 0 then uK (hlK R (gI M 231)) 96 (fstI (hlK R (gI M 231))) else gI M 231)) NX 57 [some (.ref 230), some (.int (nI nn))] [] M5 := by
    intro M5 e5 k5
    have e05 : Sm Whl M M5 := e1.tr (e5.wk w232)
    have hS5 := hS.sm e05
    have hS' := hS5
    have o : ∀ q j, q ≠ 232 → gI M5 q j = gI M1 q j := fun q j hq => e5.2.2.2.2 q j (by unfold W232; rw [← Bool.not_eq_true, Nat.beq_eq]; exact hq)
    have hT5 : Tp M5 (b, nn) := ⟨(o 230 7 (by decide)).trans q7, by show nn ≤ 900; omega, fun j hj => ⟨(o 235 j (by decide)).trans ((congrFun q235 j).trans (hb j hj).1), (hb j hj).2⟩⟩
    have p5 : ∀ M6, RO M5 (b, nn) 0 M6 → PS M5 (b, nn) 0 (0, 0, 0, bgK (gI M 232)) M6 := by
      intro M6 r
      obtain ⟨r1, r2, r3, r4, r5⟩ := r
      have hw : ∀ q k, Wpa q k = false → Wro q k = false := fun q k z => by
        cases hq : Wro q k
        · rfl
        · have : Wpa q k = true := by
            unfold Wro at hq
            unfold Wpa
            simp only [Bool.or_eq_true, Bool.and_eq_true, Nat.beq_eq, Nat.ble_eq] at hq ⊢
            omega
          rw [this] at z; cases z
      exact ⟨r1.wk hw, (funext (fun k => r1.2.2.2.2 232 k (Wro_o (Or.inl (by decide))))).trans k5, ⟨(r1.2.2.2.2 230 12 rfl).trans ((o 230 12 (by decide)).trans q12), Nat.zero_le _⟩, fun z => absurd rfl z, (r1.2.2.2.2 230 16 rfl).trans ((o 230 16 (by decide)).trans q16), r2, r3, r4, r5⟩
    have f4 : gI M5 230 4 = 0 := (o 230 4 (by decide)).trans q4
    have f6 : gI M5 230 6 = 0 := (o 230 6 (by decide)).trans q6
    have f231 : gI M5 231 = gI M 231 := (funext (fun k => o 231 k (by decide))).trans q231
    refine v_aload_n dX12_hall_57 rfl ?_
    refine v_scVv [] (c12_readsOn G M5 (h := 0) hS5 hT5 (Nat.zero_le _) ((o 230 8 (by decide)).trans q8)) k12_readsOn dX12_hall_58 l12_122 (by first | exact hS'.1 _ _ rfl | assumption) (by decide) rfl (Nat.le_of_ble_eq_true rfl) (Nat.le_of_ble_eq_true rfl) ?_
    intro M6 hM6; have p6 := p5 M6 hM6; have hS' := hS5.sm p6.1
    refine v_aload_n dX12_hall_61 rfl ?_
    refine v_ldcS (k := 0) (tx := "marks") dX12_hall_62 rfl (List.mem_of_getElem? (i := 0) rfl) (by decide) ?_
    refine v_scVv [_] (c12_mustWord G M5 M6 hS5 hT5 p6 (t := 0) (by decide)) k12_mustWord dX12_hall_64 l12_229 (by first | exact hS'.1 _ _ rfl | assumption) (by decide) rfl (Nat.le_of_ble_eq_true rfl) (Nat.le_of_ble_eq_true rfl) ?_
    intro M7 hM7; have hS' := hS5.sm hM7.1
    refine v_aload_n dX12_hall_67 rfl ?_
    refine v_getR 12 1 _ dX12_hall_68 f12_13 (by first | exact hS'.1 _ _ rfl | assumption) (by decide) (by first | exact hS'.2 _ _ _ rfl | assumption) ?_
    refine v_iconst 1 dX12_hall_71 (by decide) ?_
    refine v_aload_n dX12_hall_72 rfl ?_
    refine v_iconst 1 dX12_hall_73 (by decide) ?_
    refine v_bipush 6 dX12_hall_74 (by decide) ?_
    refine v_scV [_, _] (c12_number G M5 M7 (lo := 1) (hi := 6) hS5 hT5 hM7 (by decide) (by decide)) k12_number dX12_hall_76 l12_177 (by first | exact hS'.1 _ _ rfl | assumption) (by decide) rfl (Nat.le_of_ble_eq_true rfl) (Nat.le_of_ble_eq_true rfl) ?_
    intro M8 hM8; have hS' := hS5.sm hM8.1
    refine v_iastN (1) dX12_hall_79 (by first | exact hS'.1 _ _ rfl | assumption) (by simp only [n_lit, pk_mul, nI_add]) ⟨by omega, by omega⟩ ?_
    refine v_aload_n dX12_hall_80 rfl ?_
    refine v_scVv [] (c12_readStop G M5 _ hS5 hT5 (hM8.wr 1 _)) k12_readStop dX12_hall_81 l12_221 (by first | exact hS'.1 _ _ rfl | assumption) (by decide) rfl (Nat.le_of_ble_eq_true rfl) (Nat.le_of_ble_eq_true rfl) ?_
    intro M9 hM9
    exact loop (nn + 1) _ M5 M9 (fun _ => by omega) e05 f4 f6 f231 hT5 hl1v.2.2 hM9 hR
  have hS1 : Sh M1 := hS.sm e1
  have ht1 := c12_tellsNothing G M1 hS1
  rw [q232] at ht1
  refine v_aload_n dX12_hall_0 rfl ?_
  refine v_iconst 0 dX12_hall_1 (by decide) ?_
  refine v_putI 12 4 dX12_hall_2 f12_68 (by first | exact hS'.1 _ _ rfl | assumption) (by decide) ?_
  refine v_iload_n dX12_hall_5 rfl ?_
  refine v_i2l dX12_hall_6 ?_
  refine v_lconst 0 dX12_hall_7 (by decide) ?_
  refine v_aload_n dX12_hall_8 rfl ?_
  refine v_getI 12 6 dX12_hall_9 f12_71 (by first | exact hS'.1 _ _ rfl | assumption) (by decide) ?_
  rw [gI_sk _ _ (by decide), ht]
  refine v_i2l dX12_hall_12 ?_
  refine v_cS [_, _, _] (hw) k12_within dX12_hall_13 l12_132 rfl (Nat.le_of_ble_eq_true rfl) (Nat.le_of_ble_eq_true rfl) ?_
  refine v_if_ne 25 dX12_hall_16 (by decide) (fun h16 => ?_) (fun h16 => absurd (show ¬ (1 : Int32) = 0 by decide) h16)
  refine v_aload_n dX12_hall_25 rfl ?_
  refine v_iload_n dX12_hall_26 rfl ?_
  refine v_putI 12 7 dX12_hall_27 f12_74 (by first | exact hS'.1 _ _ rfl | assumption) (by decide) ?_
  refine v_aload_n dX12_hall_30 rfl ?_
  refine v_iconst 0 dX12_hall_31 (by decide) ?_
  refine v_putI 12 6 dX12_hall_32 f12_71 (by first | exact hS'.1 _ _ rfl | assumption) (by decide) ?_
  refine v_aload_n dX12_hall_35 rfl ?_
  refine v_iconst 0 dX12_hall_36 (by decide) ?_
  refine v_putI 12 8 dX12_hall_37 f12_77 (by first | exact hS'.1 _ _ rfl | assumption) (by decide) ?_
  refine v_aload_n dX12_hall_40 rfl ?_
  refine v_iconst 0 dX12_hall_41 (by decide) ?_
  refine v_putI 12 12 dX12_hall_42 f12_103 (by first | exact hS'.1 _ _ rfl | assumption) (by decide) ?_
  refine v_aload_n dX12_hall_45 rfl ?_
  refine v_iconst 0 dX12_hall_46 (by decide) ?_
  refine v_putI 12 16 dX12_hall_47 f12_136 (by first | exact hS'.1 _ _ rfl | assumption) (by decide) ?_
  refine v_aload_n dX12_hall_50 rfl ?_
  refine v_getR 12 1 _ dX12_hall_51 f12_13 (by first | exact hS'.1 _ _ rfl | assumption) (by decide) (by first | exact hS'.2 _ _ _ rfl | assumption) ?_
  show V _ _ _ _ _ _ _ _ _ _ (sI (sI (sI (sI (sI (sI M 230 4 0) 230 7 (nI nn)) 230 6 0) 230 8 0) 230 12 0) 230 16 0); rw [← hM1]
  refine v_scSv [_] (ht1) k12_tellsNothing dX12_hall_54 l12_64 rfl (Nat.le_of_ble_eq_true rfl) (Nat.le_of_ble_eq_true rfl) ?_
  intro M5 hM5
  exact start M5 hM5.1 hM5.2
end PH
