/-! ===== the reference: asking, hardened ===== -/
def askP (K : Nat → Int32) (w : Nat) : Bool := decide (aqB (aq K) K (kn K 93) w = aq K (kn K 93))
def askV (K : Nat → Int32) (x : Int32) : Int32 := if prtA K (2 ^ kn K 3 - 1) = true then (if x = 0 then nI (aq K (kn K 93)) else if aq K (kn K 93) = 0 then -1 else fstF (askP K) (kn K 3) 0) else -1
def tI2 (x : Int32) : Int32 := if inR 2 x = true then 0 else 1
theorem pcn_14 : ∀ S, pcn S ≤ 14 := pcn_le
section RW
variable (G : mG) (M : mM)
theorem l12_asking1 {Q : Option Value → mM → Prop} (hS : Sh M) (x : Int32) (kk : ∀ M', Sm W242 M M' → (∀ j, j < 16384 → gI M' 242 j = 0) → V G Y12_asking 32 0 0 Q NX 60 [some (.ref 230), some (.int x), some (.int (nI 16384))] [] M') : ∀ i k M', k + i = 16384 → Sm W242 M M' → (∀ j, j < k → gI M' 242 j = 0) → V G Y12_asking 32 0 0 Q NX 40 [some (.ref 230), some (.int x), some (.int (nI k))] [] M' := by
  intro i
  induction i with
  | zero =>
    intro k M' hk hM h0
    obtain rfl : k = 16384 := by omega
    refine v_iload_n dX12_asking_40 rfl ?_
    refine v_sipush 16384 dX12_asking_41 (by decide) ?_
    refine v_icmp_ge 60 dX12_asking_44 (by decide) (fun h44 => ?_) (fun h44 => absurd (by decide) h44)
    exact kk M' hM h0
  | succ i ih =>
    intro k M' hk hM h0
    have hS' := hS.sm hM
    refine v_iload_n dX12_asking_40 rfl ?_
    refine v_sipush 16384 dX12_asking_41 (by decide) ?_
    refine v_icmp_ge 60 dX12_asking_44 (by decide) (fun h44 => absurd ((nI_leI (a := 16384) (by decide) (by omega)).mp h44) (by omega)) (fun h44 => ?_)
    refine v_aload_n dX12_asking_47 rfl ?_
    refine v_getR 12 25 _ dX12_asking_48 f12_48 (hS'.1 _ _ rfl) (by decide) (hS'.2 _ _ _ rfl) ?_
    refine v_iload_n dX12_asking_51 rfl ?_
    refine v_iconst 0 dX12_asking_52 (by decide) ?_
    refine v_iastN (k) dX12_asking_53 (hS'.1 _ _ rfl) (by simp only [n_lit, pk_mul, nI_add]) ⟨by omega, by omega⟩ ?_
    refine v_iinc 1 dX12_asking_54 rfl (by decide) rfl (by decide) ?_
    refine v_goto 40 dX12_asking_57 (by decide) ?_
    skip
    rw [nI_1]
    refine ih (k + 1) _ (by omega) (hM.st _ rfl) (fun j hj => ?_)
    by_cases e : j = k
    · subst e; exact gI_ss _ _ _ _
    · rw [gI_sk _ _ e]; exact h0 j (by omega)
theorem l12_asking2 (hP0 : WP (gI M 231)) (hI0 : inOK (gI M 231)) (K : Nat → Int32) (eK0 : gI M 231 = K) (hH0 : HH M K) (hS0 : Sh M) (x : Int32) (hq0 : 0 < aq K (kn K 93)) : ∀ i w M', w + i = kn K 3 → Sm W242 M M' → AK M' K →
    V G Y12_asking 32 0 0 (Rs (some (.int (fstF (askP K) i w))) (Sm W242 M)) NX 80 [some (.ref 230), some (.int x), some (.int (nI (aq K (kn K 93)))), some (.int (nI w))] [] M' := by
  subst eK0
  have hP := hP0
  have h14 := hP.2.1.2
  have h10 := hP.2.2.1.2
  have hin := in_lt hP hI0
  have hl := aq_le h14 hin
  intro i
  induction i with
  | zero =>
    intro w M' hw hM hA
    have hS' := hS0.sm hM
    have eK : gI M' 231 = gI M 231 := hM.K (fun _ => rfl)
    obtain rfl : w = kn (gI M 231) 3 := by omega
    have hcon := c12_wordsN G M' hS' (by rw [eK]; exact hP)
    rw [eK] at hcon
    refine v_iload_n dX12_asking_80 rfl ?_
    refine v_aload_n dX12_asking_81 rfl ?_
    refine v_cV [] (hcon) k12_words dX12_asking_82 l12_242 (hS'.1 _ _ rfl) (by decide) rfl (Nat.le_of_ble_eq_true rfl) (Nat.le_of_ble_eq_true rfl) ?_
    refine v_icmp_ge 116 dX12_asking_85 (by decide) (fun h85 => ?_) (fun h85 => absurd (nI_le (Nat.le_refl _) (by omega)) h85)
    refine v_iconst (-1) dX12_asking_116 (by decide) ?_
    refine v_iret dX12_asking_117 rfl ?_
    exact ⟨rfl, hM⟩
  | succ i ih =>
    intro w M' hw hM hA
    have hS' := hS0.sm hM
    have eK : gI M' 231 = gI M 231 := hM.K (fun _ => rfl)
    have hcon := c12_wordsN G M' hS' (by rw [eK]; exact hP)
    rw [eK] at hcon
    have b2 := aqB_le h14 hin w
    have e4 : fstF (askP (gI M 231)) (i + 1) w = if askP (gI M 231) w = true then nI w else fstF (askP (gI M 231)) i (w + 1) := rfl
    rw [e4]
    refine v_iload_n dX12_asking_80 rfl ?_
    refine v_aload_n dX12_asking_81 rfl ?_
    refine v_cV [] (hcon) k12_words dX12_asking_82 l12_242 (by first | exact hS2.1 _ _ rfl | exact hS'.1 _ _ rfl) (by decide) rfl (Nat.le_of_ble_eq_true rfl) (Nat.le_of_ble_eq_true rfl) ?_
    refine v_icmp_ge 116 dX12_asking_85 (by decide) (fun h85 => absurd ((nI_leI (by omega) (by omega)).mp h85) (by omega)) (fun h85 => ?_)
    refine v_iload_n dX12_asking_88 rfl ?_
    refine v_if_le 116 dX12_asking_89 (by decide) (fun h89 => absurd h89 (nI_nle hq0 (by omega))) (fun h89 => ?_)
    refine v_aload_n dX12_asking_92 rfl ?_
    refine v_aload_n dX12_asking_93 rfl ?_
    refine v_getR 12 0 _ dX12_asking_94 f12_9 (by first | exact hS2.1 _ _ rfl | exact hS'.1 _ _ rfl) (by decide) (hS'.2 _ _ _ rfl) ?_
    refine v_bipush 93 dX12_asking_97 (by decide) ?_
    refine v_ialdN 93 dX12_asking_99 (by first | exact hS2.1 _ _ rfl | exact hS'.1 _ _ rfl) rfl (by decide) ?_
    rw [eK, hI0.1]
    refine v_iload_n dX12_asking_100 rfl ?_
    refine v_scV [_, _] (c12_asksBy_open G (gI M 231) 13 (c12_asksOf_all G (gI M 231) 13) hin (pcn_14 _) (by omega) M' eK hS' hP (hH0.w242 hM) hA) k12_asksBy dX12_asking_101 l12_435 (by first | exact hS2.1 _ _ rfl | exact hS'.1 _ _ rfl) (by decide) rfl (Nat.le_of_ble_eq_true rfl) (Nat.le_of_ble_eq_true rfl) ?_
    intro M2 hM2; have hS2 := hS'.sm hM2.1
    refine v_iload_n dX12_asking_104 rfl ?_
    refine v_icmp_ne 110 dX12_asking_105 (by decide) (fun h105 => ?_) (fun h105 => ?_)
    · refine v_iinc 1 dX12_asking_110 rfl (by decide) rfl (by decide) ?_
      refine v_goto 80 dX12_asking_113 (by decide) ?_
      (rw [nI_1]; (try simp (disch := omega) only [nI_leI, nI_ltI, nI_eq, nI0, bI_z, bI_lez, Decidable.not_not] at h85 h89 h105); rw [if_neg (by simp [askP, h105])]; exact ih (w + 1) M2 (by omega) (hM.tr hM2.1) hM2.2)
    · refine v_iload_n dX12_asking_108 rfl ?_
      refine v_iret dX12_asking_109 rfl ?_
      ((try simp (disch := omega) only [nI_leI, nI_ltI, nI_eq, nI0, bI_z, bI_lez, Decidable.not_not] at h85 h89 h105); refine ⟨?_, hM.tr hM2.1⟩; rw [if_pos (by simp [askP, h105])])
theorem c12_asking (hS : Sh M) (hQ : WQ (gI M 231)) (x : Int32) : Ct G Y12_asking 32 0 0 [.ref 230, .int x] M (Rs (some (.int (if inR 2 x = true then askV (gI M 231) x else 0))) (Pq M (tI2 x))) NX := by
  obtain ⟨hP, hI, hU⟩ := hQ
  have hc2 : Ct G Y12_within 0 0 0 [.long x.toInt64, .long 0, .long 1] (sI M 230 4 0) (Rv (some (.int (bI (inR 2 x = true)))) (sI M 230 4 0)) NX := by
    have h := c12_within G (sI M 230 4 0) x.toInt64 0 1
    rw [bI_cong (within1 x)] at h
    exact h
  refine Ct.of k12_asking.1 (Nat.le_of_ble_eq_true rfl) ?_
  by_cases hx : inR 2 x = true
  · rw [bI_t hx] at hc2
    rw [if_pos hx, tI2, if_pos hx]
    refine v_aload_n dX12_asking_0 rfl ?_
    refine v_iconst 0 dX12_asking_1 (by decide) ?_
    refine v_putI 12 4 dX12_asking_2 f12_68 (by first | exact hS.1 _ _ rfl | exact hS'.1 _ _ rfl | assumption) (by decide) ?_
    refine v_iload_n dX12_asking_5 rfl ?_
    refine v_i2l dX12_asking_6 ?_
    refine v_lconst 0 dX12_asking_7 (by decide) ?_
    refine v_lconst 1 dX12_asking_8 (by decide) ?_
    refine v_cS [_, _, _] (hc2) k12_within dX12_asking_9 l12_132 rfl (Nat.le_of_ble_eq_true rfl) (Nat.le_of_ble_eq_true rfl) ?_
    refine v_if_ne 21 dX12_asking_12 (by decide) (fun h12 => ?_) (fun h12 => absurd (by decide) h12)
    refine v_aload_n dX12_asking_21 rfl ?_
    skip
    have e1 : gI (sI M 230 4 0) 231 = gI M 231 := gI_sr _ _ (by decide)
    refine v_scVv [] (c12_laysHold G (sI M 230 4 0) hS (by rw [e1]; exact hP)) k12_laysHold dX12_asking_22 l12_306 (hS.1 _ _ rfl) (by decide) rfl (Nat.le_of_ble_eq_true rfl) (Nat.le_of_ble_eq_true rfl) (fun M2 hM2 => ?_)
    have hS' := Sh.sm (M := sI M 230 4 0) hS hM2.1
    have e2 : gI M2 231 = gI M 231 := (hM2.1.K (fun _ => rfl)).trans e1
    have hH := hM2.2
    rw [e1, ← e2] at hH
    have hpq := Pq.of hM2.1
    rw [← e2] at hP hI hU ⊢
    have haw := aw_lt hP
    have h14 := hP.2.1.2
    have hin := in_lt hP hI
    have hl := aq_le h14 hin
    by_cases hp : prtA (gI M2 231) (2 ^ kn (gI M2 231) 3 - 1) = true
    · have hcon := c12_partsAll G M2 hS' hP hI hH haw
      rw [bI_t hp] at hcon
      rw [askV, if_pos hp]
      refine v_aload_n dX12_asking_25 rfl ?_
      refine v_aload_n dX12_asking_26 rfl ?_
      refine v_cV [] (c12_allWords G M2 hS' hP) k12_allWords dX12_asking_27 l12_320 (by first | exact hS.1 _ _ rfl | exact hS'.1 _ _ rfl | assumption) (by decide) rfl (Nat.le_of_ble_eq_true rfl) (Nat.le_of_ble_eq_true rfl) ?_
      refine v_cV [_] (hcon) k12_partsAll dX12_asking_30 l12_424 (by first | exact hS.1 _ _ rfl | exact hS'.1 _ _ rfl | assumption) (by decide) rfl (Nat.le_of_ble_eq_true rfl) (Nat.le_of_ble_eq_true rfl) ?_
      refine v_if_ne 38 dX12_asking_33 (by decide) (fun h33 => ?_) (fun h33 => absurd (by decide) h33)
      refine v_iconst 0 dX12_asking_38 (by decide) ?_
      refine v_istore_n dX12_asking_39 rfl (by decide) ?_
      skip
      refine l12_asking1 G M2 hS' x (fun M3 hM3 h3 => ?_) 16384 0 M2 (by omega) Sm.rf (fun j hj => absurd hj (by omega))
      have hS3 := hS'.sm hM3
      have e3 : gI M3 231 = gI M2 231 := hM3.K (fun _ => rfl)
      have w2 : ∀ q k, Wq q k = false → W242 q k = false := fun q k z => by simp only [Wq, W242, Bool.or_eq_false_iff] at z ⊢; exact z.1.2
      have hA3 : AK M3 (gI M2 231) := fun s hs => Or.inl (h3 s hs)
      refine v_aload_n dX12_asking_60 rfl ?_
      refine v_aload_n dX12_asking_61 rfl ?_
      refine v_getR 12 0 _ dX12_asking_62 f12_9 (by first | exact hS4.1 _ _ rfl | exact hS3.1 _ _ rfl) (by decide) (hS3.2 _ _ _ rfl) ?_
      refine v_bipush 93 dX12_asking_65 (by decide) ?_
      refine v_ialdN 93 dX12_asking_67 (by first | exact hS4.1 _ _ rfl | exact hS3.1 _ _ rfl) rfl (by decide) ?_
      rw [e3, hI.1]
      refine v_scV [_] (c12_asksOf_all G (gI M2 231) 14 _ hin (pcn_14 _) M3 e3 hS3 hP (hH.w242 hM3) hA3) k12_asksOf dX12_asking_68 l12_430 (by first | exact hS4.1 _ _ rfl | exact hS3.1 _ _ rfl) (by decide) rfl (Nat.le_of_ble_eq_true rfl) (Nat.le_of_ble_eq_true rfl) ?_
      intro M4 hM4; have hS4 := hS3.sm hM4.1
      refine v_istore_n dX12_asking_71 rfl (by decide) ?_
      refine v_iload_n dX12_asking_72 rfl ?_
      skip
      refine v_if_ne 78 dX12_asking_73 (by decide) (fun h73 => ?_) (fun h73 => ?_)
      · rw [if_neg h73]
        refine v_iconst 0 dX12_asking_78 (by decide) ?_
        refine v_istore_n dX12_asking_79 rfl (by decide) ?_
        -- at 80: .iload_n 3
        by_cases h0 : aq (gI M2 231) (kn (gI M2 231) 93) = 0
        · rw [if_pos h0, h0]
          have e4 : gI M4 231 = gI M2 231 := (hM4.1.K (fun _ => rfl)).trans e3
          have hcon := c12_wordsN G M4 hS4 (by rw [e4]; exact hP)
          refine v_iload_n dX12_asking_80 rfl ?_
          refine v_aload_n dX12_asking_81 rfl ?_
          refine v_cV [] (hcon) k12_words dX12_asking_82 l12_242 (hS4.1 _ _ rfl) (by decide) rfl (Nat.le_of_ble_eq_true rfl) (Nat.le_of_ble_eq_true rfl) ?_
          refine v_icmp_ge 116 dX12_asking_85 (by decide) (fun h85 => ?_) (fun h85 => ?_)
          · refine v_iconst (-1) dX12_asking_116 (by decide) ?_
            refine v_iret dX12_asking_117 rfl ?_
            exact ⟨rfl, hpq.1.tr ((hM3.tr hM4.1).wk w2), (hM4.1.2.2.2.2 230 4 rfl).trans ((hM3.2.2.2.2 230 4 rfl).trans hpq.2)⟩
          · refine v_iload_n dX12_asking_88 rfl ?_
            refine v_if_le 116 dX12_asking_89 (by decide) (fun h89 => ?_) (fun h89 => absurd (by decide) h89)
            refine v_iconst (-1) dX12_asking_116 (by decide) ?_
            refine v_iret dX12_asking_117 rfl ?_
            exact ⟨rfl, hpq.1.tr ((hM3.tr hM4.1).wk w2), (hM4.1.2.2.2.2 230 4 rfl).trans ((hM3.2.2.2.2 230 4 rfl).trans hpq.2)⟩
        · rw [if_neg h0]
          have e4 : gI M4 231 = gI M2 231 := (hM4.1.K (fun _ => rfl)).trans e3
          refine V.post (l12_asking2 G M4 (by rw [e4]; exact hP) (by rw [e4]; exact hI) (gI M2 231) e4 ((hH.w242 hM3).w242 hM4.1) hS4 x (by omega) (kn (gI M2 231) 3) 0 M4 (by omega) Sm.rf hM4.2) (fun v M5 h => ⟨h.1, hpq.1.tr ((hM3.tr (hM4.1.tr h.2)).wk w2), ?_⟩) (fun _ _ h => h)
          rw [h.2.2.2.2.2 230 4 rfl, hM4.1.2.2.2.2 230 4 rfl, hM3.2.2.2.2 230 4 rfl]
          exact hpq.2
      · rw [if_pos (Decidable.not_not.mp h73)]
        refine v_iload_n dX12_asking_76 rfl ?_
        refine v_iret dX12_asking_77 rfl ?_
        exact ⟨rfl, hpq.1.tr ((hM3.tr hM4.1).wk w2), (hM4.1.2.2.2.2 230 4 rfl).trans ((hM3.2.2.2.2 230 4 rfl).trans hpq.2)⟩
    · have hcon := c12_partsAll G M2 hS' hP hI hH haw
      rw [bI_f hp] at hcon
      rw [askV, if_neg hp]
      refine v_aload_n dX12_asking_25 rfl ?_
      refine v_aload_n dX12_asking_26 rfl ?_
      refine v_cV [] (c12_allWords G M2 hS' hP) k12_allWords dX12_asking_27 l12_320 (by first | exact hS.1 _ _ rfl | exact hS'.1 _ _ rfl | assumption) (by decide) rfl (Nat.le_of_ble_eq_true rfl) (Nat.le_of_ble_eq_true rfl) ?_
      refine v_cV [_] (hcon) k12_partsAll dX12_asking_30 l12_424 (by first | exact hS.1 _ _ rfl | exact hS'.1 _ _ rfl | assumption) (by decide) rfl (Nat.le_of_ble_eq_true rfl) (Nat.le_of_ble_eq_true rfl) ?_
      refine v_if_ne 38 dX12_asking_33 (by decide) (fun h33 => absurd rfl h33) (fun h33 => ?_)
      refine v_iconst (-1) dX12_asking_36 (by decide) ?_
      refine v_iret dX12_asking_37 rfl ?_
      exact ⟨rfl, hpq⟩
  · rw [bI_f hx] at hc2
    rw [if_neg hx, tI2, if_neg hx]
    refine v_aload_n dX12_asking_0 rfl ?_
    refine v_iconst 0 dX12_asking_1 (by decide) ?_
    refine v_putI 12 4 dX12_asking_2 f12_68 (by first | exact hS.1 _ _ rfl | exact hS'.1 _ _ rfl | assumption) (by decide) ?_
    refine v_iload_n dX12_asking_5 rfl ?_
    refine v_i2l dX12_asking_6 ?_
    refine v_lconst 0 dX12_asking_7 (by decide) ?_
    refine v_lconst 1 dX12_asking_8 (by decide) ?_
    refine v_cS [_, _, _] (hc2) k12_within dX12_asking_9 l12_132 rfl (Nat.le_of_ble_eq_true rfl) (Nat.le_of_ble_eq_true rfl) ?_
    refine v_if_ne 21 dX12_asking_12 (by decide) (fun h12 => absurd rfl h12) (fun h12 => ?_)
    refine v_aload_n dX12_asking_15 rfl ?_
    refine v_iconst 1 dX12_asking_16 (by decide) ?_
    refine v_cV [_] (c12_fails G (sI M 230 4 0) hS _) k12_fails dX12_asking_17 l12_224 (by first | exact hS.1 _ _ rfl | exact hS'.1 _ _ rfl | assumption) (by decide) rfl (Nat.le_of_ble_eq_true rfl) (Nat.le_of_ble_eq_true rfl) ?_
    refine v_iret dX12_asking_20 rfl ?_
    exact ⟨rfl, Pq.st2⟩
end RW
