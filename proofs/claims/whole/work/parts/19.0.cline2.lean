/-! ===== the class's parser: readLine ===== -/
section CY
variable (G : mG)
theorem c3_readLineW (M : mM) {p N : Nat} {Z : (Nat → Nat) × Nat} {M0 : mM} {R : RSt} (hM : PM M0 p N) (h : CS p N Z M0 false 0 0 R M) (hL : LV Z R) (hK : KI R.2.2.2) (hk : rIs Z 3 R) (hs : kn R.2.2.2 (144 + kn R.2.2.2 3) = kn R.2.2.2 7) : Ct G Y3_readLine 3 0 0 [.ref 102] M (Rs (some (.int (bI ((woX Z R).1 = 0)))) (CS p N Z M0 (decide ((woX Z R).1 = 0)) 0 0 (woX Z R))) NX := by
  have hS' := (hM.sq h.1).1
  refine Ct.of k3_readLine.1 (Nat.le_of_ble_eq_true rfl) ?_
  refine v_aload_n dX3_readLine_0 rfl ?_
  refine v_gets (v := .ref 3) dX3_readLine_1 g3_108 (kT_z G (i := 3) (by decide) rfl) ?_
  refine v_cV [_] (c3_stT G M (k := 3) hM h (by decide) hk) k3_stands dX3_readLine_4 l3_72 (by first | exact hS'.1 _ _ rfl | assumption) (by decide) rfl (Nat.le_of_ble_eq_true rfl) (Nat.le_of_ble_eq_true rfl) ?_
  refine v_if_eq 15 dX3_readLine_7 (by decide) (fun h7 => absurd h7 (by decide)) (fun h7 => ?_)
  refine v_aload_n dX3_readLine_10 rfl ?_
  refine v_scV [] (c3_readWord G M hM h hL hK hk hs) k3_readWord dX3_readLine_11 l3_111 (by first | exact hS'.1 _ _ rfl | assumption) (by decide) rfl (Nat.le_of_ble_eq_true rfl) (Nat.le_of_ble_eq_true rfl) ?_
  intro M2 hM2
  refine v_zret dX3_readLine_14 rfl (by first | rfl | exact bI_nb _ | assumption) ?_
  exact ⟨rfl, hM2⟩
theorem c3_readLineO (M : mM) {p N : Nat} {Z : (Nat → Nat) × Nat} {M0 : mM} {R : RSt} (hM : PM M0 p N) (h : CS p N Z M0 false 0 0 R M) (hL : LV Z R) (hK : KI R.2.2.2) (h0 : R.1 = 0) (hk3 : ¬ kd Z R.2.2.1 = 3) : Ct G Y3_readLine 3 0 0 [.ref 102] M (Rs (some (.int 0)) (CS p N Z M0 false 0 0 (lnB Z R))) NX := by
  have hPM := hM.sq h.1
  have hS' := hPM.1
  have hp := hM.2.2.1
  have n3 : ¬ rIs Z 3 R := fun z => hk3 z.2
  unfold lnB
  refine Ct.of k3_readLine.1 (Nat.le_of_ble_eq_true rfl) ?_
  by_cases k1 : kd Z R.2.2.1 = 1
  · rw [if_pos k1]
    have hc := c3_readChest G M hM h hL hK h0 (Or.inl k1)
    rw [decide_eq_false (show ¬ kd Z R.2.2.1 = 2 by omega)] at hc
    refine v_aload_n dX3_readLine_0 rfl ?_
    refine v_gets (v := .ref 3) dX3_readLine_1 g3_108 (kT_z G (i := 3) (by decide) rfl) ?_
    refine v_cV [_] (c3_stF G M (k := 3) hM h (by decide) n3) k3_stands dX3_readLine_4 l3_72 (by first | exact hS'.1 _ _ rfl | assumption) (by decide) rfl (Nat.le_of_ble_eq_true rfl) (Nat.le_of_ble_eq_true rfl) ?_
    refine v_if_eq 15 dX3_readLine_7 (by decide) (fun h7 => ?_) (fun h7 => absurd rfl h7)
    refine v_aload_n dX3_readLine_15 rfl ?_
    refine v_gets (v := .ref 1) dX3_readLine_16 g3_114 (kT_z G (i := 1) (by decide) rfl) ?_
    refine v_cV [_] (c3_stT G M (k := 1) hM h (by decide) ⟨h0, k1⟩) k3_stands dX3_readLine_19 l3_72 (by first | exact hS'.1 _ _ rfl | assumption) (by decide) rfl (Nat.le_of_ble_eq_true rfl) (Nat.le_of_ble_eq_true rfl) ?_
    refine v_if_ne 35 dX3_readLine_22 (by decide) (fun h22 => ?_) (fun h22 => absurd (show ¬ (1 : Int32) = 0 by decide) h22)
    refine v_aload_n dX3_readLine_35 rfl ?_
    refine v_scVv [] (hc) k3_readChest dX3_readLine_36 l3_120 (by first | exact hS'.1 _ _ rfl | assumption) (by decide) rfl (Nat.le_of_ble_eq_true rfl) (Nat.le_of_ble_eq_true rfl) ?_
    intro M2 hM2
    refine v_goto 118 dX3_readLine_39 (by decide) ?_
    refine v_iconst 0 dX3_readLine_118 (by decide) ?_
    refine v_zret dX3_readLine_119 rfl (by first | rfl | exact bI_nb _ | assumption) ?_
    exact ⟨rfl, hM2⟩
  · rw [if_neg k1]
    have n1 : ¬ rIs Z 1 R := fun z => k1 z.2
    by_cases k2 : kd Z R.2.2.1 = 2
    · rw [if_pos k2]
      have hc := c3_readChest G M hM h hL hK h0 (Or.inr k2)
      rw [decide_eq_true k2] at hc
      refine v_aload_n dX3_readLine_0 rfl ?_
      refine v_gets (v := .ref 3) dX3_readLine_1 g3_108 (kT_z G (i := 3) (by decide) rfl) ?_
      refine v_cV [_] (c3_stF G M (k := 3) hM h (by decide) n3) k3_stands dX3_readLine_4 l3_72 (by first | exact hS'.1 _ _ rfl | assumption) (by decide) rfl (Nat.le_of_ble_eq_true rfl) (Nat.le_of_ble_eq_true rfl) ?_
      refine v_if_eq 15 dX3_readLine_7 (by decide) (fun h7 => ?_) (fun h7 => absurd rfl h7)
      refine v_aload_n dX3_readLine_15 rfl ?_
      refine v_gets (v := .ref 1) dX3_readLine_16 g3_114 (kT_z G (i := 1) (by decide) rfl) ?_
      refine v_cV [_] (c3_stF G M (k := 1) hM h (by decide) n1) k3_stands dX3_readLine_19 l3_72 (by first | exact hS'.1 _ _ rfl | assumption) (by decide) rfl (Nat.le_of_ble_eq_true rfl) (Nat.le_of_ble_eq_true rfl) ?_
      refine v_if_ne 35 dX3_readLine_22 (by decide) (fun h22 => absurd rfl h22) (fun h22 => ?_)
      refine v_aload_n dX3_readLine_25 rfl ?_
      refine v_gets (v := .ref 2) dX3_readLine_26 g3_117 (kT_z G (i := 2) (by decide) rfl) ?_
      refine v_cV [_] (c3_stT G M (k := 2) hM h (by decide) ⟨h0, k2⟩) k3_stands dX3_readLine_29 l3_72 (by first | exact hS'.1 _ _ rfl | assumption) (by decide) rfl (Nat.le_of_ble_eq_true rfl) (Nat.le_of_ble_eq_true rfl) ?_
      refine v_if_eq 42 dX3_readLine_32 (by decide) (fun h32 => absurd h32 (by decide)) (fun h32 => ?_)
      refine v_aload_n dX3_readLine_35 rfl ?_
      refine v_scVv [] (hc) k3_readChest dX3_readLine_36 l3_120 (by first | exact hS'.1 _ _ rfl | assumption) (by decide) rfl (Nat.le_of_ble_eq_true rfl) (Nat.le_of_ble_eq_true rfl) ?_
      intro M2 hM2
      refine v_goto 118 dX3_readLine_39 (by decide) ?_
      refine v_iconst 0 dX3_readLine_118 (by decide) ?_
      refine v_zret dX3_readLine_119 rfl (by first | rfl | exact bI_nb _ | assumption) ?_
      exact ⟨rfl, hM2⟩
    · rw [if_neg k2, if_neg hk3]
      have n2 : ¬ rIs Z 2 R := fun z => k2 z.2
      by_cases k6 : kd Z R.2.2.1 = 6
      · rw [if_pos k6]
        refine v_aload_n dX3_readLine_0 rfl ?_
        refine v_gets (v := .ref 3) dX3_readLine_1 g3_108 (kT_z G (i := 3) (by decide) rfl) ?_
        refine v_cV [_] (c3_stF G M (k := 3) hM h (by decide) n3) k3_stands dX3_readLine_4 l3_72 (by first | exact hS'.1 _ _ rfl | assumption) (by decide) rfl (Nat.le_of_ble_eq_true rfl) (Nat.le_of_ble_eq_true rfl) ?_
        refine v_if_eq 15 dX3_readLine_7 (by decide) (fun h7 => ?_) (fun h7 => absurd rfl h7)
        refine v_aload_n dX3_readLine_15 rfl ?_
        refine v_gets (v := .ref 1) dX3_readLine_16 g3_114 (kT_z G (i := 1) (by decide) rfl) ?_
        refine v_cV [_] (c3_stF G M (k := 1) hM h (by decide) n1) k3_stands dX3_readLine_19 l3_72 (by first | exact hS'.1 _ _ rfl | assumption) (by decide) rfl (Nat.le_of_ble_eq_true rfl) (Nat.le_of_ble_eq_true rfl) ?_
        refine v_if_ne 35 dX3_readLine_22 (by decide) (fun h22 => absurd rfl h22) (fun h22 => ?_)
        refine v_aload_n dX3_readLine_25 rfl ?_
        refine v_gets (v := .ref 2) dX3_readLine_26 g3_117 (kT_z G (i := 2) (by decide) rfl) ?_
        refine v_cV [_] (c3_stF G M (k := 2) hM h (by decide) n2) k3_stands dX3_readLine_29 l3_72 (by first | exact hS'.1 _ _ rfl | assumption) (by decide) rfl (Nat.le_of_ble_eq_true rfl) (Nat.le_of_ble_eq_true rfl) ?_
        refine v_if_eq 42 dX3_readLine_32 (by decide) (fun h32 => ?_) (fun h32 => absurd rfl h32)
        refine v_aload_n dX3_readLine_42 rfl ?_
        refine v_gets (v := .ref 6) dX3_readLine_43 g3_123 (kT_z G (i := 6) (by decide) rfl) ?_
        refine v_cV [_] (c3_stT G M (k := 6) hM h (by decide) ⟨h0, k6⟩) k3_stands dX3_readLine_46 l3_72 (by first | exact hS'.1 _ _ rfl | assumption) (by decide) rfl (Nat.le_of_ble_eq_true rfl) (Nat.le_of_ble_eq_true rfl) ?_
        refine v_if_eq 59 dX3_readLine_49 (by decide) (fun h49 => absurd h49 (by decide)) (fun h49 => ?_)
        refine v_aload_n dX3_readLine_52 rfl ?_
        refine v_scVv [] (c3_readLamp G M hM h hL hK ⟨h0, k6⟩) k3_readLamp dX3_readLine_53 l3_126 (by first | exact hS'.1 _ _ rfl | assumption) (by decide) rfl (Nat.le_of_ble_eq_true rfl) (Nat.le_of_ble_eq_true rfl) ?_
        intro M2 hM2
        refine v_goto 118 dX3_readLine_56 (by decide) ?_
        refine v_iconst 0 dX3_readLine_118 (by decide) ?_
        refine v_zret dX3_readLine_119 rfl (by first | rfl | exact bI_nb _ | assumption) ?_
        exact ⟨rfl, hM2⟩
      · rw [if_neg k6]
        have n6 : ¬ rIs Z 6 R := fun z => k6 z.2
        by_cases k7 : kd Z R.2.2.1 = 7
        · rw [if_pos k7]
          have g1 := gs.nx hL.1 (show kd Z R.2.2.1 ≠ 32 by omega)
          have gn := (gs.nu (lo := 0) (hi := 9) g1.1).1
          refine v_aload_n dX3_readLine_0 rfl ?_
          refine v_gets (v := .ref 3) dX3_readLine_1 g3_108 (kT_z G (i := 3) (by decide) rfl) ?_
          refine v_cV [_] (c3_stF G M (k := 3) hM h (by decide) n3) k3_stands dX3_readLine_4 l3_72 (by first | exact hS'.1 _ _ rfl | assumption) (by decide) rfl (Nat.le_of_ble_eq_true rfl) (Nat.le_of_ble_eq_true rfl) ?_
          refine v_if_eq 15 dX3_readLine_7 (by decide) (fun h7 => ?_) (fun h7 => absurd rfl h7)
          refine v_aload_n dX3_readLine_15 rfl ?_
          refine v_gets (v := .ref 1) dX3_readLine_16 g3_114 (kT_z G (i := 1) (by decide) rfl) ?_
          refine v_cV [_] (c3_stF G M (k := 1) hM h (by decide) n1) k3_stands dX3_readLine_19 l3_72 (by first | exact hS'.1 _ _ rfl | assumption) (by decide) rfl (Nat.le_of_ble_eq_true rfl) (Nat.le_of_ble_eq_true rfl) ?_
          refine v_if_ne 35 dX3_readLine_22 (by decide) (fun h22 => absurd rfl h22) (fun h22 => ?_)
          refine v_aload_n dX3_readLine_25 rfl ?_
          refine v_gets (v := .ref 2) dX3_readLine_26 g3_117 (kT_z G (i := 2) (by decide) rfl) ?_
          refine v_cV [_] (c3_stF G M (k := 2) hM h (by decide) n2) k3_stands dX3_readLine_29 l3_72 (by first | exact hS'.1 _ _ rfl | assumption) (by decide) rfl (Nat.le_of_ble_eq_true rfl) (Nat.le_of_ble_eq_true rfl) ?_
          refine v_if_eq 42 dX3_readLine_32 (by decide) (fun h32 => ?_) (fun h32 => absurd rfl h32)
          refine v_aload_n dX3_readLine_42 rfl ?_
          refine v_gets (v := .ref 6) dX3_readLine_43 g3_123 (kT_z G (i := 6) (by decide) rfl) ?_
          refine v_cV [_] (c3_stF G M (k := 6) hM h (by decide) n6) k3_stands dX3_readLine_46 l3_72 (by first | exact hS'.1 _ _ rfl | assumption) (by decide) rfl (Nat.le_of_ble_eq_true rfl) (Nat.le_of_ble_eq_true rfl) ?_
          refine v_if_eq 59 dX3_readLine_49 (by decide) (fun h49 => ?_) (fun h49 => absurd rfl h49)
          refine v_aload_n dX3_readLine_59 rfl ?_
          refine v_gets (v := .ref 7) dX3_readLine_60 g3_129 (kT_z G (i := 7) (by decide) rfl) ?_
          refine v_scV [_] (c3_tkT G M (k := 7) hM h (by decide) ⟨h0, k7⟩) k3_takeIf dX3_readLine_63 l3_132 (by first | exact hS'.1 _ _ rfl | assumption) (by decide) rfl (Nat.le_of_ble_eq_true rfl) (Nat.le_of_ble_eq_true rfl) ?_
          intro M2 hM2; have hPM2 := hM.sq hM2.1; have hS' := hPM2.1; have hq2 := hPM2.2.2.2.1
          refine v_if_eq 86 dX3_readLine_66 (by decide) (fun h66 => absurd h66 (by decide)) (fun h66 => ?_)
          refine v_aload_n dX3_readLine_69 rfl ?_
          refine v_getR 3 2 _ dX3_readLine_70 f3_21 (by first | exact hS'.1 _ _ rfl | assumption) (by decide) hq2 ?_
          refine v_aload_n dX3_readLine_73 rfl ?_
          refine v_iconst 0 dX3_readLine_74 (by decide) ?_
          refine v_bipush 9 dX3_readLine_75 (by decide) ?_
          refine v_scV [_, _] (c3_takeNumber G M2 (lo := 0) (hi := 9) hM hM2 (by decide) (by decide)) k3_takeNumber dX3_readLine_77 l3_56 (by first | exact hS'.1 _ _ rfl | assumption) (by decide) rfl (Nat.le_of_ble_eq_true rfl) (Nat.le_of_ble_eq_true rfl) ?_
          intro M3 hM3; have hPM3 := hM.sq hM3.1; have hr0 := hPM3.2.1.1; have fin := hM3.sc (k := 7) (j := 5) (v := nI (rnv Z 0 9 (rnx R))) hp gn.1 ((hK.gs g1).gs gn) (by omega)
          refine v_putI 4 7 dX3_readLine_80 f3_135 hr0 (by decide) ?_
          refine v_goto 118 dX3_readLine_83 (by decide) ?_
          refine v_iconst 0 dX3_readLine_118 (by decide) ?_
          refine v_zret dX3_readLine_119 rfl (by first | rfl | exact bI_nb _ | assumption) ?_
          exact ⟨rfl, fin⟩
        · rw [if_neg k7]
          have n7 : ¬ rIs Z 7 R := fun z => k7 z.2
          by_cases k8 : kd Z R.2.2.1 = 8
          · rw [if_pos k8]
            have g1 := gs.nx hL.1 (show kd Z R.2.2.1 ≠ 32 by omega)
            have gn := (gs.nu (lo := 1) (hi := 6) g1.1).1
            refine v_aload_n dX3_readLine_0 rfl ?_
            refine v_gets (v := .ref 3) dX3_readLine_1 g3_108 (kT_z G (i := 3) (by decide) rfl) ?_
            refine v_cV [_] (c3_stF G M (k := 3) hM h (by decide) n3) k3_stands dX3_readLine_4 l3_72 (by first | exact hS'.1 _ _ rfl | assumption) (by decide) rfl (Nat.le_of_ble_eq_true rfl) (Nat.le_of_ble_eq_true rfl) ?_
            refine v_if_eq 15 dX3_readLine_7 (by decide) (fun h7 => ?_) (fun h7 => absurd rfl h7)
            refine v_aload_n dX3_readLine_15 rfl ?_
            refine v_gets (v := .ref 1) dX3_readLine_16 g3_114 (kT_z G (i := 1) (by decide) rfl) ?_
            refine v_cV [_] (c3_stF G M (k := 1) hM h (by decide) n1) k3_stands dX3_readLine_19 l3_72 (by first | exact hS'.1 _ _ rfl | assumption) (by decide) rfl (Nat.le_of_ble_eq_true rfl) (Nat.le_of_ble_eq_true rfl) ?_
            refine v_if_ne 35 dX3_readLine_22 (by decide) (fun h22 => absurd rfl h22) (fun h22 => ?_)
            refine v_aload_n dX3_readLine_25 rfl ?_
            refine v_gets (v := .ref 2) dX3_readLine_26 g3_117 (kT_z G (i := 2) (by decide) rfl) ?_
            refine v_cV [_] (c3_stF G M (k := 2) hM h (by decide) n2) k3_stands dX3_readLine_29 l3_72 (by first | exact hS'.1 _ _ rfl | assumption) (by decide) rfl (Nat.le_of_ble_eq_true rfl) (Nat.le_of_ble_eq_true rfl) ?_
            refine v_if_eq 42 dX3_readLine_32 (by decide) (fun h32 => ?_) (fun h32 => absurd rfl h32)
            refine v_aload_n dX3_readLine_42 rfl ?_
            refine v_gets (v := .ref 6) dX3_readLine_43 g3_123 (kT_z G (i := 6) (by decide) rfl) ?_
            refine v_cV [_] (c3_stF G M (k := 6) hM h (by decide) n6) k3_stands dX3_readLine_46 l3_72 (by first | exact hS'.1 _ _ rfl | assumption) (by decide) rfl (Nat.le_of_ble_eq_true rfl) (Nat.le_of_ble_eq_true rfl) ?_
            refine v_if_eq 59 dX3_readLine_49 (by decide) (fun h49 => ?_) (fun h49 => absurd rfl h49)
            refine v_aload_n dX3_readLine_59 rfl ?_
            refine v_gets (v := .ref 7) dX3_readLine_60 g3_129 (kT_z G (i := 7) (by decide) rfl) ?_
            refine v_cV [_] (c3_tkF G M (k := 7) hM h (by decide) n7) k3_takeIf dX3_readLine_63 l3_132 (by first | exact hS'.1 _ _ rfl | assumption) (by decide) rfl (Nat.le_of_ble_eq_true rfl) (Nat.le_of_ble_eq_true rfl) ?_
            refine v_if_eq 86 dX3_readLine_66 (by decide) (fun h66 => ?_) (fun h66 => absurd rfl h66)
            refine v_aload_n dX3_readLine_86 rfl ?_
            refine v_gets (v := .ref 8) dX3_readLine_87 g3_138 (kT_z G (i := 8) (by decide) rfl) ?_
            refine v_scV [_] (c3_tkT G M (k := 8) hM h (by decide) ⟨h0, k8⟩) k3_takeIf dX3_readLine_90 l3_132 (by first | exact hS'.1 _ _ rfl | assumption) (by decide) rfl (Nat.le_of_ble_eq_true rfl) (Nat.le_of_ble_eq_true rfl) ?_
            intro M2 hM2; have hPM2 := hM.sq hM2.1; have hS' := hPM2.1; have hq2 := hPM2.2.2.2.1
            refine v_if_eq 113 dX3_readLine_93 (by decide) (fun h93 => absurd h93 (by decide)) (fun h93 => ?_)
            refine v_aload_n dX3_readLine_96 rfl ?_
            refine v_getR 3 2 _ dX3_readLine_97 f3_21 (by first | exact hS'.1 _ _ rfl | assumption) (by decide) hq2 ?_
            refine v_aload_n dX3_readLine_100 rfl ?_
            refine v_iconst 1 dX3_readLine_101 (by decide) ?_
            refine v_bipush 6 dX3_readLine_102 (by decide) ?_
            refine v_scV [_, _] (c3_takeNumber G M2 (lo := 1) (hi := 6) hM hM2 (by decide) (by decide)) k3_takeNumber dX3_readLine_104 l3_56 (by first | exact hS'.1 _ _ rfl | assumption) (by decide) rfl (Nat.le_of_ble_eq_true rfl) (Nat.le_of_ble_eq_true rfl) ?_
            intro M3 hM3; have hPM3 := hM.sq hM3.1; have hr0 := hPM3.2.1.1; have fin := hM3.sc (k := 8) (j := 6) (v := nI (rnv Z 1 6 (rnx R))) hp gn.1 ((hK.gs g1).gs gn) (by omega)
            refine v_putI 4 8 dX3_readLine_107 f3_141 hr0 (by decide) ?_
            refine v_goto 118 dX3_readLine_110 (by decide) ?_
            refine v_iconst 0 dX3_readLine_118 (by decide) ?_
            refine v_zret dX3_readLine_119 rfl (by first | rfl | exact bI_nb _ | assumption) ?_
            exact ⟨rfl, fin⟩
          · rw [if_neg k8]
            refine v_aload_n dX3_readLine_0 rfl ?_
            refine v_gets (v := .ref 3) dX3_readLine_1 g3_108 (kT_z G (i := 3) (by decide) rfl) ?_
            refine v_cV [_] (c3_stF G M (k := 3) hM h (by decide) n3) k3_stands dX3_readLine_4 l3_72 (by first | exact hS'.1 _ _ rfl | assumption) (by decide) rfl (Nat.le_of_ble_eq_true rfl) (Nat.le_of_ble_eq_true rfl) ?_
            refine v_if_eq 15 dX3_readLine_7 (by decide) (fun h7 => ?_) (fun h7 => absurd rfl h7)
            refine v_aload_n dX3_readLine_15 rfl ?_
            refine v_gets (v := .ref 1) dX3_readLine_16 g3_114 (kT_z G (i := 1) (by decide) rfl) ?_
            refine v_cV [_] (c3_stF G M (k := 1) hM h (by decide) n1) k3_stands dX3_readLine_19 l3_72 (by first | exact hS'.1 _ _ rfl | assumption) (by decide) rfl (Nat.le_of_ble_eq_true rfl) (Nat.le_of_ble_eq_true rfl) ?_
            refine v_if_ne 35 dX3_readLine_22 (by decide) (fun h22 => absurd rfl h22) (fun h22 => ?_)
            refine v_aload_n dX3_readLine_25 rfl ?_
            refine v_gets (v := .ref 2) dX3_readLine_26 g3_117 (kT_z G (i := 2) (by decide) rfl) ?_
            refine v_cV [_] (c3_stF G M (k := 2) hM h (by decide) n2) k3_stands dX3_readLine_29 l3_72 (by first | exact hS'.1 _ _ rfl | assumption) (by decide) rfl (Nat.le_of_ble_eq_true rfl) (Nat.le_of_ble_eq_true rfl) ?_
            refine v_if_eq 42 dX3_readLine_32 (by decide) (fun h32 => ?_) (fun h32 => absurd rfl h32)
            refine v_aload_n dX3_readLine_42 rfl ?_
            refine v_gets (v := .ref 6) dX3_readLine_43 g3_123 (kT_z G (i := 6) (by decide) rfl) ?_
            refine v_cV [_] (c3_stF G M (k := 6) hM h (by decide) n6) k3_stands dX3_readLine_46 l3_72 (by first | exact hS'.1 _ _ rfl | assumption) (by decide) rfl (Nat.le_of_ble_eq_true rfl) (Nat.le_of_ble_eq_true rfl) ?_
            refine v_if_eq 59 dX3_readLine_49 (by decide) (fun h49 => ?_) (fun h49 => absurd rfl h49)
            refine v_aload_n dX3_readLine_59 rfl ?_
            refine v_gets (v := .ref 7) dX3_readLine_60 g3_129 (kT_z G (i := 7) (by decide) rfl) ?_
            refine v_cV [_] (c3_tkF G M (k := 7) hM h (by decide) n7) k3_takeIf dX3_readLine_63 l3_132 (by first | exact hS'.1 _ _ rfl | assumption) (by decide) rfl (Nat.le_of_ble_eq_true rfl) (Nat.le_of_ble_eq_true rfl) ?_
            refine v_if_eq 86 dX3_readLine_66 (by decide) (fun h66 => ?_) (fun h66 => absurd rfl h66)
            refine v_aload_n dX3_readLine_86 rfl ?_
            refine v_gets (v := .ref 8) dX3_readLine_87 g3_138 (kT_z G (i := 8) (by decide) rfl) ?_
            refine v_cV [_] (c3_tkF G M (k := 8) hM h (by decide) (fun z => k8 z.2)) k3_takeIf dX3_readLine_90 l3_132 (by first | exact hS'.1 _ _ rfl | assumption) (by decide) rfl (Nat.le_of_ble_eq_true rfl) (Nat.le_of_ble_eq_true rfl) ?_
            refine v_if_eq 113 dX3_readLine_93 (by decide) (fun h93 => ?_) (fun h93 => absurd rfl h93)
            refine v_aload_n dX3_readLine_113 rfl ?_
            refine v_iconst 2 dX3_readLine_114 (by decide) ?_
            refine v_scVv [_] (c3_fail G M (k := 2) hM h rfl (by omega) (by omega)) k3_fail dX3_readLine_115 l3_99 (by first | exact hS'.1 _ _ rfl | assumption) (by decide) rfl (Nat.le_of_ble_eq_true rfl) (Nat.le_of_ble_eq_true rfl) ?_
            intro M2 hM2
            refine v_iconst 0 dX3_readLine_118 (by decide) ?_
            refine v_zret dX3_readLine_119 rfl (by first | rfl | exact bI_nb _ | assumption) ?_
            exact ⟨rfl, hM2⟩
/-- a word's line is its beginning, its truth, its end -/
theorem woR_X {Z : (Nat → Nat) × Nat} {R : RSt} (hL : LV Z R) (h0 : R.1 = 0) (hk : kd Z R.2.2.1 ≠ 32) : woR Z R = woE (tru Z (unt Z 6) (woX Z R)) := by
  have bad : ∀ S, IV Z S → S.1 ≠ 0 → woE (tru Z (unt Z 6) S) = S := fun S hI hb => by
    rw [(tru_ok (unt_ok Z 6) S hI).2 hb]
    exact if_pos hb
  unfold woR woX bgn
  by_cases h10 : kn R.2.2.2 3 = 10
  · rw [if_pos h10, if_pos h10, rgo_b (rbl_p (by omega) R), if_pos (rbl_p (by omega) R)]
    exact (bad _ (gs.bl hL.1 (by omega)).1 (rbl_p (by omega) R)).symm
  · rw [if_neg h10, if_neg h10, rgo_z h0, if_neg (show ¬ (rnx R).1 ≠ 0 from Decidable.not_not.mpr h0)]
end CY
