/-! ===== the class's parser: readUnit ===== -/
theorem cmpS_b {Z : (Nat → Nat) × Nat} {R : RSt} (h : R.1 ≠ 0) : cmpS Z R = R := by
  unfold cmpS
  rw [rbl_b h]
  split <;> exact rgo_b h
section CU
variable (G : mG)
theorem c3_unG {p N D0 : Nat} {Z : (Nat → Nat) × Nat} {M0 : mM} {dd : Int32} {s nt br : RSt → RSt} (hM : PM M0 p N) (hD : 3 ≤ D0) (hg : gok Z s) (hs : ∀ R M, CS p N Z M0 true 0 0 R M → IV Z R → KI R.2.2.2 → Ct G Y3_readSum D0 0 0 [.ref 102, .int dd] M (Rs none (CS p N Z M0 true 0 0 (s R))) NX)
    (hn : ∀ R M, CS p N Z M0 true 0 0 R M → IV Z R → KI R.2.2.2 → rIs Z 11 R → V G Y3_readUnit (D0 + 1) 0 0 (Rs none (CS p N Z M0 true 0 0 (nt R))) NX 10 [some (.ref 102), some (.int dd)] [] M) (hr : ∀ R M, CS p N Z M0 true 0 0 R M → IV Z R → KI R.2.2.2 → rIs Z 24 R → V G Y3_readUnit (D0 + 1) 0 0 (Rs none (CS p N Z M0 true 0 0 (br R))) NX 45 [some (.ref 102), some (.int dd)] [] M) : ∀ R M, CS p N Z M0 true 0 0 R M → IV Z R → KI R.2.2.2 → Ct G Y3_readUnit (D0 + 1) 0 0 [.ref 102, .int dd] M (Rs none (CS p N Z M0 true 0 0 (uns Z s nt br R))) NX := by
  intro R M h hI hK
  have hS' := (hM.sq h.1).1
  have rest : ¬ rIs Z 11 R → ¬ rIs Z 24 R → V G Y3_readUnit (D0 + 1) 0 0 (Rs none (CS p N Z M0 true 0 0 (rly (cmpV Z (s R)) (s (cmpS Z (s R)))))) NX 0 (eL [.ref 102, .int dd]) [] M := by
    intro n11 n24
    have gS := (hg R hI).1
    have hsR := hs R M h hI hK
    generalize s R = S at gS hsR ⊢
    have gc := cmpS_ok gS.1
    have gT := hg _ gc.1.1
    have gST := gc.1.tr gT.1 (Nat.le_refl _)
    have hKS := hK.gs gS
    have hKT := hKS.gs gST
    have slack : (s (cmpS Z S)).1 = 0 → kn (s (cmpS Z S)).2.2.2 7 < (s (cmpS Z S)).2.2.1 := fun z => by
      have hz : (cmpS Z S).1 = 0 := Decidable.byContradiction (fun w => w (by rw [gT.2 w] at z; exact z))
      have := ((gc.2 hz).tr gT.1 (Nat.le_refl _)).2.2.1
      have := gS.1.2.2.2.1
      omega
    have sgn : ∀ M2, CS p N Z M0 true 0 0 S M2 → Ct G Y3_readSign 2 0 0 [.ref 102] M2 (Rs (some (.int (if rIs Z 26 S then nI 9 else if rIs Z 27 S then nI 10 else nI 11))) (CS p N Z M0 true 0 0 (cmpS Z S))) NX := fun M2 h2 => by
      have hc := c3_readSign G M2 hM h2
      by_cases hb : S.1 = 0
      · rw [if_pos hb] at hc; exact hc
      · rw [if_neg hb] at hc; rw [cmpS_b hb]; exact hc
    have em : ∀ M4, CS p N Z M0 true 0 0 (s (cmpS Z S)) M4 → Ct G Y3_emit 0 0 0 [.ref 102, .int (if rIs Z 26 S then nI 9 else if rIs Z 27 S then nI 10 else nI 11), .int 0] M4 (Rs none (CS p N Z M0 true 0 0 (rly (cmpV Z S) (s (cmpS Z S))))) NX := fun M4 h4 => by
      by_cases hb : S.1 = 0
      · unfold cmpV
        by_cases k26 : kd Z S.2.2.1 = 26
        · rw [if_pos (show rIs Z 26 S from ⟨hb, k26⟩), if_pos k26]
          exact c3_emitZ G M4 (s := 13) hM h4 gT.1.1 slack hKT (by decide) (by decide) (fun _ => (rdb_o (by omega)).1) (fun _ => (rdb_o (by omega)).2)
        · rw [if_neg (fun z : rIs Z 26 S => k26 z.2), if_neg k26]
          by_cases k27 : kd Z S.2.2.1 = 27
          · rw [if_pos (show rIs Z 27 S from ⟨hb, k27⟩), if_pos k27]
            exact c3_emitZ G M4 (s := 14) hM h4 gT.1.1 slack hKT (by decide) (by decide) (fun _ => (rdb_o (by omega)).1) (fun _ => (rdb_o (by omega)).2)
          · rw [if_neg (fun z : rIs Z 27 S => k27 z.2), if_neg k27]
            exact c3_emitZ G M4 (s := 15) hM h4 gT.1.1 slack hKT (by decide) (by decide) (fun _ => (rdb_o (by omega)).1) (fun _ => (rdb_o (by omega)).2)
      · have e : s (cmpS Z S) = S := by rw [cmpS_b hb] at gT ⊢; exact gT.2 hb
        rw [e] at h4 ⊢
        exact (c3_emitB G M4 hM h4 hb _ 0).post (fun _ _ q => ⟨q.1, by rw [q.2, rly, if_neg hb]; exact h4⟩) (fun _ _ z => z)
    refine v_aload_n dX3_readUnit_0 rfl ?_
    refine v_gets (v := .ref 11) dX3_readUnit_1 g3_207 (kT_z G (i := 11) (by decide) rfl) ?_
    refine v_cV [_] (c3_stF G M (k := 11) hM h (by decide) n11) k3_stands dX3_readUnit_4 l3_72 (by first | exact hS'.1 _ _ rfl | assumption) (by decide) rfl (by omega) (Nat.le_of_ble_eq_true rfl) ?_
    refine v_if_eq 35 dX3_readUnit_7 (by decide) (fun h7 => ?_) (fun h7 => absurd rfl h7)
    refine v_aload_n dX3_readUnit_35 rfl ?_
    refine v_gets (v := .ref 24) dX3_readUnit_36 g3_214 (kT_z G (i := 24) (by decide) rfl) ?_
    refine v_cV [_] (c3_stF G M (k := 24) hM h (by decide) n24) k3_stands dX3_readUnit_39 l3_72 (by first | exact hS'.1 _ _ rfl | assumption) (by decide) rfl (by omega) (Nat.le_of_ble_eq_true rfl) ?_
    refine v_if_eq 70 dX3_readUnit_42 (by decide) (fun h42 => ?_) (fun h42 => absurd rfl h42)
    refine v_aload_n dX3_readUnit_70 rfl ?_
    refine v_iload_n dX3_readUnit_71 rfl ?_
    refine v_scVv [_] (hsR) k3_readSum dX3_readUnit_72 l3_220 (by first | exact hS'.1 _ _ rfl | assumption) (by decide) rfl (by omega) (Nat.le_of_ble_eq_true rfl) ?_
    intro M2 hM2; have hS' := (hM.sq hM2.1).1
    refine v_aload_n dX3_readUnit_75 rfl ?_
    refine v_scV [] (sgn M2 hM2) k3_readSign dX3_readUnit_76 l3_223 (by first | exact hS'.1 _ _ rfl | assumption) (by decide) rfl (by omega) (Nat.le_of_ble_eq_true rfl) ?_
    intro M3 hM3; have hS' := (hM.sq hM3.1).1
    refine v_istore_n dX3_readUnit_79 rfl (by decide) ?_
    refine v_aload_n dX3_readUnit_80 rfl ?_
    refine v_iload_n dX3_readUnit_81 rfl ?_
    refine v_scVv [_] (hs _ M3 hM3 gc.1.1 (hKS.gs gc.1)) k3_readSum dX3_readUnit_82 l3_220 (by first | exact hS'.1 _ _ rfl | assumption) (by decide) rfl (by omega) (Nat.le_of_ble_eq_true rfl) ?_
    intro M4 hM4; have hS' := (hM.sq hM4.1).1
    refine v_aload_n dX3_readUnit_85 rfl ?_
    refine v_iload_n dX3_readUnit_86 rfl ?_
    refine v_iconst 0 dX3_readUnit_87 (by decide) ?_
    refine v_scVv [_, _] (em M4 hM4) k3_emit dX3_readUnit_88 l3_203 (by first | exact hS'.1 _ _ rfl | assumption) (by decide) rfl (by omega) (Nat.le_of_ble_eq_true rfl) ?_
    intro M5 hM5
    refine v_vret dX3_readUnit_91 rfl ?_
    exact ⟨rfl, hM5⟩
  unfold uns
  refine Ct.of k3_readUnit.1 (Nat.le_of_ble_eq_true rfl) ?_
  by_cases h0 : R.1 = 0
  · rw [if_neg (Decidable.not_not.mpr h0)]
    by_cases k11 : kd Z R.2.2.1 = 11
    · rw [if_pos k11]
      refine v_aload_n dX3_readUnit_0 rfl ?_
      refine v_gets (v := .ref 11) dX3_readUnit_1 g3_207 (kT_z G (i := 11) (by decide) rfl) ?_
      refine v_cV [_] (c3_stT G M (k := 11) hM h (by decide) ⟨h0, k11⟩) k3_stands dX3_readUnit_4 l3_72 (by first | exact hS'.1 _ _ rfl | assumption) (by decide) rfl (by omega) (Nat.le_of_ble_eq_true rfl) ?_
      refine v_if_eq 35 dX3_readUnit_7 (by decide) (fun h7 => absurd h7 (by decide)) (fun h7 => ?_)
      exact hn R M h hI hK ⟨h0, k11⟩
    · rw [if_neg k11]
      by_cases k24 : kd Z R.2.2.1 = 24
      · rw [if_pos k24]
        refine v_aload_n dX3_readUnit_0 rfl ?_
        refine v_gets (v := .ref 11) dX3_readUnit_1 g3_207 (kT_z G (i := 11) (by decide) rfl) ?_
        refine v_cV [_] (c3_stF G M (k := 11) hM h (by decide) (fun z => k11 z.2)) k3_stands dX3_readUnit_4 l3_72 (by first | exact hS'.1 _ _ rfl | assumption) (by decide) rfl (by omega) (Nat.le_of_ble_eq_true rfl) ?_
        refine v_if_eq 35 dX3_readUnit_7 (by decide) (fun h7 => ?_) (fun h7 => absurd rfl h7)
        refine v_aload_n dX3_readUnit_35 rfl ?_
        refine v_gets (v := .ref 24) dX3_readUnit_36 g3_214 (kT_z G (i := 24) (by decide) rfl) ?_
        refine v_cV [_] (c3_stT G M (k := 24) hM h (by decide) ⟨h0, k24⟩) k3_stands dX3_readUnit_39 l3_72 (by first | exact hS'.1 _ _ rfl | assumption) (by decide) rfl (by omega) (Nat.le_of_ble_eq_true rfl) ?_
        refine v_if_eq 70 dX3_readUnit_42 (by decide) (fun h42 => absurd h42 (by decide)) (fun h42 => ?_)
        exact hr R M h hI hK ⟨h0, k24⟩
      · rw [if_neg k24]
        exact rest (fun z => k11 z.2) (fun z => k24 z.2)
  · rw [if_pos h0]
    have := rest (fun z => h0 z.1) (fun z => h0 z.1)
    have e1 : s R = R := (hg R hI).2 h0
    rw [e1, cmpS_b h0, e1, rly, if_neg h0] at this
    exact this
theorem c3_unt {p N : Nat} {Z : (Nat → Nat) × Nat} {M0 : mM} (hM : PM M0 p N) : ∀ L d, d + L = 6 → ∀ R M, CS p N Z M0 true 0 0 R M → IV Z R → KI R.2.2.2 → Ct G Y3_readUnit (4 + 2 * L) 0 0 [.ref 102, .int (nI d)] M (Rs none (CS p N Z M0 true 0 0 (unt Z L R))) NX := by
  intro L
  induction L with
  | zero =>
    intro d hd
    refine c3_unG G (D0 := 3) (nt := rbl Z 4) (br := rbl Z 4) hM (by omega) (sms_ok (atm_ok Z 0)) (c3_sumL G hM (L := 0) hd) (fun R M h hI hK hk => ?_) (fun R M h hI hK hk => ?_)
    · have hS' := (hM.sq h.1).1
      have hmn := c3_mayNest G M (d := d) hM h hk.1 (by have := hk.2; omega) (by omega)
      rw [bI_f (by omega), if_neg (by omega)] at hmn
      refine v_aload_n dX3_readUnit_10 rfl ?_
      refine v_iload_n dX3_readUnit_11 rfl ?_
      refine v_scV [_] (hmn) k3_mayNest dX3_readUnit_12 l3_210 (by first | exact hS'.1 _ _ rfl | assumption) (by decide) rfl (by omega) (Nat.le_of_ble_eq_true rfl) ?_
      intro M2 hM2
      refine v_if_eq 91 dX3_readUnit_15 (by decide) (fun h15 => ?_) (fun h15 => absurd rfl h15)
      refine v_vret dX3_readUnit_91 rfl ?_
      exact ⟨rfl, hM2⟩
    · have hS' := (hM.sq h.1).1
      have hmn := c3_mayNest G M (d := d) hM h hk.1 (by have := hk.2; omega) (by omega)
      rw [bI_f (by omega), if_neg (by omega)] at hmn
      refine v_aload_n dX3_readUnit_45 rfl ?_
      refine v_iload_n dX3_readUnit_46 rfl ?_
      refine v_scV [_] (hmn) k3_mayNest dX3_readUnit_47 l3_210 (by first | exact hS'.1 _ _ rfl | assumption) (by decide) rfl (by omega) (Nat.le_of_ble_eq_true rfl) ?_
      intro M2 hM2
      refine v_if_eq 91 dX3_readUnit_50 (by decide) (fun h50 => ?_) (fun h50 => absurd rfl h50)
      refine v_vret dX3_readUnit_91 rfl ?_
      exact ⟨rfl, hM2⟩
  | succ L ih =>
    intro d hd
    have e : 4 + 2 * (L + 1) = (3 + 2 * (L + 1)) + 1 := by omega
    rw [e]
    have hu := ih (d + 1) (by omega)
    have htr := c3_tru G (D0 := 4 + 2 * L) hM (by omega) (unt_ok Z L) hu
    refine c3_unG G (nt := fun R => rly (nI 18) (unt Z L (rnx R))) (br := fun R => rmu Z 25 (tru Z (unt Z L) (rnx R))) hM (by omega) (sms_ok (atm_ok Z (L + 1))) (c3_sumL G hM (L := L + 1) hd) (fun R M h hI hK hk => ?_) (fun R M h hI hK hk => ?_)
    · have hS' := (hM.sq h.1).1
      have hmn := c3_mayNest G M (d := d) hM h hk.1 (by have := hk.2; omega) (by omega)
      rw [bI_t (by omega), if_pos (by omega)] at hmn
      have g1 := gs.nx hI (by have := hk.2; omega)
      have g2 := (unt_ok Z L _ g1.1).1
      have gt := g1.tr g2 (Nat.le_refl _)
      refine v_aload_n dX3_readUnit_10 rfl ?_
      refine v_iload_n dX3_readUnit_11 rfl ?_
      refine v_scV [_] (hmn) k3_mayNest dX3_readUnit_12 l3_210 (by first | exact hS'.1 _ _ rfl | assumption) (by decide) rfl (by omega) (Nat.le_of_ble_eq_true rfl) ?_
      intro M2 hM2; have hS' := (hM.sq hM2.1).1
      refine v_if_eq 91 dX3_readUnit_15 (by decide) (fun h15 => absurd h15 (by decide)) (fun h15 => ?_)
      refine v_aload_n dX3_readUnit_18 rfl ?_
      refine v_iload_n dX3_readUnit_19 rfl ?_
      refine v_iconst 1 dX3_readUnit_20 (by decide) ?_
      refine v_iadd dX3_readUnit_21 ?_
      rw [nI_1]
      refine v_scVv [_] (hu _ M2 hM2 g1.1 (hK.gs g1)) k3_readUnit dX3_readUnit_22 l3_194 (by first | exact hS'.1 _ _ rfl | assumption) (by decide) rfl (by omega) (Nat.le_of_ble_eq_true rfl) ?_
      intro M3 hM3; have hS' := (hM.sq hM3.1).1
      refine v_aload_n dX3_readUnit_25 rfl ?_
      refine v_bipush 6 dX3_readUnit_26 (by decide) ?_
      refine v_iconst 0 dX3_readUnit_28 (by decide) ?_
      refine v_scVv [_, _] (c3_emitZ G M3 (s := 18) hM hM3 g2.1 (fun _ => by have := gt.2.2.1; have := hI.2.2.2.1; omega) (hK.gs gt) (by decide) (by decide) (fun _ => (rdb_o (by omega)).1) (fun _ => (rdb_o (by omega)).2)) k3_emit dX3_readUnit_29 l3_203 (by first | exact hS'.1 _ _ rfl | assumption) (by decide) rfl (by omega) (Nat.le_of_ble_eq_true rfl) ?_
      intro M4 hM4
      refine v_goto 91 dX3_readUnit_32 (by decide) ?_
      refine v_vret dX3_readUnit_91 rfl ?_
      exact ⟨rfl, hM4⟩
    · have hS' := (hM.sq h.1).1
      have hmn := c3_mayNest G M (d := d) hM h hk.1 (by have := hk.2; omega) (by omega)
      rw [bI_t (by omega), if_pos (by omega)] at hmn
      have g1 := gs.nx hI (by have := hk.2; omega)
      refine v_aload_n dX3_readUnit_45 rfl ?_
      refine v_iload_n dX3_readUnit_46 rfl ?_
      refine v_scV [_] (hmn) k3_mayNest dX3_readUnit_47 l3_210 (by first | exact hS'.1 _ _ rfl | assumption) (by decide) rfl (by omega) (Nat.le_of_ble_eq_true rfl) ?_
      intro M2 hM2; have hS' := (hM.sq hM2.1).1
      refine v_if_eq 91 dX3_readUnit_50 (by decide) (fun h50 => absurd h50 (by decide)) (fun h50 => ?_)
      refine v_aload_n dX3_readUnit_53 rfl ?_
      refine v_iload_n dX3_readUnit_54 rfl ?_
      refine v_iconst 1 dX3_readUnit_55 (by decide) ?_
      refine v_iadd dX3_readUnit_56 ?_
      rw [nI_1]
      refine v_scVv [_] (htr _ M2 hM2 g1.1 (hK.gs g1)) k3_readTruth dX3_readUnit_57 l3_80 (by first | exact hS'.1 _ _ rfl | assumption) (by decide) rfl (by omega) (Nat.le_of_ble_eq_true rfl) ?_
      intro M3 hM3; have hS' := (hM.sq hM3.1).1
      refine v_aload_n dX3_readUnit_60 rfl ?_
      refine v_gets (v := .ref 25) dX3_readUnit_61 g3_217 (kT_z G (i := 25) (by decide) rfl) ?_
      refine v_scVv [_] (c3_take G M3 (k := 25) hM hM3 (by decide)) k3_take dX3_readUnit_64 l3_52 (by first | exact hS'.1 _ _ rfl | assumption) (by decide) rfl (by omega) (Nat.le_of_ble_eq_true rfl) ?_
      intro M4 hM4
      refine v_goto 91 dX3_readUnit_67 (by decide) ?_
      refine v_vret dX3_readUnit_91 rfl ?_
      exact ⟨rfl, hM4⟩
theorem c3_readTruth {p N : Nat} {Z : (Nat → Nat) × Nat} {M0 : mM} (hM : PM M0 p N) : ∀ R M, CS p N Z M0 true 0 0 R M → IV Z R → KI R.2.2.2 → Ct G Y3_readTruth 17 0 0 [.ref 102, .int 0] M (Rs none (CS p N Z M0 true 0 0 (tru Z (unt Z 6) R))) NX :=
  c3_tru G (D0 := 16) hM (by omega) (unt_ok Z 6) (c3_unt G hM 6 0 rfl)
end CU
