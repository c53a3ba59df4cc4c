theorem hl1_LJ {Z : (Nat → Nat) × Nat} (h : Z.2 ≤ 900) (K : Nat → Int32) : LJ (hl1 Z K) := by
  refine (LJ0 0 K).ag (hl1_lr h K).2.2 ?_
  unfold hl1 sto stE
  have a : agr (0, 0, 0, bgK K) (rmu Z 17 (nst Z 1 6 1 (rmu Z 0 (0, 0, 0, bgK K)))) := ((agr.of (rmu_K Z 0 (0, 0, 0, bgK K))).tr (agr.ns _ (by decide))).tr (agr.of (rmu_K _ _ _))
  split
  · exact a
  · exact a.tr (agr.st _ _ (by decide))
section CR0
variable (G : mG)
/-- a text read, the tokens found and the plan made -/
theorem l3_read0 {p N kc ks : Nat} {Z : (Nat → Nat) × Nat} {M : mM} {n : Int32} {K : Nat → Int32} (hM : PM M p N) (h9 : Z.2 ≤ 900) (h : CS p N Z M false 0 0 (0, 0, 0, bgK K) M) : V G Y3_read 18 kc ks (fun v M' => v = some (if (hlS Z K).1 = 0 then .ref p else .null) ∧ CS p N Z M false 0 0 (hlS Z K) M') NX 51 [some (.ref 102), some (.ref 101), some (.int n)] [] M := by
  have hS' := hM.1
  have hp := hM.2.2.1
  have hp2 := hM.2.2.2.1
  obtain ⟨v1, v2, v3⟩ := hl1_lr h9 K
  have hJ := hl1_LJ h9 K
  have z := fun (j : Nat) (hj : j < 2120) (h : ¬ (j = 1 ∨ j = 5 ∨ j = 6 ∨ (96 ≤ j ∧ j < 103))) => bgK_z K hj h
  have hr := rnv_rng (Z := Z) (lo := 1) (hi := 6) (R := rmu Z 0 (0, 0, 0, bgK K)) (by omega)
  have eKn : (rnu Z 1 6 (rmu Z 0 (0, 0, 0, bgK K))).2.2.2 = bgK K := (rnu_K _ _ _ _).trans (rmu_K _ _ _)
  have gm := gs.mu (k := 17) v2.1 (by decide)
  have hKI : KI (rmu Z 17 (nst Z 1 6 1 (rmu Z 0 (0, 0, 0, bgK K)))).2.2.2 := ((LJ0 0 K).ag (lr.gs v2 gm).1 (((agr.of (rmu_K Z 0 (0, 0, 0, bgK K))).tr (agr.ns _ (by decide))).tr (agr.of (rmu_K _ _ _)))).1
  have fin : ∀ M4, CS p N Z M false 0 0 (rmu Z 17 (nst Z 1 6 1 (rmu Z 0 (0, 0, 0, bgK K)))) M4 → CS p N Z M false 0 0 (hl1 Z K) (sI M4 p 0 1) := fun M4 h4 => by
    unfold hl1 sto
    by_cases hb : (rmu Z 17 (nst Z 1 6 1 (rmu Z 0 (0, 0, 0, bgK K)))).1 = 0
    · have e0 : gI M4 p 0 = 0 := by
        rw [(h4.2.2.2.2.2 hb).2.1.1.1, rmu_K]
        exact (rst_n (rnu Z 1 6 (rmu Z 0 (0, 0, 0, bgK K))) (nI (rnv Z 1 6 (rmu Z 0 (0, 0, 0, bgK K)))) (show (0 : Nat) ≠ 1 by decide)).trans ((congrFun eKn 0).trans (z 0 (by decide) (by decide)).1)
      have := h4.p0 hp gm.1 hKI
      rw [e0] at this
      exact this
    · have e : stE (rmu Z 17 (nst Z 1 6 1 (rmu Z 0 (0, 0, 0, bgK K)))) = rmu Z 17 (nst Z 1 6 1 (rmu Z 0 (0, 0, 0, bgK K))) := if_pos hb
      rw [e]
      exact CS.to hp h4 rfl rfl rfl (Sq.rf.st _ (Wcs_p _ ⟨by omega, by omega⟩)) (fun q hq => gI_sr _ _ (by omega)) rfl (by rw [gI_sk _ _ (by decide)]; exact h4.2.2.2.1) (by rw [gI_sk _ _ (by decide)]; exact h4.2.2.2.2.1) (fun q _ _ => absurd q hb)
  have go := fun M5 h5 => l3_read G (kc := kc) (ks := ks) (n := n) hM (Z.2 + 1) 0 (hl1 Z K) M5 (fun _ => by omega) (by omega) (fun _ => Nat.zero_le _) h5 v3 hJ.1 (fun _ => hJ)
  unfold hlS
  refine v_aload_n dX3_read_51 rfl ?_
  refine v_gets (v := .ref 0) dX3_read_52 g3_46 (kT_z G (i := 0) (by decide) rfl) ?_
  refine v_scVv [_] (c3_take G M (k := 0) hM h (by decide)) k3_take dX3_read_55 l3_52 (by first | exact hS'.1 _ _ rfl | assumption) (by decide) rfl (Nat.le_of_ble_eq_true rfl) (Nat.le_of_ble_eq_true rfl) ?_
  intro M2 hM2; have hPM2 := hM.sq hM2.1; have hS' := hPM2.1; have hq2 := hPM2.2.2.2.1
  refine v_aload_n dX3_read_58 rfl ?_
  refine v_getR 3 2 _ dX3_read_59 f3_21 (by first | exact hS'.1 _ _ rfl | assumption) (by decide) hq2 ?_
  refine v_aload_n dX3_read_62 rfl ?_
  refine v_iconst 1 dX3_read_63 (by decide) ?_
  refine v_bipush 6 dX3_read_64 (by decide) ?_
  refine v_scV [_, _] (c3_takeNumber G M2 (lo := 1) (hi := 6) hM hM2 (by decide) (by decide)) k3_takeNumber dX3_read_66 l3_56 (by first | exact hS'.1 _ _ rfl | assumption) (by decide) rfl (Nat.le_of_ble_eq_true rfl) (Nat.le_of_ble_eq_true rfl) ?_
  intro M3 hM3; have hPM3 := hM.sq hM3.1; have hS' := hPM3.1; have hq0 := hPM3.2.1.1; have h3 : CS p N Z M false 0 0 (nst Z 1 6 1 (rmu Z 0 (0, 0, 0, bgK K))) (sI M3 p 1 (nI (rnv Z 1 6 (rmu Z 0 (0, 0, 0, bgK K))))) := hM3.p1 hp (by omega) (by rw [eKn]; exact (z 2 (by decide) (by decide)).2) (by rw [eKn]; exact (z 3 (by decide) (by decide)).2) (by rw [eKn, (z 4 (by decide) (by decide)).2]; omega) (by rw [eKn]; exact (z 7 (by decide) (by decide)).2)
  refine v_putI 4 1 dX3_read_69 f3_60 hq0 (by decide) ?_
  refine v_aload_n dX3_read_72 rfl ?_
  refine v_gets (v := .ref 17) dX3_read_73 g3_63 (kT_z G (i := 17) (by decide) rfl) ?_
  refine v_scVv [_] (c3_take G _ (k := 17) hM h3 (by decide)) k3_take dX3_read_76 l3_52 (by first | exact hS'.1 _ _ rfl | assumption) (by decide) rfl (Nat.le_of_ble_eq_true rfl) (Nat.le_of_ble_eq_true rfl) ?_
  intro M4 hM4; have hPM4 := hM.sq hM4.1; have hS' := hPM4.1; have hr2 := hPM4.2.2.2.1; have hr0 := hPM4.2.1.1
  refine v_aload_n dX3_read_79 rfl ?_
  refine v_getR 3 2 _ dX3_read_80 f3_21 (by first | exact hS'.1 _ _ rfl | assumption) (by decide) hr2 ?_
  refine v_iconst 1 dX3_read_83 (by decide) ?_
  refine v_putI 4 0 dX3_read_84 f3_66 hr0 (by decide) ?_
  refine v_iconst 0 dX3_read_87 (by decide) ?_
  refine v_istore_n dX3_read_88 rfl (by decide) ?_
  exact go _ (fin M4 hM4)
end CR0
