/-! ===== the class: a new plan ===== -/
/-- the memory behind a plan's making; p its cell, the newest -/
def iniP (M : mM) (p : Nat) : mM := sR (nw (sR (nw (sR (nw (sR (nw (sR (nw (sR (nw (sI (sI (sI M p 1 1) p 7 2) p 8 2) (.inr (0, 14))) p 10 (some (gz M))) (.inr (0, 10))) p 11 (some (gz M + 1))) (.inr (0, 11))) p 12 (some (gz M + 2))) (.inr (0, 10))) p 13 (some (gz M + 3))) (.inr (0, 0))) p 14 (some (gz M + 4))) (.inr (0, 60))) p 15 (some (gz M + 5))
section CI
variable (G : mG) (M : mM)
theorem c4_init {p : Nat} (hT : gT M p = .inl 4) (hz : p < gz M) : Ct G Y4_init 1 6 105 [.ref p] M (Rv none (iniP M p)) NX := by
  refine Ct.of k4_init.1 (Nat.le_of_ble_eq_true rfl) ?_
  refine v_aload_n dX4_init_0 rfl ?_
  refine v_objInit dX4_init_1 ⟨l4_3, oI⟩ (Nat.le_of_ble_eq_true rfl) (Nat.le_of_ble_eq_true rfl) ?_
  refine v_aload_n dX4_init_4 rfl ?_
  refine v_iconst 1 dX4_init_5 (by decide) ?_
  refine v_putI 4 1 dX4_init_6 f4_9 hT (by decide) ?_
  refine v_aload_n dX4_init_9 rfl ?_
  refine v_iconst 2 dX4_init_10 (by decide) ?_
  refine v_putI 4 7 dX4_init_11 f4_15 hT (by decide) ?_
  refine v_aload_n dX4_init_14 rfl ?_
  refine v_iconst 2 dX4_init_15 (by decide) ?_
  refine v_putI 4 8 dX4_init_16 f4_18 hT (by decide) ?_
  refine v_aload_n dX4_init_19 rfl ?_
  refine v_bipush 14 dX4_init_20 (by decide) ?_
  refine v_newa (t := 0) (N := 14) dX4_init_22 ⟨rfl, by decide⟩ A_0 ⟨by decide, rfl, by decide⟩ ?_
  refine v_putR 4 10 dX4_init_24 f4_21 ((nw_To (show p ≠ gz M + 0 by omega)).trans hT) (by decide) (by decide) ?_
  refine v_aload_n dX4_init_27 rfl ?_
  refine v_bipush 10 dX4_init_28 (by decide) ?_
  refine v_newa (t := 0) (N := 10) dX4_init_30 ⟨rfl, by decide⟩ A_0 ⟨by decide, rfl, by decide⟩ ?_
  refine v_putR 4 11 dX4_init_32 f4_25 ((nw_To (show p ≠ gz M + 1 by omega)).trans ((nw_To (show p ≠ gz M + 0 by omega)).trans hT)) (by decide) (by decide) ?_
  refine v_aload_n dX4_init_35 rfl ?_
  refine v_bipush 11 dX4_init_36 (by decide) ?_
  refine v_newa (t := 0) (N := 11) dX4_init_38 ⟨rfl, by decide⟩ A_0 ⟨by decide, rfl, by decide⟩ ?_
  refine v_putR 4 12 dX4_init_40 f4_28 ((nw_To (show p ≠ gz M + 2 by omega)).trans ((nw_To (show p ≠ gz M + 1 by omega)).trans ((nw_To (show p ≠ gz M + 0 by omega)).trans hT))) (by decide) (by decide) ?_
  refine v_aload_n dX4_init_43 rfl ?_
  refine v_bipush 10 dX4_init_44 (by decide) ?_
  refine v_newa (t := 0) (N := 10) dX4_init_46 ⟨rfl, by decide⟩ A_0 ⟨by decide, rfl, by decide⟩ ?_
  refine v_putR 4 13 dX4_init_48 f4_31 ((nw_To (show p ≠ gz M + 3 by omega)).trans ((nw_To (show p ≠ gz M + 2 by omega)).trans ((nw_To (show p ≠ gz M + 1 by omega)).trans ((nw_To (show p ≠ gz M + 0 by omega)).trans hT)))) (by decide) (by decide) ?_
  refine v_aload_n dX4_init_51 rfl ?_
  refine v_iconst 0 dX4_init_52 (by decide) ?_
  refine v_newa (t := 0) (N := 0) dX4_init_53 ⟨rfl, by decide⟩ A_0 ⟨by decide, rfl, by decide⟩ ?_
  refine v_putR 4 14 dX4_init_55 f4_34 ((nw_To (show p ≠ gz M + 4 by omega)).trans ((nw_To (show p ≠ gz M + 3 by omega)).trans ((nw_To (show p ≠ gz M + 2 by omega)).trans ((nw_To (show p ≠ gz M + 1 by omega)).trans ((nw_To (show p ≠ gz M + 0 by omega)).trans hT))))) (by decide) (by decide) ?_
  refine v_aload_n dX4_init_58 rfl ?_
  refine v_bipush 60 dX4_init_59 (by decide) ?_
  refine v_newa (t := 0) (N := 60) dX4_init_61 ⟨rfl, by decide⟩ A_0 ⟨by decide, rfl, by decide⟩ ?_
  refine v_putR 4 15 dX4_init_63 f4_37 ((nw_To (show p ≠ gz M + 5 by omega)).trans ((nw_To (show p ≠ gz M + 4 by omega)).trans ((nw_To (show p ≠ gz M + 3 by omega)).trans ((nw_To (show p ≠ gz M + 2 by omega)).trans ((nw_To (show p ≠ gz M + 1 by omega)).trans ((nw_To (show p ≠ gz M + 0 by omega)).trans hT)))))) (by decide) (by decide) ?_
  refine v_vret dX4_init_66 rfl ?_
  exact ⟨rfl, rfl⟩
end CI
