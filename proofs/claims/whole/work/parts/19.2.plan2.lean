theorem nw_Io {M : mM} {sh : Nat ⊕ (Nat × Nat)} {q k : Nat} (h : q ≠ gz M) : gI (nw M sh) q k = gI M q k := if_neg h
theorem nw_Iz {M : mM} {sh : Nat ⊕ (Nat × Nat)} {q k : Nat} (h : q = gz M) : gI (nw M sh) q k = 0 := if_pos h
theorem nw_Jo {M : mM} {sh : Nat ⊕ (Nat × Nat)} {q k : Nat} (h : q ≠ gz M) : gJ (nw M sh) q k = gJ M q k := if_neg h
theorem nw_Jz {M : mM} {sh : Nat ⊕ (Nat × Nat)} {q k : Nat} (h : q = gz M) : gJ (nw M sh) q k = 0 := if_pos h
theorem nw_Ro {M : mM} {sh : Nat ⊕ (Nat × Nat)} {q k : Nat} (h : q ≠ gz M) : gR (nw M sh) q k = gR M q k := if_neg h
theorem nw_Tz {M : mM} {sh : Nat ⊕ (Nat × Nat)} {q : Nat} (h : q = gz M) : gT (nw M sh) q = sh := by subst h; exact nw_T M sh
/-- a plan just made, gz M its cell -/
theorem iniP_T (M : mM) : gz (iniP (nw M (.inl 4)) (gz M)) = gz M + 7 ∧ (∀ q, q < gz M → gT (iniP (nw M (.inl 4)) (gz M)) q = gT M q) ∧ gT (iniP (nw M (.inl 4)) (gz M)) (gz M) = .inl 4 ∧ gT (iniP (nw M (.inl 4)) (gz M)) (gz M + 1) = .inr (0, 14) ∧ gT (iniP (nw M (.inl 4)) (gz M)) (gz M + 2) = .inr (0, 10) ∧ gT (iniP (nw M (.inl 4)) (gz M)) (gz M + 3) = .inr (0, 11) ∧ gT (iniP (nw M (.inl 4)) (gz M)) (gz M + 4) = .inr (0, 10) ∧ gT (iniP (nw M (.inl 4)) (gz M)) (gz M + 6) = .inr (0, 60) := ⟨rfl, fun q hq => ((nw_To (show q ≠ gz M + 6 by omega)).trans ((nw_To (show q ≠ gz M + 5 by omega)).trans ((nw_To (show q ≠ gz M + 4 by omega)).trans ((nw_To (show q ≠ gz M + 3 by omega)).trans ((nw_To (show q ≠ gz M + 2 by omega)).trans ((nw_To (show q ≠ gz M + 1 by omega)).trans (nw_To (show q ≠ gz M by omega)))))))), ((nw_To (show gz M ≠ gz M + 6 by omega)).trans ((nw_To (show gz M ≠ gz M + 5 by omega)).trans ((nw_To (show gz M ≠ gz M + 4 by omega)).trans ((nw_To (show gz M ≠ gz M + 3 by omega)).trans ((nw_To (show gz M ≠ gz M + 2 by omega)).trans ((nw_To (show gz M ≠ gz M + 1 by omega)).trans (nw_Tz (show gz M = gz M by omega)))))))), ((nw_To (show gz M + 1 ≠ gz M + 6 by omega)).trans ((nw_To (show gz M + 1 ≠ gz M + 5 by omega)).trans ((nw_To (show gz M + 1 ≠ gz M + 4 by omega)).trans ((nw_To (show gz M + 1 ≠ gz M + 3 by omega)).trans ((nw_To (show gz M + 1 ≠ gz M + 2 by omega)).trans (nw_Tz (show gz M + 1 = gz M + 1 by omega))))))), ((nw_To (show gz M + 2 ≠ gz M + 6 by omega)).trans ((nw_To (show gz M + 2 ≠ gz M + 5 by omega)).trans ((nw_To (show gz M + 2 ≠ gz M + 4 by omega)).trans ((nw_To (show gz M + 2 ≠ gz M + 3 by omega)).trans (nw_Tz (show gz M + 2 = gz M + 2 by omega)))))), ((nw_To (show gz M + 3 ≠ gz M + 6 by omega)).trans ((nw_To (show gz M + 3 ≠ gz M + 5 by omega)).trans ((nw_To (show gz M + 3 ≠ gz M + 4 by omega)).trans (nw_Tz (show gz M + 3 = gz M + 3 by omega))))), ((nw_To (show gz M + 4 ≠ gz M + 6 by omega)).trans ((nw_To (show gz M + 4 ≠ gz M + 5 by omega)).trans (nw_Tz (show gz M + 4 = gz M + 4 by omega)))), (nw_Tz (show gz M + 6 = gz M + 6 by omega))⟩
theorem gI_rn {M : mM} {sh : Nat ⊕ (Nat × Nat)} {p k' : Nat} {v : Option Nat} {q k : Nat} (h : q ≠ gz M) : gI (sR (nw M sh) p k' v) q k = gI M q k := if_neg h
theorem gI_rz {M : mM} {sh : Nat ⊕ (Nat × Nat)} {p k' : Nat} {v : Option Nat} {q k : Nat} (h : q = gz M) : gI (sR (nw M sh) p k' v) q k = 0 := if_pos h
theorem gJ_rn {M : mM} {sh : Nat ⊕ (Nat × Nat)} {p k' : Nat} {v : Option Nat} {q k : Nat} (h : q ≠ gz M) : gJ (sR (nw M sh) p k' v) q k = gJ M q k := if_neg h
theorem iniP_Il (M : mM) {q : Nat} (hq : q < gz M) : gI (iniP (nw M (.inl 4)) (gz M)) q = gI M q := funext (fun k => by
  rw [iniP, gI_rn (by show q ≠ gz M + 6; omega), gI_rn (by show q ≠ gz M + 5; omega), gI_rn (by show q ≠ gz M + 4; omega), gI_rn (by show q ≠ gz M + 3; omega), gI_rn (by show q ≠ gz M + 2; omega), gI_rn (by show q ≠ gz M + 1; omega)]
  rw [gI_sq _ _ (by omega), gI_sq _ _ (by omega), gI_sq _ _ (by omega)]
  exact nw_Io (by omega))
theorem iniP_Ip (M : mM) (k : Nat) : gI (iniP (nw M (.inl 4)) (gz M)) (gz M) k = if k = 1 then 1 else if k = 7 ∨ k = 8 then 2 else 0 := by
  rw [iniP, gI_rn (by show gz M ≠ gz M + 6; omega), gI_rn (by show gz M ≠ gz M + 5; omega), gI_rn (by show gz M ≠ gz M + 4; omega), gI_rn (by show gz M ≠ gz M + 3; omega), gI_rn (by show gz M ≠ gz M + 2; omega), gI_rn (by show gz M ≠ gz M + 1; omega)]
  by_cases k8 : k = 8
  · subst k8; rw [gI_ss]; rfl
  · rw [gI_sk _ _ k8]
    by_cases k7 : k = 7
    · subst k7; rw [gI_ss]; rfl
    · rw [gI_sk _ _ k7]
      by_cases k1 : k = 1
      · subst k1; rw [gI_ss]; rfl
      · rw [gI_sk _ _ k1, if_neg k1, if_neg (by omega)]; exact nw_Iz rfl
theorem iniP_I1 (M : mM) (k : Nat) : gI (iniP (nw M (.inl 4)) (gz M)) (gz M + 1) k = 0 := by
  rw [iniP, gI_rn (by show gz M + 1 ≠ gz M + 6; omega), gI_rn (by show gz M + 1 ≠ gz M + 5; omega), gI_rn (by show gz M + 1 ≠ gz M + 4; omega), gI_rn (by show gz M + 1 ≠ gz M + 3; omega), gI_rn (by show gz M + 1 ≠ gz M + 2; omega)]
  exact gI_rz rfl
theorem iniP_I2 (M : mM) (k : Nat) : gI (iniP (nw M (.inl 4)) (gz M)) (gz M + 2) k = 0 := by
  rw [iniP, gI_rn (by show gz M + 2 ≠ gz M + 6; omega), gI_rn (by show gz M + 2 ≠ gz M + 5; omega), gI_rn (by show gz M + 2 ≠ gz M + 4; omega), gI_rn (by show gz M + 2 ≠ gz M + 3; omega)]
  exact gI_rz rfl
theorem iniP_I3 (M : mM) (k : Nat) : gI (iniP (nw M (.inl 4)) (gz M)) (gz M + 3) k = 0 := by
  rw [iniP, gI_rn (by show gz M + 3 ≠ gz M + 6; omega), gI_rn (by show gz M + 3 ≠ gz M + 5; omega), gI_rn (by show gz M + 3 ≠ gz M + 4; omega)]
  exact gI_rz rfl
theorem iniP_I4 (M : mM) (k : Nat) : gI (iniP (nw M (.inl 4)) (gz M)) (gz M + 4) k = 0 := by
  rw [iniP, gI_rn (by show gz M + 4 ≠ gz M + 6; omega), gI_rn (by show gz M + 4 ≠ gz M + 5; omega)]
  exact gI_rz rfl
theorem iniP_I5 (M : mM) (k : Nat) : gI (iniP (nw M (.inl 4)) (gz M)) (gz M + 5) k = 0 := by
  rw [iniP, gI_rn (by show gz M + 5 ≠ gz M + 6; omega)]
  exact gI_rz rfl
theorem iniP_I6 (M : mM) (k : Nat) : gI (iniP (nw M (.inl 4)) (gz M)) (gz M + 6) k = 0 := by
  rw [iniP]
  exact gI_rz rfl
theorem iniP_Jl (M : mM) {q k : Nat} (hq : q < gz M) : gJ (iniP (nw M (.inl 4)) (gz M)) q k = gJ M q k := by
  rw [iniP, gJ_rn (by show q ≠ gz M + 6; omega), gJ_rn (by show q ≠ gz M + 5; omega), gJ_rn (by show q ≠ gz M + 4; omega), gJ_rn (by show q ≠ gz M + 3; omega), gJ_rn (by show q ≠ gz M + 2; omega), gJ_rn (by show q ≠ gz M + 1; omega)]
  exact nw_Jo (sh := .inl 4) (show q ≠ gz M by omega)
theorem iniP_Jp (M : mM) (k : Nat) : gJ (iniP (nw M (.inl 4)) (gz M)) (gz M) k = 0 := by
  rw [iniP, gJ_rn (by show gz M ≠ gz M + 6; omega), gJ_rn (by show gz M ≠ gz M + 5; omega), gJ_rn (by show gz M ≠ gz M + 4; omega), gJ_rn (by show gz M ≠ gz M + 3; omega), gJ_rn (by show gz M ≠ gz M + 2; omega), gJ_rn (by show gz M ≠ gz M + 1; omega)]
  exact nw_Jz (sh := .inl 4) rfl
theorem gR_rn {M : mM} {sh : Nat ⊕ (Nat × Nat)} {p k' : Nat} {v : Option Nat} {q k : Nat} (h : q ≠ gz M) (hn : q ≠ p ∨ k ≠ k') : gR (sR (nw M sh) p k' v) q k = gR M q k := by
  rw [gR_sR]
  unfold up2
  rw [if_neg (by omega)]
  exact nw_Ro h
theorem gR_rs {M : mM} {sh : Nat ⊕ (Nat × Nat)} {p k' : Nat} {v : Option Nat} : gR (sR (nw M sh) p k' v) p k' = v := gR_ss _ _ _ _
theorem iniP_Rl (M : mM) {q k : Nat} (hq : q < gz M) : gR (iniP (nw M (.inl 4)) (gz M)) q k = gR M q k := by
  rw [iniP, gR_rn (by show q ≠ gz M + 6; omega) (Or.inl (by omega)), gR_rn (by show q ≠ gz M + 5; omega) (Or.inl (by omega)), gR_rn (by show q ≠ gz M + 4; omega) (Or.inl (by omega)), gR_rn (by show q ≠ gz M + 3; omega) (Or.inl (by omega)), gR_rn (by show q ≠ gz M + 2; omega) (Or.inl (by omega)), gR_rn (by show q ≠ gz M + 1; omega) (Or.inl (by omega))]
  exact nw_Ro (sh := .inl 4) (show q ≠ gz M by omega)
theorem iniP_R10 (M : mM) : gR (iniP (nw M (.inl 4)) (gz M)) (gz M) 10 = some (gz M + 1) := by
  rw [iniP, gR_rn (by show gz M ≠ gz M + 6; omega) (Or.inr (by decide)), gR_rn (by show gz M ≠ gz M + 5; omega) (Or.inr (by decide)), gR_rn (by show gz M ≠ gz M + 4; omega) (Or.inr (by decide)), gR_rn (by show gz M ≠ gz M + 3; omega) (Or.inr (by decide)), gR_rn (by show gz M ≠ gz M + 2; omega) (Or.inr (by decide)), gR_rs]
  rfl
theorem iniP_R11 (M : mM) : gR (iniP (nw M (.inl 4)) (gz M)) (gz M) 11 = some (gz M + 2) := by
  rw [iniP, gR_rn (by show gz M ≠ gz M + 6; omega) (Or.inr (by decide)), gR_rn (by show gz M ≠ gz M + 5; omega) (Or.inr (by decide)), gR_rn (by show gz M ≠ gz M + 4; omega) (Or.inr (by decide)), gR_rn (by show gz M ≠ gz M + 3; omega) (Or.inr (by decide)), gR_rs]
  rfl
theorem iniP_R12 (M : mM) : gR (iniP (nw M (.inl 4)) (gz M)) (gz M) 12 = some (gz M + 3) := by
  rw [iniP, gR_rn (by show gz M ≠ gz M + 6; omega) (Or.inr (by decide)), gR_rn (by show gz M ≠ gz M + 5; omega) (Or.inr (by decide)), gR_rn (by show gz M ≠ gz M + 4; omega) (Or.inr (by decide)), gR_rs]
  rfl
theorem iniP_R13 (M : mM) : gR (iniP (nw M (.inl 4)) (gz M)) (gz M) 13 = some (gz M + 4) := by
  rw [iniP, gR_rn (by show gz M ≠ gz M + 6; omega) (Or.inr (by decide)), gR_rn (by show gz M ≠ gz M + 5; omega) (Or.inr (by decide)), gR_rs]
  rfl
theorem iniP_R15 (M : mM) : gR (iniP (nw M (.inl 4)) (gz M)) (gz M) 15 = some (gz M + 6) := by
  rw [iniP, gR_rs]
  rfl
