/-! ===== the reference's deeds, as they are called: change, person, undo, mark ===== -/
theorem within_c {a b : Int32} {x : Int32} : (a.toInt64 ≤ x.toInt64 ∧ x.toInt64 ≤ b.toInt64) ↔ (a ≤ x ∧ x ≤ b) := by
  rw [Int64.le_iff_toInt_le, Int64.le_iff_toInt_le, Int32.toInt_toInt64, Int32.toInt_toInt64, Int32.toInt_toInt64, Int32.le_iff_toInt_le, Int32.le_iff_toInt_le]
section RI
variable (G : mG) (M : mM)
def tChg (K : Nat → Int32) (c m v : Int32) : Int32 := if inR (kn K 2) c = true ∧ inR (kn K 1) m = true then (if inR 10 v = true then 0 else 2) else 1
def chgK (K : Nat → Int32) (c m v : Int32) : Nat → Int32 := if tChg K c m v = 0 then uK (kepK K) (9 + 6 * c.toNatClampNeg + m.toNatClampNeg) v else K
theorem within1 (v : Int32) : (0 ≤ v.toInt64 ∧ v.toInt64 ≤ 1) ↔ inR 2 v = true := within_in (n := 2) (by omega) v
theorem within2 (v : Int32) : (0 ≤ v.toInt64 ∧ v.toInt64 ≤ 2) ↔ inR 3 v = true := within_in (n := 3) (by omega) v
theorem within3 (v : Int32) : (0 ≤ v.toInt64 ∧ v.toInt64 ≤ 3) ↔ inR 4 v = true := within_in (n := 4) (by omega) v
theorem within9 (v : Int32) : (0 ≤ v.toInt64 ∧ v.toInt64 ≤ 9) ↔ inR 10 v = true := within_in (n := 10) (by omega) v
theorem c12_change (hS : Sh M) (hW : WK (gI M 231)) (c m v : Int32) : Ct G Y12_change 2 0 0 [.ref 230, .int c, .int m, .int v] M (Rs (some (.int (if tChg (gI M 231) c m v = 0 then gI M 231 (9 + 6 * c.toNatClampNeg + m.toNatClampNeg) else 0))) (Pd M (tChg (gI M 231) c m v) (chgK (gI M 231) c m v))) NX := by
  have h14 := hW.p.2.1.2
  have h6 := hW.p.1.2.2
  have fin : ∀ t, t = tChg (gI M 231) c m v → V G Y12_change 2 0 0 (Rs (some (.int (if tChg (gI M 231) c m v = 0 then gI M 231 (9 + 6 * c.toNatClampNeg + m.toNatClampNeg) else 0))) (Pd M (tChg (gI M 231) c m v) (chgK (gI M 231) c m v))) NX 40 [some (.ref 230), some (.int c), some (.int m), some (.int v)] [.int t, .ref 230] M := by
    intro t ht
    refine v_putI 12 4 dX12_change_40 f12_68 (by first | exact hS.1 _ _ rfl | exact hS'.1 _ _ rfl | assumption) (by decide) ?_
    refine v_aload_n dX12_change_43 rfl ?_
    refine v_getI 12 4 dX12_change_44 f12_68 (by first | exact hS.1 _ _ rfl | exact hS'.1 _ _ rfl | assumption) (by decide) ?_
    -- at 47: .ifCond .le 5
    rw [gI_ss]
    by_cases h0 : tChg (gI M 231) c m v = 0
    · rw [ht, h0, if_pos rfl]
      refine v_if_le 52 dX12_change_47 (by decide) (fun h47 => ?_) (fun h47 => ?_)
      · have hcm : inR (kn (gI M 231) 2) c = true ∧ inR (kn (gI M 231) 1) m = true := by
          unfold tChg at h0
          split at h0
          · assumption
          · cases h0
        obtain ⟨j, hj, rfl, hj2⟩ := inR_of hcm.1
        obtain ⟨i, hi, rfl, hi2⟩ := inR_of hcm.2
        rw [show chgK (gI M 231) (nI j) (nI i) v = uK (kepK (gI M 231)) (9 + 6 * j + i) v by rw [chgK, if_pos h0, nI_clamp hj2, nI_clamp hi2], nI_clamp hj2, nI_clamp hi2]
        refine v_aload_n dX12_change_52 rfl ?_
        -- at 53: .invokevirtual 370
        refine v_scVv [] (keeps_at G M hS hW 0) k12_keeps dX12_change_53 l12_370 (hS.1 _ _ rfl) (by decide) rfl (Nat.le_of_ble_eq_true rfl) (Nat.le_of_ble_eq_true rfl) (fun M2 hM2 => ?_)
        have hS' := hM2.sh hS
        refine v_aload_n dX12_change_56 rfl ?_
        refine v_getR 12 0 _ dX12_change_57 f12_9 (by first | exact hS.1 _ _ rfl | exact hS'.1 _ _ rfl | assumption) (by decide) (by first | exact hS.2 _ _ _ rfl | exact hS'.2 _ _ _ rfl | assumption) ?_
        refine v_bipush 9 dX12_change_60 (by decide) ?_
        refine v_bipush 6 dX12_change_62 (by decide) ?_
        refine v_iload_n dX12_change_64 rfl ?_
        refine v_imul dX12_change_65 ?_
        refine v_iadd dX12_change_66 ?_
        refine v_iload_n dX12_change_67 rfl ?_
        refine v_iadd dX12_change_68 ?_
        refine v_ialdN (9 + 6 * j + i) dX12_change_69 (by first | exact hS.1 _ _ rfl | exact hS'.1 _ _ rfl | assumption) (by simp only [n_lit, pk_mul, nI_add]) ⟨by omega, by omega⟩ ?_
        -- at 70: .istore 4
        rw [hM2.2.2, kepK_o hW (by omega)]
        refine v_istore dX12_change_70 rfl (by decide) ?_
        refine v_aload_n dX12_change_72 rfl ?_
        refine v_getR 12 0 _ dX12_change_73 f12_9 (by first | exact hS.1 _ _ rfl | exact hS'.1 _ _ rfl | assumption) (by decide) (by first | exact hS.2 _ _ _ rfl | exact hS'.2 _ _ _ rfl | assumption) ?_
        refine v_bipush 9 dX12_change_76 (by decide) ?_
        refine v_bipush 6 dX12_change_78 (by decide) ?_
        refine v_iload_n dX12_change_80 rfl ?_
        refine v_imul dX12_change_81 ?_
        refine v_iadd dX12_change_82 ?_
        refine v_iload_n dX12_change_83 rfl ?_
        refine v_iadd dX12_change_84 ?_
        refine v_iload_n dX12_change_85 rfl ?_
        -- at 86: .iastore
        refine v_iastN (9 + 6 * j + i) dX12_change_86 (hS'.1 _ _ rfl) (by simp only [n_lit, pk_mul, nI_add]) ⟨by omega, by omega⟩ ?_
        refine v_iload dX12_change_87 rfl ?_
        -- at 89: .ireturn
        refine v_iret dX12_change_89 rfl ⟨rfl, hM2.k (Sm.rf.st _ rfl) (gI_sq _ _ (by decide)) (by rw [gI_uK, hM2.2.2])⟩
      · exact absurd (by decide) h47
    · rw [if_neg h0, show chgK (gI M 231) c m v = gI M 231 from if_neg h0]
      have hpos : ¬ t ≤ 0 := by
        rw [ht]
        unfold tChg at h0 ⊢
        split
        · split
          · rename_i a b; rw [if_pos a, if_pos b] at h0; exact absurd rfl h0
          · decide
        · decide
      refine v_if_le 52 dX12_change_47 (by decide) (fun h47 => ?_) (fun h47 => ?_)
      · exact absurd h47 hpos
      · refine v_iconst 0 dX12_change_50 (by decide) ?_
        -- at 51: .ireturn
        refine v_iret dX12_change_51 rfl ⟨rfl, by rw [← ht]; exact Pd.q Pq.st⟩
  refine Ct.of k12_change.1 (Nat.le_of_ble_eq_true rfl) ?_
  refine v_aload_n dX12_change_0 rfl ?_
  refine v_aload_n dX12_change_1 rfl ?_
  refine v_iload_n dX12_change_2 rfl ?_
  refine v_i2l dX12_change_3 ?_
  -- at 4: .invokevirtual 297
  refine v_cV [_] (c12_isChestN G M hS hW.p c) k12_isChest dX12_change_4 l12_297 (by first | exact hS.1 _ _ rfl | exact hS'.1 _ _ rfl | assumption) (by decide) rfl (Nat.le_of_ble_eq_true rfl) (Nat.le_of_ble_eq_true rfl) ?_
  by_cases hc : inR (kn (gI M 231) 2) c = true
  · rw [bI_t hc]
    refine v_if_eq 19 dX12_change_7 (by decide) (fun h7 => ?_) (fun h7 => ?_)
    · exact absurd h7 (by decide)
    · refine v_aload_n dX12_change_10 rfl ?_
      refine v_iload_n dX12_change_11 rfl ?_
      refine v_i2l dX12_change_12 ?_
      -- at 13: .invokevirtual 301
      refine v_cV [_] (c12_isMark G M hS hW.p m) k12_isMark dX12_change_13 l12_301 (by first | exact hS.1 _ _ rfl | exact hS'.1 _ _ rfl | assumption) (by decide) rfl (Nat.le_of_ble_eq_true rfl) (Nat.le_of_ble_eq_true rfl) ?_
      by_cases hm : inR (kn (gI M 231) 1) m = true
      · rw [bI_t hm]
        refine v_if_ne 23 dX12_change_16 (by decide) (fun h16 => ?_) (fun h16 => ?_)
        · refine v_iload_n dX12_change_23 rfl ?_
          refine v_i2l dX12_change_24 ?_
          refine v_lconst 0 dX12_change_25 (by decide) ?_
          refine v_ldc2 9 dX12_change_26 K12_379 ?_
          -- at 29: .invokestatic 132
          refine v_cS [_, _, _] (c12_within _ _ _ _ _) k12_within dX12_change_29 l12_132 rfl (Nat.le_of_ble_eq_true rfl) (Nat.le_of_ble_eq_true rfl) ?_
          rw [bI_cong (within9 v)]
          by_cases hv : inR 10 v = true
          · rw [bI_t hv]
            refine v_if_eq 39 dX12_change_32 (by decide) (fun h32 => ?_) (fun h32 => ?_)
            · exact absurd h32 (by decide)
            · refine v_iconst 0 dX12_change_35 (by decide) ?_
              refine v_goto 40 dX12_change_36 (by decide) ?_
              -- at 40: .putfield 68
              exact fin 0 (by rw [tChg, if_pos ⟨hc, hm⟩, if_pos hv])
          · rw [bI_f hv]
            refine v_if_eq 39 dX12_change_32 (by decide) (fun h32 => ?_) (fun h32 => ?_)
            · refine v_iconst 2 dX12_change_39 (by decide) ?_
              -- at 40: .putfield 68
              exact fin 2 (by rw [tChg, if_pos ⟨hc, hm⟩, if_neg hv])
            · exact absurd rfl h32
        · exact absurd (by decide) h16
      · rw [bI_f hm]
        refine v_if_ne 23 dX12_change_16 (by decide) (fun h16 => ?_) (fun h16 => ?_)
        · exact absurd rfl h16
        · refine v_iconst 1 dX12_change_19 (by decide) ?_
          refine v_goto 40 dX12_change_20 (by decide) ?_
          -- at 40: .putfield 68
          exact fin 1 (by rw [tChg, if_neg (fun z => hm z.2)])
  · rw [bI_f hc]
    refine v_if_eq 19 dX12_change_7 (by decide) (fun h7 => ?_) (fun h7 => ?_)
    · refine v_iconst 1 dX12_change_19 (by decide) ?_
      refine v_goto 40 dX12_change_20 (by decide) ?_
      -- at 40: .putfield 68
      exact fin 1 (by rw [tChg, if_neg (fun z => hc z.1)])
    · exact absurd rfl h7
def tPer (K : Nat → Int32) (p w : Int32) : Int32 := if inR (kn K 6) p = true then (if inR 2 w = true then 0 else 2) else 1
theorem c12_person (hS : Sh M) (hW : WK (gI M 231)) (p w : Int32) : Ct G Y12_person 2 0 0 [.ref 230, .int p, .int w] M (Rs (some (.int (if tPer (gI M 231) p w = 0 then (if w = 0 then gI M 231 (97 + p.toNatClampNeg) else gI M 231 (103 + p.toNatClampNeg)) else 0))) (Pq M (tPer (gI M 231) p w))) NX := by
  have h6 := hW.p.2.2.2.2.2.1.2.2
  have e1 : ∀ t, gI (sI M 230 4 t) 231 = gI M 231 := fun t => gI_sr _ _ (by decide)
  have fin : ∀ t, t = tPer (gI M 231) p w → V G Y12_person 2 0 0 (Rs (some (.int (if tPer (gI M 231) p w = 0 then (if w = 0 then gI M 231 (97 + p.toNatClampNeg) else gI M 231 (103 + p.toNatClampNeg)) else 0))) (Pq M (tPer (gI M 231) p w))) NX 28 [some (.ref 230), some (.int p), some (.int w)] [.int t, .ref 230] M := by
    intro t ht
    refine v_putI 12 4 dX12_person_28 f12_68 (by first | exact hS.1 _ _ rfl | exact hS'.1 _ _ rfl | assumption) (by decide) ?_
    refine v_aload_n dX12_person_31 rfl ?_
    refine v_getI 12 4 dX12_person_32 f12_68 (by first | exact hS.1 _ _ rfl | exact hS'.1 _ _ rfl | assumption) (by decide) ?_
    -- at 35: .ifCond .le 5
    rw [gI_ss]
    by_cases h0 : tPer (gI M 231) p w = 0
    · rw [ht, h0, if_pos rfl]
      have hp : inR (kn (gI M 231) 6) p = true := by
        unfold tPer at h0
        split at h0
        · assumption
        · cases h0
      obtain ⟨j, hj, rfl, hj2⟩ := inR_of hp
      rw [nI_clamp hj2]
      refine v_if_le 40 dX12_person_35 (by decide) (fun h35 => ?_) (fun h35 => ?_)
      · refine v_iload_n dX12_person_40 rfl ?_
        -- at 41: .ifCond .ne 15
        refine v_if_ne 56 dX12_person_41 (by decide) (fun h41 => ?_) (fun h41 => ?_)
        · refine v_aload_n dX12_person_56 rfl ?_
          refine v_getR 12 0 _ dX12_person_57 f12_9 (by first | exact hS.1 _ _ rfl | exact hS'.1 _ _ rfl | assumption) (by decide) (by first | exact hS.2 _ _ _ rfl | exact hS'.2 _ _ _ rfl | assumption) ?_
          refine v_bipush 103 dX12_person_60 (by decide) ?_
          refine v_iload_n dX12_person_62 rfl ?_
          refine v_iadd dX12_person_63 ?_
          refine v_ialdN (103 + j) dX12_person_64 (by first | exact hS.1 _ _ rfl | exact hS'.1 _ _ rfl | assumption) (by simp only [n_lit, pk_mul, nI_add]) ⟨by omega, by omega⟩ ?_
          -- at 65: .ireturn
          rw [e1]
          refine v_iret dX12_person_65 rfl ⟨by rw [if_neg h41], Pq.st⟩
        · refine v_aload_n dX12_person_44 rfl ?_
          refine v_getR 12 0 _ dX12_person_45 f12_9 (by first | exact hS.1 _ _ rfl | exact hS'.1 _ _ rfl | assumption) (by decide) (by first | exact hS.2 _ _ _ rfl | exact hS'.2 _ _ _ rfl | assumption) ?_
          refine v_bipush 97 dX12_person_48 (by decide) ?_
          refine v_iload_n dX12_person_50 rfl ?_
          refine v_iadd dX12_person_51 ?_
          refine v_ialdN (97 + j) dX12_person_52 (by first | exact hS.1 _ _ rfl | exact hS'.1 _ _ rfl | assumption) (by simp only [n_lit, pk_mul, nI_add]) ⟨by omega, by omega⟩ ?_
          refine v_goto 65 dX12_person_53 (by decide) ?_
          -- at 65: .ireturn
          rw [e1]
          refine v_iret dX12_person_65 rfl ⟨by rw [if_pos (Decidable.not_not.mp h41)], Pq.st⟩
      · exact absurd (by decide) h35
    · rw [if_neg h0]
      have hpos : ¬ t ≤ 0 := by
        rw [ht]
        unfold tPer at h0 ⊢
        split
        · split
          · rename_i a b; rw [if_pos a, if_pos b] at h0; exact absurd rfl h0
          · decide
        · decide
      refine v_if_le 40 dX12_person_35 (by decide) (fun h35 => ?_) (fun h35 => ?_)
      · exact absurd h35 hpos
      · refine v_iconst 0 dX12_person_38 (by decide) ?_
        -- at 39: .ireturn
        refine v_iret dX12_person_39 rfl ⟨rfl, by rw [← ht]; exact Pq.st⟩
  refine Ct.of k12_person.1 (Nat.le_of_ble_eq_true rfl) ?_
  refine v_aload_n dX12_person_0 rfl ?_
  refine v_aload_n dX12_person_1 rfl ?_
  refine v_iload_n dX12_person_2 rfl ?_
  -- at 3: .invokevirtual 367
  refine v_cV [_] (c12_isBody G M hS hW.p p) k12_isBody dX12_person_3 l12_367 (by first | exact hS.1 _ _ rfl | exact hS'.1 _ _ rfl | assumption) (by decide) rfl (Nat.le_of_ble_eq_true rfl) (Nat.le_of_ble_eq_true rfl) ?_
  by_cases hp : inR (kn (gI M 231) 6) p = true
  · rw [bI_t hp]
    refine v_if_ne 13 dX12_person_6 (by decide) (fun h6b => ?_) (fun h6b => ?_)
    · refine v_iload_n dX12_person_13 rfl ?_
      refine v_i2l dX12_person_14 ?_
      refine v_lconst 0 dX12_person_15 (by decide) ?_
      refine v_lconst 1 dX12_person_16 (by decide) ?_
      -- at 17: .invokestatic 132
      refine v_cS [_, _, _] (c12_within _ _ _ _ _) k12_within dX12_person_17 l12_132 rfl (Nat.le_of_ble_eq_true rfl) (Nat.le_of_ble_eq_true rfl) ?_
      rw [bI_cong (within1 w)]
      by_cases hv : inR 2 w = true
      · rw [bI_t hv]
        refine v_if_eq 27 dX12_person_20 (by decide) (fun h20 => ?_) (fun h20 => ?_)
        · exact absurd h20 (by decide)
        · refine v_iconst 0 dX12_person_23 (by decide) ?_
          refine v_goto 28 dX12_person_24 (by decide) ?_
          -- at 28: .putfield 68
          exact fin 0 (by rw [tPer, if_pos hp, if_pos hv])
      · rw [bI_f hv]
        refine v_if_eq 27 dX12_person_20 (by decide) (fun h20 => ?_) (fun h20 => ?_)
        · refine v_iconst 2 dX12_person_27 (by decide) ?_
          -- at 28: .putfield 68
          exact fin 2 (by rw [tPer, if_pos hp, if_neg hv])
        · exact absurd rfl h20
    · exact absurd (by decide) h6b
  · rw [bI_f hp]
    refine v_if_ne 13 dX12_person_6 (by decide) (fun h6b => ?_) (fun h6b => ?_)
    · exact absurd rfl h6b
    · refine v_iconst 1 dX12_person_9 (by decide) ?_
      refine v_goto 28 dX12_person_10 (by decide) ?_
      -- at 28: .putfield 68
      exact fin 1 (by rw [tPer, if_neg hp])
/-- n deeds undone -/
def und1 (K : Nat → Int32) (n : Nat) : Nat → Int32 := uK K 8 (nI (kn K 8 - n))
def undK (K : Nat → Int32) (n : Nat) : Nat → Int32 := cpK (und1 K n) 9 (fun j => und1 K n (155 + 100 * (kn K 8 - n) + j)) 100
def okU (K : Nat → Int32) (n : Int32) : Prop := (1 ≤ n ∧ n ≤ 10) ∧ n ≤ K 8
theorem l12_undo (hS : Sh M) {d : Nat} (hd : d < 10) (h8 : gI M 231 8 = nI d) {n : Int32} : ∀ i k M', k + i = 100 → Sm W231 M M' → gI M' 231 = cpK (gI M 231) 9 (fun j => gI M 231 (155 + 100 * d + j)) k → V G Y12_undo 1 0 0 (Rs (some (.int (nI d))) (fun M' => Sm W231 M M' ∧ gI M' 231 = cpK (gI M 231) 9 (fun j => gI M 231 (155 + 100 * d + j)) 100)) NX 47 [some (.ref 230), some (.int n), some (.int (nI k))] [] M' := by
  intro i
  induction i with
  | zero =>
    intro k M' hk hM e
    have hS' := hS.sm hM
    obtain rfl : k = 100 := by omega
    have e8 : gI M' 231 8 = nI d := by rw [e, cpK_out (by omega)]; exact h8
    refine v_iload_n dX12_undo_47 rfl ?_
    refine v_bipush 100 dX12_undo_48 (by decide) ?_
    -- at 50: .if_icmp .ge 39
    refine v_icmp_ge 89 dX12_undo_50 (by decide) (fun hc => ?_) (fun hc => ?_)
    · refine v_aload_n dX12_undo_89 rfl ?_
      refine v_getR 12 0 _ dX12_undo_90 f12_9 (by first | exact hS.1 _ _ rfl | exact hS'.1 _ _ rfl | assumption) (by decide) (by first | exact hS.2 _ _ _ rfl | exact hS'.2 _ _ _ rfl | assumption) ?_
      refine v_bipush 8 dX12_undo_93 (by decide) ?_
      refine v_ialdN 8 dX12_undo_95 (by first | exact hS.1 _ _ rfl | exact hS'.1 _ _ rfl | assumption) rfl (by decide) ?_
      -- at 96: .ireturn
      rw [e8]
      refine v_iret dX12_undo_96 rfl ⟨rfl, hM, e⟩
    · exact absurd (by decide) hc
  | succ i ih =>
    intro k M' hk hM e
    have hS' := hS.sm hM
    have e8 : gI M' 231 8 = nI d := by rw [e, cpK_out (by omega)]; exact h8
    refine v_iload_n dX12_undo_47 rfl ?_
    refine v_bipush 100 dX12_undo_48 (by decide) ?_
    -- at 50: .if_icmp .ge 39
    refine v_icmp_ge 89 dX12_undo_50 (by decide) (fun hc => ?_) (fun hc => ?_)
    · exact absurd ((nI_leI (a := 100) (by omega) (by omega)).mp hc) (by omega)
    · refine v_aload_n dX12_undo_53 rfl ?_
      refine v_getR 12 0 _ dX12_undo_54 f12_9 (by first | exact hS.1 _ _ rfl | exact hS'.1 _ _ rfl | assumption) (by decide) (by first | exact hS.2 _ _ _ rfl | exact hS'.2 _ _ _ rfl | assumption) ?_
      refine v_bipush 9 dX12_undo_57 (by decide) ?_
      refine v_iload_n dX12_undo_59 rfl ?_
      refine v_iadd dX12_undo_60 ?_
      refine v_aload_n dX12_undo_61 rfl ?_
      refine v_getR 12 0 _ dX12_undo_62 f12_9 (by first | exact hS.1 _ _ rfl | exact hS'.1 _ _ rfl | assumption) (by decide) (by first | exact hS.2 _ _ _ rfl | exact hS'.2 _ _ _ rfl | assumption) ?_
      refine v_sipush 155 dX12_undo_65 (by decide) ?_
      refine v_bipush 100 dX12_undo_68 (by decide) ?_
      refine v_aload_n dX12_undo_70 rfl ?_
      refine v_getR 12 0 _ dX12_undo_71 f12_9 (by first | exact hS.1 _ _ rfl | exact hS'.1 _ _ rfl | assumption) (by decide) (by first | exact hS.2 _ _ _ rfl | exact hS'.2 _ _ _ rfl | assumption) ?_
      refine v_bipush 8 dX12_undo_74 (by decide) ?_
      refine v_ialdN 8 dX12_undo_76 (by first | exact hS.1 _ _ rfl | exact hS'.1 _ _ rfl | assumption) rfl (by decide) ?_
      -- at 77: .imul
      rw [e8]
      refine v_imul dX12_undo_77 ?_
      refine v_iadd dX12_undo_78 ?_
      refine v_iload_n dX12_undo_79 rfl ?_
      refine v_iadd dX12_undo_80 ?_
      refine v_ialdN (155 + 100 * d + k) dX12_undo_81 (by first | exact hS.1 _ _ rfl | exact hS'.1 _ _ rfl | assumption) (by simp only [n_lit, pk_mul, nI_add]) ⟨by omega, by omega⟩ ?_
      -- at 82: .iastore
      rw [show gI M' 231 (155 + 100 * d + k) = gI M 231 (155 + 100 * d + k) by rw [e, cpK_out (by omega)]]
      refine v_iastN (9 + k) dX12_undo_82 (hS'.1 _ _ rfl) (by simp only [n_lit, nI_add]) ⟨by omega, by omega⟩ ?_
      refine v_iinc 1 dX12_undo_83 rfl (by decide) rfl (by decide) ?_
      refine v_goto 47 dX12_undo_86 (by decide) ?_
      -- at 47: .iload_n 2
      rw [nI_1]
      exact ih (k + 1) _ (by omega) (hM.st _ rfl) (by rw [gI_uK, e]; exact uK_cpK _ _ (fun j => gI M 231 (155 + 100 * d + j)) _)
def okUb (K : Nat → Int32) (n : Int32) : Bool := decide ((1 ≤ n ∧ n ≤ 10) ∧ n ≤ K 8)
theorem within10 (v : Int32) : ((1 : Int64) ≤ v.toInt64 ∧ v.toInt64 ≤ 10) ↔ (1 ≤ v ∧ v ≤ 10) := within_c (a := 1) (b := 10)
theorem c12_undo (hS : Sh M) (hW : WK (gI M 231)) (n : Int32) : Ct G Y12_undo 1 0 0 [.ref 230, .int n] M (Rs (some (.int (if okUb (gI M 231) n = true then undK (gI M 231) n.toNatClampNeg 8 else 0))) (Pd M (if okUb (gI M 231) n = true then 0 else 1) (if okUb (gI M 231) n = true then undK (gI M 231) n.toNatClampNeg else gI M 231))) NX := by
  have e1 : gI (sI M 230 4 0) 231 = gI M 231 := gI_sr _ _ (by decide)
  have h8 := hW.2.1
  have no : ¬ okUb (gI M 231) n = true → V G Y12_undo 1 0 0 (Rs (some (.int (if okUb (gI M 231) n = true then undK (gI M 231) n.toNatClampNeg 8 else 0))) (Pd M (if okUb (gI M 231) n = true then 0 else 1) (if okUb (gI M 231) n = true then undK (gI M 231) n.toNatClampNeg else gI M 231))) NX 28 [some (.ref 230), some (.int n)] [] (sI M 230 4 0) := by
    intro hno
    rw [if_neg hno, if_neg hno, if_neg hno]
    refine v_aload_n dX12_undo_28 rfl ?_
    refine v_iconst 1 dX12_undo_29 (by decide) ?_
    -- at 30: .invokevirtual 224
    refine v_cV [_] (c12_fails G (sI M 230 4 0) hS _) k12_fails dX12_undo_30 l12_224 (by first | exact hS.1 _ _ rfl | exact hS'.1 _ _ rfl | assumption) (by decide) rfl (Nat.le_of_ble_eq_true rfl) (Nat.le_of_ble_eq_true rfl) ?_
    refine v_iret dX12_undo_33 rfl ⟨rfl, Pd.q Pq.st2⟩
  refine Ct.of k12_undo.1 (Nat.le_of_ble_eq_true rfl) ?_
  refine v_aload_n dX12_undo_0 rfl ?_
  refine v_iconst 0 dX12_undo_1 (by decide) ?_
  refine v_putI 12 4 dX12_undo_2 f12_68 (by first | exact hS.1 _ _ rfl | exact hS'.1 _ _ rfl | assumption) (by decide) ?_
  refine v_iload_n dX12_undo_5 rfl ?_
  refine v_i2l dX12_undo_6 ?_
  refine v_lconst 1 dX12_undo_7 (by decide) ?_
  refine v_ldc2 10 dX12_undo_8 K12_381 ?_
  -- at 11: .invokestatic 132
  refine v_cS [_, _, _] (c12_within _ _ _ _ _) k12_within dX12_undo_11 l12_132 rfl (Nat.le_of_ble_eq_true rfl) (Nat.le_of_ble_eq_true rfl) ?_
  rw [bI_cong (within10 n)]
  by_cases hn : 1 ≤ n ∧ n ≤ 10
  · rw [bI_t hn]
    refine v_if_eq 28 dX12_undo_14 (by decide) (fun h14 => ?_) (fun h14 => ?_)
    · exact absurd h14 (by decide)
    · refine v_iload_n dX12_undo_17 rfl ?_
      refine v_aload_n dX12_undo_18 rfl ?_
      refine v_getR 12 0 _ dX12_undo_19 f12_9 (by first | exact hS.1 _ _ rfl | exact hS'.1 _ _ rfl | assumption) (by decide) (by first | exact hS.2 _ _ _ rfl | exact hS'.2 _ _ _ rfl | assumption) ?_
      refine v_bipush 8 dX12_undo_22 (by decide) ?_
      refine v_ialdN 8 dX12_undo_24 (by first | exact hS.1 _ _ rfl | exact hS'.1 _ _ rfl | assumption) rfl (by decide) ?_
      -- at 25: .if_icmp .le 9
      rw [e1]
      refine v_icmp_le 34 dX12_undo_25 (by decide) (fun h25 => ?_) (fun h25 => ?_)
      · have hok : okUb (gI M 231) n = true := decide_eq_true ⟨hn, h25⟩
        have hn0 : ¬ n < 0 := fun z => absurd (Int32.lt_of_lt_of_le z (show (0 : Int32) ≤ 1 by decide)) (Int32.not_lt.mpr hn.1)
        obtain ⟨j, hj, rfl⟩ := nI_of hn0
        have hj1 : 1 ≤ j := (nI_leI (a := 1) (by omega) (by omega)).mp hn.1
        rw [h8.1] at h25
        have hj3 : j ≤ kn (gI M 231) 8 := (nI_leI (by omega) (by omega)).mp h25
        rw [if_pos hok, if_pos hok, if_pos hok, nI_clamp hj]
        refine v_aload_n dX12_undo_34 rfl ?_
        refine v_getR 12 0 _ dX12_undo_35 f12_9 (by first | exact hS.1 _ _ rfl | exact hS'.1 _ _ rfl | assumption) (by decide) (by first | exact hS.2 _ _ _ rfl | exact hS'.2 _ _ _ rfl | assumption) ?_
        refine v_bipush 8 dX12_undo_38 (by decide) ?_
        refine v_dup2 dX12_undo_40 rfl rfl ?_
        -- at 41: .iaload
        refine v_ialdN 8 dX12_undo_41 (hS.1 _ _ rfl) rfl (by decide) ?_
        rw [e1, h8.1]
        refine v_iload_n dX12_undo_42 rfl ?_
        refine v_isub dX12_undo_43 ?_
        -- at 44: .iastore
        rw [pk_sub hj3]
        refine v_iastN 8 dX12_undo_44 (hS.1 _ _ rfl) rfl (by decide) ?_
        have eK : gI (sI (sI M 230 4 0) 231 8 (nI (kn (gI M 231) 8 - j))) 231 = und1 (gI M 231) j := by rw [gI_uK, e1]; rfl
        have e8 : und1 (gI M 231) j 8 = nI (kn (gI M 231) 8 - j) := uK_s _ _ _
        refine v_iconst 0 dX12_undo_45 (by decide) ?_
        refine v_istore_n dX12_undo_46 rfl (by decide) ?_
        -- at 47: .iload_n 2
        refine (l12_undo G (sI (sI M 230 4 0) 231 8 (nI (kn (gI M 231) 8 - j))) hS (d := kn (gI M 231) 8 - j) (by omega) (by rw [eK]; exact e8) 100 0 _ (by omega) Sm.rf (cpK_0 _ _ _).symm).post (fun v M' h => ?_) (fun _ _ h => h)
        rw [eK] at h
        refine ⟨by rw [h.1, undK, cpK_out (by omega), e8], ?_, ?_, ?_⟩
        · exact (show Sm Wd M (sI (sI M 230 4 0) 231 8 (nI (kn (gI M 231) 8 - j))) from (Sm.rf.st _ rfl).st _ rfl).tr h.2.1.d2
        · rw [h.2.1.t4, gI_sq _ _ (by decide)]; exact gI_ss _ _ _ _
        · exact h.2.2
      · exact no (by simp only [okUb, decide_eq_true_eq]; exact fun z => h25 z.2)
  · rw [bI_f hn]
    refine v_if_eq 28 dX12_undo_14 (by decide) (fun h14 => ?_) (fun h14 => ?_)
    · exact no (by simp only [okUb, decide_eq_true_eq]; exact fun z => hn z.1)
    · exact absurd rfl h14
theorem WK.und {K : Nat → Int32} (h : WK K) {n : Nat} (h1 : 1 ≤ n) (hn : n ≤ kn K 8) : WK (undK K n) := by
  have h10 := h.2.1.2
  have o : ∀ i, i ≠ 8 → (i < 9 ∨ 109 ≤ i) → undK K n i = K i := fun i a b => by unfold undK und1; rw [cpK_out (by omega), uK_n _ _ a]
  have e8 : undK K n 8 = nI (kn K 8 - n) := by unfold undK; rw [cpK_out (by omega)]; exact uK_s _ _ _
  have k8 : kn (undK K n) 8 = kn K 8 - n := kn_n e8 (by omega)
  have nn : ∀ i, i ≠ 8 → (i < 9 ∨ 109 ≤ i) → kn (undK K n) i = kn K i := fun i a b => by unfold kn; rw [o i a b]
  refine ⟨h.1.cong (fun i hi => o i (by unfold plI at hi; omega) (by unfold plI at hi; omega)), ⟨by rw [k8]; exact e8, by omega⟩, ?_, fun j hj => ?_⟩
  · rw [nn 2 (by omega) (by omega), nn 3 (by omega) (by omega), nn 6 (by omega) (by omega)]
    refine (h.2.2.2 (kn K 8 - n) (by omega)).cong (fun i hi => ?_)
    unfold cur blk undK
    rw [cpK_in (by omega) (by omega), show 9 + i - 9 = i by omega]
    exact uK_n _ _ (by omega)
  · rw [k8] at hj
    rw [nn 2 (by omega) (by omega), nn 3 (by omega) (by omega), nn 6 (by omega) (by omega)]
    exact (h.2.2.2 j (by omega)).cong (fun i hi => o _ (by omega) (by omega))
end RI
