/-! ===== the reference: told deeds performed, judged; nights ===== -/
theorem WK.mrk {K : Nat → Int32} (h : WK K) {i v : Nat} (hi : i < 84) (hv : v ≤ 9) : WK (uK K (9 + i) (nI v)) := by
  obtain ⟨b1, b2, b3, b4, b5, b6⟩ := h.2.2.1
  have o : ∀ j, j ≠ i → cur (uK K (9 + i) (nI v)) j = cur K j := fun j hj => uK_n _ _ (by omega)
  have n : ∀ j, j ≠ i → nb (cur (uK K (9 + i) (nI v))) j = nb (cur K) j := fun j hj => by unfold nb; rw [o j hj]
  refine h.deed (fun j hj => uK_n _ _ (by omega)) ⟨fun j hj => ?_, by rw [o 84 (by omega), n 84 (by omega)]; exact b2, by rw [o 85 (by omega)]; exact b3, by rw [o 86 (by omega), n 86 (by omega)]; exact b4, by rw [o 87 (by omega), n 84 (by omega)]; exact b5, fun p hp => by rw [o (88 + p) (by omega)]; exact b6 p hp⟩
  by_cases e : j = i
  · subst e
    rw [nb, show cur (uK K (9 + j) (nI v)) j = nI v from uK_s _ _ _, nI_clamp (by omega)]
    exact ⟨rfl, hv⟩
  · rw [o j e, n j e]; exact b1 j hj
theorem WK.lam {K : Nat → Int32} (h : WK K) : WK (uK K 94 (1 - K 94)) := by
  obtain ⟨b1, b2, b3, b4, b5, b6⟩ := h.2.2.1
  have o : ∀ j, j ≠ 85 → cur (uK K 94 (1 - K 94)) j = cur K j := fun j hj => uK_n _ _ (by omega)
  have n : ∀ j, j ≠ 85 → nb (cur (uK K 94 (1 - K 94))) j = nb (cur K) j := fun j hj => by unfold nb; rw [o j hj]
  refine h.deed (fun j hj => uK_n _ _ (by omega)) ⟨fun j hj => by rw [o j (by omega), n j (by omega)]; exact b1 j hj, by rw [o 84 (by omega), n 84 (by omega)]; exact b2, ?_, by rw [o 86 (by omega), n 86 (by omega)]; exact b4, by rw [o 87 (by omega), n 84 (by omega)]; exact b5, fun p hp => by rw [o (88 + p) (by omega)]; exact b6 p hp⟩
  rw [show cur (uK K 94 (1 - K 94)) 85 = 1 - K 94 by show uK K 94 (1 - K 94) 94 = _; exact uK_s _ _ _]
  rcases h.l with z | z <;> rw [z] <;> decide
theorem WK.dd {K : Nat → Int32} (h : WK K) {v : Int32} (hv : okT9 K v) : WK (doK K v) := by
  have h14 := h.p.2.1.2
  have h6 := h.p.1.2.2
  rcases hv with ⟨rfl, hs⟩ | ⟨n, rfl, hv⟩
  · rw [doK, if_pos rfl]; exact h.set hs
  · rw [doK, if_neg (not_pos_neg (by omega)), nI_clamp (by omega)]
    split
    · rename_i h1
      have : n < 2000 := (nI_ltI (b := 2000) (by omega) (by omega)).mp h1
      rw [show 9 + 6 * (n / 100) + n / 10 % 10 = 9 + (6 * (n / 100) + n / 10 % 10) by omega]
      exact h.mrk (by omega) (by omega)
    · rename_i h1
      have : 2000 ≤ n := (nI_leI (a := 2000) (by omega) (by omega)).mp (Int32.not_lt.mp h1)
      split
      · rename_i h2
        have : n < 3000 := (nI_ltI (b := 3000) (by omega) (by omega)).mp h2
        exact h.car (by omega)
      · exact h.lam
theorem okT9.keep {K : Nat → Int32} (hW : WK K) {v : Int32} (h : okT9 K v) : okT9 (kepK K) v := by
  unfold okT9 at h ⊢
  rw [(kep2 hW).1, (kep2 hW).2.1, kepK_o hW (by omega)]
  exact h
def prf (nums : Nat → Int64) : Nat → Nat → (Nat → Int32) → Nat × (Nat → Int32)
  | 0, k, K => (k, K)
  | n + 1, k, K => if canB K (nums k) = true then prf nums n (k + 1) (doK (kepK K) (nums k).toInt32) else (k, K)
def jdF (nums : Nat → Int64) : Nat → Nat → (Nat → Int32) → Int32 × (Nat → Int32)
  | 0, _, K => (-1, K)
  | n + 1, k, K => if canB K (nums k) = true then jdF nums n (k + 1) (doK K (nums k).toInt32) else (nI k, K)
theorem WK.pf {nums : Nat → Int64} : ∀ n k K, WK K → WK (prf nums n k K).2 := by
  intro n
  induction n with
  | zero => intro k K h; exact h
  | succ n ih =>
    intro k K h
    unfold prf
    split
    · rename_i hc; exact ih _ _ (h.keeps.dd ((canB_ok hc).keep h))
    · exact h
section RK
variable (G : mG) (M : mM)
def Wp (q k : Nat) : Bool := Ws q k
theorem l12_perform (hS : Sh M) {t : Nat} (ht : t < 4) {n : Nat} (hn : gI M 245 t = nI n) (h30 : n ≤ 30) : ∀ i k M', k + i = n → Sm Ws M M' → WK (gI M' 231) → V G Y12_perform 10 0 0 (Rs (some (.int (nI (prf (fun k => gJ M 246 (30 * t + k)) i k (gI M' 231)).1))) (fun M2 => Sm Ws M M2 ∧ gI M2 231 = (prf (fun k => gJ M 246 (30 * t + k)) i k (gI M' 231)).2)) NX 20 [some (.ref 230), some (.int (nI t)), some (.int (nI k))] [] M' := by
  intro i
  induction i with
  | zero =>
    intro k M' hk hM hW
    have hS' := hS.sm hM
    have em : gI M' 245 t = nI n := (hM.2.2.2.2 245 t rfl).trans hn
    obtain rfl : k = n := by omega
    refine v_iload_n dX12_perform_20 rfl ?_
    refine v_aload_n dX12_perform_21 rfl ?_
    refine v_getR 12 28 _ dX12_perform_22 f12_57 (by first | exact hS.1 _ _ rfl | exact hS'.1 _ _ rfl | assumption) (by decide) (by first | exact hS.2 _ _ _ rfl | exact hS'.2 _ _ _ rfl | assumption) ?_
    refine v_iload_n dX12_perform_25 rfl ?_
    refine v_ialdN (t) dX12_perform_26 (by first | exact hS.1 _ _ rfl | exact hS'.1 _ _ rfl | assumption) (by simp only [n_lit, pk_mul, nI_add]) ⟨by omega, by omega⟩ ?_
    -- at 27: .if_icmp .ge 47
    rw [em]
    refine v_icmp_ge 74 dX12_perform_27 (by decide) (fun hc => ?_) (fun hc => ?_)
    · refine v_iload_n dX12_perform_74 rfl ?_
      -- at 75: .ireturn
      refine v_iret dX12_perform_75 rfl ⟨rfl, hM, rfl⟩
    · exact absurd (nI_le (Nat.le_refl _) (by omega)) hc
  | succ i ih =>
    intro k M' hk hM hW
    have hS' := hS.sm hM
    have em : gI M' 245 t = nI n := (hM.2.2.2.2 245 t rfl).trans hn
    have ej : gJ M' 246 = gJ M 246 := by rw [hM.2.2.1]
    refine v_iload_n dX12_perform_20 rfl ?_
    refine v_aload_n dX12_perform_21 rfl ?_
    refine v_getR 12 28 _ dX12_perform_22 f12_57 (by first | exact hS.1 _ _ rfl | exact hS'.1 _ _ rfl | assumption) (by decide) (by first | exact hS.2 _ _ _ rfl | exact hS'.2 _ _ _ rfl | assumption) ?_
    refine v_iload_n dX12_perform_25 rfl ?_
    refine v_ialdN (t) dX12_perform_26 (by first | exact hS.1 _ _ rfl | exact hS'.1 _ _ rfl | assumption) (by simp only [n_lit, pk_mul, nI_add]) ⟨by omega, by omega⟩ ?_
    -- at 27: .if_icmp .ge 47
    rw [em]
    refine v_icmp_ge 74 dX12_perform_27 (by decide) (fun hc => ?_) (fun hc => ?_)
    · exact absurd ((nI_leI (by omega) (by omega)).mp hc) (by omega)
    refine v_aload_n dX12_perform_30 rfl ?_
    refine v_aload_n dX12_perform_31 rfl ?_
    refine v_getR 12 29 _ dX12_perform_32 f12_60 (by first | exact hS.1 _ _ rfl | exact hS'.1 _ _ rfl | assumption) (by decide) (by first | exact hS.2 _ _ _ rfl | exact hS'.2 _ _ _ rfl | assumption) ?_
    refine v_bipush 30 dX12_perform_35 (by decide) ?_
    refine v_iload_n dX12_perform_37 rfl ?_
    refine v_imul dX12_perform_38 ?_
    refine v_iload_n dX12_perform_39 rfl ?_
    refine v_iadd dX12_perform_40 ?_
    refine v_laldN (30 * t + k) dX12_perform_41 (by first | exact hS.1 _ _ rfl | exact hS'.1 _ _ rfl | assumption) (by simp only [n_lit, pk_mul, nI_add]) ⟨by omega, by omega⟩ ?_
    -- at 42: .invokevirtual 404
    rw [ej]
    refine v_cV [_] (c12_whyTold G M' hS' hW.p _) k12_whyTold dX12_perform_42 l12_404 (by first | exact hS.1 _ _ rfl | exact hS'.1 _ _ rfl | assumption) (by decide) rfl (Nat.le_of_ble_eq_true rfl) (Nat.le_of_ble_eq_true rfl) ?_
    by_cases hcan : canB (gI M' 231) (gJ M 246 (30 * t + k)) = true
    · rw [if_pos hcan, show prf (fun k => gJ M 246 (30 * t + k)) (i + 1) k (gI M' 231) = prf (fun k => gJ M 246 (30 * t + k)) i (k + 1) (doK (kepK (gI M' 231)) (gJ M 246 (30 * t + k)).toInt32) from if_pos hcan]
      have hok := (canB_ok hcan).keep hW
      refine v_if_ne 74 dX12_perform_45 (by decide) (fun h45 => ?_) (fun h45 => ?_)
      · exact absurd rfl h45
      · refine v_aload_n dX12_perform_48 rfl ?_
        -- at 49: .invokevirtual 370
        refine v_scVv [] (c12_keeps G M' hS' hW.2.1.1 hW.2.1.2) k12_keeps dX12_perform_49 l12_370 (hS'.1 _ _ rfl) (by decide) rfl (Nat.le_of_ble_eq_true rfl) (Nat.le_of_ble_eq_true rfl) (fun M2 hM2 => ?_)
        have hM2' := hM.tr hM2.1.s2
        have hS2 := hS.sm hM2'
        have ej2 : gJ M2 246 = gJ M 246 := by rw [hM2'.2.2.1]
        refine v_aload_n dX12_perform_52 rfl ?_
        refine v_aload_n dX12_perform_53 rfl ?_
        refine v_getR 12 29 _ dX12_perform_54 f12_60 (hS2.1 _ _ rfl) (by decide) (hS2.2 _ _ _ rfl) ?_
        refine v_bipush 30 dX12_perform_57 (by decide) ?_
        refine v_iload_n dX12_perform_59 rfl ?_
        refine v_imul dX12_perform_60 ?_
        refine v_iload_n dX12_perform_61 rfl ?_
        refine v_iadd dX12_perform_62 ?_
        refine v_laldN (30 * t + k) dX12_perform_63 (hS2.1 _ _ rfl) (by simp only [n_lit, pk_mul, nI_add]) ⟨by omega, by omega⟩ ?_
        -- at 64: .l2i
        rw [ej2]
        have hcon := c12_does G M2 hS2 (by rw [hM2.2]; exact hW.keeps) (v := (gJ M 246 (30 * t + k)).toInt32) (by rw [hM2.2]; exact hok)
        rw [hM2.2] at hcon
        refine v_l2i dX12_perform_64 ?_
        -- at 65: .invokevirtual 407
        refine v_scVv [_] hcon k12_does dX12_perform_65 l12_407 (hS2.1 _ _ rfl) (by decide) rfl (Nat.le_of_ble_eq_true rfl) (Nat.le_of_ble_eq_true rfl) (fun M3 hM3 => ?_)
        refine v_iinc 1 dX12_perform_68 rfl (by decide) rfl (by decide) ?_
        refine v_goto 20 dX12_perform_71 (by decide) ?_
        -- at 20: .iload_n 2
        rw [nI_1, ← hM3.2]
        exact ih (k + 1) M3 (by omega) (hM2'.tr hM3.1) (by rw [hM3.2]; exact hW.keeps.dd hok)
    · rw [if_neg hcan, show prf (fun k => gJ M 246 (30 * t + k)) (i + 1) k (gI M' 231) = (k, gI M' 231) from if_neg hcan]
      refine v_if_ne 74 dX12_perform_45 (by decide) (fun h45 => ?_) (fun h45 => ?_)
      · refine v_iload_n dX12_perform_74 rfl ?_
        -- at 75: .ireturn
        refine v_iret dX12_perform_75 rfl ⟨rfl, hM, rfl⟩
      · exact absurd (by decide) h45
def numsOf (M : mM) (t : Int32) : Nat → Int64 := fun k => gJ M 246 (30 * t.toNatClampNeg + k)
theorem c12_perform (hS : Sh M) (hW : WK (gI M 231)) (hT : TW M) (t : Int32) : Ct G Y12_perform 10 0 0 [.ref 230, .int t] M (Rs (some (.int (if tFt M t = 0 then nI (prf (numsOf M t) (kn (gI M 245) t.toNatClampNeg) 0 (gI M 231)).1 else 0))) (Pd M (tFt M t) (if tFt M t = 0 then (prf (numsOf M t) (kn (gI M 245) t.toNatClampNeg) 0 (gI M 231)).2 else gI M 231))) NX := by
  have e1 : ∀ u, gI (sI M 230 4 u) 231 = gI M 231 := fun u => gI_sr _ _ (by decide)
  refine Ct.of k12_perform.1 (Nat.le_of_ble_eq_true rfl) ?_
  refine v_aload_n dX12_perform_0 rfl ?_
  refine v_aload_n dX12_perform_1 rfl ?_
  refine v_iload_n dX12_perform_2 rfl ?_
  -- at 3: .invokevirtual 398
  refine v_cV [_] (c12_trayFault G M hS t) k12_trayFault dX12_perform_3 l12_398 (by first | exact hS.1 _ _ rfl | exact hS'.1 _ _ rfl | assumption) (by decide) rfl (Nat.le_of_ble_eq_true rfl) (Nat.le_of_ble_eq_true rfl) ?_
  refine v_putI 12 4 dX12_perform_6 f12_68 (by first | exact hS.1 _ _ rfl | exact hS'.1 _ _ rfl | assumption) (by decide) ?_
  refine v_aload_n dX12_perform_9 rfl ?_
  refine v_getI 12 4 dX12_perform_10 f12_68 (by first | exact hS.1 _ _ rfl | exact hS'.1 _ _ rfl | assumption) (by decide) ?_
  -- at 13: .ifCond .le 5
  rw [gI_ss]
  by_cases h0 : tFt M t = 0
  · have ht : inR 4 t = true := by
      unfold tFt at h0
      split at h0
      · assumption
      · cases h0
    obtain ⟨j, hj, rfl, hj2⟩ := inR_of ht
    have hTj := (hT j hj).2
    rw [if_pos h0, if_pos h0, h0, nI_clamp hj2]
    refine v_if_le 18 dX12_perform_13 (by decide) (fun h13 => ?_) (fun h13 => ?_)
    · refine v_iconst 0 dX12_perform_18 (by decide) ?_
      refine v_istore_n dX12_perform_19 rfl (by decide) ?_
      -- at 20: .iload_n 2
      refine (l12_perform G (sI M 230 4 0) hS hj (n := kn (gI M 245) j) (by rw [gI_sr _ (a := 245) _ (by decide)]; exact hTj.1) hTj.2 (kn (gI M 245) j) 0 (sI M 230 4 0) (by omega) Sm.rf (by rw [e1]; exact hW)).post (fun v M' h => ?_) (fun _ _ h => h)
      rw [e1] at h
      have en : (fun k => gJ (sI M 230 4 0) 246 (30 * j + k)) = numsOf M (nI j) := by funext k; rw [numsOf, nI_clamp hj2]; rfl
      rw [en] at h
      refine ⟨h.1, ?_, ?_, h.2.2⟩
      · exact (show Sm Wd M (sI M 230 4 0) from Sm.rf.st _ rfl).tr h.2.1.sd
      · rw [h.2.1.t4s]; exact gI_ss _ _ _ _
    · exact absurd (by decide) h13
  · rw [if_neg h0, if_neg h0]
    have hpos : ¬ tFt M t ≤ 0 := by
      unfold tFt at h0 ⊢
      split
      · split
        · decide
        · rename_i a b; rw [if_pos a, if_neg b] at h0; exact absurd rfl h0
      · decide
    refine v_if_le 18 dX12_perform_13 (by decide) (fun h13 => ?_) (fun h13 => ?_)
    · exact absurd h13 hpos
    · refine v_iconst 0 dX12_perform_16 (by decide) ?_
      -- at 17: .ireturn
      refine v_iret dX12_perform_17 rfl ⟨rfl, Pd.q Pq.st⟩
theorem l12_putsAside (hS : Sh M) : ∀ i k M', k + i = 100 → Sm W241 M M' → (∀ j, j < k → gI M' 241 j = gI M 231 (9 + j)) → V G Y12_putsAside 0 0 0 (Rs none (fun M' => Sm W241 M M' ∧ ∀ j, j < 100 → gI M' 241 j = gI M 231 (9 + j))) NX 2 [some (.ref 230), some (.int (nI k))] [] M' := by
  intro i
  induction i with
  | zero =>
    intro k M' hk hM e
    obtain rfl : k = 100 := by omega
    refine v_iload_n dX12_putsAside_2 rfl ?_
    refine v_bipush 100 dX12_putsAside_3 (by decide) ?_
    -- at 5: .if_icmp .ge 24
    refine v_icmp_ge 29 dX12_putsAside_5 (by decide) (fun hc => ?_) (fun hc => ?_)
    · refine v_vret dX12_putsAside_29 rfl ⟨rfl, hM, e⟩
    · exact absurd (by decide) hc
  | succ i ih =>
    intro k M' hk hM e
    have hS' := hS.sm hM
    refine v_iload_n dX12_putsAside_2 rfl ?_
    refine v_bipush 100 dX12_putsAside_3 (by decide) ?_
    -- at 5: .if_icmp .ge 24
    refine v_icmp_ge 29 dX12_putsAside_5 (by decide) (fun hc => ?_) (fun hc => ?_)
    · exact absurd ((nI_leI (a := 100) (by omega) (by omega)).mp hc) (by omega)
    · refine v_aload_n dX12_putsAside_8 rfl ?_
      refine v_getR 12 23 _ dX12_putsAside_9 f12_45 (by first | exact hS.1 _ _ rfl | exact hS'.1 _ _ rfl | assumption) (by decide) (by first | exact hS.2 _ _ _ rfl | exact hS'.2 _ _ _ rfl | assumption) ?_
      refine v_iload_n dX12_putsAside_12 rfl ?_
      refine v_aload_n dX12_putsAside_13 rfl ?_
      refine v_getR 12 0 _ dX12_putsAside_14 f12_9 (by first | exact hS.1 _ _ rfl | exact hS'.1 _ _ rfl | assumption) (by decide) (by first | exact hS.2 _ _ _ rfl | exact hS'.2 _ _ _ rfl | assumption) ?_
      refine v_bipush 9 dX12_putsAside_17 (by decide) ?_
      refine v_iload_n dX12_putsAside_19 rfl ?_
      refine v_iadd dX12_putsAside_20 ?_
      refine v_ialdN (9 + k) dX12_putsAside_21 (by first | exact hS.1 _ _ rfl | exact hS'.1 _ _ rfl | assumption) (by simp only [n_lit, pk_mul, nI_add]) ⟨by omega, by omega⟩ ?_
      -- at 22: .iastore
      rw [hM.2.2.2.2 231 (9 + k) rfl]
      refine v_iastN k dX12_putsAside_22 (hS'.1 _ _ rfl) rfl ⟨by omega, by omega⟩ ?_
      refine v_iinc 1 dX12_putsAside_23 rfl (by decide) rfl (by decide) ?_
      refine v_goto 2 dX12_putsAside_26 (by decide) ?_
      -- at 2: .iload_n 1
      rw [nI_1]
      refine ih (k + 1) _ (by omega) (hM.st _ rfl) (fun j hj => ?_)
      by_cases h : j = k
      · subst h; exact gI_ss _ _ _ _
      · rw [gI_sk _ _ h]; exact e j (by omega)
theorem c12_putsAside (hS : Sh M) : Ct G Y12_putsAside 0 0 0 [.ref 230] M (Rs none (fun M' => Sm W241 M M' ∧ ∀ j, j < 100 → gI M' 241 j = gI M 231 (9 + j))) NX := by
  refine Ct.of k12_putsAside.1 (Nat.le_of_ble_eq_true rfl) ?_
  refine v_iconst 0 dX12_putsAside_0 (by decide) ?_
  refine v_istore_n dX12_putsAside_1 rfl (by decide) ?_
  -- at 2: .iload_n 1
  exact l12_putsAside G M hS 100 0 M (by omega) Sm.rf (fun j hj => absurd hj (by omega))
theorem l12_putsBack (hS : Sh M) : ∀ i k M', k + i = 100 → Sm W231 M M' → gI M' 231 = cpK (gI M 231) 9 (gI M 241) k → V G Y12_putsBack 0 0 0 (Rs none (fun M' => Sm W231 M M' ∧ gI M' 231 = cpK (gI M 231) 9 (gI M 241) 100)) NX 2 [some (.ref 230), some (.int (nI k))] [] M' := by
  intro i
  induction i with
  | zero =>
    intro k M' hk hM e
    obtain rfl : k = 100 := by omega
    refine v_iload_n dX12_putsBack_2 rfl ?_
    refine v_bipush 100 dX12_putsBack_3 (by decide) ?_
    -- at 5: .if_icmp .ge 24
    refine v_icmp_ge 29 dX12_putsBack_5 (by decide) (fun hc => ?_) (fun hc => ?_)
    · refine v_vret dX12_putsBack_29 rfl ⟨rfl, hM, e⟩
    · exact absurd (by decide) hc
  | succ i ih =>
    intro k M' hk hM e
    have hS' := hS.sm hM
    refine v_iload_n dX12_putsBack_2 rfl ?_
    refine v_bipush 100 dX12_putsBack_3 (by decide) ?_
    -- at 5: .if_icmp .ge 24
    refine v_icmp_ge 29 dX12_putsBack_5 (by decide) (fun hc => ?_) (fun hc => ?_)
    · exact absurd ((nI_leI (a := 100) (by omega) (by omega)).mp hc) (by omega)
    · refine v_aload_n dX12_putsBack_8 rfl ?_
      refine v_getR 12 0 _ dX12_putsBack_9 f12_9 (by first | exact hS.1 _ _ rfl | exact hS'.1 _ _ rfl | assumption) (by decide) (by first | exact hS.2 _ _ _ rfl | exact hS'.2 _ _ _ rfl | assumption) ?_
      refine v_bipush 9 dX12_putsBack_12 (by decide) ?_
      refine v_iload_n dX12_putsBack_14 rfl ?_
      refine v_iadd dX12_putsBack_15 ?_
      refine v_aload_n dX12_putsBack_16 rfl ?_
      refine v_getR 12 23 _ dX12_putsBack_17 f12_45 (by first | exact hS.1 _ _ rfl | exact hS'.1 _ _ rfl | assumption) (by decide) (by first | exact hS.2 _ _ _ rfl | exact hS'.2 _ _ _ rfl | assumption) ?_
      refine v_iload_n dX12_putsBack_20 rfl ?_
      refine v_ialdN (k) dX12_putsBack_21 (by first | exact hS.1 _ _ rfl | exact hS'.1 _ _ rfl | assumption) (by simp only [n_lit, pk_mul, nI_add]) ⟨by omega, by omega⟩ ?_
      -- at 22: .iastore
      rw [hM.2.2.2.2 241 k rfl]
      refine v_iastN (9 + k) dX12_putsBack_22 (hS'.1 _ _ rfl) (by simp only [n_lit, nI_add]) ⟨by omega, by omega⟩ ?_
      refine v_iinc 1 dX12_putsBack_23 rfl (by decide) rfl (by decide) ?_
      refine v_goto 2 dX12_putsBack_26 (by decide) ?_
      -- at 2: .iload_n 1
      rw [nI_1]
      exact ih (k + 1) _ (by omega) (hM.st _ rfl) (by rw [gI_uK, e]; exact uK_cpK _ _ _ _)
theorem c12_putsBack (hS : Sh M) : Ct G Y12_putsBack 0 0 0 [.ref 230] M (Rs none (fun M' => Sm W231 M M' ∧ gI M' 231 = cpK (gI M 231) 9 (gI M 241) 100)) NX := by
  refine Ct.of k12_putsBack.1 (Nat.le_of_ble_eq_true rfl) ?_
  refine v_iconst 0 dX12_putsBack_0 (by decide) ?_
  refine v_istore_n dX12_putsBack_1 rfl (by decide) ?_
  -- at 2: .iload_n 1
  exact l12_putsBack G M hS 100 0 M (by omega) Sm.rf (cpK_0 _ _ _).symm
theorem setK_o {K : Nat → Int32} (hW : WK K) {i : Nat} (h : i < 9 ∨ 109 ≤ i) : setK K i = K i := by rw [setK, uK_n _ _ (by omega), set_plan hW h]
theorem carK_o {K : Nat → Int32} {c i : Nat} (h : i < 9 ∨ 109 ≤ i) : carK K c i = K i := by
  unfold carK
  split
  · exact uK_n _ _ (by omega)
  · rw [noCl_o (by omega), uK_n _ _ (by omega), uK_n _ _ (by omega)]
theorem doK_o {K : Nat → Int32} (hW : WK K) {v : Int32} (hv : okT9 K v) {i : Nat} (h : i < 9 ∨ 109 ≤ i) : doK K v i = K i := by
  have h14 := hW.p.2.1.2
  have h6 := hW.p.1.2.2
  rcases hv with ⟨rfl, hs⟩ | ⟨n, rfl, hv⟩
  · rw [doK, if_pos rfl]; exact setK_o hW h
  · rw [doK, if_neg (not_pos_neg (by omega)), nI_clamp (by omega)]
    split
    · rename_i h1
      have : n < 2000 := (nI_ltI (b := 2000) (by omega) (by omega)).mp h1
      exact uK_n _ _ (by omega)
    · split
      · exact carK_o h
      · exact uK_n _ _ (by omega)
/-- judging: the loop -/
theorem l12_judge (hS : Sh M) {t : Nat} (ht : t < 4) {n : Nat} (hn : gI M 245 t = nI n) (h30 : n ≤ 30) {w : Int32} {Q : Option Value → mM → Prop}
    (kk : ∀ M' (o5 o6 : Option Value) pl wy, Sm Ws M M' → WK (gI M' 231) → (∀ i, (i < 9 ∨ 109 ≤ i) → gI M' 231 i = gI M 231 i) → (pl, gI M' 231) = jdF (fun k => gJ M 246 (30 * t + k)) n 0 (gI M 231) → wy = (if pl = -1 then 0 else 1) → isL o5 = false → V G Y12_judge 10 0 0 Q NX 122 [some (.ref 230), some (.int (nI t)), some (.int w), some (.int pl), some (.int wy), o5, o6] [] M') :
    ∀ i k M', k + i = n → Sm Ws M M' → WK (gI M' 231) → (∀ i, (i < 9 ∨ 109 ≤ i) → gI M' 231 i = gI M 231 i) → jdF (fun k => gJ M 246 (30 * t + k)) i k (gI M' 231) = jdF (fun k => gJ M 246 (30 * t + k)) n 0 (gI M 231) → V G Y12_judge 10 0 0 Q NX 54 [some (.ref 230), some (.int (nI t)), some (.int w), some (.int (-1)), some (.int 0), some (.int (nI k)), none] [] M' := by
  intro i
  induction i with
  | zero =>
    intro k M' hk hM hW ho hj
    have hS' := hS.sm hM
    have em : gI M' 245 t = nI n := (hM.2.2.2.2 245 t rfl).trans hn
    obtain rfl : k = n := by omega
    refine v_iload dX12_judge_54 rfl ?_
    refine v_aload_n dX12_judge_56 rfl ?_
    refine v_getR 12 28 _ dX12_judge_57 f12_57 (by first | exact hS.1 _ _ rfl | exact hS'.1 _ _ rfl | assumption) (by decide) (by first | exact hS.2 _ _ _ rfl | exact hS'.2 _ _ _ rfl | assumption) ?_
    refine v_iload_n dX12_judge_60 rfl ?_
    refine v_ialdN (t) dX12_judge_61 (by first | exact hS.1 _ _ rfl | exact hS'.1 _ _ rfl | assumption) (by simp only [n_lit, pk_mul, nI_add]) ⟨by omega, by omega⟩ ?_
    -- at 62: .if_icmp .ge 60
    rw [em]
    refine v_icmp_ge 122 dX12_judge_62 (by decide) (fun hc => ?_) (fun hc => ?_)
    · exact kk M' _ _ _ _ hM hW ho (by rw [← hj]; rfl) rfl rfl
    · exact absurd (nI_le (Nat.le_refl _) (by omega)) hc
  | succ i ih =>
    intro k M' hk hM hW ho hj
    have hS' := hS.sm hM
    have em : gI M' 245 t = nI n := (hM.2.2.2.2 245 t rfl).trans hn
    have ej : gJ M' 246 = gJ M 246 := by rw [hM.2.2.1]
    refine v_iload dX12_judge_54 rfl ?_
    refine v_aload_n dX12_judge_56 rfl ?_
    refine v_getR 12 28 _ dX12_judge_57 f12_57 (by first | exact hS.1 _ _ rfl | exact hS'.1 _ _ rfl | assumption) (by decide) (by first | exact hS.2 _ _ _ rfl | exact hS'.2 _ _ _ rfl | assumption) ?_
    refine v_iload_n dX12_judge_60 rfl ?_
    refine v_ialdN (t) dX12_judge_61 (by first | exact hS.1 _ _ rfl | exact hS'.1 _ _ rfl | assumption) (by simp only [n_lit, pk_mul, nI_add]) ⟨by omega, by omega⟩ ?_
    -- at 62: .if_icmp .ge 60
    rw [em]
    refine v_icmp_ge 122 dX12_judge_62 (by decide) (fun hc => ?_) (fun hc => ?_)
    · exact absurd ((nI_leI (by omega) (by omega)).mp hc) (by omega)
    refine v_iload_n dX12_judge_65 rfl ?_
    refine v_iconst (-1) dX12_judge_66 (by decide) ?_
    -- at 67: .if_icmp .ne 55
    refine v_icmp_ne 122 dX12_judge_67 (by decide) (fun h67 => ?_) (fun h67 => ?_)
    · exact absurd rfl h67
    refine v_aload_n dX12_judge_70 rfl ?_
    refine v_aload_n dX12_judge_71 rfl ?_
    refine v_getR 12 29 _ dX12_judge_72 f12_60 (by first | exact hS.1 _ _ rfl | exact hS'.1 _ _ rfl | assumption) (by decide) (by first | exact hS.2 _ _ _ rfl | exact hS'.2 _ _ _ rfl | assumption) ?_
    refine v_bipush 30 dX12_judge_75 (by decide) ?_
    refine v_iload_n dX12_judge_77 rfl ?_
    refine v_imul dX12_judge_78 ?_
    refine v_iload dX12_judge_79 rfl ?_
    refine v_iadd dX12_judge_81 ?_
    refine v_laldN (30 * t + k) dX12_judge_82 (by first | exact hS.1 _ _ rfl | exact hS'.1 _ _ rfl | assumption) (by simp only [n_lit, pk_mul, nI_add]) ⟨by omega, by omega⟩ ?_
    -- at 83: .invokevirtual 404
    rw [ej]
    refine v_cV [_] (c12_whyTold G M' hS' hW.p _) k12_whyTold dX12_judge_83 l12_404 (by first | exact hS.1 _ _ rfl | exact hS'.1 _ _ rfl | assumption) (by decide) rfl (Nat.le_of_ble_eq_true rfl) (Nat.le_of_ble_eq_true rfl) ?_
    by_cases hcan : canB (gI M' 231) (gJ M 246 (30 * t + k)) = true
    · rw [show jdF (fun k => gJ M 246 (30 * t + k)) (i + 1) k (gI M' 231) = jdF (fun k => gJ M 246 (30 * t + k)) i (k + 1) (doK (gI M' 231) (gJ M 246 (30 * t + k)).toInt32) from if_pos hcan] at hj
      rw [if_pos hcan]
      have hok := canB_ok hcan
      refine v_istore dX12_judge_86 rfl (by decide) ?_
      refine v_iload dX12_judge_88 rfl ?_
      -- at 90: .ifCond .ne 23
      refine v_if_ne 113 dX12_judge_90 (by decide) (fun h90 => ?_) (fun h90 => ?_)
      · exact absurd rfl h90
      · refine v_aload_n dX12_judge_93 rfl ?_
        refine v_aload_n dX12_judge_94 rfl ?_
        refine v_getR 12 29 _ dX12_judge_95 f12_60 (by first | exact hS.1 _ _ rfl | exact hS'.1 _ _ rfl | assumption) (by decide) (by first | exact hS.2 _ _ _ rfl | exact hS'.2 _ _ _ rfl | assumption) ?_
        refine v_bipush 30 dX12_judge_98 (by decide) ?_
        refine v_iload_n dX12_judge_100 rfl ?_
        refine v_imul dX12_judge_101 ?_
        refine v_iload dX12_judge_102 rfl ?_
        refine v_iadd dX12_judge_104 ?_
        refine v_laldN (30 * t + k) dX12_judge_105 (by first | exact hS.1 _ _ rfl | exact hS'.1 _ _ rfl | assumption) (by simp only [n_lit, pk_mul, nI_add]) ⟨by omega, by omega⟩ ?_
        -- at 106: .l2i
        rw [ej]
        refine v_l2i dX12_judge_106 ?_
        -- at 107: .invokevirtual 407
        refine v_scVv [_] (c12_does G M' hS' hW hok) k12_does dX12_judge_107 l12_407 (hS'.1 _ _ rfl) (by decide) rfl (Nat.le_of_ble_eq_true rfl) (Nat.le_of_ble_eq_true rfl) (fun M3 hM3 => ?_)
        refine v_goto 116 dX12_judge_110 (by decide) ?_
        refine v_iinc 1 dX12_judge_116 rfl (by decide) rfl (by decide) ?_
        refine v_goto 54 dX12_judge_119 (by decide) ?_
        -- at 54: .iload 5
        rw [nI_1]
        exact ih (k + 1) M3 (by omega) (hM.tr hM3.1) (by rw [hM3.2]; exact hW.dd hok) (fun i hi => by rw [hM3.2, doK_o hW hok hi]; exact ho i hi) (by rw [hM3.2]; exact hj)
    · rw [show jdF (fun k => gJ M 246 (30 * t + k)) (i + 1) k (gI M' 231) = (nI k, gI M' 231) from if_neg hcan] at hj
      rw [if_neg hcan]
      refine v_istore dX12_judge_86 rfl (by decide) ?_
      refine v_iload dX12_judge_88 rfl ?_
      -- at 90: .ifCond .ne 23
      refine v_if_ne 113 dX12_judge_90 (by decide) (fun h90 => ?_) (fun h90 => ?_)
      · refine v_iload dX12_judge_113 rfl ?_
        refine v_istore_n dX12_judge_115 rfl (by decide) ?_
        refine v_iinc 1 dX12_judge_116 rfl (by decide) rfl (by decide) ?_
        refine v_goto 54 dX12_judge_119 (by decide) ?_
        -- at 54: .iload 5
        rw [nI_1]
        have fin := fun o5 h5 => kk M' o5 none (nI k) 1 hM hW ho hj (by rw [if_neg (not_pos_neg (by omega))]) h5
        refine v_iload dX12_judge_54 rfl ?_
        refine v_aload_n dX12_judge_56 rfl ?_
        refine v_getR 12 28 _ dX12_judge_57 f12_57 (by first | exact hS.1 _ _ rfl | exact hS'.1 _ _ rfl | assumption) (by decide) (by first | exact hS.2 _ _ _ rfl | exact hS'.2 _ _ _ rfl | assumption) ?_
        refine v_iload_n dX12_judge_60 rfl ?_
        refine v_ialdN (t) dX12_judge_61 (by first | exact hS.1 _ _ rfl | exact hS'.1 _ _ rfl | assumption) (by simp only [n_lit, pk_mul, nI_add]) ⟨by omega, by omega⟩ ?_
        -- at 62: .if_icmp .ge 60
        rw [em]
        refine v_icmp_ge 122 dX12_judge_62 (by decide) (fun hc3 => ?_) (fun hc3 => ?_)
        · exact fin _ rfl
        · refine v_iload_n dX12_judge_65 rfl ?_
          refine v_iconst (-1) dX12_judge_66 (by decide) ?_
          -- at 67: .if_icmp .ne 55
          refine v_icmp_ne 122 dX12_judge_67 (by decide) (fun h67b => ?_) (fun h67b => ?_)
          · exact fin _ rfl
          · exact absurd (not_pos_neg (n := k) (by omega)) h67b
      · exact absurd (by decide) h90
end RK
