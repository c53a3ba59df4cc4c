/-! ===== feed, both sides ===== -/
theorem byt_and (x : Int32) : x &&& 255 = nI (x.toBitVec.toNat % 256) := pk_and x 8 (by decide)
theorem byt_tab : ∀ m, m < 256 → (nI m).toInt8.toInt32.toInt8.toInt32 = sb m := by decide +kernel
theorem byt_8 (x : Int32) : x.toInt8 = (nI (x.toBitVec.toNat % 256)).toInt8 := by
  apply Int8.toBitVec_inj.mp
  rw [Int32.toBitVec_toInt8, Int32.toBitVec_toInt8, BitVec.signExtend_eq_setWidth_of_le _ (by decide), BitVec.signExtend_eq_setWidth_of_le _ (by decide)]
  apply BitVec.eq_of_toNat_eq
  rw [BitVec.toNat_setWidth, BitVec.toNat_setWidth, pk_tn (by omega)]
  omega
theorem byt_sb (x : Int32) : x.toInt8.toInt32.toInt8.toInt32 = sb (x.toBitVec.toNat % 256) := by
  rw [byt_8 x]
  exact byt_tab _ (Nat.mod_lt _ (by decide))
/-- which int holds the k-th of twenty bytes; its r-th byte -/
def fdW (a b c d e : Int32) (k : Nat) : Int32 := if k < 4 then a else if k < 8 then b else if k < 12 then c else if k < 16 then d else e
def fdB (x : Int32) (r : Nat) : Nat := (ush x (nI (24 - 8 * r))).toBitVec.toNat % 256
def fdA (a b c d e : Int32) (k : Nat) : Nat := fdB (fdW a b c d e k) (k % 4)
theorem fdA_256 (a b c d e : Int32) (k : Nat) : fdA a b c d e k < 256 := Nat.mod_lt _ (by decide)
theorem fd_sh : ∀ k, k < 20 → (24 : Int32) - 8 * (nI k &&& 3) = nI (24 - 8 * (k % 4)) := by decide +kernel
def Wfd (q k : Nat) : Bool := (Nat.beq q 230 && (Nat.beq k 4 || Nat.beq k 6)) || Nat.beq q 235
def Wtp (q k : Nat) : Bool := (Nat.beq q 100 && Nat.beq k 1) || Nat.beq q 101
def shv (j : Nat) : Int32 := if j < 4 then nI (24 - 8 * j) else -8
theorem shv_n : ∀ j, j < 4 → shv j = nI (24 - 8 * j) ∧ shv j + -8 = shv (j + 1) := by decide +kernel
section FD
variable (G : mG) (M : mM)
theorem c12_feed (hS : Sh M) {tp : Nat} (ht : gI M 230 6 = nI tp) (h9 : tp ≤ 900) (a b c d e : Int32) : Ct G Y12_feed 0 0 0 [.ref 230, .int a, .int b, .int c, .int d, .int e] M (Rs (some (.int (if tp ≤ 880 then nI (tp + 20) else -1))) (fun M' => Sm Wfd M M' ∧ gI M' 230 4 = 0 ∧ gI M' 230 6 = nI (if tp ≤ 880 then tp + 20 else tp) ∧ ∀ j, gI M' 235 j = if tp ≤ j ∧ j < (if tp ≤ 880 then tp + 20 else tp) then nI (fdA a b c d e (j - tp)) else gI M 235 j)) NX := by
  have hS' := hS
  refine Ct.of k12_feed.1 (Nat.le_of_ble_eq_true rfl) ?_
  have e1 : Sm Wfd M (sI M 230 4 0) := Sm.rf.st _ rfl
  by_cases h8 : tp ≤ 880
  · simp only [if_pos h8]
    have lp : ∀ r k M' o, k + r = 20 → Sm Wfd M M' → gI M' 230 4 = 0 → gI M' 230 6 = nI (tp + k) → (∀ j, gI M' 235 j = if tp ≤ j ∧ j < tp + k then nI (fdA a b c d e (j - tp)) else gI M 235 j) → V G Y12_feed 0 0 0 (Rs (some (.int (nI (tp + 20)))) (fun M' => Sm Wfd M M' ∧ gI M' 230 4 = 0 ∧ gI M' 230 6 = nI (tp + 20) ∧ ∀ j, gI M' 235 j = if tp ≤ j ∧ j < tp + 20 then nI (fdA a b c d e (j - tp)) else gI M 235 j)) NX 23 [some (.ref 230), some (.int a), some (.int b), some (.int c), some (.int d), some (.int e), some (.int (nI k)), o] [] M' := by
      intro r
      induction r with
      | zero =>
        intro k M' o hk m f4 f6 f5
        have hS' := hS.sm m
        obtain rfl : k = 20 := by omega
        refine v_iload dX12_feed_23 rfl ?_
        refine v_bipush 20 dX12_feed_25 (by decide) ?_
        refine v_icmp_ge 120 dX12_feed_27 (by decide) (fun h27 => ?_) (fun h27 => absurd (by decide) h27)
        refine v_aload_n dX12_feed_120 rfl ?_
        refine v_getI 12 6 dX12_feed_121 f12_71 (by first | exact hS'.1 _ _ rfl | assumption) (by decide) ?_
        rw [f6]
        refine v_iret dX12_feed_124 rfl ?_
        exact ⟨rfl, m, f4, f6, f5⟩
      | succ r ih =>
        intro k M' o hk m f4 f6 f5
        have hS' := hS.sm m
        have hsh := fd_sh k (by omega)
        have go : ∀ x, x = fdW a b c d e k → V G Y12_feed 0 0 0 (Rs (some (.int (nI (tp + 20)))) (fun M' => Sm Wfd M M' ∧ gI M' 230 4 = 0 ∧ gI M' 230 6 = nI (tp + 20) ∧ ∀ j, gI M' 235 j = if tp ≤ j ∧ j < tp + 20 then nI (fdA a b c d e (j - tp)) else gI M 235 j)) NX 76 [some (.ref 230), some (.int a), some (.int b), some (.int c), some (.int d), some (.int e), some (.int (nI k)), o] [.int x] M' := by
          intro x hx
          have nxt := ih (k + 1) (sI (sI M' 235 (tp + k) (nI (fdB x (k % 4)))) 230 6 (nI (tp + k + 1))) (some (.int x)) (by omega) ((m.st _ rfl).st _ rfl) ((gI_sk _ _ (by decide)).trans ((gI_sq _ _ (by decide)).trans f4)) (gI_ss _ _ _ _) (fun j => by
            rw [gI_sq _ _ (by decide)]
            by_cases hj : j = tp + k
            · rw [hj, gI_ss, if_pos ⟨by omega, by omega⟩, show tp + k - tp = k by omega, fdA, hx]
            · rw [gI_sk _ _ hj, f5 j]
              by_cases hc : tp ≤ j ∧ j < tp + k
              · rw [if_pos hc, if_pos ⟨hc.1, by omega⟩]
              · rw [if_neg hc, if_neg (by omega)])
          refine v_istore dX12_feed_76 rfl (by decide) ?_
          refine v_aload_n dX12_feed_78 rfl ?_
          refine v_getR 12 5 _ dX12_feed_79 f12_23 (by first | exact hS'.1 _ _ rfl | assumption) (by decide) (by first | exact hS'.2 _ _ _ rfl | assumption) ?_
          refine v_aload_n dX12_feed_82 rfl ?_
          refine v_getI 12 6 dX12_feed_83 f12_71 (by first | exact hS'.1 _ _ rfl | assumption) (by decide) ?_
          rw [f6]
          refine v_iload dX12_feed_86 rfl ?_
          refine v_bipush 24 dX12_feed_88 (by decide) ?_
          refine v_bipush 8 dX12_feed_90 (by decide) ?_
          refine v_iload dX12_feed_92 rfl ?_
          refine v_iconst 3 dX12_feed_94 (by decide) ?_
          refine v_iand dX12_feed_95 ?_
          refine v_imul dX12_feed_96 ?_
          refine v_isub dX12_feed_97 ?_
          rw [hsh]
          refine v_iushr dX12_feed_98 ?_
          refine v_sipush 255 dX12_feed_99 (by decide) ?_
          refine v_iand dX12_feed_102 ?_
          rw [byt_and]
          refine v_iastN (tp + k) dX12_feed_103 (by first | exact hS'.1 _ _ rfl | assumption) (by simp only [n_lit, pk_mul, nI_add]) ⟨by omega, by omega⟩ ?_
          refine v_aload_n dX12_feed_104 rfl ?_
          refine v_dup dX12_feed_105 rfl ?_
          refine v_getI 12 6 dX12_feed_106 f12_71 (by first | exact hS'.1 _ _ rfl | assumption) (by decide) ?_
          rw [gI_sq _ _ (by decide), f6]
          refine v_iconst 1 dX12_feed_109 (by decide) ?_
          refine v_iadd dX12_feed_110 ?_
          rw [nI_1]
          refine v_putI 12 6 dX12_feed_111 f12_71 (by first | exact hS'.1 _ _ rfl | assumption) (by decide) ?_
          refine v_iinc 1 dX12_feed_114 rfl (by decide) rfl (by decide) ?_
          refine v_goto 23 dX12_feed_117 (by decide) ?_
          (rw [nI_1]; exact nxt)
        have h20 : ¬ (20 : Int32) ≤ nI k := fun z => by have := (nI_leI (a := 20) (by omega) (by omega)).mp z; omega
        have c4 : (4 : Int32) ≤ nI k ↔ 4 ≤ k := nI_leI (a := 4) (by omega) (by omega)
        have c8 : (8 : Int32) ≤ nI k ↔ 8 ≤ k := nI_leI (a := 8) (by omega) (by omega)
        have c12 : (12 : Int32) ≤ nI k ↔ 12 ≤ k := nI_leI (a := 12) (by omega) (by omega)
        have c16 : (16 : Int32) ≤ nI k ↔ 16 ≤ k := nI_leI (a := 16) (by omega) (by omega)
        refine v_iload dX12_feed_23 rfl ?_
        refine v_bipush 20 dX12_feed_25 (by decide) ?_
        refine v_icmp_ge 120 dX12_feed_27 (by decide) (fun h27 => absurd h27 h20) (fun h27 => ?_)
        refine v_iload dX12_feed_30 rfl ?_
        refine v_iconst 4 dX12_feed_32 (by decide) ?_
        refine v_icmp_ge 40 dX12_feed_33 (by decide) (fun h33 => ?_) (fun h33 => ?_)
        · refine v_iload dX12_feed_40 rfl ?_
          refine v_bipush 8 dX12_feed_42 (by decide) ?_
          refine v_icmp_ge 51 dX12_feed_44 (by decide) (fun h44 => ?_) (fun h44 => ?_)
          · refine v_iload dX12_feed_51 rfl ?_
            refine v_bipush 12 dX12_feed_53 (by decide) ?_
            refine v_icmp_ge 62 dX12_feed_55 (by decide) (fun h55 => ?_) (fun h55 => ?_)
            · refine v_iload dX12_feed_62 rfl ?_
              refine v_bipush 16 dX12_feed_64 (by decide) ?_
              refine v_icmp_ge 74 dX12_feed_66 (by decide) (fun h66 => ?_) (fun h66 => ?_)
              · refine v_iload dX12_feed_74 rfl ?_
                refine go _ ?_; simp only [c4, c8, c12, c16] at h27 h33 h44 h55 h66; unfold fdW; (first | rw [if_pos (by omega)] | rw [if_neg (by omega), if_pos (by omega)] | rw [if_neg (by omega), if_neg (by omega), if_pos (by omega)] | rw [if_neg (by omega), if_neg (by omega), if_neg (by omega), if_pos (by omega)] | rw [if_neg (by omega), if_neg (by omega), if_neg (by omega), if_neg (by omega)])
              · refine v_iload dX12_feed_69 rfl ?_
                refine v_goto 76 dX12_feed_71 (by decide) ?_
                refine go _ ?_; simp only [c4, c8, c12, c16] at h27 h33 h44 h55 h66; unfold fdW; (first | rw [if_pos (by omega)] | rw [if_neg (by omega), if_pos (by omega)] | rw [if_neg (by omega), if_neg (by omega), if_pos (by omega)] | rw [if_neg (by omega), if_neg (by omega), if_neg (by omega), if_pos (by omega)] | rw [if_neg (by omega), if_neg (by omega), if_neg (by omega), if_neg (by omega)])
            · refine v_iload_n dX12_feed_58 rfl ?_
              refine v_goto 76 dX12_feed_59 (by decide) ?_
              refine go _ ?_; simp only [c4, c8, c12, c16] at h27 h33 h44 h55; unfold fdW; (first | rw [if_pos (by omega)] | rw [if_neg (by omega), if_pos (by omega)] | rw [if_neg (by omega), if_neg (by omega), if_pos (by omega)] | rw [if_neg (by omega), if_neg (by omega), if_neg (by omega), if_pos (by omega)] | rw [if_neg (by omega), if_neg (by omega), if_neg (by omega), if_neg (by omega)])
          · refine v_iload_n dX12_feed_47 rfl ?_
            refine v_goto 76 dX12_feed_48 (by decide) ?_
            refine go _ ?_; simp only [c4, c8, c12, c16] at h27 h33 h44; unfold fdW; (first | rw [if_pos (by omega)] | rw [if_neg (by omega), if_pos (by omega)] | rw [if_neg (by omega), if_neg (by omega), if_pos (by omega)] | rw [if_neg (by omega), if_neg (by omega), if_neg (by omega), if_pos (by omega)] | rw [if_neg (by omega), if_neg (by omega), if_neg (by omega), if_neg (by omega)])
        · refine v_iload_n dX12_feed_36 rfl ?_
          refine v_goto 76 dX12_feed_37 (by decide) ?_
          refine go _ ?_; simp only [c4, c8, c12, c16] at h27 h33; unfold fdW; (first | rw [if_pos (by omega)] | rw [if_neg (by omega), if_pos (by omega)] | rw [if_neg (by omega), if_neg (by omega), if_pos (by omega)] | rw [if_neg (by omega), if_neg (by omega), if_neg (by omega), if_pos (by omega)] | rw [if_neg (by omega), if_neg (by omega), if_neg (by omega), if_neg (by omega)])
    have st := lp 20 0 (sI M 230 4 0) none (by omega) e1 (gI_ss _ _ _ _) ((gI_sk _ _ (by decide)).trans ht) (fun j => by rw [gI_sq _ _ (by decide), if_neg (by omega)])
    refine v_aload_n dX12_feed_0 rfl ?_
    refine v_iconst 0 dX12_feed_1 (by decide) ?_
    refine v_putI 12 4 dX12_feed_2 f12_68 (by first | exact hS'.1 _ _ rfl | assumption) (by decide) ?_
    refine v_aload_n dX12_feed_5 rfl ?_
    refine v_getI 12 6 dX12_feed_6 f12_71 (by first | exact hS'.1 _ _ rfl | assumption) (by decide) ?_
    rw [gI_sk _ _ (by decide), ht]
    refine v_bipush 20 dX12_feed_9 (by decide) ?_
    refine v_iadd dX12_feed_11 ?_
    rw [show nI tp + (20 : Int32) = nI (tp + 20) from (nI_add tp 20)]
    refine v_sipush 900 dX12_feed_12 (by decide) ?_
    refine v_icmp_le 20 dX12_feed_15 (by decide) (fun h15 => ?_) (fun h15 => absurd (nI_le (b := 900) (by omega) (by decide)) h15)
    refine v_iconst 0 dX12_feed_20 (by decide) ?_
    refine v_istore dX12_feed_21 rfl (by decide) ?_
    exact v_pad st
  · simp only [if_neg h8]
    refine v_aload_n dX12_feed_0 rfl ?_
    refine v_iconst 0 dX12_feed_1 (by decide) ?_
    refine v_putI 12 4 dX12_feed_2 f12_68 (by first | exact hS'.1 _ _ rfl | assumption) (by decide) ?_
    refine v_aload_n dX12_feed_5 rfl ?_
    refine v_getI 12 6 dX12_feed_6 f12_71 (by first | exact hS'.1 _ _ rfl | assumption) (by decide) ?_
    rw [gI_sk _ _ (by decide), ht]
    refine v_bipush 20 dX12_feed_9 (by decide) ?_
    refine v_iadd dX12_feed_11 ?_
    rw [show nI tp + (20 : Int32) = nI (tp + 20) from (nI_add tp 20)]
    refine v_sipush 900 dX12_feed_12 (by decide) ?_
    refine v_icmp_le 20 dX12_feed_15 (by decide) (fun h15 => absurd ((nI_leI (b := 900) (by omega) (by omega)).mp h15) (by omega)) (fun h15 => ?_)
    refine v_iconst (-1) dX12_feed_18 (by decide) ?_
    refine v_iret dX12_feed_19 rfl ?_
    exact ⟨rfl, e1, gI_ss _ _ _ _, (gI_sk _ _ (by decide)).trans ht, fun j => by rw [gI_sq _ _ (by decide), if_neg (by omega)]⟩
theorem c11_putOnTape (hS : Sh M) {t : Nat} (ht : gI M 100 1 = nI t) (h9 : t + 4 ≤ 900) (x : Int32) : Ct G Y11_putOnTape 0 0 0 [.ref 100, .int x] M (Rs none (fun M' => Sm Wtp M M' ∧ gI M' 100 1 = nI (t + 4) ∧ ∀ j, gI M' 101 j = if t ≤ j ∧ j < t + 4 then sb (fdB x (j - t)) else gI M 101 j)) NX := by
  have hS' := hS
  have lp : ∀ r k M', k + r = 4 → Sm Wtp M M' → gI M' 100 1 = nI (t + k) → (∀ j, gI M' 101 j = if t ≤ j ∧ j < t + k then sb (fdB x (j - t)) else gI M 101 j) → V G Y11_putOnTape 0 0 0 (Rs none (fun M' => Sm Wtp M M' ∧ gI M' 100 1 = nI (t + 4) ∧ ∀ j, gI M' 101 j = if t ≤ j ∧ j < t + 4 then sb (fdB x (j - t)) else gI M 101 j)) NX 3 [some (.ref 100), some (.int x), some (.int (shv k))] [] M' := by
    intro r
    induction r with
    | zero =>
      intro k M' hk m f1 f5
      obtain rfl : k = 4 := by omega
      refine v_iload_n dX11_putOnTape_3 rfl ?_
      refine v_if_lt 46 dX11_putOnTape_4 (by decide) (fun h4 => ?_) (fun h4 => absurd (by decide) h4)
      refine v_vret dX11_putOnTape_46 rfl ?_
      exact ⟨rfl, m, f1, f5⟩
    | succ r ih =>
      intro k M' hk m f1 f5
      have hS' := hS.sm m
      obtain ⟨s1, s2⟩ := shv_n k (by omega)
      have nxt := ih (k + 1) (sI (sI M' 101 (t + k) (sb (fdB x k))) 100 1 (nI (t + k + 1))) (by omega) ((m.st _ rfl).st _ rfl) (gI_ss _ _ _ _) (fun j => by
        rw [gI_sq _ _ (by decide)]
        by_cases hj : j = t + k
        · rw [hj, gI_ss, if_pos ⟨by omega, by omega⟩, show t + k - t = k by omega]
        · rw [gI_sk _ _ hj, f5 j]
          by_cases hc : t ≤ j ∧ j < t + k
          · rw [if_pos hc, if_pos ⟨hc.1, by omega⟩]
          · rw [if_neg hc, if_neg (by omega)])
      have hb : ((x.toUInt32 >>> ((shv k).toUInt32 &&& Int32.toUInt32 31)).toInt32).toInt8.toInt32.toInt8.toInt32 = sb (fdB x k) := by
        rw [byt_sb, s1]
        rfl
      have h0 : ¬ shv k < 0 := by rw [s1]; exact nI_pos (by omega)
      refine v_iload_n dX11_putOnTape_3 rfl ?_
      refine v_if_lt 46 dX11_putOnTape_4 (by decide) (fun h4 => absurd h4 h0) (fun h4 => ?_)
      refine v_aload_n dX11_putOnTape_7 rfl ?_
      refine v_getI 11 1 dX11_putOnTape_8 f11_77 (by first | exact hS'.1 _ _ rfl | assumption) (by decide) ?_
      rw [f1]
      refine v_sipush 900 dX11_putOnTape_11 (by decide) ?_
      refine v_icmp_ge 46 dX11_putOnTape_14 (by decide) (fun h14 => absurd ((nI_leI (a := 900) (by omega) (by omega)).mp h14) (by omega)) (fun h14 => ?_)
      refine v_aload_n dX11_putOnTape_17 rfl ?_
      refine v_getR 11 0 _ dX11_putOnTape_18 f11_9 (by first | exact hS'.1 _ _ rfl | assumption) (by decide) (by first | exact hS'.2 _ _ _ rfl | assumption) ?_
      refine v_aload_n dX11_putOnTape_21 rfl ?_
      refine v_getI 11 1 dX11_putOnTape_22 f11_77 (by first | exact hS'.1 _ _ rfl | assumption) (by decide) ?_
      rw [f1]
      refine v_iload_n dX11_putOnTape_25 rfl ?_
      refine v_iload_n dX11_putOnTape_26 rfl ?_
      refine v_iushr dX11_putOnTape_27 ?_
      refine v_i2b dX11_putOnTape_28 ?_
      refine v_bastN (t + k) dX11_putOnTape_29 (by first | exact hS'.1 _ _ rfl | assumption) (by simp only [n_lit, pk_mul, nI_add]) ⟨by omega, by omega⟩ ?_
      rw [hb]
      refine v_aload_n dX11_putOnTape_30 rfl ?_
      refine v_dup dX11_putOnTape_31 rfl ?_
      refine v_getI 11 1 dX11_putOnTape_32 f11_77 (by first | exact hS'.1 _ _ rfl | assumption) (by decide) ?_
      rw [gI_sq _ _ (by decide), f1]
      refine v_iconst 1 dX11_putOnTape_35 (by decide) ?_
      refine v_iadd dX11_putOnTape_36 ?_
      rw [nI_1]
      refine v_putI 11 1 dX11_putOnTape_37 f11_77 (by first | exact hS'.1 _ _ rfl | assumption) (by decide) ?_
      refine v_iinc (-8) dX11_putOnTape_40 rfl (by decide) rfl (by decide) ?_
      refine v_goto 3 dX11_putOnTape_43 (by decide) ?_
      (rw [s2]; exact nxt)
  refine Ct.of k11_putOnTape.1 (Nat.le_of_ble_eq_true rfl) ?_
  refine v_bipush 24 dX11_putOnTape_0 (by decide) ?_
  refine v_istore_n dX11_putOnTape_2 rfl (by decide) ?_
  exact lp 4 0 M (by omega) Sm.rf ht (fun j => (if_neg (by omega)).symm)
theorem c11_feed (hS : Sh M) {tp : Nat} (ht : gI M 100 1 = nI tp) (h9 : tp ≤ 900) (a b c d e : Int32) : Ct G Y11_feed 40 0 0 [.ref 100, .int a, .int b, .int c, .int d, .int e] M (Rs (some (.int (if tp ≤ 880 then nI (tp + 20) else -1))) (fun M' => Sm Wtp M M' ∧ gI M' 100 1 = nI (if tp ≤ 880 then tp + 20 else tp) ∧ ∀ j, gI M' 101 j = if tp ≤ j ∧ j < (if tp ≤ 880 then tp + 20 else tp) then sb (fdA a b c d e (j - tp)) else gI M 101 j)) NX := by
  have hS' := hS
  refine Ct.of k11_feed.1 (Nat.le_of_ble_eq_true rfl) ?_
  by_cases h8 : tp ≤ 880
  · simp only [if_pos h8]
    refine v_aload_n dX11_feed_0 rfl ?_
    refine v_getI 11 1 dX11_feed_1 f11_77 (by first | exact hS'.1 _ _ rfl | assumption) (by decide) ?_
    rw [ht]
    refine v_bipush 20 dX11_feed_4 (by decide) ?_
    refine v_iadd dX11_feed_6 ?_
    rw [show nI tp + (20 : Int32) = nI (tp + 20) from (nI_add tp 20)]
    refine v_sipush 900 dX11_feed_7 (by decide) ?_
    refine v_icmp_le 15 dX11_feed_10 (by decide) (fun h10 => ?_) (fun h10 => absurd (nI_le (b := 900) (by omega) (by decide)) h10)
    refine v_aload_n dX11_feed_15 rfl ?_
    refine v_iload_n dX11_feed_16 rfl ?_
    skip
    refine v_scVv [_] (c11_putOnTape G M hS ht (by omega) a) k11_putOnTape dX11_feed_17 l11_80 (hS'.1 _ _ rfl) (by decide) rfl (Nat.le_of_ble_eq_true rfl) (Nat.le_of_ble_eq_true rfl) (fun M1 ⟨m1, f1, g1⟩ => ?_)
    have hS' := hS.sm m1
    refine v_aload_n dX11_feed_20 rfl ?_
    refine v_iload_n dX11_feed_21 rfl ?_
    skip
    refine v_scVv [_] (c11_putOnTape G M1 hS' f1 (by omega) b) k11_putOnTape dX11_feed_22 l11_80 (hS'.1 _ _ rfl) (by decide) rfl (Nat.le_of_ble_eq_true rfl) (Nat.le_of_ble_eq_true rfl) (fun M2 ⟨m2, f2, g2⟩ => ?_)
    have hS' := hS'.sm m2
    refine v_aload_n dX11_feed_25 rfl ?_
    refine v_iload_n dX11_feed_26 rfl ?_
    skip
    refine v_scVv [_] (c11_putOnTape G M2 hS' f2 (by omega) c) k11_putOnTape dX11_feed_27 l11_80 (hS'.1 _ _ rfl) (by decide) rfl (Nat.le_of_ble_eq_true rfl) (Nat.le_of_ble_eq_true rfl) (fun M3 ⟨m3, f3, g3⟩ => ?_)
    have hS' := hS'.sm m3
    refine v_aload_n dX11_feed_30 rfl ?_
    refine v_iload dX11_feed_31 rfl ?_
    skip
    refine v_scVv [_] (c11_putOnTape G M3 hS' f3 (by omega) d) k11_putOnTape dX11_feed_33 l11_80 (hS'.1 _ _ rfl) (by decide) rfl (Nat.le_of_ble_eq_true rfl) (Nat.le_of_ble_eq_true rfl) (fun M4 ⟨m4, f4, g4⟩ => ?_)
    have hS' := hS'.sm m4
    refine v_aload_n dX11_feed_36 rfl ?_
    refine v_iload dX11_feed_37 rfl ?_
    skip
    refine v_scVv [_] (c11_putOnTape G M4 hS' f4 (by omega) e) k11_putOnTape dX11_feed_39 l11_80 (hS'.1 _ _ rfl) (by decide) rfl (Nat.le_of_ble_eq_true rfl) (Nat.le_of_ble_eq_true rfl) (fun M5 ⟨m5, f5, g5⟩ => ?_)
    have hS' := hS'.sm m5
    have f5' : gI M5 100 1 = nI (tp + 20) := f5.trans (congrArg nI (by omega))
    refine v_aload_n dX11_feed_42 rfl ?_
    refine v_getI 11 1 dX11_feed_43 f11_77 (by first | exact hS'.1 _ _ rfl | assumption) (by decide) ?_
    rw [f5']
    refine v_iret dX11_feed_46 rfl ?_
    skip
    refine ⟨rfl, (((m1.tr m2).tr m3).tr m4).tr m5, f5', fun j => ?_⟩
    rw [g5 j]
    have fd : ∀ i, i < 20 → fdA a b c d e i = fdB (fdW a b c d e i) (i % 4) := fun i _ => rfl
    by_cases c5 : tp + 4 + 4 + 4 + 4 ≤ j ∧ j < tp + 4 + 4 + 4 + 4 + 4
    · rw [if_pos c5, if_pos (by omega), fdA, fdW, if_neg (by omega), if_neg (by omega), if_neg (by omega), if_neg (by omega), show (j - tp) % 4 = j - (tp + 4 + 4 + 4 + 4) by omega]
    · rw [if_neg c5, g4 j]
      by_cases c4 : tp + 4 + 4 + 4 ≤ j ∧ j < tp + 4 + 4 + 4 + 4
      · rw [if_pos c4, if_pos (by omega), fdA, fdW, if_neg (by omega), if_neg (by omega), if_neg (by omega), if_pos (by omega), show (j - tp) % 4 = j - (tp + 4 + 4 + 4) by omega]
      · rw [if_neg c4, g3 j]
        by_cases c3 : tp + 4 + 4 ≤ j ∧ j < tp + 4 + 4 + 4
        · rw [if_pos c3, if_pos (by omega), fdA, fdW, if_neg (by omega), if_neg (by omega), if_pos (by omega), show (j - tp) % 4 = j - (tp + 4 + 4) by omega]
        · rw [if_neg c3, g2 j]
          by_cases c2 : tp + 4 ≤ j ∧ j < tp + 4 + 4
          · rw [if_pos c2, if_pos (by omega), fdA, fdW, if_neg (by omega), if_pos (by omega), show (j - tp) % 4 = j - (tp + 4) by omega]
          · rw [if_neg c2, g1 j]
            by_cases c1 : tp ≤ j ∧ j < tp + 4
            · rw [if_pos c1, if_pos (by omega), fdA, fdW, if_pos (by omega), show (j - tp) % 4 = j - tp by omega]
            · rw [if_neg c1, if_neg (by omega)]
  · simp only [if_neg h8]
    refine v_aload_n dX11_feed_0 rfl ?_
    refine v_getI 11 1 dX11_feed_1 f11_77 (by first | exact hS'.1 _ _ rfl | assumption) (by decide) ?_
    rw [ht]
    refine v_bipush 20 dX11_feed_4 (by decide) ?_
    refine v_iadd dX11_feed_6 ?_
    rw [show nI tp + (20 : Int32) = nI (tp + 20) from (nI_add tp 20)]
    refine v_sipush 900 dX11_feed_7 (by decide) ?_
    refine v_icmp_le 15 dX11_feed_10 (by decide) (fun h10 => absurd ((nI_leI (b := 900) (by omega) (by omega)).mp h10) (by omega)) (fun h10 => ?_)
    refine v_iconst (-1) dX11_feed_13 (by decide) ?_
    refine v_iret dX11_feed_14 rfl ?_
    exact ⟨rfl, Sm.rf, ht, fun j => by rw [if_neg (by omega)]⟩
end FD
