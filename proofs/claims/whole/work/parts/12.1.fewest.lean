/-! ===== the class: Asker, the fewest words ===== -/
set_option maxRecDepth 100000 in
theorem pcn10_tab : (List.range 1024).all (fun S => Nat.ble (pcn S) 10) = true := by decide +kernel
theorem pcn_10 {S : Nat} (h : S < 1024) : pcn S ≤ 10 := Nat.le_of_ble_eq_true (List.all_eq_true.mp pcn10_tab S (List.mem_range.mpr h))
def fwP (o : Option Nat) : Nat := match o with
  | none => 11
  | some b => pcn b
def Ap3 (s p cd : Nat) : Prop := (s + 5 < 205 ∨ 208 < s) ∧ Apt p cd 205 208
section A1
variable (G : mG) (M : mM)
theorem l0_fewest (hS : Sh M) {s p cd n : Nat} {K : Nat → Int32} (hp : Plr M p cd n K) (hW : WK K) (hL : LsA M 208 (pxO (kn K 93) (trH K) 14)) : ∀ i S, S + i = 2 ^ kn K 3 → V G Y0_fewestWords 7 0 0 (Rv (some (.int (encO (bkF K (2 ^ kn K 3))))) M) NX 16 [some (.ref 205), some (.ref p), some (.ref s), some (.int (nI (pxO (kn K 93) (trH K) 14).length)), some (.int (encO (bkF K S))), some (.int (nI (fwP (bkF K S)))), some (.int (nI S))] [] M := by
  have h10 := hW.p.2.2.1.2
  have hpw : 2 ^ kn K 3 ≤ 2 ^ 10 := Nat.pow_le_pow_right (by omega) h10
  have hp1 := hp.1.1
  have hw := c4_allWords G M hp hW.p
  intro i
  induction i with
  | zero =>
    intro S hs
    obtain rfl : S = 2 ^ kn K 3 := by omega
    have hpos := Nat.two_pow_pos (kn K 3)
    generalize (pxO (kn K 93) (trH K) 14).length = L at *
    generalize (fwP (bkF K (2 ^ kn K 3))) = A at *
    generalize 2 ^ kn K 3 = N at *
    refine v_iload dX0_fewestWords_16 rfl ?_
    refine v_aload_n dX0_fewestWords_18 rfl ?_
    refine v_cV [] (hw) k4_allWords dX0_fewestWords_19 l0_26 (by first | exact hS.1 _ _ rfl | assumption) (by decide) rfl (Nat.le_of_ble_eq_true rfl) (Nat.le_of_ble_eq_true rfl) ?_
    refine v_icmp_gt 62 dX0_fewestWords_22 (by decide) (fun h22 => ?_) (fun h22 => absurd (nI_lt (by omega) (by omega)) h22)
    refine v_iload dX0_fewestWords_62 rfl ?_
    refine v_iret dX0_fewestWords_64 rfl ?_
    exact ⟨rfl, rfl⟩
  | succ i ih =>
    intro S hs
    have hn := ih (S + 1) (by omega)
    have hpa := c0_partsAll G M hS hW hL S
    have h1 := pcn_10 (S := S) (by omega)
    have hS14 : S < 16384 := by omega
    generalize (pxO (kn K 93) (trH K) 14).length = L at *
    generalize hA : bkF K (2 ^ kn K 3) = A at *
    generalize 2 ^ kn K 3 = N at *
    by_cases hq : prtA K S = true
    · rw [bI_t hq] at hpa
      cases hb : bkF K S with
      | none =>
        rw [bk_0 hb hq] at hn
        rw [show encO none = (-1 : Int32) from rfl, show fwP none = 11 from rfl]
        refine v_iload dX0_fewestWords_16 rfl ?_
        refine v_aload_n dX0_fewestWords_18 rfl ?_
        refine v_cV [] (hw) k4_allWords dX0_fewestWords_19 l0_26 (by first | exact hS.1 _ _ rfl | assumption) (by decide) rfl (Nat.le_of_ble_eq_true rfl) (Nat.le_of_ble_eq_true rfl) ?_
        refine v_icmp_gt 62 dX0_fewestWords_22 (by decide) (fun h22 => absurd ((nI_ltI (by omega) (by omega)).mp h22) (by omega)) (fun h22 => ?_)
        refine v_iload dX0_fewestWords_25 rfl ?_
        refine v_cS [_] (cJ_bitCount G M _) kJ_bitCount dX0_fewestWords_27 l0_32 rfl (Nat.le_of_ble_eq_true rfl) (Nat.le_of_ble_eq_true rfl) ?_
        rw [bcI_n hS14]
        refine v_iload dX0_fewestWords_30 rfl ?_
        refine v_icmp_ge 56 dX0_fewestWords_32 (by decide) (fun h32 => absurd ((nI_leI (by decide) (by omega)).mp h32) (by omega)) (fun h32 => ?_)
        refine v_aload_n dX0_fewestWords_35 rfl ?_
        refine v_iload dX0_fewestWords_36 rfl ?_
        refine v_iload_n dX0_fewestWords_38 rfl ?_
        refine v_cV [_, _] (hpa) k0_partsAll dX0_fewestWords_39 l0_38 (by first | exact hS.1 _ _ rfl | assumption) (by decide) rfl (Nat.le_of_ble_eq_true rfl) (Nat.le_of_ble_eq_true rfl) ?_
        refine v_if_eq 56 dX0_fewestWords_42 (by decide) (fun h42 => absurd h42 (by decide)) (fun h42 => ?_)
        refine v_iload dX0_fewestWords_45 rfl ?_
        refine v_istore dX0_fewestWords_47 rfl (by decide) ?_
        refine v_iload dX0_fewestWords_49 rfl ?_
        refine v_cS [_] (cJ_bitCount G M _) kJ_bitCount dX0_fewestWords_51 l0_32 rfl (Nat.le_of_ble_eq_true rfl) (Nat.le_of_ble_eq_true rfl) ?_
        rw [bcI_n hS14]
        refine v_istore dX0_fewestWords_54 rfl (by decide) ?_
        refine v_iinc 1 dX0_fewestWords_56 rfl (by decide) rfl (by decide) ?_
        refine v_goto 16 dX0_fewestWords_59 (by decide) ?_
        (rw [nI_1]; exact hn)
      | some b =>
        have hbl := bkF_lt S b hb
        have hb2 := pcn_le b
        rw [show encO (some b) = nI b from rfl, show fwP (some b) = pcn b from rfl]
        by_cases h2 : pcn S < pcn b
        · rw [bk_pos hb h2 hq] at hn
          refine v_iload dX0_fewestWords_16 rfl ?_
          refine v_aload_n dX0_fewestWords_18 rfl ?_
          refine v_cV [] (hw) k4_allWords dX0_fewestWords_19 l0_26 (by first | exact hS.1 _ _ rfl | assumption) (by decide) rfl (Nat.le_of_ble_eq_true rfl) (Nat.le_of_ble_eq_true rfl) ?_
          refine v_icmp_gt 62 dX0_fewestWords_22 (by decide) (fun h22 => absurd ((nI_ltI (by omega) (by omega)).mp h22) (by omega)) (fun h22 => ?_)
          refine v_iload dX0_fewestWords_25 rfl ?_
          refine v_cS [_] (cJ_bitCount G M _) kJ_bitCount dX0_fewestWords_27 l0_32 rfl (Nat.le_of_ble_eq_true rfl) (Nat.le_of_ble_eq_true rfl) ?_
          rw [bcI_n hS14]
          refine v_iload dX0_fewestWords_30 rfl ?_
          refine v_icmp_ge 56 dX0_fewestWords_32 (by decide) (fun h32 => absurd ((nI_leI (by omega) (by omega)).mp h32) (by omega)) (fun h32 => ?_)
          refine v_aload_n dX0_fewestWords_35 rfl ?_
          refine v_iload dX0_fewestWords_36 rfl ?_
          refine v_iload_n dX0_fewestWords_38 rfl ?_
          refine v_cV [_, _] (hpa) k0_partsAll dX0_fewestWords_39 l0_38 (by first | exact hS.1 _ _ rfl | assumption) (by decide) rfl (Nat.le_of_ble_eq_true rfl) (Nat.le_of_ble_eq_true rfl) ?_
          refine v_if_eq 56 dX0_fewestWords_42 (by decide) (fun h42 => absurd h42 (by decide)) (fun h42 => ?_)
          refine v_iload dX0_fewestWords_45 rfl ?_
          refine v_istore dX0_fewestWords_47 rfl (by decide) ?_
          refine v_iload dX0_fewestWords_49 rfl ?_
          refine v_cS [_] (cJ_bitCount G M _) kJ_bitCount dX0_fewestWords_51 l0_32 rfl (Nat.le_of_ble_eq_true rfl) (Nat.le_of_ble_eq_true rfl) ?_
          rw [bcI_n hS14]
          refine v_istore dX0_fewestWords_54 rfl (by decide) ?_
          refine v_iinc 1 dX0_fewestWords_56 rfl (by decide) rfl (by decide) ?_
          refine v_goto 16 dX0_fewestWords_59 (by decide) ?_
          (rw [nI_1]; exact hn)
        · rw [bk_neg hb (fun z => h2 z.1)] at hn
          refine v_iload dX0_fewestWords_16 rfl ?_
          refine v_aload_n dX0_fewestWords_18 rfl ?_
          refine v_cV [] (hw) k4_allWords dX0_fewestWords_19 l0_26 (by first | exact hS.1 _ _ rfl | assumption) (by decide) rfl (Nat.le_of_ble_eq_true rfl) (Nat.le_of_ble_eq_true rfl) ?_
          refine v_icmp_gt 62 dX0_fewestWords_22 (by decide) (fun h22 => absurd ((nI_ltI (by omega) (by omega)).mp h22) (by omega)) (fun h22 => ?_)
          refine v_iload dX0_fewestWords_25 rfl ?_
          refine v_cS [_] (cJ_bitCount G M _) kJ_bitCount dX0_fewestWords_27 l0_32 rfl (Nat.le_of_ble_eq_true rfl) (Nat.le_of_ble_eq_true rfl) ?_
          rw [bcI_n hS14]
          refine v_iload dX0_fewestWords_30 rfl ?_
          refine v_icmp_ge 56 dX0_fewestWords_32 (by decide) (fun h32 => ?_) (fun h32 => absurd (nI_le (by omega) (by omega)) h32)
          refine v_iinc 1 dX0_fewestWords_56 rfl (by decide) rfl (by decide) ?_
          refine v_goto 16 dX0_fewestWords_59 (by decide) ?_
          (rw [nI_1]; exact hn)
    · rw [bI_f hq] at hpa
      cases hb : bkF K S with
      | none =>
        rw [bk_1 hb hq] at hn
        rw [show encO none = (-1 : Int32) from rfl, show fwP none = 11 from rfl] at hn ⊢
        refine v_iload dX0_fewestWords_16 rfl ?_
        refine v_aload_n dX0_fewestWords_18 rfl ?_
        refine v_cV [] (hw) k4_allWords dX0_fewestWords_19 l0_26 (by first | exact hS.1 _ _ rfl | assumption) (by decide) rfl (Nat.le_of_ble_eq_true rfl) (Nat.le_of_ble_eq_true rfl) ?_
        refine v_icmp_gt 62 dX0_fewestWords_22 (by decide) (fun h22 => absurd ((nI_ltI (by omega) (by omega)).mp h22) (by omega)) (fun h22 => ?_)
        refine v_iload dX0_fewestWords_25 rfl ?_
        refine v_cS [_] (cJ_bitCount G M _) kJ_bitCount dX0_fewestWords_27 l0_32 rfl (Nat.le_of_ble_eq_true rfl) (Nat.le_of_ble_eq_true rfl) ?_
        rw [bcI_n hS14]
        refine v_iload dX0_fewestWords_30 rfl ?_
        refine v_icmp_ge 56 dX0_fewestWords_32 (by decide) (fun h32 => absurd ((nI_leI (by decide) (by omega)).mp h32) (by omega)) (fun h32 => ?_)
        refine v_aload_n dX0_fewestWords_35 rfl ?_
        refine v_iload dX0_fewestWords_36 rfl ?_
        refine v_iload_n dX0_fewestWords_38 rfl ?_
        refine v_cV [_, _] (hpa) k0_partsAll dX0_fewestWords_39 l0_38 (by first | exact hS.1 _ _ rfl | assumption) (by decide) rfl (Nat.le_of_ble_eq_true rfl) (Nat.le_of_ble_eq_true rfl) ?_
        refine v_if_eq 56 dX0_fewestWords_42 (by decide) (fun h42 => ?_) (fun h42 => absurd rfl h42)
        refine v_iinc 1 dX0_fewestWords_56 rfl (by decide) rfl (by decide) ?_
        refine v_goto 16 dX0_fewestWords_59 (by decide) ?_
        (rw [nI_1]; exact hn)
      | some b =>
        have hbl := bkF_lt S b hb
        have hb2 := pcn_le b
        rw [bk_neg hb (fun z => hq z.2)] at hn
        rw [show encO (some b) = nI b from rfl, show fwP (some b) = pcn b from rfl] at hn ⊢
        by_cases h2 : pcn S < pcn b
        · refine v_iload dX0_fewestWords_16 rfl ?_
          refine v_aload_n dX0_fewestWords_18 rfl ?_
          refine v_cV [] (hw) k4_allWords dX0_fewestWords_19 l0_26 (by first | exact hS.1 _ _ rfl | assumption) (by decide) rfl (Nat.le_of_ble_eq_true rfl) (Nat.le_of_ble_eq_true rfl) ?_
          refine v_icmp_gt 62 dX0_fewestWords_22 (by decide) (fun h22 => absurd ((nI_ltI (by omega) (by omega)).mp h22) (by omega)) (fun h22 => ?_)
          refine v_iload dX0_fewestWords_25 rfl ?_
          refine v_cS [_] (cJ_bitCount G M _) kJ_bitCount dX0_fewestWords_27 l0_32 rfl (Nat.le_of_ble_eq_true rfl) (Nat.le_of_ble_eq_true rfl) ?_
          rw [bcI_n hS14]
          refine v_iload dX0_fewestWords_30 rfl ?_
          refine v_icmp_ge 56 dX0_fewestWords_32 (by decide) (fun h32 => absurd ((nI_leI (by omega) (by omega)).mp h32) (by omega)) (fun h32 => ?_)
          refine v_aload_n dX0_fewestWords_35 rfl ?_
          refine v_iload dX0_fewestWords_36 rfl ?_
          refine v_iload_n dX0_fewestWords_38 rfl ?_
          refine v_cV [_, _] (hpa) k0_partsAll dX0_fewestWords_39 l0_38 (by first | exact hS.1 _ _ rfl | assumption) (by decide) rfl (Nat.le_of_ble_eq_true rfl) (Nat.le_of_ble_eq_true rfl) ?_
          refine v_if_eq 56 dX0_fewestWords_42 (by decide) (fun h42 => ?_) (fun h42 => absurd rfl h42)
          refine v_iinc 1 dX0_fewestWords_56 rfl (by decide) rfl (by decide) ?_
          refine v_goto 16 dX0_fewestWords_59 (by decide) ?_
          (rw [nI_1]; exact hn)
        · refine v_iload dX0_fewestWords_16 rfl ?_
          refine v_aload_n dX0_fewestWords_18 rfl ?_
          refine v_cV [] (hw) k4_allWords dX0_fewestWords_19 l0_26 (by first | exact hS.1 _ _ rfl | assumption) (by decide) rfl (Nat.le_of_ble_eq_true rfl) (Nat.le_of_ble_eq_true rfl) ?_
          refine v_icmp_gt 62 dX0_fewestWords_22 (by decide) (fun h22 => absurd ((nI_ltI (by omega) (by omega)).mp h22) (by omega)) (fun h22 => ?_)
          refine v_iload dX0_fewestWords_25 rfl ?_
          refine v_cS [_] (cJ_bitCount G M _) kJ_bitCount dX0_fewestWords_27 l0_32 rfl (Nat.le_of_ble_eq_true rfl) (Nat.le_of_ble_eq_true rfl) ?_
          rw [bcI_n hS14]
          refine v_iload dX0_fewestWords_30 rfl ?_
          refine v_icmp_ge 56 dX0_fewestWords_32 (by decide) (fun h32 => ?_) (fun h32 => absurd (nI_le (by omega) (by omega)) h32)
          refine v_iinc 1 dX0_fewestWords_56 rfl (by decide) rfl (by decide) ?_
          refine v_goto 16 dX0_fewestWords_59 (by decide) ?_
          (rw [nI_1]; exact hn)
theorem Wdf_o {q : Nat} (h : q ≠ 208) (k : Nat) : Wdf q k = false := nbeq_f h
theorem c0_fewestWords (hS : Sh M) {s p cd n : Nat} {K : Nat → Int32} (hs : Str M s K) (hp : Plr M p cd n K) (hW : WK K) (ha : Ap3 s p cd) : Ct G Y0_fewestWords 7 0 0 [.ref 205, .ref p, .ref s] M (Rs (some (.int (encO (bkF K (2 ^ kn K 3))))) (Sm Wdf M)) NX := by
  refine Ct.of k0_fewestWords.1 (Nat.le_of_ble_eq_true rfl) ?_
  refine v_aload_n dX0_fewestWords_0 rfl ?_
  refine v_aload_n dX0_fewestWords_1 rfl ?_
  -- at 2: .invokevirtual 22
  refine v_scV [_] (c0_learnPairs G M hS hs hW ha.1) k0_learnPairs dX0_fewestWords_2 l0_22 (hS.1 205 _ rfl) (by decide) rfl (Nat.le_of_ble_eq_true rfl) (Nat.le_of_ble_eq_true rfl) (fun M2 hM2 => ?_)
  have hS2 := hS.sm hM2.1
  have hp2 := hp.mv hM2.1.2.1 hM2.1.2.2.2.1 (by rw [hM2.1.2.2.1]) (fun q hq => hM2.1.row (fun k => Wdf_o (by have := ha.2 q (by omega); omega) k))
  refine v_istore_n dX0_fewestWords_5 rfl (by decide) ?_
  refine v_iconst (-1) dX0_fewestWords_6 (by decide) ?_
  refine v_istore dX0_fewestWords_7 rfl (by decide) ?_
  refine v_bipush 11 dX0_fewestWords_9 (by decide) ?_
  refine v_istore dX0_fewestWords_11 rfl (by decide) ?_
  refine v_iconst 0 dX0_fewestWords_13 (by decide) ?_
  refine v_istore dX0_fewestWords_14 rfl (by decide) ?_
  -- at 16: .iload 6
  exact V.post (l0_fewest G M2 hS2 hp2 hW hM2.2 (2 ^ kn K 3) 0 (by omega)) (fun v M3 h => ⟨h.1, by rw [h.2]; exact hM2.1⟩) (fun _ _ h => h)
end A1
