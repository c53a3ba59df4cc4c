/-! ===== the reference: judge, night ===== -/
def tJg (M : mM) (t w : Int32) : Int32 := if tFt M t = 0 then (if inR 4 w = true then 0 else 3) else tFt M t
def jdg (M : mM) (t : Int32) : Int32 × (Nat → Int32) := jdF (numsOf M t) (kn (gI M 245) t.toNatClampNeg) 0 (gI M 231)
def rJg (M : mM) (t w : Int32) : Int32 := if w = 0 then (jdg M t).1 else if w = 1 then (if (jdg M t).1 = -1 then 0 else 1) else if w = 2 then (jdg M t).2 93 else (jdg M t).2 96
theorem tFt_pos {M : mM} {t : Int32} (h : ¬ tFt M t = 0) : ¬ tFt M t ≤ 0 := by
  unfold tFt at h ⊢
  split
  · split
    · decide
    · rename_i a b; rw [if_pos a, if_neg b] at h; exact absurd rfl h
  · decide
section RL9
variable (G : mG) (M : mM)
theorem c12_judge (hS : Sh M) (hW : WK (gI M 231)) (hT : TW M) (t w : Int32) : Ct G Y12_judge 10 0 0 [.ref 230, .int t, .int w] M (Rs (some (.int (if tJg M t w = 0 then rJg M t w else 0))) (Pd M (tJg M t w) (gI M 231))) NX := by
  have e1 : ∀ u, gI (sI M 230 4 u) 231 = gI M 231 := fun u => gI_sr _ _ (by decide)
  refine Ct.of k12_judge.1 (Nat.le_of_ble_eq_true rfl) ?_
  refine v_aload_n dX12_judge_0 rfl ?_
  refine v_aload_n dX12_judge_1 rfl ?_
  refine v_iload_n dX12_judge_2 rfl ?_
  -- at 3: .invokevirtual 398
  refine v_cV [_] (c12_trayFault G M hS t) k12_trayFault dX12_judge_3 l12_398 (by first | exact hS.1 _ _ rfl | exact hS'.1 _ _ rfl | assumption) (by decide) rfl (Nat.le_of_ble_eq_true rfl) (Nat.le_of_ble_eq_true rfl) ?_
  refine v_putI 12 4 dX12_judge_6 f12_68 (by first | exact hS.1 _ _ rfl | exact hS'.1 _ _ rfl | assumption) (by decide) ?_
  refine v_aload_n dX12_judge_9 rfl ?_
  refine v_getI 12 4 dX12_judge_10 f12_68 (by first | exact hS.1 _ _ rfl | exact hS'.1 _ _ rfl | assumption) (by decide) ?_
  -- at 13: .ifCond .ne 20
  rw [gI_ss]
  by_cases h0 : tFt M t = 0
  · have ht : inR 4 t = true := by
      unfold tFt at h0
      split at h0
      · assumption
      · cases h0
    rw [h0]
    refine v_if_ne 33 dX12_judge_13 (by decide) (fun h13 => ?_) (fun h13 => ?_)
    · exact absurd rfl h13
    · refine v_iload_n dX12_judge_16 rfl ?_
      refine v_i2l dX12_judge_17 ?_
      refine v_lconst 0 dX12_judge_18 (by decide) ?_
      refine v_ldc2 3 dX12_judge_19 K12_315 ?_
      -- at 22: .invokestatic 132
      refine v_cS [_, _, _] (c12_within _ _ _ _ _) k12_within dX12_judge_22 l12_132 rfl (Nat.le_of_ble_eq_true rfl) (Nat.le_of_ble_eq_true rfl) ?_
      rw [bI_cong (within3 w)]
      by_cases hw : inR 4 w = true
      · rw [bI_t hw, show tJg M t w = 0 by rw [tJg, if_pos h0, if_pos hw], if_pos rfl]
        obtain ⟨j, hj, rfl, hj2⟩ := inR_of ht
        have hTj := (hT j hj).2
        refine v_if_ne 33 dX12_judge_25 (by decide) (fun h25 => ?_) (fun h25 => ?_)
        · refine v_aload_n dX12_judge_33 rfl ?_
          refine v_getI 12 4 dX12_judge_34 f12_68 (by first | exact hS.1 _ _ rfl | exact hS'.1 _ _ rfl | assumption) (by decide) ?_
          -- at 37: .ifCond .le 5
          rw [gI_ss]
          refine v_if_le 42 dX12_judge_37 (by decide) (fun h37 => ?_) (fun h37 => ?_)
          · refine v_aload_n dX12_judge_42 rfl ?_
            -- at 43: .invokevirtual 401
            refine v_scVv [] (c12_putsAside G (sI M 230 4 0) hS) k12_putsAside dX12_judge_43 l12_401 (hS.1 _ _ rfl) (by decide) rfl (Nat.le_of_ble_eq_true rfl) (Nat.le_of_ble_eq_true rfl) (fun M2 hM2 => ?_)
            rw [e1] at hM2
            have hM1 : Sm Wd M (sI M 230 4 0) := Sm.rf.st _ rfl
            have hM2' : Sm Wd M M2 := hM1.tr (hM2.1.wk (fun q k z => by simp only [Wd, W241, Bool.or_eq_false_iff] at z ⊢; exact z.2))
            have hS2 := hS.sm hM2'
            have eK2 : gI M2 231 = gI M 231 := (hM2.1.K (fun _ => rfl)).trans (e1 0)
            have e245 : gI M2 245 j = nI (kn (gI M 245) j) := (hM2'.2.2.2.2 245 j rfl).trans hTj.1
            have en : (fun k => gJ M2 246 (30 * j + k)) = numsOf M (nI j) := by funext k; rw [numsOf, nI_clamp hj2, hM2'.2.2.1]
            refine v_iconst (-1) dX12_judge_46 (by decide) ?_
            refine v_istore_n dX12_judge_47 rfl (by decide) ?_
            refine v_iconst 0 dX12_judge_48 (by decide) ?_
            refine v_istore dX12_judge_49 rfl (by decide) ?_
            refine v_iconst 0 dX12_judge_51 (by decide) ?_
            refine v_istore dX12_judge_52 rfl (by decide) ?_
            -- at 54: .iload 5
            refine v_pad ?_
            refine l12_judge G M2 hS2 hj e245 hTj.2 (w := w) (fun M' o5 o6 pl wy hM hW' ho hjd hwy h5 => ?_) (kn (gI M 245) j) 0 M2 (by omega) Sm.rf (by rw [eK2]; exact hW) (fun _ _ => rfl) rfl
            rw [en, eK2] at hjd
            have hjd2 : jdg M (nI j) = (pl, gI M' 231) := by rw [jdg, nI_clamp hj2, ← hjd]
            have hS' := hS2.sm hM
            have e241 : gI M' 241 = gI M2 241 := by funext k; exact hM.2.2.2.2 241 k rfl
            refine v_aload_n dX12_judge_122 rfl ?_
            refine v_getR 12 0 _ dX12_judge_123 f12_9 (by first | exact hS.1 _ _ rfl | exact hS'.1 _ _ rfl | assumption) (by decide) (by first | exact hS.2 _ _ _ rfl | exact hS'.2 _ _ _ rfl | assumption) ?_
            refine v_bipush 93 dX12_judge_126 (by decide) ?_
            refine v_ialdN 93 dX12_judge_128 (by first | exact hS.1 _ _ rfl | exact hS'.1 _ _ rfl | assumption) rfl (by decide) ?_
            refine v_istore dX12_judge_129 rfl (by decide) ?_
            refine v_aload_n dX12_judge_131 rfl ?_
            refine v_getR 12 0 _ dX12_judge_132 f12_9 (by first | exact hS.1 _ _ rfl | exact hS'.1 _ _ rfl | assumption) (by decide) (by first | exact hS.2 _ _ _ rfl | exact hS'.2 _ _ _ rfl | assumption) ?_
            refine v_bipush 96 dX12_judge_135 (by decide) ?_
            refine v_ialdN 96 dX12_judge_137 (by first | exact hS.1 _ _ rfl | exact hS'.1 _ _ rfl | assumption) rfl (by decide) ?_
            refine v_istore dX12_judge_138 rfl (by decide) ?_
            refine v_aload_n dX12_judge_140 rfl ?_
            -- at 141: .invokevirtual 410
            refine v_scVv [] (c12_putsBack G M' hS') k12_putsBack dX12_judge_141 l12_410 (hS'.1 _ _ rfl) (by decide) rfl (Nat.le_of_ble_eq_true rfl) (Nat.le_of_ble_eq_true rfl) (fun M3 hM3 => ?_)
            have eK3 : gI M3 231 = gI M 231 := by
              rw [hM3.2, e241]
              funext i
              by_cases hi : 9 ≤ i ∧ i < 9 + 100
              · rw [cpK_in hi.1 hi.2, hM2.2 _ (by omega)]; exact congrArg _ (by omega)
              · rw [cpK_out (by omega), ho i (by omega), eK2]
            have hPd : Pd M 0 (gI M 231) M3 := ⟨(hM2'.tr hM.sd).tr hM3.1.d2, by rw [hM3.1.t4, hM.t4s, hM2.1.2.2.2.2 230 4 rfl]; exact gI_ss _ _ _ _, eK3⟩
            refine v_iload_n dX12_judge_144 rfl ?_
            -- at 145: .ifCond .ne 7
            unfold rJg
            rw [hjd2, hwy]
            refine v_if_ne 152 dX12_judge_145 (by decide) (fun h145 => ?_) (fun h145 => ?_)
            · rw [if_neg h145]
              refine v_iload_n dX12_judge_152 rfl ?_
              refine v_iconst 1 dX12_judge_153 (by decide) ?_
              -- at 154: .if_icmp .ne 8
              refine v_icmp_ne 162 dX12_judge_154 (by decide) (fun h154 => ?_) (fun h154 => ?_)
              · rw [if_neg h154]
                refine v_iload_n dX12_judge_162 rfl ?_
                refine v_iconst 2 dX12_judge_163 (by decide) ?_
                -- at 164: .if_icmp .ne 8
                refine v_icmp_ne 172 dX12_judge_164 (by decide) (fun h164 => ?_) (fun h164 => ?_)
                · rw [if_neg h164]
                  refine v_iload dX12_judge_172 rfl ?_
                  -- at 174: .ireturn
                  refine v_iret dX12_judge_174 rfl ⟨rfl, hPd⟩
                · rw [if_pos (Decidable.not_not.mp h164)]
                  refine v_iload dX12_judge_167 rfl ?_
                  refine v_goto 174 dX12_judge_169 (by decide) ?_
                  -- at 174: .ireturn
                  refine v_iret dX12_judge_174 rfl ⟨rfl, hPd⟩
              · rw [if_pos (Decidable.not_not.mp h154)]
                refine v_iload dX12_judge_157 rfl ?_
                refine v_goto 174 dX12_judge_159 (by decide) ?_
                -- at 174: .ireturn
                refine v_iret dX12_judge_174 rfl ⟨rfl, hPd⟩
            · rw [if_pos (Decidable.not_not.mp h145)]
              refine v_iload_n dX12_judge_148 rfl ?_
              refine v_goto 174 dX12_judge_149 (by decide) ?_
              -- at 174: .ireturn
              refine v_iret dX12_judge_174 rfl ⟨rfl, hPd⟩
          · exact absurd (by decide) h37
        · exact absurd (by decide) h25
      · rw [bI_f hw, show tJg M t w = 3 by rw [tJg, if_pos h0, if_neg hw], if_neg (by decide)]
        refine v_if_ne 33 dX12_judge_25 (by decide) (fun h25 => ?_) (fun h25 => ?_)
        · exact absurd rfl h25
        · refine v_aload_n dX12_judge_28 rfl ?_
          refine v_iconst 3 dX12_judge_29 (by decide) ?_
          refine v_putI 12 4 dX12_judge_30 f12_68 (by first | exact hS.1 _ _ rfl | exact hS'.1 _ _ rfl | assumption) (by decide) ?_
          refine v_aload_n dX12_judge_33 rfl ?_
          refine v_getI 12 4 dX12_judge_34 f12_68 (by first | exact hS.1 _ _ rfl | exact hS'.1 _ _ rfl | assumption) (by decide) ?_
          -- at 37: .ifCond .le 5
          rw [gI_ss]
          refine v_if_le 42 dX12_judge_37 (by decide) (fun h37 => ?_) (fun h37 => ?_)
          · exact absurd h37 (by decide)
          · refine v_iconst 0 dX12_judge_40 (by decide) ?_
            -- at 41: .ireturn
            refine v_iret dX12_judge_41 rfl ⟨rfl, Pd.q Pq.st2⟩
  · rw [show tJg M t w = tFt M t from if_neg h0, if_neg h0]
    refine v_if_ne 33 dX12_judge_13 (by decide) (fun h13 => ?_) (fun h13 => ?_)
    · refine v_aload_n dX12_judge_33 rfl ?_
      refine v_getI 12 4 dX12_judge_34 f12_68 (by first | exact hS.1 _ _ rfl | exact hS'.1 _ _ rfl | assumption) (by decide) ?_
      -- at 37: .ifCond .le 5
      rw [gI_ss]
      refine v_if_le 42 dX12_judge_37 (by decide) (fun h37 => ?_) (fun h37 => ?_)
      · exact absurd h37 (tFt_pos h0)
      · refine v_iconst 0 dX12_judge_40 (by decide) ?_
        -- at 41: .ireturn
        refine v_iret dX12_judge_41 rfl ⟨rfl, Pd.q Pq.st⟩
    · exact absurd h0 h13
/-- a draw's next number; what it shows -/
def drI (x : Int32) : Int32 := 1103515245 * x + 12345
def drN (x : Int32) : Nat := (ush x 16).toBitVec.toNat
theorem ush16 (x : Int32) : ush x 16 = nI (drN x) ∧ drN x < 65536 := by
  have h : (ush x 16).toBitVec.toNat = x.toBitVec.toNat / 2 ^ 16 := pk_ushr x 16 16 (by decide)
  have hx := x.toBitVec.isLt
  have hl : drN x < 65536 := by rw [drN, h]; omega
  refine ⟨?_, hl⟩
  apply i32_ext
  rw [nI_bv]
  apply BitVec.eq_of_toNat_eq
  rw [BitVec.toNat_ofNat, Nat.mod_eq_of_lt (by omega)]
  rfl
def W230s (q k : Nat) : Bool := Nat.beq q 230 && Nat.beq k 24
theorem c12_draw (hS : Sh M) {m : Nat} (hm : 0 < m) (hm2 : m < 65536) : Ct G Y12_draw 0 0 0 [.ref 230, .int (nI m)] M (Rv (some (.int (nI (drN (drI (gI M 230 24)) % m)))) (sI M 230 24 (drI (gI M 230 24)))) NX := by
  refine Ct.of k12_draw.1 (Nat.le_of_ble_eq_true rfl) ?_
  refine v_aload_n dX12_draw_0 rfl ?_
  refine v_ldcw 1103515245 dX12_draw_1 K12_413 ?_
  refine v_aload_n dX12_draw_4 rfl ?_
  refine v_getI 12 24 dX12_draw_5 f12_414 (by first | exact hS.1 _ _ rfl | exact hS'.1 _ _ rfl | assumption) (by decide) ?_
  refine v_imul dX12_draw_8 ?_
  refine v_sipush 12345 dX12_draw_9 (by decide) ?_
  refine v_iadd dX12_draw_12 ?_
  refine v_putI 12 24 dX12_draw_13 f12_414 (by first | exact hS.1 _ _ rfl | exact hS'.1 _ _ rfl | assumption) (by decide) ?_
  refine v_aload_n dX12_draw_16 rfl ?_
  refine v_getI 12 24 dX12_draw_17 f12_414 (by first | exact hS.1 _ _ rfl | exact hS'.1 _ _ rfl | assumption) (by decide) ?_
  refine v_bipush 16 dX12_draw_20 (by decide) ?_
  refine v_iushr dX12_draw_22 ?_
  refine v_iload_n dX12_draw_23 rfl ?_
  -- at 24: .irem
  rw [gI_ss]
  obtain ⟨u1, u2⟩ := ush16 (drI (gI M 230 24))
  refine v_irem dX12_draw_24 (fun z => by have := (nI0 (by omega)).mp z; omega) ?_
  rw [show ((1103515245 * gI M 230 24 + 12345).toUInt32 >>> ((16 : Int32).toUInt32 &&& Int32.toUInt32 31)).toInt32 = nI (drN (drI (gI M 230 24))) from u1, pk_rem (by omega) hm (by omega)]
  refine v_iret dX12_draw_25 rfl ⟨rfl, rfl⟩
end RL9
