/-! ===== the reference: write, copy, images, counts ===== -/
theorem gJ_ss (M : mM) (q k : Nat) (v : Int64) : gJ (sJ M q k v) q k = v := up2_s _ _ _ _
def wrT (M : mM) (t p : Int32) : Int32 := if tFt M t = 0 then (if inR (kn (gI M 245) t.toNatClampNeg) p = true then 0 else 3) else tFt M t
def wrJ (M : mM) (t p : Int32) (v : Int64) : Nat → Int64 := if wrT M t p = 0 then (fun j => if j = 30 * t.toNatClampNeg + p.toNatClampNeg then ctV (kn (gI M 244) t.toNatClampNeg) v else gJ M 246 j) else gJ M 246
theorem tFt_0 {M : mM} (hT : TW M) {t : Int32} (h : tFt M t = 0) : ∃ j s, j < 4 ∧ t = nI j ∧ s < 4 ∧ gI M 244 j = nI s ∧ kn (gI M 244) j = s ∧ gI M 245 j = nI (kn (gI M 245) j) ∧ kn (gI M 245) j ≤ 30 := by
  unfold tFt at h
  split at h
  · rename_i h1
    obtain ⟨j, hj, rfl, hj2⟩ := inR_of h1
    rw [nI_clamp hj2] at h
    obtain ⟨a1, a2, a3⟩ := hT j hj
    rcases a1 with a1 | ⟨s, hs, a1⟩
    · rw [if_pos a1] at h; exact absurd h (by decide)
    · exact ⟨j, s, hj, rfl, hs, a1, by rw [kn, a1, nI_clamp (by omega)], a2, a3⟩
  · exact absurd h (by decide)
/-- the chests IN, come into a tray -/
def cpyF (I many t : Nat) (J : Nat → Int64) : Nat → Nat × (Nat → Int64)
  | 0 => (0, J)
  | c + 1 => if (cpyF I many t J c).1 < many ∧ I.testBit c = true then ((cpyF I many t J c).1 + 1, fun j => if j = 30 * t + (cpyF I many t J c).1 then lN c else (cpyF I many t J c).2 j) else cpyF I many t J c
theorem cpyF_le (I many t : Nat) (J : Nat → Int64) : ∀ c, (cpyF I many t J c).1 ≤ many := by
  intro c
  induction c with
  | zero => exact Nat.zero_le _
  | succ c ih =>
    rw [cpyF]
    split
    · rename_i h; exact h.1
    · exact ih
theorem cpyF_stop {I many t : Nat} {J : Nat → Int64} {c : Nat} (h : many ≤ (cpyF I many t J c).1) : ∀ j, cpyF I many t J (c + j) = cpyF I many t J c := by
  intro j
  induction j with
  | zero => rfl
  | succ j ih =>
    rw [← Nat.add_assoc, cpyF, ih, if_neg (by omega)]
theorem ctV_small {s c : Nat} (hs : s < 4) (hc : c < 14) : ctV s (lN c) = lN c := by
  have : ∀ s, s < 4 → ∀ c, c < 14 → ctV s (lN c) = lN c := by decide +kernel
  exact this s hs c hc
def Wi (q k : Nat) : Bool := (Nat.beq q 230 && Nat.beq k 4) || Nat.beq q 231 || Nat.beq q 233 || Nat.beq q 234
section RU
variable (G : mG) (M : mM)
theorem c12_cut (hS : Sh M) {t s p : Nat} (ht : t < 4) (hs : s < 4) (hsv : gI M 244 t = nI s) (hp : p < 30) (v : Int64) : Ct G Y12_cut 0 0 0 [.ref 230, .int (nI t), .int (nI p), .long v] M (Rv (some (.long (ctV s v))) (sJ M 246 (30 * t + p) (ctV s v))) NX := by
  refine Ct.of k12_cut.1 (Nat.le_of_ble_eq_true rfl) ?_
  refine v_bipush 64 dX12_cut_0 (by decide) ?_
  refine v_bipush 8 dX12_cut_2 (by decide) ?_
  refine v_aload_n dX12_cut_4 rfl ?_
  refine v_getR 12 27 _ dX12_cut_5 f12_54 (by first | exact hS.1 _ _ rfl | exact hS'.1 _ _ rfl | assumption) (by decide) (by first | exact hS.2 _ _ _ rfl | exact hS'.2 _ _ _ rfl | assumption) ?_
  refine v_iload_n dX12_cut_8 rfl ?_
  refine v_ialdN (t) dX12_cut_9 (by first | exact hS.1 _ _ rfl | exact hS'.1 _ _ rfl | assumption) (by simp only [n_lit, pk_mul, nI_add]) ⟨by omega, by omega⟩ ?_
  rw [hsv]
  refine v_ishl dX12_cut_10 ?_
  refine v_isub dX12_cut_11 ?_
  rw [lsS_ok hs]
  refine v_istore dX12_cut_12 rfl (by decide) ?_
  refine v_aload_n dX12_cut_14 rfl ?_
  refine v_getR 12 29 _ dX12_cut_15 f12_60 (by first | exact hS.1 _ _ rfl | exact hS'.1 _ _ rfl | assumption) (by decide) (by first | exact hS.2 _ _ _ rfl | exact hS'.2 _ _ _ rfl | assumption) ?_
  refine v_bipush 30 dX12_cut_18 (by decide) ?_
  refine v_iload_n dX12_cut_20 rfl ?_
  refine v_imul dX12_cut_21 ?_
  refine v_iload_n dX12_cut_22 rfl ?_
  refine v_iadd dX12_cut_23 ?_
  refine v_lload_n dX12_cut_24 rfl ?_
  refine v_iload dX12_cut_25 rfl ?_
  refine v_lshl dX12_cut_27 ?_
  refine v_iload dX12_cut_28 rfl ?_
  refine v_lshr dX12_cut_30 ?_
  refine v_lastN (30 * t + p) dX12_cut_31 (by first | exact hS.1 _ _ rfl | exact hS'.1 _ _ rfl | assumption) (by simp only [n_lit, pk_mul, nI_add]) ⟨by omega, by omega⟩ ?_
  refine v_aload_n dX12_cut_32 rfl ?_
  refine v_getR 12 29 _ dX12_cut_33 f12_60 (by first | exact hS.1 _ _ rfl | exact hS'.1 _ _ rfl | assumption) (by decide) (by first | exact hS.2 _ _ _ rfl | exact hS'.2 _ _ _ rfl | assumption) ?_
  refine v_bipush 30 dX12_cut_36 (by decide) ?_
  refine v_iload_n dX12_cut_38 rfl ?_
  refine v_imul dX12_cut_39 ?_
  refine v_iload_n dX12_cut_40 rfl ?_
  refine v_iadd dX12_cut_41 ?_
  refine v_laldN (30 * t + p) dX12_cut_42 (by first | exact hS.1 _ _ rfl | exact hS'.1 _ _ rfl | assumption) (by simp only [n_lit, pk_mul, nI_add]) ⟨by omega, by omega⟩ ?_
  rw [gJ_ss]
  refine v_lret dX12_cut_43 rfl ?_
  exact ⟨rfl, rfl⟩
theorem c12_write (hS : Sh M) (hT : TW M) (t p : Int32) (v : Int64) : Ct G Y12_write 3 0 0 [.ref 230, .int t, .int p, .long v] M (Rs (some (.long (if wrT M t p = 0 then ctV (kn (gI M 244) t.toNatClampNeg) v else 0))) (Pt M (wrT M t p) (gI M 244) (gI M 245) (wrJ M t p v))) NX := by
  refine Ct.of k12_write.1 (Nat.le_of_ble_eq_true rfl) ?_
  have hT1 : ∀ t, tFt (sI M 230 4 t) = tFt M := fun _ => rfl
  refine v_aload_n dX12_write_0 rfl ?_
  refine v_aload_n dX12_write_1 rfl ?_
  refine v_iload_n dX12_write_2 rfl ?_
  -- at 3: .invokevirtual 398
  refine v_cV [_] (c12_trayFault G M hS t) k12_trayFault dX12_write_3 l12_398 (by first | exact hS.1 _ _ rfl | exact hS'.1 _ _ rfl | assumption) (by decide) rfl (Nat.le_of_ble_eq_true rfl) (Nat.le_of_ble_eq_true rfl) ?_
  by_cases h0 : tFt M t = 0
  · obtain ⟨j, s, hj, rfl, hs, hsv, hsk, hm, hm30⟩ := tFt_0 hT h0
    rw [h0]
    rw [nI_clamp (by omega)]
    have hcon := c12_within G (sI M 230 4 0) p.toInt64 0 ((gI M 245 j - 1).toInt64)
    rw [bI_cong (show (0 ≤ p.toInt64 ∧ p.toInt64 ≤ (gI M 245 j - 1).toInt64) ↔ inR (kn (gI M 245) j) p = true by rw [hm]; rw [← hm]; have := within_in (n := kn (gI M 245) j) (by omega) p; rw [← hm] at this; exact this)] at hcon
    by_cases hp : inR (kn (gI M 245) j) p = true
    · rw [bI_t hp] at hcon
      have hw : wrT M (nI j) p = 0 := by rw [wrT, if_pos h0, nI_clamp (by omega), if_pos hp]
      obtain ⟨k, hk, rfl, hk2⟩ := inR_of hp
      rw [hw, if_pos rfl, hsk]
      refine v_putI 12 4 dX12_write_6 f12_68 (by first | exact hS.1 _ _ rfl | exact hS'.1 _ _ rfl | assumption) (by decide) ?_
      refine v_aload_n dX12_write_9 rfl ?_
      refine v_getI 12 4 dX12_write_10 f12_68 (by first | exact hS.1 _ _ rfl | exact hS'.1 _ _ rfl | assumption) (by decide) ?_
      rw [gI_ss]
      refine v_if_le 18 dX12_write_13 (by decide) (fun h13 => ?_) (fun h13 => absurd (by decide) h13)
      refine v_iload_n dX12_write_18 rfl ?_
      refine v_i2l dX12_write_19 ?_
      refine v_lconst 0 dX12_write_20 (by decide) ?_
      refine v_aload_n dX12_write_21 rfl ?_
      refine v_getR 12 28 _ dX12_write_22 f12_57 (by first | exact hS.1 _ _ rfl | exact hS'.1 _ _ rfl | assumption) (by decide) (by first | exact hS.2 _ _ _ rfl | exact hS'.2 _ _ _ rfl | assumption) ?_
      refine v_iload_n dX12_write_25 rfl ?_
      refine v_ialdN (j) dX12_write_26 (by first | exact hS.1 _ _ rfl | exact hS'.1 _ _ rfl | assumption) (by simp only [n_lit, pk_mul, nI_add]) ⟨by omega, by omega⟩ ?_
      refine v_iconst 1 dX12_write_27 (by decide) ?_
      refine v_isub dX12_write_28 ?_
      refine v_i2l dX12_write_29 ?_
      refine v_cS [_, _, _] (hcon) k12_within dX12_write_30 l12_132 rfl (Nat.le_of_ble_eq_true rfl) (Nat.le_of_ble_eq_true rfl) ?_
      refine v_if_eq 46 dX12_write_33 (by decide) (fun h33 => absurd h33 (by decide)) (fun h33 => ?_)
      refine v_aload_n dX12_write_36 rfl ?_
      refine v_iload_n dX12_write_37 rfl ?_
      refine v_iload_n dX12_write_38 rfl ?_
      refine v_lload_n dX12_write_39 rfl ?_
      refine v_cV [_, _, _] (c12_cut G (sI M 230 4 0) hS hj hs hsv (p := k) (by omega) v) k12_cut dX12_write_40 l12_450 (by first | exact hS.1 _ _ rfl | exact hS'.1 _ _ rfl | assumption) (by decide) rfl (Nat.le_of_ble_eq_true rfl) (Nat.le_of_ble_eq_true rfl) ?_
      refine v_goto 52 dX12_write_43 (by decide) ?_
      refine v_lret dX12_write_52 rfl ?_
      exact ⟨rfl, (Sj.rf.st _ rfl).stj _ rfl, (by rw [gI_sJ]; exact gI_ss _ _ _ _), (by rw [gI_sJ]; exact gI_sr _ _ (by decide)), (by rw [gI_sJ]; exact gI_sr _ _ (by decide)), by rw [gJ_uK, wrJ, if_pos hw, nI_clamp (by omega), nI_clamp (by omega), hsk]; rfl⟩
    · rw [bI_f hp] at hcon
      have hw : wrT M (nI j) p = 3 := by rw [wrT, if_pos h0, nI_clamp (by omega), if_neg hp]
      rw [hw, if_neg (by decide)]
      refine v_putI 12 4 dX12_write_6 f12_68 (by first | exact hS.1 _ _ rfl | exact hS'.1 _ _ rfl | assumption) (by decide) ?_
      refine v_aload_n dX12_write_9 rfl ?_
      refine v_getI 12 4 dX12_write_10 f12_68 (by first | exact hS.1 _ _ rfl | exact hS'.1 _ _ rfl | assumption) (by decide) ?_
      rw [gI_ss]
      refine v_if_le 18 dX12_write_13 (by decide) (fun h13 => ?_) (fun h13 => absurd (by decide) h13)
      refine v_iload_n dX12_write_18 rfl ?_
      refine v_i2l dX12_write_19 ?_
      refine v_lconst 0 dX12_write_20 (by decide) ?_
      refine v_aload_n dX12_write_21 rfl ?_
      refine v_getR 12 28 _ dX12_write_22 f12_57 (by first | exact hS.1 _ _ rfl | exact hS'.1 _ _ rfl | assumption) (by decide) (by first | exact hS.2 _ _ _ rfl | exact hS'.2 _ _ _ rfl | assumption) ?_
      refine v_iload_n dX12_write_25 rfl ?_
      refine v_ialdN (j) dX12_write_26 (by first | exact hS.1 _ _ rfl | exact hS'.1 _ _ rfl | assumption) (by simp only [n_lit, pk_mul, nI_add]) ⟨by omega, by omega⟩ ?_
      refine v_iconst 1 dX12_write_27 (by decide) ?_
      refine v_isub dX12_write_28 ?_
      refine v_i2l dX12_write_29 ?_
      refine v_cS [_, _, _] (hcon) k12_within dX12_write_30 l12_132 rfl (Nat.le_of_ble_eq_true rfl) (Nat.le_of_ble_eq_true rfl) ?_
      refine v_if_eq 46 dX12_write_33 (by decide) (fun h33 => ?_) (fun h33 => absurd rfl h33)
      refine v_aload_n dX12_write_46 rfl ?_
      refine v_iconst 3 dX12_write_47 (by decide) ?_
      refine v_cV [_] (c12_fails G (sI M 230 4 0) hS _) k12_fails dX12_write_48 l12_224 (by first | exact hS.1 _ _ rfl | exact hS'.1 _ _ rfl | assumption) (by decide) rfl (Nat.le_of_ble_eq_true rfl) (Nat.le_of_ble_eq_true rfl) ?_
      refine v_i2l dX12_write_51 ?_
      refine v_lret dX12_write_52 rfl ?_
      exact ⟨rfl, (Sj.rf.st _ rfl).st _ rfl, gI_ss _ _ _ _, (gI_sr _ _ (by decide)).trans (gI_sr _ _ (by decide)), (gI_sr _ _ (by decide)).trans (gI_sr _ _ (by decide)), by rw [wrJ, hw, if_neg (by decide)]; rfl⟩
  · have hw : wrT M t p = tFt M t := by rw [wrT, if_neg h0]
    rw [hw, if_neg h0]
    refine v_putI 12 4 dX12_write_6 f12_68 (by first | exact hS.1 _ _ rfl | exact hS'.1 _ _ rfl | assumption) (by decide) ?_
    refine v_aload_n dX12_write_9 rfl ?_
    refine v_getI 12 4 dX12_write_10 f12_68 (by first | exact hS.1 _ _ rfl | exact hS'.1 _ _ rfl | assumption) (by decide) ?_
    rw [gI_ss]
    refine v_if_le 18 dX12_write_13 (by decide) (fun h13 => absurd h13 (tFt_pos h0)) (fun h13 => ?_)
    refine v_lconst 0 dX12_write_16 (by decide) ?_
    refine v_lret dX12_write_17 rfl ?_
    exact ⟨rfl, (Sj.rf.st _ rfl), gI_ss _ _ _ _, gI_sr _ _ (by decide), gI_sr _ _ (by decide), by rw [wrJ, hw, if_neg h0]; rfl⟩
theorem cpyF_t {I many t : Nat} {J : Nat → Int64} {c : Nat} (h : (cpyF I many t J c).1 < many) (h2 : I.testBit c = true) : cpyF I many t J (c + 1) = ((cpyF I many t J c).1 + 1, fun j => if j = 30 * t + (cpyF I many t J c).1 then lN c else (cpyF I many t J c).2 j) := if_pos ⟨h, h2⟩
theorem cpyF_f {I many t : Nat} {J : Nat → Int64} {c : Nat} (h2 : ¬ I.testBit c = true) : cpyF I many t J (c + 1) = cpyF I many t J c := if_neg (fun z => h2 z.2)
theorem l12_copy (hS : Sh M) (hP : WP (gI M 231)) (hI : inOK (gI M 231)) {t s m : Nat} (ht : t < 4) (hs : s < 4) (hsv : gI M 244 t = nI s) (hm : gI M 245 t = nI m) (hm30 : m ≤ 30) : ∀ i c M', c + i = kn (gI M 231) 2 → Sj (fun _ _ => false) Jt M M' → gJ M' 246 = (cpyF (kn (gI M 231) 93) m t (gJ M 246) c).2 →
    V G Y12_copy 3 0 0 (Rs (some (.int (nI (cpyF (kn (gI M 231) 93) m t (gJ M 246) (kn (gI M 231) 2)).1))) (fun M' => Sj (fun _ _ => false) Jt M M' ∧ gJ M' 246 = (cpyF (kn (gI M 231) 93) m t (gJ M 246) (kn (gI M 231) 2)).2)) NX 22 [some (.ref 230), some (.int (nI t)), some (.int (nI (cpyF (kn (gI M 231) 93) m t (gJ M 246) c).1)), some (.int (nI c))] [] M' := by
  have h14 := hP.2.1.2
  intro i
  induction i with
  | zero =>
    intro c M' hc hM hJ
    have hS' := hS.sj hM
    have eK : gI M' 231 = gI M 231 := by funext k; exact hM.2.2.2.1 231 k rfl
    obtain rfl : c = kn (gI M 231) 2 := by omega
    have hcon := c12_chestsN G M' hS' (by rw [eK]; exact hP)
    rw [eK] at hcon
    refine v_iload_n dX12_copy_22 rfl ?_
    refine v_aload_n dX12_copy_23 rfl ?_
    refine v_cV [] (hcon) k12_chests dX12_copy_24 l12_245 (by first | exact hS.1 _ _ rfl | exact hS'.1 _ _ rfl | assumption) (by decide) rfl (Nat.le_of_ble_eq_true rfl) (Nat.le_of_ble_eq_true rfl) ?_
    refine v_icmp_ge 69 dX12_copy_27 (by decide) (fun h27 => ?_) (fun h27 => absurd (nI_le (Nat.le_refl _) (by omega)) h27)
    refine v_iload_n dX12_copy_69 rfl ?_
    refine v_iret dX12_copy_70 rfl ?_
    exact ⟨rfl, hM, hJ⟩
  | succ i ih =>
    intro c M' hc hM hJ
    have hS' := hS.sj hM
    have eK : gI M' 231 = gI M 231 := by funext k; exact hM.2.2.2.1 231 k rfl
    have eM : gI M' 245 t = nI m := (hM.2.2.2.1 245 t rfl).trans hm
    have eS : gI M' 244 t = nI s := (hM.2.2.2.1 244 t rfl).trans hsv
    have hcon := c12_chestsN G M' hS' (by rw [eK]; exact hP)
    have hcon2 := c12_isInN G M' hS' (by rw [eK]; exact hP) (by rw [eK]; exact hI) (c := c) (by omega)
    rw [eK] at hcon hcon2
    have hle := cpyF_le (kn (gI M 231) 93) m t (gJ M 246) c
    refine v_iload_n dX12_copy_22 rfl ?_
    refine v_aload_n dX12_copy_23 rfl ?_
    refine v_cV [] (hcon) k12_chests dX12_copy_24 l12_245 (hS'.1 _ _ rfl) (by decide) rfl (Nat.le_of_ble_eq_true rfl) (Nat.le_of_ble_eq_true rfl) ?_
    refine v_icmp_ge 69 dX12_copy_27 (by decide) (fun h27 => absurd ((nI_leI (by omega) (by omega)).mp h27) (by omega)) (fun h27 => ?_)
    refine v_iload_n dX12_copy_30 rfl ?_
    refine v_aload_n dX12_copy_31 rfl ?_
    refine v_getR 12 28 _ dX12_copy_32 f12_57 (hS'.1 _ _ rfl) (by decide) (hS'.2 _ _ _ rfl) ?_
    refine v_iload_n dX12_copy_35 rfl ?_
    refine v_ialdN (t) dX12_copy_36 (hS'.1 _ _ rfl) (by simp only [n_lit, pk_mul, nI_add]) ⟨by omega, by omega⟩ ?_
    rw [eM]
    refine v_icmp_ge 69 dX12_copy_37 (by decide) (fun h37 => ?_) (fun h37 => ?_)
    · refine v_iload_n dX12_copy_69 rfl ?_
      refine v_iret dX12_copy_70 rfl ?_
      (have hl : m ≤ (cpyF (kn (gI M 231) 93) m t (gJ M 246) c).1 := (nI_leI (by omega) (by omega)).mp h37; have hst := cpyF_stop hl (i + 1); rw [hc] at hst; rw [hst]; exact ⟨rfl, hM, hJ⟩)
    · refine v_aload_n dX12_copy_40 rfl ?_
      refine v_iload_n dX12_copy_41 rfl ?_
      refine v_cV [_] (hcon2) k12_isIn dX12_copy_42 l12_250 (hS'.1 _ _ rfl) (by decide) rfl (Nat.le_of_ble_eq_true rfl) (Nat.le_of_ble_eq_true rfl) ?_
      refine v_if_ne 51 dX12_copy_45 (by decide) (fun h45 => ?_) (fun h45 => ?_)
      · refine v_aload_n dX12_copy_51 rfl ?_
        refine v_iload_n dX12_copy_52 rfl ?_
        refine v_iload_n dX12_copy_53 rfl ?_
        refine v_iload_n dX12_copy_54 rfl ?_
        refine v_i2l dX12_copy_55 ?_
        refine v_cV [_, _, _] (c12_cut G M' hS' ht hs eS (p := (cpyF (kn (gI M 231) 93) m t (gJ M 246) c).1) (by simp (disch := omega) only [nI_leI] at h37; omega) _) k12_cut dX12_copy_56 l12_450 (hS'.1 _ _ rfl) (by decide) rfl (Nat.le_of_ble_eq_true rfl) (Nat.le_of_ble_eq_true rfl) ?_
        refine v_pop2 dX12_copy_59 rfl ?_
        refine v_iinc 1 dX12_copy_60 rfl (by decide) rfl (by decide) ?_
        refine v_iinc 1 dX12_copy_63 rfl (by decide) rfl (by decide) ?_
        refine v_goto 22 dX12_copy_66 (by decide) ?_
        (simp (disch := omega) only [nI_leI, bI_z, Decidable.not_not] at h27 h37 h45; first | (rw [nI_1, nI_1]; have e := cpyF_t (I := kn (gI M 231) 93) (many := m) (t := t) (J := gJ M 246) (c := c) (by omega) h45; have hn := ih (c + 1) (sJ M' 246 (30 * t + (cpyF (kn (gI M 231) 93) m t (gJ M 246) c).1) (ctV s (nI c).toInt64)) (by omega) (hM.stj _ rfl) (by rw [gJ_uK, hJ, e, nI_l (by omega), ctV_small hs (by omega)]); rw [e] at hn; exact hn) | (rw [nI_1]; have e := cpyF_f (I := kn (gI M 231) 93) (many := m) (t := t) (J := gJ M 246) (c := c) h45; have hn := ih (c + 1) M' (by omega) hM (by rw [e]; exact hJ); rw [e] at hn; exact hn))
      · refine v_goto 63 dX12_copy_48 (by decide) ?_
        refine v_iinc 1 dX12_copy_63 rfl (by decide) rfl (by decide) ?_
        refine v_goto 22 dX12_copy_66 (by decide) ?_
        (simp (disch := omega) only [nI_leI, bI_z, Decidable.not_not] at h27 h37 h45; first | (rw [nI_1, nI_1]; have e := cpyF_t (I := kn (gI M 231) 93) (many := m) (t := t) (J := gJ M 246) (c := c) (by omega) h45; have hn := ih (c + 1) (sJ M' 246 (30 * t + (cpyF (kn (gI M 231) 93) m t (gJ M 246) c).1) (ctV s (nI c).toInt64)) (by omega) (hM.stj _ rfl) (by rw [gJ_uK, hJ, e, nI_l (by omega), ctV_small hs (by omega)]); rw [e] at hn; exact hn) | (rw [nI_1]; have e := cpyF_f (I := kn (gI M 231) 93) (many := m) (t := t) (J := gJ M 246) (c := c) h45; have hn := ih (c + 1) M' (by omega) hM (by rw [e]; exact hJ); rw [e] at hn; exact hn))
def cpJ (M : mM) (t : Int32) : Nat × (Nat → Int64) := if tFt M t = 0 then cpyF (kn (gI M 231) 93) (kn (gI M 245) t.toNatClampNeg) t.toNatClampNeg (gJ M 246) (kn (gI M 231) 2) else (0, gJ M 246)
theorem c12_copy (hS : Sh M) (hQ : WQ (gI M 231)) (hT : TW M) (t : Int32) : Ct G Y12_copy 3 0 0 [.ref 230, .int t] M (Rs (some (.int (nI (cpJ M t).1))) (Pt M (tFt M t) (gI M 244) (gI M 245) (cpJ M t).2)) NX := by
  obtain ⟨hP, hI, hU⟩ := hQ
  refine Ct.of k12_copy.1 (Nat.le_of_ble_eq_true rfl) ?_
  refine v_aload_n dX12_copy_0 rfl ?_
  refine v_aload_n dX12_copy_1 rfl ?_
  refine v_iload_n dX12_copy_2 rfl ?_
  -- at 3: .invokevirtual 398
  refine v_cV [_] (c12_trayFault G M hS t) k12_trayFault dX12_copy_3 l12_398 (by first | exact hS.1 _ _ rfl | exact hS'.1 _ _ rfl | assumption) (by decide) rfl (Nat.le_of_ble_eq_true rfl) (Nat.le_of_ble_eq_true rfl) ?_
  by_cases h0 : tFt M t = 0
  · obtain ⟨j, s, hj, rfl, hs, hsv, hsk, hm, hm30⟩ := tFt_0 hT h0
    have e1 : gI (sI M 230 4 0) 231 = gI M 231 := gI_sr _ _ (by decide)
    have e4 : gI (sI M 230 4 0) 244 = gI M 244 := gI_sr _ _ (by decide)
    have e5 : gI (sI M 230 4 0) 245 = gI M 245 := gI_sr _ _ (by decide)
    have hl := l12_copy G (sI M 230 4 0) hS (by rw [e1]; exact hP) (by rw [e1]; exact hI) hj hs (by rw [e4]; exact hsv) (m := kn (gI M 245) j) (by rw [e5]; exact hm) hm30 (kn (gI M 231) 2) 0 (sI M 230 4 0) (by rw [e1]; omega) Sj.rf rfl
    rw [e1] at hl
    rw [h0, cpJ, if_pos h0, nI_clamp (by omega)]
    refine v_putI 12 4 dX12_copy_6 f12_68 (by first | exact hS.1 _ _ rfl | exact hS'.1 _ _ rfl | assumption) (by decide) ?_
    refine v_aload_n dX12_copy_9 rfl ?_
    refine v_getI 12 4 dX12_copy_10 f12_68 (by first | exact hS.1 _ _ rfl | exact hS'.1 _ _ rfl | assumption) (by decide) ?_
    rw [gI_ss]
    refine v_if_le 18 dX12_copy_13 (by decide) (fun h13 => ?_) (fun h13 => absurd (by decide) h13)
    refine v_iconst 0 dX12_copy_18 (by decide) ?_
    refine v_istore_n dX12_copy_19 rfl (by decide) ?_
    refine v_iconst 0 dX12_copy_20 (by decide) ?_
    refine v_istore_n dX12_copy_21 rfl (by decide) ?_
    skip
    have hs0 : Sj Wt Jt M (sI M 230 4 0) := Sj.rf.st (q := 230) (k := 4) 0 rfl
    refine V.post hl (fun v M3 h => ⟨h.1, hs0.tr (h.2.1.wk (fun _ _ _ => rfl) (fun _ _ z => z)), ?_, ?_, ?_, h.2.2⟩) (fun _ _ h => h)
    · rw [h.2.1.2.2.2.1 230 4 rfl, gI_ss]
    · funext k; rw [h.2.1.2.2.2.1 244 k rfl, gI_sr _ _ (by decide)]
    · funext k; rw [h.2.1.2.2.2.1 245 k rfl, gI_sr _ _ (by decide)]
  · rw [cpJ, if_neg h0]
    refine v_putI 12 4 dX12_copy_6 f12_68 (by first | exact hS.1 _ _ rfl | exact hS'.1 _ _ rfl | assumption) (by decide) ?_
    refine v_aload_n dX12_copy_9 rfl ?_
    refine v_getI 12 4 dX12_copy_10 f12_68 (by first | exact hS.1 _ _ rfl | exact hS'.1 _ _ rfl | assumption) (by decide) ?_
    rw [gI_ss]
    refine v_if_le 18 dX12_copy_13 (by decide) (fun h13 => absurd h13 (tFt_pos h0)) (fun h13 => ?_)
    refine v_iconst 0 dX12_copy_16 (by decide) ?_
    refine v_iret dX12_copy_17 rfl ?_
    exact ⟨rfl, (Sj.rf.st _ rfl), gI_ss _ _ _ _, gI_sr _ _ (by decide), gI_sr _ _ (by decide), rfl⟩
theorem c12_isImg (i : Int32) : Ct G Y12_within 0 0 0 [.long i.toInt64, .long 0, .long 2] M (Rv (some (.int (bI (inR 3 i = true)))) M) NX := by
  have h := c12_within G M i.toInt64 0 2
  rw [bI_cong (within2 i)] at h
  exact h
theorem l12_image (hS : Sh M) {p : Nat} (hp : p < 3) : ∀ i k M', k + i = 2120 → Sm Wi M M' → gI M' 230 4 = gI M 230 4 → gI M' 231 = gI M 231 → gI M' 234 = gI M 234 → gI M' 233 = cpK (gI M 233) (2120 * p) (gI M 231) k →
    V G Y12_image 1 0 0 (Rs none (fun M' => Sm Wi M M' ∧ gI M' 230 4 = gI M 230 4 ∧ gI M' 231 = gI M 231 ∧ gI M' 234 = gI M 234 ∧ gI M' 233 = cpK (gI M 233) (2120 * p) (gI M 231) 2120)) NX 38 [some (.ref 230), some (.int (nI p)), some (.int (nI k))] [] M' := by
  intro i
  induction i with
  | zero =>
    intro k M' hk hM h1 h2 h3 h4
    obtain rfl : k = 2120 := by omega
    refine v_iload_n dX12_image_38 rfl ?_
    refine v_sipush 2120 dX12_image_39 (by decide) ?_
    refine v_icmp_ge 69 dX12_image_42 (by decide) (fun h42 => ?_) (fun h42 => absurd (by decide) h42)
    refine v_vret dX12_image_69 rfl ?_
    exact ⟨rfl, hM, h1, h2, h3, h4⟩
  | succ i ih =>
    intro k M' hk hM h1 h2 h3 h4
    have hS' := hS.sm hM
    refine v_iload_n dX12_image_38 rfl ?_
    refine v_sipush 2120 dX12_image_39 (by decide) ?_
    refine v_icmp_ge 69 dX12_image_42 (by decide) (fun h42 => absurd ((nI_leI (a := 2120) (by decide) (by omega)).mp h42) (by omega)) (fun h42 => ?_)
    refine v_aload_n dX12_image_45 rfl ?_
    refine v_getR 12 2 _ dX12_image_46 f12_16 (hS'.1 _ _ rfl) (by decide) (hS'.2 _ _ _ rfl) ?_
    refine v_sipush 2120 dX12_image_49 (by decide) ?_
    refine v_iload_n dX12_image_52 rfl ?_
    refine v_imul dX12_image_53 ?_
    refine v_iload_n dX12_image_54 rfl ?_
    refine v_iadd dX12_image_55 ?_
    refine v_aload_n dX12_image_56 rfl ?_
    refine v_getR 12 0 _ dX12_image_57 f12_9 (hS'.1 _ _ rfl) (by decide) (hS'.2 _ _ _ rfl) ?_
    refine v_iload_n dX12_image_60 rfl ?_
    refine v_ialdN (k) dX12_image_61 (hS'.1 _ _ rfl) (by simp only [n_lit, pk_mul, nI_add]) ⟨by omega, by omega⟩ ?_
    rw [show gI M' 231 k = gI M 231 k from congrFun h2 k]
    refine v_iastN (2120 * p + k) dX12_image_62 (hS'.1 _ _ rfl) (by simp only [n_lit, pk_mul, nI_add]) ⟨by omega, by omega⟩ ?_
    refine v_iinc 1 dX12_image_63 rfl (by decide) rfl (by decide) ?_
    refine v_goto 38 dX12_image_66 (by decide) ?_
    skip
    rw [nI_1]
    refine ih (k + 1) _ (by omega) (hM.st _ rfl) ((gI_sq _ _ (by decide)).trans h1) ((gI_sr _ _ (by decide)).trans h2) ((gI_sr _ _ (by decide)).trans h3) ?_
    rw [gI_uK, h4, uK_cpK]
def imT (i : Int32) : Int32 := if inR 3 i = true then 0 else 1
def Pi (M : mM) (t : Int32) (K A B : Nat → Int32) (M' : mM) : Prop := Sm Wi M M' ∧ gI M' 230 4 = t ∧ gI M' 231 = K ∧ gI M' 233 = A ∧ gI M' 234 = B
theorem c12_image (hS : Sh M) (x : Int32) : Ct G Y12_image 1 0 0 [.ref 230, .int x] M (Rs none (if inR 3 x = true then Pi M 0 (gI M 231) (cpK (gI M 233) (2120 * x.toNatClampNeg) (gI M 231) 2120) (uK (gI M 234) x.toNatClampNeg 1) else Pi M 1 (gI M 231) (gI M 233) (gI M 234))) NX := by
  have hcon := c12_isImg G M x
  refine Ct.of k12_image.1 (Nat.le_of_ble_eq_true rfl) ?_
  by_cases h : inR 3 x = true
  · rw [bI_t h] at hcon
    rw [if_pos h]
    obtain ⟨j, hj, rfl, hj2⟩ := inR_of h
    rw [nI_clamp hj2]
    refine v_aload_n dX12_image_0 rfl ?_
    refine v_iload_n dX12_image_1 rfl ?_
    refine v_i2l dX12_image_2 ?_
    refine v_lconst 0 dX12_image_3 (by decide) ?_
    refine v_ldc2 2 dX12_image_4 K12_304 ?_
    refine v_cS [_, _, _] (hcon) k12_within dX12_image_7 l12_132 rfl (Nat.le_of_ble_eq_true rfl) (Nat.le_of_ble_eq_true rfl) ?_
    refine v_if_eq 17 dX12_image_10 (by decide) (fun h10 => absurd h10 (by decide)) (fun h10 => ?_)
    refine v_iconst 0 dX12_image_13 (by decide) ?_
    refine v_goto 18 dX12_image_14 (by decide) ?_
    refine v_putI 12 4 dX12_image_18 f12_68 (by first | exact hS.1 _ _ rfl | exact hS'.1 _ _ rfl | assumption) (by decide) ?_
    refine v_aload_n dX12_image_21 rfl ?_
    refine v_getI 12 4 dX12_image_22 f12_68 (by first | exact hS.1 _ _ rfl | exact hS'.1 _ _ rfl | assumption) (by decide) ?_
    rw [gI_ss]
    refine v_if_le 29 dX12_image_25 (by decide) (fun h25 => ?_) (fun h25 => absurd (by decide) h25)
    refine v_aload_n dX12_image_29 rfl ?_
    refine v_getR 12 3 _ dX12_image_30 f12_19 (by first | exact hS.1 _ _ rfl | exact hS'.1 _ _ rfl | assumption) (by decide) (by first | exact hS.2 _ _ _ rfl | exact hS'.2 _ _ _ rfl | assumption) ?_
    refine v_iload_n dX12_image_33 rfl ?_
    refine v_iconst 1 dX12_image_34 (by decide) ?_
    refine v_zast dX12_image_35 (by first | exact hS.1 _ _ rfl | exact hS'.1 _ _ rfl | assumption) (vp_in_nI hj (by decide)) rfl ?_
    refine v_iconst 0 dX12_image_36 (by decide) ?_
    refine v_istore_n dX12_image_37 rfl (by decide) ?_
    skip
    rw [nI_clamp hj2]
    have hs0 : Sm Wi M (sI (sI M 230 4 0) 234 j 1) := (Sm.rf.st (q := 230) (k := 4) 0 rfl).st (q := 234) (k := j) 1 rfl
    refine V.post (l12_image G (sI (sI M 230 4 0) 234 j 1) (hS.sm hs0) hj 2120 0 _ (by omega) Sm.rf rfl rfl rfl (by rw [cpK_0])) (fun v M3 h => ⟨h.1, hs0.tr h.2.1, ?_, ?_, ?_, ?_⟩) (fun _ _ h => h)
    · rw [h.2.2.1, gI_sq _ _ (by decide), gI_ss]
    · rw [h.2.2.2.1, gI_sr _ _ (by decide), gI_sr _ _ (by decide)]
    · rw [h.2.2.2.2.2, gI_sr _ (a := 233) _ (by decide), gI_sr _ (a := 233) _ (by decide), gI_sr _ (a := 231) _ (by decide), gI_sr _ (a := 231) _ (by decide)]
    · rw [h.2.2.2.2.1, gI_uK, gI_sr _ _ (by decide)]
  · rw [bI_f h] at hcon
    rw [if_neg h]
    refine v_aload_n dX12_image_0 rfl ?_
    refine v_iload_n dX12_image_1 rfl ?_
    refine v_i2l dX12_image_2 ?_
    refine v_lconst 0 dX12_image_3 (by decide) ?_
    refine v_ldc2 2 dX12_image_4 K12_304 ?_
    refine v_cS [_, _, _] (hcon) k12_within dX12_image_7 l12_132 rfl (Nat.le_of_ble_eq_true rfl) (Nat.le_of_ble_eq_true rfl) ?_
    refine v_if_eq 17 dX12_image_10 (by decide) (fun h10 => ?_) (fun h10 => absurd rfl h10)
    refine v_iconst 1 dX12_image_17 (by decide) ?_
    refine v_putI 12 4 dX12_image_18 f12_68 (by first | exact hS.1 _ _ rfl | exact hS'.1 _ _ rfl | assumption) (by decide) ?_
    refine v_aload_n dX12_image_21 rfl ?_
    refine v_getI 12 4 dX12_image_22 f12_68 (by first | exact hS.1 _ _ rfl | exact hS'.1 _ _ rfl | assumption) (by decide) ?_
    rw [gI_ss]
    refine v_if_le 29 dX12_image_25 (by decide) (fun h25 => absurd h25 (by decide)) (fun h25 => ?_)
    refine v_vret dX12_image_28 rfl ?_
    exact ⟨rfl, (Sm.rf.st _ rfl), gI_ss _ _ _ _, gI_sr _ _ (by decide), gI_sr _ _ (by decide), gI_sr _ _ (by decide)⟩
theorem l12_restore (hS : Sh M) {p : Nat} (hp : p < 3) : ∀ i k M', k + i = 2120 → Sm Wi M M' → gI M' 230 4 = gI M 230 4 → gI M' 233 = gI M 233 → gI M' 234 = gI M 234 → gI M' 231 = cpK (gI M 231) 0 (fun j => gI M 233 (2120 * p + j)) k →
    V G Y12_restore 1 0 0 (Rs none (fun M' => Sm Wi M M' ∧ gI M' 230 4 = gI M 230 4 ∧ gI M' 233 = gI M 233 ∧ gI M' 234 = gI M 234 ∧ gI M' 231 = cpK (gI M 231) 0 (fun j => gI M 233 (2120 * p + j)) 2120)) NX 44 [some (.ref 230), some (.int (nI p)), some (.int (nI k))] [] M' := by
  intro i
  induction i with
  | zero =>
    intro k M' hk hM h1 h2 h3 h4
    obtain rfl : k = 2120 := by omega
    refine v_iload_n dX12_restore_44 rfl ?_
    refine v_sipush 2120 dX12_restore_45 (by decide) ?_
    refine v_icmp_ge 75 dX12_restore_48 (by decide) (fun h48 => ?_) (fun h48 => absurd (by decide) h48)
    refine v_vret dX12_restore_75 rfl ?_
    exact ⟨rfl, hM, h1, h2, h3, h4⟩
  | succ i ih =>
    intro k M' hk hM h1 h2 h3 h4
    have hS' := hS.sm hM
    refine v_iload_n dX12_restore_44 rfl ?_
    refine v_sipush 2120 dX12_restore_45 (by decide) ?_
    refine v_icmp_ge 75 dX12_restore_48 (by decide) (fun h48 => absurd ((nI_leI (a := 2120) (by decide) (by omega)).mp h48) (by omega)) (fun h48 => ?_)
    refine v_aload_n dX12_restore_51 rfl ?_
    refine v_getR 12 0 _ dX12_restore_52 f12_9 (hS'.1 _ _ rfl) (by decide) (hS'.2 _ _ _ rfl) ?_
    refine v_iload_n dX12_restore_55 rfl ?_
    refine v_aload_n dX12_restore_56 rfl ?_
    refine v_getR 12 2 _ dX12_restore_57 f12_16 (hS'.1 _ _ rfl) (by decide) (hS'.2 _ _ _ rfl) ?_
    refine v_sipush 2120 dX12_restore_60 (by decide) ?_
    refine v_iload_n dX12_restore_63 rfl ?_
    refine v_imul dX12_restore_64 ?_
    refine v_iload_n dX12_restore_65 rfl ?_
    refine v_iadd dX12_restore_66 ?_
    refine v_ialdN (2120 * p + k) dX12_restore_67 (hS'.1 _ _ rfl) (by simp only [n_lit, pk_mul, nI_add]) ⟨by omega, by omega⟩ ?_
    rw [show gI M' 233 (2120 * p + k) = gI M 233 (2120 * p + k) from congrFun h2 _]
    refine v_iastN (k) dX12_restore_68 (hS'.1 _ _ rfl) (by simp only [n_lit, pk_mul, nI_add]) ⟨by omega, by omega⟩ ?_
    refine v_iinc 1 dX12_restore_69 rfl (by decide) rfl (by decide) ?_
    refine v_goto 44 dX12_restore_72 (by decide) ?_
    skip
    rw [nI_1]
    refine ih (k + 1) _ (by omega) (hM.st _ rfl) ((gI_sq _ _ (by decide)).trans h1) ((gI_sr _ _ (by decide)).trans h2) ((gI_sr _ _ (by decide)).trans h3) ?_
    have := uK_cpK (gI M 231) 0 (fun j => gI M 233 (2120 * p + j)) k
    rw [Nat.zero_add] at this
    rw [gI_uK, h4, this]
def rsT (M : mM) (i : Int32) : Int32 := if inR 3 i = true then (if gI M 234 i.toNatClampNeg = 0 then 2 else 0) else 1
theorem c12_restore (hS : Sh M) (x : Int32) : Ct G Y12_restore 1 0 0 [.ref 230, .int x] M (Rs none (if rsT M x = 0 then Pi M 0 (cpK (gI M 231) 0 (fun j => gI M 233 (2120 * x.toNatClampNeg + j)) 2120) (gI M 233) (gI M 234) else Pi M (rsT M x) (gI M 231) (gI M 233) (gI M 234))) NX := by
  have hcon := c12_isImg G M x
  refine Ct.of k12_restore.1 (Nat.le_of_ble_eq_true rfl) ?_
  by_cases h : inR 3 x = true
  · rw [bI_t h] at hcon
    obtain ⟨j, hj, rfl, hj2⟩ := inR_of h
    by_cases h2 : gI M 234 j = 0
    · have e : rsT M (nI j) = 2 := by rw [rsT, if_pos h, nI_clamp hj2, if_pos h2]
      rw [e, if_neg (by decide)]
      refine v_aload_n dX12_restore_0 rfl ?_
      refine v_iload_n dX12_restore_1 rfl ?_
      refine v_i2l dX12_restore_2 ?_
      refine v_lconst 0 dX12_restore_3 (by decide) ?_
      refine v_ldc2 2 dX12_restore_4 K12_304 ?_
      refine v_cS [_, _, _] (hcon) k12_within dX12_restore_7 l12_132 rfl (Nat.le_of_ble_eq_true rfl) (Nat.le_of_ble_eq_true rfl) ?_
      refine v_if_ne 17 dX12_restore_10 (by decide) (fun h10 => ?_) (fun h10 => absurd (by decide) h10)
      refine v_aload_n dX12_restore_17 rfl ?_
      refine v_getR 12 3 _ dX12_restore_18 f12_19 (by first | exact hS.1 _ _ rfl | exact hS'.1 _ _ rfl | assumption) (by decide) (by first | exact hS.2 _ _ _ rfl | exact hS'.2 _ _ _ rfl | assumption) ?_
      refine v_iload_n dX12_restore_21 rfl ?_
      refine v_zald dX12_restore_22 (by first | exact hS.1 _ _ rfl | exact hS'.1 _ _ rfl | assumption) (vp_in_nI hj (by decide)) ?_
      rw [nI_clamp hj2, h2]
      refine v_if_ne 30 dX12_restore_23 (by decide) (fun h23 => absurd rfl h23) (fun h23 => ?_)
      refine v_iconst 2 dX12_restore_26 (by decide) ?_
      refine v_goto 31 dX12_restore_27 (by decide) ?_
      refine v_putI 12 4 dX12_restore_31 f12_68 (by first | exact hS.1 _ _ rfl | exact hS'.1 _ _ rfl | assumption) (by decide) ?_
      refine v_aload_n dX12_restore_34 rfl ?_
      refine v_getI 12 4 dX12_restore_35 f12_68 (by first | exact hS.1 _ _ rfl | exact hS'.1 _ _ rfl | assumption) (by decide) ?_
      rw [gI_ss]
      refine v_if_le 42 dX12_restore_38 (by decide) (fun h38 => absurd h38 (by decide)) (fun h38 => ?_)
      refine v_vret dX12_restore_41 rfl ?_
      exact ⟨rfl, (Sm.rf.st _ rfl), gI_ss _ _ _ _, gI_sr _ _ (by decide), gI_sr _ _ (by decide), gI_sr _ _ (by decide)⟩
    · have e : rsT M (nI j) = 0 := by rw [rsT, if_pos h, nI_clamp hj2, if_neg h2]
      rw [e, if_pos rfl, nI_clamp hj2]
      refine v_aload_n dX12_restore_0 rfl ?_
      refine v_iload_n dX12_restore_1 rfl ?_
      refine v_i2l dX12_restore_2 ?_
      refine v_lconst 0 dX12_restore_3 (by decide) ?_
      refine v_ldc2 2 dX12_restore_4 K12_304 ?_
      refine v_cS [_, _, _] (hcon) k12_within dX12_restore_7 l12_132 rfl (Nat.le_of_ble_eq_true rfl) (Nat.le_of_ble_eq_true rfl) ?_
      refine v_if_ne 17 dX12_restore_10 (by decide) (fun h10 => ?_) (fun h10 => absurd (by decide) h10)
      refine v_aload_n dX12_restore_17 rfl ?_
      refine v_getR 12 3 _ dX12_restore_18 f12_19 (by first | exact hS.1 _ _ rfl | exact hS'.1 _ _ rfl | assumption) (by decide) (by first | exact hS.2 _ _ _ rfl | exact hS'.2 _ _ _ rfl | assumption) ?_
      refine v_iload_n dX12_restore_21 rfl ?_
      refine v_zald dX12_restore_22 (by first | exact hS.1 _ _ rfl | exact hS'.1 _ _ rfl | assumption) (vp_in_nI hj (by decide)) ?_
      rw [nI_clamp hj2]
      refine v_if_ne 30 dX12_restore_23 (by decide) (fun h23 => ?_) (fun h23 => absurd h2 h23)
      refine v_iconst 0 dX12_restore_30 (by decide) ?_
      refine v_putI 12 4 dX12_restore_31 f12_68 (by first | exact hS.1 _ _ rfl | exact hS'.1 _ _ rfl | assumption) (by decide) ?_
      refine v_aload_n dX12_restore_34 rfl ?_
      refine v_getI 12 4 dX12_restore_35 f12_68 (by first | exact hS.1 _ _ rfl | exact hS'.1 _ _ rfl | assumption) (by decide) ?_
      rw [gI_ss]
      refine v_if_le 42 dX12_restore_38 (by decide) (fun h38 => ?_) (fun h38 => absurd (by decide) h38)
      refine v_iconst 0 dX12_restore_42 (by decide) ?_
      refine v_istore_n dX12_restore_43 rfl (by decide) ?_
      skip
      have hs0 : Sm Wi M (sI M 230 4 0) := (Sm.rf.st (q := 230) (k := 4) 0 rfl)
      refine V.post (l12_restore G (sI M 230 4 0) (hS.sm hs0) hj 2120 0 _ (by omega) Sm.rf rfl rfl rfl (by rw [cpK_0])) (fun v M3 h => ⟨h.1, hs0.tr h.2.1, ?_, ?_, ?_, ?_⟩) (fun _ _ h => h)
      · rw [h.2.2.1, gI_ss]
      · rw [h.2.2.2.2.2, gI_sr _ (a := 231) _ (by decide), gI_sr _ (a := 233) _ (by decide)]
      · rw [h.2.2.2.1, gI_sr _ _ (by decide)]
      · rw [h.2.2.2.2.1, gI_sr _ _ (by decide)]
  · rw [bI_f h] at hcon
    have e : rsT M x = 1 := by rw [rsT, if_neg h]
    rw [e, if_neg (by decide)]
    refine v_aload_n dX12_restore_0 rfl ?_
    refine v_iload_n dX12_restore_1 rfl ?_
    refine v_i2l dX12_restore_2 ?_
    refine v_lconst 0 dX12_restore_3 (by decide) ?_
    refine v_ldc2 2 dX12_restore_4 K12_304 ?_
    refine v_cS [_, _, _] (hcon) k12_within dX12_restore_7 l12_132 rfl (Nat.le_of_ble_eq_true rfl) (Nat.le_of_ble_eq_true rfl) ?_
    refine v_if_ne 17 dX12_restore_10 (by decide) (fun h10 => absurd rfl h10) (fun h10 => ?_)
    refine v_iconst 1 dX12_restore_13 (by decide) ?_
    refine v_goto 31 dX12_restore_14 (by decide) ?_
    refine v_putI 12 4 dX12_restore_31 f12_68 (by first | exact hS.1 _ _ rfl | exact hS'.1 _ _ rfl | assumption) (by decide) ?_
    refine v_aload_n dX12_restore_34 rfl ?_
    refine v_getI 12 4 dX12_restore_35 f12_68 (by first | exact hS.1 _ _ rfl | exact hS'.1 _ _ rfl | assumption) (by decide) ?_
    rw [gI_ss]
    refine v_if_le 42 dX12_restore_38 (by decide) (fun h38 => absurd h38 (by decide)) (fun h38 => ?_)
    refine v_vret dX12_restore_41 rfl ?_
    exact ⟨rfl, (Sm.rf.st _ rfl), gI_ss _ _ _ _, gI_sr _ _ (by decide), gI_sr _ _ (by decide), gI_sr _ _ (by decide)⟩
def clP (K : Nat → Int32) (p : Nat) : Bool := decide (K (97 + p) ≠ -1)
theorem l12_claims (hS : Sh M) (hP : WP (gI M 231)) : ∀ i p, p + i = kn (gI M 231) 6 → V G Y12_claims 0 0 0 (Rv (some (.int (nI (cnt (kn (gI M 231) 6) (clP (gI M 231)))))) M) NX 4 [some (.ref 230), some (.int (nI (cnt p (clP (gI M 231))))), some (.int (nI p))] [] M := by
  have h6 := hP.2.2.2.2.2.1
  intro i
  induction i with
  | zero =>
    intro p hp
    obtain rfl : p = kn (gI M 231) 6 := by omega
    refine v_iload_n dX12_claims_4 rfl ?_
    refine v_aload_n dX12_claims_5 rfl ?_
    refine v_getR 12 0 _ dX12_claims_6 f12_9 (by first | exact hS.1 _ _ rfl | exact hS'.1 _ _ rfl | assumption) (by decide) (by first | exact hS.2 _ _ _ rfl | exact hS'.2 _ _ _ rfl | assumption) ?_
    refine v_bipush 6 dX12_claims_9 (by decide) ?_
    refine v_ialdN 6 dX12_claims_11 (by first | exact hS.1 _ _ rfl | exact hS'.1 _ _ rfl | assumption) rfl (by decide) ?_
    rw [h6.1]
    refine v_icmp_ge 42 dX12_claims_12 (by decide) (fun h12 => ?_) (fun h12 => absurd (nI_le (Nat.le_refl _) (by omega)) h12)
    refine v_iload_n dX12_claims_42 rfl ?_
    refine v_iret dX12_claims_43 rfl ?_
    exact ⟨rfl, rfl⟩
  | succ i ih =>
    intro p hp
    have hn := ih (p + 1) (by omega)
    rw [show cnt (p + 1) (clP (gI M 231)) = cnt p (clP (gI M 231)) + (if clP (gI M 231) p = true then 1 else 0) from rfl, ← nI_add] at hn
    refine v_iload_n dX12_claims_4 rfl ?_
    refine v_aload_n dX12_claims_5 rfl ?_
    refine v_getR 12 0 _ dX12_claims_6 f12_9 (by first | exact hS.1 _ _ rfl | exact hS'.1 _ _ rfl | assumption) (by decide) (by first | exact hS.2 _ _ _ rfl | exact hS'.2 _ _ _ rfl | assumption) ?_
    refine v_bipush 6 dX12_claims_9 (by decide) ?_
    refine v_ialdN 6 dX12_claims_11 (by first | exact hS.1 _ _ rfl | exact hS'.1 _ _ rfl | assumption) rfl (by decide) ?_
    rw [h6.1]
    refine v_icmp_ge 42 dX12_claims_12 (by decide) (fun h12 => absurd ((nI_leI (by omega) (by omega)).mp h12) (by omega)) (fun h12 => ?_)
    refine v_iload_n dX12_claims_15 rfl ?_
    refine v_aload_n dX12_claims_16 rfl ?_
    refine v_getR 12 0 _ dX12_claims_17 f12_9 (by first | exact hS.1 _ _ rfl | exact hS'.1 _ _ rfl | assumption) (by decide) (by first | exact hS.2 _ _ _ rfl | exact hS'.2 _ _ _ rfl | assumption) ?_
    refine v_bipush 97 dX12_claims_20 (by decide) ?_
    refine v_iload_n dX12_claims_22 rfl ?_
    refine v_iadd dX12_claims_23 ?_
    refine v_ialdN (97 + p) dX12_claims_24 (by first | exact hS.1 _ _ rfl | exact hS'.1 _ _ rfl | assumption) (by simp only [n_lit, pk_mul, nI_add]) ⟨by omega, by omega⟩ ?_
    refine v_iconst (-1) dX12_claims_25 (by decide) ?_
    refine v_icmp_ne 33 dX12_claims_26 (by decide) (fun h26 => ?_) (fun h26 => ?_)
    · refine v_iconst 1 dX12_claims_33 (by decide) ?_
      refine v_iadd dX12_claims_34 ?_
      refine v_istore_n dX12_claims_35 rfl (by decide) ?_
      refine v_iinc 1 dX12_claims_36 rfl (by decide) rfl (by decide) ?_
      refine v_goto 4 dX12_claims_39 (by decide) ?_
      (rw [nI_1]; first | (rw [if_pos (by simp [clP, h26])] at hn; exact hn) | (rw [if_neg (by simp [clP, Decidable.not_not.mp h26])] at hn; exact hn))
    · refine v_iconst 0 dX12_claims_29 (by decide) ?_
      refine v_goto 34 dX12_claims_30 (by decide) ?_
      refine v_iadd dX12_claims_34 ?_
      refine v_istore_n dX12_claims_35 rfl (by decide) ?_
      refine v_iinc 1 dX12_claims_36 rfl (by decide) rfl (by decide) ?_
      refine v_goto 4 dX12_claims_39 (by decide) ?_
      (rw [nI_1]; first | (rw [if_pos (by simp [clP, h26])] at hn; exact hn) | (rw [if_neg (by simp [clP, Decidable.not_not.mp h26])] at hn; exact hn))
theorem c12_claims (hS : Sh M) (hP : WP (gI M 231)) : Ct G Y12_claims 0 0 0 [.ref 230] M (Rv (some (.int (nI (cnt (kn (gI M 231) 6) (clP (gI M 231)))))) M) NX := by
  refine Ct.of k12_claims.1 (Nat.le_of_ble_eq_true rfl) ?_
  refine v_iconst 0 dX12_claims_0 (by decide) ?_
  refine v_istore_n dX12_claims_1 rfl (by decide) ?_
  refine v_iconst 0 dX12_claims_2 (by decide) ?_
  refine v_istore_n dX12_claims_3 rfl (by decide) ?_
  -- at 4: .iload_n 2
  exact l12_claims G M hS hP (kn (gI M 231) 6) 0 (by omega)
def cnV (M : mM) (x : Int32) : Int32 := if x < 0 ∨ 12 < x then -1 else match x.toNatClampNeg with
  | 0 => gI M 231 0
  | 1 => gI M 231 1
  | 2 => gI M 231 2
  | 3 => nI (pcn (kn (gI M 231) 93))
  | 4 => gI M 231 3
  | 5 => nI (pcn (kn (gI M 231) 95))
  | 6 => gI M 231 6
  | 7 => gI M 231 96
  | 8 => gI M 231 94
  | 9 => nI (cnt (kn (gI M 231) 6) (clP (gI M 231)))
  | 10 => gI M 231 5
  | 11 => gI M 231 8
  | _ => gI M 230 6
theorem c12_count (hS : Sh M) (hQ : WQ (gI M 231)) (x : Int32) : Ct G Y12_count 1 0 0 [.ref 230, .int x] M (Rs (some (.int (cnV M x))) (Pq M 0)) NX := by
  obtain ⟨hP, hI, hU⟩ := hQ
  have e1 : gI (sI M 230 4 0) 231 = gI M 231 := gI_sr _ _ (by decide)
  have h3 := in_lt hP hI
  have h5 := us_lt hP hU
  have h9 := c12_claims G (sI M 230 4 0) hS (by rw [e1]; exact hP)
  rw [e1] at h9
  refine Ct.of k12_count.1 (Nat.le_of_ble_eq_true rfl) ?_
  refine v_aload_n dX12_count_0 rfl ?_
  refine v_iconst 0 dX12_count_1 (by decide) ?_
  refine v_putI 12 4 dX12_count_2 f12_68 (by first | exact hS.1 _ _ rfl | exact hS'.1 _ _ rfl | assumption) (by decide) ?_
  refine v_iload_n dX12_count_5 rfl ?_
  -- at 6: .tableswitch 161 0 12 #[66, 73, 80, 85, 96, 101, 112, 120, 128, 136, 141, 148, 156]
  by_cases h : x < 0 ∨ 12 < x
  · rw [cnV, if_pos h]
    refine v_tableOut 167 dX12_count_6 ?_ (by decide) ?_
    · rcases h with h | h
      · exact Or.inl (by rw [Int32.lt_iff_toInt_lt] at h; simpa using h)
      · exact Or.inr (by rw [Int32.lt_iff_toInt_lt] at h; simpa using h)
    · refine v_iconst (-1) dX12_count_167 (by decide) ?_
      refine v_iret dX12_count_168 rfl ?_
      exact ⟨rfl, Pq.st⟩
  · rw [cnV, if_neg h]
    obtain ⟨j, hj, rfl⟩ := nI_of2 (M := 12) (n := 12) (by decide) (fun z => h (Or.inl z)) (Int32.not_lt.mp (fun z => h (Or.inr z)))
    rw [nI_clamp (by omega)]
    obtain rfl | rfl | rfl | rfl | rfl | rfl | rfl | rfl | rfl | rfl | rfl | rfl | rfl : j = 0 ∨ j = 1 ∨ j = 2 ∨ j = 3 ∨ j = 4 ∨ j = 5 ∨ j = 6 ∨ j = 7 ∨ j = 8 ∨ j = 9 ∨ j = 10 ∨ j = 11 ∨ j = 12 := by omega
    · refine v_tableIn 72 dX12_count_6 (by decide) (by decide) rfl (by decide) ?_
      refine v_aload_n dX12_count_72 rfl ?_
      refine v_getR 12 0 _ dX12_count_73 f12_9 (by first | exact hS.1 _ _ rfl | exact hS'.1 _ _ rfl | assumption) (by decide) (by first | exact hS.2 _ _ _ rfl | exact hS'.2 _ _ _ rfl | assumption) ?_
      refine v_iconst 0 dX12_count_76 (by decide) ?_
      refine v_ialdN 0 dX12_count_77 (by first | exact hS.1 _ _ rfl | exact hS'.1 _ _ rfl | assumption) rfl (by decide) ?_
      refine v_iret dX12_count_78 rfl ?_
      exact ⟨by first | rfl | (rw [e1]), Pq.st⟩
    · refine v_tableIn 79 dX12_count_6 (by decide) (by decide) rfl (by decide) ?_
      refine v_aload_n dX12_count_79 rfl ?_
      refine v_getR 12 0 _ dX12_count_80 f12_9 (by first | exact hS.1 _ _ rfl | exact hS'.1 _ _ rfl | assumption) (by decide) (by first | exact hS.2 _ _ _ rfl | exact hS'.2 _ _ _ rfl | assumption) ?_
      refine v_iconst 1 dX12_count_83 (by decide) ?_
      refine v_ialdN 1 dX12_count_84 (by first | exact hS.1 _ _ rfl | exact hS'.1 _ _ rfl | assumption) rfl (by decide) ?_
      refine v_iret dX12_count_85 rfl ?_
      exact ⟨by first | rfl | (rw [e1]), Pq.st⟩
    · refine v_tableIn 86 dX12_count_6 (by decide) (by decide) rfl (by decide) ?_
      refine v_aload_n dX12_count_86 rfl ?_
      refine v_cV [] (c12_chests G (sI M 230 4 0) hS) k12_chests dX12_count_87 l12_245 (by first | exact hS.1 _ _ rfl | exact hS'.1 _ _ rfl | assumption) (by decide) rfl (Nat.le_of_ble_eq_true rfl) (Nat.le_of_ble_eq_true rfl) ?_
      refine v_iret dX12_count_90 rfl ?_
      exact ⟨by first | rfl | (rw [e1]), Pq.st⟩
    · refine v_tableIn 91 dX12_count_6 (by decide) (by decide) rfl (by decide) ?_
      refine v_aload_n dX12_count_91 rfl ?_
      refine v_getR 12 0 _ dX12_count_92 f12_9 (by first | exact hS.1 _ _ rfl | exact hS'.1 _ _ rfl | assumption) (by decide) (by first | exact hS.2 _ _ _ rfl | exact hS'.2 _ _ _ rfl | assumption) ?_
      refine v_bipush 93 dX12_count_95 (by decide) ?_
      refine v_ialdN 93 dX12_count_97 (by first | exact hS.1 _ _ rfl | exact hS'.1 _ _ rfl | assumption) rfl (by decide) ?_
      rw [e1, hI.1]
      refine v_cS [_] (c12_size G (sI M 230 4 0) h3) k12_size dX12_count_98 l12_330 rfl (Nat.le_of_ble_eq_true rfl) (Nat.le_of_ble_eq_true rfl) ?_
      refine v_iret dX12_count_101 rfl ?_
      exact ⟨by first | rfl | (rw [e1]), Pq.st⟩
    · refine v_tableIn 102 dX12_count_6 (by decide) (by decide) rfl (by decide) ?_
      refine v_aload_n dX12_count_102 rfl ?_
      refine v_cV [] (c12_words G (sI M 230 4 0) hS) k12_words dX12_count_103 l12_242 (by first | exact hS.1 _ _ rfl | exact hS'.1 _ _ rfl | assumption) (by decide) rfl (Nat.le_of_ble_eq_true rfl) (Nat.le_of_ble_eq_true rfl) ?_
      refine v_iret dX12_count_106 rfl ?_
      exact ⟨by first | rfl | (rw [e1]), Pq.st⟩
    · refine v_tableIn 107 dX12_count_6 (by decide) (by decide) rfl (by decide) ?_
      refine v_aload_n dX12_count_107 rfl ?_
      refine v_getR 12 0 _ dX12_count_108 f12_9 (by first | exact hS.1 _ _ rfl | exact hS'.1 _ _ rfl | assumption) (by decide) (by first | exact hS.2 _ _ _ rfl | exact hS'.2 _ _ _ rfl | assumption) ?_
      refine v_bipush 95 dX12_count_111 (by decide) ?_
      refine v_ialdN 95 dX12_count_113 (by first | exact hS.1 _ _ rfl | exact hS'.1 _ _ rfl | assumption) rfl (by decide) ?_
      rw [e1, hU.1]
      refine v_cS [_] (c12_size G (sI M 230 4 0) (by omega)) k12_size dX12_count_114 l12_330 rfl (Nat.le_of_ble_eq_true rfl) (Nat.le_of_ble_eq_true rfl) ?_
      refine v_iret dX12_count_117 rfl ?_
      exact ⟨by first | rfl | (rw [e1]), Pq.st⟩
    · refine v_tableIn 118 dX12_count_6 (by decide) (by decide) rfl (by decide) ?_
      refine v_aload_n dX12_count_118 rfl ?_
      refine v_getR 12 0 _ dX12_count_119 f12_9 (by first | exact hS.1 _ _ rfl | exact hS'.1 _ _ rfl | assumption) (by decide) (by first | exact hS.2 _ _ _ rfl | exact hS'.2 _ _ _ rfl | assumption) ?_
      refine v_bipush 6 dX12_count_122 (by decide) ?_
      refine v_ialdN 6 dX12_count_124 (by first | exact hS.1 _ _ rfl | exact hS'.1 _ _ rfl | assumption) rfl (by decide) ?_
      refine v_iret dX12_count_125 rfl ?_
      exact ⟨by first | rfl | (rw [e1]), Pq.st⟩
    · refine v_tableIn 126 dX12_count_6 (by decide) (by decide) rfl (by decide) ?_
      refine v_aload_n dX12_count_126 rfl ?_
      refine v_getR 12 0 _ dX12_count_127 f12_9 (by first | exact hS.1 _ _ rfl | exact hS'.1 _ _ rfl | assumption) (by decide) (by first | exact hS.2 _ _ _ rfl | exact hS'.2 _ _ _ rfl | assumption) ?_
      refine v_bipush 96 dX12_count_130 (by decide) ?_
      refine v_ialdN 96 dX12_count_132 (by first | exact hS.1 _ _ rfl | exact hS'.1 _ _ rfl | assumption) rfl (by decide) ?_
      refine v_iret dX12_count_133 rfl ?_
      exact ⟨by first | rfl | (rw [e1]), Pq.st⟩
    · refine v_tableIn 134 dX12_count_6 (by decide) (by decide) rfl (by decide) ?_
      refine v_aload_n dX12_count_134 rfl ?_
      refine v_getR 12 0 _ dX12_count_135 f12_9 (by first | exact hS.1 _ _ rfl | exact hS'.1 _ _ rfl | assumption) (by decide) (by first | exact hS.2 _ _ _ rfl | exact hS'.2 _ _ _ rfl | assumption) ?_
      refine v_bipush 94 dX12_count_138 (by decide) ?_
      refine v_ialdN 94 dX12_count_140 (by first | exact hS.1 _ _ rfl | exact hS'.1 _ _ rfl | assumption) rfl (by decide) ?_
      refine v_iret dX12_count_141 rfl ?_
      exact ⟨by first | rfl | (rw [e1]), Pq.st⟩
    · refine v_tableIn 142 dX12_count_6 (by decide) (by decide) rfl (by decide) ?_
      refine v_aload_n dX12_count_142 rfl ?_
      refine v_cV [] (h9) k12_claims dX12_count_143 l12_454 (by first | exact hS.1 _ _ rfl | exact hS'.1 _ _ rfl | assumption) (by decide) rfl (Nat.le_of_ble_eq_true rfl) (Nat.le_of_ble_eq_true rfl) ?_
      refine v_iret dX12_count_146 rfl ?_
      exact ⟨by first | rfl | (rw [e1]), Pq.st⟩
    · refine v_tableIn 147 dX12_count_6 (by decide) (by decide) rfl (by decide) ?_
      refine v_aload_n dX12_count_147 rfl ?_
      refine v_getR 12 0 _ dX12_count_148 f12_9 (by first | exact hS.1 _ _ rfl | exact hS'.1 _ _ rfl | assumption) (by decide) (by first | exact hS.2 _ _ _ rfl | exact hS'.2 _ _ _ rfl | assumption) ?_
      refine v_iconst 5 dX12_count_151 (by decide) ?_
      refine v_ialdN 5 dX12_count_152 (by first | exact hS.1 _ _ rfl | exact hS'.1 _ _ rfl | assumption) rfl (by decide) ?_
      refine v_iret dX12_count_153 rfl ?_
      exact ⟨by first | rfl | (rw [e1]), Pq.st⟩
    · refine v_tableIn 154 dX12_count_6 (by decide) (by decide) rfl (by decide) ?_
      refine v_aload_n dX12_count_154 rfl ?_
      refine v_getR 12 0 _ dX12_count_155 f12_9 (by first | exact hS.1 _ _ rfl | exact hS'.1 _ _ rfl | assumption) (by decide) (by first | exact hS.2 _ _ _ rfl | exact hS'.2 _ _ _ rfl | assumption) ?_
      refine v_bipush 8 dX12_count_158 (by decide) ?_
      refine v_ialdN 8 dX12_count_160 (by first | exact hS.1 _ _ rfl | exact hS'.1 _ _ rfl | assumption) rfl (by decide) ?_
      refine v_iret dX12_count_161 rfl ?_
      exact ⟨by first | rfl | (rw [e1]), Pq.st⟩
    · refine v_tableIn 162 dX12_count_6 (by decide) (by decide) rfl (by decide) ?_
      refine v_aload_n dX12_count_162 rfl ?_
      refine v_getI 12 6 dX12_count_163 f12_71 (by first | exact hS.1 _ _ rfl | exact hS'.1 _ _ rfl | assumption) (by decide) ?_
      refine v_iret dX12_count_166 rfl ?_
      exact ⟨by first | rfl | (rw [e1]), Pq.st⟩
theorem c12_fault (hS : Sh M) (x : Int32) : Ct G Y12_fault 0 0 0 [.ref 230, .int x] M (Rs (some (.int (if x = 0 then gI M 230 14 else if x = 1 then gI M 230 15 else -1))) (Pq M 0)) NX := by
  refine Ct.of k12_fault.1 (Nat.le_of_ble_eq_true rfl) ?_
  refine v_aload_n dX12_fault_0 rfl ?_
  refine v_iconst 0 dX12_fault_1 (by decide) ?_
  refine v_putI 12 4 dX12_fault_2 f12_68 (by first | exact hS.1 _ _ rfl | exact hS'.1 _ _ rfl | assumption) (by decide) ?_
  refine v_iload_n dX12_fault_5 rfl ?_
  refine v_if_ne 16 dX12_fault_6 (by decide) (fun h6 => ?_) (fun h6 => ?_)
  · refine v_iload_n dX12_fault_16 rfl ?_
    refine v_iconst 1 dX12_fault_17 (by decide) ?_
    refine v_icmp_ne 28 dX12_fault_18 (by decide) (fun h18 => ?_) (fun h18 => ?_)
    · refine v_iconst (-1) dX12_fault_28 (by decide) ?_
      refine v_iret dX12_fault_29 rfl ?_
      exact ⟨by (try rw [Decidable.not_not] at h6); (try rw [Decidable.not_not] at h18); simp_all <;> rfl, Pq.st⟩
    · refine v_aload_n dX12_fault_21 rfl ?_
      refine v_getI 12 15 dX12_fault_22 f12_26 (by first | exact hS.1 _ _ rfl | exact hS'.1 _ _ rfl | assumption) (by decide) ?_
      refine v_goto 29 dX12_fault_25 (by decide) ?_
      refine v_iret dX12_fault_29 rfl ?_
      exact ⟨by (try rw [Decidable.not_not] at h6); (try rw [Decidable.not_not] at h18); simp_all <;> rfl, Pq.st⟩
  · refine v_aload_n dX12_fault_9 rfl ?_
    refine v_getI 12 14 dX12_fault_10 f12_236 (by first | exact hS.1 _ _ rfl | exact hS'.1 _ _ rfl | assumption) (by decide) ?_
    refine v_goto 29 dX12_fault_13 (by decide) ?_
    refine v_iret dX12_fault_29 rfl ?_
    exact ⟨by (try rw [Decidable.not_not] at h6); (try rw [Decidable.not_not] at h18); simp_all <;> rfl, Pq.st⟩
end RU
