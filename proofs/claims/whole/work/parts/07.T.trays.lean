/-! ===== the reference: trays, images, counts ===== -/
/-- M' is M but for whole numbers at places of W, long ones at places of J -/
def Sj (W J : Nat → Nat → Bool) (M M' : mM) : Prop := gz M' = gz M ∧ gT M' = gT M ∧ gR M' = gR M ∧ (∀ q k, W q k = false → gI M' q k = gI M q k) ∧ ∀ q k, J q k = false → gJ M' q k = gJ M q k
theorem Sh.sj {W J : Nat → Nat → Bool} {M M' : mM} (h : Sh M) (e : Sj W J M M') : Sh M' := ⟨fun q sh hq => by rw [e.2.1]; exact h.1 q sh hq, fun q k a hq => by rw [e.2.2.1]; exact h.2 q k a hq⟩
theorem Sj.rf {W J : Nat → Nat → Bool} {M : mM} : Sj W J M M := ⟨rfl, rfl, rfl, fun _ _ _ => rfl, fun _ _ _ => rfl⟩
theorem Sj.tr {W J : Nat → Nat → Bool} {M M' M'' : mM} (h : Sj W J M M') (h2 : Sj W J M' M'') : Sj W J M M'' := ⟨h2.1.trans h.1, h2.2.1.trans h.2.1, h2.2.2.1.trans h.2.2.1, fun q k w => (h2.2.2.2.1 q k w).trans (h.2.2.2.1 q k w), fun q k w => (h2.2.2.2.2 q k w).trans (h.2.2.2.2 q k w)⟩
theorem Sm.j {W J : Nat → Nat → Bool} {M M' : mM} (h : Sm W M M') : Sj W J M M' := ⟨h.1, h.2.1, h.2.2.2.1, h.2.2.2.2, fun q k _ => by rw [h.2.2.1]⟩
theorem Sj.wk {W W2 J J2 : Nat → Nat → Bool} {M M' : mM} (h : Sj W J M M') (w : ∀ q k, W2 q k = false → W q k = false) (w2 : ∀ q k, J2 q k = false → J q k = false) : Sj W2 J2 M M' := ⟨h.1, h.2.1, h.2.2.1, fun q k z => h.2.2.2.1 q k (w q k z), fun q k z => h.2.2.2.2 q k (w2 q k z)⟩
theorem Sj.st {W J : Nat → Nat → Bool} {M M' : mM} (h : Sj W J M M') {q k : Nat} (v : Int32) (w : W q k = true) : Sj W J M (sI M' q k v) := ⟨h.1, h.2.1, h.2.2.1, fun a b z => by
  rw [gI_sI]
  by_cases e : a = q ∧ b = k
  · rw [e.1, e.2, w] at z; cases z
  · simp only [up2, e, if_false]; exact h.2.2.2.1 a b z, h.2.2.2.2⟩
theorem Sj.stj {W J : Nat → Nat → Bool} {M M' : mM} (h : Sj W J M M') {q k : Nat} (v : Int64) (w : J q k = true) : Sj W J M (sJ M' q k v) := ⟨h.1, h.2.1, h.2.2.1, h.2.2.2.1, fun a b z => by
  rw [gJ_sJ]
  by_cases e : a = q ∧ b = k
  · rw [e.1, e.2, w] at z; cases z
  · simp only [up2, e, if_false]; exact h.2.2.2.2 a b z⟩
def Wt (q k : Nat) : Bool := (Nat.beq q 230 && Nat.beq k 4) || Nat.beq q 244 || Nat.beq q 245
def Jt (q _k : Nat) : Bool := Nat.beq q 246
def tTr (t s n : Int32) : Int32 := if inR 4 t = true then (if inR 4 s = true ∧ inR 31 n = true then 0 else 2) else 1
def lsS (s : Nat) : Int32 := match s with
  | 0 => 56
  | 1 => 48
  | 2 => 32
  | _ => 0
/-- a number cut to its sort -/
def ctV (s : Nat) (v : Int64) : Int64 := (v <<< ((lsS s).toInt64 &&& 63)) >>> ((lsS s).toInt64 &&& 63)
theorem lsS_ok {s : Nat} (h : s < 4) : (64 : Int32) - ((8 : Int32) <<< (nI s &&& 31)) = lsS s := by
  obtain rfl | rfl | rfl | rfl : s = 0 ∨ s = 1 ∨ s = 2 ∨ s = 3 := by omega
  all_goals decide +kernel
theorem gJ_uK (M : mM) (q i : Nat) (v : Int64) : gJ (sJ M q i v) q = fun j => if j = i then v else gJ M q j := by
  funext j
  rw [gJ_sJ]
  simp [up2]
theorem within30' (v : Int32) : (0 ≤ v.toInt64 ∧ v.toInt64 ≤ 30) ↔ inR 31 v = true := within_in (n := 31) (by omega) v
section RT
variable (G : mG) (M : mM)
theorem l12_tray (hS : Sh M) {t : Nat} (ht : t < 4) (s n : Int32) : ∀ i k M', k + i = 30 → Sj Wt Jt M M' → gI M' 230 4 = gI M 230 4 → gI M' 244 = gI M 244 → gI M' 245 = gI M 245 → (∀ j, gJ M' 246 j = if 30 * t ≤ j ∧ j < 30 * t + k then 0 else gJ M 246 j) →
    V G Y12_tray 2 0 0 (Rs none (fun M' => Sj Wt Jt M M' ∧ gI M' 230 4 = gI M 230 4 ∧ gI M' 244 = gI M 244 ∧ gI M' 245 = gI M 245 ∧ ∀ j, gJ M' 246 j = if 30 * t ≤ j ∧ j < 30 * t + 30 then 0 else gJ M 246 j)) NX 69 [some (.ref 230), some (.int (nI t)), some (.int s), some (.int n), some (.int (nI k))] [] M' := by
  intro i
  induction i with
  | zero =>
    intro k M' hk hM h1 h2 h3 h4
    obtain rfl : k = 30 := by omega
    refine v_iload dX12_tray_69 rfl ?_
    refine v_bipush 30 dX12_tray_71 (by decide) ?_
    refine v_icmp_ge 95 dX12_tray_73 (by decide) (fun h73 => ?_) (fun h73 => absurd (by decide) h73)
    refine v_vret dX12_tray_95 rfl ?_
    exact ⟨rfl, hM, h1, h2, h3, h4⟩
  | succ i ih =>
    intro k M' hk hM h1 h2 h3 h4
    have hS' := hS.sj hM
    refine v_iload dX12_tray_69 rfl ?_
    refine v_bipush 30 dX12_tray_71 (by decide) ?_
    refine v_icmp_ge 95 dX12_tray_73 (by decide) (fun h73 => absurd ((nI_leI (a := 30) (by decide) (by omega)).mp h73) (by omega)) (fun h73 => ?_)
    refine v_aload_n dX12_tray_76 rfl ?_
    refine v_getR 12 29 _ dX12_tray_77 f12_60 (hS'.1 _ _ rfl) (by decide) (hS'.2 _ _ _ rfl) ?_
    refine v_bipush 30 dX12_tray_80 (by decide) ?_
    refine v_iload_n dX12_tray_82 rfl ?_
    refine v_imul dX12_tray_83 ?_
    refine v_iload dX12_tray_84 rfl ?_
    refine v_iadd dX12_tray_86 ?_
    refine v_lconst 0 dX12_tray_87 (by decide) ?_
    refine v_lastN (30 * t + k) dX12_tray_88 (hS'.1 _ _ rfl) (by simp only [n_lit, pk_mul, nI_add]) ⟨by omega, by omega⟩ ?_
    refine v_iinc 1 dX12_tray_89 rfl (by decide) rfl (by decide) ?_
    refine v_goto 69 dX12_tray_92 (by decide) ?_
    skip
    rw [nI_1]
    refine ih (k + 1) _ (by omega) (hM.stj _ rfl) h1 h2 h3 (fun j => ?_)
    rw [gJ_uK]
    show (if j = 30 * t + k then (0 : Int64) else gJ M' 246 j) = _
    by_cases e : j = 30 * t + k
    · rw [if_pos e, if_pos ⟨by omega, by omega⟩]
    · rw [if_neg e, h4]
      by_cases e2 : 30 * t ≤ j ∧ j < 30 * t + k
      · rw [if_pos e2, if_pos ⟨e2.1, by omega⟩]
      · rw [if_neg e2, if_neg (fun z => e2 ⟨z.1, by omega⟩)]
def Pt (M : mM) (t : Int32) (A B : Nat → Int32) (J : Nat → Int64) (M' : mM) : Prop := Sj Wt Jt M M' ∧ gI M' 230 4 = t ∧ gI M' 244 = A ∧ gI M' 245 = B ∧ gJ M' 246 = J
def trJ (J : Nat → Int64) (t : Nat) : Nat → Int64 := fun j => if 30 * t ≤ j ∧ j < 30 * t + 30 then 0 else J j
theorem c12_tray (hS : Sh M) (t s n : Int32) : Ct G Y12_tray 2 0 0 [.ref 230, .int t, .int s, .int n] M (Rs none (if tTr t s n = 0 then Pt M 0 (uK (gI M 244) t.toNatClampNeg s) (uK (gI M 245) t.toNatClampNeg n) (trJ (gJ M 246) t.toNatClampNeg) else Pt M (tTr t s n) (gI M 244) (gI M 245) (gJ M 246))) NX := by
  have hc1 : Ct G Y12_isTray 1 0 0 [.int t] M (Rv (some (.int (bI (inR 4 t = true)))) M) NX := by
    have h := c12_isTray G M t
    rw [bI_cong (within3 t)] at h
    exact h
  have hc2 : Ct G Y12_within 0 0 0 [.long s.toInt64, .long 0, .long 3] M (Rv (some (.int (bI (inR 4 s = true)))) M) NX := by
    have h := c12_within G M s.toInt64 0 3
    rw [bI_cong (within3 s)] at h
    exact h
  have hc3 : Ct G Y12_within 0 0 0 [.long n.toInt64, .long 0, .long 30] M (Rv (some (.int (bI (inR 31 n = true)))) M) NX := by
    have h := c12_within G M n.toInt64 0 30
    rw [bI_cong (within30' n)] at h
    exact h
  have bad : ∀ w, ¬ w ≤ 0 → tTr t s n = w → V G Y12_tray 2 0 0 (Rs none (if tTr t s n = 0 then Pt M 0 (uK (gI M 244) t.toNatClampNeg s) (uK (gI M 245) t.toNatClampNeg n) (trJ (gJ M 246) t.toNatClampNeg) else Pt M (tTr t s n) (gI M 244) (gI M 245) (gJ M 246))) NX 41 [some (.ref 230), some (.int t), some (.int s), some (.int n)] [.int w, .ref 230] M := by
    intro w hw e
    rw [e, if_neg (fun z => hw (by rw [z]; decide))]
    refine v_putI 12 4 dX12_tray_41 f12_68 (by first | exact hS.1 _ _ rfl | exact hS'.1 _ _ rfl | assumption) (by decide) ?_
    refine v_aload_n dX12_tray_44 rfl ?_
    refine v_getI 12 4 dX12_tray_45 f12_68 (by first | exact hS.1 _ _ rfl | exact hS'.1 _ _ rfl | assumption) (by decide) ?_
    rw [gI_ss]
    refine v_if_le 52 dX12_tray_48 (by decide) (fun h48 => absurd h48 hw) (fun h48 => ?_)
    refine v_vret dX12_tray_51 rfl ?_
    exact ⟨rfl, (Sj.rf.st _ rfl), gI_ss _ _ _ _, gI_sr _ _ (by decide), gI_sr _ _ (by decide), rfl⟩
  refine Ct.of k12_tray.1 (Nat.le_of_ble_eq_true rfl) ?_
  by_cases h1 : inR 4 t = true
  · rw [bI_t h1] at hc1
    by_cases h2 : inR 4 s = true
    · rw [bI_t h2] at hc2
      by_cases h3 : inR 31 n = true
      · rw [bI_t h3] at hc3
        have e0 : tTr t s n = 0 := by rw [tTr, if_pos h1, if_pos ⟨h2, h3⟩]
        rw [e0, if_pos rfl]
        obtain ⟨j, hj, rfl, hj2⟩ := inR_of h1
        rw [nI_clamp hj2]
        refine v_aload_n dX12_tray_0 rfl ?_
        refine v_iload_n dX12_tray_1 rfl ?_
        refine v_cS [_] (hc1) k12_isTray dX12_tray_2 l12_383 rfl (Nat.le_of_ble_eq_true rfl) (Nat.le_of_ble_eq_true rfl) ?_
        refine v_if_ne 12 dX12_tray_5 (by decide) (fun h5 => ?_) (fun h5 => absurd (by decide) h5)
        refine v_iload_n dX12_tray_12 rfl ?_
        refine v_i2l dX12_tray_13 ?_
        refine v_lconst 0 dX12_tray_14 (by decide) ?_
        refine v_ldc2 3 dX12_tray_15 K12_315 ?_
        refine v_cS [_, _, _] (hc2) k12_within dX12_tray_18 l12_132 rfl (Nat.le_of_ble_eq_true rfl) (Nat.le_of_ble_eq_true rfl) ?_
        refine v_if_eq 36 dX12_tray_21 (by decide) (fun h21 => absurd h21 (by decide)) (fun h21 => ?_)
        refine v_iload_n dX12_tray_24 rfl ?_
        refine v_i2l dX12_tray_25 ?_
        refine v_lconst 0 dX12_tray_26 (by decide) ?_
        refine v_ldc2 30 dX12_tray_27 K12_417 ?_
        refine v_cS [_, _, _] (hc3) k12_within dX12_tray_30 l12_132 rfl (Nat.le_of_ble_eq_true rfl) (Nat.le_of_ble_eq_true rfl) ?_
        refine v_if_ne 40 dX12_tray_33 (by decide) (fun h33 => ?_) (fun h33 => absurd (by decide) h33)
        refine v_iconst 0 dX12_tray_40 (by decide) ?_
        refine v_putI 12 4 dX12_tray_41 f12_68 (by first | exact hS.1 _ _ rfl | exact hS'.1 _ _ rfl | assumption) (by decide) ?_
        refine v_aload_n dX12_tray_44 rfl ?_
        refine v_getI 12 4 dX12_tray_45 f12_68 (by first | exact hS.1 _ _ rfl | exact hS'.1 _ _ rfl | assumption) (by decide) ?_
        rw [gI_ss]
        refine v_if_le 52 dX12_tray_48 (by decide) (fun h48 => ?_) (fun h48 => absurd (by decide) h48)
        refine v_aload_n dX12_tray_52 rfl ?_
        refine v_getR 12 27 _ dX12_tray_53 f12_54 (by first | exact hS.1 _ _ rfl | exact hS'.1 _ _ rfl | assumption) (by decide) (by first | exact hS.2 _ _ _ rfl | exact hS'.2 _ _ _ rfl | assumption) ?_
        refine v_iload_n dX12_tray_56 rfl ?_
        refine v_iload_n dX12_tray_57 rfl ?_
        refine v_iastN (j) dX12_tray_58 (by first | exact hS.1 _ _ rfl | exact hS'.1 _ _ rfl | assumption) (by simp only [n_lit, pk_mul, nI_add]) ⟨by omega, by omega⟩ ?_
        refine v_aload_n dX12_tray_59 rfl ?_
        refine v_getR 12 28 _ dX12_tray_60 f12_57 (by first | exact hS.1 _ _ rfl | exact hS'.1 _ _ rfl | assumption) (by decide) (by first | exact hS.2 _ _ _ rfl | exact hS'.2 _ _ _ rfl | assumption) ?_
        refine v_iload_n dX12_tray_63 rfl ?_
        refine v_iload_n dX12_tray_64 rfl ?_
        refine v_iastN (j) dX12_tray_65 (by first | exact hS.1 _ _ rfl | exact hS'.1 _ _ rfl | assumption) (by simp only [n_lit, pk_mul, nI_add]) ⟨by omega, by omega⟩ ?_
        refine v_iconst 0 dX12_tray_66 (by decide) ?_
        refine v_istore dX12_tray_67 rfl (by decide) ?_
        skip
        have hs0 : Sj Wt Jt M (sI (sI (sI M 230 4 0) 244 j s) 245 j n) := ((Sj.rf.st (q := 230) (k := 4) 0 rfl).st (q := 244) (k := j) s rfl).st (q := 245) (k := j) n rfl
        refine V.post (l12_tray G (sI (sI (sI M 230 4 0) 244 j s) 245 j n) (hS.sj hs0) hj s n 30 0 _ (by omega) Sj.rf rfl rfl rfl (fun k => by rw [if_neg (by omega)])) (fun v M3 h => ⟨h.1, hs0.tr h.2.1, ?_, ?_, ?_, ?_⟩) (fun _ _ h => h)
        · rw [h.2.2.1, gI_sr _ _ (by decide), gI_sr _ _ (by decide), gI_ss]
        · rw [h.2.2.2.1, gI_sr _ _ (by decide), gI_uK, gI_sr _ _ (by decide)]
        · rw [h.2.2.2.2.1, gI_uK, gI_sr _ _ (by decide), gI_sr _ _ (by decide)]
        · funext k; rw [h.2.2.2.2.2 k]; rfl
      · rw [bI_f h3] at hc3
        refine v_aload_n dX12_tray_0 rfl ?_
        refine v_iload_n dX12_tray_1 rfl ?_
        refine v_cS [_] (hc1) k12_isTray dX12_tray_2 l12_383 rfl (Nat.le_of_ble_eq_true rfl) (Nat.le_of_ble_eq_true rfl) ?_
        refine v_if_ne 12 dX12_tray_5 (by decide) (fun h5 => ?_) (fun h5 => absurd (by decide) h5)
        refine v_iload_n dX12_tray_12 rfl ?_
        refine v_i2l dX12_tray_13 ?_
        refine v_lconst 0 dX12_tray_14 (by decide) ?_
        refine v_ldc2 3 dX12_tray_15 K12_315 ?_
        refine v_cS [_, _, _] (hc2) k12_within dX12_tray_18 l12_132 rfl (Nat.le_of_ble_eq_true rfl) (Nat.le_of_ble_eq_true rfl) ?_
        refine v_if_eq 36 dX12_tray_21 (by decide) (fun h21 => absurd h21 (by decide)) (fun h21 => ?_)
        refine v_iload_n dX12_tray_24 rfl ?_
        refine v_i2l dX12_tray_25 ?_
        refine v_lconst 0 dX12_tray_26 (by decide) ?_
        refine v_ldc2 30 dX12_tray_27 K12_417 ?_
        refine v_cS [_, _, _] (hc3) k12_within dX12_tray_30 l12_132 rfl (Nat.le_of_ble_eq_true rfl) (Nat.le_of_ble_eq_true rfl) ?_
        refine v_if_ne 40 dX12_tray_33 (by decide) (fun h33 => absurd rfl h33) (fun h33 => ?_)
        refine v_iconst 2 dX12_tray_36 (by decide) ?_
        refine v_goto 41 dX12_tray_37 (by decide) ?_
        exact bad 2 (by decide) (by rw [tTr, if_pos h1, if_neg (fun z => h3 z.2)])
    · rw [bI_f h2] at hc2
      refine v_aload_n dX12_tray_0 rfl ?_
      refine v_iload_n dX12_tray_1 rfl ?_
      refine v_cS [_] (hc1) k12_isTray dX12_tray_2 l12_383 rfl (Nat.le_of_ble_eq_true rfl) (Nat.le_of_ble_eq_true rfl) ?_
      refine v_if_ne 12 dX12_tray_5 (by decide) (fun h5 => ?_) (fun h5 => absurd (by decide) h5)
      refine v_iload_n dX12_tray_12 rfl ?_
      refine v_i2l dX12_tray_13 ?_
      refine v_lconst 0 dX12_tray_14 (by decide) ?_
      refine v_ldc2 3 dX12_tray_15 K12_315 ?_
      refine v_cS [_, _, _] (hc2) k12_within dX12_tray_18 l12_132 rfl (Nat.le_of_ble_eq_true rfl) (Nat.le_of_ble_eq_true rfl) ?_
      refine v_if_eq 36 dX12_tray_21 (by decide) (fun h21 => ?_) (fun h21 => absurd rfl h21)
      refine v_iconst 2 dX12_tray_36 (by decide) ?_
      refine v_goto 41 dX12_tray_37 (by decide) ?_
      exact bad 2 (by decide) (by rw [tTr, if_pos h1, if_neg (fun z => h2 z.1)])
  · rw [bI_f h1] at hc1
    refine v_aload_n dX12_tray_0 rfl ?_
    refine v_iload_n dX12_tray_1 rfl ?_
    refine v_cS [_] (hc1) k12_isTray dX12_tray_2 l12_383 rfl (Nat.le_of_ble_eq_true rfl) (Nat.le_of_ble_eq_true rfl) ?_
    refine v_if_ne 12 dX12_tray_5 (by decide) (fun h5 => absurd rfl h5) (fun h5 => ?_)
    refine v_iconst 1 dX12_tray_8 (by decide) ?_
    refine v_goto 41 dX12_tray_9 (by decide) ?_
    exact bad 1 (by decide) (by rw [tTr, if_neg h1])
end RT
