/-! ===== the class LeastWords: told deeds, trays ===== -/
/-- a tray of the class as the reference has it: sort or -1, how many, the row of all numbers -/
def TyR (M : mM) (t : Nat) (a b : Int32) (J : Nat → Int64) : Prop := (a = -1 ∧ gI M (222 + 2 * t) 0 = 1) ∨ (¬ a = -1 ∧ gI M (222 + 2 * t) 0 = 0 ∧ gI M (222 + 2 * t) 1 = b ∧ gI M (222 + 2 * t) 3 = a ∧ ∀ k, k < 30 → gJ M (223 + 2 * t) k = J (30 * t + k))
def MT (M : mM) (A B : Nat → Int32) (J : Nat → Int64) : Prop := ∀ t, t < 4 → TyR M t (A t) (B t) J
theorem MT.kp {M M' : mM} {A B : Nat → Int32} {J : Nat → Int64} (h : MT M A B J) (hk : Kp M M') (hz : 248 ≤ gz M) : MT M' A B J := by
  intro t ht
  obtain ⟨a1, a2, a3, a4⟩ := hk.2.1 (222 + 2 * t) (by omega) (by unfold Fx; omega)
  obtain ⟨b1, b2, b3, b4⟩ := hk.2.1 (223 + 2 * t) (by omega) (by unfold Fx; omega)
  have := h t ht
  unfold TyR at this ⊢
  rw [a2, b3]
  exact this
theorem Sh.ty {M : mM} (h : Sh M) {t : Nat} (ht : t < 4) : gT M (222 + 2 * t) = .inl 10 ∧ gR M (222 + 2 * t) 2 = some (223 + 2 * t) ∧ gT M (223 + 2 * t) = .inr (1, 30) ∧ gR M 194 (nI t).toNatClampNeg = some (222 + 2 * t) := by
  rw [nI_clamp (by omega)]
  obtain rfl | rfl | rfl | rfl : t = 0 ∨ t = 1 ∨ t = 2 ∨ t = 3 := by omega
  all_goals exact ⟨h.1 _ _ rfl, h.2 _ _ _ rfl, h.1 _ _ rfl, h.2 _ _ _ rfl⟩
theorem lN_div {a b : Nat} (ha : a < 2 ^ 63) (h0 : 0 < b) (hb : b < 2 ^ 63) : lN a / lN b = lN (a / b) := pk_lDiv ha h0 hb
section O7
variable (G : mG) (M : mM)
theorem c11_canBe {K : Nat → Int32} (hS : Sh M) {s p cd n : Nat} (hp0 : gR M 118 0 = some p) (hp : Plr M p cd n K) (hP : WP K) (hs : Str M s K) (v : Int64) : Ct G Y11_canBe 0 0 0 [.ref 100, .ref s, .long v] M (Rv (some (.int (bI (canB K v = true)))) M) NX := by
  have c1 := hp.2.1.2.2.1
  have c2 := hp.2.1.2.1
  have h14 := hP.2.1.2
  have h6 := hP.1.2.2
  refine Ct.of k11_canBe.1 (Nat.le_of_ble_eq_true rfl) ?_
  by_cases hneg : v < 0
  · have q0 : lg_cmp v 0 < 0 := lg_lt.mpr hneg
    have q2 : lg_cmp v 2000 < 0 := lg_lt.mpr (Int64.lt_trans hneg (by decide))
    have q3 : ¬ lg_cmp v 3000 = 0 := fun z => by
      have := lg_eq.mp z
      subst this
      exact absurd hneg (by decide)
    by_cases hm : v = -1
    · have q4 : lg_cmp v (-1) = 0 := lg_eq.mpr hm
      by_cases hk : K 96 = -1
      · rw [show canB K v = false by rw [canB, if_pos hm, hk]; rfl, bI_f (by decide)]
        refine v_lload_n dX11_canBe_0 rfl ?_
        refine v_lconst 0 dX11_canBe_1 (by decide) ?_
        refine v_lcmp dX11_canBe_2 ?_
        refine v_if_lt 64 dX11_canBe_3 (by decide) (fun h3 => ?_) (fun h3 => absurd q0 h3)
        refine v_lload_n dX11_canBe_64 rfl ?_
        refine v_ldc2 2000 dX11_canBe_65 K11_300 ?_
        refine v_lcmp dX11_canBe_68 ?_
        refine v_if_lt 106 dX11_canBe_69 (by decide) (fun h69 => ?_) (fun h69 => absurd q2 h69)
        refine v_lload_n dX11_canBe_106 rfl ?_
        refine v_ldc2 3000 dX11_canBe_107 K11_304 ?_
        refine v_lcmp dX11_canBe_110 ?_
        refine v_if_eq 130 dX11_canBe_111 (by decide) (fun h111 => absurd h111 q3) (fun h111 => ?_)
        refine v_lload_n dX11_canBe_114 rfl ?_
        refine v_ldc2 (-1) dX11_canBe_115 K11_306 ?_
        refine v_lcmp dX11_canBe_118 ?_
        refine v_if_ne 134 dX11_canBe_119 (by decide) (fun h119 => absurd q4 h119) (fun h119 => ?_)
        refine v_aload_n dX11_canBe_122 rfl ?_
        refine v_getI 7 6 dX11_canBe_123 f11_228 hs.1.1 (by decide) ?_
        rw [hs.2.2.2.2.1, hk]
        refine v_iconst (-1) dX11_canBe_126 (by decide) ?_
        refine v_icmp_eq 134 dX11_canBe_127 (by decide) (fun h127 => ?_) (fun h127 => absurd rfl h127)
        refine v_iconst 0 dX11_canBe_134 (by decide) ?_
        refine v_zret dX11_canBe_135 rfl (by first | rfl | exact bI_nb _ | assumption) ?_
        exact ⟨rfl, rfl⟩
      · rw [show canB K v = true by rw [canB, if_pos hm]; exact decide_eq_true hk, bI_t rfl]
        refine v_lload_n dX11_canBe_0 rfl ?_
        refine v_lconst 0 dX11_canBe_1 (by decide) ?_
        refine v_lcmp dX11_canBe_2 ?_
        refine v_if_lt 64 dX11_canBe_3 (by decide) (fun h3 => ?_) (fun h3 => absurd q0 h3)
        refine v_lload_n dX11_canBe_64 rfl ?_
        refine v_ldc2 2000 dX11_canBe_65 K11_300 ?_
        refine v_lcmp dX11_canBe_68 ?_
        refine v_if_lt 106 dX11_canBe_69 (by decide) (fun h69 => ?_) (fun h69 => absurd q2 h69)
        refine v_lload_n dX11_canBe_106 rfl ?_
        refine v_ldc2 3000 dX11_canBe_107 K11_304 ?_
        refine v_lcmp dX11_canBe_110 ?_
        refine v_if_eq 130 dX11_canBe_111 (by decide) (fun h111 => absurd h111 q3) (fun h111 => ?_)
        refine v_lload_n dX11_canBe_114 rfl ?_
        refine v_ldc2 (-1) dX11_canBe_115 K11_306 ?_
        refine v_lcmp dX11_canBe_118 ?_
        refine v_if_ne 134 dX11_canBe_119 (by decide) (fun h119 => absurd q4 h119) (fun h119 => ?_)
        refine v_aload_n dX11_canBe_122 rfl ?_
        refine v_getI 7 6 dX11_canBe_123 f11_228 hs.1.1 (by decide) ?_
        rw [hs.2.2.2.2.1]
        refine v_iconst (-1) dX11_canBe_126 (by decide) ?_
        refine v_icmp_eq 134 dX11_canBe_127 (by decide) (fun h127 => absurd h127 hk) (fun h127 => ?_)
        refine v_iconst 1 dX11_canBe_130 (by decide) ?_
        refine v_goto 135 dX11_canBe_131 (by decide) ?_
        refine v_zret dX11_canBe_135 rfl (by first | rfl | exact bI_nb _ | assumption) ?_
        exact ⟨rfl, rfl⟩
    · have q4 : ¬ lg_cmp v (-1) = 0 := fun z => hm (lg_eq.mp z)
      rw [show canB K v = false by rw [canB, if_neg hm, if_pos hneg], bI_f (by decide)]
      refine v_lload_n dX11_canBe_0 rfl ?_
      refine v_lconst 0 dX11_canBe_1 (by decide) ?_
      refine v_lcmp dX11_canBe_2 ?_
      refine v_if_lt 64 dX11_canBe_3 (by decide) (fun h3 => ?_) (fun h3 => absurd q0 h3)
      refine v_lload_n dX11_canBe_64 rfl ?_
      refine v_ldc2 2000 dX11_canBe_65 K11_300 ?_
      refine v_lcmp dX11_canBe_68 ?_
      refine v_if_lt 106 dX11_canBe_69 (by decide) (fun h69 => ?_) (fun h69 => absurd q2 h69)
      refine v_lload_n dX11_canBe_106 rfl ?_
      refine v_ldc2 3000 dX11_canBe_107 K11_304 ?_
      refine v_lcmp dX11_canBe_110 ?_
      refine v_if_eq 130 dX11_canBe_111 (by decide) (fun h111 => absurd h111 q3) (fun h111 => ?_)
      refine v_lload_n dX11_canBe_114 rfl ?_
      refine v_ldc2 (-1) dX11_canBe_115 K11_306 ?_
      refine v_lcmp dX11_canBe_118 ?_
      refine v_if_ne 134 dX11_canBe_119 (by decide) (fun h119 => ?_) (fun h119 => absurd (Decidable.not_not.mp h119) q4)
      refine v_iconst 0 dX11_canBe_134 (by decide) ?_
      refine v_zret dX11_canBe_135 rfl (by first | rfl | exact bI_nb _ | assumption) ?_
      exact ⟨rfl, rfl⟩
  · have hn0 := hneg
    obtain ⟨m, hn, rfl⟩ := pk_lOf hneg
    have q0 : ¬ lg_cmp (lN m) 0 < 0 := fun z => hn0 (lg_lt.mp z)
    have q1 : lg_cmp (lN m) 1400 < 0 ↔ m < 1400 := lg_lt.trans (pk_lLT (b := 1400) hn (by decide))
    have q2 : lg_cmp (lN m) 2000 < 0 ↔ m < 2000 := lg_lt.trans (pk_lLT (b := 2000) hn (by decide))
    have q5 : lg_cmp (lN m) 2014 < 0 ↔ m < 2014 := lg_lt.trans (pk_lLT (b := 2014) hn (by decide))
    have q3 : lg_cmp (lN m) 3000 = 0 ↔ m = 3000 := lg_eq.trans (pk_lEQ (b := 3000) hn (by decide))
    have q4 : ¬ lg_cmp (lN m) (-1) = 0 := fun z => lN_m1 hn (lg_eq.mp z)
    have hc : canB K (lN m) = ((decide (m < 1400) && decide (m / 100 < kn K 2) && decide (m / 10 % 10 < kn K 1)) || decide (m = 3000) || (decide (2000 ≤ m) && decide (m < 2014) && decide (m - 2000 < kn K 2))) := by
      rw [canB, if_neg (lN_m1 hn), if_neg hn0, lN_clamp hn]
    rw [hc]
    by_cases a1 : m < 1400
    · have e1 : lN m / 100 = lN (m / 100) := lN_div (b := 100) (by omega) (by omega) (by omega)
      have e2 : lN m / 10 = lN (m / 10) := lN_div (b := 10) (by omega) (by omega) (by omega)
      have e3 : lN (m / 10) - lN (m / 10) / 10 * 10 = lN (m / 10 % 10) := pk_lRem (b := 10) (by omega) (by omega) (by omega)
      have qa : lg_cmp (lN (m / 100)) (lN (kn K 2)) < 0 ↔ m / 100 < kn K 2 := lg_lt.trans (pk_lLT (by omega) (by omega))
      have qb : lg_cmp (lN (m / 10 % 10)) (lN (kn K 1)) < 0 ↔ m / 10 % 10 < kn K 1 := lg_lt.trans (pk_lLT (by omega) (by omega))
      by_cases ha : m / 100 < kn K 2
      · by_cases hb : m / 10 % 10 < kn K 1
        · rw [bI_t (by simp [a1, ha, hb])]
          refine v_lload_n dX11_canBe_0 rfl ?_
          refine v_lconst 0 dX11_canBe_1 (by decide) ?_
          refine v_lcmp dX11_canBe_2 ?_
          refine v_if_lt 64 dX11_canBe_3 (by decide) (fun h3 => absurd h3 q0) (fun h3 => ?_)
          refine v_lload_n dX11_canBe_6 rfl ?_
          refine v_ldc2 1400 dX11_canBe_7 K11_291 ?_
          refine v_lcmp dX11_canBe_10 ?_
          refine v_if_ge 64 dX11_canBe_11 (by decide) (fun h11 => absurd (q1.mpr a1) (Int32.not_lt.mpr h11)) (fun h11 => ?_)
          refine v_lload_n dX11_canBe_14 rfl ?_
          refine v_ldc2 100 dX11_canBe_15 K11_293 ?_
          refine v_ldiv dX11_canBe_18 (by first | assumption | decide) ?_
          rw [e1]
          refine v_aload_n dX11_canBe_19 rfl ?_
          refine v_getR 11 6 _ dX11_canBe_20 f11_34 (by first | exact hS.1 _ _ rfl | assumption) (by decide) (by first | exact hp0 | exact hS.2 _ _ _ rfl | assumption) ?_
          refine v_getR 6 0 _ dX11_canBe_23 f11_130 (by first | exact hS.1 _ _ rfl | assumption) (by decide) (by first | exact hp0 | exact hS.2 _ _ _ rfl | assumption) ?_
          refine v_getI 4 2 dX11_canBe_26 f11_208 hp.1.1 (by decide) ?_
          rw [c1, hP.2.1.1]
          refine v_i2l dX11_canBe_29 ?_
          rw [nI_l (by omega)]
          refine v_lcmp dX11_canBe_30 ?_
          refine v_if_ge 62 dX11_canBe_31 (by decide) (fun h31 => absurd (qa.mpr ha) (Int32.not_lt.mpr h31)) (fun h31 => ?_)
          refine v_lload_n dX11_canBe_34 rfl ?_
          refine v_ldc2 10 dX11_canBe_35 K11_295 ?_
          refine v_ldiv dX11_canBe_38 (by first | assumption | decide) ?_
          rw [e2]
          refine v_ldc2 10 dX11_canBe_39 K11_295 ?_
          refine v_lrem dX11_canBe_42 (by first | assumption | decide) ?_
          rw [e3]
          refine v_aload_n dX11_canBe_43 rfl ?_
          refine v_getR 11 6 _ dX11_canBe_44 f11_34 (by first | exact hS.1 _ _ rfl | assumption) (by decide) (by first | exact hp0 | exact hS.2 _ _ _ rfl | assumption) ?_
          refine v_getR 6 0 _ dX11_canBe_47 f11_130 (by first | exact hS.1 _ _ rfl | assumption) (by decide) (by first | exact hp0 | exact hS.2 _ _ _ rfl | assumption) ?_
          refine v_getI 4 1 dX11_canBe_50 f11_297 hp.1.1 (by decide) ?_
          rw [c2, hP.1.1]
          refine v_i2l dX11_canBe_53 ?_
          rw [nI_l (by omega)]
          refine v_lcmp dX11_canBe_54 ?_
          refine v_if_ge 62 dX11_canBe_55 (by decide) (fun h55 => absurd (qb.mpr hb) (Int32.not_lt.mpr h55)) (fun h55 => ?_)
          refine v_iconst 1 dX11_canBe_58 (by decide) ?_
          refine v_goto 63 dX11_canBe_59 (by decide) ?_
          refine v_zret dX11_canBe_63 rfl (by first | rfl | exact bI_nb _ | assumption) ?_
          exact ⟨rfl, rfl⟩
        · rw [bI_f (by simp [hb]; omega)]
          refine v_lload_n dX11_canBe_0 rfl ?_
          refine v_lconst 0 dX11_canBe_1 (by decide) ?_
          refine v_lcmp dX11_canBe_2 ?_
          refine v_if_lt 64 dX11_canBe_3 (by decide) (fun h3 => absurd h3 q0) (fun h3 => ?_)
          refine v_lload_n dX11_canBe_6 rfl ?_
          refine v_ldc2 1400 dX11_canBe_7 K11_291 ?_
          refine v_lcmp dX11_canBe_10 ?_
          refine v_if_ge 64 dX11_canBe_11 (by decide) (fun h11 => absurd (q1.mpr a1) (Int32.not_lt.mpr h11)) (fun h11 => ?_)
          refine v_lload_n dX11_canBe_14 rfl ?_
          refine v_ldc2 100 dX11_canBe_15 K11_293 ?_
          refine v_ldiv dX11_canBe_18 (by first | assumption | decide) ?_
          rw [e1]
          refine v_aload_n dX11_canBe_19 rfl ?_
          refine v_getR 11 6 _ dX11_canBe_20 f11_34 (by first | exact hS.1 _ _ rfl | assumption) (by decide) (by first | exact hp0 | exact hS.2 _ _ _ rfl | assumption) ?_
          refine v_getR 6 0 _ dX11_canBe_23 f11_130 (by first | exact hS.1 _ _ rfl | assumption) (by decide) (by first | exact hp0 | exact hS.2 _ _ _ rfl | assumption) ?_
          refine v_getI 4 2 dX11_canBe_26 f11_208 hp.1.1 (by decide) ?_
          rw [c1, hP.2.1.1]
          refine v_i2l dX11_canBe_29 ?_
          rw [nI_l (by omega)]
          refine v_lcmp dX11_canBe_30 ?_
          refine v_if_ge 62 dX11_canBe_31 (by decide) (fun h31 => absurd (qa.mpr ha) (Int32.not_lt.mpr h31)) (fun h31 => ?_)
          refine v_lload_n dX11_canBe_34 rfl ?_
          refine v_ldc2 10 dX11_canBe_35 K11_295 ?_
          refine v_ldiv dX11_canBe_38 (by first | assumption | decide) ?_
          rw [e2]
          refine v_ldc2 10 dX11_canBe_39 K11_295 ?_
          refine v_lrem dX11_canBe_42 (by first | assumption | decide) ?_
          rw [e3]
          refine v_aload_n dX11_canBe_43 rfl ?_
          refine v_getR 11 6 _ dX11_canBe_44 f11_34 (by first | exact hS.1 _ _ rfl | assumption) (by decide) (by first | exact hp0 | exact hS.2 _ _ _ rfl | assumption) ?_
          refine v_getR 6 0 _ dX11_canBe_47 f11_130 (by first | exact hS.1 _ _ rfl | assumption) (by decide) (by first | exact hp0 | exact hS.2 _ _ _ rfl | assumption) ?_
          refine v_getI 4 1 dX11_canBe_50 f11_297 hp.1.1 (by decide) ?_
          rw [c2, hP.1.1]
          refine v_i2l dX11_canBe_53 ?_
          rw [nI_l (by omega)]
          refine v_lcmp dX11_canBe_54 ?_
          refine v_if_ge 62 dX11_canBe_55 (by decide) (fun h55 => ?_) (fun h55 => absurd (qb.mp (Int32.not_le.mp h55)) hb)
          refine v_iconst 0 dX11_canBe_62 (by decide) ?_
          refine v_zret dX11_canBe_63 rfl (by first | rfl | exact bI_nb _ | assumption) ?_
          exact ⟨rfl, rfl⟩
      · rw [bI_f (by simp [ha]; omega)]
        refine v_lload_n dX11_canBe_0 rfl ?_
        refine v_lconst 0 dX11_canBe_1 (by decide) ?_
        refine v_lcmp dX11_canBe_2 ?_
        refine v_if_lt 64 dX11_canBe_3 (by decide) (fun h3 => absurd h3 q0) (fun h3 => ?_)
        refine v_lload_n dX11_canBe_6 rfl ?_
        refine v_ldc2 1400 dX11_canBe_7 K11_291 ?_
        refine v_lcmp dX11_canBe_10 ?_
        refine v_if_ge 64 dX11_canBe_11 (by decide) (fun h11 => absurd (q1.mpr a1) (Int32.not_lt.mpr h11)) (fun h11 => ?_)
        refine v_lload_n dX11_canBe_14 rfl ?_
        refine v_ldc2 100 dX11_canBe_15 K11_293 ?_
        refine v_ldiv dX11_canBe_18 (by first | assumption | decide) ?_
        rw [e1]
        refine v_aload_n dX11_canBe_19 rfl ?_
        refine v_getR 11 6 _ dX11_canBe_20 f11_34 (by first | exact hS.1 _ _ rfl | assumption) (by decide) (by first | exact hp0 | exact hS.2 _ _ _ rfl | assumption) ?_
        refine v_getR 6 0 _ dX11_canBe_23 f11_130 (by first | exact hS.1 _ _ rfl | assumption) (by decide) (by first | exact hp0 | exact hS.2 _ _ _ rfl | assumption) ?_
        refine v_getI 4 2 dX11_canBe_26 f11_208 hp.1.1 (by decide) ?_
        rw [c1, hP.2.1.1]
        refine v_i2l dX11_canBe_29 ?_
        rw [nI_l (by omega)]
        refine v_lcmp dX11_canBe_30 ?_
        refine v_if_ge 62 dX11_canBe_31 (by decide) (fun h31 => ?_) (fun h31 => absurd (qa.mp (Int32.not_le.mp h31)) ha)
        refine v_iconst 0 dX11_canBe_62 (by decide) ?_
        refine v_zret dX11_canBe_63 rfl (by first | rfl | exact bI_nb _ | assumption) ?_
        exact ⟨rfl, rfl⟩
    · by_cases a2 : 2000 ≤ m ∧ m < 2014
      · have e4 : lN m - 2000 = lN (m - 2000) := lN_sub (b := 2000) a2.1
        have qa : lg_cmp (lN (m - 2000)) (lN (kn K 2)) < 0 ↔ m - 2000 < kn K 2 := lg_lt.trans (pk_lLT (by omega) (by omega))
        by_cases ha : m - 2000 < kn K 2
        · rw [bI_t (by simp [a2.1, a2.2, ha])]
          refine v_lload_n dX11_canBe_0 rfl ?_
          refine v_lconst 0 dX11_canBe_1 (by decide) ?_
          refine v_lcmp dX11_canBe_2 ?_
          refine v_if_lt 64 dX11_canBe_3 (by decide) (fun h3 => absurd h3 q0) (fun h3 => ?_)
          refine v_lload_n dX11_canBe_6 rfl ?_
          refine v_ldc2 1400 dX11_canBe_7 K11_291 ?_
          refine v_lcmp dX11_canBe_10 ?_
          refine v_if_ge 64 dX11_canBe_11 (by decide) (fun h11 => ?_) (fun h11 => absurd (q1.mp (Int32.not_le.mp h11)) a1)
          refine v_lload_n dX11_canBe_64 rfl ?_
          refine v_ldc2 2000 dX11_canBe_65 K11_300 ?_
          refine v_lcmp dX11_canBe_68 ?_
          refine v_if_lt 106 dX11_canBe_69 (by decide) (fun h69 => absurd (q2.mp h69) (by omega)) (fun h69 => ?_)
          refine v_lload_n dX11_canBe_72 rfl ?_
          refine v_ldc2 2014 dX11_canBe_73 K11_302 ?_
          refine v_lcmp dX11_canBe_76 ?_
          refine v_if_ge 106 dX11_canBe_77 (by decide) (fun h77 => absurd (q5.mpr a2.2) (Int32.not_lt.mpr h77)) (fun h77 => ?_)
          refine v_lload_n dX11_canBe_80 rfl ?_
          refine v_ldc2 2000 dX11_canBe_81 K11_300 ?_
          refine v_lsub dX11_canBe_84 ?_
          rw [e4]
          refine v_aload_n dX11_canBe_85 rfl ?_
          refine v_getR 11 6 _ dX11_canBe_86 f11_34 (by first | exact hS.1 _ _ rfl | assumption) (by decide) (by first | exact hp0 | exact hS.2 _ _ _ rfl | assumption) ?_
          refine v_getR 6 0 _ dX11_canBe_89 f11_130 (by first | exact hS.1 _ _ rfl | assumption) (by decide) (by first | exact hp0 | exact hS.2 _ _ _ rfl | assumption) ?_
          refine v_getI 4 2 dX11_canBe_92 f11_208 hp.1.1 (by decide) ?_
          rw [c1, hP.2.1.1]
          refine v_i2l dX11_canBe_95 ?_
          rw [nI_l (by omega)]
          refine v_lcmp dX11_canBe_96 ?_
          refine v_if_ge 104 dX11_canBe_97 (by decide) (fun h97 => absurd (qa.mpr ha) (Int32.not_lt.mpr h97)) (fun h97 => ?_)
          refine v_iconst 1 dX11_canBe_100 (by decide) ?_
          refine v_goto 105 dX11_canBe_101 (by decide) ?_
          refine v_zret dX11_canBe_105 rfl (by first | rfl | exact bI_nb _ | assumption) ?_
          exact ⟨rfl, rfl⟩
        · rw [bI_f (by simp [ha]; omega)]
          refine v_lload_n dX11_canBe_0 rfl ?_
          refine v_lconst 0 dX11_canBe_1 (by decide) ?_
          refine v_lcmp dX11_canBe_2 ?_
          refine v_if_lt 64 dX11_canBe_3 (by decide) (fun h3 => absurd h3 q0) (fun h3 => ?_)
          refine v_lload_n dX11_canBe_6 rfl ?_
          refine v_ldc2 1400 dX11_canBe_7 K11_291 ?_
          refine v_lcmp dX11_canBe_10 ?_
          refine v_if_ge 64 dX11_canBe_11 (by decide) (fun h11 => ?_) (fun h11 => absurd (q1.mp (Int32.not_le.mp h11)) a1)
          refine v_lload_n dX11_canBe_64 rfl ?_
          refine v_ldc2 2000 dX11_canBe_65 K11_300 ?_
          refine v_lcmp dX11_canBe_68 ?_
          refine v_if_lt 106 dX11_canBe_69 (by decide) (fun h69 => absurd (q2.mp h69) (by omega)) (fun h69 => ?_)
          refine v_lload_n dX11_canBe_72 rfl ?_
          refine v_ldc2 2014 dX11_canBe_73 K11_302 ?_
          refine v_lcmp dX11_canBe_76 ?_
          refine v_if_ge 106 dX11_canBe_77 (by decide) (fun h77 => absurd (q5.mpr a2.2) (Int32.not_lt.mpr h77)) (fun h77 => ?_)
          refine v_lload_n dX11_canBe_80 rfl ?_
          refine v_ldc2 2000 dX11_canBe_81 K11_300 ?_
          refine v_lsub dX11_canBe_84 ?_
          rw [e4]
          refine v_aload_n dX11_canBe_85 rfl ?_
          refine v_getR 11 6 _ dX11_canBe_86 f11_34 (by first | exact hS.1 _ _ rfl | assumption) (by decide) (by first | exact hp0 | exact hS.2 _ _ _ rfl | assumption) ?_
          refine v_getR 6 0 _ dX11_canBe_89 f11_130 (by first | exact hS.1 _ _ rfl | assumption) (by decide) (by first | exact hp0 | exact hS.2 _ _ _ rfl | assumption) ?_
          refine v_getI 4 2 dX11_canBe_92 f11_208 hp.1.1 (by decide) ?_
          rw [c1, hP.2.1.1]
          refine v_i2l dX11_canBe_95 ?_
          rw [nI_l (by omega)]
          refine v_lcmp dX11_canBe_96 ?_
          refine v_if_ge 104 dX11_canBe_97 (by decide) (fun h97 => ?_) (fun h97 => absurd (qa.mp (Int32.not_le.mp h97)) ha)
          refine v_iconst 0 dX11_canBe_104 (by decide) ?_
          refine v_zret dX11_canBe_105 rfl (by first | rfl | exact bI_nb _ | assumption) ?_
          exact ⟨rfl, rfl⟩
      · by_cases a3 : m = 3000
        · rw [bI_t (by simp [a3])]
          refine v_lload_n dX11_canBe_0 rfl ?_
          refine v_lconst 0 dX11_canBe_1 (by decide) ?_
          refine v_lcmp dX11_canBe_2 ?_
          refine v_if_lt 64 dX11_canBe_3 (by decide) (fun h3 => absurd h3 q0) (fun h3 => ?_)
          refine v_lload_n dX11_canBe_6 rfl ?_
          refine v_ldc2 1400 dX11_canBe_7 K11_291 ?_
          refine v_lcmp dX11_canBe_10 ?_
          refine v_if_ge 64 dX11_canBe_11 (by decide) (fun h11 => ?_) (fun h11 => absurd (q1.mp (Int32.not_le.mp h11)) a1)
          refine v_lload_n dX11_canBe_64 rfl ?_
          refine v_ldc2 2000 dX11_canBe_65 K11_300 ?_
          refine v_lcmp dX11_canBe_68 ?_
          refine v_if_lt 106 dX11_canBe_69 (by decide) (fun h69 => absurd (q2.mp h69) (by omega)) (fun h69 => ?_)
          refine v_lload_n dX11_canBe_72 rfl ?_
          refine v_ldc2 2014 dX11_canBe_73 K11_302 ?_
          refine v_lcmp dX11_canBe_76 ?_
          refine v_if_ge 106 dX11_canBe_77 (by decide) (fun h77 => ?_) (fun h77 => absurd (q5.mp (Int32.not_le.mp h77)) (by omega))
          refine v_lload_n dX11_canBe_106 rfl ?_
          refine v_ldc2 3000 dX11_canBe_107 K11_304 ?_
          refine v_lcmp dX11_canBe_110 ?_
          refine v_if_eq 130 dX11_canBe_111 (by decide) (fun h111 => ?_) (fun h111 => absurd (q3.mpr a3) h111)
          refine v_iconst 1 dX11_canBe_130 (by decide) ?_
          refine v_goto 135 dX11_canBe_131 (by decide) ?_
          refine v_zret dX11_canBe_135 rfl (by first | rfl | exact bI_nb _ | assumption) ?_
          exact ⟨rfl, rfl⟩
        · rw [bI_f (by simp [a3]; omega)]
          by_cases a4 : m < 2000
          · refine v_lload_n dX11_canBe_0 rfl ?_
            refine v_lconst 0 dX11_canBe_1 (by decide) ?_
            refine v_lcmp dX11_canBe_2 ?_
            refine v_if_lt 64 dX11_canBe_3 (by decide) (fun h3 => absurd h3 q0) (fun h3 => ?_)
            refine v_lload_n dX11_canBe_6 rfl ?_
            refine v_ldc2 1400 dX11_canBe_7 K11_291 ?_
            refine v_lcmp dX11_canBe_10 ?_
            refine v_if_ge 64 dX11_canBe_11 (by decide) (fun h11 => ?_) (fun h11 => absurd (q1.mp (Int32.not_le.mp h11)) a1)
            refine v_lload_n dX11_canBe_64 rfl ?_
            refine v_ldc2 2000 dX11_canBe_65 K11_300 ?_
            refine v_lcmp dX11_canBe_68 ?_
            refine v_if_lt 106 dX11_canBe_69 (by decide) (fun h69 => ?_) (fun h69 => absurd (q2.mpr a4) h69)
            refine v_lload_n dX11_canBe_106 rfl ?_
            refine v_ldc2 3000 dX11_canBe_107 K11_304 ?_
            refine v_lcmp dX11_canBe_110 ?_
            refine v_if_eq 130 dX11_canBe_111 (by decide) (fun h111 => absurd (q3.mp h111) a3) (fun h111 => ?_)
            refine v_lload_n dX11_canBe_114 rfl ?_
            refine v_ldc2 (-1) dX11_canBe_115 K11_306 ?_
            refine v_lcmp dX11_canBe_118 ?_
            refine v_if_ne 134 dX11_canBe_119 (by decide) (fun h119 => ?_) (fun h119 => absurd (Decidable.not_not.mp h119) q4)
            refine v_iconst 0 dX11_canBe_134 (by decide) ?_
            refine v_zret dX11_canBe_135 rfl (by first | rfl | exact bI_nb _ | assumption) ?_
            exact ⟨rfl, rfl⟩
          · refine v_lload_n dX11_canBe_0 rfl ?_
            refine v_lconst 0 dX11_canBe_1 (by decide) ?_
            refine v_lcmp dX11_canBe_2 ?_
            refine v_if_lt 64 dX11_canBe_3 (by decide) (fun h3 => absurd h3 q0) (fun h3 => ?_)
            refine v_lload_n dX11_canBe_6 rfl ?_
            refine v_ldc2 1400 dX11_canBe_7 K11_291 ?_
            refine v_lcmp dX11_canBe_10 ?_
            refine v_if_ge 64 dX11_canBe_11 (by decide) (fun h11 => ?_) (fun h11 => absurd (q1.mp (Int32.not_le.mp h11)) a1)
            refine v_lload_n dX11_canBe_64 rfl ?_
            refine v_ldc2 2000 dX11_canBe_65 K11_300 ?_
            refine v_lcmp dX11_canBe_68 ?_
            refine v_if_lt 106 dX11_canBe_69 (by decide) (fun h69 => absurd (q2.mp h69) a4) (fun h69 => ?_)
            refine v_lload_n dX11_canBe_72 rfl ?_
            refine v_ldc2 2014 dX11_canBe_73 K11_302 ?_
            refine v_lcmp dX11_canBe_76 ?_
            refine v_if_ge 106 dX11_canBe_77 (by decide) (fun h77 => ?_) (fun h77 => absurd (q5.mp (Int32.not_le.mp h77)) (by omega))
            refine v_lload_n dX11_canBe_106 rfl ?_
            refine v_ldc2 3000 dX11_canBe_107 K11_304 ?_
            refine v_lcmp dX11_canBe_110 ?_
            refine v_if_eq 130 dX11_canBe_111 (by decide) (fun h111 => absurd (q3.mp h111) a3) (fun h111 => ?_)
            refine v_lload_n dX11_canBe_114 rfl ?_
            refine v_ldc2 (-1) dX11_canBe_115 K11_306 ?_
            refine v_lcmp dX11_canBe_118 ?_
            refine v_if_ne 134 dX11_canBe_119 (by decide) (fun h119 => ?_) (fun h119 => absurd (Decidable.not_not.mp h119) q4)
            refine v_iconst 0 dX11_canBe_134 (by decide) ?_
            refine v_zret dX11_canBe_135 rfl (by first | rfl | exact bI_nb _ | assumption) ?_
            exact ⟨rfl, rfl⟩
theorem c11_doTold {K : Nat → Int32} (hS : Sh M) {s p cd n : Nat} (hp0 : gR M 118 0 = some p) (hp : Plr M p cd n K) (hr : Apt p cd 115 117) (hsp : Apt p cd s (s + 5)) (hsr : s + 5 < 115 ∨ 117 < s) (hW : WK K) (hs : Str M s K) {v : Int32} (hv : okT9 K v) : Ct G Y11_doTold 9 0 0 [.ref 100, .ref s, .int v] M (Rs none (fun M' => Sm (Wln s 115) M M' ∧ Str M' s (doK K v))) NX := by
  have h14 := hW.p.2.1.2
  have h6 := hW.p.1.2.2
  refine Ct.of k11_doTold.1 (Nat.le_of_ble_eq_true rfl) ?_
  rcases hv with ⟨rfl, h96⟩ | ⟨m, rfl, hm⟩
  · rw [show doK K (-1) = setK K from if_pos rfl]
    refine v_iload_n dX11_doTold_0 rfl ?_
    refine v_iconst (-1) dX11_doTold_1 (by decide) ?_
    refine v_icmp_ne 20 dX11_doTold_2 (by decide) (fun h2 => absurd rfl h2) (fun h2 => ?_)
    refine v_aload_n dX11_doTold_5 rfl ?_
    refine v_aload_n dX11_doTold_6 rfl ?_
    refine v_getR 11 6 _ dX11_doTold_7 f11_34 (by first | exact hS.1 _ _ rfl | assumption) (by decide) (by first | exact hp0 | exact hS.2 _ _ _ rfl | assumption) ?_
    refine v_getR 6 0 _ dX11_doTold_10 f11_130 (by first | exact hS.1 _ _ rfl | assumption) (by decide) (by first | exact hp0 | exact hS.2 _ _ _ rfl | assumption) ?_
    refine v_scV [_] (c7_settleClaims G M hs hp hW h96) k7_settleClaims dX11_doTold_13 l11_231 hs.1.1 (by decide) rfl (Nat.le_of_ble_eq_true rfl) (Nat.le_of_ble_eq_true rfl) ?_
    intro M2 hM2
    refine v_pop dX11_doTold_16 rfl ?_
    refine v_goto 103 dX11_doTold_17 (by decide) ?_
    refine v_vret dX11_doTold_103 rfl ?_
    exact ⟨rfl, hM2.1.ln2, hM2.2⟩
  · have hm3 : m < 3001 := by omega
    have hne : ¬ nI m = -1 := nI_m1 (by omega)
    have hd : doK K (nI m) = if m < 2000 then uK K (9 + 6 * (m / 100) + m / 10 % 10) (nI (m % 10)) else if m < 3000 then carK K (m - 2000) else uK K 94 (1 - K 94) := by
      unfold doK
      rw [if_neg hne, nI_clamp (by omega)]
      by_cases a : m < 2000
      · rw [if_pos a, if_pos (show nI m < (2000 : Int32) from nI_lt (b := 2000) a (by decide))]
      · rw [if_neg a, if_neg (show ¬ nI m < (2000 : Int32) from nI_nlt (a := m) (b := 2000) (by omega) (by omega))]
        by_cases b : m < 3000
        · rw [if_pos b, if_pos (show nI m < (3000 : Int32) from nI_lt (b := 3000) b (by decide))]
        · rw [if_neg b, if_neg (show ¬ nI m < (3000 : Int32) from nI_nlt (a := m) (b := 3000) (by omega) (by omega))]
    rw [hd]
    rcases hm with ⟨m1, m2, m3⟩ | ⟨m1, m2, m3⟩ | m1
    · rw [if_pos (by omega)]
      have e1 : nI m / 100 = nI (m / 100) := pk_div (d := 100) (by omega) (by decide) (by decide)
      have e2 : nI m / 10 = nI (m / 10) := pk_div (d := 10) (by omega) (by decide) (by decide)
      have e3 : nI (m / 10) - nI (m / 10) / 10 * 10 = nI (m / 10 % 10) := pk_rem (d := 10) (by omega) (by decide) (by decide)
      have e4 : nI m - nI m / 10 * 10 = nI (m % 10) := pk_rem (d := 10) (by omega) (by decide) (by decide)
      have q4 := c7_setMark G M hs hW m2 m3 (v := m % 10) (by omega)
      have q5 := c7_learnStr G _ hs hW hS.rk (hp.ck hW.p (fun i hi => uK_n _ _ (by omega))) hr hsp hsr m2 m3 (v := m % 10) (by omega) rfl
      obtain ⟨M3, eM3⟩ : ∃ M3, M3 = sI M (s + 1) (m / 100) (nI (pkR (cur (uK K (9 + 6 * (m / 100) + m / 10 % 10) (nI (m % 10)))) (m / 100) (kn K 1))) := ⟨_, rfl⟩
      rw [← eM3] at q4 q5
      have t3 : gT M3 = gT M := by rw [eM3]; rfl
      have r3 : gR M3 = gR M := by rw [eM3]; rfl
      refine v_iload_n dX11_doTold_0 rfl ?_
      refine v_iconst (-1) dX11_doTold_1 (by decide) ?_
      refine v_icmp_ne 20 dX11_doTold_2 (by decide) (fun h2 => ?_) (fun h2 => absurd (Decidable.not_not.mp h2) hne)
      refine v_iload_n dX11_doTold_20 rfl ?_
      refine v_sipush 3000 dX11_doTold_21 (by decide) ?_
      refine v_icmp_ne 46 dX11_doTold_24 (by decide) (fun h24 => ?_) (fun h24 => absurd ((nI_eq (b := 3000) (by omega) (by decide)).mp (Decidable.not_not.mp h24)) (by omega))
      refine v_iload_n dX11_doTold_46 rfl ?_
      refine v_sipush 2000 dX11_doTold_47 (by decide) ?_
      refine v_icmp_lt 65 dX11_doTold_50 (by decide) (fun h50 => ?_) (fun h50 => absurd (nI_lt (b := 2000) (by omega) (by decide)) h50)
      refine v_aload_n dX11_doTold_65 rfl ?_
      refine v_iload_n dX11_doTold_66 rfl ?_
      refine v_bipush 100 dX11_doTold_67 (by decide) ?_
      refine v_idiv dX11_doTold_69 (by first | assumption | decide) ?_
      rw [e1]
      refine v_iload_n dX11_doTold_70 rfl ?_
      refine v_bipush 10 dX11_doTold_71 (by decide) ?_
      refine v_idiv dX11_doTold_73 (by first | assumption | decide) ?_
      rw [e2]
      refine v_bipush 10 dX11_doTold_74 (by decide) ?_
      refine v_irem dX11_doTold_76 (by first | assumption | decide) ?_
      rw [e3]
      refine v_iload_n dX11_doTold_77 rfl ?_
      refine v_bipush 10 dX11_doTold_78 (by decide) ?_
      refine v_irem dX11_doTold_80 (by first | assumption | decide) ?_
      rw [e4]
      refine v_cVv [_, _, _] (q4) k7_setMark dX11_doTold_81 l11_240 hs.1.1 (by decide) rfl (Nat.le_of_ble_eq_true rfl) (Nat.le_of_ble_eq_true rfl) ?_
      refine v_aload_n dX11_doTold_84 rfl ?_
      skip
      refine v_aload_n dX11_doTold_85 rfl ?_
      refine v_getR 11 6 _ dX11_doTold_86 f11_34 (by rw [t3]; first | exact hS.1 _ _ rfl | exact hs.1.1) (by decide) (by rw [r3]; first | exact hp0 | exact hS.2 _ _ _ rfl) ?_
      refine v_getR 6 0 _ dX11_doTold_89 f11_130 (by rw [t3]; first | exact hS.1 _ _ rfl | exact hs.1.1) (by decide) (by rw [r3]; first | exact hp0 | exact hS.2 _ _ _ rfl) ?_
      refine v_aload_n dX11_doTold_92 rfl ?_
      refine v_getR 11 5 _ dX11_doTold_93 f11_27 (by rw [t3]; first | exact hS.1 _ _ rfl | exact hs.1.1) (by decide) (by rw [r3]; first | exact hp0 | exact hS.2 _ _ _ rfl) ?_
      refine v_iload_n dX11_doTold_96 rfl ?_
      refine v_bipush 100 dX11_doTold_97 (by decide) ?_
      refine v_idiv dX11_doTold_99 (by first | assumption | decide) ?_
      rw [e1]
      refine v_scVv [_, _, _] (q5) k7_learn dX11_doTold_100 l11_244 (by rw [t3]; first | exact hS.1 _ _ rfl | exact hs.1.1) (by decide) rfl (Nat.le_of_ble_eq_true rfl) (Nat.le_of_ble_eq_true rfl) ?_
      intro M4 hM4
      refine v_vret dX11_doTold_103 rfl ?_
      exact ⟨rfl, hM4.1, hM4.2⟩
    · rw [if_neg (by omega), if_pos (by omega)]
      refine v_iload_n dX11_doTold_0 rfl ?_
      refine v_iconst (-1) dX11_doTold_1 (by decide) ?_
      refine v_icmp_ne 20 dX11_doTold_2 (by decide) (fun h2 => ?_) (fun h2 => absurd (Decidable.not_not.mp h2) hne)
      refine v_iload_n dX11_doTold_20 rfl ?_
      refine v_sipush 3000 dX11_doTold_21 (by decide) ?_
      refine v_icmp_ne 46 dX11_doTold_24 (by decide) (fun h24 => ?_) (fun h24 => absurd ((nI_eq (b := 3000) (by omega) (by decide)).mp (Decidable.not_not.mp h24)) (by omega))
      refine v_iload_n dX11_doTold_46 rfl ?_
      refine v_sipush 2000 dX11_doTold_47 (by decide) ?_
      refine v_icmp_lt 65 dX11_doTold_50 (by decide) (fun h50 => absurd h50 (nI_nlt (a := m) (b := 2000) (by omega) (by omega))) (fun h50 => ?_)
      refine v_aload_n dX11_doTold_53 rfl ?_
      refine v_iload_n dX11_doTold_54 rfl ?_
      refine v_sipush 2000 dX11_doTold_55 (by decide) ?_
      refine v_isub dX11_doTold_58 ?_
      rw [show nI m - 2000 = nI (m - 2000) from pk_sub (b := 2000) m1]
      refine v_scVv [_] (c7_carryChest G M hs hW m3) k7_carryChest dX11_doTold_59 l11_235 hs.1.1 (by decide) rfl (Nat.le_of_ble_eq_true rfl) (Nat.le_of_ble_eq_true rfl) ?_
      intro M2 hM2
      refine v_goto 103 dX11_doTold_62 (by decide) ?_
      refine v_vret dX11_doTold_103 rfl ?_
      exact ⟨rfl, hM2.1.ln2, hM2.2⟩
    · subst m1
      rw [if_neg (by decide), if_neg (by decide)]
      have fin : ∀ x, x = 1 - K 94 → Rs none (fun M' => Sm (Wln s 115) M M' ∧ Str M' s (uK K 94 (1 - K 94))) none (sI M s 8 x) := fun x hx => ⟨rfl, (show Sm (Wsd s) M (sI M s 8 x) from Sm.rf.st _ (by unfold Wsd; rw [Nat.ble_eq_true_of_le (Nat.le_refl _), Nat.ble_eq_true_of_le (by omega)]; rfl)).ln2, by rw [← hx]; exact hs.lit hW.p x⟩
      rcases hW.l with e | e
      · refine v_iload_n dX11_doTold_0 rfl ?_
        refine v_iconst (-1) dX11_doTold_1 (by decide) ?_
        refine v_icmp_ne 20 dX11_doTold_2 (by decide) (fun h2 => ?_) (fun h2 => absurd (Decidable.not_not.mp h2) hne)
        refine v_iload_n dX11_doTold_20 rfl ?_
        refine v_sipush 3000 dX11_doTold_21 (by decide) ?_
        refine v_icmp_ne 46 dX11_doTold_24 (by decide) (fun h24 => absurd rfl h24) (fun h24 => ?_)
        refine v_aload_n dX11_doTold_27 rfl ?_
        refine v_aload_n dX11_doTold_28 rfl ?_
        refine v_getI 7 8 dX11_doTold_29 f11_126 hs.1.1 (by decide) ?_
        rw [hs.2.2.2.2.2.2, e]
        refine v_if_ne 39 dX11_doTold_32 (by decide) (fun h32 => absurd rfl h32) (fun h32 => ?_)
        refine v_iconst 1 dX11_doTold_35 (by decide) ?_
        refine v_goto 40 dX11_doTold_36 (by decide) ?_
        refine v_putZ 7 8 dX11_doTold_40 f11_126 hs.1.1 (by decide) (by first | assumption | decide) ?_
        refine v_goto 103 dX11_doTold_43 (by decide) ?_
        refine v_vret dX11_doTold_103 rfl ?_
        (have f := fin 1 (by rw [e]; rfl); rw [e] at f; exact f)
      · refine v_iload_n dX11_doTold_0 rfl ?_
        refine v_iconst (-1) dX11_doTold_1 (by decide) ?_
        refine v_icmp_ne 20 dX11_doTold_2 (by decide) (fun h2 => ?_) (fun h2 => absurd (Decidable.not_not.mp h2) hne)
        refine v_iload_n dX11_doTold_20 rfl ?_
        refine v_sipush 3000 dX11_doTold_21 (by decide) ?_
        refine v_icmp_ne 46 dX11_doTold_24 (by decide) (fun h24 => absurd rfl h24) (fun h24 => ?_)
        refine v_aload_n dX11_doTold_27 rfl ?_
        refine v_aload_n dX11_doTold_28 rfl ?_
        refine v_getI 7 8 dX11_doTold_29 f11_126 hs.1.1 (by decide) ?_
        rw [hs.2.2.2.2.2.2, e]
        refine v_if_ne 39 dX11_doTold_32 (by decide) (fun h32 => ?_) (fun h32 => absurd (show ¬ (1 : Int32) = 0 by decide) h32)
        refine v_iconst 0 dX11_doTold_39 (by decide) ?_
        refine v_putZ 7 8 dX11_doTold_40 f11_126 hs.1.1 (by decide) (by first | assumption | decide) ?_
        refine v_goto 103 dX11_doTold_43 (by decide) ?_
        refine v_vret dX11_doTold_103 rfl ?_
        (have f := fin 0 (by rw [e]; rfl); rw [e] at f; exact f)
theorem c11_filled (hS : Sh M) {j : Nat} (hj : j < 4) (h : gI M (222 + 2 * j) 0 = 0) : Ct G Y11_needFilledTray 9 0 0 [.ref 100, .int (nI j)] M (Rv (some (.ref (222 + 2 * j))) M) NX := by
  obtain ⟨t1, t2, t3, t4⟩ := hS.ty hj
  refine Ct.of k11_needFilledTray.1 (Nat.le_of_ble_eq_true rfl) ?_
  refine v_aload_n dX11_needFilledTray_0 rfl ?_
  refine v_iload_n dX11_needFilledTray_1 rfl ?_
  refine v_cVv [_] (c11_needTray G M (c := nI j) (inR_mk (n := 4) (nI_pos (by omega)) (nI_lt (b := 4) hj (by decide)) (by decide))) k11_needTray dX11_needFilledTray_2 l11_368 (by first | exact hS.1 _ _ rfl | assumption) (by decide) rfl (Nat.le_of_ble_eq_true rfl) (Nat.le_of_ble_eq_true rfl) ?_
  refine v_aload_n dX11_needFilledTray_5 rfl ?_
  refine v_getR 11 8 _ dX11_needFilledTray_6 f11_44 (by first | exact hS.1 _ _ rfl | assumption) (by decide) (hS.2 _ _ _ rfl) ?_
  refine v_iload_n dX11_needFilledTray_9 rfl ?_
  refine v_aald _ dX11_needFilledTray_10 (by first | exact hS.1 _ _ rfl | assumption) (by decide) (vp_in_nI hj (by decide)) t4 ?_
  refine v_astore_n dX11_needFilledTray_11 rfl (by decide) ?_
  refine v_aload_n dX11_needFilledTray_12 rfl ?_
  refine v_getI 10 0 dX11_needFilledTray_13 f11_421 t1 (by decide) ?_
  rw [h]
  refine v_if_eq 30 dX11_needFilledTray_16 (by decide) (fun h16 => ?_) (fun h16 => absurd rfl h16)
  refine v_aload_n dX11_needFilledTray_30 rfl ?_
  refine v_aret dX11_needFilledTray_31 rfl (by first | exact Or.inr ⟨_, rfl⟩ | exact Or.inl rfl) ?_
  exact ⟨rfl, rfl⟩
theorem c11_filledF (hS : Sh M) {A B : Nat → Int32} {J : Nat → Int64} (hT : MT M A B J) {t : Int32} (h : ¬ (inR 4 t = true ∧ ¬ A t.toNatClampNeg = -1)) : Ct G Y11_needFilledTray 9 1 6 [.ref 100, .int t] M (fun _ _ => False) (fun E M' => (¬ inR 4 t = true ∧ Tg nsE M E M') ∨ ((inR 4 t = true ∧ A t.toNatClampNeg = -1) ∧ Tg isE M E M')) := by
  refine Ct.of k11_needFilledTray.1 (Nat.le_of_ble_eq_true rfl) ?_
  by_cases hr : inR 4 t = true
  · have hA : A t.toNatClampNeg = -1 := Decidable.not_not.mp (fun z => h ⟨hr, z⟩)
    have hr0 := hr
    obtain ⟨j, hj, rfl, hj2⟩ := inR_of hr
    rw [nI_clamp hj2] at hA
    have hy := (hT j hj).resolve_right (fun z => z.1 hA)
    obtain ⟨t1, t2, t3, t4⟩ := hS.ty hj
    refine v_aload_n dX11_needFilledTray_0 rfl ?_
    refine v_iload_n dX11_needFilledTray_1 rfl ?_
    refine v_cVv [_] (c11_needTray G M (c := nI j) hr0) k11_needTray dX11_needFilledTray_2 l11_368 (by first | exact hS.1 _ _ rfl | assumption) (by decide) rfl (Nat.le_of_ble_eq_true rfl) (Nat.le_of_ble_eq_true rfl) ?_
    refine v_aload_n dX11_needFilledTray_5 rfl ?_
    refine v_getR 11 8 _ dX11_needFilledTray_6 f11_44 (by first | exact hS.1 _ _ rfl | assumption) (by decide) (hS.2 _ _ _ rfl) ?_
    refine v_iload_n dX11_needFilledTray_9 rfl ?_
    refine v_aald _ dX11_needFilledTray_10 (by first | exact hS.1 _ _ rfl | assumption) (by decide) (vp_in_nI hj (by decide)) t4 ?_
    refine v_astore_n dX11_needFilledTray_11 rfl (by decide) ?_
    refine v_aload_n dX11_needFilledTray_12 rfl ?_
    refine v_getI 10 0 dX11_needFilledTray_13 f11_421 t1 (by decide) ?_
    rw [hy.2]
    refine v_if_eq 30 dX11_needFilledTray_16 (by decide) (fun h16 => absurd h16 (by decide)) (fun h16 => ?_)
    exact V.post (v_throwW (cls := isE) (text := "the tray is missing") rfl (by decide +kernel) at_isek (by decide +kernel) at_ise dX11_needFilledTray_19 dX11_needFilledTray_22 dX11_needFilledTray_23 dX11_needFilledTray_26 dX11_needFilledTray_29 (by decide) (by decide) Tg.mk : V G Y11_needFilledTray 9 1 6 (fun _ _ => False) (Tg isE M) 19 _ _ M) (fun _ _ h => h) (fun E M' he => Or.inr ⟨⟨hr0, by rw [nI_clamp hj2]; exact hA⟩, he⟩)
  · refine v_aload_n dX11_needFilledTray_0 rfl ?_
    refine v_iload_n dX11_needFilledTray_1 rfl ?_
    refine v_callV [_] (c11_needTrayF G M hr) k11_needTray dX11_needFilledTray_2 l11_368 (by first | exact hS.1 _ _ rfl | assumption) (by decide) rfl (Nat.le_of_ble_eq_true rfl) (Nat.le_of_ble_eq_true rfl) (fun _ _ h => h.elim) (fun E M9 he => ?_)
    exact Or.inl ⟨hr, he⟩
theorem l11_perform {t many : Nat} (ht : t < 4) (h30 : many ≤ 30) {J : Nat → Int64} (hz0 : 248 ≤ gz M) (hm : gI M (222 + 2 * t) 1 = nI many) (hJ : ∀ k, k < 30 → gJ M (223 + 2 * t) k = J (30 * t + k)) {x : Int32} : ∀ i k M' K, k + i = many → Kp M M' → MR M' K → V G Y11_perform 40 1 6 (Qt 0 (some (.int (nI (prf (fun k => J (30 * t + k)) i k K).1))) M (prf (fun k => J (30 * t + k)) i k K).2) NX 8 [some (.ref 100), some (.int x), some (.ref (222 + 2 * t)), some (.int (nI k))] [] M' := by
  intro i
  induction i with
  | zero =>
    intro k M' K hk hkp h
    have hS := h.1
    obtain ⟨t1, t2, t3, t4⟩ := hS.ty ht
    obtain ⟨a1, a2, a3, a4⟩ := hkp.2.1 (222 + 2 * t) (by omega) (by unfold Fx; omega)
    obtain rfl : k = many := by omega
    refine v_iload_n dX11_perform_8 rfl ?_
    refine v_aload_n dX11_perform_9 rfl ?_
    refine v_getI 10 1 dX11_perform_10 f11_273 t1 (by decide) ?_
    rw [a2, hm]
    refine v_icmp_ge 67 dX11_perform_13 (by decide) (fun h13 => ?_) (fun h13 => absurd (nI_le (Nat.le_refl _) (by omega)) h13)
    refine v_iload_n dX11_perform_67 rfl ?_
    refine v_iret dX11_perform_68 rfl ?_
    exact ⟨rfl, rfl, hkp, h⟩
  | succ i ih =>
    intro k M' K hk hkp h
    have h0 := h
    have hs := h.sd
    obtain ⟨hS, hW, hz, hsc, p, cd, n, rd, l1, hp0, hp, hrd, hpa⟩ := h
    obtain ⟨t1, t2, t3, t4⟩ := hS.ty ht
    obtain ⟨a1, a2, a3, a4⟩ := hkp.2.1 (222 + 2 * t) (by omega) (by unfold Fx; omega)
    obtain ⟨b1, b2, b3, b4⟩ := hkp.2.1 (223 + 2 * t) (by omega) (by unfold Fx; omega)
    have hv : gJ M' (223 + 2 * t) k = J (30 * t + k) := by rw [b3]; exact hJ k (by omega)
    have q1 := c11_canBe G M' hS hp0 hp hW.p hs (J (30 * t + k))
    by_cases hcan : canB K (J (30 * t + k)) = true
    · rw [show prf (fun k => J (30 * t + k)) (i + 1) k K = prf (fun k => J (30 * t + k)) i (k + 1) (doK (kepK K) (J (30 * t + k)).toInt32) from if_pos hcan]
      rw [bI_t hcan] at q1
      have hok := (canB_ok hcan).keep hW
      generalize hJv : J (30 * t + k) = v at *
      refine v_iload_n dX11_perform_8 rfl ?_
      refine v_aload_n dX11_perform_9 rfl ?_
      refine v_getI 10 1 dX11_perform_10 f11_273 t1 (by decide) ?_
      rw [a2, hm]
      refine v_icmp_ge 67 dX11_perform_13 (by decide) (fun h13 => absurd ((nI_leI (by omega) (by omega)).mp h13) (by omega)) (fun h13 => ?_)
      refine v_aload_n dX11_perform_16 rfl ?_
      refine v_aload_n dX11_perform_17 rfl ?_
      refine v_getR 11 6 _ dX11_perform_18 f11_34 (by first | exact hS.1 _ _ rfl | assumption) (by decide) (by first | exact hp0 | exact hS.2 _ _ _ rfl | assumption) ?_
      refine v_getR 6 1 _ dX11_perform_21 f11_119 (by first | exact hS.1 _ _ rfl | assumption) (by decide) (by first | exact hp0 | exact hS.2 _ _ _ rfl | assumption) ?_
      refine v_aload_n dX11_perform_24 rfl ?_
      refine v_getR 10 2 _ dX11_perform_25 f11_276 t1 (by decide) t2 ?_
      refine v_iload_n dX11_perform_28 rfl ?_
      refine v_laldN (k) dX11_perform_29 t3 (by simp only [n_lit, pk_mul, nI_add]) ⟨by omega, by omega⟩ ?_
      rw [hv]
      refine v_cV [_, _] (q1) k11_canBe dX11_perform_30 l11_280 (by first | exact hS.1 _ _ rfl | assumption) (by decide) rfl (Nat.le_of_ble_eq_true rfl) (Nat.le_of_ble_eq_true rfl) ?_
      refine v_if_eq 67 dX11_perform_33 (by decide) (fun h33 => absurd h33 (by decide)) (fun h33 => ?_)
      refine v_aload_n dX11_perform_36 rfl ?_
      refine v_getR 11 6 _ dX11_perform_37 f11_34 (by first | exact hS.1 _ _ rfl | assumption) (by decide) (by first | exact hp0 | exact hS.2 _ _ _ rfl | assumption) ?_
      refine v_scVv [] (c11_rem G M' h0) k6_remember dX11_perform_40 l11_222 (by first | exact hS.1 _ _ rfl | assumption) (by decide) rfl (Nat.le_of_ble_eq_true rfl) (Nat.le_of_ble_eq_true rfl) ?_
      intro M2 hM2; have h2 := hM2.2; have hs2 := h2.sd; obtain ⟨hS', hW2, hz2, hsc2, p2, cd2, n2, rd2, l2, hq0, hq, hqrd, hqa⟩ := id h2
      skip
      obtain ⟨ap1, ap2, ap3, ap4, ap5, ap6, ap7, ap8⟩ := hqa.ap hz2
      obtain ⟨u1, u2, u3, u4⟩ := hS'.ty ht
      obtain ⟨c1, c2, c3, c4⟩ := (hkp.tr hM2.1).2.1 (223 + 2 * t) (by omega) (by unfold Fx; omega)
      have hv2 : gJ M2 (223 + 2 * t) k = v := by rw [c3, ← b3]; exact hv
      have q2 := c11_doTold G M2 hS' hq0 hq ap1 ap2 (by omega) hW2 hs2 hok
      refine v_aload_n dX11_perform_43 rfl ?_
      refine v_aload_n dX11_perform_44 rfl ?_
      refine v_getR 11 6 _ dX11_perform_45 f11_34 (hS'.1 _ _ rfl) (by decide) (hS'.2 _ _ _ rfl) ?_
      refine v_getR 6 1 _ dX11_perform_48 f11_119 (hS'.1 _ _ rfl) (by decide) (hS'.2 _ _ _ rfl) ?_
      refine v_aload_n dX11_perform_51 rfl ?_
      refine v_getR 10 2 _ dX11_perform_52 f11_276 u1 (by decide) u2 ?_
      refine v_iload_n dX11_perform_55 rfl ?_
      refine v_laldN (k) dX11_perform_56 u3 (by simp only [n_lit, pk_mul, nI_add]) ⟨by omega, by omega⟩ ?_
      rw [hv2]
      refine v_l2i dX11_perform_57 ?_
      refine v_scVv [_, _] (q2) k11_doTold dX11_perform_58 l11_284 (hS'.1 _ _ rfl) (by decide) rfl (Nat.le_of_ble_eq_true rfl) (Nat.le_of_ble_eq_true rfl) ?_
      intro M3 hM3; have m3 := h2.now hM3.1 (fun q k hq => Wln_o (by unfold Hq at hq; omega) (by unfold Hq at hq; omega) k) hM3.2.2 (hW2.dd hok) (fun i hi => doK_o hW2 hok hi)
      refine v_iinc 1 dX11_perform_61 rfl (by decide) rfl (by decide) ?_
      refine v_goto 8 dX11_perform_64 (by decide) ?_
      (rw [nI_1]; exact ih (k + 1) M3 _ (by omega) ((hkp.tr hM2.1).tr m3.1) m3.2)
    · rw [show prf (fun k => J (30 * t + k)) (i + 1) k K = (k, K) from if_neg hcan]
      rw [bI_f hcan] at q1
      generalize hJv : J (30 * t + k) = v at *
      refine v_iload_n dX11_perform_8 rfl ?_
      refine v_aload_n dX11_perform_9 rfl ?_
      refine v_getI 10 1 dX11_perform_10 f11_273 t1 (by decide) ?_
      rw [a2, hm]
      refine v_icmp_ge 67 dX11_perform_13 (by decide) (fun h13 => absurd ((nI_leI (by omega) (by omega)).mp h13) (by omega)) (fun h13 => ?_)
      refine v_aload_n dX11_perform_16 rfl ?_
      refine v_aload_n dX11_perform_17 rfl ?_
      refine v_getR 11 6 _ dX11_perform_18 f11_34 (by first | exact hS.1 _ _ rfl | assumption) (by decide) (by first | exact hp0 | exact hS.2 _ _ _ rfl | assumption) ?_
      refine v_getR 6 1 _ dX11_perform_21 f11_119 (by first | exact hS.1 _ _ rfl | assumption) (by decide) (by first | exact hp0 | exact hS.2 _ _ _ rfl | assumption) ?_
      refine v_aload_n dX11_perform_24 rfl ?_
      refine v_getR 10 2 _ dX11_perform_25 f11_276 t1 (by decide) t2 ?_
      refine v_iload_n dX11_perform_28 rfl ?_
      refine v_laldN (k) dX11_perform_29 t3 (by simp only [n_lit, pk_mul, nI_add]) ⟨by omega, by omega⟩ ?_
      rw [hv]
      refine v_cV [_, _] (q1) k11_canBe dX11_perform_30 l11_280 (by first | exact hS.1 _ _ rfl | assumption) (by decide) rfl (Nat.le_of_ble_eq_true rfl) (Nat.le_of_ble_eq_true rfl) ?_
      refine v_if_eq 67 dX11_perform_33 (by decide) (fun h33 => ?_) (fun h33 => absurd rfl h33)
      refine v_iload_n dX11_perform_67 rfl ?_
      refine v_iret dX11_perform_68 rfl ?_
      exact ⟨rfl, rfl, hkp, h0⟩
/-- of a tray: no such one, missing, or there -/
def tFA (A : Nat → Int32) (t : Int32) : Int32 := if inR 4 t = true then (if A t.toNatClampNeg = -1 then 2 else 0) else 1
theorem tFA_n {A : Nat → Int32} {t : Int32} (h : ¬ tFA A t = 0) : ¬ (inR 4 t = true ∧ ¬ A t.toNatClampNeg = -1) := fun z => h (by rw [tFA, if_pos z.1, if_neg z.2])
theorem tFA_y {A : Nat → Int32} {t : Int32} (h : tFA A t = 0) : ∃ j, j < 4 ∧ t = nI j ∧ j < 2 ^ 31 ∧ ¬ A j = -1 := by
  unfold tFA at h
  split at h
  · rename_i hr
    obtain ⟨j, hj, rfl, hj2⟩ := inR_of hr
    rw [nI_clamp hj2] at h
    split at h
    · cases h
    · rename_i hA; exact ⟨j, hj, rfl, hj2, hA⟩
  · cases h
theorem Xt.ty {l : List (Int32 × String)} {A : Nat → Int32} {t : Int32} {E : String} {M' : mM} (h : (¬ inR 4 t = true ∧ Tg nsE M E M') ∨ ((inR 4 t = true ∧ A t.toNatClampNeg = -1) ∧ Tg isE M E M')) (l1 : (1, nsE) ∈ l) (l2 : (2, isE) ∈ l) : Xt l (tFA A t) M E M' := by
  rcases h with ⟨a, b⟩ | ⟨a, b⟩
  · exact Xt.of b (by rw [tFA, if_neg a]; exact l1)
  · exact Xt.of b (by rw [tFA, if_pos a.1, if_pos a.2]; exact l2)
theorem c11_perform {K : Nat → Int32} (h : MR M K) {A B : Nat → Int32} {J : Nat → Int64} (hT : MT M A B J) (hB : ∀ t, t < 4 → B t = nI (kn B t) ∧ kn B t ≤ 30) (t : Int32) : Ct G Y11_perform 40 1 6 [.ref 100, .int t] M (Qt (tFA A t) (some (.int (nI (prf (fun k => J (30 * t.toNatClampNeg + k)) (kn B t.toNatClampNeg) 0 K).1))) M (prf (fun k => J (30 * t.toNatClampNeg + k)) (kn B t.toNatClampNeg) 0 K).2) (Xt [(1, nsE), (2, isE)] (tFA A t) M) := by
  have h0 := h
  have hS := h.1
  have hz := h.2.2.1
  refine Ct.of k11_perform.1 (Nat.le_of_ble_eq_true rfl) ?_
  by_cases ht : tFA A t = 0
  · obtain ⟨j, hj, rfl, hj2, hA⟩ := tFA_y ht
    rw [ht, nI_clamp hj2]
    have hy := (hT j hj).resolve_left (fun z => hA z.1)
    refine v_aload_n dX11_perform_0 rfl ?_
    refine v_iload_n dX11_perform_1 rfl ?_
    refine v_cV [_] (c11_filled G M hS hj hy.2.1) k11_needFilledTray dX11_perform_2 l11_265 (by first | exact hS.1 _ _ rfl | assumption) (by decide) rfl (Nat.le_of_ble_eq_true rfl) (Nat.le_of_ble_eq_true rfl) ?_
    refine v_astore_n dX11_perform_5 rfl (by decide) ?_
    refine v_iconst 0 dX11_perform_6 (by decide) ?_
    refine v_istore_n dX11_perform_7 rfl (by decide) ?_
    exact V.post (l11_perform G M hj (hB j hj).2 hz (by rw [hy.2.2.1]; exact (hB j hj).1) hy.2.2.2.2 (kn B j) 0 M K (by omega) Kp.rf h0) (fun _ _ h => h) (fun _ _ h => h.elim)
  · refine v_aload_n dX11_perform_0 rfl ?_
    refine v_iload_n dX11_perform_1 rfl ?_
    refine v_callV [_] (c11_filledF G M hS hT (tFA_n ht)) k11_needFilledTray dX11_perform_2 l11_265 (by first | exact hS.1 _ _ rfl | assumption) (by decide) rfl (Nat.le_of_ble_eq_true rfl) (Nat.le_of_ble_eq_true rfl) (fun _ _ h => h.elim) (fun E M9 he => ?_)
    exact Xt.ty M he (by simp) (by simp)
end O7
