/-! ===== the class LeastWords: judge, night ===== -/
theorem doK_n {K : Nat → Int32} {m : Nat} (hm : m < 3001) : doK K (nI m) = if m < 2000 then uK K (9 + 6 * (m / 100) + m / 10 % 10) (nI (m % 10)) else if m < 3000 then carK K (m - 2000) else uK K 94 (1 - K 94) := by
  have hne : ¬ nI m = -1 := nI_m1 (by omega)
  unfold doK
  rw [if_neg hne, nI_clamp (by omega)]
  by_cases a : m < 2000
  · rw [if_pos a, if_pos (show nI m < (2000 : Int32) from nI_lt (b := 2000) a (by decide))]
  · rw [if_neg a, if_neg (show ¬ nI m < (2000 : Int32) from nI_nlt (a := m) (b := 2000) (by omega) (by omega))]
    by_cases b : m < 3000
    · rw [if_pos b, if_pos (show nI m < (3000 : Int32) from nI_lt (b := 3000) b (by decide))]
    · rw [if_neg b, if_neg (show ¬ nI m < (3000 : Int32) from nI_nlt (a := m) (b := 3000) (by omega) (by omega))]
def tJA (A : Nat → Int32) (t w : Int32) : Int32 := if tFA A t = 0 then (if inR 4 w = true then 0 else 3) else tFA A t
def rJA (r : Int32 × (Nat → Int32)) (w : Int32) : Int32 := if w = 0 then r.1 else if w = 1 then (if r.1 = -1 then 0 else 1) else if w = 2 then r.2 93 else r.2 96
section O8
variable (G : mG) (M : mM)
theorem l11_judge {K : Nat → Int32} (h : MR M K) {t many : Nat} (ht : t < 4) (h30 : many ≤ 30) {J : Nat → Int64} (hm : gI M (222 + 2 * t) 1 = nI many) (hJ : ∀ k, k < 30 → gJ M (223 + 2 * t) k = J (30 * t + k)) {x w : Int32} {Q : Option Value → mM → Prop} {X : String → mM → Prop} : ∀ i k M' K2, k + i = many → Sm (Wln 195 115) M M' → Str M' 195 K2 → WK K2 → (∀ i, (i < 9 ∨ 109 ≤ i) → K2 i = K i) →
    (∀ M2 k2, Sm (Wln 195 115) M M2 → Str M2 195 (jdF (fun k => J (30 * t + k)) i k K2).2 → V G Y11_judge 40 1 6 Q X 94 [some (.ref 100), some (.int x), some (.int w), some (.ref (222 + 2 * t)), some (.int (jdF (fun k => J (30 * t + k)) i k K2).1), some (.int k2)] [] M2) →
    V G Y11_judge 40 1 6 Q X 32 [some (.ref 100), some (.int x), some (.int w), some (.ref (222 + 2 * t)), some (.int (-1)), some (.int (nI k))] [] M' := by
  have hS0 := h.1
  have hW0 := h.2.1
  obtain ⟨-, -, hz, -, p, cd, n, rd, l1, hp00, hp1, hrd, hpa⟩ := h
  obtain ⟨ap1, ap2, ap3, ap4, ap5, ap6, ap7, ap8⟩ := hpa.ap hz
  intro i
  induction i with
  | zero =>
    intro k M' K2 hk e hs hW hK kk
    have hS := hS0.sm e
    obtain ⟨t1, t2, t3, t4⟩ := hS.ty ht
    have a2 : gI M' (222 + 2 * t) 1 = nI many := (e.2.2.2.2 _ 1 (Wln_o (by omega) (by omega) 1)).trans hm
    obtain rfl : k = many := by omega
    refine v_iload dX11_judge_32 rfl ?_
    refine v_aload_n dX11_judge_34 rfl ?_
    refine v_getI 10 1 dX11_judge_35 f11_273 t1 (by decide) ?_
    rw [a2]
    refine v_icmp_ge 94 dX11_judge_38 (by decide) (fun h38 => ?_) (fun h38 => absurd (nI_le (Nat.le_refl _) (by omega)) h38)
    exact kk M' _ e hs
  | succ i ih =>
    intro k M' K2 hk e hs hW hK kk
    have hS := hS0.sm e
    obtain ⟨t1, t2, t3, t4⟩ := hS.ty ht
    have a2 : gI M' (222 + 2 * t) 1 = nI many := (e.2.2.2.2 _ 1 (Wln_o (by omega) (by omega) 1)).trans hm
    have hv : gJ M' (223 + 2 * t) k = J (30 * t + k) := by rw [e.2.2.1]; exact hJ k (by omega)
    have hp0 : gR M' 118 0 = some p := by rw [e.2.2.2.1]; exact hp00
    have hp := (hp1.ln ap1 ap3 e).ck hW0.p (K' := K2) (fun i hi => hK i (by omega))
    have q1 := c11_canBe G M' hS hp0 hp hW.p hs (J (30 * t + k))
    by_cases hcan : canB K2 (J (30 * t + k)) = true
    · rw [show jdF (fun k => J (30 * t + k)) (i + 1) k K2 = jdF (fun k => J (30 * t + k)) i (k + 1) (doK K2 (J (30 * t + k)).toInt32) from if_pos hcan] at kk
      rw [bI_t hcan] at q1
      have hok := canB_ok hcan
      have q2 := c11_doTold G M' hS hp0 hp ap1 ap3 (by omega) hW hs hok
      have hn := fun M3 m3 s3 => ih (k + 1) M3 (doK K2 (J (30 * t + k)).toInt32) (by omega) m3 s3 (hW.dd hok) (fun i hi => (doK_o hW hok hi).trans (hK i hi)) kk
      clear kk ih
      generalize hJv : J (30 * t + k) = v at *
      refine v_iload dX11_judge_32 rfl ?_
      refine v_aload_n dX11_judge_34 rfl ?_
      refine v_getI 10 1 dX11_judge_35 f11_273 t1 (by decide) ?_
      rw [a2]
      refine v_icmp_ge 94 dX11_judge_38 (by decide) (fun h38 => absurd ((nI_leI (by omega) (by omega)).mp h38) (by omega)) (fun h38 => ?_)
      refine v_iload dX11_judge_41 rfl ?_
      refine v_iconst (-1) dX11_judge_43 (by decide) ?_
      refine v_icmp_ne 94 dX11_judge_44 (by decide) (fun h44 => absurd rfl h44) (fun h44 => ?_)
      refine v_aload_n dX11_judge_47 rfl ?_
      refine v_aload_n dX11_judge_48 rfl ?_
      refine v_getR 11 9 _ dX11_judge_49 f11_51 (by first | exact hS.1 _ _ rfl | assumption) (by decide) (by first | exact hp0 | exact hS.2 _ _ _ rfl | assumption) ?_
      refine v_aload_n dX11_judge_52 rfl ?_
      refine v_getR 10 2 _ dX11_judge_53 f11_276 t1 (by decide) t2 ?_
      refine v_iload dX11_judge_56 rfl ?_
      refine v_laldN (k) dX11_judge_58 t3 (by simp only [n_lit, pk_mul, nI_add]) ⟨by omega, by omega⟩ ?_
      rw [hv]
      refine v_cV [_, _] (q1) k11_canBe dX11_judge_59 l11_280 (by first | exact hS.1 _ _ rfl | assumption) (by decide) rfl (Nat.le_of_ble_eq_true rfl) (Nat.le_of_ble_eq_true rfl) ?_
      refine v_if_eq 84 dX11_judge_62 (by decide) (fun h62 => absurd h62 (by decide)) (fun h62 => ?_)
      refine v_aload_n dX11_judge_65 rfl ?_
      refine v_aload_n dX11_judge_66 rfl ?_
      refine v_getR 11 9 _ dX11_judge_67 f11_51 (by first | exact hS.1 _ _ rfl | assumption) (by decide) (by first | exact hp0 | exact hS.2 _ _ _ rfl | assumption) ?_
      refine v_aload_n dX11_judge_70 rfl ?_
      refine v_getR 10 2 _ dX11_judge_71 f11_276 t1 (by decide) t2 ?_
      refine v_iload dX11_judge_74 rfl ?_
      refine v_laldN (k) dX11_judge_76 t3 (by simp only [n_lit, pk_mul, nI_add]) ⟨by omega, by omega⟩ ?_
      rw [hv]
      refine v_l2i dX11_judge_77 ?_
      refine v_scVv [_, _] (q2) k11_doTold dX11_judge_78 l11_284 (by first | exact hS.1 _ _ rfl | assumption) (by decide) rfl (Nat.le_of_ble_eq_true rfl) (Nat.le_of_ble_eq_true rfl) ?_
      intro M3 hM3
      refine v_goto 88 dX11_judge_81 (by decide) ?_
      refine v_iinc 1 dX11_judge_88 rfl (by decide) rfl (by decide) ?_
      refine v_goto 32 dX11_judge_91 (by decide) ?_
      (rw [nI_1]; exact hn M3 (e.tr hM3.1) hM3.2)
    · rw [show jdF (fun k => J (30 * t + k)) (i + 1) k K2 = (nI k, K2) from if_neg hcan] at kk
      rw [bI_f hcan] at q1
      have bad : V G Y11_judge 40 1 6 Q X 32 [some (.ref 100), some (.int x), some (.int w), some (.ref (222 + 2 * t)), some (.int (nI k)), some (.int (nI (k + 1)))] [] M' := by
        have kk := kk M' (nI (k + 1)) e hs
        clear ih
        refine v_iload dX11_judge_32 rfl ?_
        refine v_aload_n dX11_judge_34 rfl ?_
        refine v_getI 10 1 dX11_judge_35 f11_273 t1 (by decide) ?_
        rw [a2]
        refine v_icmp_ge 94 dX11_judge_38 (by decide) (fun h38 => ?_) (fun h38 => ?_)
        · exact kk
        · refine v_iload dX11_judge_41 rfl ?_
          refine v_iconst (-1) dX11_judge_43 (by decide) ?_
          refine v_icmp_ne 94 dX11_judge_44 (by decide) (fun h44 => ?_) (fun h44 => absurd (Decidable.not_not.mp h44) (nI_m1 (by omega)))
          exact kk
      clear kk ih
      generalize hJv : J (30 * t + k) = v at *
      refine v_iload dX11_judge_32 rfl ?_
      refine v_aload_n dX11_judge_34 rfl ?_
      refine v_getI 10 1 dX11_judge_35 f11_273 t1 (by decide) ?_
      rw [a2]
      refine v_icmp_ge 94 dX11_judge_38 (by decide) (fun h38 => absurd ((nI_leI (by omega) (by omega)).mp h38) (by omega)) (fun h38 => ?_)
      refine v_iload dX11_judge_41 rfl ?_
      refine v_iconst (-1) dX11_judge_43 (by decide) ?_
      refine v_icmp_ne 94 dX11_judge_44 (by decide) (fun h44 => absurd rfl h44) (fun h44 => ?_)
      refine v_aload_n dX11_judge_47 rfl ?_
      refine v_aload_n dX11_judge_48 rfl ?_
      refine v_getR 11 9 _ dX11_judge_49 f11_51 (by first | exact hS.1 _ _ rfl | assumption) (by decide) (by first | exact hp0 | exact hS.2 _ _ _ rfl | assumption) ?_
      refine v_aload_n dX11_judge_52 rfl ?_
      refine v_getR 10 2 _ dX11_judge_53 f11_276 t1 (by decide) t2 ?_
      refine v_iload dX11_judge_56 rfl ?_
      refine v_laldN (k) dX11_judge_58 t3 (by simp only [n_lit, pk_mul, nI_add]) ⟨by omega, by omega⟩ ?_
      rw [hv]
      refine v_cV [_, _] (q1) k11_canBe dX11_judge_59 l11_280 (by first | exact hS.1 _ _ rfl | assumption) (by decide) rfl (Nat.le_of_ble_eq_true rfl) (Nat.le_of_ble_eq_true rfl) ?_
      refine v_if_eq 84 dX11_judge_62 (by decide) (fun h62 => ?_) (fun h62 => absurd rfl h62)
      refine v_iload dX11_judge_84 rfl ?_
      refine v_istore dX11_judge_86 rfl (by decide) ?_
      refine v_iinc 1 dX11_judge_88 rfl (by decide) rfl (by decide) ?_
      refine v_goto 32 dX11_judge_91 (by decide) ?_
      (rw [nI_1]; exact bad)
theorem c11_judge {K : Nat → Int32} (h : MR M K) {A B : Nat → Int32} {J : Nat → Int64} (hT : MT M A B J) (hB : ∀ t, t < 4 → B t = nI (kn B t) ∧ kn B t ≤ 30) (t w : Int32) : Ct G Y11_judge 40 1 6 [.ref 100, .int t, .int w] M (Qt (tJA A t w) (some (.int (rJA (jdF (fun k => J (30 * t.toNatClampNeg + k)) (kn B t.toNatClampNeg) 0 K) w))) M K) (Xt [(1, nsE), (2, isE), (3, iaE)] (tJA A t w) M) := by
  have h0 := h
  have hs := h.sd
  have hS := h.1
  have hW := h.2.1
  refine Ct.of k11_judge.1 (Nat.le_of_ble_eq_true rfl) ?_
  by_cases ht : tFA A t = 0
  · have ht0 := ht
    obtain ⟨j, hj, rfl, hj2, hA⟩ := tFA_y ht
    have hy := (hT j hj).resolve_left (fun z => hA z.1)
    have q0 := c11_filled G M hS hj hy.2.1
    by_cases hw : inR 4 w = true
    · have q1 := c11_needWhat G M (n := 3) (by decide) hw
      rw [show tJA A (nI j) w = 0 by rw [tJA, if_pos ht0, if_pos hw], nI_clamp hj2]
      have fin : ∀ M2, Sm (Wln 195 115) M M2 → Kp M M2 ∧ MR M2 K := fun M2 e => h0.sj (W := Wln 195 115) (J := J202) e.j (fun q k hq => Wln_o (by unfold Hq at hq; omega) (by unfold Hq at hq; omega) k) (fun q k hq => nbeq_f (by unfold Hq at hq; omega))
      have hl := fun M' e s2 => l11_judge G M h0 hj (hB j hj).2 (by rw [hy.2.2.1]; exact (hB j hj).1) hy.2.2.2.2 (x := nI j) (w := w) (Q := Qt 0 (some (.int (rJA (jdF (fun k => J (30 * j + k)) (kn B j) 0 K) w))) M K) (X := Xt [(1, nsE), (2, isE), (3, iaE)] 0 M) (kn B j) 0 M' K (by omega) e s2 hW (fun _ _ => rfl)
      have hto := c7_takeFrom G M hS.tr hs (by omega) hW.l hW.p.2.1.2
      generalize jdF (fun k => J (30 * j + k)) (kn B j) 0 K = R at *
      refine v_aload_n dX11_judge_0 rfl ?_
      refine v_iload_n dX11_judge_1 rfl ?_
      refine v_cV [_] (q0) k11_needFilledTray dX11_judge_2 l11_265 (by first | exact hS.1 _ _ rfl | assumption) (by decide) rfl (Nat.le_of_ble_eq_true rfl) (Nat.le_of_ble_eq_true rfl) ?_
      refine v_astore_n dX11_judge_5 rfl (by decide) ?_
      refine v_aload_n dX11_judge_6 rfl ?_
      refine v_iload_n dX11_judge_7 rfl ?_
      refine v_iconst 3 dX11_judge_8 (by decide) ?_
      refine v_cVv [_, _] (q1) k11_needWhat dX11_judge_9 l11_137 (by first | exact hS.1 _ _ rfl | assumption) (by decide) rfl (Nat.le_of_ble_eq_true rfl) (Nat.le_of_ble_eq_true rfl) ?_
      refine v_aload_n dX11_judge_12 rfl ?_
      refine v_getR 11 9 _ dX11_judge_13 f11_51 (by first | exact hS.1 _ _ rfl | assumption) (by decide) (hS.2 _ _ _ rfl) ?_
      refine v_aload_n dX11_judge_16 rfl ?_
      refine v_getR 11 6 _ dX11_judge_17 f11_34 (by first | exact hS.1 _ _ rfl | assumption) (by decide) (hS.2 _ _ _ rfl) ?_
      refine v_getR 6 1 _ dX11_judge_20 f11_119 (by first | exact hS.1 _ _ rfl | assumption) (by decide) (hS.2 _ _ _ rfl) ?_
      refine v_scVv [_] (hto) k7_takeFrom dX11_judge_23 l11_269 (by first | exact hS.1 _ _ rfl | assumption) (by decide) rfl (Nat.le_of_ble_eq_true rfl) (Nat.le_of_ble_eq_true rfl) ?_
      intro M1 hM1
      refine v_iconst (-1) dX11_judge_26 (by decide) ?_
      refine v_istore dX11_judge_27 rfl (by decide) ?_
      refine v_iconst 0 dX11_judge_29 (by decide) ?_
      refine v_istore dX11_judge_30 rfl (by decide) ?_
      refine hl M1 hM1.1.ln2 hM1.2 (fun M2 k2 e s2 => ?_)
      have hS' := hS.sm e
      obtain ⟨f1, f2⟩ := fin M2 e
      obtain ⟨k, hk, rfl, hk2⟩ := inR_of hw
      obtain rfl | rfl | rfl | rfl : k = 0 ∨ k = 1 ∨ k = 2 ∨ k = 3 := by omega
      · refine v_iload_n dX11_judge_94 rfl ?_
        refine v_if_ne 101 dX11_judge_95 (by decide) (fun h95 => absurd (by decide) h95) (fun h95 => ?_)
        refine v_iload dX11_judge_98 rfl ?_
        refine v_iret dX11_judge_100 rfl ?_
        exact ⟨rfl, by rw [rJA, if_pos (by decide)], f1, f2⟩
      · by_cases hr : R.1 = -1
        · refine v_iload_n dX11_judge_94 rfl ?_
          refine v_if_ne 101 dX11_judge_95 (by decide) (fun h95 => ?_) (fun h95 => absurd (show ¬ nI 1 = 0 by decide) h95)
          refine v_iload_n dX11_judge_101 rfl ?_
          refine v_iconst 1 dX11_judge_102 (by decide) ?_
          refine v_icmp_ne 118 dX11_judge_103 (by decide) (fun h103 => absurd (by decide) h103) (fun h103 => ?_)
          refine v_iload dX11_judge_106 rfl ?_
          refine v_iconst (-1) dX11_judge_108 (by decide) ?_
          refine v_icmp_ne 116 dX11_judge_109 (by decide) (fun h109 => absurd hr h109) (fun h109 => ?_)
          refine v_iconst 0 dX11_judge_112 (by decide) ?_
          refine v_goto 117 dX11_judge_113 (by decide) ?_
          refine v_iret dX11_judge_117 rfl ?_
          exact ⟨rfl, by rw [rJA, if_neg (by decide), if_pos (by decide), if_pos hr], f1, f2⟩
        · refine v_iload_n dX11_judge_94 rfl ?_
          refine v_if_ne 101 dX11_judge_95 (by decide) (fun h95 => ?_) (fun h95 => absurd (show ¬ nI 1 = 0 by decide) h95)
          refine v_iload_n dX11_judge_101 rfl ?_
          refine v_iconst 1 dX11_judge_102 (by decide) ?_
          refine v_icmp_ne 118 dX11_judge_103 (by decide) (fun h103 => absurd (by decide) h103) (fun h103 => ?_)
          refine v_iload dX11_judge_106 rfl ?_
          refine v_iconst (-1) dX11_judge_108 (by decide) ?_
          refine v_icmp_ne 116 dX11_judge_109 (by decide) (fun h109 => ?_) (fun h109 => absurd (Decidable.not_not.mp h109) hr)
          refine v_iconst 1 dX11_judge_116 (by decide) ?_
          refine v_iret dX11_judge_117 rfl ?_
          exact ⟨rfl, by rw [rJA, if_neg (by decide), if_pos (by decide), if_neg hr], f1, f2⟩
      · refine v_iload_n dX11_judge_94 rfl ?_
        refine v_if_ne 101 dX11_judge_95 (by decide) (fun h95 => ?_) (fun h95 => absurd (show ¬ nI 2 = 0 by decide) h95)
        refine v_iload_n dX11_judge_101 rfl ?_
        refine v_iconst 1 dX11_judge_102 (by decide) ?_
        refine v_icmp_ne 118 dX11_judge_103 (by decide) (fun h103 => ?_) (fun h103 => absurd (show ¬ nI 2 = 1 by decide) h103)
        refine v_iload_n dX11_judge_118 rfl ?_
        refine v_iconst 2 dX11_judge_119 (by decide) ?_
        refine v_icmp_ne 133 dX11_judge_120 (by decide) (fun h120 => absurd (by decide) h120) (fun h120 => ?_)
        refine v_aload_n dX11_judge_123 rfl ?_
        refine v_getR 11 9 _ dX11_judge_124 f11_51 (hS'.1 _ _ rfl) (by decide) (hS'.2 _ _ _ rfl) ?_
        refine v_getI 7 5 dX11_judge_127 f11_288 (hS'.1 _ _ rfl) (by decide) ?_
        refine v_goto 140 dX11_judge_130 (by decide) ?_
        rw [s2.2.2.2.1]
        refine v_iret dX11_judge_140 rfl ?_
        exact ⟨rfl, by rw [rJA, if_neg (by decide), if_neg (by decide), if_pos (by decide)], f1, f2⟩
      · refine v_iload_n dX11_judge_94 rfl ?_
        refine v_if_ne 101 dX11_judge_95 (by decide) (fun h95 => ?_) (fun h95 => absurd (show ¬ nI 3 = 0 by decide) h95)
        refine v_iload_n dX11_judge_101 rfl ?_
        refine v_iconst 1 dX11_judge_102 (by decide) ?_
        refine v_icmp_ne 118 dX11_judge_103 (by decide) (fun h103 => ?_) (fun h103 => absurd (show ¬ nI 3 = 1 by decide) h103)
        refine v_iload_n dX11_judge_118 rfl ?_
        refine v_iconst 2 dX11_judge_119 (by decide) ?_
        refine v_icmp_ne 133 dX11_judge_120 (by decide) (fun h120 => ?_) (fun h120 => absurd (show ¬ nI 3 = 2 by decide) h120)
        refine v_aload_n dX11_judge_133 rfl ?_
        refine v_getR 11 9 _ dX11_judge_134 f11_51 (hS'.1 _ _ rfl) (by decide) (hS'.2 _ _ _ rfl) ?_
        refine v_getI 7 6 dX11_judge_137 f11_228 (hS'.1 _ _ rfl) (by decide) ?_
        rw [s2.2.2.2.2.1]
        refine v_iret dX11_judge_140 rfl ?_
        exact ⟨rfl, by rw [rJA, if_neg (by decide), if_neg (by decide), if_neg (by decide)], f1, f2⟩
    · have ht3 : tJA A (nI j) w = 3 := by rw [tJA, if_pos ht0, if_neg hw]
      rw [ht3]
      refine v_aload_n dX11_judge_0 rfl ?_
      refine v_iload_n dX11_judge_1 rfl ?_
      refine v_cV [_] (q0) k11_needFilledTray dX11_judge_2 l11_265 (by first | exact hS.1 _ _ rfl | assumption) (by decide) rfl (Nat.le_of_ble_eq_true rfl) (Nat.le_of_ble_eq_true rfl) ?_
      refine v_astore_n dX11_judge_5 rfl (by decide) ?_
      refine v_aload_n dX11_judge_6 rfl ?_
      refine v_iload_n dX11_judge_7 rfl ?_
      refine v_iconst 3 dX11_judge_8 (by decide) ?_
      refine v_callV [_, _] (c11_needWhatF G M (n := 3) (by decide) hw) k11_needWhat dX11_judge_9 l11_137 (by first | exact hS.1 _ _ rfl | assumption) (by decide) rfl (Nat.le_of_ble_eq_true rfl) (Nat.le_of_ble_eq_true rfl) (fun _ _ h => h.elim) (fun E M9 he => ?_)
      exact Xt.of he (by simp)
  · rw [show tJA A t w = tFA A t from if_neg ht]
    refine v_aload_n dX11_judge_0 rfl ?_
    refine v_iload_n dX11_judge_1 rfl ?_
    refine v_callV [_] (c11_filledF G M hS hT (tFA_n ht)) k11_needFilledTray dX11_judge_2 l11_265 (by first | exact hS.1 _ _ rfl | assumption) (by decide) rfl (Nat.le_of_ble_eq_true rfl) (Nat.le_of_ble_eq_true rfl) (fun _ _ h => h.elim) (fun E M9 he => ?_)
    exact Xt.ty M he (by simp) (by simp)
theorem c11_afterDraw (x : Int32) : Ct G Y11_afterDraw 0 0 0 [.int x] M (Rv (some (.int (drI x))) M) NX := by
  refine Ct.of k11_afterDraw.1 (Nat.le_of_ble_eq_true rfl) ?_
  refine v_ldcw 1103515245 dX11_afterDraw_0 K11_318 ?_
  refine v_iload_n dX11_afterDraw_3 rfl ?_
  refine v_imul dX11_afterDraw_4 ?_
  refine v_sipush 12345 dX11_afterDraw_5 (by decide) ?_
  refine v_iadd dX11_afterDraw_8 ?_
  refine v_iret dX11_afterDraw_9 rfl ?_
  exact ⟨rfl, rfl⟩
theorem l11_night {T nc nm : Nat} (hT : T ≤ 30) (hc0 : 0 < nc) {sd : Int32} : ∀ i k M' K x (o7 o8 o9 : Option Value), k + i = T → Kp M M' → MR M' K → kn K 2 = nc → kn K 1 = nm → V G Y11_night 40 1 6 (Qt 0 (some (.int (nI T))) M (ntF nc nm i x K)) NX 73 [some (.ref 100), some (.int sd), some (.int (nI T)), some (.int (nI nc)), some (.int (nI nm)), some (.int x), some (.int (nI k)), o7, o8, o9] [] M' := by
  intro i
  induction i with
  | zero =>
    intro k M' K x o7 o8 o9 hk hkp h _ _
    obtain rfl : k = T := by omega
    refine v_iload dX11_night_73 rfl ?_
    refine v_iload_n dX11_night_75 rfl ?_
    refine v_icmp_ge 250 dX11_night_76 (by decide) (fun h76 => ?_) (fun h76 => absurd (nI_le (Nat.le_refl _) (by omega)) h76)
    refine v_iload_n dX11_night_250 rfl ?_
    refine v_iret dX11_night_251 rfl ?_
    exact ⟨rfl, rfl, hkp, h⟩
  | succ i ih =>
    intro k M' K x o7 o8 o9 hk hkp h hnc hnm
    have h0 := h
    obtain ⟨hS, hW, hz, -⟩ := h
    have h14 : nc ≤ 14 := by rw [← hnc]; exact hW.p.2.1.2
    have h6 : 1 ≤ nm ∧ nm ≤ 6 := by rw [← hnm]; exact hW.p.1.2
    have z1 : ¬ nI nc = 0 := nI_ne0 hc0 (by omega)
    have z2 : ¬ nI nm = 0 := nI_ne0 (by omega) (by omega)
    have hn := ih (k + 1)
    have u := fun y => ush16 y
    rw [show ntF nc nm (i + 1) x K = ntF nc nm i (ntV nc nm x).1 (doK (kepK K) (nI (ntV nc nm x).2)) from rfl]
    have v1 : drN (drI x) % 3 = 0 → ntV nc nm x = (drI x, 3000) := fun e => by rw [ntV, if_pos e]
    have v2 : drN (drI x) % 3 = 1 → ntV nc nm x = (drI (drI (drI (drI x))), 100 * (drN (drI (drI x)) % nc) + 10 * (drN (drI (drI (drI x))) % nm) + drN (drI (drI (drI (drI x)))) % 10) := fun e => by rw [ntV, if_neg (by omega), if_pos e]
    have v3 : drN (drI x) % 3 = 2 → ntV nc nm x = (drI (drI x), 2000 + drN (drI (drI x)) % nc) := fun e => by rw [ntV, if_neg (by omega), if_neg (by omega)]
    generalize e1 : drI x = x1 at *
    generalize e2 : drI x1 = x2 at *
    generalize e3 : drI x2 = x3 at *
    generalize e4 : drI x3 = x4 at *
    have r3 := Nat.mod_lt (drN x1) (show 0 < 3 by decide)
    have m1 : nI (drN x1) - nI (drN x1) / 3 * 3 = nI (drN x1 % 3) := pk_rem (d := 3) (by have := (u x1).2; omega) (by decide) (by decide)
    have m2 : nI (drN x2) - nI (drN x2) / nI nc * nI nc = nI (drN x2 % nc) := pk_rem (by have := (u x2).2; omega) hc0 (by omega)
    have m3 : nI (drN x3) - nI (drN x3) / nI nm * nI nm = nI (drN x3 % nm) := pk_rem (by have := (u x3).2; omega) (by omega) (by omega)
    have m4 : nI (drN x4) - nI (drN x4) / 10 * 10 = nI (drN x4 % 10) := pk_rem (d := 10) (by have := (u x4).2; omega) (by decide) (by decide)
    have b2 := Nat.mod_lt (drN x2) hc0
    have b3 := Nat.mod_lt (drN x3) (show 0 < nm by omega)
    have b4 := Nat.mod_lt (drN x4) (show 0 < 10 by decide)
    have s1 : (x1.toUInt32 >>> ((16 : Int32).toUInt32 &&& Int32.toUInt32 31)).toInt32 = nI (drN x1) := (u x1).1
    have s2 : (x2.toUInt32 >>> ((16 : Int32).toUInt32 &&& Int32.toUInt32 31)).toInt32 = nI (drN x2) := (u x2).1
    have s3 : (x3.toUInt32 >>> ((16 : Int32).toUInt32 &&& Int32.toUInt32 31)).toInt32 = nI (drN x3) := (u x3).1
    have s4 : (x4.toUInt32 >>> ((16 : Int32).toUInt32 &&& Int32.toUInt32 31)).toInt32 = nI (drN x4) := (u x4).1
    generalize g1 : drN x1 % 3 = a1 at *
    generalize g2 : drN x2 % nc = a2 at *
    generalize g3 : drN x3 % nm = a3 at *
    generalize g4 : drN x4 % 10 = a4 at *
    refine v_iload dX11_night_73 rfl ?_
    refine v_iload_n dX11_night_75 rfl ?_
    refine v_icmp_ge 250 dX11_night_76 (by decide) (fun h76 => absurd ((nI_leI (by omega) (by omega)).mp h76) (by omega)) (fun h76 => ?_)
    refine v_aload_n dX11_night_79 rfl ?_
    refine v_getR 11 6 _ dX11_night_80 f11_34 (by first | exact hS.1 _ _ rfl | assumption) (by decide) (by first | exact hp0 | exact hS.2 _ _ _ rfl | assumption) ?_
    refine v_scVv [] (c11_rem G M' h0) k6_remember dX11_night_83 l11_222 (by first | exact hS.1 _ _ rfl | assumption) (by decide) rfl (Nat.le_of_ble_eq_true rfl) (Nat.le_of_ble_eq_true rfl) ?_
    intro M2 hM2; have h2 := hM2.2; have hs2 := h2.sd; obtain ⟨hS', hW2, hz2, hsc2, p2, cd2, n2, rd2, l2, hq0, hq, hqrd, hqa⟩ := id h2
    skip
    have d1 := c11_afterDraw G M2 x
    have d2 := c11_afterDraw G M2 x1
    have d3 := c11_afterDraw G M2 x2
    have d4 := c11_afterDraw G M2 x3
    rw [e1] at d1
    rw [e2] at d2
    rw [e3] at d3
    rw [e4] at d4
    obtain ⟨ap1, ap2, ap3, ap4, ap5, ap6, ap7, ap8⟩ := hqa.ap hz2
    have kc : kn (kepK K) 2 = nc := (kep2 hW).1.trans hnc
    have km : kn (kepK K) 1 = nm := (kep2 hW).2.1.trans hnm
    obtain rfl | rfl | rfl : a1 = 0 ∨ a1 = 1 ∨ a1 = 2 := by omega
    · rw [v1 rfl, show doK (kepK K) (nI (x1, 3000).2) = uK (kepK K) 94 (1 - kepK K 94) from (by show doK (kepK K) (nI 3000) = _; rw [doK_n (by decide), if_neg (by decide), if_neg (by decide)])]
      have go : ∀ y, y = 1 - kepK K 94 → V G Y11_night 40 1 6 (Qt 0 (some (.int (nI T))) M (ntF nc nm i x1 (uK (kepK K) 94 y))) NX 73 [some (.ref 100), some (.int sd), some (.int (nI T)), some (.int (nI nc)), some (.int (nI nm)), some (.int x1), some (.int (nI (k + 1))), some (.int (nI 0)), o8, o9] [] (sI M2 126 8 y) := by
        intro y hy
        have q := nowS M2 h2 (M' := sI M2 126 8 y) (Sm.rf.st _ rfl) (hs2.lit hW2.p y) (by rw [hy]; exact hW2.lam) (fun i hi => uK_n _ _ (by omega))
        exact hn _ _ x1 _ _ _ (by omega) ((hkp.tr hM2.1).tr q.1) q.2 (by rw [kn_cg (uK_n _ _ (by decide))]; exact kc) (by rw [kn_cg (uK_n _ _ (by decide))]; exact km)
      rcases hW2.l with e | e
      · have g := go 1 (by rw [e]; rfl)
        rw [show (1 : Int32) - kepK K 94 = 1 by rw [e]; rfl]
        refine v_iload dX11_night_86 rfl ?_
        refine v_cS [_] (d1) k11_afterDraw dX11_night_88 l11_315 rfl (Nat.le_of_ble_eq_true rfl) (Nat.le_of_ble_eq_true rfl) ?_
        refine v_istore dX11_night_91 rfl (by decide) ?_
        refine v_iload dX11_night_93 rfl ?_
        refine v_bipush 16 dX11_night_95 (by decide) ?_
        refine v_iushr dX11_night_97 ?_
        rw [s1]
        refine v_iconst 3 dX11_night_98 (by decide) ?_
        refine v_irem dX11_night_99 (by first | assumption | decide) ?_
        rw [m1]
        refine v_istore dX11_night_100 rfl (by decide) ?_
        refine v_iload dX11_night_102 rfl ?_
        refine v_if_ne 138 dX11_night_104 (by decide) (fun h104 => absurd (by decide) h104) (fun h104 => ?_)
        refine v_aload_n dX11_night_107 rfl ?_
        refine v_getR 11 6 _ dX11_night_108 f11_34 (hS'.1 _ _ rfl) (by decide) (hS'.2 _ _ _ rfl) ?_
        refine v_getR 6 1 _ dX11_night_111 f11_119 (hS'.1 _ _ rfl) (by decide) (hS'.2 _ _ _ rfl) ?_
        refine v_aload_n dX11_night_114 rfl ?_
        refine v_getR 11 6 _ dX11_night_115 f11_34 (hS'.1 _ _ rfl) (by decide) (hS'.2 _ _ _ rfl) ?_
        refine v_getR 6 1 _ dX11_night_118 f11_119 (hS'.1 _ _ rfl) (by decide) (hS'.2 _ _ _ rfl) ?_
        refine v_getI 7 8 dX11_night_121 f11_126 (hS'.1 _ _ rfl) (by decide) ?_
        rw [hs2.2.2.2.2.2.2, e]
        refine v_if_ne 131 dX11_night_124 (by decide) (fun h124 => absurd rfl h124) (fun h124 => ?_)
        refine v_iconst 1 dX11_night_127 (by decide) ?_
        refine v_goto 132 dX11_night_128 (by decide) ?_
        refine v_putZ 7 8 dX11_night_132 f11_126 (hS'.1 _ _ rfl) (by decide) (by first | assumption | decide) ?_
        refine v_goto 244 dX11_night_135 (by decide) ?_
        refine v_iinc 1 dX11_night_244 rfl (by decide) rfl (by decide) ?_
        refine v_goto 73 dX11_night_247 (by decide) ?_
        (rw [nI_1]; exact g)
      · have g := go 0 (by rw [e]; rfl)
        rw [show (1 : Int32) - kepK K 94 = 0 by rw [e]; rfl]
        refine v_iload dX11_night_86 rfl ?_
        refine v_cS [_] (d1) k11_afterDraw dX11_night_88 l11_315 rfl (Nat.le_of_ble_eq_true rfl) (Nat.le_of_ble_eq_true rfl) ?_
        refine v_istore dX11_night_91 rfl (by decide) ?_
        refine v_iload dX11_night_93 rfl ?_
        refine v_bipush 16 dX11_night_95 (by decide) ?_
        refine v_iushr dX11_night_97 ?_
        rw [s1]
        refine v_iconst 3 dX11_night_98 (by decide) ?_
        refine v_irem dX11_night_99 (by first | assumption | decide) ?_
        rw [m1]
        refine v_istore dX11_night_100 rfl (by decide) ?_
        refine v_iload dX11_night_102 rfl ?_
        refine v_if_ne 138 dX11_night_104 (by decide) (fun h104 => absurd (by decide) h104) (fun h104 => ?_)
        refine v_aload_n dX11_night_107 rfl ?_
        refine v_getR 11 6 _ dX11_night_108 f11_34 (hS'.1 _ _ rfl) (by decide) (hS'.2 _ _ _ rfl) ?_
        refine v_getR 6 1 _ dX11_night_111 f11_119 (hS'.1 _ _ rfl) (by decide) (hS'.2 _ _ _ rfl) ?_
        refine v_aload_n dX11_night_114 rfl ?_
        refine v_getR 11 6 _ dX11_night_115 f11_34 (hS'.1 _ _ rfl) (by decide) (hS'.2 _ _ _ rfl) ?_
        refine v_getR 6 1 _ dX11_night_118 f11_119 (hS'.1 _ _ rfl) (by decide) (hS'.2 _ _ _ rfl) ?_
        refine v_getI 7 8 dX11_night_121 f11_126 (hS'.1 _ _ rfl) (by decide) ?_
        rw [hs2.2.2.2.2.2.2, e]
        refine v_if_ne 131 dX11_night_124 (by decide) (fun h124 => ?_) (fun h124 => absurd (show ¬ (1 : Int32) = 0 by decide) h124)
        refine v_iconst 0 dX11_night_131 (by decide) ?_
        refine v_putZ 7 8 dX11_night_132 f11_126 (hS'.1 _ _ rfl) (by decide) (by first | assumption | decide) ?_
        refine v_goto 244 dX11_night_135 (by decide) ?_
        refine v_iinc 1 dX11_night_244 rfl (by decide) rfl (by decide) ?_
        refine v_goto 73 dX11_night_247 (by decide) ?_
        (rw [nI_1]; exact g)
    · rw [v2 rfl, doK_n (by simp only; omega), if_pos (by simp only; omega)]
      simp only
      rw [show (100 * a2 + 10 * a3 + a4) / 100 = a2 by omega, show (100 * a2 + 10 * a3 + a4) / 10 % 10 = a3 by omega, show (100 * a2 + 10 * a3 + a4) % 10 = a4 by omega]
      have q4 := c7_setMark G M2 hs2 hW2 (c := a2) (m := a3) (v := a4) (by omega) (by omega) (by omega)
      have q5 := c7_learnStr G _ hs2 hW2 hS'.rk (hq.ck hW2.p (fun i hi => uK_n _ _ (by omega))) ap1 ap2 (by omega) (c := a2) (m := a3) (v := a4) (by omega) (by omega) (by omega) rfl
      have hw := hW2.mrk (i := 6 * a2 + a3) (v := a4) (by omega) (by omega)
      rw [← Nat.add_assoc] at hw
      obtain ⟨M3, eM3⟩ : ∃ M3, M3 = sI M2 127 a2 (nI (pkR (cur (uK (kepK K) (9 + 6 * a2 + a3) (nI a4))) a2 (kn (kepK K) 1))) := ⟨_, rfl⟩
      rw [← eM3] at q4 q5
      have s3' : Sm (Wsd 126) M2 M3 := by rw [eM3]; exact Sm.rf.st _ rfl
      have hS'' := hS'.sm s3'
      have hq03 : gR M3 118 0 = some p2 := by rw [s3'.2.2.2.1]; exact hq0
      refine v_iload dX11_night_86 rfl ?_
      refine v_cS [_] (d1) k11_afterDraw dX11_night_88 l11_315 rfl (Nat.le_of_ble_eq_true rfl) (Nat.le_of_ble_eq_true rfl) ?_
      refine v_istore dX11_night_91 rfl (by decide) ?_
      refine v_iload dX11_night_93 rfl ?_
      refine v_bipush 16 dX11_night_95 (by decide) ?_
      refine v_iushr dX11_night_97 ?_
      rw [s1]
      refine v_iconst 3 dX11_night_98 (by decide) ?_
      refine v_irem dX11_night_99 (by first | assumption | decide) ?_
      rw [m1]
      refine v_istore dX11_night_100 rfl (by decide) ?_
      refine v_iload dX11_night_102 rfl ?_
      refine v_if_ne 138 dX11_night_104 (by decide) (fun h104 => ?_) (fun h104 => absurd (show ¬ nI 1 = 0 by decide) h104)
      refine v_iload dX11_night_138 rfl ?_
      refine v_cS [_] (d2) k11_afterDraw dX11_night_140 l11_315 rfl (Nat.le_of_ble_eq_true rfl) (Nat.le_of_ble_eq_true rfl) ?_
      refine v_istore dX11_night_143 rfl (by decide) ?_
      refine v_iload dX11_night_145 rfl ?_
      refine v_bipush 16 dX11_night_147 (by decide) ?_
      refine v_iushr dX11_night_149 ?_
      rw [s2]
      refine v_iload_n dX11_night_150 rfl ?_
      refine v_irem dX11_night_151 (by first | assumption | decide) ?_
      rw [m2]
      refine v_istore dX11_night_152 rfl (by decide) ?_
      refine v_iload dX11_night_154 rfl ?_
      refine v_iconst 2 dX11_night_156 (by decide) ?_
      refine v_icmp_ne 175 dX11_night_157 (by decide) (fun h157 => ?_) (fun h157 => absurd (show ¬ nI 1 = 2 by decide) h157)
      refine v_iload dX11_night_175 rfl ?_
      refine v_cS [_] (d3) k11_afterDraw dX11_night_177 l11_315 rfl (Nat.le_of_ble_eq_true rfl) (Nat.le_of_ble_eq_true rfl) ?_
      refine v_istore dX11_night_180 rfl (by decide) ?_
      refine v_iload dX11_night_182 rfl ?_
      refine v_bipush 16 dX11_night_184 (by decide) ?_
      refine v_iushr dX11_night_186 ?_
      rw [s3]
      refine v_iload dX11_night_187 rfl ?_
      refine v_irem dX11_night_189 (by first | assumption | decide) ?_
      rw [m3]
      refine v_istore dX11_night_190 rfl (by decide) ?_
      refine v_iload dX11_night_192 rfl ?_
      refine v_cS [_] (d4) k11_afterDraw dX11_night_194 l11_315 rfl (Nat.le_of_ble_eq_true rfl) (Nat.le_of_ble_eq_true rfl) ?_
      refine v_istore dX11_night_197 rfl (by decide) ?_
      refine v_aload_n dX11_night_199 rfl ?_
      refine v_getR 11 6 _ dX11_night_200 f11_34 (hS'.1 _ _ rfl) (by decide) (hS'.2 _ _ _ rfl) ?_
      refine v_getR 6 1 _ dX11_night_203 f11_119 (hS'.1 _ _ rfl) (by decide) (hS'.2 _ _ _ rfl) ?_
      refine v_iload dX11_night_206 rfl ?_
      refine v_iload dX11_night_208 rfl ?_
      refine v_iload dX11_night_210 rfl ?_
      refine v_bipush 16 dX11_night_212 (by decide) ?_
      refine v_iushr dX11_night_214 ?_
      rw [s4]
      refine v_bipush 10 dX11_night_215 (by decide) ?_
      refine v_irem dX11_night_217 (by first | assumption | decide) ?_
      rw [m4]
      refine v_cVv [_, _, _] (q4) k7_setMark dX11_night_218 l11_240 (hS'.1 _ _ rfl) (by decide) rfl (Nat.le_of_ble_eq_true rfl) (Nat.le_of_ble_eq_true rfl) ?_
      skip
      refine v_aload_n dX11_night_221 rfl ?_
      refine v_getR 11 6 _ dX11_night_222 f11_34 (hS''.1 _ _ rfl) (by decide) (by first | exact hq03 | exact hS''.2 _ _ _ rfl) ?_
      refine v_getR 6 1 _ dX11_night_225 f11_119 (hS''.1 _ _ rfl) (by decide) (by first | exact hq03 | exact hS''.2 _ _ _ rfl) ?_
      refine v_aload_n dX11_night_228 rfl ?_
      refine v_getR 11 6 _ dX11_night_229 f11_34 (hS''.1 _ _ rfl) (by decide) (by first | exact hq03 | exact hS''.2 _ _ _ rfl) ?_
      refine v_getR 6 0 _ dX11_night_232 f11_130 (hS''.1 _ _ rfl) (by decide) (by first | exact hq03 | exact hS''.2 _ _ _ rfl) ?_
      refine v_aload_n dX11_night_235 rfl ?_
      refine v_getR 11 5 _ dX11_night_236 f11_27 (hS''.1 _ _ rfl) (by decide) (by first | exact hq03 | exact hS''.2 _ _ _ rfl) ?_
      refine v_iload dX11_night_239 rfl ?_
      refine v_scVv [_, _, _] (q5) k7_learn dX11_night_241 l11_244 (hS''.1 _ _ rfl) (by decide) rfl (Nat.le_of_ble_eq_true rfl) (Nat.le_of_ble_eq_true rfl) ?_
      intro M4 hM4; have m4' := h2.now hM4.1 (fun q k hq => Wln_o (by unfold Hq at hq; omega) (by unfold Hq at hq; omega) k) hM4.2.2 hw (fun i hi => uK_n _ _ (by omega))
      refine v_iinc 1 dX11_night_244 rfl (by decide) rfl (by decide) ?_
      refine v_goto 73 dX11_night_247 (by decide) ?_
      (rw [nI_1]; exact hn _ _ x4 _ _ _ (by omega) ((hkp.tr hM2.1).tr m4'.1) m4'.2 (by rw [kn_cg (uK_n _ _ (by omega))]; exact kc) (by rw [kn_cg (uK_n _ _ (by omega))]; exact km))
    · rw [v3 rfl, doK_n (by simp only; omega), if_neg (by simp only; omega), if_pos (by simp only; omega)]
      simp only
      rw [show 2000 + a2 - 2000 = a2 by omega]
      have q4 := c7_carryChest G M2 hs2 hW2 (c := a2) (by omega)
      refine v_iload dX11_night_86 rfl ?_
      refine v_cS [_] (d1) k11_afterDraw dX11_night_88 l11_315 rfl (Nat.le_of_ble_eq_true rfl) (Nat.le_of_ble_eq_true rfl) ?_
      refine v_istore dX11_night_91 rfl (by decide) ?_
      refine v_iload dX11_night_93 rfl ?_
      refine v_bipush 16 dX11_night_95 (by decide) ?_
      refine v_iushr dX11_night_97 ?_
      rw [s1]
      refine v_iconst 3 dX11_night_98 (by decide) ?_
      refine v_irem dX11_night_99 (by first | assumption | decide) ?_
      rw [m1]
      refine v_istore dX11_night_100 rfl (by decide) ?_
      refine v_iload dX11_night_102 rfl ?_
      refine v_if_ne 138 dX11_night_104 (by decide) (fun h104 => ?_) (fun h104 => absurd (show ¬ nI 2 = 0 by decide) h104)
      refine v_iload dX11_night_138 rfl ?_
      refine v_cS [_] (d2) k11_afterDraw dX11_night_140 l11_315 rfl (Nat.le_of_ble_eq_true rfl) (Nat.le_of_ble_eq_true rfl) ?_
      refine v_istore dX11_night_143 rfl (by decide) ?_
      refine v_iload dX11_night_145 rfl ?_
      refine v_bipush 16 dX11_night_147 (by decide) ?_
      refine v_iushr dX11_night_149 ?_
      rw [s2]
      refine v_iload_n dX11_night_150 rfl ?_
      refine v_irem dX11_night_151 (by first | assumption | decide) ?_
      rw [m2]
      refine v_istore dX11_night_152 rfl (by decide) ?_
      refine v_iload dX11_night_154 rfl ?_
      refine v_iconst 2 dX11_night_156 (by decide) ?_
      refine v_icmp_ne 175 dX11_night_157 (by decide) (fun h157 => absurd (by decide) h157) (fun h157 => ?_)
      refine v_aload_n dX11_night_160 rfl ?_
      refine v_getR 11 6 _ dX11_night_161 f11_34 (hS'.1 _ _ rfl) (by decide) (hS'.2 _ _ _ rfl) ?_
      refine v_getR 6 1 _ dX11_night_164 f11_119 (hS'.1 _ _ rfl) (by decide) (hS'.2 _ _ _ rfl) ?_
      refine v_iload dX11_night_167 rfl ?_
      refine v_scVv [_] (q4) k7_carryChest dX11_night_169 l11_235 (hS'.1 _ _ rfl) (by decide) rfl (Nat.le_of_ble_eq_true rfl) (Nat.le_of_ble_eq_true rfl) ?_
      intro M3 hM3; have m3' := nowS M2 h2 hM3.1 hM3.2 (hW2.car (by omega)) (fun i hi => carK_o hi)
      refine v_goto 244 dX11_night_172 (by decide) ?_
      refine v_iinc 1 dX11_night_244 rfl (by decide) rfl (by decide) ?_
      refine v_goto 73 dX11_night_247 (by decide) ?_
      (rw [nI_1]; exact hn _ _ x2 _ _ _ (by omega) ((hkp.tr hM2.1).tr m3'.1) m3'.2 (by rw [kn_cg (carK_o (by omega))]; exact kc) (by rw [kn_cg (carK_o (by omega))]; exact km))
theorem c11_night {K : Nat → Int32} (h : MR M K) (sd times : Int32) : Ct G Y11_night 40 1 6 [.ref 100, .int sd, .int times] M (Qt (tNt K times) (some (.int times)) M (ntF (kn K 2) (kn K 1) times.toNatClampNeg sd K)) (Xt [(1, iaE), (2, isE)] (tNt K times) M) := by
  have h0 := h
  obtain ⟨hS, hW, hz, hsc, p, cd, n, rd, l1, hp0, hp, hrd, hpa⟩ := h
  have h14 := hW.p.2.1.2
  refine Ct.of k11_night.1 (Nat.le_of_ble_eq_true rfl) ?_
  by_cases ht : inT 30 times = true
  · obtain ⟨a, a1, a2, rfl⟩ := inT_of (by decide) ht
    by_cases hk0 : K 2 = 0
    · have e : tNt K (nI a) = 2 := by rw [tNt, if_pos ht, if_pos hk0]
      rw [e]
      refine v_iload_n dX11_night_0 rfl ?_
      refine v_iconst 1 dX11_night_1 (by decide) ?_
      refine v_icmp_lt 11 dX11_night_2 (by decide) (fun h2 => absurd h2 (nI_nlt (b := 1) (by omega) (by omega))) (fun h2 => ?_)
      refine v_iload_n dX11_night_5 rfl ?_
      refine v_bipush 30 dX11_night_6 (by decide) ?_
      refine v_icmp_le 22 dX11_night_8 (by decide) (fun h8 => ?_) (fun h8 => absurd (nI_le (b := 30) (by omega) (by decide)) h8)
      refine v_aload_n dX11_night_22 rfl ?_
      refine v_getR 11 6 _ dX11_night_23 f11_34 (by first | exact hS.1 _ _ rfl | assumption) (by decide) (by first | exact hp0 | exact hS.2 _ _ _ rfl | assumption) ?_
      refine v_getR 6 0 _ dX11_night_26 f11_130 (by first | exact hS.1 _ _ rfl | assumption) (by decide) (by first | exact hp0 | exact hS.2 _ _ _ rfl | assumption) ?_
      refine v_getI 4 2 dX11_night_29 f11_208 hp.1.1 (by decide) ?_
      rw [hp.2.1.2.2.1]
      refine v_istore_n dX11_night_32 rfl (by decide) ?_
      refine v_aload_n dX11_night_33 rfl ?_
      refine v_getR 11 6 _ dX11_night_34 f11_34 (by first | exact hS.1 _ _ rfl | assumption) (by decide) (by first | exact hp0 | exact hS.2 _ _ _ rfl | assumption) ?_
      refine v_getR 6 0 _ dX11_night_37 f11_130 (by first | exact hS.1 _ _ rfl | assumption) (by decide) (by first | exact hp0 | exact hS.2 _ _ _ rfl | assumption) ?_
      refine v_getI 4 1 dX11_night_40 f11_297 hp.1.1 (by decide) ?_
      refine v_istore dX11_night_43 rfl (by decide) ?_
      refine v_iload_n dX11_night_45 rfl ?_
      refine v_iconst 1 dX11_night_46 (by decide) ?_
      rw [hk0]
      refine v_icmp_lt 56 dX11_night_47 (by decide) (fun h47 => ?_) (fun h47 => absurd (show (0 : Int32) < 1 by decide) h47)
      exact V.post (v_throwW (cls := isE) (text := "there are no chests") rfl (by decide +kernel) at_isek (by decide +kernel) at_ise dX11_night_56 dX11_night_59 dX11_night_60 dX11_night_63 dX11_night_66 (by decide) (by decide) Tg.mk : V G Y11_night 40 1 6 (fun _ _ => False) (Tg isE M) 56 _ _ M) (fun _ _ h => h.elim) (fun E M' he => Xt.of he (by simp))
    · have e : tNt K (nI a) = 0 := by rw [tNt, if_pos ht, if_neg hk0]
      rw [e, nI_clamp (by omega)]
      have hc0 : 0 < kn K 2 := Nat.pos_of_ne_zero (fun z => hk0 (by rw [hW.p.2.1.1, z]; rfl))
      have hm0 := hW.p.1.2.1
      have h6 := hW.p.1.2.2
      refine v_iload_n dX11_night_0 rfl ?_
      refine v_iconst 1 dX11_night_1 (by decide) ?_
      refine v_icmp_lt 11 dX11_night_2 (by decide) (fun h2 => absurd h2 (nI_nlt (b := 1) (by omega) (by omega))) (fun h2 => ?_)
      refine v_iload_n dX11_night_5 rfl ?_
      refine v_bipush 30 dX11_night_6 (by decide) ?_
      refine v_icmp_le 22 dX11_night_8 (by decide) (fun h8 => ?_) (fun h8 => absurd (nI_le (b := 30) (by omega) (by decide)) h8)
      refine v_aload_n dX11_night_22 rfl ?_
      refine v_getR 11 6 _ dX11_night_23 f11_34 (by first | exact hS.1 _ _ rfl | assumption) (by decide) (by first | exact hp0 | exact hS.2 _ _ _ rfl | assumption) ?_
      refine v_getR 6 0 _ dX11_night_26 f11_130 (by first | exact hS.1 _ _ rfl | assumption) (by decide) (by first | exact hp0 | exact hS.2 _ _ _ rfl | assumption) ?_
      refine v_getI 4 2 dX11_night_29 f11_208 hp.1.1 (by decide) ?_
      rw [hp.2.1.2.2.1, hW.p.2.1.1]
      refine v_istore_n dX11_night_32 rfl (by decide) ?_
      refine v_aload_n dX11_night_33 rfl ?_
      refine v_getR 11 6 _ dX11_night_34 f11_34 (by first | exact hS.1 _ _ rfl | assumption) (by decide) (by first | exact hp0 | exact hS.2 _ _ _ rfl | assumption) ?_
      refine v_getR 6 0 _ dX11_night_37 f11_130 (by first | exact hS.1 _ _ rfl | assumption) (by decide) (by first | exact hp0 | exact hS.2 _ _ _ rfl | assumption) ?_
      refine v_getI 4 1 dX11_night_40 f11_297 hp.1.1 (by decide) ?_
      rw [hp.2.1.2.1, hW.p.1.1]
      refine v_istore dX11_night_43 rfl (by decide) ?_
      refine v_iload_n dX11_night_45 rfl ?_
      refine v_iconst 1 dX11_night_46 (by decide) ?_
      refine v_icmp_lt 56 dX11_night_47 (by decide) (fun h47 => absurd h47 (nI_nlt (b := 1) (by omega) (by omega))) (fun h47 => ?_)
      refine v_iload dX11_night_50 rfl ?_
      refine v_iconst 1 dX11_night_52 (by decide) ?_
      refine v_icmp_ge 67 dX11_night_53 (by decide) (fun h53 => ?_) (fun h53 => absurd (nI_le (a := 1) (by omega) (by omega)) h53)
      refine v_iload_n dX11_night_67 rfl ?_
      refine v_istore dX11_night_68 rfl (by decide) ?_
      refine v_iconst 0 dX11_night_70 (by decide) ?_
      refine v_istore dX11_night_71 rfl (by decide) ?_
      exact v_pad (v_pad (v_pad (V.post (l11_night G M a2 hc0 a 0 M K sd none none none (by omega) Kp.rf h0 rfl rfl) (fun _ _ h => h) (fun _ _ h => h.elim))))
  · have e : tNt K times = 1 := if_neg ht
    rw [e]
    refine v_iload_n dX11_night_0 rfl ?_
    refine v_iconst 1 dX11_night_1 (by decide) ?_
    refine v_icmp_lt 11 dX11_night_2 (by decide) (fun h2 => ?_) (fun h2 => ?_)
    · exact V.post (v_throwW (cls := iaE) (text := "a night has 1 to 30 times") rfl (by decide +kernel) at_iaek (by decide +kernel) at_iae dX11_night_11 dX11_night_14 dX11_night_15 dX11_night_18 dX11_night_21 (by decide) (by decide) Tg.mk : V G Y11_night 40 1 6 (fun _ _ => False) (Tg iaE M) 11 _ _ M) (fun _ _ h => h.elim) (fun E M' he => Xt.of he (by simp))
    · refine v_iload_n dX11_night_5 rfl ?_
      refine v_bipush 30 dX11_night_6 (by decide) ?_
      refine v_icmp_le 22 dX11_night_8 (by decide) (fun h8 => absurd (decide_eq_true (show 1 ≤ times ∧ times ≤ nI 30 from ⟨Int32.not_lt.mp h2, h8⟩)) ht) (fun h8 => ?_)
      exact V.post (v_throwW (cls := iaE) (text := "a night has 1 to 30 times") rfl (by decide +kernel) at_iaek (by decide +kernel) at_iae dX11_night_11 dX11_night_14 dX11_night_15 dX11_night_18 dX11_night_21 (by decide) (by decide) Tg.mk : V G Y11_night 40 1 6 (fun _ _ => False) (Tg iaE M) 11 _ _ M) (fun _ _ h => h.elim) (fun E M' he => Xt.of he (by simp))
end O8
