/-! ===== the class's parser: the lines of a text ===== -/
theorem CS.p0 {p N : Nat} {Z : (Nat → Nat) × Nat} {M0 M : mM} {R : RSt} (hp : 248 ≤ p) (h : CS p N Z M0 false 0 0 R M) (hI : IV Z R) (hK : KI R.2.2.2) : CS p N Z M0 false 0 0 (stE R) (sI M p 0 (gI M p 0 + 1)) := by
  have mo : ∀ q k', q ≠ p ∨ k' ≠ 0 → gI (sI M p 0 (gI M p 0 + 1)) q k' = gI M q k' := fun q k' a => by
    by_cases hq : q = p
    · subst hq; exact gI_sk _ _ (a.resolve_left (fun z => z rfl))
    · exact gI_sq _ _ hq
  have mq : ∀ q, q ≠ p → gI (sI M p 0 (gI M p 0 + 1)) q = gI M q := fun q a => gI_sr _ _ a
  have hm := hI.2.2.2.2.1
  have sq : Sq p M (sI M p 0 (gI M p 0 + 1)) := Sq.rf.st _ (Wcs_p _ ⟨by omega, by omega⟩)
  unfold stE
  by_cases hb : R.1 = 0
  · rw [if_neg (Decidable.not_not.mpr hb)]
    have eo : ∀ i, i ≠ 0 → uK R.2.2.2 0 (R.2.2.2 0 + 1) i = R.2.2.2 i := fun i hi => uK_n _ _ hi
    have e0 : uK R.2.2.2 0 (R.2.2.2 0 + 1) 0 = R.2.2.2 0 + 1 := uK_s _ _ _
    have ko : ∀ i, i ≠ 0 → kn (uK R.2.2.2 0 (R.2.2.2 0 + 1)) i = kn R.2.2.2 i := fun i hi => kn_cg (eo i hi)
    refine CS.to hp h rfl rfl rfl sq (fun q hq => mq q (by omega)) rfl ?_ (by rw [mo p 4 (Or.inr (by decide))]; exact h.2.2.2.2.1) (fun _ g r => ⟨?_, ?_⟩)
    · rw [mo p 1 (Or.inr (by decide))]
      show _ = nI (kn (uK R.2.2.2 0 (R.2.2.2 0 + 1)) 1)
      rw [ko 1 (by decide)]; exact h.2.2.2.1
    · show CG _ p (uK R.2.2.2 0 (R.2.2.2 0 + 1))
      have g' := g.k (K' := uK (uK R.2.2.2 0 (R.2.2.2 0 + 1)) 0 (R.2.2.2 0)) ⟨hK.1.1, hK.1.2.2⟩ hm.2.2 (fun i _ => by
        by_cases hi : i = 0
        · subst hi; exact uK_s _ _ _
        · rw [uK_n _ _ hi, eo i hi])
      obtain ⟨⟨g0, g2, g3, g4, g5, g6, g7, g8⟩, gc, grow, gcost, gst, gcode, glamp⟩ := g
      generalize uK R.2.2.2 0 (R.2.2.2 0 + 1) = K' at eo e0 ko
      unfold CG
      rw [ko 1 (by decide), ko 2 (by decide), ko 4 (by decide), ko 7 (by decide), e0, eo 2 (by decide), eo 93 (by decide), eo 3 (by decide), eo 119 (by decide), eo 4 (by decide), eo 5 (by decide), eo 6 (by decide), eo 7 (by decide), gI_ss, mo p 2 (Or.inr (by decide)), mo p 3 (Or.inr (by decide)), mo p 4 (Or.inr (by decide)), mo p 5 (Or.inr (by decide)), mo p 6 (Or.inr (by decide)), mo p 7 (Or.inr (by decide)), mo p 8 (Or.inr (by decide)), mq 102 (by omega), mq (p + 1) (by omega), mq (p + 2) (by omega), mq (p + 3) (by omega), mq (p + 6) (by omega), mq (p + 7) (by omega)]
      refine ⟨⟨by rw [g0], g2, g3, g4, g5, g6, g7, g8⟩, gc, fun c hc => ?_, fun w hw => ?_, fun w hw => ?_, fun k hk => ?_, fun m v hm' hv => ?_⟩
      · rw [grow c hc]
        exact congrArg nI (pkR_cg (b := cur R.2.2.2) (b' := cur K') (fun m hm => eo (9 + (6 * c + m)) (by omega)) _ hm.2.2).symm
      · rw [eo (109 + w) (by omega)]; exact gcost w hw
      · rw [eo (144 + w) (by omega)]; exact gst w hw
      · rw [ko (1155 + k) (by omega)]; exact gcode k hk
      · rw [lby_K (K := R.2.2.2) (fun i a d => eo i (by omega)) _ _ _ _ (by have := hK.1.2.2; omega), hsL_K (K := R.2.2.2) (fun i a d => eo i (by omega)) _ _ _ _ (by have := hK.1.2.2; omega)]
        exact glamp m v hm' hv
    · show RB _ p false 0 0 (uK R.2.2.2 0 (R.2.2.2 0 + 1))
      unfold RB at r ⊢
      rw [ko 1 (by decide), ko 3 (by decide), ko 7 (by decide), ko (144 + kn R.2.2.2 3) (by omega), mo p 9 (Or.inr (by decide)), mq (p + 4) (by omega), rdS_cg (K := R.2.2.2) _ (fun j hj => eo _ (by omega))]
      refine ⟨r.1, fun w hw => ?_, fun z => by cases z⟩
      rw [ko (144 + w) (by omega), ko (144 + w + 1) (by omega), lwS_cg (K := R.2.2.2) _ (fun j hj => eo _ (by omega))]
      exact r.2.1 w hw
  · rw [if_pos hb]
    exact CS.to hp h rfl rfl rfl sq (fun q hq => mq q (by omega)) rfl (by rw [mo p 1 (Or.inr (by decide))]; exact h.2.2.2.1) (by rw [mo p 4 (Or.inr (by decide))]; exact h.2.2.2.2.1) (fun z _ _ => absurd z hb)
section CR
variable (G : mG)
theorem l3_exit (M : mM) {p N kc ks i : Nat} {Z : (Nat → Nat) × Nat} {M0 : mM} {S : RSt} {n : Int32} (hM : PM M0 p N) (hi : i ≤ 901) (h : CS p N Z M0 false 0 0 S M) (hc : liB Z S ≠ true) : V G Y3_read 18 kc ks (fun v M' => v = some (if S.1 = 0 then .ref p else .null) ∧ CS p N Z M0 false 0 0 S M') NX 89 [some (.ref 102), some (.ref 101), some (.int n), some (.int (nI i))] [] M := by
  have hPM := hM.sq h.1
  have hS' := hPM.1
  have hp2 := hPM.2.2.2.1
  have out : V G Y3_read 18 kc ks (fun v M' => v = some (if S.1 = 0 then .ref p else .null) ∧ CS p N Z M0 false 0 0 S M') NX 155 [some (.ref 102), some (.ref 101), some (.int n), some (.int (nI i))] [] M := by
    by_cases hb : S.1 = 0
    · rw [if_pos hb]
      refine v_aload_n dX3_read_155 rfl ?_
      refine v_getI 3 3 dX3_read_156 f3_29 (by first | exact hS'.1 _ _ rfl | assumption) (by decide) ?_
      rw [h.bad.1 hb]
      refine v_if_ne 169 dX3_read_159 (by decide) (fun h159 => absurd rfl h159) (fun h159 => ?_)
      refine v_aload_n dX3_read_162 rfl ?_
      refine v_getR 3 2 _ dX3_read_163 f3_21 (by first | exact hS'.1 _ _ rfl | assumption) (by decide) hp2 ?_
      refine v_goto 170 dX3_read_166 (by decide) ?_
      refine v_aret dX3_read_170 rfl (by first | exact Or.inr ⟨_, rfl⟩ | exact Or.inl rfl) ?_
      exact ⟨rfl, h⟩
    · rw [if_neg hb]
      refine v_aload_n dX3_read_155 rfl ?_
      refine v_getI 3 3 dX3_read_156 f3_29 (by first | exact hS'.1 _ _ rfl | assumption) (by decide) ?_
      refine v_if_ne 169 dX3_read_159 (by decide) (fun h159 => ?_) (fun h159 => absurd (h.bad.2 hb) h159)
      refine v_null dX3_read_169 ?_
      refine v_aret dX3_read_170 rfl (by first | exact Or.inr ⟨_, rfl⟩ | exact Or.inl rfl) ?_
      exact ⟨rfl, h⟩
  by_cases h9 : i < 900
  · by_cases hb : S.1 = 0
    · have hk : kd Z S.2.2.1 = 32 := Decidable.not_not.mp (fun z => hc (liB_t.mpr ⟨hb, z⟩))
      refine v_iload_n dX3_read_89 rfl ?_
      refine v_sipush 900 dX3_read_90 (by decide) ?_
      refine v_icmp_ge 155 dX3_read_93 (by decide) (fun h93 => absurd ((nI_leI (a := 900) (by omega) (by omega)).mp h93) (by omega)) (fun h93 => ?_)
      refine v_aload_n dX3_read_96 rfl ?_
      refine v_getI 3 3 dX3_read_97 f3_29 (by first | exact hS'.1 _ _ rfl | assumption) (by decide) ?_
      rw [h.bad.1 hb]
      refine v_if_ne 155 dX3_read_100 (by decide) (fun h100 => absurd rfl h100) (fun h100 => ?_)
      refine v_aload_n dX3_read_103 rfl ?_
      refine v_gets (v := .ref 32) dX3_read_104 g3_69 (kT_z G (i := 32) (by decide) rfl) ?_
      refine v_cV [_] (c3_stT G M (k := 32) hM h (by decide) ⟨hb, hk⟩) k3_stands dX3_read_107 l3_72 (by first | exact hS'.1 _ _ rfl | assumption) (by decide) rfl (Nat.le_of_ble_eq_true rfl) (Nat.le_of_ble_eq_true rfl) ?_
      refine v_if_ne 155 dX3_read_110 (by decide) (fun h110 => ?_) (fun h110 => absurd (show ¬ (1 : Int32) = 0 by decide) h110)
      exact out
    · refine v_iload_n dX3_read_89 rfl ?_
      refine v_sipush 900 dX3_read_90 (by decide) ?_
      refine v_icmp_ge 155 dX3_read_93 (by decide) (fun h93 => absurd ((nI_leI (a := 900) (by omega) (by omega)).mp h93) (by omega)) (fun h93 => ?_)
      refine v_aload_n dX3_read_96 rfl ?_
      refine v_getI 3 3 dX3_read_97 f3_29 (by first | exact hS'.1 _ _ rfl | assumption) (by decide) ?_
      refine v_if_ne 155 dX3_read_100 (by decide) (fun h100 => ?_) (fun h100 => absurd (h.bad.2 hb) h100)
      exact out
  · refine v_iload_n dX3_read_89 rfl ?_
    refine v_sipush 900 dX3_read_90 (by decide) ?_
    refine v_icmp_ge 155 dX3_read_93 (by decide) (fun h93 => ?_) (fun h93 => absurd (nI_le (a := 900) (by omega) (by omega)) h93)
    exact out
theorem l3_read {p N kc ks : Nat} {Z : (Nat → Nat) × Nat} {M0 : mM} {n : Int32} (hM : PM M0 p N) : ∀ f i S M, (S.1 = 0 → Z.2 + 1 ≤ S.2.2.1 + f) → i ≤ 901 → (S.1 = 0 → i ≤ S.2.2.1) → CS p N Z M0 false 0 0 S M → LV Z S → KI S.2.2.2 → (S.1 = 0 → LJ S) → V G Y3_read 18 kc ks (fun v M' => v = some (if (itr (liB Z) (lin Z) 901 S).1 = 0 then .ref p else .null) ∧ CS p N Z M0 false 0 0 (itr (liB Z) (lin Z) 901 S) M') NX 89 [some (.ref 102), some (.ref 101), some (.int n), some (.int (nI i))] [] M := by
  intro f
  induction f with
  | zero =>
    intro i S M hf hi9 hi h hL hK hJ
    have hc : liB Z S ≠ true := fun z => by have := hf (liB_t.mp z).1; have := hL.1.2.1; omega
    rw [lin_901 hL, if_neg hc]
    exact l3_exit G M hM hi9 h hc
  | succ f ih =>
    intro i S M hf hi9 hi h hL hK hJ
    rw [lin_901 hL]
    by_cases hc : liB Z S = true
    · rw [if_pos hc]
      obtain ⟨h0, hk⟩ := liB_t.mp hc
      have hPM := hM.sq h.1
      have hS' := hPM.1
      have hp := hM.2.2.1
      have h900 := hL.1.2.2.2.2.2
      have hlt := (kd_lt hk).1
      have hi0 := hi h0
      have hJ0 := hJ h0
      obtain ⟨⟨ll1, ll2⟩, ll3⟩ := lin_lr hL
      obtain ⟨lj1, lj2⟩ := lin_LJ hL hJ0 h0 hk
      have hB := (lnB_lr hL).1
      have next := fun M4 h4 => ih (i + 1) (lin Z S) M4 (fun z => by have := ll3 z; have := hf h0; omega) (by omega) (fun z => by have := ll3 z; omega) h4 ll1 lj1 lj2
      have tail : ∀ M2, CS p N Z M0 false 0 0 (lnB Z S) M2 → KI (lnB Z S).2.2.2 → V G Y3_read 18 kc ks (fun v M' => v = some (if (itr (liB Z) (lin Z) 901 (lin Z S)).1 = 0 then .ref p else .null) ∧ CS p N Z M0 false 0 0 (itr (liB Z) (lin Z) 901 (lin Z S)) M') NX 129 [some (.ref 102), some (.ref 101), some (.int n), some (.int (nI i))] [] M2 := by
        intro M2 h2 hKB
        have hS' := (hM.sq h2.1).1
        have gm := gs.mu (k := 17) hB.1 (by decide)
        refine v_aload_n dX3_read_129 rfl ?_
        refine v_gets (v := .ref 17) dX3_read_130 g3_63 (kT_z G (i := 17) (by decide) rfl) ?_
        refine v_scVv [_] (c3_take G M2 (k := 17) hM h2 (by decide)) k3_take dX3_read_133 l3_52 (by first | exact hS'.1 _ _ rfl | assumption) (by decide) rfl (Nat.le_of_ble_eq_true rfl) (Nat.le_of_ble_eq_true rfl) ?_
        intro M3 hM3; have hPM3 := hM.sq hM3.1; have hS' := hPM3.1; have hq2 := hPM3.2.2.2.1; have hq0 := hPM3.2.1.1; have h4 : CS p N Z M0 false 0 0 (lin Z S) (sI M3 p 0 (gI M3 p 0 + 1)) := hM3.p0 hp gm.1 (hKB.gs gm)
        refine v_aload_n dX3_read_136 rfl ?_
        refine v_getR 3 2 _ dX3_read_137 f3_21 (by first | exact hS'.1 _ _ rfl | assumption) (by decide) hq2 ?_
        refine v_dup dX3_read_140 rfl ?_
        refine v_getI 4 0 dX3_read_141 f3_66 hq0 (by decide) ?_
        refine v_iconst 1 dX3_read_144 (by decide) ?_
        refine v_iadd dX3_read_145 ?_
        refine v_putI 4 0 dX3_read_146 f3_66 hq0 (by decide) ?_
        refine v_iinc 1 dX3_read_149 rfl (by decide) rfl (by decide) ?_
        refine v_goto 89 dX3_read_152 (by decide) ?_
        (rw [nI_1]; exact next _ h4)
      have hKo : ∀ i, i ≠ 0 → (lin Z S).2.2.2 i = (lnB Z S).2.2.2 i := fun i hi => by
        unfold lin sto stE
        split
        · rw [rmu_K]
        · rw [rst_n _ _ hi, rmu_K]
      have hKB : KI (lnB Z S).2.2.2 := by
        have ko : ∀ i, i ≠ 0 → kn (lin Z S).2.2.2 i = kn (lnB Z S).2.2.2 i := fun i hi => kn_cg (hKo i hi)
        have l1 := lj1
        unfold KI at l1 ⊢
        rw [ko 2 (by decide), ko 3 (by decide), ko 4 (by decide), ko 7 (by decide)] at l1
        exact ⟨l1.1, fun w hw => by have := l1.2 w hw; rw [ko (144 + w) (by omega)] at this; exact this⟩
      by_cases k3 : kd Z S.2.2.1 = 3
      · have eB : lnB Z S = woE (tru Z (unt Z 6) (woX Z S)) := by
          unfold lnB
          rw [if_neg (by omega), if_neg (by omega), if_pos k3]
          exact woR_X hL h0 hk
        have hX : LV Z (woX Z S) := by
          unfold woX
          split
          · exact (lr.gs hL (gs.bl hL.1 (by omega))).1
          · exact (woH_lr (lr.gs hL (gs.nx hL.1 hk)).1).1
        have hJX := hJ0.ag hX (woX_ag hL.2.2.1.2)
        have hlw := c3_readLineW G M hM h hL hJ0.1 ⟨h0, k3⟩ hJ0.2
        rw [eB] at tail hKB
        generalize woX Z S = X at hX hJX hlw tail hKB
        have gT := tru_ok (unt_ok Z 6) X hX.1
        by_cases hx : X.1 = 0
        · rw [bI_t hx, decide_eq_true hx] at hlw
          refine v_iload_n dX3_read_89 rfl ?_
          refine v_sipush 900 dX3_read_90 (by decide) ?_
          refine v_icmp_ge 155 dX3_read_93 (by decide) (fun h93 => absurd ((nI_leI (a := 900) (by omega) (by omega)).mp h93) (by omega)) (fun h93 => ?_)
          refine v_aload_n dX3_read_96 rfl ?_
          refine v_getI 3 3 dX3_read_97 f3_29 (by first | exact hS'.1 _ _ rfl | assumption) (by decide) ?_
          rw [h.bad.1 h0]
          refine v_if_ne 155 dX3_read_100 (by decide) (fun h100 => absurd rfl h100) (fun h100 => ?_)
          refine v_aload_n dX3_read_103 rfl ?_
          refine v_gets (v := .ref 32) dX3_read_104 g3_69 (kT_z G (i := 32) (by decide) rfl) ?_
          refine v_cV [_] (c3_stF G M (k := 32) hM h (by decide) (fun z => hk z.2)) k3_stands dX3_read_107 l3_72 (by first | exact hS'.1 _ _ rfl | assumption) (by decide) rfl (Nat.le_of_ble_eq_true rfl) (Nat.le_of_ble_eq_true rfl) ?_
          refine v_if_ne 155 dX3_read_110 (by decide) (fun h110 => absurd rfl h110) (fun h110 => ?_)
          refine v_aload_n dX3_read_113 rfl ?_
          refine v_scV [] (hlw) k3_readLine dX3_read_114 l3_76 (by first | exact hS'.1 _ _ rfl | assumption) (by decide) rfl (Nat.le_of_ble_eq_true rfl) (Nat.le_of_ble_eq_true rfl) ?_
          intro M2 hM2; have hS' := (hM.sq hM2.1).1
          refine v_if_eq 129 dX3_read_117 (by decide) (fun h117 => absurd h117 (by decide)) (fun h117 => ?_)
          refine v_aload_n dX3_read_120 rfl ?_
          refine v_iconst 0 dX3_read_121 (by decide) ?_
          refine v_scVv [_] (c3_readTruth G hM X M2 hM2 hX.1 hJX.1) k3_readTruth dX3_read_122 l3_80 (by first | exact hS'.1 _ _ rfl | assumption) (by decide) rfl (Nat.le_of_ble_eq_true rfl) (Nat.le_of_ble_eq_true rfl) ?_
          intro M3 hM3; have hS' := (hM.sq hM3.1).1
          refine v_aload_n dX3_read_125 rfl ?_
          refine v_scVv [] (c3_endWord G M3 hM hM3 gT.1.1 (hJX.1.gs gT.1)) k3_endWord dX3_read_126 l3_84 (by first | exact hS'.1 _ _ rfl | assumption) (by decide) rfl (Nat.le_of_ble_eq_true rfl) (Nat.le_of_ble_eq_true rfl) ?_
          intro M4 hM4
          exact tail M4 hM4 hKB
        · rw [bI_f hx, decide_eq_false hx] at hlw
          have e : woE (tru Z (unt Z 6) X) = X := by rw [gT.2 hx]; exact if_pos hx
          rw [e] at tail hKB
          refine v_iload_n dX3_read_89 rfl ?_
          refine v_sipush 900 dX3_read_90 (by decide) ?_
          refine v_icmp_ge 155 dX3_read_93 (by decide) (fun h93 => absurd ((nI_leI (a := 900) (by omega) (by omega)).mp h93) (by omega)) (fun h93 => ?_)
          refine v_aload_n dX3_read_96 rfl ?_
          refine v_getI 3 3 dX3_read_97 f3_29 (by first | exact hS'.1 _ _ rfl | assumption) (by decide) ?_
          rw [h.bad.1 h0]
          refine v_if_ne 155 dX3_read_100 (by decide) (fun h100 => absurd rfl h100) (fun h100 => ?_)
          refine v_aload_n dX3_read_103 rfl ?_
          refine v_gets (v := .ref 32) dX3_read_104 g3_69 (kT_z G (i := 32) (by decide) rfl) ?_
          refine v_cV [_] (c3_stF G M (k := 32) hM h (by decide) (fun z => hk z.2)) k3_stands dX3_read_107 l3_72 (by first | exact hS'.1 _ _ rfl | assumption) (by decide) rfl (Nat.le_of_ble_eq_true rfl) (Nat.le_of_ble_eq_true rfl) ?_
          refine v_if_ne 155 dX3_read_110 (by decide) (fun h110 => absurd rfl h110) (fun h110 => ?_)
          refine v_aload_n dX3_read_113 rfl ?_
          refine v_scV [] (hlw) k3_readLine dX3_read_114 l3_76 (by first | exact hS'.1 _ _ rfl | assumption) (by decide) rfl (Nat.le_of_ble_eq_true rfl) (Nat.le_of_ble_eq_true rfl) ?_
          intro M2 hM2; have hS' := (hM.sq hM2.1).1
          refine v_if_eq 129 dX3_read_117 (by decide) (fun h117 => ?_) (fun h117 => absurd rfl h117)
          exact tail M2 hM2 hKB
      · have hlo := c3_readLineO G M hM h hL hJ0.1 h0 k3
        refine v_iload_n dX3_read_89 rfl ?_
        refine v_sipush 900 dX3_read_90 (by decide) ?_
        refine v_icmp_ge 155 dX3_read_93 (by decide) (fun h93 => absurd ((nI_leI (a := 900) (by omega) (by omega)).mp h93) (by omega)) (fun h93 => ?_)
        refine v_aload_n dX3_read_96 rfl ?_
        refine v_getI 3 3 dX3_read_97 f3_29 (by first | exact hS'.1 _ _ rfl | assumption) (by decide) ?_
        rw [h.bad.1 h0]
        refine v_if_ne 155 dX3_read_100 (by decide) (fun h100 => absurd rfl h100) (fun h100 => ?_)
        refine v_aload_n dX3_read_103 rfl ?_
        refine v_gets (v := .ref 32) dX3_read_104 g3_69 (kT_z G (i := 32) (by decide) rfl) ?_
        refine v_cV [_] (c3_stF G M (k := 32) hM h (by decide) (fun z => hk z.2)) k3_stands dX3_read_107 l3_72 (by first | exact hS'.1 _ _ rfl | assumption) (by decide) rfl (Nat.le_of_ble_eq_true rfl) (Nat.le_of_ble_eq_true rfl) ?_
        refine v_if_ne 155 dX3_read_110 (by decide) (fun h110 => absurd rfl h110) (fun h110 => ?_)
        refine v_aload_n dX3_read_113 rfl ?_
        refine v_scV [] (hlo) k3_readLine dX3_read_114 l3_76 (by first | exact hS'.1 _ _ rfl | assumption) (by decide) rfl (Nat.le_of_ble_eq_true rfl) (Nat.le_of_ble_eq_true rfl) ?_
        intro M2 hM2; have hS' := (hM.sq hM2.1).1
        refine v_if_eq 129 dX3_read_117 (by decide) (fun h117 => ?_) (fun h117 => absurd rfl h117)
        exact tail M2 hM2 hKB
    · rw [if_neg hc]
      exact l3_exit G M hM hi9 h hc
end CR
