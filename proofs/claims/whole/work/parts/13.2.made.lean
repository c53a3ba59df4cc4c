/-! ===== the class: Maker, whether it is made ===== -/
theorem hasV {s k : Nat} (hs : s < 2 ^ 31) (hk : k < 32) : (nI s >>> (nI k &&& 31)) &&& 1 = nI (s / 2 ^ k % 2) := by
  rw [shrN hs hk, pk_andN (show s / 2 ^ k < 2 ^ 32 from Nat.lt_of_le_of_lt (Nat.div_le_self _ _) (by omega)) 1 (by decide)]
theorem tb_div {s k : Nat} : s.testBit k = true ↔ s / 2 ^ k % 2 = 1 := by
  rw [Nat.testBit_eq_decide_div_mod_eq, decide_eq_true_eq]
def cndRV (was : Nat → Int32) (rd j m left v : Nat) : List (List Nat) := if nI v = was m then (if left ≤ j then (cndR was rd j (m + 1) left).map (fun t => v :: t) else []) else if rd.testBit m = true ∧ 1 ≤ left ∧ left - 1 ≤ j then (cndR was rd j (m + 1) (left - 1)).map (fun t => v :: t) else []
theorem cndR_s (was : Nat → Int32) (rd j m left : Nat) : cndR was rd (j + 1) m left = (List.range' 0 10).flatMap (cndRV was rd j m left) := rfl
def GmP (K : Nat → Int32) (M : mM) (m : Nat) (r : Option (List Nat)) (M' : mM) : Prop := Sm Wmk M M' ∧ (∀ i, i < m → gI M' 211 i = gI M 211 i) ∧ ∀ t, r = some t → ∀ i, m ≤ i → i < kn K 1 → gI M' 211 i = nI (t.getD (i - m) 0)
def gmR (K was : Nat → Int32) (rd j m left : Nat) (p : Nat → Int32) : Option (List Nat) := (cndR was rd j m left).find? (fun t => nwB K (mkF p m t))
theorem GmP.mono {K : Nat → Int32} {M0 M1 M2 : mM} {m v : Nat} {t : List Nat} (h0 : Sm Wmk M0 M1) (h1 : ∀ i, i < m → gI M1 211 i = gI M0 211 i) (hv : gI M1 211 m = nI v) (h : GmP K M1 (m + 1) (some t) M2) : GmP K M0 m (some (v :: t)) M2 := by
  refine ⟨h0.tr h.1, fun i hi => (h.2.1 i (by omega)).trans (h1 i hi), fun t' e i h2 h3 => ?_⟩
  cases e
  by_cases e : i = m
  · subst e; rw [h.2.1 i (by omega), hv, Nat.sub_self]; rfl
  · rw [h.2.2 t rfl i (by omega) h3, show i - m = (i - (m + 1)) + 1 by omega]; rfl
section M2
variable (G : mG) (K was : Nat → Int32) (p cd n rd : Nat) (l1 : Nat → Nat)
def GmC (j : Nat) : Prop := ∀ m left, m + j = kn K 1 → left < 100 → ∀ M, MkC M p cd n K rd l1 → (∀ m, m < kn K 1 → gI M 213 m = was m) → Ct G Y2_isMade (j + 6) 0 0 [.ref 209, .int (nI m), .int (nI left), .int (nI (alG K (gI M 211) (Qk l1 (m + 1))))] M (Rs (some (.int (bI ((gmR K was rd j m left (gI M 211)).isSome = true)))) (GmP K M m (gmR K was rd j m left (gI M 211)))) NX
theorem l2_isMade {j m left : Nat} (ih : GmC G K was p cd n rd l1 j) (hW : WK K) (ha : Ap4 p cd) (hm : m + (j + 1) = kn K 1) (hl : left < 100) (M : mM) (hC : MkC M p cd n K rd l1) (hb : ∀ m, m < kn K 1 → gI M 213 m = was m) {Q : Option Value → mM → Prop} (r : Option (List Nat)) (hq : ∀ M', GmP K M m r M' → Q (some (.int (bI (r.isSome = true)))) M') :
    ∀ i v M' (o5 o6 : Option Value), v + i = 10 → Sm Wmk M M' → (∀ i, i < m → gI M' 211 i = gI M 211 i) → r = ((List.range' v i).flatMap (cndRV was rd j m left)).find? (fun t => nwB K (mkF (gI M 211) m t)) → V G Y2_isMade (j + 7) 0 0 Q NX 34 [some (.ref 209), some (.int (nI m)), some (.int (nI left)), some (.int (nI (alG K (gI M 211) (Qk l1 (m + 1))))), some (.int (nI v)), o5, o6] [] M' := by
  have h6 := hW.p.1.2.2
  intro i
  induction i with
  | zero =>
    intro v M' o5 o6 hv hM hp hr
    obtain rfl : v = 10 := by omega
    obtain rfl : r = none := hr
    have q := hq M' ⟨hM, hp, fun t h => by cases h⟩
    generalize alG K (gI M 211) (Qk l1 (m + 1)) = A at *
    refine v_iload dX2_isMade_34 rfl ?_
    refine v_bipush 10 dX2_isMade_36 (by decide) ?_
    refine v_icmp_ge 155 dX2_isMade_38 (by decide) (fun h38 => ?_) (fun h38 => absurd (by decide) h38)
    refine v_iconst 0 dX2_isMade_155 (by decide) ?_
    refine v_zret dX2_isMade_156 rfl (by first | rfl | exact bI_nb _ | assumption) ?_
    exact q
  | succ i ih2 =>
    intro v M' o5 o6 hv hM hp hr
    have hC' := hC.sm ha hM
    have hS' := hC'.1
    have hr' := hC'.2.1
    have hrd := hC'.2.2.2.1.2.1
    obtain ⟨⟨p1, p2, p3, p4, p5, p6, p7, p8, p9, p10, p11, p12, p13, p14⟩, ⟨e1, e2, e3, e4, e5, e6, e7⟩, g2, g3, g4, g5, g6, g7⟩ := hC'.2.2.1
    have hbm : gI M' 213 m = was m := (hM.2.2.2.2 213 m rfl).trans (hb m (by omega))
    rw [List.range'_succ, List.flatMap_cons, List.find?_append] at hr
    have skp : cndRV was rd j m left v = [] → ∀ o5 o6, V G Y2_isMade (j + 7) 0 0 Q NX 34 [some (.ref 209), some (.int (nI m)), some (.int (nI left)), some (.int (nI (alG K (gI M 211) (Qk l1 (m + 1))))), some (.int (nI (v + 1))), o5, o6] [] M' := by
      intro e o5 o6
      rw [e] at hr
      exact ih2 (v + 1) M' o5 o6 (by omega) hM hp hr
    have hM2 : Sm Wmk M (sI M' 211 m (nI v)) := hM.st _ rfl
    have hp2 : ∀ i, i < m → gI (sI M' 211 m (nI v)) 211 i = gI M 211 i := fun i hi => by rw [gI_sk _ _ (by omega)]; exact hp i hi
    have go : ∀ l2 (o6 : Option Value), cndRV was rd j m left v = (cndR was rd j (m + 1) l2).map (fun t => v :: t) → l2 < 100 → V G Y2_isMade (j + 7) 0 0 Q NX 129 [some (.ref 209), some (.int (nI m)), some (.int (nI left)), some (.int (nI (alG K (gI M 211) (Qk l1 (m + 1))))), some (.int (nI v)), some (.int (nI l2)), o6] [] (sI M' 211 m (nI v)) := by
      intro l2 o6 e h2
      obtain ⟨M1, eM1⟩ : ∃ M1, M1 = sI M' 211 m (nI v) := ⟨_, rfl⟩
      have hv1 : gI M1 211 m = nI v := by rw [eM1]; exact gI_ss _ _ _ _
      rw [← eM1] at hM2 hp2 ⊢
      have hC1 := hC.sm ha hM2
      have hS1 := hC1.1
      have hr1 := hC1.2.1
      have ea : alG K (gI M 211) (Qk l1 (m + 1)) = alG K (gI M1 211) (Qk l1 (m + 1)) := alG_eq (fun _ _ => rfl) (fun w hw hq => (hC.2.2.2.1.2.2.2 w hw).2.2 _ _ (fun i hi => (hp2 i (by unfold Qk at hq; rw [decide_eq_true_eq] at hq; omega)).symm))
      have hst := c2_stillAlike G M1 hC1 hW ha (k := m + 1) (by omega)
      rw [nI_pred, ← ea] at hst
      have er : (cndRV was rd j m left v).find? (fun t => nwB K (mkF (gI M 211) m t)) = (gmR K was rd j (m + 1) l2 (gI M1 211)).map (fun t => v :: t) := by
        rw [e, List.find?_map]
        congr 1
        unfold gmR
        congr 1
        funext t
        exact nwB_cg hW.p (fun i hi => (mkF_cons (n := kn K 1) hp2 hv1 i hi).symm)
      rw [er] at hr
      have key : ∀ M2, Sm (Wst 210) M1 M2 → Ct G Y2_isMade (j + 6) 0 0 [.ref 209, .int (nI (m + 1)), .int (nI l2), .int (nI (alG K (gI M1 211) (Qk l1 (m + 1 + 1))))] M2 (Rs (some (.int (bI ((gmR K was rd j (m + 1) l2 (gI M1 211)).isSome = true)))) (GmP K M2 (m + 1) (gmR K was rd j (m + 1) l2 (gI M1 211)))) NX := by
        intro M2 h
        have e211 : gI M2 211 = gI M1 211 := h.row (fun k => rfl)
        have := ih (m + 1) l2 (by omega) h2 M2 (hC1.sm ha (sw_st h)) (fun k hk => (h.2.2.2.2 213 k rfl).trans ((hM2.2.2.2.2 213 k rfl).trans (hb k hk)))
        rw [e211] at this
        exact this
      generalize gmR K was rd j (m + 1) l2 (gI M1 211) = o at key hr
      generalize alG K (gI M1 211) (Qk l1 (m + 1 + 1)) = B at key hst
      generalize alG K (gI M 211) (Qk l1 (m + 1)) = A at *
      refine v_aload_n dX2_isMade_129 rfl ?_
      refine v_iload_n dX2_isMade_130 rfl ?_
      refine v_iconst 1 dX2_isMade_131 (by decide) ?_
      refine v_iadd dX2_isMade_132 ?_
      refine v_iload dX2_isMade_133 rfl ?_
      refine v_aload_n dX2_isMade_135 rfl ?_
      refine v_iload_n dX2_isMade_136 rfl ?_
      refine v_iload_n dX2_isMade_137 rfl ?_
      skip
      rw [nI_1]
      refine v_scV [_, _] hst k2_stillAlike dX2_isMade_138 l2_64 (hS1.1 209 _ rfl) (by decide) rfl (by omega) (Nat.le_of_ble_eq_true rfl) (fun M2 h2M => ?_)
      refine v_scV [_, _, _] (key M2 h2M) k2_isMade dX2_isMade_141 l2_68 ((hS1.sm h2M).1 209 _ rfl) (by decide) rfl (by omega) (Nat.le_of_ble_eq_true rfl) (fun M3 hM3 => ?_)
      have h211 : ∀ i, gI M2 211 i = gI M1 211 i := fun i => h2M.2.2.2.2 211 i rfl
      have hM02 : Sm Wmk M M2 := hM2.tr (sw_st h2M)
      have hp02 : ∀ i, i < m → gI M2 211 i = gI M 211 i := fun i hi => (h211 i).trans (hp2 i hi)
      cases o with
      | none =>
        rw [show bI ((none : Option (List Nat)).isSome = true) = 0 from rfl]
        refine v_if_eq 149 dX2_isMade_144 (by decide) (fun h144 => ?_) (fun h144 => absurd rfl h144)
        refine v_iinc 1 dX2_isMade_149 rfl (by decide) rfl (by decide) ?_
        refine v_goto 34 dX2_isMade_152 (by decide) ?_
        (rw [nI_1]; exact ih2 (v + 1) M3 _ _ (by omega) (hM02.tr hM3.1) (fun i hi => (hM3.2.1 i (by omega)).trans (hp02 i hi)) hr)
      | some t =>
        rw [show bI ((some t : Option (List Nat)).isSome = true) = 1 from rfl]
        obtain rfl : r = some (v :: t) := hr
        have q := hq M3 (GmP.mono hM02 hp02 ((h211 m).trans hv1) hM3)
        refine v_if_eq 149 dX2_isMade_144 (by decide) (fun h144 => absurd h144 (by decide)) (fun h144 => ?_)
        refine v_iconst 1 dX2_isMade_147 (by decide) ?_
        refine v_zret dX2_isMade_148 rfl (by first | rfl | exact bI_nb _ | assumption) ?_
        exact q
    have e7 : nI (kn K 1) - nI m = nI (j + 1) := by rw [pk_sub (by omega)]; congr 1; omega
    have hbit := hasV (s := rd) (k := m) (by omega) (by omega)
    generalize hA : alG K (gI M 211) (Qk l1 (m + 1)) = A at *
    by_cases hv1 : nI v = was m
    · by_cases hlj : left ≤ j
      · have g := go left (some (.int 1)) (by unfold cndRV; rw [if_pos hv1, if_pos hlj]) hl
        refine v_iload dX2_isMade_34 rfl ?_
        refine v_bipush 10 dX2_isMade_36 (by decide) ?_
        refine v_icmp_ge 155 dX2_isMade_38 (by decide) (fun h38 => absurd ((nI_leI (a := 10) (by decide) (by omega)).mp h38) (by omega)) (fun h38 => ?_)
        refine v_iload dX2_isMade_41 rfl ?_
        refine v_aload_n dX2_isMade_43 rfl ?_
        refine v_getR 2 1 _ dX2_isMade_44 f2_18 (by first | exact p1 | exact hS'.1 _ _ rfl | assumption) (by decide) (by first | exact hr' | exact hS'.2 _ _ _ rfl | assumption) ?_
        refine v_iload_n dX2_isMade_47 rfl ?_
        refine v_ialdN (m) dX2_isMade_48 (by first | exact p1 | exact hS'.1 _ _ rfl | assumption) (by simp only [n_lit, pk_mul, nI_add]) ⟨by omega, by omega⟩ ?_
        rw [hbm]
        refine v_icmp_ne 56 dX2_isMade_49 (by decide) (fun h49 => absurd hv1 h49) (fun h49 => ?_)
        refine v_iload_n dX2_isMade_52 rfl ?_
        refine v_goto 59 dX2_isMade_53 (by decide) ?_
        refine v_istore dX2_isMade_59 rfl (by decide) ?_
        refine v_iload dX2_isMade_61 rfl ?_
        refine v_aload_n dX2_isMade_63 rfl ?_
        refine v_getR 2 1 _ dX2_isMade_64 f2_18 (by first | exact p1 | exact hS'.1 _ _ rfl | assumption) (by decide) (by first | exact hr' | exact hS'.2 _ _ _ rfl | assumption) ?_
        refine v_iload_n dX2_isMade_67 rfl ?_
        refine v_ialdN (m) dX2_isMade_68 (by first | exact p1 | exact hS'.1 _ _ rfl | assumption) (by simp only [n_lit, pk_mul, nI_add]) ⟨by omega, by omega⟩ ?_
        rw [hbm]
        refine v_icmp_eq 87 dX2_isMade_69 (by decide) (fun h69 => ?_) (fun h69 => absurd hv1 h69)
        refine v_iconst 1 dX2_isMade_87 (by decide) ?_
        refine v_goto 92 dX2_isMade_88 (by decide) ?_
        refine v_istore dX2_isMade_92 rfl (by decide) ?_
        refine v_iload dX2_isMade_94 rfl ?_
        refine v_if_eq 149 dX2_isMade_96 (by decide) (fun h96 => absurd h96 (by decide)) (fun h96 => ?_)
        refine v_iload dX2_isMade_99 rfl ?_
        refine v_if_lt 149 dX2_isMade_101 (by decide) (fun h101 => absurd ((nI_ltI (b := 0) (by omega) (by decide)).mp h101) (by omega)) (fun h101 => ?_)
        refine v_iload dX2_isMade_104 rfl ?_
        refine v_aload_n dX2_isMade_106 rfl ?_
        refine v_getR 2 3 _ dX2_isMade_107 f2_28 (by first | exact p1 | exact hS'.1 _ _ rfl | assumption) (by decide) (by first | exact hr' | exact hS'.2 _ _ _ rfl | assumption) ?_
        refine v_getI 4 1 dX2_isMade_110 f2_72 (by first | exact p1 | exact hS'.1 _ _ rfl | assumption) (by decide) ?_
        rw [e2, hW.p.1.1]
        refine v_iload_n dX2_isMade_113 rfl ?_
        refine v_isub dX2_isMade_114 ?_
        rw [e7]
        refine v_icmp_ge 149 dX2_isMade_115 (by decide) (fun h115 => absurd ((nI_leI (by omega) (by omega)).mp h115) (by omega)) (fun h115 => ?_)
        refine v_aload_n dX2_isMade_118 rfl ?_
        refine v_getR 2 0 _ dX2_isMade_119 f2_12 (by first | exact p1 | exact hS'.1 _ _ rfl | assumption) (by decide) (by first | exact hr' | exact hS'.2 _ _ _ rfl | assumption) ?_
        refine v_getR 5 0 _ dX2_isMade_122 f2_52 (by first | exact p1 | exact hS'.1 _ _ rfl | assumption) (by decide) (by first | exact hr' | exact hS'.2 _ _ _ rfl | assumption) ?_
        refine v_iload_n dX2_isMade_125 rfl ?_
        refine v_iload dX2_isMade_126 rfl ?_
        skip
        refine v_iastN m dX2_isMade_128 (hS'.1 211 _ rfl) rfl ⟨by omega, by decide⟩ ?_
        exact g
      · have s := skp (by unfold cndRV; rw [if_pos hv1, if_neg hlj])
        refine v_iload dX2_isMade_34 rfl ?_
        refine v_bipush 10 dX2_isMade_36 (by decide) ?_
        refine v_icmp_ge 155 dX2_isMade_38 (by decide) (fun h38 => absurd ((nI_leI (a := 10) (by decide) (by omega)).mp h38) (by omega)) (fun h38 => ?_)
        refine v_iload dX2_isMade_41 rfl ?_
        refine v_aload_n dX2_isMade_43 rfl ?_
        refine v_getR 2 1 _ dX2_isMade_44 f2_18 (by first | exact p1 | exact hS'.1 _ _ rfl | assumption) (by decide) (by first | exact hr' | exact hS'.2 _ _ _ rfl | assumption) ?_
        refine v_iload_n dX2_isMade_47 rfl ?_
        refine v_ialdN (m) dX2_isMade_48 (by first | exact p1 | exact hS'.1 _ _ rfl | assumption) (by simp only [n_lit, pk_mul, nI_add]) ⟨by omega, by omega⟩ ?_
        rw [hbm]
        refine v_icmp_ne 56 dX2_isMade_49 (by decide) (fun h49 => absurd hv1 h49) (fun h49 => ?_)
        refine v_iload_n dX2_isMade_52 rfl ?_
        refine v_goto 59 dX2_isMade_53 (by decide) ?_
        refine v_istore dX2_isMade_59 rfl (by decide) ?_
        refine v_iload dX2_isMade_61 rfl ?_
        refine v_aload_n dX2_isMade_63 rfl ?_
        refine v_getR 2 1 _ dX2_isMade_64 f2_18 (by first | exact p1 | exact hS'.1 _ _ rfl | assumption) (by decide) (by first | exact hr' | exact hS'.2 _ _ _ rfl | assumption) ?_
        refine v_iload_n dX2_isMade_67 rfl ?_
        refine v_ialdN (m) dX2_isMade_68 (by first | exact p1 | exact hS'.1 _ _ rfl | assumption) (by simp only [n_lit, pk_mul, nI_add]) ⟨by omega, by omega⟩ ?_
        rw [hbm]
        refine v_icmp_eq 87 dX2_isMade_69 (by decide) (fun h69 => ?_) (fun h69 => absurd hv1 h69)
        refine v_iconst 1 dX2_isMade_87 (by decide) ?_
        refine v_goto 92 dX2_isMade_88 (by decide) ?_
        refine v_istore dX2_isMade_92 rfl (by decide) ?_
        refine v_iload dX2_isMade_94 rfl ?_
        refine v_if_eq 149 dX2_isMade_96 (by decide) (fun h96 => absurd h96 (by decide)) (fun h96 => ?_)
        refine v_iload dX2_isMade_99 rfl ?_
        refine v_if_lt 149 dX2_isMade_101 (by decide) (fun h101 => absurd ((nI_ltI (b := 0) (by omega) (by decide)).mp h101) (by omega)) (fun h101 => ?_)
        refine v_iload dX2_isMade_104 rfl ?_
        refine v_aload_n dX2_isMade_106 rfl ?_
        refine v_getR 2 3 _ dX2_isMade_107 f2_28 (by first | exact p1 | exact hS'.1 _ _ rfl | assumption) (by decide) (by first | exact hr' | exact hS'.2 _ _ _ rfl | assumption) ?_
        refine v_getI 4 1 dX2_isMade_110 f2_72 (by first | exact p1 | exact hS'.1 _ _ rfl | assumption) (by decide) ?_
        rw [e2, hW.p.1.1]
        refine v_iload_n dX2_isMade_113 rfl ?_
        refine v_isub dX2_isMade_114 ?_
        rw [e7]
        refine v_icmp_ge 149 dX2_isMade_115 (by decide) (fun h115 => ?_) (fun h115 => absurd (nI_le (by omega) (by omega)) h115)
        refine v_iinc 1 dX2_isMade_149 rfl (by decide) rfl (by decide) ?_
        refine v_goto 34 dX2_isMade_152 (by decide) ?_
        (rw [nI_1]; exact s _ _)
    · by_cases hbt : rd.testBit m = true
      · have hb1 := tb_div.mp hbt
        rw [hb1] at hbit
        by_cases hl0 : left = 0
        · have s := skp (by unfold cndRV; rw [if_neg hv1, if_neg (by omega)])
          subst hl0
          refine v_iload dX2_isMade_34 rfl ?_
          refine v_bipush 10 dX2_isMade_36 (by decide) ?_
          refine v_icmp_ge 155 dX2_isMade_38 (by decide) (fun h38 => absurd ((nI_leI (a := 10) (by decide) (by omega)).mp h38) (by omega)) (fun h38 => ?_)
          refine v_iload dX2_isMade_41 rfl ?_
          refine v_aload_n dX2_isMade_43 rfl ?_
          refine v_getR 2 1 _ dX2_isMade_44 f2_18 (by first | exact p1 | exact hS'.1 _ _ rfl | assumption) (by decide) (by first | exact hr' | exact hS'.2 _ _ _ rfl | assumption) ?_
          refine v_iload_n dX2_isMade_47 rfl ?_
          refine v_ialdN (m) dX2_isMade_48 (by first | exact p1 | exact hS'.1 _ _ rfl | assumption) (by simp only [n_lit, pk_mul, nI_add]) ⟨by omega, by omega⟩ ?_
          rw [hbm]
          refine v_icmp_ne 56 dX2_isMade_49 (by decide) (fun h49 => ?_) (fun h49 => absurd (Decidable.not_not.mp h49) hv1)
          refine v_iload_n dX2_isMade_56 rfl ?_
          refine v_iconst 1 dX2_isMade_57 (by decide) ?_
          refine v_isub dX2_isMade_58 ?_
          refine v_istore dX2_isMade_59 rfl (by decide) ?_
          refine v_iload dX2_isMade_61 rfl ?_
          refine v_aload_n dX2_isMade_63 rfl ?_
          refine v_getR 2 1 _ dX2_isMade_64 f2_18 (by first | exact p1 | exact hS'.1 _ _ rfl | assumption) (by decide) (by first | exact hr' | exact hS'.2 _ _ _ rfl | assumption) ?_
          refine v_iload_n dX2_isMade_67 rfl ?_
          refine v_ialdN (m) dX2_isMade_68 (by first | exact p1 | exact hS'.1 _ _ rfl | assumption) (by simp only [n_lit, pk_mul, nI_add]) ⟨by omega, by omega⟩ ?_
          rw [hbm]
          refine v_icmp_eq 87 dX2_isMade_69 (by decide) (fun h69 => absurd h69 hv1) (fun h69 => ?_)
          refine v_aload_n dX2_isMade_72 rfl ?_
          refine v_getR 2 3 _ dX2_isMade_73 f2_28 (by first | exact p1 | exact hS'.1 _ _ rfl | assumption) (by decide) (by first | exact hr' | exact hS'.2 _ _ _ rfl | assumption) ?_
          refine v_getI 4 9 dX2_isMade_76 f2_75 (by first | exact p1 | exact hS'.1 _ _ rfl | assumption) (by decide) ?_
          rw [hrd.1]
          refine v_iload_n dX2_isMade_79 rfl ?_
          refine v_ishr dX2_isMade_80 ?_
          refine v_iconst 1 dX2_isMade_81 (by decide) ?_
          refine v_iand dX2_isMade_82 ?_
          rw [hbit]
          refine v_iconst 1 dX2_isMade_83 (by decide) ?_
          refine v_icmp_ne 91 dX2_isMade_84 (by decide) (fun h84 => absurd rfl h84) (fun h84 => ?_)
          refine v_iconst 1 dX2_isMade_87 (by decide) ?_
          refine v_goto 92 dX2_isMade_88 (by decide) ?_
          refine v_istore dX2_isMade_92 rfl (by decide) ?_
          refine v_iload dX2_isMade_94 rfl ?_
          refine v_if_eq 149 dX2_isMade_96 (by decide) (fun h96 => absurd h96 (by decide)) (fun h96 => ?_)
          refine v_iload dX2_isMade_99 rfl ?_
          refine v_if_lt 149 dX2_isMade_101 (by decide) (fun h101 => ?_) (fun h101 => absurd (by decide) h101)
          refine v_iinc 1 dX2_isMade_149 rfl (by decide) rfl (by decide) ?_
          refine v_goto 34 dX2_isMade_152 (by decide) ?_
          (rw [nI_1]; exact s _ _)
        · have e8 : nI left - 1 = nI (left - 1) := pk_sub (a := left) (b := 1) (by omega)
          by_cases hlj : left - 1 ≤ j
          · have g := go (left - 1) (some (.int 1)) (by unfold cndRV; rw [if_neg hv1, if_pos ⟨hbt, by omega, hlj⟩]) (by omega)
            refine v_iload dX2_isMade_34 rfl ?_
            refine v_bipush 10 dX2_isMade_36 (by decide) ?_
            refine v_icmp_ge 155 dX2_isMade_38 (by decide) (fun h38 => absurd ((nI_leI (a := 10) (by decide) (by omega)).mp h38) (by omega)) (fun h38 => ?_)
            refine v_iload dX2_isMade_41 rfl ?_
            refine v_aload_n dX2_isMade_43 rfl ?_
            refine v_getR 2 1 _ dX2_isMade_44 f2_18 (by first | exact p1 | exact hS'.1 _ _ rfl | assumption) (by decide) (by first | exact hr' | exact hS'.2 _ _ _ rfl | assumption) ?_
            refine v_iload_n dX2_isMade_47 rfl ?_
            refine v_ialdN (m) dX2_isMade_48 (by first | exact p1 | exact hS'.1 _ _ rfl | assumption) (by simp only [n_lit, pk_mul, nI_add]) ⟨by omega, by omega⟩ ?_
            rw [hbm]
            refine v_icmp_ne 56 dX2_isMade_49 (by decide) (fun h49 => ?_) (fun h49 => absurd (Decidable.not_not.mp h49) hv1)
            refine v_iload_n dX2_isMade_56 rfl ?_
            refine v_iconst 1 dX2_isMade_57 (by decide) ?_
            refine v_isub dX2_isMade_58 ?_
            rw [e8]
            refine v_istore dX2_isMade_59 rfl (by decide) ?_
            refine v_iload dX2_isMade_61 rfl ?_
            refine v_aload_n dX2_isMade_63 rfl ?_
            refine v_getR 2 1 _ dX2_isMade_64 f2_18 (by first | exact p1 | exact hS'.1 _ _ rfl | assumption) (by decide) (by first | exact hr' | exact hS'.2 _ _ _ rfl | assumption) ?_
            refine v_iload_n dX2_isMade_67 rfl ?_
            refine v_ialdN (m) dX2_isMade_68 (by first | exact p1 | exact hS'.1 _ _ rfl | assumption) (by simp only [n_lit, pk_mul, nI_add]) ⟨by omega, by omega⟩ ?_
            rw [hbm]
            refine v_icmp_eq 87 dX2_isMade_69 (by decide) (fun h69 => absurd h69 hv1) (fun h69 => ?_)
            refine v_aload_n dX2_isMade_72 rfl ?_
            refine v_getR 2 3 _ dX2_isMade_73 f2_28 (by first | exact p1 | exact hS'.1 _ _ rfl | assumption) (by decide) (by first | exact hr' | exact hS'.2 _ _ _ rfl | assumption) ?_
            refine v_getI 4 9 dX2_isMade_76 f2_75 (by first | exact p1 | exact hS'.1 _ _ rfl | assumption) (by decide) ?_
            rw [hrd.1]
            refine v_iload_n dX2_isMade_79 rfl ?_
            refine v_ishr dX2_isMade_80 ?_
            refine v_iconst 1 dX2_isMade_81 (by decide) ?_
            refine v_iand dX2_isMade_82 ?_
            rw [hbit]
            refine v_iconst 1 dX2_isMade_83 (by decide) ?_
            refine v_icmp_ne 91 dX2_isMade_84 (by decide) (fun h84 => absurd rfl h84) (fun h84 => ?_)
            refine v_iconst 1 dX2_isMade_87 (by decide) ?_
            refine v_goto 92 dX2_isMade_88 (by decide) ?_
            refine v_istore dX2_isMade_92 rfl (by decide) ?_
            refine v_iload dX2_isMade_94 rfl ?_
            refine v_if_eq 149 dX2_isMade_96 (by decide) (fun h96 => absurd h96 (by decide)) (fun h96 => ?_)
            refine v_iload dX2_isMade_99 rfl ?_
            refine v_if_lt 149 dX2_isMade_101 (by decide) (fun h101 => absurd ((nI_ltI (b := 0) (by omega) (by decide)).mp h101) (by omega)) (fun h101 => ?_)
            refine v_iload dX2_isMade_104 rfl ?_
            refine v_aload_n dX2_isMade_106 rfl ?_
            refine v_getR 2 3 _ dX2_isMade_107 f2_28 (by first | exact p1 | exact hS'.1 _ _ rfl | assumption) (by decide) (by first | exact hr' | exact hS'.2 _ _ _ rfl | assumption) ?_
            refine v_getI 4 1 dX2_isMade_110 f2_72 (by first | exact p1 | exact hS'.1 _ _ rfl | assumption) (by decide) ?_
            rw [e2, hW.p.1.1]
            refine v_iload_n dX2_isMade_113 rfl ?_
            refine v_isub dX2_isMade_114 ?_
            rw [e7]
            refine v_icmp_ge 149 dX2_isMade_115 (by decide) (fun h115 => absurd ((nI_leI (by omega) (by omega)).mp h115) (by omega)) (fun h115 => ?_)
            refine v_aload_n dX2_isMade_118 rfl ?_
            refine v_getR 2 0 _ dX2_isMade_119 f2_12 (by first | exact p1 | exact hS'.1 _ _ rfl | assumption) (by decide) (by first | exact hr' | exact hS'.2 _ _ _ rfl | assumption) ?_
            refine v_getR 5 0 _ dX2_isMade_122 f2_52 (by first | exact p1 | exact hS'.1 _ _ rfl | assumption) (by decide) (by first | exact hr' | exact hS'.2 _ _ _ rfl | assumption) ?_
            refine v_iload_n dX2_isMade_125 rfl ?_
            refine v_iload dX2_isMade_126 rfl ?_
            skip
            refine v_iastN m dX2_isMade_128 (hS'.1 211 _ rfl) rfl ⟨by omega, by decide⟩ ?_
            exact g
          · have s := skp (by unfold cndRV; rw [if_neg hv1, if_neg (fun z => hlj z.2.2)])
            refine v_iload dX2_isMade_34 rfl ?_
            refine v_bipush 10 dX2_isMade_36 (by decide) ?_
            refine v_icmp_ge 155 dX2_isMade_38 (by decide) (fun h38 => absurd ((nI_leI (a := 10) (by decide) (by omega)).mp h38) (by omega)) (fun h38 => ?_)
            refine v_iload dX2_isMade_41 rfl ?_
            refine v_aload_n dX2_isMade_43 rfl ?_
            refine v_getR 2 1 _ dX2_isMade_44 f2_18 (by first | exact p1 | exact hS'.1 _ _ rfl | assumption) (by decide) (by first | exact hr' | exact hS'.2 _ _ _ rfl | assumption) ?_
            refine v_iload_n dX2_isMade_47 rfl ?_
            refine v_ialdN (m) dX2_isMade_48 (by first | exact p1 | exact hS'.1 _ _ rfl | assumption) (by simp only [n_lit, pk_mul, nI_add]) ⟨by omega, by omega⟩ ?_
            rw [hbm]
            refine v_icmp_ne 56 dX2_isMade_49 (by decide) (fun h49 => ?_) (fun h49 => absurd (Decidable.not_not.mp h49) hv1)
            refine v_iload_n dX2_isMade_56 rfl ?_
            refine v_iconst 1 dX2_isMade_57 (by decide) ?_
            refine v_isub dX2_isMade_58 ?_
            rw [e8]
            refine v_istore dX2_isMade_59 rfl (by decide) ?_
            refine v_iload dX2_isMade_61 rfl ?_
            refine v_aload_n dX2_isMade_63 rfl ?_
            refine v_getR 2 1 _ dX2_isMade_64 f2_18 (by first | exact p1 | exact hS'.1 _ _ rfl | assumption) (by decide) (by first | exact hr' | exact hS'.2 _ _ _ rfl | assumption) ?_
            refine v_iload_n dX2_isMade_67 rfl ?_
            refine v_ialdN (m) dX2_isMade_68 (by first | exact p1 | exact hS'.1 _ _ rfl | assumption) (by simp only [n_lit, pk_mul, nI_add]) ⟨by omega, by omega⟩ ?_
            rw [hbm]
            refine v_icmp_eq 87 dX2_isMade_69 (by decide) (fun h69 => absurd h69 hv1) (fun h69 => ?_)
            refine v_aload_n dX2_isMade_72 rfl ?_
            refine v_getR 2 3 _ dX2_isMade_73 f2_28 (by first | exact p1 | exact hS'.1 _ _ rfl | assumption) (by decide) (by first | exact hr' | exact hS'.2 _ _ _ rfl | assumption) ?_
            refine v_getI 4 9 dX2_isMade_76 f2_75 (by first | exact p1 | exact hS'.1 _ _ rfl | assumption) (by decide) ?_
            rw [hrd.1]
            refine v_iload_n dX2_isMade_79 rfl ?_
            refine v_ishr dX2_isMade_80 ?_
            refine v_iconst 1 dX2_isMade_81 (by decide) ?_
            refine v_iand dX2_isMade_82 ?_
            rw [hbit]
            refine v_iconst 1 dX2_isMade_83 (by decide) ?_
            refine v_icmp_ne 91 dX2_isMade_84 (by decide) (fun h84 => absurd rfl h84) (fun h84 => ?_)
            refine v_iconst 1 dX2_isMade_87 (by decide) ?_
            refine v_goto 92 dX2_isMade_88 (by decide) ?_
            refine v_istore dX2_isMade_92 rfl (by decide) ?_
            refine v_iload dX2_isMade_94 rfl ?_
            refine v_if_eq 149 dX2_isMade_96 (by decide) (fun h96 => absurd h96 (by decide)) (fun h96 => ?_)
            refine v_iload dX2_isMade_99 rfl ?_
            refine v_if_lt 149 dX2_isMade_101 (by decide) (fun h101 => absurd ((nI_ltI (b := 0) (by omega) (by decide)).mp h101) (by omega)) (fun h101 => ?_)
            refine v_iload dX2_isMade_104 rfl ?_
            refine v_aload_n dX2_isMade_106 rfl ?_
            refine v_getR 2 3 _ dX2_isMade_107 f2_28 (by first | exact p1 | exact hS'.1 _ _ rfl | assumption) (by decide) (by first | exact hr' | exact hS'.2 _ _ _ rfl | assumption) ?_
            refine v_getI 4 1 dX2_isMade_110 f2_72 (by first | exact p1 | exact hS'.1 _ _ rfl | assumption) (by decide) ?_
            rw [e2, hW.p.1.1]
            refine v_iload_n dX2_isMade_113 rfl ?_
            refine v_isub dX2_isMade_114 ?_
            rw [e7]
            refine v_icmp_ge 149 dX2_isMade_115 (by decide) (fun h115 => ?_) (fun h115 => absurd (nI_le (by omega) (by omega)) h115)
            refine v_iinc 1 dX2_isMade_149 rfl (by decide) rfl (by decide) ?_
            refine v_goto 34 dX2_isMade_152 (by decide) ?_
            (rw [nI_1]; exact s _ _)
      · have hb0 : rd / 2 ^ m % 2 = 0 := by
          have := Nat.mod_two_eq_zero_or_one (rd / 2 ^ m)
          exact this.resolve_right (fun z => hbt (tb_div.mpr z))
        rw [hb0] at hbit
        have s := skp (by unfold cndRV; rw [if_neg hv1, if_neg (fun z => hbt z.1)])
        refine v_iload dX2_isMade_34 rfl ?_
        refine v_bipush 10 dX2_isMade_36 (by decide) ?_
        refine v_icmp_ge 155 dX2_isMade_38 (by decide) (fun h38 => absurd ((nI_leI (a := 10) (by decide) (by omega)).mp h38) (by omega)) (fun h38 => ?_)
        refine v_iload dX2_isMade_41 rfl ?_
        refine v_aload_n dX2_isMade_43 rfl ?_
        refine v_getR 2 1 _ dX2_isMade_44 f2_18 (by first | exact p1 | exact hS'.1 _ _ rfl | assumption) (by decide) (by first | exact hr' | exact hS'.2 _ _ _ rfl | assumption) ?_
        refine v_iload_n dX2_isMade_47 rfl ?_
        refine v_ialdN (m) dX2_isMade_48 (by first | exact p1 | exact hS'.1 _ _ rfl | assumption) (by simp only [n_lit, pk_mul, nI_add]) ⟨by omega, by omega⟩ ?_
        rw [hbm]
        refine v_icmp_ne 56 dX2_isMade_49 (by decide) (fun h49 => ?_) (fun h49 => absurd (Decidable.not_not.mp h49) hv1)
        refine v_iload_n dX2_isMade_56 rfl ?_
        refine v_iconst 1 dX2_isMade_57 (by decide) ?_
        refine v_isub dX2_isMade_58 ?_
        refine v_istore dX2_isMade_59 rfl (by decide) ?_
        refine v_iload dX2_isMade_61 rfl ?_
        refine v_aload_n dX2_isMade_63 rfl ?_
        refine v_getR 2 1 _ dX2_isMade_64 f2_18 (by first | exact p1 | exact hS'.1 _ _ rfl | assumption) (by decide) (by first | exact hr' | exact hS'.2 _ _ _ rfl | assumption) ?_
        refine v_iload_n dX2_isMade_67 rfl ?_
        refine v_ialdN (m) dX2_isMade_68 (by first | exact p1 | exact hS'.1 _ _ rfl | assumption) (by simp only [n_lit, pk_mul, nI_add]) ⟨by omega, by omega⟩ ?_
        rw [hbm]
        refine v_icmp_eq 87 dX2_isMade_69 (by decide) (fun h69 => absurd h69 hv1) (fun h69 => ?_)
        refine v_aload_n dX2_isMade_72 rfl ?_
        refine v_getR 2 3 _ dX2_isMade_73 f2_28 (by first | exact p1 | exact hS'.1 _ _ rfl | assumption) (by decide) (by first | exact hr' | exact hS'.2 _ _ _ rfl | assumption) ?_
        refine v_getI 4 9 dX2_isMade_76 f2_75 (by first | exact p1 | exact hS'.1 _ _ rfl | assumption) (by decide) ?_
        rw [hrd.1]
        refine v_iload_n dX2_isMade_79 rfl ?_
        refine v_ishr dX2_isMade_80 ?_
        refine v_iconst 1 dX2_isMade_81 (by decide) ?_
        refine v_iand dX2_isMade_82 ?_
        rw [hbit]
        refine v_iconst 1 dX2_isMade_83 (by decide) ?_
        refine v_icmp_ne 91 dX2_isMade_84 (by decide) (fun h84 => ?_) (fun h84 => absurd (Decidable.not_not.mp h84) (by decide))
        refine v_iconst 0 dX2_isMade_91 (by decide) ?_
        refine v_istore dX2_isMade_92 rfl (by decide) ?_
        refine v_iload dX2_isMade_94 rfl ?_
        refine v_if_eq 149 dX2_isMade_96 (by decide) (fun h96 => ?_) (fun h96 => absurd rfl h96)
        refine v_iinc 1 dX2_isMade_149 rfl (by decide) rfl (by decide) ?_
        refine v_goto 34 dX2_isMade_152 (by decide) ?_
        (rw [nI_1]; exact s _ _)
end M2
