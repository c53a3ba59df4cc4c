/-! ===== the class: Maker, make ===== -/
section M3
variable (G : mG) (K was : Nat → Int32) (p cd n rd : Nat) (l1 : Nat → Nat)
theorem c2_isMade_all (hW : WK K) (ha : Ap4 p cd) : ∀ j, GmC G K was p cd n rd l1 j := by
  have h6 := hW.p.1.2.2
  have h14 := hW.p.2.1.2
  intro j
  induction j with
  | zero =>
    intro m left hm hl M hC hb
    have hS := hC.1
    have hr' := hC.2.1
    obtain ⟨⟨p1, p2, p3, p4, p5, p6, p7, p8, p9, p10, p11, p12, p13, p14⟩, ⟨e1, e2, e3, e4, e5, e6, e7⟩, g2, g3, g4, g5, g6, g7⟩ := hC.2.2.1
    obtain rfl : m = kn K 1 := by omega
    have hal := alG_lt (K := K) (f := gI M 211) (Q := Qk l1 (kn K 1 + 1)) h14
    have hz := alG_n (K := K) (f := gI M 211) (Q := Qk l1 (kn K 1 + 1)) (fun w hw => decide_eq_true (by have := (hC.2.2.2.1.2.2.2 w hw).2.1; omega))
    have em : nwB K (mkF (gI M 211) (kn K 1) []) = nwB K (gI M 211) := nwB_cg hW.p (fun i hi => if_pos hi)
    generalize alG K (gI M 211) (Qk l1 (kn K 1 + 1)) = A at *
    refine Ct.of k2_isMade.1 (Nat.le_of_ble_eq_true rfl) ?_
    by_cases h0 : left = 0
    · subst h0
      by_cases hn : nwB K (gI M 211) = true
      · have e : gmR K was rd 0 (kn K 1) 0 (gI M 211) = some [] := by simp [gmR, cndR, em, hn]
        rw [e]
        have hA := hz.mpr hn
        subst hA
        refine v_iload_n dX2_isMade_0 rfl ?_
        refine v_aload_n dX2_isMade_1 rfl ?_
        refine v_getR 2 3 _ dX2_isMade_2 f2_28 (by first | exact p1 | exact hS.1 _ _ rfl | assumption) (by decide) (by first | exact hr' | exact hS.2 _ _ _ rfl | assumption) ?_
        refine v_getI 4 1 dX2_isMade_5 f2_72 (by first | exact p1 | exact hS.1 _ _ rfl | assumption) (by decide) ?_
        rw [e2, hW.p.1.1]
        refine v_icmp_ge 17 dX2_isMade_8 (by decide) (fun h8 => ?_) (fun h8 => absurd (nI_le (Nat.le_refl _) (by omega)) h8)
        refine v_iload_n dX2_isMade_17 rfl ?_
        refine v_if_ne 29 dX2_isMade_18 (by decide) (fun h18 => absurd rfl h18) (fun h18 => ?_)
        refine v_iload_n dX2_isMade_21 rfl ?_
        refine v_if_ne 29 dX2_isMade_22 (by decide) (fun h22 => absurd rfl h22) (fun h22 => ?_)
        refine v_iconst 1 dX2_isMade_25 (by decide) ?_
        refine v_goto 30 dX2_isMade_26 (by decide) ?_
        refine v_zret dX2_isMade_30 rfl (by first | rfl | exact bI_nb _ | assumption) ?_
        exact ⟨rfl, Sm.rf, fun _ _ => rfl, fun t h i h1 h2 => by omega⟩
      · have e : gmR K was rd 0 (kn K 1) 0 (gI M 211) = none := by simp [gmR, cndR, em, hn]
        rw [e]
        have hA : ¬ A = 0 := fun z => hn (hz.mp z)
        refine v_iload_n dX2_isMade_0 rfl ?_
        refine v_aload_n dX2_isMade_1 rfl ?_
        refine v_getR 2 3 _ dX2_isMade_2 f2_28 (by first | exact p1 | exact hS.1 _ _ rfl | assumption) (by decide) (by first | exact hr' | exact hS.2 _ _ _ rfl | assumption) ?_
        refine v_getI 4 1 dX2_isMade_5 f2_72 (by first | exact p1 | exact hS.1 _ _ rfl | assumption) (by decide) ?_
        rw [e2, hW.p.1.1]
        refine v_icmp_ge 17 dX2_isMade_8 (by decide) (fun h8 => ?_) (fun h8 => absurd (nI_le (Nat.le_refl _) (by omega)) h8)
        refine v_iload_n dX2_isMade_17 rfl ?_
        refine v_if_ne 29 dX2_isMade_18 (by decide) (fun h18 => absurd rfl h18) (fun h18 => ?_)
        refine v_iload_n dX2_isMade_21 rfl ?_
        refine v_if_ne 29 dX2_isMade_22 (by decide) (fun h22 => ?_) (fun h22 => absurd ((nI0 (by omega)).mp (Decidable.not_not.mp h22)) hA)
        refine v_iconst 0 dX2_isMade_29 (by decide) ?_
        refine v_zret dX2_isMade_30 rfl (by first | rfl | exact bI_nb _ | assumption) ?_
        exact ⟨rfl, Sm.rf, fun _ _ => rfl, fun t h => by cases h⟩
    · have e : gmR K was rd 0 (kn K 1) left (gI M 211) = none := by simp [gmR, cndR, h0]
      rw [e]
      refine v_iload_n dX2_isMade_0 rfl ?_
      refine v_aload_n dX2_isMade_1 rfl ?_
      refine v_getR 2 3 _ dX2_isMade_2 f2_28 (by first | exact p1 | exact hS.1 _ _ rfl | assumption) (by decide) (by first | exact hr' | exact hS.2 _ _ _ rfl | assumption) ?_
      refine v_getI 4 1 dX2_isMade_5 f2_72 (by first | exact p1 | exact hS.1 _ _ rfl | assumption) (by decide) ?_
      rw [e2, hW.p.1.1]
      refine v_icmp_ge 17 dX2_isMade_8 (by decide) (fun h8 => ?_) (fun h8 => absurd (nI_le (Nat.le_refl _) (by omega)) h8)
      refine v_iload_n dX2_isMade_17 rfl ?_
      refine v_if_ne 29 dX2_isMade_18 (by decide) (fun h18 => ?_) (fun h18 => absurd ((nI0 (by omega)).mp (Decidable.not_not.mp h18)) h0)
      refine v_iconst 0 dX2_isMade_29 (by decide) ?_
      refine v_zret dX2_isMade_30 rfl (by first | rfl | exact bI_nb _ | assumption) ?_
      exact ⟨rfl, Sm.rf, fun _ _ => rfl, fun t h => by cases h⟩
  | succ j ih =>
    intro m left hm hl M hC hb
    have hS := hC.1
    have hr' := hC.2.1
    obtain ⟨⟨p1, p2, p3, p4, p5, p6, p7, p8, p9, p10, p11, p12, p13, p14⟩, ⟨e1, e2, e3, e4, e5, e6, e7⟩, g2, g3, g4, g5, g6, g7⟩ := hC.2.2.1
    have l := l2_isMade G K was p cd n rd l1 ih hW ha hm hl M hC hb (Q := Rs (some (.int (bI ((gmR K was rd (j + 1) m left (gI M 211)).isSome = true)))) (GmP K M m (gmR K was rd (j + 1) m left (gI M 211)))) (gmR K was rd (j + 1) m left (gI M 211)) (fun M' h => ⟨rfl, h⟩) 10 0 M none none (by omega) Sm.rf (fun _ _ => rfl) (by unfold gmR; rw [cndR_s])
    refine Ct.of k2_isMade.1 (Nat.le_of_ble_eq_true rfl) ?_
    generalize alG K (gI M 211) (Qk l1 (m + 1)) = A at *
    refine v_iload_n dX2_isMade_0 rfl ?_
    refine v_aload_n dX2_isMade_1 rfl ?_
    refine v_getR 2 3 _ dX2_isMade_2 f2_28 (by first | exact p1 | exact hS.1 _ _ rfl | assumption) (by decide) (by first | exact hr' | exact hS.2 _ _ _ rfl | assumption) ?_
    refine v_getI 4 1 dX2_isMade_5 f2_72 (by first | exact p1 | exact hS.1 _ _ rfl | assumption) (by decide) ?_
    rw [e2, hW.p.1.1]
    refine v_icmp_ge 17 dX2_isMade_8 (by decide) (fun h8 => absurd ((nI_leI (by omega) (by omega)).mp h8) (by omega)) (fun h8 => ?_)
    refine v_iload_n dX2_isMade_11 rfl ?_
    refine v_bipush 6 dX2_isMade_12 (by decide) ?_
    refine v_icmp_lt 31 dX2_isMade_14 (by decide) (fun h14 => ?_) (fun h14 => absurd (nI_lt (b := 6) (by omega) (by decide)) h14)
    refine v_iconst 0 dX2_isMade_31 (by decide) ?_
    refine v_istore dX2_isMade_32 rfl (by decide) ?_
    skip
    exact v_pad (v_pad l)
end M3
def Wma (q _k : Nat) : Bool := Nat.ble 210 q && Nat.ble q 214
theorem Wma_o {q : Nat} (h : q < 210 ∨ 214 < q) (k : Nat) : Wma q k = false := by
  unfold Wma
  cases h1 : Nat.ble 210 q
  · rfl
  · cases h2 : Nat.ble q 214
    · rfl
    · have := Nat.le_of_ble_eq_true h1
      have := Nat.le_of_ble_eq_true h2
      omega
theorem Wma_f {q k : Nat} (z : Wma q k = false) : q < 210 ∨ 214 < q := by
  unfold Wma at z
  by_cases h1 : 210 ≤ q
  · by_cases h2 : q ≤ 214
    · rw [Nat.ble_eq_true_of_le h1, Nat.ble_eq_true_of_le h2] at z; cases z
    · omega
  · omega
theorem Sh.sR {M : mM} (h : Sh M) (p : Nat) : Sh (sR M 209 3 (some p)) := ⟨fun q sh hq => h.1 q sh hq, fun q k a hq => by
  rw [gR_sR]
  by_cases e : q = 209
  · subst e
    by_cases e2 : k = 3
    · subst e2; cases hq
    · exact (up2_k _ _ e2).trans (h.2 209 k a hq)
  · exact (up2_q _ _ e).trans (h.2 q k a hq)⟩
def mkO (o : Option (Nat × List Nat)) : Int32 := match o with
  | none => -1
  | some (n, _) => nI n
theorem alG_none {K f : Nat → Int32} (hI : kn K 93 < 2 ^ kn K 2) {Q : Nat → Bool} (hQ : ∀ w, w < kn K 3 → Q w = false) : alG K f Q = kn K 93 := by
  apply Nat.eq_of_testBit_eq; intro c
  apply Bool.eq_iff_iff.mpr
  rw [alG_bit]
  constructor
  · exact fun h => h.2.1
  · intro h
    refine ⟨Nat.lt_of_not_le (fun z => by rw [testBit_big hI z] at h; cases h), h, fun w hw hq => ?_⟩
    rw [hQ w hw] at hq; cases hq
theorem Plr.mr {M : mM} {p cd n : Nat} {K : Nat → Int32} (h : Plr M p cd n K) (h9 : p ≠ 209) (x : Nat) : Plr (sR M 209 3 (some x)) p cd n K := by
  refine ⟨?_, h.2⟩
  have e : ∀ k, gR (sR M 209 3 (some x)) p k = gR M p k := fun k => up2_q _ _ h9
  have h1 := h.1
  unfold PlSh at h1 ⊢
  rw [e, e, e, e, e, e]
  exact h1
theorem Str.mr {M : mM} {s : Nat} {K : Nat → Int32} (h : Str M s K) (h9 : s ≠ 209) (x : Nat) : Str (sR M 209 3 (some x)) s K := by
  refine ⟨?_, h.2⟩
  have e : ∀ k, gR (sR M 209 3 (some x)) s k = gR M s k := fun k => up2_q _ _ h9
  have h1 := h.1
  unfold StSh at h1 ⊢
  rw [e, e, e, e, e]
  exact h1
theorem MkC.ma {M M' : mM} {p cd n rd s : Nat} {K : Nat → Int32} {l1 : Nat → Nat} (hS : Sh M) (hr : gR M 209 3 = some p) (hp : Plr M p cd n K) (hd : Rdr M p K rd l1) (ha : Ap4 p cd) (hs : Str M s K) (has : s + 5 < 209 ∨ 214 < s) (e : Sm Wma M M') : Sh M' ∧ gR M' 209 3 = some p ∧ Plr M' p cd n K ∧ Rdr M' p K rd l1 ∧ Str M' s K := by
  have o : ∀ q, (p ≤ q ∧ q ≤ p + 6) ∨ q = cd → gI M' q = gI M q := fun q hq => e.row (fun k => Wma_o (by have := ha q hq; omega) k)
  refine ⟨hS.sm e, by rw [e.2.2.2.1]; exact hr, hp.mv e.2.1 e.2.2.2.1 (by rw [e.2.2.1]) o, ?_, hs.mv e.2.1 e.2.2.2.1 (fun q h1 h2 => e.row (fun k => Wma_o (by omega) k))⟩
  unfold Rdr at hd ⊢
  rw [o p (Or.inl ⟨by omega, by omega⟩), o (p + 4) (Or.inl ⟨by omega, by omega⟩)]
  exact hd
section M4
variable (G : mG) (M : mM)
theorem l2_make1 {s p cd n rd c : Nat} {K : Nat → Int32} {l1 : Nat → Nat} (hS : Sh M) (hr : gR M 209 3 = some p) (hp : Plr M p cd n K) (hd : Rdr M p K rd l1) (ha : Ap4 p cd) (hs : Str M s K) (has : s + 5 < 209 ∨ 214 < s) (hW : WK K) {Q : Option Value → mM → Prop} (kk : ∀ M', Sm Wma M M' → (∀ v, v < kn K 3 → gI M' 214 v = nI (bset (kn K 2) (inbP K v))) → V G Y2_make 17 0 0 Q NX 39 [some (.ref 209), some (.ref p), some (.ref s), some (.int (nI c)), some (.int (nI (kn K 3)))] [] M') :
    ∀ i w M', w + i = kn K 3 → Sm Wma M M' → (∀ v, v < w → gI M' 214 v = nI (bset (kn K 2) (inbP K v))) → V G Y2_make 17 0 0 Q NX 8 [some (.ref 209), some (.ref p), some (.ref s), some (.int (nI c)), some (.int (nI w))] [] M' := by
  have h10 := hW.p.2.2.1.2
  intro i
  induction i with
  | zero =>
    intro w M' hw hM hv
    obtain ⟨hS', hr', hp', hd', hs'⟩ := MkC.ma hS hr hp hd ha hs has hM
    obtain ⟨⟨p1, p2, p3, p4, p5, p6, p7, p8, p9, p10, p11, p12, p13, p14⟩, ⟨e1, e2, e3, e4, e5, e6, e7⟩, g2, g3, g4, g5, g6, g7⟩ := hp'
    obtain rfl : w = kn K 3 := by omega
    refine v_iload dX2_make_8 rfl ?_
    refine v_aload_n dX2_make_10 rfl ?_
    refine v_getR 2 3 _ dX2_make_11 f2_28 (by first | exact p1 | exact s1 | exact hS'.1 _ _ rfl | assumption) (by decide) (by first | exact hr' | exact s7 | exact hS'.2 _ _ _ rfl | assumption) ?_
    refine v_getI 4 4 dX2_make_14 f2_32 (by first | exact p1 | exact s1 | exact hS'.1 _ _ rfl | assumption) (by decide) ?_
    rw [e4, hW.p.2.2.1.1]
    refine v_icmp_ge 39 dX2_make_17 (by decide) (fun h17 => ?_) (fun h17 => absurd (nI_le (Nat.le_refl _) (by omega)) h17)
    exact kk M' hM hv
  | succ i ih =>
    intro w M' hw hM hv
    obtain ⟨hS', hr', hp', hd', hs'⟩ := MkC.ma hS hr hp hd ha hs has hM
    obtain ⟨⟨p1, p2, p3, p4, p5, p6, p7, p8, p9, p10, p11, p12, p13, p14⟩, ⟨e1, e2, e3, e4, e5, e6, e7⟩, g2, g3, g4, g5, g6, g7⟩ := hp'
    have s1 := hs'.1.1
    refine v_iload dX2_make_8 rfl ?_
    refine v_aload_n dX2_make_10 rfl ?_
    refine v_getR 2 3 _ dX2_make_11 f2_28 (by first | exact p1 | exact s1 | exact hS'.1 _ _ rfl | assumption) (by decide) (by first | exact hr' | exact s7 | exact hS'.2 _ _ _ rfl | assumption) ?_
    refine v_getI 4 4 dX2_make_14 f2_32 (by first | exact p1 | exact s1 | exact hS'.1 _ _ rfl | assumption) (by decide) ?_
    rw [e4, hW.p.2.2.1.1]
    refine v_icmp_ge 39 dX2_make_17 (by decide) (fun h17 => absurd ((nI_leI (by omega) (by omega)).mp h17) (by omega)) (fun h17 => ?_)
    refine v_aload_n dX2_make_20 rfl ?_
    refine v_getR 2 2 _ dX2_make_21 f2_22 (by first | exact p1 | exact s1 | exact hS'.1 _ _ rfl | assumption) (by decide) (by first | exact hr' | exact s7 | exact hS'.2 _ _ _ rfl | assumption) ?_
    refine v_iload dX2_make_24 rfl ?_
    refine v_aload_n dX2_make_26 rfl ?_
    refine v_iload dX2_make_27 rfl ?_
    refine v_cV [_] (c7_holders G M' hs' hW (by omega)) k7_holders dX2_make_29 l2_36 (by first | exact p1 | exact s1 | exact hS'.1 _ _ rfl | assumption) (by decide) rfl (Nat.le_of_ble_eq_true rfl) (Nat.le_of_ble_eq_true rfl) ?_
    skip
    refine v_iastN w dX2_make_32 (hS'.1 214 _ rfl) rfl ⟨by omega, by decide⟩ ?_
    refine v_iinc 1 dX2_make_33 rfl (by decide) rfl (by decide) ?_
    refine v_goto 8 dX2_make_36 (by decide) ?_
    -- at 8: .iload 4
    rw [nI_1]
    refine ih (w + 1) _ (by omega) (hM.st _ rfl) (fun v hv2 => ?_)
    by_cases e : v = w
    · subst e; exact gI_ss _ _ _ _
    · rw [gI_sk _ _ e]; exact hv v (by omega)
theorem l2_make2 {s p cd n rd c : Nat} {K : Nat → Int32} {l1 : Nat → Nat} (hW : WK K) (ha : Ap4 p cd) (hC : MkC M p cd n K rd l1) (hb : ∀ m, m < kn K 1 → gI M 213 m = wasM K c m) (r : Option (Nat × List Nat)) : ∀ i k M', k + i = 4 → Sm Wmk M M' → r = frR K c rd i k →
    V G Y2_make 17 0 0 (Rs (some (.int (mkO r))) (fun M' => Sm Wmk M M' ∧ ∀ n t, r = some (n, t) → ∀ i, i < kn K 1 → gI M' 211 i = nI (t.getD i 0))) NX 93 [some (.ref 209), some (.ref p), some (.ref s), some (.int (nI c)), some (.int (nI (alG K (gI M 211) (Qk l1 1)))), some (.int (nI k))] [] M' := by
  have h6 := hW.p.1.2.2
  intro i
  induction i with
  | zero =>
    intro k M' hk hM hr
    obtain rfl : k = 4 := by omega
    obtain rfl : r = none := hr
    generalize alG K (gI M 211) (Qk l1 1) = A at *
    refine v_iload dX2_make_93 rfl ?_
    refine v_iconst 3 dX2_make_95 (by decide) ?_
    refine v_icmp_gt 120 dX2_make_96 (by decide) (fun h96 => ?_) (fun h96 => absurd (by decide) h96)
    refine v_iconst (-1) dX2_make_120 (by decide) ?_
    refine v_iret dX2_make_121 rfl ?_
    exact ⟨rfl, hM, fun n t h => by cases h⟩
  | succ i ih =>
    intro k M' hk hM hr
    have hC' := hC.sm ha hM
    have hS' := hC'.1
    have ea : alG K (gI M' 211) (Qk l1 1) = alG K (gI M 211) (Qk l1 1) := alG_eq (fun _ _ => rfl) (fun w hw hq => (hC.2.2.2.1.2.2.2 w hw).2.2 _ _ (fun i hi => by unfold Qk at hq; rw [decide_eq_true_eq] at hq; omega))
    have hcon := c2_isMade_all G K (wasM K c) p cd n rd l1 hW ha (kn K 1) 0 k (by omega) (by omega) M' hC' (fun m hm => (hM.2.2.2.2 213 m rfl).trans (hb m hm))
    rw [show gmR K (wasM K c) rd (kn K 1) 0 k (gI M' 211) = gr0 K c rd k from rfl, ea] at hcon
    rw [frR] at hr
    generalize gr0 K c rd k = o at hr hcon
    generalize alG K (gI M 211) (Qk l1 1) = A at *
    refine v_iload dX2_make_93 rfl ?_
    refine v_iconst 3 dX2_make_95 (by decide) ?_
    refine v_icmp_gt 120 dX2_make_96 (by decide) (fun h96 => absurd ((nI_ltI (a := 3) (by decide) (by omega)).mp h96) (by omega)) (fun h96 => ?_)
    refine v_aload_n dX2_make_99 rfl ?_
    refine v_iconst 0 dX2_make_100 (by decide) ?_
    refine v_iload dX2_make_101 rfl ?_
    refine v_iload dX2_make_103 rfl ?_
    skip
    refine v_scV [_, _, _] hcon k2_isMade dX2_make_105 l2_68 (hS'.1 _ _ rfl) (by decide) rfl (by omega) (Nat.le_of_ble_eq_true rfl) (fun M3 hM3 => ?_)
    cases o with
    | none =>
      rw [show bI ((none : Option (List Nat)).isSome = true) = 0 from rfl]
      refine v_if_eq 114 dX2_make_108 (by decide) (fun h108 => ?_) (fun h108 => absurd rfl h108)
      refine v_iinc 1 dX2_make_114 rfl (by decide) rfl (by decide) ?_
      refine v_goto 93 dX2_make_117 (by decide) ?_
      (rw [nI_1]; exact ih (k + 1) M3 (by omega) (hM.tr hM3.1) hr)
    | some t =>
      rw [show bI ((some t : Option (List Nat)).isSome = true) = 1 from rfl]
      obtain rfl : r = some (k, t) := hr
      refine v_if_eq 114 dX2_make_108 (by decide) (fun h108 => absurd h108 (by decide)) (fun h108 => ?_)
      refine v_iload dX2_make_111 rfl ?_
      refine v_iret dX2_make_113 rfl ?_
      exact ⟨rfl, hM.tr hM3.1, fun n' t' h i hi => by cases h; exact hM3.2.2 t rfl i (Nat.zero_le _) hi⟩
theorem c2_make (hS : Sh M) {s p cd n rd c : Nat} {K : Nat → Int32} {l1 : Nat → Nat} (hp : Plr M p cd n K) (hd : Rdr M p K rd l1) (ha : Ap4 p cd) (hs : Str M s K) (has : s + 5 < 209 ∨ 214 < s) (hW : WK K) (hc : c < kn K 2) : Ct G Y2_make 17 0 0 [.ref 209, .ref p, .ref s, .int (nI c)] M (Rs (some (.int (mkO (frN K c 4 0)))) (fun M' => Sm Wma (sR M 209 3 (some p)) M' ∧ ∀ n t, frN K c 4 0 = some (n, t) → ∀ i, i < kn K 1 → gI M' 211 i = nI (t.getD i 0))) NX := by
  have h6 := hW.p.1.2.2
  have h14 := hW.p.2.1.2
  have hpn : p ≠ 209 := by have := ha p (Or.inl ⟨by omega, by omega⟩); omega
  have hb0 := hW.2.2.1.1
  have hnb : ∀ m, m < 6 → nb (cur K) (6 * c + m) ≤ 9 := fun m hm => (hb0 _ (by omega)).2
  have hx : pkR (cur K) c (kn K 1) < 2 ^ 24 := Nat.lt_of_lt_of_le (pkR_lt c hnb (kn K 1) h6) (show 16 ^ kn K 1 ≤ 16 ^ 6 from Nat.pow_le_pow_right (by decide) h6)
  have hv : ∀ m, m < kn K 1 → pkR (cur K) c (kn K 1) / 16 ^ m % 16 = (fun m => nb (cur K) (6 * c + m)) m ∧ (fun m => nb (cur K) (6 * c + m)) m ≤ 9 := fun m hm => ⟨pkR_at c hnb _ h6 hm, hnb m (by omega)⟩
  refine Ct.of k2_make.1 (Nat.le_of_ble_eq_true rfl) ?_
  have hS' := hS
  refine v_aload_n dX2_make_0 rfl ?_
  refine v_aload_n dX2_make_1 rfl ?_
  refine v_putR 2 3 dX2_make_2 f2_28 (by first | exact p1 | exact s1 | exact hS'.1 _ _ rfl | assumption) (by decide) (by decide) ?_
  refine v_iconst 0 dX2_make_5 (by decide) ?_
  refine v_istore dX2_make_6 rfl (by decide) ?_
  skip
  obtain ⟨M1, eM1⟩ : ∃ M1, M1 = sR M 209 3 (some p) := ⟨_, rfl⟩
  have hS1 : Sh M1 := by rw [eM1]; exact hS.sR p
  have hr1 : gR M1 209 3 = some p := by rw [eM1, gR_sR]; exact up2_s _ _ _ _
  have hp1 : Plr M1 p cd n K := by rw [eM1]; exact hp.mr hpn p
  have hs1 : Str M1 s K := by rw [eM1]; exact hs.mr (by omega) p
  have hd1 : Rdr M1 p K rd l1 := by rw [eM1]; exact hd
  rw [← eM1]
  refine l2_make1 G M1 hS1 hr1 hp1 hd1 ha hs1 has hW (fun M2 hM2 hv2 => ?_) (kn K 3) 0 M1 (by omega) Sm.rf (fun v hv => absurd hv (by omega))
  obtain ⟨hS2, hr2, hp2, hd2, hs2⟩ := MkC.ma hS1 hr1 hp1 hd1 ha hs1 has hM2
  obtain ⟨s1, s2, s3, s4, s5, s6, s7, s8, s9, s10, s11⟩ := hs2.1
  have hrow := (hs2.2.1 c hc).1
  have hlit : gI M2 s 8 = bI (litB K = true) := hs2.2.2.2.2.2.2.trans (lit_eq hW)
  refine v_aload_n dX2_make_39 rfl ?_
  refine v_getR 2 0 _ dX2_make_40 f2_12 (by first | exact s1 | exact s2 | exact hS2.1 _ _ rfl | assumption) (by decide) (by first | exact hr2 | exact s7 | exact hS2.2 _ _ _ rfl | assumption) ?_
  refine v_aload_n dX2_make_43 rfl ?_
  refine v_getR 2 3 _ dX2_make_44 f2_28 (by first | exact s1 | exact s2 | exact hS2.1 _ _ rfl | assumption) (by decide) (by first | exact hr2 | exact s7 | exact hS2.2 _ _ _ rfl | assumption) ?_
  refine v_aload_n dX2_make_47 rfl ?_
  refine v_getRX 7 0 _ dX2_make_48 fn2_41 (by first | exact s1 | exact s2 | exact hS2.1 _ _ rfl | assumption) (by decide) (by first | exact hr2 | exact s7 | exact hS2.2 _ _ _ rfl | assumption) ?_
  refine v_iload_n dX2_make_51 rfl ?_
  refine v_ialdN (c) dX2_make_52 (by first | exact s1 | exact s2 | exact hS2.1 _ _ rfl | assumption) (by simp only [n_lit, pk_mul, nI_add]) ⟨by omega, by omega⟩ ?_
  rw [hrow]
  refine v_aload_n dX2_make_53 rfl ?_
  refine v_getI 7 8 dX2_make_54 f2_44 (by first | exact s1 | exact s2 | exact hS2.1 _ _ rfl | assumption) (by decide) ?_
  rw [hlit]
  refine v_iconst (-1) dX2_make_57 (by decide) ?_
  skip
  have hk2 : RkSh M2 210 := ⟨hS2.1 _ _ rfl, hS2.1 _ _ rfl, hS2.1 _ _ rfl, hS2.2 _ _ _ rfl, hS2.2 _ _ _ rfl⟩
  refine v_scVv [_, _, _, _] (c5_face G M2 hk2 hW.p hp2 (fun q hq => by have := ha q hq; omega) hx hv (litB K) (-1)) k5_face dX2_make_58 l2_48 (hS2.1 210 _ rfl) (by decide) rfl (Nat.le_of_ble_eq_true rfl) (Nat.le_of_ble_eq_true rfl) (fun M3 hM3 => ?_)
  have m3 : Sm Wma M1 M3 := hM2.tr (hM3.1.wk (fun q k z => Wfc_o (by have := Wma_f z; omega) k))
  obtain ⟨hS3, hr3, hp3, hd3, hs3⟩ := MkC.ma hS1 hr1 hp1 hd1 ha hs1 has m3
  refine v_aload_n dX2_make_61 rfl ?_
  refine v_getR 2 0 _ dX2_make_62 f2_12 (by first | exact hS3.1 _ _ rfl | assumption) (by decide) (by first | exact hr3 | exact hS3.2 _ _ _ rfl | assumption) ?_
  refine v_getR 5 0 _ dX2_make_65 f2_52 (by first | exact hS3.1 _ _ rfl | assumption) (by decide) (by first | exact hr3 | exact hS3.2 _ _ _ rfl | assumption) ?_
  refine v_iconst 0 dX2_make_68 (by decide) ?_
  refine v_aload_n dX2_make_69 rfl ?_
  refine v_getR 2 1 _ dX2_make_70 f2_18 (by first | exact hS3.1 _ _ rfl | assumption) (by decide) (by first | exact hr3 | exact hS3.2 _ _ _ rfl | assumption) ?_
  refine v_iconst 0 dX2_make_73 (by decide) ?_
  refine v_bipush 6 dX2_make_74 (by decide) ?_
  refine v_copyI 6 dX2_make_76 l2_55 (by first | exact hS3.1 _ _ rfl | assumption) (by first | exact hS3.1 _ _ rfl | assumption) rfl (by decide) (Nat.le_of_ble_eq_true rfl) (Nat.le_of_ble_eq_true rfl) ?_
  skip
  obtain ⟨M4, eM4⟩ : ∃ M4, M4 = cpM M3 213 211 6 := ⟨_, rfl⟩
  have m4 : Sm Wma M1 M4 := by rw [eM4]; exact cpM_sm m3 (fun k _ => rfl)
  obtain ⟨hS4, hr4, hp4, hd4, hs4⟩ := MkC.ma hS1 hr1 hp1 hd1 ha hs1 has m4
  have hC4 : MkC M4 p cd n K rd l1 := ⟨hS4, hr4, hp4, hd4, fun w hw => by rw [eM4, cpM_o _ (by decide), hM3.1.2.2.2.2 214 w rfl]; exact hv2 w hw, by rw [eM4, cpM_o _ (by decide)]; exact hM3.2.1, by rw [eM4, cpM_o _ (by decide)]; exact hM3.2.2.1⟩
  have hb4 : ∀ m, m < kn K 1 → gI M4 213 m = wasM K c m := fun m hm => by
    rw [eM4, cpM_in _ (show m < 6 by omega), hM3.2.2.2 m hm]
    exact lkF_lkv hb0 (by omega) (by omega) _
  have hst := c2_stillAlike G M4 hC4 hW ha (k := 0) (by omega)
  rw [show nI 0 - 1 = (-1 : Int32) from by decide, alG_none hW.i.2 (Q := Qk l1 0) (fun w _ => decide_eq_false (Nat.not_lt_zero _))] at hst
  rw [← eM4]
  have t4 := hs4.1.1
  refine v_aload_n dX2_make_79 rfl ?_
  refine v_iconst (-1) dX2_make_80 (by decide) ?_
  refine v_aload_n dX2_make_81 rfl ?_
  refine v_getI 7 5 dX2_make_82 f2_61 (by first | exact t4 | exact hS4.1 _ _ rfl | assumption) (by decide) ?_
  skip
  rw [hs4.2.2.2.1, hW.i.1]
  refine v_scV [_, _] hst k2_stillAlike dX2_make_85 l2_64 (hS4.1 209 _ rfl) (by decide) rfl (Nat.le_of_ble_eq_true rfl) (Nat.le_of_ble_eq_true rfl) (fun M5 hM5 => ?_)
  have e211 : gI M5 211 = gI M4 211 := hM5.row (fun k => rfl)
  have l := l2_make2 G M5 (s := s) hW ha (hC4.sm ha (sw_st hM5)) (c := c) (fun m hm => (hM5.2.2.2.2 213 m rfl).trans (hb4 m hm)) (frR K c rd 4 0) 4 0 M5 (by omega) Sm.rf rfl
  rw [frR_N hd hW (by omega) 4 0 (fun n' h => absurd h (by omega)), e211] at l
  generalize alG K (gI M4 211) (Qk l1 1) = A at *
  refine v_istore dX2_make_88 rfl (by decide) ?_
  refine v_iconst 0 dX2_make_90 (by decide) ?_
  refine v_istore dX2_make_91 rfl (by decide) ?_
  -- at 93: .iload 5
  have wm : ∀ q k, Wma q k = false → Wmk q k = false := fun q k z => Wmk_o (by have := Wma_f z; omega) k
  exact V.post l (fun v M6 h => ⟨h.1, m4.tr (((sw_st hM5).tr h.2.1).wk wm), h.2.2⟩) (fun _ _ h => h)
end M4
