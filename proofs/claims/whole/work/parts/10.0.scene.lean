/-! ===== the class: Scene ===== -/
/-- K with its j-th kept block as the current one -/
def blkK (K : Nat → Int32) (j : Nat) : Nat → Int32 := cpK K 9 (blk K j) 100
def ScSh (M : mM) (q : Nat) : Prop := gT M q = .inl 6 ∧ gR M q 1 = some (q + 8) ∧ gR M q 2 = some (q + 14) ∧ gT M (q + 14) = .inr (5, 10) ∧ StSh M (q + 8) ∧ ∀ i, i < 10 → gR M (q + 14) i = some (q + 15 + 6 * i) ∧ StSh M (q + 15 + 6 * i)
/-- where the j-th of r kept states stands, the next one coming to nx -/
def slot (nx r j : Nat) : Nat := (nx + 10 - r + j) % 10
/-- a scene's numbers, but for its plan -/
def ScD (M : mM) (q nx : Nat) (K : Nat → Int32) : Prop := StD M (q + 8) K ∧ gI M q 4 = K 8 ∧ gI M q 3 = nI nx ∧ nx < 10 ∧ (∀ i, i < 10 → gI M (q + 15 + 6 * i) 8 = 0 ∨ gI M (q + 15 + 6 * i) 8 = 1) ∧ ∀ j, j < kn K 8 → StD M (q + 15 + 6 * slot nx (kn K 8) j) (blkK K j)
theorem StD.cg {M : mM} {s : Nat} {K K' : Nat → Int32} (h : StD M s K) (hP : WP K) (hp : ∀ i, plI i → K' i = K i) (hc : ∀ i, 9 ≤ i → i < 109 → K' i = K i) : StD M s K' := by
  obtain ⟨d1, d2, d3, d4, d5, d6⟩ := h
  refine (show StD M s K from ⟨d1, d2, d3, d4, d5, d6⟩).ch hP rfl rfl rfl hp (fun i hi => hc _ (by omega) (by omega)) (fun p hp6 => ?_) ?_ ?_ ?_ ?_
  · rw [hc _ (by omega) (by omega), hc _ (by omega) (by omega)]; exact d2 p hp6
  · rw [hc _ (by omega) (by omega)]; exact d3
  · rw [hc _ (by omega) (by omega)]; exact d4
  · rw [hc _ (by omega) (by omega)]; exact d5
  · rw [hc _ (by omega) (by omega)]; exact d6
theorem blkK_p {K : Nat → Int32} {j : Nat} : ∀ i, plI i → blkK K j i = K i := fun i hi => cpK_out (by unfold plI at hi; omega)
theorem blkK_c {K : Nat → Int32} {j i : Nat} (h : 9 ≤ i) (h2 : i < 109) : blkK K j i = blk K j (i - 9) := cpK_in h (by omega)
theorem ScSh.mv {M M' : mM} {q : Nat} (h : ScSh M q) (hT : gT M' = gT M) (hR : gR M' = gR M) : ScSh M' q := by
  unfold ScSh StSh at h ⊢
  rw [hT, hR]
  exact h
/-- a scene's cells but its plan -/
def Wsc (q q' k : Nat) : Bool := (Nat.ble (q + 8) q' && Nat.ble q' (q + 74)) || (Nat.beq q' q && (Nat.beq k 3 || Nat.beq k 4))
theorem Wsc_w {q a k : Nat} (h : q + 8 ≤ a ∧ a ≤ q + 74) : Wsc q a k = true := by
  unfold Wsc
  rw [Nat.ble_eq_true_of_le h.1, Nat.ble_eq_true_of_le h.2]; rfl
theorem Wsc_f {q k : Nat} (h : k = 3 ∨ k = 4) : Wsc q q k = true := by
  unfold Wsc
  rw [Nat.beq_refl]
  rcases h with h | h <;> subst h <;> simp
theorem Wsc_o {q a : Nat} (h : a < q ∨ q + 74 < a ∨ (q < a ∧ a < q + 8)) (k : Nat) : Wsc q a k = false := by
  unfold Wsc
  rw [nbeq_f (show a ≠ q by omega), Bool.false_and, Bool.or_false]
  rcases h with h | h | h
  · rw [Bool.eq_false_iff.mpr (fun z => by have := Nat.le_of_ble_eq_true z; omega : ¬ Nat.ble (q + 8) a = true)]; rfl
  · rw [Bool.eq_false_iff.mpr (fun z => by have := Nat.le_of_ble_eq_true z; omega : ¬ Nat.ble a (q + 74) = true), Bool.and_false]
  · rw [Bool.eq_false_iff.mpr (fun z => by have := Nat.le_of_ble_eq_true z; omega : ¬ Nat.ble (q + 8) a = true)]; rfl
theorem Sm.sc {M M' : mM} {q s : Nat} (h : Sm (Wsd s) M M') (h1 : q + 8 ≤ s) (h2 : s + 5 ≤ q + 74) : Sm (Wsc q) M M' := h.wk (fun a k z => by
  apply Wsd_o
  apply Classical.byContradiction
  intro hn
  rw [Wsc_w (by omega)] at z
  cases z)
section C6
variable (G : mG) (M : mM)
theorem c6_remember {q nx : Nat} {K : Nat → Int32} (hs : ScSh M q) (hd : ScD M q nx K) (hW : WK K) : Ct G Y6_remember 2 0 0 [.ref q] M (Rs none (fun M' => Sm (Wsc q) M M' ∧ (∀ a, q + 8 ≤ a → a ≤ q + 13 → gI M' a = gI M a) ∧ ScD M' q ((nx + 1) % 10) (kepK K))) NX := by
  obtain ⟨d1, d2, d3, d4, d5, d6⟩ := hd
  have h8 := hW.2.1
  have hs0 := hs
  obtain ⟨q1, q2, q3, q4, q5, q6⟩ := hs
  obtain ⟨p1, p2⟩ := q6 nx d4
  have h14 := hW.p.2.1.2
  refine Ct.of k6_remember.1 (Nat.le_of_ble_eq_true rfl) ?_
  have hcl : (nI nx).toNatClampNeg = nx := nI_clamp (by omega)
  have pn : gR M (q + 14) (nI nx).toNatClampNeg = some (q + 15 + 6 * nx) := by rw [hcl]; exact p1
  refine v_aload_n dX6_remember_0 rfl ?_
  refine v_getR 6 2 _ dX6_remember_1 f6_25 (by assumption) (by decide) (by assumption) ?_
  refine v_aload_n dX6_remember_4 rfl ?_
  refine v_getI 6 3 dX6_remember_5 f6_33 (by assumption) (by decide) ?_
  rw [d3]
  refine v_aald _ dX6_remember_8 (by assumption) (by decide) (vp_in_nI d4 (by decide)) pn ?_
  refine v_aload_n dX6_remember_9 rfl ?_
  refine v_getR 6 1 _ dX6_remember_10 f6_21 (by assumption) (by decide) (by assumption) ?_
  skip
  refine v_scVv [_] (c7_takeFrom G M p2 ⟨q5, d1⟩ (by omega) hW.l h14) k7_takeFrom dX6_remember_13 l6_40 p2.1 (by decide) rfl (Nat.le_of_ble_eq_true rfl) (Nat.le_of_ble_eq_true rfl) (fun M2 hM2 => ?_)
  have m2 : Sm (Wsc q) M M2 := hM2.1.sc (by omega) (by omega)
  have t1 : gT M2 q = .inl 6 := by rw [m2.2.1]; exact q1
  have e3 : gI M2 q 3 = nI nx := (hM2.1.2.2.2.2 q 3 (Wsd_o (by omega) 3)).trans d3
  have e4 : gI M2 q 4 = nI (kn K 8) := ((hM2.1.2.2.2.2 q 4 (Wsd_o (by omega) 4)).trans d2).trans h8.1
  have e5 : gI (sI M2 q 3 (nI ((nx + 1) % 10))) q 4 = nI (kn K 8) := (gI_sk _ _ (by decide)).trans e4
  have er : (if (10 : Int32) < nI (kn K 8 + 1) then (10 : Int32) else nI (kn K 8 + 1)) = nI (min (kn K 8 + 1) 10) := by
    by_cases h : kn K 8 = 10
    · rw [h]; rfl
    · rw [if_neg (show ¬ (10 : Int32) < nI (kn K 8 + 1) from nI_nlt (b := kn K 8 + 1) (a := 10) (by omega) (by decide)), Nat.min_eq_left (by omega)]
  refine v_aload_n dX6_remember_16 rfl ?_
  refine v_aload_n dX6_remember_17 rfl ?_
  refine v_getI 6 3 dX6_remember_18 f6_33 (by assumption) (by decide) ?_
  rw [e3]
  refine v_iconst 1 dX6_remember_21 (by decide) ?_
  refine v_iadd dX6_remember_22 ?_
  rw [nI_1]
  refine v_bipush 10 dX6_remember_23 (by decide) ?_
  refine v_irem dX6_remember_25 (by first | assumption | decide) ?_
  rw [show nI (nx + 1) - nI (nx + 1) / 10 * 10 = nI ((nx + 1) % 10) from pk_rem (d := 10) (by omega) (by decide) (by decide)]
  refine v_putI 6 3 dX6_remember_26 f6_33 (by assumption) (by decide) ?_
  refine v_aload_n dX6_remember_29 rfl ?_
  refine v_aload_n dX6_remember_30 rfl ?_
  refine v_getI 6 4 dX6_remember_31 f6_37 (by assumption) (by decide) ?_
  rw [e5]
  refine v_iconst 1 dX6_remember_34 (by decide) ?_
  refine v_iadd dX6_remember_35 ?_
  rw [nI_1]
  refine v_bipush 10 dX6_remember_36 (by decide) ?_
  refine v_cS [_, _] (cJ_min G _ _ _) kJ_min dX6_remember_38 l6_44 rfl (Nat.le_of_ble_eq_true rfl) (Nat.le_of_ble_eq_true rfl) ?_
  rw [er]
  refine v_putI 6 4 dX6_remember_41 f6_37 (by assumption) (by decide) ?_
  refine v_vret dX6_remember_44 rfl ?_
  skip
  have mm : Sm (Wsc q) M (sI (sI M2 q 3 (nI ((nx + 1) % 10))) q 4 (nI (min (kn K 8 + 1) 10))) := (m2.st _ (Wsc_f (Or.inl rfl))).st _ (Wsc_f (Or.inr rfl))
  have rr : ∀ a, a ≠ q → gI (sI (sI M2 q 3 (nI ((nx + 1) % 10))) q 4 (nI (min (kn K 8 + 1) 10))) a = gI M2 a := fun a ha => by rw [gI_sr _ _ ha, gI_sr _ _ ha]
  have ro : ∀ a, a ≠ q → (a < q + 15 + 6 * nx ∨ q + 15 + 6 * nx + 5 < a) → gI (sI (sI M2 q 3 (nI ((nx + 1) % 10))) q 4 (nI (min (kn K 8 + 1) 10))) a = gI M a := fun a ha hb => by rw [rr a ha, hM2.1.row (Wsd_o hb)]
  have kp : ∀ i, plI i → kepK K i = K i := fun i hi => kepK_o hW (by unfold plI at hi; omega)
  have k8 := kep1_8 hW
  have e8 : kepK K 8 = nI (min (kn K 8 + 1) 10) := by
    rw [kepK_8]
    congr 1
    by_cases h : K 8 = 10
    · have : kn K 8 = 10 := by rw [kn, h]; rfl
      have : kn (kep1 K) 8 = 9 := by rw [kep1, if_pos h, kn, uK_s]; rfl
      omega
    · have e : kn (kep1 K) 8 = kn K 8 := by rw [kep1, if_neg h]
      have : kn K 8 ≠ 10 := fun z => h (by rw [h8.1, z]; rfl)
      omega
  have n8 : kn (kepK K) 8 = min (kn K 8 + 1) 10 := kn_n e8 (by omega)
  have e15 : ∀ i, i < 10 → ∀ a, q + 15 + 6 * i ≤ a → a ≤ q + 15 + 6 * i + 5 → i ≠ nx → gI (sI (sI M2 q 3 (nI ((nx + 1) % 10))) q 4 (nI (min (kn K 8 + 1) 10))) a = gI M a := fun i hi a h1 h2 h3 => ro a (by omega) (by omega)
  refine ⟨rfl, mm, fun a h1 h2 => ro a (by omega) (by omega), ?_, ?_, ?_, Nat.mod_lt _ (by decide), fun i hi => ?_, fun j hj => ?_⟩
  · refine (show StD _ _ K from ?_).cg hW.p kp (fun i h1 h2 => kepK_o hW (by omega))
    exact ((show Str M (q + 8) K from ⟨q5, d1⟩).mv mm.2.1 mm.2.2.2.1 (fun a h1 h2 => ro a (by omega) (by omega))).2
  · rw [gI_ss, e8]
  · rw [gI_sk _ _ (by decide), gI_ss]
  · by_cases h : i = nx
    · subst h
      rw [rr _ (by omega), hM2.2.2.2.2.2.2.2]
      exact hW.l
    · rw [e15 i hi _ (by omega) (by omega) h]; exact d5 i hi
  · rw [n8] at hj ⊢
    have hsl : slot ((nx + 1) % 10) (min (kn K 8 + 1) 10) j < 10 := Nat.mod_lt _ (by decide)
    by_cases hl : j = min (kn K 8 + 1) 10 - 1
    · have es : slot ((nx + 1) % 10) (min (kn K 8 + 1) 10) j = nx := by unfold slot; omega
      rw [es]
      have hst : Str (sI (sI M2 q 3 (nI ((nx + 1) % 10))) q 4 (nI (min (kn K 8 + 1) 10))) (q + 15 + 6 * nx) K := hM2.2.mv rfl rfl (fun a h1 h2 => rr a (by omega))
      refine hst.2.cg hW.p (fun i hi => (blkK_p i hi).trans (kp i hi)) (fun i h1 h2 => ?_)
      have ej : j = kn (kep1 K) 8 := by rw [kn_n (kepK_8 (K := K)) (by omega)] at n8; omega
      rw [blkK_c h1 h2, ej, blk, kepK, uK_n _ _ (by omega), cpK_in (by omega) (by omega), kep1_o (by omega)]
      exact congrArg K (by omega)
    · obtain ⟨j', hj', hj9, es, eb⟩ : ∃ j', j' < kn K 8 ∧ (kn K 8 = 10 → 1 ≤ j') ∧ slot ((nx + 1) % 10) (min (kn K 8 + 1) 10) j = slot nx (kn K 8) j' ∧ ∀ i, i < 100 → blk (kepK K) j i = blk K j' i := by
        by_cases h : K 8 = 10
        · have h10 : kn K 8 = 10 := by rw [kn, h]; rfl
          have e9 : kn (kep1 K) 8 = 9 := by rw [kep1, if_pos h, kn, uK_s]; rfl
          refine ⟨j + 1, by omega, by omega, by unfold slot; omega, fun i hi => ?_⟩
          unfold blk
          rw [kepK, uK_n _ _ (by omega), cpK_out (by omega), kep1, if_pos h, uK_n _ _ (by omega), cpK_in (by omega) (by omega)]
          exact congrArg K (by omega)
        · have e : kn (kep1 K) 8 = kn K 8 := by rw [kep1, if_neg h]
          have h9 : kn K 8 ≠ 10 := fun z => h (by rw [h8.1, z]; rfl)
          refine ⟨j, by omega, by omega, by unfold slot; omega, fun i hi => ?_⟩
          unfold blk
          rw [kepK, uK_n _ _ (by omega), cpK_out (by omega), kep1, if_neg h]
      have hsn : slot nx (kn K 8) j' ≠ nx := by unfold slot; omega
      have hsl2 : slot nx (kn K 8) j' < 10 := Nat.mod_lt _ (by decide)
      rw [es]
      have hst := ((show Str M (q + 15 + 6 * slot nx (kn K 8) j') (blkK K j') from ⟨(q6 _ hsl2).2, d6 j' hj'⟩).mv mm.2.1 mm.2.2.2.1 (fun a h1 h2 => e15 _ hsl2 a h1 h2 hsn)).2
      refine hst.cg (hW.p.cong blkK_p) (fun i hi => by rw [blkK_p i hi, blkK_p i hi, kp i hi]) (fun i h1 h2 => ?_)
      rw [blkK_c h1 h2, blkK_c h1 h2, eb _ (by omega)]
end C6
