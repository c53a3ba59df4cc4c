/-! ===== the reference's parser: a state, its small steps ===== -/
/-- what a reader knows: its fault (0 none), the fault's place, the number of the token that it stands at, the plan so far -/
def rbl (Z : (Nat → Nat) × Nat) (k : Nat) (R : Nat × Nat × Nat × (Nat → Int32)) : Nat × Nat × Nat × (Nat → Int32) := if R.1 = 0 then (if kd Z R.2.2.1 = 31 then 1 else k, ts Z R.2.2.1, R.2.2) else R
def rnx (R : Nat × Nat × Nat × (Nat → Int32)) : Nat × Nat × Nat × (Nat → Int32) := (R.1, R.2.1, R.2.2.1 + 1, R.2.2.2)
def rgo (R : Nat × Nat × Nat × (Nat → Int32)) : Nat × Nat × Nat × (Nat → Int32) := if R.1 = 0 then rnx R else R
abbrev rIs (Z : (Nat → Nat) × Nat) (k : Nat) (R : Nat × Nat × Nat × (Nat → Int32)) : Prop := R.1 = 0 ∧ kd Z R.2.2.1 = k
def rtk (Z : (Nat → Nat) × Nat) (k : Nat) (R : Nat × Nat × Nat × (Nat → Int32)) : Nat × Nat × Nat × (Nat → Int32) := if rIs Z k R then rnx R else R
def rmu (Z : (Nat → Nat) × Nat) (k : Nat) (R : Nat × Nat × Nat × (Nat → Int32)) : Nat × Nat × Nat × (Nat → Int32) := rgo (if kd Z R.2.2.1 = k then R else rbl Z 2 R)
def rn1 (Z : (Nat → Nat) × Nat) (lo hi : Nat) (R : Nat × Nat × Nat × (Nat → Int32)) : Nat × Nat × Nat × (Nat → Int32) := if kd Z R.2.2.1 ≠ 29 then rbl Z 2 R else if lo ≤ vl Z R.2.2.1 ∧ vl Z R.2.2.1 ≤ hi then R else rbl Z 3 R
def rnu (Z : (Nat → Nat) × Nat) (lo hi : Nat) (R : Nat × Nat × Nat × (Nat → Int32)) : Nat × Nat × Nat × (Nat → Int32) := rgo (rn1 Z lo hi R)
def rnv (Z : (Nat → Nat) × Nat) (lo hi : Nat) (R : Nat × Nat × Nat × (Nat → Int32)) : Nat := if (rn1 Z lo hi R).1 = 0 then vl Z R.2.2.1 else lo
def rly (s : Int32) (R : Nat × Nat × Nat × (Nat → Int32)) : Nat × Nat × Nat × (Nat → Int32) := if R.1 = 0 then (R.1, R.2.1, R.2.2.1, uK (uK R.2.2.2 (1155 + kn R.2.2.2 7) s) 7 (nI (kn R.2.2.2 7 + 1))) else R
def Wpa (q k : Nat) : Bool := (Nat.beq q 230 && ((Nat.ble 8 k && Nat.ble k 13) || Nat.beq k 16)) || Nat.beq q 232
/-- the reference's cells, as the reader knows them -/
def PS (M0 : mM) (Z : (Nat → Nat) × Nat) (d : Nat) (R : Nat × Nat × Nat × (Nat → Int32)) (M : mM) : Prop :=
  Sm Wpa M0 M ∧ gI M 232 = R.2.2.2 ∧ (gI M 230 12 = nI R.1 ∧ R.1 ≤ 4) ∧ (R.1 ≠ 0 → gI M 230 13 = nI R.2.1) ∧ gI M 230 16 = nI d ∧ gI M 230 8 = nI (hh Z (R.2.2.1 + 1)) ∧ gI M 230 9 = nI (ts Z R.2.2.1) ∧ gI M 230 10 = nI (rc (kd Z R.2.2.1)) ∧ (kd Z R.2.2.1 = 29 → gI M 230 11 = nI (vl Z R.2.2.1))
theorem rn1_ok {Z : (Nat → Nat) × Nat} {lo hi : Nat} {R : Nat × Nat × Nat × (Nat → Int32)} (h : (rn1 Z lo hi R).1 = 0) : rn1 Z lo hi R = R ∧ R.1 = 0 ∧ kd Z R.2.2.1 = 29 ∧ lo ≤ vl Z R.2.2.1 ∧ vl Z R.2.2.1 ≤ hi := by
  have hb : ∀ k, 1 ≤ k → (rbl Z k R).1 ≠ 0 := by
    intro k hk z
    unfold rbl at z
    split at z
    · split at z <;> simp at z; omega
    · rename_i h0; exact h0 z
  unfold rn1 at h ⊢
  split at h
  · exact absurd h (hb 2 (by omega))
  · rename_i h1
    split at h
    · rename_i h2
      rw [if_neg h1, if_pos h2]
      exact ⟨rfl, h, Decidable.not_not.mp h1, h2⟩
    · exact absurd h (hb 3 (by omega))
theorem rbl_p {Z : (Nat → Nat) × Nat} {k : Nat} (hk : 1 ≤ k) (R : Nat × Nat × Nat × (Nat → Int32)) : (rbl Z k R).1 ≠ 0 := by
  unfold rbl
  split
  · split
    · exact (by decide : (1 : Nat) ≠ 0)
    · exact (by omega : k ≠ 0)
  · assumption
theorem rbl_i (Z : (Nat → Nat) × Nat) (k : Nat) (R : Nat × Nat × Nat × (Nat → Int32)) : (rbl Z k R).2.2 = R.2.2 := by
  unfold rbl
  split <;> rfl
theorem rbl_b {Z : (Nat → Nat) × Nat} {k : Nat} {R : Nat × Nat × Nat × (Nat → Int32)} (h : R.1 ≠ 0) : rbl Z k R = R := if_neg h
theorem rgo_b {R : Nat × Nat × Nat × (Nat → Int32)} (h : R.1 ≠ 0) : rgo R = R := if_neg h
theorem rgo_z {R : Nat × Nat × Nat × (Nat → Int32)} (h : R.1 = 0) : rgo R = rnx R := if_pos h
theorem nI_0' (a : Nat) (h : a ≤ 4) : (nI a = 0) = (a = 0) := propext ⟨fun z => nI_z (by omega) z, fun z => by rw [z]; rfl⟩
section PA
variable (G : mG) (M0 M : mM)
theorem PS.nx {M0 M M' : mM} {Z : (Nat → Nat) × Nat} {d : Nat} {R : Nat × Nat × Nat × (Nat → Int32)} (h : PS M0 Z d R M) (r : RO M Z (hh Z (R.2.2.1 + 1)) M') : PS M0 Z d (rnx R) M' := by
  obtain ⟨h1, h2, h3, h4, h5, h6, h7, h8, h9⟩ := h
  obtain ⟨r1, r2, r3, r4, r5⟩ := r
  have f : ∀ k, (k < 8 ∨ 11 < k) → gI M' 230 k = gI M 230 k := fun k hk => r1.2.2.2.2 _ _ (Wro_o (Or.inr hk))
  have f2 : gI M' 232 = gI M 232 := funext (fun k => r1.2.2.2.2 _ _ (Wro_o (Or.inl (by decide))))
  have hw : ∀ q k, Wpa q k = false → Wro q k = false := fun q k z => by
    unfold Wpa at z
    unfold Wro
    cases hq : Nat.beq q 230
    · rfl
    · rw [hq] at z
      simp only [Bool.true_and, Bool.or_eq_false_iff, Bool.and_eq_false_iff] at z ⊢
      rcases z.1.1 with z | z
      · exact Or.inl z
      · exact Or.inr (by rw [← Bool.not_eq_true, Nat.ble_eq] at z ⊢; omega)
  exact ⟨h1.tr (r1.wk hw), f2.trans h2, ⟨(f 12 (by omega)).trans h3.1, h3.2⟩, fun z => (f 13 (by omega)).trans (h4 z), (f 16 (by omega)).trans h5, r2, r3, r4, r5⟩
theorem c12_blames {Z : (Nat → Nat) × Nat} {d k : Nat} {R : Nat × Nat × Nat × (Nat → Int32)} {x : Int32} (hS : Sh M0) (h : PS M0 Z d R M) (hx : x = nI k) (hk : k ≤ 4) : Ct G Y12_blames 0 0 0 [.ref 230, .int x] M (Rs none (PS M0 Z d (rbl Z k R))) NX := by
  subst hx
  have hS' := hS.sm h.1
  obtain ⟨h1, h2, h3, h4, h5, h6, h7, h8, h9⟩ := id h
  refine Ct.of k12_blames.1 (Nat.le_of_ble_eq_true rfl) ?_
  by_cases h0 : R.1 = 0
  · have hkl := kd_le Z R.2.2.1
    have fin : ∀ v : Nat, v ≤ 4 → v = (if kd Z R.2.2.1 = 31 then 1 else k) → PS M0 Z d (rbl Z k R) (sI (sI M 230 12 (nI v)) 230 13 (nI (ts Z R.2.2.1))) := by
      intro v hv4 hv
      rw [rbl, if_pos h0, ← hv]
      exact ⟨(h1.st _ rfl).st _ rfl, by rw [gI_sr _ _ (by decide), gI_sr _ _ (by decide)]; exact h2, ⟨(gI_sk _ _ (by decide)).trans (gI_ss _ _ _ _), hv4⟩, fun _ => gI_ss _ _ _ _, (gI_sk _ _ (by decide)).trans ((gI_sk _ _ (by decide)).trans h5), (gI_sk _ _ (by decide)).trans ((gI_sk _ _ (by decide)).trans h6), (gI_sk _ _ (by decide)).trans ((gI_sk _ _ (by decide)).trans h7), (gI_sk _ _ (by decide)).trans ((gI_sk _ _ (by decide)).trans h8), fun z => (gI_sk _ _ (by decide)).trans ((gI_sk _ _ (by decide)).trans (h9 z))⟩
    by_cases h31 : kd Z R.2.2.1 = 31
    · refine v_aload_n dX12_blames_0 rfl ?_
      refine v_getI 12 12 dX12_blames_1 f12_103 (by first | exact hS'.1 _ _ rfl | assumption) (by decide) ?_
      rw [h3.1, h0]
      refine v_if_eq 8 dX12_blames_4 (by decide) (fun h4 => ?_) (fun h4 => absurd rfl h4)
      refine v_aload_n dX12_blames_8 rfl ?_
      refine v_aload_n dX12_blames_9 rfl ?_
      refine v_getI 12 10 dX12_blames_10 f12_83 (by first | exact hS'.1 _ _ rfl | assumption) (by decide) ?_
      refine v_iconst 3 dX12_blames_13 (by decide) ?_
      rw [h8, h31]
      refine v_icmp_ne 21 dX12_blames_14 (by decide) (fun h14 => absurd rfl h14) (fun h14 => ?_)
      refine v_iconst 1 dX12_blames_17 (by decide) ?_
      refine v_goto 22 dX12_blames_18 (by decide) ?_
      refine v_putI 12 12 dX12_blames_22 f12_103 (by first | exact hS'.1 _ _ rfl | assumption) (by decide) ?_
      refine v_aload_n dX12_blames_25 rfl ?_
      refine v_aload_n dX12_blames_26 rfl ?_
      refine v_getI 12 9 dX12_blames_27 f12_80 (by first | exact hS'.1 _ _ rfl | assumption) (by decide) ?_
      rw [gI_sk _ _ (by decide), h7]
      refine v_putI 12 13 dX12_blames_30 f12_106 (by first | exact hS'.1 _ _ rfl | assumption) (by decide) ?_
      refine v_vret dX12_blames_33 rfl ?_
      exact ⟨rfl, fin 1 (by omega) (if_pos h31).symm⟩
    · refine v_aload_n dX12_blames_0 rfl ?_
      refine v_getI 12 12 dX12_blames_1 f12_103 (by first | exact hS'.1 _ _ rfl | assumption) (by decide) ?_
      rw [h3.1, h0]
      refine v_if_eq 8 dX12_blames_4 (by decide) (fun h4 => ?_) (fun h4 => absurd rfl h4)
      refine v_aload_n dX12_blames_8 rfl ?_
      refine v_aload_n dX12_blames_9 rfl ?_
      refine v_getI 12 10 dX12_blames_10 f12_83 (by first | exact hS'.1 _ _ rfl | assumption) (by decide) ?_
      refine v_iconst 3 dX12_blames_13 (by decide) ?_
      rw [h8]
      refine v_icmp_ne 21 dX12_blames_14 (by decide) (fun h14 => ?_) (fun h14 => absurd (fun z => h31 ((rc_b _ (by omega)).mp ((nI_eq (b := 3) (by have := rc_sn (kd Z R.2.2.1) (by omega); omega) (by omega)).mp z))) h14)
      refine v_iload_n dX12_blames_21 rfl ?_
      refine v_putI 12 12 dX12_blames_22 f12_103 (by first | exact hS'.1 _ _ rfl | assumption) (by decide) ?_
      refine v_aload_n dX12_blames_25 rfl ?_
      refine v_aload_n dX12_blames_26 rfl ?_
      refine v_getI 12 9 dX12_blames_27 f12_80 (by first | exact hS'.1 _ _ rfl | assumption) (by decide) ?_
      rw [gI_sk _ _ (by decide), h7]
      refine v_putI 12 13 dX12_blames_30 f12_106 (by first | exact hS'.1 _ _ rfl | assumption) (by decide) ?_
      refine v_vret dX12_blames_33 rfl ?_
      exact ⟨rfl, fin k (by omega) (if_neg h31).symm⟩
  · rw [rbl_b h0]
    refine v_aload_n dX12_blames_0 rfl ?_
    refine v_getI 12 12 dX12_blames_1 f12_103 (by first | exact hS'.1 _ _ rfl | assumption) (by decide) ?_
    rw [h3.1]
    refine v_if_eq 8 dX12_blames_4 (by decide) (fun h4 => absurd (nI_z (by omega) h4) h0) (fun h4 => ?_)
    refine v_vret dX12_blames_7 rfl ?_
    exact ⟨rfl, h⟩
theorem c12_isWord {Z : (Nat → Nat) × Nat} {d t : Nat} {R : Nat × Nat × Nat × (Nat → Int32)} (hS : Sh M0) (hT : Tp M0 Z) (h : PS M0 Z d R M) (ht : t < 17) : Ct G Y12_isWord 4 0 0 [.ref 230, .ref (40 + t)] M (Rv (some (.int (bI (rIs Z t R)))) M) NX := by
  have hS' := hS.sm h.1
  have hT' := hT.sm h.1 rfl (fun _ => rfl)
  obtain ⟨h1, h2, h3, h4, h5, h6, h7, h8, h9⟩ := id h
  have h900 := hT.2.1
  have hkl := kd_le Z R.2.2.1
  have hw := tk_w (Z := Z) (h := hh Z R.2.2.1) (k := t) (fun j hj => (hT.2.2 j hj).2) ht (hh_le Z _)
  have hge := tkE_ge Z (hh_le Z R.2.2.1)
  have hcn := rc_sn (kd Z R.2.2.1) (by omega)
  have htn := (st_ok t (by omega)).1
  replace hw : kd Z R.2.2.1 = t ↔ rc (kd Z R.2.2.1) = 1 ∧ hh Z (R.2.2.1 + 1) - ts Z R.2.2.1 = stN t ∧ ∀ j, j < stN t → nI (Z.1 (ts Z R.2.2.1 + j)) = stC t j := hw
  replace hge : ts Z R.2.2.1 ≤ hh Z (R.2.2.1 + 1) ∧ hh Z (R.2.2.1 + 1) ≤ Z.2 ∧ (ts Z R.2.2.1 < Z.2 → ts Z R.2.2.1 < hh Z (R.2.2.1 + 1)) := hge
  have hB1 : rIs Z t R → bI (rIs Z t R) = 1 := fun z => bI_t z
  have hB0 : ¬ rIs Z t R → bI (rIs Z t R) = 0 := fun z => bI_f z
  generalize bI (rIs Z t R) = B at hB1 hB0 ⊢
  refine Ct.of k12_isWord.1 (Nat.le_of_ble_eq_true rfl) ?_
  have out0 : ∀ j : Int32, ¬ rIs Z t R → V G Y12_isWord 4 0 0 (Rv (some (.int B)) M) NX 39 [some (.ref 230), some (.ref (40 + t)), some (.int 0), some (.int j)] [] M := by
    intro j hn
    rw [hB0 hn]
    refine v_iload_n dX12_isWord_39 rfl ?_
    refine v_if_eq 82 dX12_isWord_40 (by decide) (fun h40 => ?_) (fun h40 => absurd rfl h40)
    refine v_iload_n dX12_isWord_82 rfl ?_
    refine v_zret dX12_isWord_83 rfl (by first | rfl | exact bI_nb _ | assumption) ?_
    exact ⟨rfl, rfl⟩
  by_cases h0 : R.1 = 0
  · by_cases hr : rc (kd Z R.2.2.1) = 1
    · by_cases hl : hh Z (R.2.2.1 + 1) - ts Z R.2.2.1 = stN t
      · have loop : ∀ r j, j + r = stN t → (∀ i, i < j → nI (Z.1 (ts Z R.2.2.1 + i)) = stC t i) → V G Y12_isWord 4 0 0 (Rv (some (.int B)) M) NX 39 [some (.ref 230), some (.ref (40 + t)), some (.int 1), some (.int (nI j))] [] M := by
          intro r
          induction r with
          | zero =>
            intro j hj ha
            rw [hB1 (⟨h0, hw.mpr ⟨hr, hl, fun i hi => ha i (by omega)⟩⟩ : rIs Z t R)]
            refine v_iload_n dX12_isWord_39 rfl ?_
            refine v_if_eq 82 dX12_isWord_40 (by decide) (fun h40 => absurd h40 (by decide)) (fun h40 => ?_)
            refine v_iload_n dX12_isWord_43 rfl ?_
            refine v_aload_n dX12_isWord_44 rfl ?_
            refine v_cVC [] (cJ_length G M (by omega)) kJ_length dX12_isWord_45 l12_109 (kS_o G (by omega)) rfl (Nat.le_of_ble_eq_true rfl) (Nat.le_of_ble_eq_true rfl) ?_
            refine v_icmp_ge 82 dX12_isWord_48 (by decide) (fun h48 => ?_) (fun h48 => absurd (nI_le (by omega) (by omega)) h48)
            refine v_iload_n dX12_isWord_82 rfl ?_
            refine v_zret dX12_isWord_83 rfl (by first | rfl | exact bI_nb _ | assumption) ?_
            exact ⟨rfl, rfl⟩
          | succ r ih =>
            intro j hj ha
            obtain ⟨b1, b2⟩ := hT'.2.2 (ts Z R.2.2.1 + j) (by omega)
            by_cases hc : nI (Z.1 (ts Z R.2.2.1 + j)) = stC t j
            · have g := ih (j + 1) (by omega) (fun i hi => by
                rcases Nat.lt_or_ge i j with q | q
                · exact ha i q
                · rw [show i = j by omega]; exact hc)
              refine v_iload_n dX12_isWord_39 rfl ?_
              refine v_if_eq 82 dX12_isWord_40 (by decide) (fun h40 => absurd h40 (by decide)) (fun h40 => ?_)
              refine v_iload_n dX12_isWord_43 rfl ?_
              refine v_aload_n dX12_isWord_44 rfl ?_
              refine v_cVC [] (cJ_length G M (by omega)) kJ_length dX12_isWord_45 l12_109 (kS_o G (by omega)) rfl (Nat.le_of_ble_eq_true rfl) (Nat.le_of_ble_eq_true rfl) ?_
              refine v_icmp_ge 82 dX12_isWord_48 (by decide) (fun h48 => absurd ((nI_leI (by omega) (by omega)).mp h48) (by omega)) (fun h48 => ?_)
              refine v_aload_n dX12_isWord_51 rfl ?_
              refine v_getR 12 5 _ dX12_isWord_52 f12_23 (by first | exact hS'.1 _ _ rfl | assumption) (by decide) (by first | exact hS'.2 _ _ _ rfl | assumption) ?_
              refine v_aload_n dX12_isWord_55 rfl ?_
              refine v_getI 12 9 dX12_isWord_56 f12_80 (by first | exact hS'.1 _ _ rfl | assumption) (by decide) ?_
              refine v_iload_n dX12_isWord_59 rfl ?_
              rw [h7]
              refine v_iadd dX12_isWord_60 ?_
              rw [nI_add]
              refine v_ialdN (ts Z R.2.2.1 + j) dX12_isWord_61 (by first | exact hS'.1 _ _ rfl | assumption) (by simp only [n_lit, pk_mul, nI_add]) ⟨by omega, by omega⟩ ?_
              rw [b1]
              refine v_aload_n dX12_isWord_62 rfl ?_
              refine v_iload_n dX12_isWord_63 rfl ?_
              refine v_cVC [_] (cJ_charAt G M (k := t) (j := j) (by omega) (by omega)) kJ_charAt dX12_isWord_64 l12_114 (kS_o G (by omega)) rfl (Nat.le_of_ble_eq_true rfl) (Nat.le_of_ble_eq_true rfl) ?_
              refine v_icmp_ne 74 dX12_isWord_67 (by decide) (fun h67 => absurd hc h67) (fun h67 => ?_)
              refine v_iconst 1 dX12_isWord_70 (by decide) ?_
              refine v_goto 75 dX12_isWord_71 (by decide) ?_
              refine v_istore_n dX12_isWord_75 rfl (by decide) ?_
              refine v_iinc 1 dX12_isWord_76 rfl (by decide) rfl (by decide) ?_
              refine v_goto 39 dX12_isWord_79 (by decide) ?_
              rw [nI_1]; exact g
            · have hn : ¬ rIs Z t R := fun z => hc ((hw.mp z.2).2.2 j (by omega))
              refine v_iload_n dX12_isWord_39 rfl ?_
              refine v_if_eq 82 dX12_isWord_40 (by decide) (fun h40 => absurd h40 (by decide)) (fun h40 => ?_)
              refine v_iload_n dX12_isWord_43 rfl ?_
              refine v_aload_n dX12_isWord_44 rfl ?_
              refine v_cVC [] (cJ_length G M (by omega)) kJ_length dX12_isWord_45 l12_109 (kS_o G (by omega)) rfl (Nat.le_of_ble_eq_true rfl) (Nat.le_of_ble_eq_true rfl) ?_
              refine v_icmp_ge 82 dX12_isWord_48 (by decide) (fun h48 => absurd ((nI_leI (by omega) (by omega)).mp h48) (by omega)) (fun h48 => ?_)
              refine v_aload_n dX12_isWord_51 rfl ?_
              refine v_getR 12 5 _ dX12_isWord_52 f12_23 (by first | exact hS'.1 _ _ rfl | assumption) (by decide) (by first | exact hS'.2 _ _ _ rfl | assumption) ?_
              refine v_aload_n dX12_isWord_55 rfl ?_
              refine v_getI 12 9 dX12_isWord_56 f12_80 (by first | exact hS'.1 _ _ rfl | assumption) (by decide) ?_
              refine v_iload_n dX12_isWord_59 rfl ?_
              rw [h7]
              refine v_iadd dX12_isWord_60 ?_
              rw [nI_add]
              refine v_ialdN (ts Z R.2.2.1 + j) dX12_isWord_61 (by first | exact hS'.1 _ _ rfl | assumption) (by simp only [n_lit, pk_mul, nI_add]) ⟨by omega, by omega⟩ ?_
              rw [b1]
              refine v_aload_n dX12_isWord_62 rfl ?_
              refine v_iload_n dX12_isWord_63 rfl ?_
              refine v_cVC [_] (cJ_charAt G M (k := t) (j := j) (by omega) (by omega)) kJ_charAt dX12_isWord_64 l12_114 (kS_o G (by omega)) rfl (Nat.le_of_ble_eq_true rfl) (Nat.le_of_ble_eq_true rfl) ?_
              refine v_icmp_ne 74 dX12_isWord_67 (by decide) (fun h67 => ?_) (fun h67 => absurd (Decidable.not_not.mp h67) hc)
              refine v_iconst 0 dX12_isWord_74 (by decide) ?_
              refine v_istore_n dX12_isWord_75 rfl (by decide) ?_
              refine v_iinc 1 dX12_isWord_76 rfl (by decide) rfl (by decide) ?_
              refine v_goto 39 dX12_isWord_79 (by decide) ?_
              exact out0 _ hn
        refine v_aload_n dX12_isWord_0 rfl ?_
        refine v_getI 12 12 dX12_isWord_1 f12_103 (by first | exact hS'.1 _ _ rfl | assumption) (by decide) ?_
        rw [h3.1, h0]
        refine v_if_ne 35 dX12_isWord_4 (by decide) (fun h4 => absurd rfl h4) (fun h4 => ?_)
        refine v_aload_n dX12_isWord_7 rfl ?_
        refine v_getI 12 10 dX12_isWord_8 f12_83 (by first | exact hS'.1 _ _ rfl | assumption) (by decide) ?_
        refine v_iconst 1 dX12_isWord_11 (by decide) ?_
        rw [h8, hr]
        refine v_icmp_ne 35 dX12_isWord_12 (by decide) (fun h12 => absurd rfl h12) (fun h12 => ?_)
        refine v_aload_n dX12_isWord_15 rfl ?_
        refine v_getI 12 8 dX12_isWord_16 f12_77 (by first | exact hS'.1 _ _ rfl | assumption) (by decide) ?_
        refine v_aload_n dX12_isWord_19 rfl ?_
        refine v_getI 12 9 dX12_isWord_20 f12_80 (by first | exact hS'.1 _ _ rfl | assumption) (by decide) ?_
        rw [h6, h7]
        refine v_isub dX12_isWord_23 ?_
        rw [nSub (by omega), hl]
        refine v_aload_n dX12_isWord_24 rfl ?_
        refine v_cVC [] (cJ_length G M (by omega)) kJ_length dX12_isWord_25 l12_109 (kS_o G (by omega)) rfl (Nat.le_of_ble_eq_true rfl) (Nat.le_of_ble_eq_true rfl) ?_
        refine v_icmp_ne 35 dX12_isWord_28 (by decide) (fun h28 => absurd rfl h28) (fun h28 => ?_)
        refine v_iconst 1 dX12_isWord_31 (by decide) ?_
        refine v_goto 36 dX12_isWord_32 (by decide) ?_
        refine v_istore_n dX12_isWord_36 rfl (by decide) ?_
        refine v_iconst 0 dX12_isWord_37 (by decide) ?_
        refine v_istore_n dX12_isWord_38 rfl (by decide) ?_
        exact loop _ 0 (Nat.zero_add _) (fun i hi => absurd hi (Nat.not_lt_zero _))
      · have hn : ¬ rIs Z t R := fun z => hl (hw.mp z.2).2.1
        refine v_aload_n dX12_isWord_0 rfl ?_
        refine v_getI 12 12 dX12_isWord_1 f12_103 (by first | exact hS'.1 _ _ rfl | assumption) (by decide) ?_
        rw [h3.1, h0]
        refine v_if_ne 35 dX12_isWord_4 (by decide) (fun h4 => absurd rfl h4) (fun h4 => ?_)
        refine v_aload_n dX12_isWord_7 rfl ?_
        refine v_getI 12 10 dX12_isWord_8 f12_83 (by first | exact hS'.1 _ _ rfl | assumption) (by decide) ?_
        refine v_iconst 1 dX12_isWord_11 (by decide) ?_
        rw [h8, hr]
        refine v_icmp_ne 35 dX12_isWord_12 (by decide) (fun h12 => absurd rfl h12) (fun h12 => ?_)
        refine v_aload_n dX12_isWord_15 rfl ?_
        refine v_getI 12 8 dX12_isWord_16 f12_77 (by first | exact hS'.1 _ _ rfl | assumption) (by decide) ?_
        refine v_aload_n dX12_isWord_19 rfl ?_
        refine v_getI 12 9 dX12_isWord_20 f12_80 (by first | exact hS'.1 _ _ rfl | assumption) (by decide) ?_
        rw [h6, h7]
        refine v_isub dX12_isWord_23 ?_
        rw [nSub (by omega)]
        refine v_aload_n dX12_isWord_24 rfl ?_
        refine v_cVC [] (cJ_length G M (by omega)) kJ_length dX12_isWord_25 l12_109 (kS_o G (by omega)) rfl (Nat.le_of_ble_eq_true rfl) (Nat.le_of_ble_eq_true rfl) ?_
        refine v_icmp_ne 35 dX12_isWord_28 (by decide) (fun h28 => ?_) (fun h28 => absurd (fun z => hl ((nI_eq (by omega) (by omega)).mp z)) h28)
        refine v_iconst 0 dX12_isWord_35 (by decide) ?_
        refine v_istore_n dX12_isWord_36 rfl (by decide) ?_
        refine v_iconst 0 dX12_isWord_37 (by decide) ?_
        refine v_istore_n dX12_isWord_38 rfl (by decide) ?_
        exact out0 _ hn
    · have hn : ¬ rIs Z t R := fun z => hr (hw.mp z.2).1
      refine v_aload_n dX12_isWord_0 rfl ?_
      refine v_getI 12 12 dX12_isWord_1 f12_103 (by first | exact hS'.1 _ _ rfl | assumption) (by decide) ?_
      rw [h3.1, h0]
      refine v_if_ne 35 dX12_isWord_4 (by decide) (fun h4 => absurd rfl h4) (fun h4 => ?_)
      refine v_aload_n dX12_isWord_7 rfl ?_
      refine v_getI 12 10 dX12_isWord_8 f12_83 (by first | exact hS'.1 _ _ rfl | assumption) (by decide) ?_
      refine v_iconst 1 dX12_isWord_11 (by decide) ?_
      rw [h8]
      refine v_icmp_ne 35 dX12_isWord_12 (by decide) (fun h12 => ?_) (fun h12 => absurd (fun z => hr ((nI_eq (b := 1) (by omega) (by omega)).mp z)) h12)
      refine v_iconst 0 dX12_isWord_35 (by decide) ?_
      refine v_istore_n dX12_isWord_36 rfl (by decide) ?_
      refine v_iconst 0 dX12_isWord_37 (by decide) ?_
      refine v_istore_n dX12_isWord_38 rfl (by decide) ?_
      exact out0 _ hn
  · have hn : ¬ rIs Z t R := fun z => h0 z.1
    refine v_aload_n dX12_isWord_0 rfl ?_
    refine v_getI 12 12 dX12_isWord_1 f12_103 (by first | exact hS'.1 _ _ rfl | assumption) (by decide) ?_
    rw [h3.1]
    refine v_if_ne 35 dX12_isWord_4 (by decide) (fun h4 => ?_) (fun h4 => absurd (fun z => h0 (nI_z (by omega) z)) h4)
    refine v_iconst 0 dX12_isWord_35 (by decide) ?_
    refine v_istore_n dX12_isWord_36 rfl (by decide) ?_
    refine v_iconst 0 dX12_isWord_37 (by decide) ?_
    refine v_istore_n dX12_isWord_38 rfl (by decide) ?_
    exact out0 _ hn
end PA
