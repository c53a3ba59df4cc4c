/-! ===== the class: all tokens found, the next one ===== -/
/-- M' is M but for numbers at places of W, references at places of R -/
def Sn (W R : Nat → Nat → Bool) (M M' : mM) : Prop := gz M' = gz M ∧ gT M' = gT M ∧ gJ M' = gJ M ∧ (∀ q k, R q k = false → gR M' q k = gR M q k) ∧ ∀ q k, W q k = false → gI M' q k = gI M q k
theorem Sn.rf {W R : Nat → Nat → Bool} {M : mM} : Sn W R M M := ⟨rfl, rfl, rfl, fun _ _ _ => rfl, fun _ _ _ => rfl⟩
theorem Sn.tr {W R : Nat → Nat → Bool} {M M' M'' : mM} (h : Sn W R M M') (g : Sn W R M' M'') : Sn W R M M'' := ⟨g.1.trans h.1, g.2.1.trans h.2.1, g.2.2.1.trans h.2.2.1, fun q k z => (g.2.2.2.1 q k z).trans (h.2.2.2.1 q k z), fun q k z => (g.2.2.2.2 q k z).trans (h.2.2.2.2 q k z)⟩
theorem Sn.wk {W R W2 R2 : Nat → Nat → Bool} {M M' : mM} (h : Sn W R M M') (w : ∀ q k, W2 q k = false → W q k = false) (r : ∀ q k, R2 q k = false → R q k = false) : Sn W2 R2 M M' := ⟨h.1, h.2.1, h.2.2.1, fun q k z => h.2.2.2.1 q k (r q k z), fun q k z => h.2.2.2.2 q k (w q k z)⟩
theorem Sn.of {W R : Nat → Nat → Bool} {M M' : mM} (h : Sm W M M') : Sn W R M M' := ⟨h.1, h.2.1, h.2.2.1, fun q k _ => by rw [h.2.2.2.1], h.2.2.2.2⟩
theorem Sn.st {W R : Nat → Nat → Bool} {M M' : mM} (h : Sn W R M M') {q k : Nat} (v : Int32) (w : W q k = true) : Sn W R M (sI M' q k v) := ⟨h.1, h.2.1, h.2.2.1, h.2.2.2.1, fun a b z => by
  rw [gI_sI]
  by_cases e : a = q ∧ b = k
  · rw [e.1, e.2, w] at z; cases z
  · simp only [up2, e, if_false]; exact h.2.2.2.2 a b z⟩
theorem Sn.sr {W R : Nat → Nat → Bool} {M M' : mM} (h : Sn W R M M') {q k : Nat} (v : Option Nat) (w : R q k = true) : Sn W R M (sR M' q k v) := ⟨h.1, h.2.1, h.2.2.1, fun a b z => by
  rw [gR_sR]
  by_cases e : a = q ∧ b = k
  · rw [e.1, e.2, w] at z; cases z
  · simp only [up2, e, if_false]; exact h.2.2.2.1 a b z, h.2.2.2.2⟩
theorem Sh.sn {W R : Nat → Nat → Bool} {M M' : mM} (h : Sh M) (e : Sn W R M M') (hr : ∀ q k a, rQ q k = some a → R q k = false) : Sh M' := ⟨fun q sh hq => by rw [e.2.1]; exact h.1 q sh hq, fun q k a hq => by rw [e.2.2.2.1 q k (hr q k a hq)]; exact h.2 q k a hq⟩
theorem gR_ss (M : mM) (q k : Nat) (v : Option Nat) : gR (sR M q k v) q k = v := by rw [gR_sR]; exact up2_s _ _ _ _
theorem gR_sk (M : mM) {q k j : Nat} (v : Option Nat) (h : j ≠ k) : gR (sR M q k v) q j = gR M q j := by rw [gR_sR]; exact up2_k _ _ h
theorem gR_sq (M : mM) {q k a j : Nat} (v : Option Nat) (h : a ≠ q) : gR (sR M q k v) a j = gR M a j := by rw [gR_sR]; exact up2_q _ _ h
def Wpn (q k : Nat) : Bool := (Nat.beq q 103 && (Nat.ble 4 k && (Nat.ble k 10 && !Nat.beq k 8))) || (Nat.beq q 105 || Nat.beq q 106)
def Rop (q k : Nat) : Bool := (Nat.beq q 103 && (Nat.beq k 3 || Nat.beq k 8)) || Nat.beq q 104
theorem Rop_q : ∀ q k a, rQ q k = some a → Rop q k = false := by
  intro q k a h
  cases hq : Rop q k
  · rfl
  · unfold Rop at hq
    simp only [Bool.or_eq_true, Bool.and_eq_true, Nat.beq_eq] at hq
    rcases hq with ⟨rfl, rfl | rfl⟩ | rfl
    · cases (show (none : Option Nat) = some a from h)
    · cases (show (none : Option Nat) = some a from h)
    · cases (show (none : Option Nat) = some a from h)
/-- all tokens of a text, N the last one's number -/
def TA (M : mM) (Z : (Nat → Nat) × Nat) (N : Nat) : Prop := gI M 103 7 = nI (N + 1) ∧ N ≤ 900 ∧ kd Z N = 32 ∧ (∀ j, j < N → kd Z j ≠ 32) ∧ ∀ j, j ≤ N → gR M 104 j = some (kd Z j) ∧ gI M 105 j = nI (ts Z j) ∧ (kd Z j = 29 → gI M 106 j = nI (vl Z j))
/-- the one that stands there, of number i -/
def TS (M : mM) (Z : (Nat → Nat) × Nat) (N i : Nat) : Prop := TA M Z N ∧ gI M 103 6 = nI i ∧ i ≤ N ∧ gR M 103 8 = some (kd Z i) ∧ gI M 103 9 = nI (ts Z i) ∧ (kd Z i = 29 → gI M 103 10 = nI (vl Z i))
def Wnx (q k : Nat) : Bool := Nat.beq q 103 && (Nat.beq k 6 || (Nat.beq k 9 || Nat.beq k 10))
def Rnx (q k : Nat) : Bool := Nat.beq q 103 && Nat.beq k 8
theorem Rnx_q : ∀ q k a, rQ q k = some a → Rnx q k = false := by
  intro q k a h
  cases hq : Rnx q k
  · rfl
  · unfold Rnx at hq
    simp only [Bool.and_eq_true, Nat.beq_eq] at hq
    obtain ⟨rfl, rfl⟩ := hq
    cases (show (none : Option Nat) = some a from h)
section OP
variable (G : mG) (M : mM)
theorem c9_nextG {Z : (Nat → Nat) × Nat} {N i : Nat} (hS : Sh M) (hA : TA M Z N) (ha : gI M 103 6 + 1 = nI i) (hi : i ≤ N) : Ct G Y9_next 0 0 0 [.ref 103] M (Rs none (fun M' => Sn Wnx Rnx M M' ∧ TS M' Z N i)) NX := by
  obtain ⟨h1, h2, h3, h4, h5⟩ := id hA
  obtain ⟨k1, k2, k3⟩ := h5 i hi
  have h104 : gT M 104 = .inr (4, 901) := hS.1 _ _ rfl
  have fin : ∀ M', M' = sI (sI (sR (sI M 103 6 (nI i)) 103 8 (some (kd Z i))) 103 9 (nI (ts Z i))) 103 10 (gI M 106 i) → Sn Wnx Rnx M M' ∧ TS M' Z N i := by
    intro M' e
    subst e
    have hsn : Sn Wnx Rnx M (sI (sI (sR (sI M 103 6 (nI i)) 103 8 (some (kd Z i))) 103 9 (nI (ts Z i))) 103 10 (gI M 106 i)) := (((Sn.rf.st _ rfl).sr _ rfl).st _ rfl).st _ rfl
    refine ⟨hsn, ⟨(hsn.2.2.2.2 103 7 rfl).trans h1, h2, h3, h4, fun j hj => ?_⟩, ?_, hi, ?_, ?_, fun z => ?_⟩
    · obtain ⟨a, b, c⟩ := h5 j hj
      exact ⟨(hsn.2.2.2.1 104 j rfl).trans a, (hsn.2.2.2.2 105 j rfl).trans b, fun z => (hsn.2.2.2.2 106 j rfl).trans (c z)⟩
    · rw [gI_sk _ _ (by decide), gI_sk _ _ (by decide), gI_sR, gI_ss]
    · show gR (sR (sI M 103 6 (nI i)) 103 8 (some (kd Z i))) 103 8 = _
      rw [gR_ss]
    · rw [gI_sk _ _ (by decide), gI_ss]
    · rw [gI_ss]; exact k3 z
  refine Ct.of k9_next.1 (Nat.le_of_ble_eq_true rfl) ?_
  have f6 : gI (sI M 103 6 (nI i)) 103 6 = nI i := gI_ss _ _ _ _
  refine v_aload_n dX9_next_0 rfl ?_
  refine v_getI 9 6 dX9_next_1 f9_48 (by first | exact hS.1 _ _ rfl | assumption) (by decide) ?_
  refine v_iconst 1 dX9_next_4 (by decide) ?_
  refine v_iadd dX9_next_5 ?_
  rw [ha]
  refine v_aload_n dX9_next_6 rfl ?_
  refine v_getI 9 7 dX9_next_7 f9_51 (by first | exact hS.1 _ _ rfl | assumption) (by decide) ?_
  rw [h1]
  refine v_icmp_ge 62 dX9_next_10 (by decide) (fun h10 => absurd ((nI_leI (by omega) (by omega)).mp h10) (by omega)) (fun h10 => ?_)
  refine v_aload_n dX9_next_13 rfl ?_
  refine v_dup dX9_next_14 rfl ?_
  refine v_getI 9 6 dX9_next_15 f9_48 (by first | exact hS.1 _ _ rfl | assumption) (by decide) ?_
  refine v_iconst 1 dX9_next_18 (by decide) ?_
  refine v_iadd dX9_next_19 ?_
  rw [ha]
  refine v_putI 9 6 dX9_next_20 f9_48 (by first | exact hS.1 _ _ rfl | assumption) (by decide) ?_
  refine v_aload_n dX9_next_23 rfl ?_
  refine v_aload_n dX9_next_24 rfl ?_
  refine v_getR 9 0 _ dX9_next_25 f9_11 (by first | exact hS.1 _ _ rfl | assumption) (by decide) (by first | exact hS.2 _ _ _ rfl | assumption) ?_
  refine v_aload_n dX9_next_28 rfl ?_
  refine v_getI 9 6 dX9_next_29 f9_48 (by first | exact hS.1 _ _ rfl | assumption) (by decide) ?_
  rw [f6]
  refine v_aald _ dX9_next_32 (by first | exact hS.1 _ _ rfl | assumption) (by decide) (vp_in_nI (by omega) (by omega)) (show gR M 104 (nI i).toNatClampNeg = some (kd Z i) by rw [nI_clamp (by omega)]; exact k1) ?_
  refine v_putR 9 8 dX9_next_33 f9_32 (by first | exact hS.1 _ _ rfl | assumption) (by decide) (by decide) ?_
  refine v_aload_n dX9_next_36 rfl ?_
  refine v_aload_n dX9_next_37 rfl ?_
  refine v_getR 9 1 _ dX9_next_38 f9_17 (by first | exact hS.1 _ _ rfl | assumption) (by decide) (by first | exact hS.2 _ _ _ rfl | assumption) ?_
  refine v_aload_n dX9_next_41 rfl ?_
  refine v_getI 9 6 dX9_next_42 f9_48 (by first | exact hS.1 _ _ rfl | assumption) (by decide) ?_
  rw [gI_sR, f6]
  refine v_ialdN (i) dX9_next_45 (by first | exact hS.1 _ _ rfl | assumption) (by simp only [n_lit, pk_mul, nI_add]) ⟨by omega, by omega⟩ ?_
  rw [gI_sR, gI_sq _ _ (by decide), k2]
  refine v_putI 9 9 dX9_next_46 f9_70 (by first | exact hS.1 _ _ rfl | assumption) (by decide) ?_
  refine v_aload_n dX9_next_49 rfl ?_
  refine v_aload_n dX9_next_50 rfl ?_
  refine v_getR 9 2 _ dX9_next_51 f9_21 (by first | exact hS.1 _ _ rfl | assumption) (by decide) (by first | exact hS.2 _ _ _ rfl | assumption) ?_
  refine v_aload_n dX9_next_54 rfl ?_
  refine v_getI 9 6 dX9_next_55 f9_48 (by first | exact hS.1 _ _ rfl | assumption) (by decide) ?_
  rw [gI_sk _ _ (by decide), gI_sR, f6]
  refine v_ialdN (i) dX9_next_58 (by first | exact hS.1 _ _ rfl | assumption) (by simp only [n_lit, pk_mul, nI_add]) ⟨by omega, by omega⟩ ?_
  rw [gI_sq _ _ (by decide), gI_sR, gI_sq _ _ (by decide)]
  refine v_putI 9 10 dX9_next_59 f9_64 (by first | exact hS.1 _ _ rfl | assumption) (by decide) ?_
  refine v_vret dX9_next_62 rfl ?_
  exact ⟨rfl, fin _ rfl⟩
theorem c9_next {Z : (Nat → Nat) × Nat} {N i : Nat} (hS : Sh M) (hA : TS M Z N i) (hi : i < N) : Ct G Y9_next 0 0 0 [.ref 103] M (Rs none (fun M' => Sn Wnx Rnx M M' ∧ TS M' Z N (i + 1))) NX :=
  c9_nextG G M hS hA.1 (by rw [hA.2.1, nI_1]) hi
/-- all tokens of the tape's first n bytes -/
theorem c9_open {Z : (Nat → Nat) × Nat} (hS : Sh M) (hn : Z.2 ≤ 900) (hb : ∀ j, j < Z.2 → gI M 101 j = sb (Z.1 j) ∧ Z.1 j < 256) : Ct G Y9_open 7 0 0 [.ref 103, .ref 101, .int (nI Z.2)] M (Rs none (fun M' => Sn Wpn Rop M M' ∧ ∃ N, TS M' Z N 0)) NX := by
  have wt : ∀ q k, Wpn q k = false → Wtk q k = false := fun q k z => by
    cases hq : Wtk q k
    · rfl
    · have : Wpn q k = true := by
        unfold Wtk at hq
        unfold Wpn
        simp only [Bool.or_eq_true, Bool.and_eq_true, Nat.beq_eq, Nat.ble_eq, Bool.not_eq_true', ← Bool.not_eq_true] at hq ⊢
        omega
      rw [this] at z; cases z
  have wn : ∀ q k, Wpn q k = false → Wnx q k = false := fun q k z => by
    cases hq : Wnx q k
    · rfl
    · have : Wpn q k = true := by
        unfold Wnx at hq
        unfold Wpn
        simp only [Bool.or_eq_true, Bool.and_eq_true, Nat.beq_eq, Nat.ble_eq, Bool.not_eq_true', ← Bool.not_eq_true] at hq ⊢
        omega
      rw [this] at z; cases z
  have rw_ : ∀ q k, Rop q k = false → Rnx q k = false := fun q k z => by
    cases hq : Rnx q k
    · rfl
    · have : Rop q k = true := by
        unfold Rnx at hq
        unfold Rop
        simp only [Bool.or_eq_true, Bool.and_eq_true, Nat.beq_eq] at hq ⊢
        omega
      rw [this] at z; cases z
  have loop : ∀ r i M' o, i + r = 902 → i ≤ 901 → Sn Wpn Rop M M' → Tk M' Z → gI M' 103 5 = nI (hh Z i) → gI M' 103 7 = nI i → gI M' 103 6 = -1 → (∀ j, j < i → kd Z j ≠ 32 ∨ j + 1 = i) → (o = if i = 0 then 31 else kd Z (i - 1)) → (∀ j, j < i → gR M' 104 j = some (kd Z j) ∧ gI M' 105 j = nI (ts Z j) ∧ (kd Z j = 29 → gI M' 106 j = nI (vl Z j))) → V G Y9_open 7 0 0 (Rs none (fun M' => Sn Wpn Rop M M' ∧ ∃ N, TS M' Z N 0)) NX 43 [some (.ref 103), some (.ref 101), some (.int (nI Z.2)), some (.ref o), some (.int (nI i))] [] M' := by
    intro r
    induction r with
    | zero => intro i M' o h1 h2; omega
    | succ r ih =>
      intro i M' o hi hi2 e hT e5 e7 e6 hk ho ha
      have hS' := hS.sn e Rop_q
      have hT' := hT
      by_cases he : o = 32
      · have h0 : i ≠ 0 := fun z => by rw [if_pos z] at ho; omega
        rw [if_neg h0] at ho
        have hA : TA M' Z (i - 1) := ⟨by rw [e7, show i - 1 + 1 = i by omega], by omega, by omega, fun j hj => (hk j (by omega)).resolve_right (by omega), fun j hj => ha j (by omega)⟩
        have hnx := c9_nextG G M' (i := 0) hS' hA (by rw [e6]; rfl) (Nat.zero_le _)
        subst he
        by_cases h900 : 900 < i
        · refine v_iload dX9_open_43 rfl ?_
          refine v_sipush 900 dX9_open_45 (by decide) ?_
          refine v_icmp_gt 113 dX9_open_48 (by decide) (fun h48 => ?_) (fun h48 => absurd ((nI_ltI (a := 900) (by omega) (by omega)).mpr h900) h48)
          refine v_aload_n dX9_open_113 rfl ?_
          refine v_scVv [] (hnx) k9_next dX9_open_114 l9_67 (by first | exact hS'.1 _ _ rfl | exact hS.1 _ _ rfl) (by decide) rfl (Nat.le_of_ble_eq_true rfl) (Nat.le_of_ble_eq_true rfl) ?_
          intro M2 hM2
          refine v_vret dX9_open_117 rfl ?_
          exact ⟨rfl, e.tr (hM2.1.wk wn rw_), i - 1, hM2.2⟩
        · refine v_iload dX9_open_43 rfl ?_
          refine v_sipush 900 dX9_open_45 (by decide) ?_
          refine v_icmp_gt 113 dX9_open_48 (by decide) (fun h48 => absurd ((nI_ltI (a := 900) (by omega) (by omega)).mp h48) h900) (fun h48 => ?_)
          refine v_aload_n dX9_open_51 rfl ?_
          refine v_gets (v := .ref 32) dX9_open_52 g9_28 (kT_z G (i := 32) (by decide) rfl) ?_
          refine v_acmp_eq 113 dX9_open_55 (by decide) (kT_i G (by first | assumption | omega | decide) (by first | assumption | omega | decide)) (fun h55 => ?_) (fun h55 => absurd rfl h55)
          refine v_aload_n dX9_open_113 rfl ?_
          refine v_scVv [] (hnx) k9_next dX9_open_114 l9_67 (by first | exact hS'.1 _ _ rfl | exact hS.1 _ _ rfl) (by decide) rfl (Nat.le_of_ble_eq_true rfl) (Nat.le_of_ble_eq_true rfl) ?_
          intro M2 hM2
          refine v_vret dX9_open_117 rfl ?_
          exact ⟨rfl, e.tr (hM2.1.wk wn rw_), i - 1, hM2.2⟩
      · have hall : ∀ j, j < i → kd Z j ≠ 32 := fun j hj => by
          rcases hk j hj with q | q
          · exact q
          · rw [if_neg (by omega), show i - 1 = j by omega] at ho
            exact fun z => he (ho.trans z)
        have hi900 : i ≤ 900 := by
          rcases Nat.eq_zero_or_pos i with q | q
          · omega
          · have := (kd_lt (hall (i - 1) (by omega))).1; omega
        have ho33 : o < 33 := by
          rw [ho]
          split
          · decide
          · have := kd_le Z (i - 1); omega
        have hsk := c9_skipBlanks G M' (h := hh Z i) hS' hT' (hh_le Z i) e5
        refine v_iload dX9_open_43 rfl ?_
        refine v_sipush 900 dX9_open_45 (by decide) ?_
        refine v_icmp_gt 113 dX9_open_48 (by decide) (fun h48 => absurd ((nI_ltI (a := 900) (by omega) (by omega)).mp h48) (by omega)) (fun h48 => ?_)
        refine v_aload_n dX9_open_51 rfl ?_
        refine v_gets (v := .ref 32) dX9_open_52 g9_28 (kT_z G (i := 32) (by decide) rfl) ?_
        refine v_acmp_eq 113 dX9_open_55 (by decide) (kT_i G (by first | assumption | omega | decide) (by first | assumption | omega | decide)) (fun h55 => absurd h55 he) (fun h55 => ?_)
        refine v_aload_n dX9_open_58 rfl ?_
        refine v_scVv [] (hsk) k9_skipBlanks dX9_open_59 l9_57 (by first | exact hS'.1 _ _ rfl | exact hS.1 _ _ rfl) (by decide) rfl (Nat.le_of_ble_eq_true rfl) (Nat.le_of_ble_eq_true rfl) ?_
        intro M2 hM2; have hS' := hS'.sm hM2.1; have hT' := hT'.sm hM2.1 rfl (fun _ => rfl)
        refine v_aload_n dX9_open_62 rfl ?_
        refine v_getR 9 1 _ dX9_open_63 f9_17 (by first | exact hS'.1 _ _ rfl | exact hS.1 _ _ rfl) (by decide) (by first | exact hS'.2 _ _ _ rfl | exact hS.2 _ _ _ rfl) ?_
        refine v_iload dX9_open_66 rfl ?_
        refine v_aload_n dX9_open_68 rfl ?_
        refine v_getI 9 5 dX9_open_69 f9_45 (by first | exact hS'.1 _ _ rfl | exact hS.1 _ _ rfl) (by decide) ?_
        rw [hM2.2]
        refine v_iastN (i) dX9_open_72 (by first | exact hS'.1 _ _ rfl | exact hS.1 _ _ rfl) (by simp only [n_lit, pk_mul, nI_add]) ⟨by omega, by omega⟩ ?_
        skip
        have e3 : Sn Wpn Rop M' (sI M2 105 i (nI (ts Z i))) := ((Sn.of hM2.1).wk wt (fun _ _ z => z)).st _ rfl
        have hS3 : Sh (sI M2 105 i (nI (ts Z i))) := hS'
        have hT3 : Tk (sI M2 105 i (nI (ts Z i))) Z := ⟨hT'.1, (gI_sq _ _ (by decide)).trans hT'.2.1, hT'.2.2.1, fun j hj => ⟨(gI_sq _ _ (by decide)).trans (hT'.2.2.2 j hj).1, (hT'.2.2.2 j hj).2⟩⟩
        have hsc := c9_scan G (sI M2 105 i (nI (ts Z i))) (h := hh Z i) hS3 hT3 (hh_le Z i) ((gI_sq _ _ (by decide)).trans hM2.2)
        have c104 : gT M 104 = .inr (4, 901) := hS.1 _ _ rfl
        have kstep : ∀ M4, SO (sI M2 105 i (nI (ts Z i))) Z (hh Z i) M4 → V G Y9_open 7 0 0 (Rs none (fun M' => Sn Wpn Rop M M' ∧ ∃ N, TS M' Z N 0)) NX 43 [some (.ref 103), some (.ref 101), some (.int (nI Z.2)), some (.ref (kd Z i)), some (.int (nI (i + 1)))] [] (sI (sI (sR M4 104 i (some (kd Z i))) 106 i (gI M4 103 10)) 103 7 (nI (i + 1))) := by
          intro M4 hM4
          obtain ⟨o1, o2, o3⟩ := hM4
          have e4 : Sn Wpn Rop M (sI (sI (sR M4 104 i (some (kd Z i))) 106 i (gI M4 103 10)) 103 7 (nI (i + 1))) := (((e.tr e3).tr ((Sn.of o1).wk wt (fun _ _ z => z))).sr _ rfl |>.st _ rfl).st _ rfl
          have b4 : ∀ q k, q ≠ 103 → q ≠ 105 → gI M4 q k = gI M' q k := fun q k h1 h2 => by
            rw [o1.2.2.2.2 q k (by unfold Wtk; rw [show Nat.beq q 103 = false from by rw [← Bool.not_eq_true, Nat.beq_eq]; exact h1]; rfl), gI_sq _ _ h2, hM2.1.2.2.2.2 q k (by unfold Wtk; rw [show Nat.beq q 103 = false from by rw [← Bool.not_eq_true, Nat.beq_eq]; exact h1]; rfl)]
          have b3 : ∀ k, k ≠ 5 → k ≠ 10 → gI M4 103 k = gI M' 103 k := fun k h1 h2 => by
            have w : Wtk 103 k = false := by
              cases hq : Wtk 103 k
              · rfl
              · unfold Wtk at hq
                simp only [Bool.and_eq_true, Bool.or_eq_true, Nat.beq_eq] at hq
                omega
            rw [o1.2.2.2.2 103 k w, gI_sq _ _ (by decide), hM2.1.2.2.2.2 103 k w]
          have bR : ∀ q k, gR M4 q k = gR M' q k := fun q k => by rw [o1.2.2.2.1]; show gR M2 q k = _; rw [hM2.1.2.2.2.1]
          have b5 : ∀ k, gI M4 105 k = if k = i then nI (ts Z i) else gI M' 105 k := fun k => by
            rw [o1.2.2.2.2 105 k rfl]
            by_cases hk' : k = i
            · rw [if_pos hk', hk', gI_ss]
            · rw [if_neg hk', gI_sk _ _ hk', hM2.1.2.2.2.2 105 k rfl]
          refine ih (i + 1) _ (kd Z i) (by omega) (by omega) e4 ?_ ?_ (gI_ss _ _ _ _) ?_ (fun j hj => ?_) (by rw [if_neg (by omega), Nat.add_sub_cancel]) (fun j hj => ?_)
          · refine ⟨?_, ?_, hT.2.2.1, fun j hj => ⟨?_, (hT.2.2.2 j hj).2⟩⟩
            · show gR (sR M4 104 i (some (kd Z i))) 103 3 = _
              rw [gR_sq _ _ (by decide), bR]; exact hT.1
            · rw [gI_sk _ _ (by decide), gI_sq _ _ (by decide), gI_sR, b3 4 (by decide) (by decide)]; exact hT.2.1
            · rw [gI_sq _ _ (by decide), gI_sq _ _ (by decide), gI_sR, b4 101 j (by decide) (by decide)]; exact (hT.2.2.2 j hj).1
          · rw [gI_sk _ _ (by decide), gI_sq _ _ (by decide), gI_sR]; exact o2
          · rw [gI_sk _ _ (by decide), gI_sq _ _ (by decide), gI_sR, b3 6 (by decide) (by decide)]; exact e6
          · rcases Nat.lt_or_ge j i with q | q
            · exact Or.inl (hall j q)
            · exact Or.inr (by omega)
          · show gR (sR M4 104 i (some (kd Z i))) 104 j = _ ∧ _
            by_cases hji : j = i
            · subst hji
              refine ⟨gR_ss _ _ _ _, ?_, fun z => ?_⟩
              · rw [gI_sq _ _ (by decide), gI_sq _ _ (by decide), gI_sR, b5, if_pos rfl]
              · rw [gI_sq _ _ (by decide), gI_ss]; exact o3 z
            · obtain ⟨a1, a2, a3⟩ := ha j (by omega)
              refine ⟨?_, ?_, fun z => ?_⟩
              · rw [gR_sk _ _ hji, bR]; exact a1
              · rw [gI_sq _ _ (by decide), gI_sq _ _ (by decide), gI_sR, b5, if_neg hji]; exact a2
              · rw [gI_sq _ _ (by decide), gI_sk _ _ hji, gI_sR, b4 106 j (by decide) (by decide)]; exact a3 z
        have f7 : ∀ M4, SO (sI M2 105 i (nI (ts Z i))) Z (hh Z i) M4 → gI M4 103 7 = nI i := fun M4 hM4 => by
          rw [hM4.1.2.2.2.2 103 7 rfl, gI_sq _ _ (by decide), hM2.1.2.2.2.2 103 7 rfl]; exact e7
        refine v_aload_n dX9_open_73 rfl ?_
        refine v_scV [] (hsc) k9_scan dX9_open_74 l9_60 (by first | exact hS3.1 _ _ rfl | exact hS'.1 _ _ rfl) (by decide) rfl (Nat.le_of_ble_eq_true rfl) (Nat.le_of_ble_eq_true rfl) ?_
        intro M4 hM4; have hS' := hS3.sm hM4.1; have q7 := f7 M4 hM4; have ks := kstep M4 hM4
        refine v_astore_n dX9_open_77 rfl (by decide) ?_
        refine v_aload_n dX9_open_78 rfl ?_
        refine v_getR 9 0 _ dX9_open_79 f9_11 (hS'.1 _ _ rfl) (by decide) (hS'.2 _ _ _ rfl) ?_
        refine v_iload dX9_open_82 rfl ?_
        refine v_aload_n dX9_open_84 rfl ?_
        refine v_aastK dX9_open_85 (hS'.1 _ _ rfl) (vp_in_nI (by omega) (by omega)) (kT_o G (show kd Z i < 33 by have := kd_le Z i; omega)) ?_; rw [nI_clamp (by omega)]; have hS'' : Sh (sR M4 104 i (some (kd Z i))) := hS'.sn (Sn.rf.sr (W := Wpn) (R := Rop) _ rfl) Rop_q
        refine v_aload_n dX9_open_86 rfl ?_
        refine v_getR 9 2 _ dX9_open_87 f9_21 (hS''.1 _ _ rfl) (by decide) (hS''.2 _ _ _ rfl) ?_
        refine v_iload dX9_open_90 rfl ?_
        refine v_aload_n dX9_open_92 rfl ?_
        refine v_getI 9 10 dX9_open_93 f9_64 (hS''.1 _ _ rfl) (by decide) ?_
        rw [gI_sR]
        refine v_iastN (i) dX9_open_96 (hS''.1 _ _ rfl) (by simp only [n_lit, pk_mul, nI_add]) ⟨by omega, by omega⟩ ?_
        refine v_aload_n dX9_open_97 rfl ?_
        refine v_dup dX9_open_98 rfl ?_
        refine v_getI 9 7 dX9_open_99 f9_51 (hS''.1 _ _ rfl) (by decide) ?_
        rw [gI_sq _ _ (by decide), gI_sR, q7]
        refine v_iconst 1 dX9_open_102 (by decide) ?_
        refine v_iadd dX9_open_103 ?_
        rw [nI_1]
        refine v_putI 9 7 dX9_open_104 f9_51 (hS''.1 _ _ rfl) (by decide) ?_
        refine v_iinc 1 dX9_open_107 rfl (by decide) rfl (by decide) ?_
        refine v_goto 43 dX9_open_110 (by decide) ?_
        (rw [nI_1]; exact ks)
  have hz : nI (min (min Z.2 900) 900) = nI Z.2 := by rw [Nat.min_eq_left (by omega), Nat.min_eq_left (by omega)]
  obtain ⟨M1, hM1⟩ : ∃ M1, M1 = sI (sI (sI (sI (sR M 103 3 (some 101)) 103 4 (nI Z.2)) 103 5 0) 103 6 (-1)) 103 7 0 := ⟨_, rfl⟩
  have e1 : Sn Wpn Rop M M1 := by rw [hM1]; exact ((((Sn.rf.sr _ rfl).st _ rfl).st _ rfl).st _ rfl).st _ rfl
  have t1 : Tk M1 Z := ⟨by rw [hM1]; exact gR_ss _ _ _ _, by rw [hM1, gI_sk _ _ (by decide), gI_sk _ _ (by decide), gI_sk _ _ (by decide), gI_ss], hn, fun j hj => ⟨(e1.2.2.2.2 101 j rfl).trans (hb j hj).1, (hb j hj).2⟩⟩
  have g := loop 902 0 M1 31 rfl (by omega) e1 t1 (by rw [hM1, gI_sk _ _ (by decide), gI_sk _ _ (by decide), gI_ss]; rfl) (by rw [hM1, gI_ss]; rfl) (by rw [hM1, gI_sk _ _ (by decide), gI_ss]) (fun j hj => absurd hj (Nat.not_lt_zero _)) rfl (fun j hj => absurd hj (Nat.not_lt_zero _))
  rw [hM1] at g
  have hS' : Sh (sR M 103 3 (some 101)) := hS.sn (Sn.rf.sr (W := Wpn) (R := Rop) _ rfl) Rop_q
  refine Ct.of k9_open.1 (Nat.le_of_ble_eq_true rfl) ?_
  refine v_aload_n dX9_open_0 rfl ?_
  refine v_aload_n dX9_open_1 rfl ?_
  refine v_putR 9 3 dX9_open_2 f9_24 (by first | exact hS'.1 _ _ rfl | exact hS.1 _ _ rfl) (by decide) (by decide) ?_
  refine v_aload_n dX9_open_5 rfl ?_
  refine v_iload_n dX9_open_6 rfl ?_
  refine v_aload_n dX9_open_7 rfl ?_
  refine v_alen dX9_open_8 (by first | exact hS'.1 _ _ rfl | exact hS.1 _ _ rfl) (by decide) ?_
  refine v_cS [_, _] (cJ_min G _ (nI Z.2) (nI 900)) kJ_min dX9_open_9 l9_35 rfl (Nat.le_of_ble_eq_true rfl) (Nat.le_of_ble_eq_true rfl) ?_
  rw [nI_min Z.2 900 (by omega) (by decide)]
  refine v_sipush 900 dX9_open_12 (by decide) ?_
  refine v_cS [_, _] (cJ_min G _ (nI (min Z.2 900)) 900) kJ_min dX9_open_15 l9_35 rfl (Nat.le_of_ble_eq_true rfl) (Nat.le_of_ble_eq_true rfl) ?_
  rw [show (900 : Int32) = nI 900 from rfl, nI_min _ 900 (by omega) (by decide), hz]
  refine v_putI 9 4 dX9_open_18 f9_41 (by first | exact hS'.1 _ _ rfl | exact hS.1 _ _ rfl) (by decide) ?_
  refine v_aload_n dX9_open_21 rfl ?_
  refine v_iconst 0 dX9_open_22 (by decide) ?_
  refine v_putI 9 5 dX9_open_23 f9_45 (by first | exact hS'.1 _ _ rfl | exact hS.1 _ _ rfl) (by decide) ?_
  refine v_aload_n dX9_open_26 rfl ?_
  refine v_iconst (-1) dX9_open_27 (by decide) ?_
  refine v_putI 9 6 dX9_open_28 f9_48 (by first | exact hS'.1 _ _ rfl | exact hS.1 _ _ rfl) (by decide) ?_
  refine v_aload_n dX9_open_31 rfl ?_
  refine v_iconst 0 dX9_open_32 (by decide) ?_
  refine v_putI 9 7 dX9_open_33 f9_51 (by first | exact hS'.1 _ _ rfl | exact hS.1 _ _ rfl) (by decide) ?_
  refine v_gets (v := .ref 31) dX9_open_36 g9_54 (kT_z G (i := 31) (by decide) rfl) ?_
  refine v_astore_n dX9_open_39 rfl (by decide) ?_
  refine v_iconst 0 dX9_open_40 (by decide) ?_
  refine v_istore dX9_open_41 rfl (by decide) ?_
  exact g
end OP
