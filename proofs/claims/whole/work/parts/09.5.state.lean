/-! ===== the class: State, questions ===== -/
def Wsd (s q _k : Nat) : Bool := Nat.ble s q && Nat.ble q (s + 5)
theorem Wsd_o {s q : Nat} (h : q < s ∨ s + 5 < q) (k : Nat) : Wsd s q k = false := by
  unfold Wsd
  rcases h with h | h
  · rw [Bool.eq_false_iff.mpr (fun z => by have := Nat.le_of_ble_eq_true z; omega : ¬ Nat.ble s q = true)]; rfl
  · rw [Bool.eq_false_iff.mpr (fun z => by have := Nat.le_of_ble_eq_true z; omega : ¬ Nat.ble q (s + 5) = true), Bool.and_false]
theorem Wsd_i {s q : Nat} (h : s ≤ q ∧ q ≤ s + 5) (k : Nat) : Wsd s q k = true := by
  unfold Wsd
  rw [Nat.ble_eq_true_of_le h.1, Nat.ble_eq_true_of_le h.2]; rfl
theorem bset_cut {p : Nat → Bool} {a : Nat} : ∀ j, (∀ c, a ≤ c → p c = false) → bset (a + j) p = bset a p := by
  intro j h
  induction j with
  | zero => rfl
  | succ j ih => rw [← Nat.add_assoc, bset, h _ (by omega), ih]; simp
theorem bset_14 {p : Nat → Bool} {a : Nat} (h14 : a ≤ 14) (h : ∀ c, a ≤ c → p c = false) : bset 14 p = bset a p := by
  have := bset_cut (p := p) (a := a) (14 - a) h
  rw [show a + (14 - a) = 14 by omega] at this
  exact this
theorem cnt_cut {p : Nat → Bool} {a : Nat} : ∀ j, (∀ c, a ≤ c → p c = false) → cnt (a + j) p = cnt a p := by
  intro j h
  induction j with
  | zero => rfl
  | succ j ih => rw [← Nat.add_assoc, cnt, h _ (by omega), ih]; simp
theorem cnt_0 (p : Nat → Bool) : ∀ n, cnt (n + 1) p = (if p 0 = true then 1 else 0) + cnt n (fun i => p (i + 1)) := by
  intro n
  induction n with
  | zero => simp [cnt]
  | succ n ih =>
    rw [cnt, ih, cnt]
    omega
theorem pcf_cnt : ∀ n S, pcf n S = cnt n (fun i => S.testBit i) := by
  intro n
  induction n with
  | zero => intro S; rfl
  | succ n ih =>
    intro S
    rw [cnt_0, pcf, ih]
    congr 1
    · rw [Nat.testBit_zero]
      rcases Nat.mod_two_eq_zero_or_one S with h | h <;> simp [h]
    · congr 1
      funext i
      rw [Nat.testBit_div_two]
theorem cnt_ext {p q : Nat → Bool} : ∀ n, (∀ i, i < n → p i = q i) → cnt n p = cnt n q := by
  intro n
  induction n with
  | zero => intro _; rfl
  | succ n ih => intro h; rw [cnt, cnt, ih (fun i hi => h i (by omega)), h n (by omega)]
theorem pcn_bset {p : Nat → Bool} {n : Nat} (h14 : n ≤ 14) : pcn (bset n p) = cnt n p := by
  unfold pcn
  rw [pcf_cnt]
  have := cnt_cut (p := fun i => (bset n p).testBit i) (a := n) (14 - n) (fun c hc => testBit_big (bset_lt p n) hc)
  rw [show n + (14 - n) = 14 by omega] at this
  rw [this]
  exact cnt_ext n (fun i hi => by rw [bset_bit]; simp [hi])
theorem nt {b : Bool} (h : ¬ b = true) : b = false := by simpa using h
theorem in_big {K : Nat → Int32} (hW : WK K) {c : Nat} (hc : kn K 2 ≤ c) : (kn K 93).testBit c = false := testBit_big hW.i.2 hc
/-- what stands of a chest's truths, by lamp or by day -/
def tvI (M : mM) (s : Nat) (lamp : Bool) (c : Nat) : Int32 := if lamp then gI M (s + 3) c else gI M (s + 2) c
theorem tvI_n {M : mM} {s : Nat} {K : Nat → Int32} (h : StD M s K) (l : Bool) {c : Nat} (hc : c < kn K 2) : tvI M s l c = nI (trN K l c) := by
  cases l
  · exact (h.1 c hc).2.1
  · exact (h.1 c hc).2.2
theorem lit_eq {K : Nat → Int32} (hW : WK K) : K 94 = bI (litB K = true) := by
  rcases hW.l with h | h
  · rw [show litB K = false by unfold litB; rw [h]; rfl, h]; rfl
  · rw [show litB K = true by unfold litB; rw [h]; rfl, h]; rfl
theorem fit_eq {sd dn h : Nat} (hd : sd &&& dn = 0) : h &&& (sd ||| dn) = sd ↔ (dif sd h = 0 ∧ dn &&& h = 0) := by
  have hb : ∀ i, (sd.testBit i && dn.testBit i) = false := fun i => by rw [← Nat.testBit_and, hd, Nat.zero_testBit]
  constructor
  · intro e
    have he : ∀ i, (h.testBit i && (sd.testBit i || dn.testBit i)) = sd.testBit i := fun i => by rw [← Nat.testBit_or, ← Nat.testBit_and, e]
    constructor
    · apply Nat.eq_of_testBit_eq; intro i
      have h1 := he i; have h2 := hb i
      rw [dif_bit, Nat.zero_testBit]
      revert h1 h2
      cases h.testBit i <;> cases sd.testBit i <;> cases dn.testBit i <;> simp
    · apply Nat.eq_of_testBit_eq; intro i
      have h1 := he i; have h2 := hb i
      rw [Nat.testBit_and, Nat.zero_testBit]
      revert h1 h2
      cases h.testBit i <;> cases sd.testBit i <;> cases dn.testBit i <;> simp
  · rintro ⟨e1, e2⟩
    apply Nat.eq_of_testBit_eq; intro i
    have h1 : (sd.testBit i && !h.testBit i) = false := by rw [← dif_bit, e1, Nat.zero_testBit]
    have h2 : (dn.testBit i && h.testBit i) = false := by rw [← Nat.testBit_and, e2, Nat.zero_testBit]
    rw [Nat.testBit_and, Nat.testBit_or]
    revert h1 h2
    cases h.testBit i <;> cases sd.testBit i <;> cases dn.testBit i <;> simp
theorem fst_ntz {S : Nat} : ∀ n k, (∃ j, k ≤ j ∧ j < k + n ∧ S.testBit j = true) → fstF (fun c => S.testBit c) n k = nI (frm (fun i => S.testBit i) n k) := by
  intro n
  induction n with
  | zero => rintro k ⟨j, h1, h2, _⟩; omega
  | succ n ih =>
    rintro k ⟨j, h1, h2, h3⟩
    rw [fstF, frm]
    by_cases hk : S.testBit k = true
    · rw [if_pos hk, if_pos hk]
    · rw [if_neg hk, if_neg hk]
      refine ih (k + 1) ⟨j, ?_, by omega, h3⟩
      have : j ≠ k := fun z => hk (z ▸ h3)
      omega
theorem frm_14 {S nc : Nat} (h14 : nc ≤ 14) (hS : S < 2 ^ nc) (h0 : S ≠ 0) : frm (fun i => S.testBit i) nc 0 = ntzN S := by
  have ex : ∃ j, 0 ≤ j ∧ j < 0 + nc ∧ S.testBit j = true := by
    apply Classical.byContradiction
    intro hn
    apply h0
    exact zero_of_bits hS (fun j hj => by
      cases hb : S.testBit j
      · rfl
      · exact absurd ⟨j, by omega, by omega, hb⟩ hn)
  have a := frm_ok nc 0 ex
  obtain ⟨j, j1, j2, j3⟩ := ex
  have b := frm_ok (p := fun i => S.testBit i) 14 0 ⟨j, j1, by omega, j3⟩
  unfold ntzN
  rcases Nat.lt_trichotomy (frm (fun i => S.testBit i) nc 0) (frm (fun i => S.testBit i) 14 0) with h | h | h
  · have := b.2.2.2 _ (by omega) h
    rw [a.2.2.1] at this
    cases this
  · exact h
  · have := a.2.2.2 _ (by omega) h
    rw [b.2.2.1] at this
    cases this
/-- the first IN, by trailing zeros -/
theorem fstI_eqP {K : Nat → Int32} (h14 : kn K 2 ≤ 14) (hI : kn K 93 < 2 ^ kn K 2) : fstI K = if kn K 93 = 0 then -1 else nI (ntzN (kn K 93)) := by
  by_cases h0 : kn K 93 = 0
  · rw [if_pos h0]
    unfold fstI
    rw [h0]
    have : ∀ n k, fstF (fun c => (0 : Nat).testBit c) n k = -1 := by
      intro n
      induction n with
      | zero => intro k; rfl
      | succ n ih => intro k; rw [fstF, Nat.zero_testBit]; exact ih (k + 1)
    exact this _ _
  · rw [if_neg h0, ← frm_14 h14 hI h0]
    unfold fstI
    refine fst_ntz _ _ ?_
    apply Classical.byContradiction
    intro hn
    apply h0
    exact zero_of_bits hI (fun j hj => by
      cases hb : (kn K 93).testBit j
      · rfl
      · exact absurd ⟨j, by omega, by omega, hb⟩ hn)
theorem fstI_eq {K : Nat → Int32} (hW : WK K) : fstI K = if kn K 93 = 0 then -1 else nI (ntzN (kn K 93)) := fstI_eqP hW.p.2.1.2 hW.i.2
section C7
variable (G : mG) (M : mM)
theorem c7_isIn {s : Nat} {K : Nat → Int32} (hs : Str M s K) (hW : WK K) {c : Nat} (hc : c < 32) : Ct G Y7_isIn 0 0 0 [.ref s, .int (nI c)] M (Rv (some (.int (bI ((kn K 93).testBit c = true)))) M) NX := by
  obtain ⟨⟨s1, s2, s3, s4, s5, s6, s7, s8, s9, s10, s11⟩, d1, d2, d3, d4, d5, d6⟩ := hs
  have hin := in_lt hW.p hW.i
  have hb := bI_has (s := kn K 93) (k := c) (by omega) hc
  refine Ct.of k7_isIn.1 (Nat.le_of_ble_eq_true rfl) ?_
  refine v_aload_n dX7_isIn_0 rfl ?_
  refine v_getI 7 5 dX7_isIn_1 f7_43 (by assumption) (by decide) ?_
  rw [d3, hW.i.1]
  refine v_iload_n dX7_isIn_4 rfl ?_
  refine v_ishr dX7_isIn_5 ?_
  refine v_iconst 1 dX7_isIn_6 (by decide) ?_
  refine v_iand dX7_isIn_7 ?_
  refine v_iconst 1 dX7_isIn_8 (by decide) ?_
  refine v_icmp_ne 16 dX7_isIn_9 (by decide) (fun h9 => ?_) (fun h9 => ?_)
  · refine v_iconst 0 dX7_isIn_16 (by decide) ?_
    refine v_zret dX7_isIn_17 rfl (by first | rfl | exact bI_nb _ | assumption) ?_
    first | exact ⟨by rw [← hb, bI_f h9], rfl⟩ | exact ⟨by rw [← hb, bI_t (Decidable.not_not.mp h9)], rfl⟩
  · refine v_iconst 1 dX7_isIn_12 (by decide) ?_
    refine v_goto 17 dX7_isIn_13 (by decide) ?_
    refine v_zret dX7_isIn_17 rfl (by first | rfl | exact bI_nb _ | assumption) ?_
    first | exact ⟨by rw [← hb, bI_f h9], rfl⟩ | exact ⟨by rw [← hb, bI_t (Decidable.not_not.mp h9)], rfl⟩
theorem c7_truthBy {s : Nat} {K : Nat → Int32} (hs : Str M s K) {c : Nat} (hc : c < 14) (l : Bool) : Ct G Y7_truthBy 0 0 0 [.ref s, .int (nI c), .int (bI (l = true))] M (Rv (some (.int (tvI M s l c))) M) NX := by
  obtain ⟨⟨s1, s2, s3, s4, s5, s6, s7, s8, s9, s10, s11⟩, d1, d2, d3, d4, d5, d6⟩ := hs
  refine Ct.of k7_truthBy.1 (Nat.le_of_ble_eq_true rfl) ?_
  cases l with
  | true =>
    rw [show bI (true = true) = 1 from rfl]
    refine v_iload_n dX7_truthBy_0 rfl ?_
    refine v_if_eq 13 dX7_truthBy_1 (by decide) (fun h1 => absurd h1 (by decide)) (fun h1 => ?_)
    refine v_aload_n dX7_truthBy_4 rfl ?_
    refine v_getR 7 2 _ dX7_truthBy_5 f7_18 (by assumption) (by decide) (by assumption) ?_
    refine v_iload_n dX7_truthBy_8 rfl ?_
    refine v_ialdN (c) dX7_truthBy_9 (by assumption) (by simp only [n_lit, pk_mul, nI_add]) ⟨by omega, by omega⟩ ?_
    refine v_goto 19 dX7_truthBy_10 (by decide) ?_
    refine v_iret dX7_truthBy_19 rfl ?_
    exact ⟨rfl, rfl⟩
  | false =>
    rw [show bI (false = true) = 0 from rfl]
    refine v_iload_n dX7_truthBy_0 rfl ?_
    refine v_if_eq 13 dX7_truthBy_1 (by decide) (fun h1 => ?_) (fun h1 => absurd rfl h1)
    refine v_aload_n dX7_truthBy_13 rfl ?_
    refine v_getR 7 1 _ dX7_truthBy_14 f7_15 (by assumption) (by decide) (by assumption) ?_
    refine v_iload_n dX7_truthBy_17 rfl ?_
    refine v_ialdN (c) dX7_truthBy_18 (by assumption) (by simp only [n_lit, pk_mul, nI_add]) ⟨by omega, by omega⟩ ?_
    refine v_iret dX7_truthBy_19 rfl ?_
    exact ⟨rfl, rfl⟩
theorem c7_truth {s : Nat} {K : Nat → Int32} (hs : Str M s K) (hW : WK K) {c : Nat} (hc : c < 14) : Ct G Y7_truth 1 0 0 [.ref s, .int (nI c)] M (Rv (some (.int (tvI M s (litB K) c))) M) NX := by
  have hs0 := hs
  obtain ⟨⟨s1, s2, s3, s4, s5, s6, s7, s8, s9, s10, s11⟩, d1, d2, d3, d4, d5, d6⟩ := hs
  refine Ct.of k7_truth.1 (Nat.le_of_ble_eq_true rfl) ?_
  refine v_aload_n dX7_truth_0 rfl ?_
  refine v_iload_n dX7_truth_1 rfl ?_
  refine v_aload_n dX7_truth_2 rfl ?_
  refine v_getI 7 8 dX7_truth_3 f7_49 (by assumption) (by decide) ?_
  rw [d6, lit_eq hW]
  refine v_cV [_, _] (c7_truthBy G M hs0 hc _) k7_truthBy dX7_truth_6 l7_82 (by assumption) (by decide) rfl (Nat.le_of_ble_eq_true rfl) (Nat.le_of_ble_eq_true rfl) ?_
  refine v_iret dX7_truth_9 rfl ?_
  exact ⟨rfl, rfl⟩
theorem c7_truthN {s : Nat} {K : Nat → Int32} (hs : Str M s K) (hW : WK K) {c : Nat} (hc : c < kn K 2) : Ct G Y7_truth 1 0 0 [.ref s, .int (nI c)] M (Rv (some (.int (nI (trH K c)))) M) NX := by
  have h := c7_truth G M hs hW (c := c) (by have := hW.p.2.1.2; omega)
  rw [tvI_n hs.2 _ hc] at h
  exact h
theorem l7_holders {s : Nat} {K : Nat → Int32} (hs : Str M s K) (hW : WK K) {w : Nat} (hw : w < 10) : ∀ i c, c + i = 14 → V G Y7_holders 2 0 0 (Rv (some (.int (nI (bset 14 (inbP K w))))) M) NX 4 [some (.ref s), some (.int (nI w)), some (.int (nI (bset c (inbP K w)))), some (.int (nI c))] [] M := by
  have hs1 := hs.1.1
  intro i
  induction i with
  | zero =>
    intro c hc
    obtain rfl : c = 14 := by omega
    refine v_iload_n dX7_holders_4 rfl ?_
    refine v_bipush 14 dX7_holders_5 (by decide) ?_
    refine v_icmp_ge 43 dX7_holders_7 (by decide) (fun h7 => ?_) (fun h7 => absurd (by decide) h7)
    refine v_iload_n dX7_holders_43 rfl ?_
    refine v_iret dX7_holders_44 rfl ?_
    exact ⟨rfl, rfl⟩
  | succ i ih =>
    intro c hc
    have hn := ih (c + 1) (by omega)
    have hcon := c7_isIn G M hs hW (c := c) (by omega)
    by_cases hin : (kn K 93).testBit c = true
    · rw [bI_t hin] at hcon
      have hcn : c < kn K 2 := Nat.lt_of_not_le (fun z => by rw [in_big hW z] at hin; cases hin)
      have ht : trH K c < 1024 := trN_lt hW.p (litB K) c
      have hb := hasN (s := trH K c) (k := w) (by omega) (by omega)
      by_cases hp : (trH K c).testBit w = true
      · rw [← bset_p (p := inbP K w) (n := c) (by omega) (by rw [inbP, hin, hp]; rfl)] at hn
        refine v_iload_n dX7_holders_4 rfl ?_
        refine v_bipush 14 dX7_holders_5 (by decide) ?_
        refine v_icmp_ge 43 dX7_holders_7 (by decide) (fun h7 => absurd ((nI_leI (a := 14) (by decide) (by omega)).mp h7) (by omega)) (fun h7 => ?_)
        refine v_aload_n dX7_holders_10 rfl ?_
        refine v_iload_n dX7_holders_11 rfl ?_
        refine v_cV [_] (hcon) k7_isIn dX7_holders_12 l7_86 (by assumption) (by decide) rfl (Nat.le_of_ble_eq_true rfl) (Nat.le_of_ble_eq_true rfl) ?_
        refine v_if_eq 37 dX7_holders_15 (by decide) (fun h15 => absurd h15 (by decide)) (fun h15 => ?_)
        refine v_aload_n dX7_holders_18 rfl ?_
        refine v_iload_n dX7_holders_19 rfl ?_
        refine v_cV [_] (c7_truthN G M hs hW hcn) k7_truth dX7_holders_20 l7_90 (by assumption) (by decide) rfl (Nat.le_of_ble_eq_true rfl) (Nat.le_of_ble_eq_true rfl) ?_
        refine v_iload_n dX7_holders_23 rfl ?_
        refine v_ishr dX7_holders_24 ?_
        refine v_iconst 1 dX7_holders_25 (by decide) ?_
        refine v_iand dX7_holders_26 ?_
        refine v_iconst 1 dX7_holders_27 (by decide) ?_
        refine v_icmp_ne 37 dX7_holders_28 (by decide) (fun h28 => absurd (hb.mpr hp) h28) (fun h28 => ?_)
        refine v_iload_n dX7_holders_31 rfl ?_
        refine v_iconst 1 dX7_holders_32 (by decide) ?_
        refine v_iload_n dX7_holders_33 rfl ?_
        refine v_ishl dX7_holders_34 ?_
        refine v_ior dX7_holders_35 ?_
        refine v_istore_n dX7_holders_36 rfl (by decide) ?_
        refine v_iinc 1 dX7_holders_37 rfl (by decide) rfl (by decide) ?_
        refine v_goto 4 dX7_holders_40 (by decide) ?_
        (rw [nI_1]; exact hn)
      · rw [← bset_n (p := inbP K w) (n := c) (by omega) (by rw [inbP, hin, nt hp]; rfl), Int32.or_zero] at hn
        refine v_iload_n dX7_holders_4 rfl ?_
        refine v_bipush 14 dX7_holders_5 (by decide) ?_
        refine v_icmp_ge 43 dX7_holders_7 (by decide) (fun h7 => absurd ((nI_leI (a := 14) (by decide) (by omega)).mp h7) (by omega)) (fun h7 => ?_)
        refine v_aload_n dX7_holders_10 rfl ?_
        refine v_iload_n dX7_holders_11 rfl ?_
        refine v_cV [_] (hcon) k7_isIn dX7_holders_12 l7_86 (by assumption) (by decide) rfl (Nat.le_of_ble_eq_true rfl) (Nat.le_of_ble_eq_true rfl) ?_
        refine v_if_eq 37 dX7_holders_15 (by decide) (fun h15 => absurd h15 (by decide)) (fun h15 => ?_)
        refine v_aload_n dX7_holders_18 rfl ?_
        refine v_iload_n dX7_holders_19 rfl ?_
        refine v_cV [_] (c7_truthN G M hs hW hcn) k7_truth dX7_holders_20 l7_90 (by assumption) (by decide) rfl (Nat.le_of_ble_eq_true rfl) (Nat.le_of_ble_eq_true rfl) ?_
        refine v_iload_n dX7_holders_23 rfl ?_
        refine v_ishr dX7_holders_24 ?_
        refine v_iconst 1 dX7_holders_25 (by decide) ?_
        refine v_iand dX7_holders_26 ?_
        refine v_iconst 1 dX7_holders_27 (by decide) ?_
        refine v_icmp_ne 37 dX7_holders_28 (by decide) (fun h28 => ?_) (fun h28 => absurd (hb.mp (Decidable.not_not.mp h28)) hp)
        refine v_iinc 1 dX7_holders_37 rfl (by decide) rfl (by decide) ?_
        refine v_goto 4 dX7_holders_40 (by decide) ?_
        (rw [nI_1]; exact hn)
    · rw [bI_f hin] at hcon
      rw [← bset_n (p := inbP K w) (n := c) (by omega) (by rw [inbP, nt hin]; rfl), Int32.or_zero] at hn
      refine v_iload_n dX7_holders_4 rfl ?_
      refine v_bipush 14 dX7_holders_5 (by decide) ?_
      refine v_icmp_ge 43 dX7_holders_7 (by decide) (fun h7 => absurd ((nI_leI (a := 14) (by decide) (by omega)).mp h7) (by omega)) (fun h7 => ?_)
      refine v_aload_n dX7_holders_10 rfl ?_
      refine v_iload_n dX7_holders_11 rfl ?_
      refine v_cV [_] (hcon) k7_isIn dX7_holders_12 l7_86 (by assumption) (by decide) rfl (Nat.le_of_ble_eq_true rfl) (Nat.le_of_ble_eq_true rfl) ?_
      refine v_if_eq 37 dX7_holders_15 (by decide) (fun h15 => ?_) (fun h15 => absurd rfl h15)
      refine v_iinc 1 dX7_holders_37 rfl (by decide) rfl (by decide) ?_
      refine v_goto 4 dX7_holders_40 (by decide) ?_
      (rw [nI_1]; exact hn)
theorem c7_holders {s : Nat} {K : Nat → Int32} (hs : Str M s K) (hW : WK K) {w : Nat} (hw : w < 10) : Ct G Y7_holders 2 0 0 [.ref s, .int (nI w)] M (Rv (some (.int (nI (bset (kn K 2) (inbP K w))))) M) NX := by
  rw [← bset_14 hW.p.2.1.2 (p := inbP K w) (fun c hc => by simp [inbP, in_big hW hc])]
  refine Ct.of k7_holders.1 (Nat.le_of_ble_eq_true rfl) ?_
  refine v_iconst 0 dX7_holders_0 (by decide) ?_
  refine v_istore_n dX7_holders_1 rfl (by decide) ?_
  refine v_iconst 0 dX7_holders_2 (by decide) ?_
  refine v_istore_n dX7_holders_3 rfl (by decide) ?_
  -- at 4: .iload_n 3
  exact l7_holders G M hs hW hw 14 0 (by omega)
theorem l7_alikeTo {s : Nat} {K : Nat → Int32} (hs : Str M s K) (hW : WK K) {c : Nat} (hc : c < kn K 2) : ∀ i d, d + i = 14 → V G Y7_alikeTo 2 0 0 (Rv (some (.int (nI (bset 14 (likP K c))))) M) NX 4 [some (.ref s), some (.int (nI c)), some (.int (nI (bset d (likP K c)))), some (.int (nI d))] [] M := by
  have hs1 := hs.1.1
  have h14 := hW.p.2.1.2
  intro i
  induction i with
  | zero =>
    intro d hd
    obtain rfl : d = 14 := by omega
    refine v_iload_n dX7_alikeTo_4 rfl ?_
    refine v_bipush 14 dX7_alikeTo_5 (by decide) ?_
    refine v_icmp_ge 48 dX7_alikeTo_7 (by decide) (fun h7 => ?_) (fun h7 => absurd (by decide) h7)
    refine v_iload_n dX7_alikeTo_48 rfl ?_
    refine v_iret dX7_alikeTo_49 rfl ?_
    exact ⟨rfl, rfl⟩
  | succ i ih =>
    intro d hd
    have hn := ih (d + 1) (by omega)
    have hcon := c7_isIn G M hs hW (c := d) (by omega)
    have ht := trN_lt hW.p (litB K) c
    have ht2 := trN_lt hW.p (litB K) d
    have t1 : trH K c < 1024 := ht
    have t2 : trH K d < 1024 := ht2
    by_cases hdc : d = c
    · rw [← bset_n (p := likP K c) (n := d) (by omega) (by rw [likP, decide_eq_false (fun z => z hdc)]; rfl), Int32.or_zero] at hn
      refine v_iload_n dX7_alikeTo_4 rfl ?_
      refine v_bipush 14 dX7_alikeTo_5 (by decide) ?_
      refine v_icmp_ge 48 dX7_alikeTo_7 (by decide) (fun h7 => absurd ((nI_leI (a := 14) (by decide) (by omega)).mp h7) (by omega)) (fun h7 => ?_)
      refine v_iload_n dX7_alikeTo_10 rfl ?_
      refine v_iload_n dX7_alikeTo_11 rfl ?_
      refine v_icmp_eq 42 dX7_alikeTo_12 (by decide) (fun h12 => ?_) (fun h12 => absurd (by rw [hdc]) h12)
      refine v_iinc 1 dX7_alikeTo_42 rfl (by decide) rfl (by decide) ?_
      refine v_goto 4 dX7_alikeTo_45 (by decide) ?_
      (rw [nI_1]; exact hn)
    have h12' : ¬ nI d = nI c := fun z => hdc ((nI_eq (by omega) (by omega)).mp z)
    by_cases hin : (kn K 93).testBit d = true
    · rw [bI_t hin] at hcon
      have hcn : d < kn K 2 := Nat.lt_of_not_le (fun z => by rw [in_big hW z] at hin; cases hin)
      by_cases he : trH K d = trH K c
      · rw [← bset_p (p := likP K c) (n := d) (by omega) (by rw [likP, decide_eq_true hdc, hin, decide_eq_true he]; rfl)] at hn
        refine v_iload_n dX7_alikeTo_4 rfl ?_
        refine v_bipush 14 dX7_alikeTo_5 (by decide) ?_
        refine v_icmp_ge 48 dX7_alikeTo_7 (by decide) (fun h7 => absurd ((nI_leI (a := 14) (by decide) (by omega)).mp h7) (by omega)) (fun h7 => ?_)
        refine v_iload_n dX7_alikeTo_10 rfl ?_
        refine v_iload_n dX7_alikeTo_11 rfl ?_
        refine v_icmp_eq 42 dX7_alikeTo_12 (by decide) (fun h12 => absurd h12 h12') (fun h12 => ?_)
        refine v_aload_n dX7_alikeTo_15 rfl ?_
        refine v_iload_n dX7_alikeTo_16 rfl ?_
        refine v_cV [_] (hcon) k7_isIn dX7_alikeTo_17 l7_86 (by assumption) (by decide) rfl (Nat.le_of_ble_eq_true rfl) (Nat.le_of_ble_eq_true rfl) ?_
        refine v_if_eq 42 dX7_alikeTo_20 (by decide) (fun h20 => absurd h20 (by decide)) (fun h20 => ?_)
        refine v_aload_n dX7_alikeTo_23 rfl ?_
        refine v_iload_n dX7_alikeTo_24 rfl ?_
        refine v_cV [_] (c7_truthN G M hs hW hcn) k7_truth dX7_alikeTo_25 l7_90 (by assumption) (by decide) rfl (Nat.le_of_ble_eq_true rfl) (Nat.le_of_ble_eq_true rfl) ?_
        refine v_aload_n dX7_alikeTo_28 rfl ?_
        refine v_iload_n dX7_alikeTo_29 rfl ?_
        refine v_cV [_] (c7_truthN G M hs hW hc) k7_truth dX7_alikeTo_30 l7_90 (by assumption) (by decide) rfl (Nat.le_of_ble_eq_true rfl) (Nat.le_of_ble_eq_true rfl) ?_
        refine v_icmp_ne 42 dX7_alikeTo_33 (by decide) (fun h33 => absurd (by rw [he]) h33) (fun h33 => ?_)
        refine v_iload_n dX7_alikeTo_36 rfl ?_
        refine v_iconst 1 dX7_alikeTo_37 (by decide) ?_
        refine v_iload_n dX7_alikeTo_38 rfl ?_
        refine v_ishl dX7_alikeTo_39 ?_
        refine v_ior dX7_alikeTo_40 ?_
        refine v_istore_n dX7_alikeTo_41 rfl (by decide) ?_
        refine v_iinc 1 dX7_alikeTo_42 rfl (by decide) rfl (by decide) ?_
        refine v_goto 4 dX7_alikeTo_45 (by decide) ?_
        (rw [nI_1]; exact hn)
      · rw [← bset_n (p := likP K c) (n := d) (by omega) (by rw [likP, decide_eq_false he, Bool.and_false]), Int32.or_zero] at hn
        refine v_iload_n dX7_alikeTo_4 rfl ?_
        refine v_bipush 14 dX7_alikeTo_5 (by decide) ?_
        refine v_icmp_ge 48 dX7_alikeTo_7 (by decide) (fun h7 => absurd ((nI_leI (a := 14) (by decide) (by omega)).mp h7) (by omega)) (fun h7 => ?_)
        refine v_iload_n dX7_alikeTo_10 rfl ?_
        refine v_iload_n dX7_alikeTo_11 rfl ?_
        refine v_icmp_eq 42 dX7_alikeTo_12 (by decide) (fun h12 => absurd h12 h12') (fun h12 => ?_)
        refine v_aload_n dX7_alikeTo_15 rfl ?_
        refine v_iload_n dX7_alikeTo_16 rfl ?_
        refine v_cV [_] (hcon) k7_isIn dX7_alikeTo_17 l7_86 (by assumption) (by decide) rfl (Nat.le_of_ble_eq_true rfl) (Nat.le_of_ble_eq_true rfl) ?_
        refine v_if_eq 42 dX7_alikeTo_20 (by decide) (fun h20 => absurd h20 (by decide)) (fun h20 => ?_)
        refine v_aload_n dX7_alikeTo_23 rfl ?_
        refine v_iload_n dX7_alikeTo_24 rfl ?_
        refine v_cV [_] (c7_truthN G M hs hW hcn) k7_truth dX7_alikeTo_25 l7_90 (by assumption) (by decide) rfl (Nat.le_of_ble_eq_true rfl) (Nat.le_of_ble_eq_true rfl) ?_
        refine v_aload_n dX7_alikeTo_28 rfl ?_
        refine v_iload_n dX7_alikeTo_29 rfl ?_
        refine v_cV [_] (c7_truthN G M hs hW hc) k7_truth dX7_alikeTo_30 l7_90 (by assumption) (by decide) rfl (Nat.le_of_ble_eq_true rfl) (Nat.le_of_ble_eq_true rfl) ?_
        refine v_icmp_ne 42 dX7_alikeTo_33 (by decide) (fun h33 => ?_) (fun h33 => absurd ((nI_eq (by omega) (by omega)).mp (Decidable.not_not.mp h33)) he)
        refine v_iinc 1 dX7_alikeTo_42 rfl (by decide) rfl (by decide) ?_
        refine v_goto 4 dX7_alikeTo_45 (by decide) ?_
        (rw [nI_1]; exact hn)
    · rw [bI_f hin] at hcon
      rw [← bset_n (p := likP K c) (n := d) (by omega) (by rw [likP, nt hin, Bool.and_false]; rfl), Int32.or_zero] at hn
      refine v_iload_n dX7_alikeTo_4 rfl ?_
      refine v_bipush 14 dX7_alikeTo_5 (by decide) ?_
      refine v_icmp_ge 48 dX7_alikeTo_7 (by decide) (fun h7 => absurd ((nI_leI (a := 14) (by decide) (by omega)).mp h7) (by omega)) (fun h7 => ?_)
      refine v_iload_n dX7_alikeTo_10 rfl ?_
      refine v_iload_n dX7_alikeTo_11 rfl ?_
      refine v_icmp_eq 42 dX7_alikeTo_12 (by decide) (fun h12 => absurd h12 h12') (fun h12 => ?_)
      refine v_aload_n dX7_alikeTo_15 rfl ?_
      refine v_iload_n dX7_alikeTo_16 rfl ?_
      refine v_cV [_] (hcon) k7_isIn dX7_alikeTo_17 l7_86 (by assumption) (by decide) rfl (Nat.le_of_ble_eq_true rfl) (Nat.le_of_ble_eq_true rfl) ?_
      refine v_if_eq 42 dX7_alikeTo_20 (by decide) (fun h20 => ?_) (fun h20 => absurd rfl h20)
      refine v_iinc 1 dX7_alikeTo_42 rfl (by decide) rfl (by decide) ?_
      refine v_goto 4 dX7_alikeTo_45 (by decide) ?_
      (rw [nI_1]; exact hn)
theorem c7_alikeTo {s : Nat} {K : Nat → Int32} (hs : Str M s K) (hW : WK K) {c : Nat} (hc : c < kn K 2) : Ct G Y7_alikeTo 2 0 0 [.ref s, .int (nI c)] M (Rv (some (.int (nI (bset (kn K 2) (likP K c))))) M) NX := by
  rw [← bset_14 hW.p.2.1.2 (p := likP K c) (fun c hc => by simp [likP, in_big hW hc])]
  refine Ct.of k7_alikeTo.1 (Nat.le_of_ble_eq_true rfl) ?_
  refine v_iconst 0 dX7_alikeTo_0 (by decide) ?_
  refine v_istore_n dX7_alikeTo_1 rfl (by decide) ?_
  refine v_iconst 0 dX7_alikeTo_2 (by decide) ?_
  refine v_istore_n dX7_alikeTo_3 rfl (by decide) ?_
  -- at 4: .iload_n 3
  exact l7_alikeTo G M hs hW hc 14 0 (by omega)
def fitP (K : Nat → Int32) (d c : Nat) : Bool := (kn K 93).testBit c && decide (dif (d % 1024) (trH K c) = 0 ∧ (d / 1024) &&& trH K c = 0)
theorem ush10 {d : Nat} (h : d < 2 ^ 31) : ((nI d).toUInt32 >>> ((10 : Int32).toUInt32 &&& Int32.toUInt32 31)).toInt32 = nI (d / 1024) := pk_ushrN (by omega) 10 10 (by decide)
theorem l7_fitted {s : Nat} {K : Nat → Int32} (hs : Str M s K) (hW : WK K) {d : Nat} (hd : d < 1048576) (hdj : d % 1024 &&& d / 1024 = 0) : ∀ i c, c + i = 14 → V G Y7_fitted 2 0 0 (Rv (some (.int (nI (bset 14 (fitP K d))))) M) NX 17 [some (.ref s), some (.int (nI d)), some (.int (nI (d % 1024))), some (.int (nI (d / 1024))), some (.int (nI (bset c (fitP K d)))), some (.int (nI c))] [] M := by
  have hs1 := hs.1.1
  have h14 := hW.p.2.1.2
  intro i
  induction i with
  | zero =>
    intro c hc
    obtain rfl : c = 14 := by omega
    refine v_iload dX7_fitted_17 rfl ?_
    refine v_bipush 14 dX7_fitted_19 (by decide) ?_
    refine v_icmp_ge 62 dX7_fitted_21 (by decide) (fun h21 => ?_) (fun h21 => absurd (by decide) h21)
    refine v_iload dX7_fitted_62 rfl ?_
    refine v_iret dX7_fitted_64 rfl ?_
    exact ⟨rfl, rfl⟩
  | succ i ih =>
    intro c hc
    have hn := ih (c + 1) (by omega)
    have hcon := c7_isIn G M hs hW (c := c) (by omega)
    have ht : trH K c < 1024 := trN_lt hW.p (litB K) c
    have hle : trH K c &&& (d % 1024 ||| d / 1024) ≤ trH K c := Nat.and_le_left
    by_cases hin : (kn K 93).testBit c = true
    · rw [bI_t hin] at hcon
      have hcn : c < kn K 2 := Nat.lt_of_not_le (fun z => by rw [in_big hW z] at hin; cases hin)
      by_cases he : trH K c &&& (d % 1024 ||| d / 1024) = d % 1024
      · rw [← bset_p (p := fitP K d) (n := c) (by omega) (by rw [fitP, hin, decide_eq_true ((fit_eq hdj).mp he)]; rfl)] at hn
        refine v_iload dX7_fitted_17 rfl ?_
        refine v_bipush 14 dX7_fitted_19 (by decide) ?_
        refine v_icmp_ge 62 dX7_fitted_21 (by decide) (fun h21 => absurd ((nI_leI (a := 14) (by decide) (by omega)).mp h21) (by omega)) (fun h21 => ?_)
        refine v_aload_n dX7_fitted_24 rfl ?_
        refine v_iload dX7_fitted_25 rfl ?_
        refine v_cV [_] (hcon) k7_isIn dX7_fitted_27 l7_86 (by assumption) (by decide) rfl (Nat.le_of_ble_eq_true rfl) (Nat.le_of_ble_eq_true rfl) ?_
        refine v_if_eq 56 dX7_fitted_30 (by decide) (fun h30 => absurd h30 (by decide)) (fun h30 => ?_)
        refine v_aload_n dX7_fitted_33 rfl ?_
        refine v_iload dX7_fitted_34 rfl ?_
        refine v_cV [_] (c7_truthN G M hs hW hcn) k7_truth dX7_fitted_36 l7_90 (by assumption) (by decide) rfl (Nat.le_of_ble_eq_true rfl) (Nat.le_of_ble_eq_true rfl) ?_
        refine v_iload_n dX7_fitted_39 rfl ?_
        refine v_iload_n dX7_fitted_40 rfl ?_
        refine v_ior dX7_fitted_41 ?_
        rw [nIor]
        refine v_iand dX7_fitted_42 ?_
        rw [nIand]
        refine v_iload_n dX7_fitted_43 rfl ?_
        refine v_icmp_ne 56 dX7_fitted_44 (by decide) (fun h44 => absurd (by rw [he]) h44) (fun h44 => ?_)
        refine v_iload dX7_fitted_47 rfl ?_
        refine v_iconst 1 dX7_fitted_49 (by decide) ?_
        refine v_iload dX7_fitted_50 rfl ?_
        refine v_ishl dX7_fitted_52 ?_
        refine v_ior dX7_fitted_53 ?_
        refine v_istore dX7_fitted_54 rfl (by decide) ?_
        refine v_iinc 1 dX7_fitted_56 rfl (by decide) rfl (by decide) ?_
        refine v_goto 17 dX7_fitted_59 (by decide) ?_
        (rw [nI_1]; exact hn)
      · rw [← bset_n (p := fitP K d) (n := c) (by omega) (by rw [fitP, decide_eq_false (fun z => he ((fit_eq hdj).mpr z)), Bool.and_false]), Int32.or_zero] at hn
        refine v_iload dX7_fitted_17 rfl ?_
        refine v_bipush 14 dX7_fitted_19 (by decide) ?_
        refine v_icmp_ge 62 dX7_fitted_21 (by decide) (fun h21 => absurd ((nI_leI (a := 14) (by decide) (by omega)).mp h21) (by omega)) (fun h21 => ?_)
        refine v_aload_n dX7_fitted_24 rfl ?_
        refine v_iload dX7_fitted_25 rfl ?_
        refine v_cV [_] (hcon) k7_isIn dX7_fitted_27 l7_86 (by assumption) (by decide) rfl (Nat.le_of_ble_eq_true rfl) (Nat.le_of_ble_eq_true rfl) ?_
        refine v_if_eq 56 dX7_fitted_30 (by decide) (fun h30 => absurd h30 (by decide)) (fun h30 => ?_)
        refine v_aload_n dX7_fitted_33 rfl ?_
        refine v_iload dX7_fitted_34 rfl ?_
        refine v_cV [_] (c7_truthN G M hs hW hcn) k7_truth dX7_fitted_36 l7_90 (by assumption) (by decide) rfl (Nat.le_of_ble_eq_true rfl) (Nat.le_of_ble_eq_true rfl) ?_
        refine v_iload_n dX7_fitted_39 rfl ?_
        refine v_iload_n dX7_fitted_40 rfl ?_
        refine v_ior dX7_fitted_41 ?_
        rw [nIor]
        refine v_iand dX7_fitted_42 ?_
        rw [nIand]
        refine v_iload_n dX7_fitted_43 rfl ?_
        refine v_icmp_ne 56 dX7_fitted_44 (by decide) (fun h44 => ?_) (fun h44 => absurd ((nI_eq (by omega) (by omega)).mp (Decidable.not_not.mp h44)) he)
        refine v_iinc 1 dX7_fitted_56 rfl (by decide) rfl (by decide) ?_
        refine v_goto 17 dX7_fitted_59 (by decide) ?_
        (rw [nI_1]; exact hn)
    · rw [bI_f hin] at hcon
      rw [← bset_n (p := fitP K d) (n := c) (by omega) (by rw [fitP, nt hin]; rfl), Int32.or_zero] at hn
      refine v_iload dX7_fitted_17 rfl ?_
      refine v_bipush 14 dX7_fitted_19 (by decide) ?_
      refine v_icmp_ge 62 dX7_fitted_21 (by decide) (fun h21 => absurd ((nI_leI (a := 14) (by decide) (by omega)).mp h21) (by omega)) (fun h21 => ?_)
      refine v_aload_n dX7_fitted_24 rfl ?_
      refine v_iload dX7_fitted_25 rfl ?_
      refine v_cV [_] (hcon) k7_isIn dX7_fitted_27 l7_86 (by assumption) (by decide) rfl (Nat.le_of_ble_eq_true rfl) (Nat.le_of_ble_eq_true rfl) ?_
      refine v_if_eq 56 dX7_fitted_30 (by decide) (fun h30 => ?_) (fun h30 => absurd rfl h30)
      refine v_iinc 1 dX7_fitted_56 rfl (by decide) rfl (by decide) ?_
      refine v_goto 17 dX7_fitted_59 (by decide) ?_
      (rw [nI_1]; exact hn)
theorem c7_fitted {s : Nat} {K : Nat → Int32} (hs : Str M s K) (hW : WK K) {d : Nat} (hd : d < 1048576) (hdj : d % 1024 &&& d / 1024 = 0) : Ct G Y7_fitted 2 0 0 [.ref s, .int (nI d)] M (Rv (some (.int (nI (fitK K d)))) M) NX := by
  rw [show fitK K d = bset 14 (fitP K d) from (bset_14 hW.p.2.1.2 (p := fitP K d) (fun c hc => by simp [fitP, in_big hW hc])).symm]
  refine Ct.of k7_fitted.1 (Nat.le_of_ble_eq_true rfl) ?_
  refine v_iload_n dX7_fitted_0 rfl ?_
  refine v_sipush 1023 dX7_fitted_1 (by decide) ?_
  refine v_iand dX7_fitted_4 ?_
  rw [and1023 (by omega)]
  refine v_istore_n dX7_fitted_5 rfl (by decide) ?_
  refine v_iload_n dX7_fitted_6 rfl ?_
  refine v_bipush 10 dX7_fitted_7 (by decide) ?_
  refine v_iushr dX7_fitted_9 ?_
  rw [ush10 (by omega)]
  refine v_istore_n dX7_fitted_10 rfl (by decide) ?_
  refine v_iconst 0 dX7_fitted_11 (by decide) ?_
  refine v_istore dX7_fitted_12 rfl (by decide) ?_
  refine v_iconst 0 dX7_fitted_14 (by decide) ?_
  refine v_istore dX7_fitted_15 rfl (by decide) ?_
  exact l7_fitted G M hs hW hd hdj 14 0 (by omega)
theorem c7_toldBy {s : Nat} {K : Nat → Int32} (hs : Str M s K) (hW : WK K) {d : Nat} (hd : d < 1048576) (hdj : d % 1024 &&& d / 1024 = 0) : Ct G Y7_toldBy 3 0 0 [.ref s, .int (nI d)] M (Rv (some (.int (telK K d))) M) NX := by
  have hs1 := hs.1.1
  have hf : fitK K d < 16384 := fitN_lt hW.p.2.1.2 _ _
  have hp := pcn_le (fitK K d)
  refine Ct.of k7_toldBy.1 (Nat.le_of_ble_eq_true rfl) ?_
  have e : telK K d = if pcn (fitK K d) = 1 then nI (ntzN (fitK K d)) else -1 := rfl
  rw [e]
  by_cases h1 : pcn (fitK K d) = 1
  · rw [if_pos h1]
    have h0 : fitK K d ≠ 0 := fun z => by rw [z] at h1; exact absurd h1 (by decide)
    refine v_aload_n dX7_toldBy_0 rfl ?_
    refine v_iload_n dX7_toldBy_1 rfl ?_
    refine v_cV [_] (c7_fitted G M hs hW hd hdj) k7_fitted dX7_toldBy_2 l7_94 (by assumption) (by decide) rfl (Nat.le_of_ble_eq_true rfl) (Nat.le_of_ble_eq_true rfl) ?_
    refine v_istore_n dX7_toldBy_5 rfl (by decide) ?_
    refine v_iload_n dX7_toldBy_6 rfl ?_
    refine v_cS [_] (cJ_bitCount G M _) kJ_bitCount dX7_toldBy_7 l7_97 rfl (Nat.le_of_ble_eq_true rfl) (Nat.le_of_ble_eq_true rfl) ?_
    rw [bcI_n hf, h1]
    refine v_iconst 1 dX7_toldBy_10 (by decide) ?_
    refine v_icmp_ne 21 dX7_toldBy_11 (by decide) (fun h11 => absurd rfl h11) (fun h11 => ?_)
    refine v_iload_n dX7_toldBy_14 rfl ?_
    refine v_cS [_] (cJ_ntz G M _) kJ_ntz dX7_toldBy_15 l7_102 rfl (Nat.le_of_ble_eq_true rfl) (Nat.le_of_ble_eq_true rfl) ?_
    refine v_goto 22 dX7_toldBy_18 (by decide) ?_
    refine v_iret dX7_toldBy_22 rfl ?_
    exact ⟨by rw [ntz_n hf h0], rfl⟩
  · rw [if_neg h1]
    refine v_aload_n dX7_toldBy_0 rfl ?_
    refine v_iload_n dX7_toldBy_1 rfl ?_
    refine v_cV [_] (c7_fitted G M hs hW hd hdj) k7_fitted dX7_toldBy_2 l7_94 (by assumption) (by decide) rfl (Nat.le_of_ble_eq_true rfl) (Nat.le_of_ble_eq_true rfl) ?_
    refine v_istore_n dX7_toldBy_5 rfl (by decide) ?_
    refine v_iload_n dX7_toldBy_6 rfl ?_
    refine v_cS [_] (cJ_bitCount G M _) kJ_bitCount dX7_toldBy_7 l7_97 rfl (Nat.le_of_ble_eq_true rfl) (Nat.le_of_ble_eq_true rfl) ?_
    rw [bcI_n hf]
    refine v_iconst 1 dX7_toldBy_10 (by decide) ?_
    refine v_icmp_ne 21 dX7_toldBy_11 (by decide) (fun h11 => ?_) (fun h11 => absurd ((nI_eq (b := 1) (by omega) (by decide)).mp (Decidable.not_not.mp h11)) h1)
    refine v_iconst (-1) dX7_toldBy_21 (by decide) ?_
    refine v_iret dX7_toldBy_22 rfl ?_
    exact ⟨rfl, rfl⟩
theorem c7_firstIn {s : Nat} {K : Nat → Int32} (hs : Str M s K) (hW : WK K) : Ct G Y7_firstIn 1 0 0 [.ref s] M (Rv (some (.int (fstI K))) M) NX := by
  obtain ⟨⟨s1, s2, s3, s4, s5, s6, s7, s8, s9, s10, s11⟩, d1, d2, d3, d4, d5, d6⟩ := hs
  have hin := in_lt hW.p hW.i
  rw [fstI_eq hW]
  refine Ct.of k7_firstIn.1 (Nat.le_of_ble_eq_true rfl) ?_
  by_cases h0 : kn K 93 = 0
  · rw [if_pos h0]
    refine v_aload_n dX7_firstIn_0 rfl ?_
    refine v_getI 7 5 dX7_firstIn_1 f7_43 (by assumption) (by decide) ?_
    rw [d3, hW.i.1, h0]
    refine v_if_ne 11 dX7_firstIn_4 (by decide) (fun h4 => absurd rfl h4) (fun h4 => ?_)
    refine v_iconst (-1) dX7_firstIn_7 (by decide) ?_
    refine v_goto 18 dX7_firstIn_8 (by decide) ?_
    refine v_iret dX7_firstIn_18 rfl ?_
    exact ⟨rfl, rfl⟩
  · rw [if_neg h0]
    refine v_aload_n dX7_firstIn_0 rfl ?_
    refine v_getI 7 5 dX7_firstIn_1 f7_43 (by assumption) (by decide) ?_
    rw [d3, hW.i.1]
    refine v_if_ne 11 dX7_firstIn_4 (by decide) (fun h4 => ?_) (fun h4 => absurd ((nI0 (by omega)).mp (Decidable.not_not.mp h4)) h0)
    refine v_aload_n dX7_firstIn_11 rfl ?_
    refine v_getI 7 5 dX7_firstIn_12 f7_43 (by assumption) (by decide) ?_
    rw [d3, hW.i.1]
    refine v_cS [_] (cJ_ntz G M _) kJ_ntz dX7_firstIn_15 l7_102 rfl (Nat.le_of_ble_eq_true rfl) (Nat.le_of_ble_eq_true rfl) ?_
    refine v_iret dX7_firstIn_18 rfl ?_
    exact ⟨by rw [ntz_n hin h0], rfl⟩
theorem c7_markOf {s : Nat} {K : Nat → Int32} (hs : Str M s K) (hW : WK K) {c m : Nat} (hc : c < kn K 2) (hm : m < kn K 1) : Ct G Y7_markOf 0 0 0 [.ref s, .int (nI c), .int (nI m)] M (Rv (some (.int (K (9 + 6 * c + m)))) M) NX := by
  obtain ⟨⟨s1, s2, s3, s4, s5, s6, s7, s8, s9, s10, s11⟩, d1, d2, d3, d4, d5, d6⟩ := hs
  have h14 := hW.p.2.1.2
  have h6 := hW.p.1.2.2
  have hb := hW.2.2.1.1
  have hnb : ∀ m, m < 6 → nb (cur K) (6 * c + m) ≤ 9 := fun m hm => (hb _ (by omega)).2
  have hl := pkR_lt c hnb (kn K 1) h6
  have hl2 : pkR (cur K) c (kn K 1) < 2 ^ 24 := Nat.lt_of_lt_of_le hl (show 16 ^ kn K 1 ≤ 16 ^ 6 from Nat.pow_le_pow_right (by decide) h6)
  have ev : nI (nb (cur K) (6 * c + m)) = K (9 + 6 * c + m) := by
    rw [← (hb (6 * c + m) (by omega)).1]
    unfold cur
    exact congrArg K (by omega)
  refine Ct.of k7_markOf.1 (Nat.le_of_ble_eq_true rfl) ?_
  refine v_aload_n dX7_markOf_0 rfl ?_
  refine v_getR 7 0 _ dX7_markOf_1 f7_9 (by assumption) (by decide) (by assumption) ?_
  refine v_iload_n dX7_markOf_4 rfl ?_
  refine v_ialdN (c) dX7_markOf_5 (by assumption) (by simp only [n_lit, pk_mul, nI_add]) ⟨by omega, by omega⟩ ?_
  rw [(d1 c hc).1]
  refine v_iconst 4 dX7_markOf_6 (by decide) ?_
  refine v_iload_n dX7_markOf_7 rfl ?_
  refine v_imul dX7_markOf_8 ?_
  refine v_ishr dX7_markOf_9 ?_
  refine v_bipush 15 dX7_markOf_10 (by decide) ?_
  refine v_iand dX7_markOf_12 ?_
  rw [row_at hl2 (by omega), pkR_at c hnb (kn K 1) h6 hm, ev]
  refine v_iret dX7_markOf_13 rfl ?_
  exact ⟨rfl, rfl⟩
end C7
