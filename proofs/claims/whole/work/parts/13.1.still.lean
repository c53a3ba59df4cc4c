/-! ===== the class: Maker, who is still alike ===== -/
def alG (K : Nat → Int32) (f : Nat → Int32) (Q : Nat → Bool) : Nat := bset (kn K 2) (fun c => (kn K 93).testBit c && (List.range (kn K 3)).all (fun w => !Q w || ((trH K c).testBit w == wt K f (-1) w)))
theorem alG_bit {K f : Nat → Int32} {Q : Nat → Bool} {c : Nat} : (alG K f Q).testBit c = true ↔ (c < kn K 2 ∧ (kn K 93).testBit c = true ∧ ∀ w, w < kn K 3 → Q w = true → (trH K c).testBit w = wt K f (-1) w) := by
  unfold alG
  rw [bset_bit, Bool.and_eq_true, decide_eq_true_eq, Bool.and_eq_true, List.all_eq_true]
  constructor
  · rintro ⟨h1, h2, h3⟩
    refine ⟨h1, h2, fun w hw hq => ?_⟩
    have := h3 w (List.mem_range.mpr hw)
    rw [hq] at this
    simpa using this
  · rintro ⟨h1, h2, h3⟩
    refine ⟨h1, h2, fun w hw => ?_⟩
    cases hq : Q w
    · rfl
    · rw [h3 w (List.mem_range.mp hw) hq]; simp
theorem alG_eq {K f g : Nat → Int32} {Q Q' : Nat → Bool} (hQ : ∀ w, w < kn K 3 → Q w = Q' w) (hf : ∀ w, w < kn K 3 → Q w = true → wt K f (-1) w = wt K g (-1) w) : alG K f Q = alG K g Q' := by
  apply Nat.eq_of_testBit_eq; intro c
  apply Bool.eq_iff_iff.mpr
  rw [alG_bit, alG_bit]
  constructor
  · rintro ⟨h1, h2, h3⟩
    exact ⟨h1, h2, fun w hw hq => by rw [h3 w hw (by rw [hQ w hw]; exact hq), hf w hw (by rw [hQ w hw]; exact hq)]⟩
  · rintro ⟨h1, h2, h3⟩
    exact ⟨h1, h2, fun w hw hq => by rw [h3 w hw (by rw [← hQ w hw]; exact hq), hf w hw hq]⟩
theorem alG_0 {K f : Nat → Int32} {Q Q' : Nat → Bool} (h : alG K f Q = 0) (hQ : ∀ w, w < kn K 3 → Q w = true → Q' w = true) : alG K f Q' = 0 := by
  apply Nat.eq_of_testBit_eq; intro c
  rw [Nat.zero_testBit]
  refine nt (fun z => ?_)
  obtain ⟨h1, h2, h3⟩ := alG_bit.mp z
  have : (alG K f Q).testBit c = true := alG_bit.mpr ⟨h1, h2, fun w hw hq => h3 w hw (hQ w hw hq)⟩
  rw [h, Nat.zero_testBit] at this
  cases this
theorem alG_st {K f : Nat → Int32} {Q Q' : Nat → Bool} {w : Nat} (hw : w < kn K 3) (hQ : ∀ v, v < kn K 3 → (Q' v = true ↔ (Q v = true ∨ v = w))) : (wt K f (-1) w = true → alG K f Q &&& bset (kn K 2) (inbP K w) = alG K f Q') ∧ (wt K f (-1) w = false → dif (alG K f Q) (bset (kn K 2) (inbP K w)) = alG K f Q') := by
  constructor
  · intro ht
    apply Nat.eq_of_testBit_eq; intro c
    apply Bool.eq_iff_iff.mpr
    rw [Nat.testBit_and, Bool.and_eq_true, alG_bit, alG_bit, bset_bit, Bool.and_eq_true, decide_eq_true_eq]
    unfold inbP
    rw [Bool.and_eq_true]
    constructor
    · rintro ⟨⟨h1, h2, h3⟩, h4, h5, h6⟩
      refine ⟨h1, h2, fun v hv hq => ?_⟩
      rcases (hQ v hv).mp hq with h | h
      · exact h3 v hv h
      · subst h; rw [h6, ht]
    · rintro ⟨h1, h2, h3⟩
      exact ⟨⟨h1, h2, fun v hv hq => h3 v hv ((hQ v hv).mpr (Or.inl hq))⟩, h1, h2, (h3 w hw ((hQ w hw).mpr (Or.inr rfl))).trans ht⟩
  · intro ht
    apply Nat.eq_of_testBit_eq; intro c
    apply Bool.eq_iff_iff.mpr
    rw [dif_bit, Bool.and_eq_true, alG_bit, alG_bit, bset_bit]
    unfold inbP
    constructor
    · rintro ⟨⟨h1, h2, h3⟩, h4⟩
      refine ⟨h1, h2, fun v hv hq => ?_⟩
      rcases (hQ v hv).mp hq with h | h
      · exact h3 v hv h
      · subst h
        rw [decide_eq_true h1, h2, Bool.true_and, Bool.true_and] at h4
        rw [ht]
        cases hb : (trH K c).testBit v
        · rfl
        · rw [hb] at h4; cases h4
    · rintro ⟨h1, h2, h3⟩
      refine ⟨⟨h1, h2, fun v hv hq => h3 v hv ((hQ v hv).mpr (Or.inl hq))⟩, ?_⟩
      rw [(h3 w hw ((hQ w hw).mpr (Or.inr rfl))).trans ht, Bool.and_false, Bool.and_false]
      rfl
theorem nwF_iff {K : Nat → Int32} {S : Nat} : ∀ i c, c + i = kn K 2 → (nwF K S i c = true ↔ ∀ d, c ≤ d → d < kn K 2 → ¬ ((kn K 93).testBit d = true ∧ trH K d = S)) := by
  intro i
  induction i with
  | zero => intro c hc; exact ⟨fun _ d h1 h2 => by omega, fun _ => rfl⟩
  | succ i ih =>
    intro c hc
    rw [show nwF K S (i + 1) c = if (kn K 93).testBit c = true ∧ trH K c = S then false else nwF K S i (c + 1) from rfl]
    by_cases h : (kn K 93).testBit c = true ∧ trH K c = S
    · rw [if_pos h]
      exact ⟨fun z => absurd z (by decide), fun z => absurd h (z c (Nat.le_refl _) (by omega))⟩
    · rw [if_neg h, ih (c + 1) (by omega)]
      constructor
      · intro hh d h1 h2
        by_cases e : d = c
        · subst e; exact h
        · exact hh d (by omega) h2
      · intro hh d h1 h2; exact hh d (by omega) h2
theorem alG_n {K f : Nat → Int32} {Q : Nat → Bool} (hQ : ∀ w, w < kn K 3 → Q w = true) : alG K f Q = 0 ↔ nwB K f = true := by
  unfold nwB
  rw [nwF_iff (kn K 2) 0 (by omega)]
  have key : ∀ c, (trH K c = wset K f (-1)) ↔ ∀ w, w < kn K 3 → (trH K c).testBit w = wt K f (-1) w := by
    intro c
    have e : trH K c = wset K (lkv K (kn K 4) (litB K) c) (nI c) := rfl
    constructor
    · intro h w hw
      rw [h]
      unfold wset
      rw [bset_bit, decide_eq_true hw, Bool.true_and]
    · intro h
      apply Nat.eq_of_testBit_eq; intro w
      by_cases hw : w < kn K 3
      · rw [h w hw]
        unfold wset
        rw [bset_bit, decide_eq_true hw, Bool.true_and]
      · rw [e]
        unfold wset
        rw [bset_bit, bset_bit, decide_eq_false hw, Bool.false_and, Bool.false_and]
  constructor
  · rintro h d _ h2 ⟨h3, h4⟩
    have : (alG K f Q).testBit d = true := alG_bit.mpr ⟨h2, h3, fun w hw _ => (key d).mp h4 w hw⟩
    rw [h, Nat.zero_testBit] at this
    cases this
  · intro h
    apply Nat.eq_of_testBit_eq; intro c
    rw [Nat.zero_testBit]
    refine nt (fun z => ?_)
    obtain ⟨h1, h2, h3⟩ := alG_bit.mp z
    exact h c (Nat.zero_le _) h1 ⟨h2, (key c).mpr (fun w hw => h3 w hw (hQ w hw))⟩
theorem alG_lt {K f : Nat → Int32} {Q : Nat → Bool} (h14 : kn K 2 ≤ 14) : alG K f Q < 16384 := Nat.lt_of_lt_of_le (bset_lt _ _) (show 2 ^ kn K 2 ≤ 2 ^ 14 from Nat.pow_le_pow_right (by omega) h14)
def Ap4 (p cd : Nat) : Prop := Apt p cd 209 214
/-- what make has set up -/
def MkC (M : mM) (p cd n : Nat) (K : Nat → Int32) (rd : Nat) (l1 : Nat → Nat) : Prop := Sh M ∧ gR M 209 3 = some p ∧ Plr M p cd n K ∧ Rdr M p K rd l1 ∧ (∀ w, w < kn K 3 → gI M 214 w = nI (bset (kn K 2) (inbP K w))) ∧ gI M 210 2 = nI (kn K 1) ∧ gI M 210 3 = -1
def Wmk (q _k : Nat) : Bool := Nat.beq q 211 || Nat.beq q 212
theorem Wmk_o {q : Nat} (h : q < 211 ∨ 212 < q) (k : Nat) : Wmk q k = false := by
  unfold Wmk
  rw [nbeq_f (show q ≠ 211 by omega), nbeq_f (show q ≠ 212 by omega)]
  rfl
theorem MkC.sm {M M' : mM} {p cd n rd : Nat} {K : Nat → Int32} {l1 : Nat → Nat} (h : MkC M p cd n K rd l1) (ha : Ap4 p cd) (e : Sm Wmk M M') : MkC M' p cd n K rd l1 := by
  obtain ⟨h1, h2, h3, h4, h5, h6, h7⟩ := h
  have o : ∀ q, (p ≤ q ∧ q ≤ p + 6) ∨ q = cd → gI M' q = gI M q := fun q hq => e.row (fun k => Wmk_o (by have := ha q hq; omega) k)
  refine ⟨h1.sm e, by rw [e.2.2.2.1]; exact h2, h3.mv e.2.1 e.2.2.2.1 (by rw [e.2.2.1]) o, ?_, fun w hw => by rw [e.2.2.2.2 214 w rfl]; exact h5 w hw, by rw [e.2.2.2.2 210 2 rfl]; exact h6, by rw [e.2.2.2.2 210 3 rfl]; exact h7⟩
  unfold Rdr at h4 ⊢
  rw [o p (Or.inl ⟨by omega, by omega⟩), o (p + 4) (Or.inl ⟨by omega, by omega⟩)]
  exact h4
def Qk (l1 : Nat → Nat) (k w : Nat) : Bool := decide (l1 w < k)
def Qw (l1 : Nat → Nat) (k w v : Nat) : Bool := decide (l1 v < k ∨ (l1 v = k ∧ v < w))
theorem nIs1 {a b : Nat} (ha : a < 2 ^ 31) (hb : b < 2 ^ 31) : nI a - 1 = nI b - 1 ↔ a = b := by
  constructor
  · intro h
    have h2 := congrArg (fun x : Int32 => x + 1) h
    simp only [Int32.sub_add_cancel] at h2
    exact (nI_eq ha hb).mp h2
  · intro h; rw [h]
theorem sw_st {M M' : mM} (h : Sm (Wst 210) M M') : Sm Wmk M M' := h.wk (fun q k z => by
  simp only [Wmk, Wst, Bool.or_eq_false_iff] at z ⊢
  exact z.2)
section M1
variable (G : mG) (M : mM)
theorem l2_still {p cd n rd : Nat} {K : Nat → Int32} {l1 : Nat → Nat} (hC : MkC M p cd n K rd l1) (hW : WK K) (ha : Ap4 p cd) {k al : Nat} (hk : k ≤ 6) (x : Int32) (hx : x = nI k - 1) : ∀ i w M', w + i = kn K 3 → Sm (Wst 210) M M' → V G Y2_stillAlike 4 0 0 (Rs (some (.int (nI (alG K (gI M 211) (Qk l1 (k + 1)))))) (Sm (Wst 210) M)) NX 5 [some (.ref 209), some (.int x), some (.int (nI al)), some (.int (nI (alG K (gI M 211) (Qw l1 k w)))), some (.int (nI w))] [] M' := by
  have h14 := hW.p.2.1.2
  have h10 := hW.p.2.2.1.2
  have h6 := hW.p.1.2.2
  intro i
  induction i with
  | zero =>
    intro w M' hw hM
    have hC' := hC.sm ha (sw_st hM)
    have hS' := hC'.1
    have hr := hC'.2.1
    obtain ⟨⟨p1, p2, p3, p4, p5, p6, p7, p8, p9, p10, p11, p12, p13, p14⟩, ⟨e1, e2, e3, e4, e5, e6, e7⟩, g2, g3, g4, g5, g6, g7⟩ := hC'.2.2.1
    obtain rfl : w = kn K 3 := by omega
    rw [show alG K (gI M 211) (Qw l1 k (kn K 3)) = alG K (gI M 211) (Qk l1 (k + 1)) from alG_eq (fun v hv => by
      unfold Qw Qk
      exact decide_eq_decide.mpr (by omega)) (fun _ _ _ => rfl)]
    generalize alG K (gI M 211) (Qk l1 (k + 1)) = A at *
    refine v_iload dX2_stillAlike_5 rfl ?_
    refine v_aload_n dX2_stillAlike_7 rfl ?_
    refine v_getR 2 3 _ dX2_stillAlike_8 f2_28 (by first | exact p1 | exact p5 | exact hS'.1 _ _ rfl | exact hS.1 _ _ rfl | assumption) (by decide) (by first | exact hr | exact p10 | exact hS'.2 _ _ _ rfl | exact hS.2 _ _ _ rfl | assumption) ?_
    refine v_getI 4 4 dX2_stillAlike_11 f2_32 (by first | exact p1 | exact p5 | exact hS'.1 _ _ rfl | exact hS.1 _ _ rfl | assumption) (by decide) ?_
    rw [e4, hW.p.2.2.1.1]
    refine v_icmp_ge 79 dX2_stillAlike_14 (by decide) (fun h14 => ?_) (fun h14 => absurd (nI_le (Nat.le_refl _) (by omega)) h14)
    refine v_iload_n dX2_stillAlike_79 rfl ?_
    refine v_iret dX2_stillAlike_80 rfl ?_
    exact ⟨rfl, hM⟩
  | succ i ih =>
    intro w M' hw hM
    have hC' := hC.sm ha (sw_st hM)
    have hS' := hC'.1
    have hr := hC'.2.1
    have hp := hC'.2.2.1
    have hd := hC'.2.2.2.1.2.2.2 w (by omega)
    have hh := hC'.2.2.2.2.1 w (by omega)
    obtain ⟨⟨p1, p2, p3, p4, p5, p6, p7, p8, p9, p10, p11, p12, p13, p14⟩, ⟨e1, e2, e3, e4, e5, e6, e7⟩, g2, g3, g4, g5, g6, g7⟩ := hC'.2.2.1
    have hal := alG_lt (K := K) (f := gI M 211) (Q := Qw l1 k w) h14
    have hn := fun M' => ih (w + 1) M' (by omega)
    by_cases h0 : alG K (gI M 211) (Qw l1 k w) = 0
    · rw [h0, alG_0 h0 (Q' := Qk l1 (k + 1)) (fun v hv hq => by
        unfold Qw at hq; unfold Qk
        rw [decide_eq_true_eq] at hq ⊢
        omega)]
      refine v_iload dX2_stillAlike_5 rfl ?_
      refine v_aload_n dX2_stillAlike_7 rfl ?_
      refine v_getR 2 3 _ dX2_stillAlike_8 f2_28 (by first | exact p1 | exact p5 | exact hS'.1 _ _ rfl | exact hS.1 _ _ rfl | assumption) (by decide) (by first | exact hr | exact p10 | exact hS'.2 _ _ _ rfl | exact hS.2 _ _ _ rfl | assumption) ?_
      refine v_getI 4 4 dX2_stillAlike_11 f2_32 (by first | exact p1 | exact p5 | exact hS'.1 _ _ rfl | exact hS.1 _ _ rfl | assumption) (by decide) ?_
      rw [e4, hW.p.2.2.1.1]
      refine v_icmp_ge 79 dX2_stillAlike_14 (by decide) (fun h14 => absurd ((nI_leI (by omega) (by omega)).mp h14) (by omega)) (fun h14 => ?_)
      refine v_iload_n dX2_stillAlike_17 rfl ?_
      refine v_if_eq 79 dX2_stillAlike_18 (by decide) (fun h18 => ?_) (fun h18 => absurd rfl h18)
      refine v_iload_n dX2_stillAlike_79 rfl ?_
      refine v_iret dX2_stillAlike_80 rfl ?_
      exact ⟨rfl, hM⟩
    · by_cases hl : l1 w = k
      · have hRk : RkSh M' 210 := ⟨hS'.1 _ _ rfl, hS'.1 _ _ rfl, hS'.1 _ _ rfl, hS'.2 _ _ _ rfl, hS'.2 _ _ _ rfl⟩
        have hRd : RkD M' 210 (kn K 1) (gI M 211) (-1) := ⟨hC'.2.2.2.2.2.1, hC'.2.2.2.2.2.2, fun m hm => hM.2.2.2.2 211 m rfl⟩
        have hcon := c5_isTrue G M' hRk hRd hW.p hp (fun q hq => by have := ha q hq; omega) (w := w) (by omega)
        obtain ⟨s1, s2⟩ := alG_st (K := K) (f := gI M 211) (Q := Qw l1 k w) (Q' := Qw l1 k (w + 1)) (w := w) (by omega) (fun v hv => by
          unfold Qw
          rw [decide_eq_true_eq, decide_eq_true_eq]
          by_cases e : v = w
          · subst e
            exact ⟨fun _ => Or.inr rfl, fun _ => Or.inr ⟨hl, by omega⟩⟩
          · constructor
            · rintro (h | h)
              · exact Or.inl (Or.inl h)
              · exact Or.inl (Or.inr ⟨h.1, by omega⟩)
            · rintro ((h | h) | h)
              · exact Or.inl h
              · exact Or.inr ⟨h.1, by omega⟩
              · exact absurd h e)
        have elr : gI M' (p + 4) w = x := by rw [hd.1, hl, hx]
        cases ht : wt K (gI M 211) (-1) w with
        | true =>
          rw [← s1 ht] at hn
          rw [bI_t ht] at hcon
          generalize alG K (gI M 211) (Qk l1 (k + 1)) = A at *
          generalize alG K (gI M 211) (Qw l1 k w) = B at *
          refine v_iload dX2_stillAlike_5 rfl ?_
          refine v_aload_n dX2_stillAlike_7 rfl ?_
          refine v_getR 2 3 _ dX2_stillAlike_8 f2_28 (by first | exact p1 | exact p5 | exact hS'.1 _ _ rfl | exact hS.1 _ _ rfl | assumption) (by decide) (by first | exact hr | exact p10 | exact hS'.2 _ _ _ rfl | exact hS.2 _ _ _ rfl | assumption) ?_
          refine v_getI 4 4 dX2_stillAlike_11 f2_32 (by first | exact p1 | exact p5 | exact hS'.1 _ _ rfl | exact hS.1 _ _ rfl | assumption) (by decide) ?_
          rw [e4, hW.p.2.2.1.1]
          refine v_icmp_ge 79 dX2_stillAlike_14 (by decide) (fun h14 => absurd ((nI_leI (by omega) (by omega)).mp h14) (by omega)) (fun h14 => ?_)
          refine v_iload_n dX2_stillAlike_17 rfl ?_
          refine v_if_eq 79 dX2_stillAlike_18 (by decide) (fun h18 => absurd ((nI0 (by omega)).mp h18) h0) (fun h18 => ?_)
          refine v_aload_n dX2_stillAlike_21 rfl ?_
          refine v_getR 2 3 _ dX2_stillAlike_22 f2_28 (by first | exact p1 | exact p5 | exact hS'.1 _ _ rfl | exact hS.1 _ _ rfl | assumption) (by decide) (by first | exact hr | exact p10 | exact hS'.2 _ _ _ rfl | exact hS.2 _ _ _ rfl | assumption) ?_
          refine v_getR 4 13 _ dX2_stillAlike_25 f2_78 (by first | exact p1 | exact p5 | exact hS'.1 _ _ rfl | exact hS.1 _ _ rfl | assumption) (by decide) (by first | exact hr | exact p10 | exact hS'.2 _ _ _ rfl | exact hS.2 _ _ _ rfl | assumption) ?_
          refine v_iload dX2_stillAlike_28 rfl ?_
          refine v_ialdN (w) dX2_stillAlike_30 (by first | exact p1 | exact p5 | exact hS'.1 _ _ rfl | exact hS.1 _ _ rfl | assumption) (by simp only [n_lit, pk_mul, nI_add]) ⟨by omega, by omega⟩ ?_
          refine v_iload_n dX2_stillAlike_31 rfl ?_
          rw [elr]
          refine v_icmp_ne 73 dX2_stillAlike_32 (by decide) (fun h32 => absurd rfl h32) (fun h32 => ?_)
          refine v_iload_n dX2_stillAlike_35 rfl ?_
          refine v_aload_n dX2_stillAlike_36 rfl ?_
          refine v_getR 2 0 _ dX2_stillAlike_37 f2_12 (by first | exact p1 | exact p5 | exact hS'.1 _ _ rfl | exact hS.1 _ _ rfl | assumption) (by decide) (by first | exact hr | exact p10 | exact hS'.2 _ _ _ rfl | exact hS.2 _ _ _ rfl | assumption) ?_
          refine v_aload_n dX2_stillAlike_40 rfl ?_
          refine v_getR 2 3 _ dX2_stillAlike_41 f2_28 (by first | exact p1 | exact p5 | exact hS'.1 _ _ rfl | exact hS.1 _ _ rfl | assumption) (by decide) (by first | exact hr | exact p10 | exact hS'.2 _ _ _ rfl | exact hS.2 _ _ _ rfl | assumption) ?_
          refine v_iload dX2_stillAlike_44 rfl ?_
          skip
          refine v_scV [_, _] hcon k5_isTrue dX2_stillAlike_46 l2_81 (hS'.1 210 _ rfl) (by decide) rfl (Nat.le_of_ble_eq_true rfl) (Nat.le_of_ble_eq_true rfl) (fun M2 hM2 => ?_)
          have hS2 := hS'.sm hM2
          have hh2 := (hM2.2.2.2.2 214 w rfl).trans hh
          refine v_if_eq 62 dX2_stillAlike_49 (by decide) (fun h49 => absurd h49 (by decide)) (fun h49 => ?_)
          refine v_aload_n dX2_stillAlike_52 rfl ?_
          refine v_getR 2 2 _ dX2_stillAlike_53 f2_22 (hS2.1 _ _ rfl) (by decide) (hS2.2 _ _ _ rfl) ?_
          refine v_iload dX2_stillAlike_56 rfl ?_
          refine v_ialdN (w) dX2_stillAlike_58 (hS2.1 _ _ rfl) (by simp only [n_lit, pk_mul, nI_add]) ⟨by omega, by omega⟩ ?_
          rw [hh2]
          refine v_goto 71 dX2_stillAlike_59 (by decide) ?_
          refine v_iand dX2_stillAlike_71 ?_
          rw [nIand]
          refine v_istore_n dX2_stillAlike_72 rfl (by decide) ?_
          refine v_iinc 1 dX2_stillAlike_73 rfl (by decide) rfl (by decide) ?_
          refine v_goto 5 dX2_stillAlike_76 (by decide) ?_
          (rw [nI_1]; exact hn M2 (hM.tr hM2))
        | false =>
          rw [← s2 ht] at hn
          rw [bI_f (by rw [ht]; decide)] at hcon
          generalize alG K (gI M 211) (Qk l1 (k + 1)) = A at *
          generalize alG K (gI M 211) (Qw l1 k w) = B at *
          refine v_iload dX2_stillAlike_5 rfl ?_
          refine v_aload_n dX2_stillAlike_7 rfl ?_
          refine v_getR 2 3 _ dX2_stillAlike_8 f2_28 (by first | exact p1 | exact p5 | exact hS'.1 _ _ rfl | exact hS.1 _ _ rfl | assumption) (by decide) (by first | exact hr | exact p10 | exact hS'.2 _ _ _ rfl | exact hS.2 _ _ _ rfl | assumption) ?_
          refine v_getI 4 4 dX2_stillAlike_11 f2_32 (by first | exact p1 | exact p5 | exact hS'.1 _ _ rfl | exact hS.1 _ _ rfl | assumption) (by decide) ?_
          rw [e4, hW.p.2.2.1.1]
          refine v_icmp_ge 79 dX2_stillAlike_14 (by decide) (fun h14 => absurd ((nI_leI (by omega) (by omega)).mp h14) (by omega)) (fun h14 => ?_)
          refine v_iload_n dX2_stillAlike_17 rfl ?_
          refine v_if_eq 79 dX2_stillAlike_18 (by decide) (fun h18 => absurd ((nI0 (by omega)).mp h18) h0) (fun h18 => ?_)
          refine v_aload_n dX2_stillAlike_21 rfl ?_
          refine v_getR 2 3 _ dX2_stillAlike_22 f2_28 (by first | exact p1 | exact p5 | exact hS'.1 _ _ rfl | exact hS.1 _ _ rfl | assumption) (by decide) (by first | exact hr | exact p10 | exact hS'.2 _ _ _ rfl | exact hS.2 _ _ _ rfl | assumption) ?_
          refine v_getR 4 13 _ dX2_stillAlike_25 f2_78 (by first | exact p1 | exact p5 | exact hS'.1 _ _ rfl | exact hS.1 _ _ rfl | assumption) (by decide) (by first | exact hr | exact p10 | exact hS'.2 _ _ _ rfl | exact hS.2 _ _ _ rfl | assumption) ?_
          refine v_iload dX2_stillAlike_28 rfl ?_
          refine v_ialdN (w) dX2_stillAlike_30 (by first | exact p1 | exact p5 | exact hS'.1 _ _ rfl | exact hS.1 _ _ rfl | assumption) (by simp only [n_lit, pk_mul, nI_add]) ⟨by omega, by omega⟩ ?_
          refine v_iload_n dX2_stillAlike_31 rfl ?_
          rw [elr]
          refine v_icmp_ne 73 dX2_stillAlike_32 (by decide) (fun h32 => absurd rfl h32) (fun h32 => ?_)
          refine v_iload_n dX2_stillAlike_35 rfl ?_
          refine v_aload_n dX2_stillAlike_36 rfl ?_
          refine v_getR 2 0 _ dX2_stillAlike_37 f2_12 (by first | exact p1 | exact p5 | exact hS'.1 _ _ rfl | exact hS.1 _ _ rfl | assumption) (by decide) (by first | exact hr | exact p10 | exact hS'.2 _ _ _ rfl | exact hS.2 _ _ _ rfl | assumption) ?_
          refine v_aload_n dX2_stillAlike_40 rfl ?_
          refine v_getR 2 3 _ dX2_stillAlike_41 f2_28 (by first | exact p1 | exact p5 | exact hS'.1 _ _ rfl | exact hS.1 _ _ rfl | assumption) (by decide) (by first | exact hr | exact p10 | exact hS'.2 _ _ _ rfl | exact hS.2 _ _ _ rfl | assumption) ?_
          refine v_iload dX2_stillAlike_44 rfl ?_
          skip
          refine v_scV [_, _] hcon k5_isTrue dX2_stillAlike_46 l2_81 (hS'.1 210 _ rfl) (by decide) rfl (Nat.le_of_ble_eq_true rfl) (Nat.le_of_ble_eq_true rfl) (fun M2 hM2 => ?_)
          have hS2 := hS'.sm hM2
          have hh2 := (hM2.2.2.2.2 214 w rfl).trans hh
          refine v_if_eq 62 dX2_stillAlike_49 (by decide) (fun h49 => ?_) (fun h49 => absurd rfl h49)
          refine v_aload_n dX2_stillAlike_62 rfl ?_
          refine v_getR 2 2 _ dX2_stillAlike_63 f2_22 (hS2.1 _ _ rfl) (by decide) (hS2.2 _ _ _ rfl) ?_
          refine v_iload dX2_stillAlike_66 rfl ?_
          refine v_ialdN (w) dX2_stillAlike_68 (hS2.1 _ _ rfl) (by simp only [n_lit, pk_mul, nI_add]) ⟨by omega, by omega⟩ ?_
          rw [hh2]
          refine v_iconst (-1) dX2_stillAlike_69 (by decide) ?_
          refine v_ixor dX2_stillAlike_70 ?_
          refine v_iand dX2_stillAlike_71 ?_
          rw [andnot]
          refine v_istore_n dX2_stillAlike_72 rfl (by decide) ?_
          refine v_iinc 1 dX2_stillAlike_73 rfl (by decide) rfl (by decide) ?_
          refine v_goto 5 dX2_stillAlike_76 (by decide) ?_
          (rw [nI_1]; exact hn M2 (hM.tr hM2))
      · have elr : ¬ gI M' (p + 4) w = x := by
          rw [hd.1, hx]
          exact fun z => hl ((nIs1 (by have := hd.2.1; omega) (by omega)).mp z)
        rw [show alG K (gI M 211) (Qw l1 k (w + 1)) = alG K (gI M 211) (Qw l1 k w) from alG_eq (fun v hv => by
          unfold Qw
          exact decide_eq_decide.mpr (by
            by_cases e : v = w
            · subst e; exact ⟨fun h => h.elim Or.inl (fun z => absurd z.1 hl), fun h => h.elim Or.inl (fun z => absurd z.1 hl)⟩
            · constructor
              · rintro (h | h)
                · exact Or.inl h
                · exact Or.inr ⟨h.1, by omega⟩
              · rintro (h | h)
                · exact Or.inl h
                · exact Or.inr ⟨h.1, by omega⟩)) (fun _ _ _ => rfl)] at hn
        generalize alG K (gI M 211) (Qk l1 (k + 1)) = A at *
        generalize alG K (gI M 211) (Qw l1 k w) = B at *
        refine v_iload dX2_stillAlike_5 rfl ?_
        refine v_aload_n dX2_stillAlike_7 rfl ?_
        refine v_getR 2 3 _ dX2_stillAlike_8 f2_28 (by first | exact p1 | exact p5 | exact hS'.1 _ _ rfl | exact hS.1 _ _ rfl | assumption) (by decide) (by first | exact hr | exact p10 | exact hS'.2 _ _ _ rfl | exact hS.2 _ _ _ rfl | assumption) ?_
        refine v_getI 4 4 dX2_stillAlike_11 f2_32 (by first | exact p1 | exact p5 | exact hS'.1 _ _ rfl | exact hS.1 _ _ rfl | assumption) (by decide) ?_
        rw [e4, hW.p.2.2.1.1]
        refine v_icmp_ge 79 dX2_stillAlike_14 (by decide) (fun h14 => absurd ((nI_leI (by omega) (by omega)).mp h14) (by omega)) (fun h14 => ?_)
        refine v_iload_n dX2_stillAlike_17 rfl ?_
        refine v_if_eq 79 dX2_stillAlike_18 (by decide) (fun h18 => absurd ((nI0 (by omega)).mp h18) h0) (fun h18 => ?_)
        refine v_aload_n dX2_stillAlike_21 rfl ?_
        refine v_getR 2 3 _ dX2_stillAlike_22 f2_28 (by first | exact p1 | exact p5 | exact hS'.1 _ _ rfl | exact hS.1 _ _ rfl | assumption) (by decide) (by first | exact hr | exact p10 | exact hS'.2 _ _ _ rfl | exact hS.2 _ _ _ rfl | assumption) ?_
        refine v_getR 4 13 _ dX2_stillAlike_25 f2_78 (by first | exact p1 | exact p5 | exact hS'.1 _ _ rfl | exact hS.1 _ _ rfl | assumption) (by decide) (by first | exact hr | exact p10 | exact hS'.2 _ _ _ rfl | exact hS.2 _ _ _ rfl | assumption) ?_
        refine v_iload dX2_stillAlike_28 rfl ?_
        refine v_ialdN (w) dX2_stillAlike_30 (by first | exact p1 | exact p5 | exact hS'.1 _ _ rfl | exact hS.1 _ _ rfl | assumption) (by simp only [n_lit, pk_mul, nI_add]) ⟨by omega, by omega⟩ ?_
        refine v_iload_n dX2_stillAlike_31 rfl ?_
        refine v_icmp_ne 73 dX2_stillAlike_32 (by decide) (fun h32 => ?_) (fun h32 => absurd (Decidable.not_not.mp h32) elr)
        refine v_iinc 1 dX2_stillAlike_73 rfl (by decide) rfl (by decide) ?_
        refine v_goto 5 dX2_stillAlike_76 (by decide) ?_
        (rw [nI_1]; exact hn M' hM)
theorem c2_stillAlike {p cd n rd : Nat} {K : Nat → Int32} {l1 : Nat → Nat} (hC : MkC M p cd n K rd l1) (hW : WK K) (ha : Ap4 p cd) {k : Nat} (hk : k ≤ 6) : Ct G Y2_stillAlike 4 0 0 [.ref 209, .int (nI k - 1), .int (nI (alG K (gI M 211) (Qk l1 k)))] M (Rs (some (.int (nI (alG K (gI M 211) (Qk l1 (k + 1)))))) (Sm (Wst 210) M)) NX := by
  refine Ct.of k2_stillAlike.1 (Nat.le_of_ble_eq_true rfl) ?_
  have l := l2_still G M hC hW ha (al := alG K (gI M 211) (Qk l1 k)) hk _ rfl (kn K 3) 0 M (by omega) Sm.rf
  rw [show alG K (gI M 211) (Qw l1 k 0) = alG K (gI M 211) (Qk l1 k) from alG_eq (fun v hv => by
    unfold Qw Qk
    exact decide_eq_decide.mpr (by omega)) (fun _ _ _ => rfl)] at l
  generalize alG K (gI M 211) (Qk l1 k) = B at *
  refine v_iload_n dX2_stillAlike_0 rfl ?_
  refine v_istore_n dX2_stillAlike_1 rfl (by decide) ?_
  refine v_iconst 0 dX2_stillAlike_2 (by decide) ?_
  refine v_istore dX2_stillAlike_3 rfl (by decide) ?_
  -- at 5: .iload 4
  exact l
end M1
