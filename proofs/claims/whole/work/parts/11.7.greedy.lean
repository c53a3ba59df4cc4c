/-! ===== the class: Describer, word by word ===== -/
theorem dsc_or (K : Nat → Int32) (c S w : Nat) : dsc K c (S ||| 2 ^ w) = grT K c (dsc K c S) w := by
  apply Nat.eq_of_testBit_eq; intro i
  unfold grT dsc
  rw [Nat.testBit_or, Nat.testBit_and, show (1024 : Nat) = 2 ^ 10 from rfl, tb_mul, dif_bit, Nat.testBit_or, Nat.testBit_or, Nat.testBit_or, Nat.testBit_or, Nat.testBit_or, Nat.testBit_and, tb_mul, dif_bit, Nat.testBit_and, tb_mul, dif_bit]
  cases S.testBit i <;> cases (2 ^ w).testBit i <;> cases (trH K c).testBit i <;> cases S.testBit (i - 10) <;> cases (2 ^ w).testBit (i - 10) <;> cases (trH K c).testBit (i - 10) <;> cases decide (10 ≤ i) <;> rfl
theorem mS_or (P : Nat) (a : Nat → Nat) (S : Nat) {w : Nat} (hw : w < 10) : mS P a (S ||| 2 ^ w) = mS P a S &&& a w := by
  apply Nat.eq_of_testBit_eq; intro i
  unfold mS
  apply Bool.eq_iff_iff.mpr
  rw [Nat.testBit_and, Bool.and_eq_true, mF_bit, mF_bit]
  constructor
  · rintro ⟨h1, h2⟩
    refine ⟨⟨h1, fun v hv hs => h2 v hv (by rw [Nat.testBit_or, hs]; rfl)⟩, h2 w hw (by rw [Nat.testBit_or, Nat.testBit_two_pow_self, Bool.or_true])⟩
  · rintro ⟨⟨h1, h2⟩, h3⟩
    refine ⟨h1, fun v hv hs => ?_⟩
    rw [Nat.testBit_or, Bool.or_eq_true] at hs
    rcases hs with hs | hs
    · exact h2 v hv hs
    · rw [Nat.testBit_two_pow, decide_eq_true_eq] at hs
      subst hs; exact h3
theorem xF_or {x : Nat → Nat} {S w : Nat} (hs : S.testBit w = false) : ∀ v, xF x (S ||| 2 ^ w) v = if w < v then xF x S v + x w else xF x S v := by
  intro v
  induction v with
  | zero => rw [if_neg (by omega)]; rfl
  | succ v ih =>
    rw [xF, xF, ih, Nat.testBit_or, Nat.testBit_two_pow]
    by_cases e : w = v
    · subst e
      rw [hs, decide_eq_true rfl, if_neg (Nat.lt_irrefl _), if_pos (Nat.lt_succ_self _)]
      simp
    · rw [decide_eq_false e, Bool.or_false]
      by_cases h1 : w < v
      · rw [if_pos h1, if_pos (show w < v + 1 by omega)]
        split <;> omega
      · rw [if_neg h1, if_neg (show ¬ w < v + 1 by omega)]
theorem xS_or {x : Nat → Nat} {S w : Nat} (hs : S.testBit w = false) (hw : w < 10) : xS x (S ||| 2 ^ w) = xS x S + x w := by
  unfold xS
  rw [xF_or hs, if_pos hw]
theorem orb_in {S w : Nat} (h : S.testBit w = true) : S ||| 2 ^ w = S := by
  apply Nat.eq_of_testBit_eq; intro i
  rw [Nat.testBit_or, Nat.testBit_two_pow]
  by_cases e : w = i
  · subst e; rw [h]; rfl
  · rw [decide_eq_false e, Bool.or_false]
/-- the sharpest word -/
def shS (F : Nat) (a x : Nat → Nat) : Nat → Option Nat
  | 0 => none
  | w + 1 => match shS F a x w with
    | none => if pcn (F &&& a w) < pcn F then some w else none
    | some b => if pcn (F &&& a w) < pcn (F &&& a b) ∨ (pcn (F &&& a w) = pcn (F &&& a b) ∧ x w < x b) then some w else some b
def shL (F : Nat) (a : Nat → Nat) (o : Option Nat) : Nat := match o with
  | none => pcn F
  | some b => pcn (F &&& a b)
theorem sh_0t {F w : Nat} {a x : Nat → Nat} (h : shS F a x w = none) (h2 : pcn (F &&& a w) < pcn F) : shS F a x (w + 1) = some w := by
  simp only [shS, h]; exact if_pos h2
theorem sh_0f {F w : Nat} {a x : Nat → Nat} (h : shS F a x w = none) (h2 : ¬ pcn (F &&& a w) < pcn F) : shS F a x (w + 1) = none := by
  simp only [shS, h]; exact if_neg h2
theorem sh_1t {F w b : Nat} {a x : Nat → Nat} (h : shS F a x w = some b) (h2 : pcn (F &&& a w) < pcn (F &&& a b) ∨ (pcn (F &&& a w) = pcn (F &&& a b) ∧ x w < x b)) : shS F a x (w + 1) = some w := by
  simp only [shS, h]; exact if_pos h2
theorem sh_1f {F w b : Nat} {a x : Nat → Nat} (h : shS F a x w = some b) (h2 : ¬ (pcn (F &&& a w) < pcn (F &&& a b) ∨ (pcn (F &&& a w) = pcn (F &&& a b) ∧ x w < x b))) : shS F a x (w + 1) = some b := by
  simp only [shS, h]; exact if_neg h2
theorem shS_ok {F : Nat} {a x : Nat → Nat} : ∀ w b, shS F a x w = some b → b < w ∧ pcn (F &&& a b) < pcn F := by
  intro w
  induction w with
  | zero => intro b h; cases h
  | succ w ih =>
    intro b h
    simp only [shS] at h
    split at h
    · split at h
      · cases h; exact ⟨by omega, by assumption⟩
      · cases h
    · rename_i b0 hb0
      have i0 := ih b0 hb0
      split at h
      · cases h; exact ⟨by omega, by omega⟩
      · cases h; exact ⟨by omega, i0.2⟩
/-- the reference's step is the sharpest word -/
theorem grF_sh {K : Nat → Int32} (hP : WP K) {c S : Nat} {a : Nat → Nat} (hS : S < 2 ^ kn K 3) (ha : ∀ w, w < 10 → fitK K (dsc K c (S ||| 2 ^ w)) = fitK K (dsc K c S) &&& a w) : ∀ w, w ≤ kn K 3 → grF K c (dsc K c S) w = (shS (fitK K (dsc K c S)) a (xc K c) w).map (fun b => dsc K c (S ||| 2 ^ b)) := by
  have h10 := hP.2.2.1.2
  have hin : ∀ w, w < 10 → S.testBit w = true → fitK K (dsc K c S) &&& a w = fitK K (dsc K c S) := fun w hw h => by rw [← ha w hw, orb_in h]
  have hor : ∀ w, w < kn K 3 → S ||| 2 ^ w < 2 ^ kn K 3 := fun w hw => Nat.or_lt_two_pow hS (Nat.pow_lt_pow_right (by omega) hw)
  intro w
  induction w with
  | zero => intro _; rfl
  | succ w ih =>
    intro hw
    have ih := ih (by omega)
    cases hb : shS (fitK K (dsc K c S)) a (xc K c) w with
    | none =>
      rw [hb] at ih
      by_cases h2 : pcn (fitK K (dsc K c S) &&& a w) < pcn (fitK K (dsc K c S))
      · rw [gr_0t ih (by rw [← dsc_or, ha w (by omega)]; exact h2), sh_0t hb h2, ← dsc_or]; rfl
      · rw [gr_0f ih (by rw [← dsc_or, ha w (by omega)]; exact h2), sh_0f hb h2]; rfl
    | some b =>
      rw [hb] at ih
      have ih : grF K c (dsc K c S) w = some (dsc K c (S ||| 2 ^ b)) := ih
      obtain ⟨b1, b2⟩ := shS_ok w b hb
      have bS : S.testBit b = false := nt (fun z => by rw [hin b (by omega) z] at b2; omega)
      have e : (pcn (fitK K (grT K c (dsc K c S) w)) < pcn (fitK K (dsc K c (S ||| 2 ^ b))) ∨ (pcn (fitK K (grT K c (dsc K c S) w)) = pcn (fitK K (dsc K c (S ||| 2 ^ b))) ∧ costN K (grT K c (dsc K c S) w) < costN K (dsc K c (S ||| 2 ^ b)))) ↔ (pcn (fitK K (dsc K c S) &&& a w) < pcn (fitK K (dsc K c S) &&& a b) ∨ (pcn (fitK K (dsc K c S) &&& a w) = pcn (fitK K (dsc K c S) &&& a b) ∧ xc K c w < xc K c b)) := by
        rw [← dsc_or, ha w (by omega), ha b (by omega), cost_dsc hP (hor w (by omega)), cost_dsc hP (hor b (by omega)), xS_or bS (by omega)]
        cases wS : S.testBit w
        · rw [xS_or wS (by omega)]; omega
        · rw [hin w (by omega) wS]; omega
      by_cases h2 : pcn (fitK K (dsc K c S) &&& a w) < pcn (fitK K (dsc K c S) &&& a b) ∨ (pcn (fitK K (dsc K c S) &&& a w) = pcn (fitK K (dsc K c S) &&& a b) ∧ xc K c w < xc K c b)
      · rw [gr_1t ih (e.mpr h2), sh_1t hb h2, ← dsc_or]; rfl
      · rw [gr_1f ih (fun z => h2 (e.mp z)), sh_1f hb h2]; rfl
theorem fitK_in {K : Nat → Int32} {c d : Nat} (h : (fitK K d).testBit c = true) : (kn K 93).testBit c = true := by
  unfold fitK fitN at h
  rw [bset_bit, Bool.and_eq_true, Bool.and_eq_true] at h
  exact h.2.1
theorem grO_out {K : Nat → Int32} {c : Nat} (h : (kn K 93).testBit c = false) : ∀ f d, grO K c f d = -1 := by
  intro f
  induction f with
  | zero => intro d; rfl
  | succ f ih =>
    intro d
    rw [grO, if_neg (fun z => by
      have : (fitK K d).testBit c = true := by rw [z, Nat.testBit_two_pow_self]
      rw [fitK_in this] at h; cases h)]
    cases grF K c d (kn K 3) with
    | none => rfl
    | some b => exact ih b
theorem pcn_one {F c : Nat} (h : F < 16384) (hc : F.testBit c = true) (h1 : pcn F ≤ 1) : F = 2 ^ c := by
  have e : F &&& 2 ^ c = 2 ^ c := by
    apply Nat.eq_of_testBit_eq; intro i
    rw [Nat.testBit_and, Nat.testBit_two_pow]
    by_cases e : c = i
    · subst e; rw [hc]; rfl
    · rw [decide_eq_false e, Bool.and_false]
  have s := pcn_split F (2 ^ c)
  have p := pcn_p (S := F &&& 2 ^ c) (Nat.lt_of_le_of_lt Nat.and_le_left h) (by rw [e]; exact Nat.ne_of_gt (Nat.two_pow_pos c))
  have z := pcn_e0 (S := dif F (2 ^ c)) (dif_le F _ (n := 14) h) (by omega)
  apply Nat.eq_of_testBit_eq; intro i
  have zi : (dif F (2 ^ c)).testBit i = false := by rw [z, Nat.zero_testBit]
  rw [dif_bit, Nat.testBit_two_pow] at zi
  rw [Nat.testBit_two_pow]
  by_cases e : c = i
  · subst e; rw [hc, decide_eq_true rfl]
  · rw [decide_eq_false e] at zi ⊢
    simpa using zi
theorem pcn_two {c : Nat} (h : c < 14) : pcn (2 ^ c) = 1 := by
  have t : (List.range 14).all (fun c => Nat.beq (pcn (2 ^ c)) 1) = true := by decide +kernel
  exact Nat.eq_of_beq_eq_true (List.all_eq_true.mp t c (List.mem_range.mpr h))
theorem cnt_zero {p : Nat → Bool} : ∀ n, cnt n p = 0 → ∀ i, i < n → p i = false := by
  intro n
  induction n with
  | zero => intro _ i hi; omega
  | succ n ih =>
    intro h i hi
    rw [show cnt (n + 1) p = cnt n p + (if p n = true then 1 else 0) from rfl] at h
    by_cases e : i = n
    · subst e
      cases hp : p i
      · rfl
      · rw [hp] at h; simp at h
    · exact ih (by omega) i (by omega)
theorem cnt_or {S w : Nat} (hs : S.testBit w = false) : ∀ n, cnt n (fun v => !(S ||| 2 ^ w).testBit v) + (if w < n then 1 else 0) = cnt n (fun v => !S.testBit v) := by
  intro n
  induction n with
  | zero => rfl
  | succ n ih =>
    rw [show ∀ p : Nat → Bool, cnt (n + 1) p = cnt n p + (if p n = true then 1 else 0) from fun _ => rfl, show ∀ p : Nat → Bool, cnt (n + 1) p = cnt n p + (if p n = true then 1 else 0) from fun _ => rfl, ← ih, Nat.testBit_or, Nat.testBit_two_pow]
    by_cases e : w = n
    · subst e
      rw [hs, decide_eq_true rfl, if_neg (Nat.lt_irrefl _), if_pos (Nat.lt_succ_self _)]
      simp
    · rw [decide_eq_false e, Bool.or_false]
      by_cases h1 : w < n
      · rw [if_pos h1, if_pos (show w < n + 1 by omega)]; omega
      · rw [if_neg h1, if_neg (show ¬ w < n + 1 by omega)]; omega
section D7
variable (G : mG) (M : mM)
theorem l1_sharpest (hS : Sh M) {p cd n F : Nat} {K : Nat → Int32} {a x : Nat → Nat} (hp : Plr M p cd n K) (hP : WP K) (hF : F < 16384) (hv : ∀ v, v < kn K 3 → gI M 203 v = nI (a v) ∧ gI M 204 v = nI (x v)) (hx : ∀ v, v < kn K 3 → x v ≤ 19) : ∀ i w (o6 : Option Value), w + i = kn K 3 → V G Y1_sharpest 1 0 0 (Rv (some (.int (encO (shS F a x (kn K 3))))) M) NX 11 [some (.ref 201), some (.ref p), some (.int (nI F)), some (.int (encO (shS F a x w))), some (.int (nI (shL F a (shS F a x w)))), some (.int (nI w)), o6] [] M := by
  have h10 := hP.2.2.1.2
  obtain ⟨⟨p1, p2, p3, p4, p5, p6, p7, p8, p9, p10, p11, p12, p13, p14⟩, ⟨e1, e2, e3, e4, e5, e6, e7⟩, g2, g3, g4, g5, g6, g7⟩ := hp
  intro i
  induction i with
  | zero =>
    intro w o6 hw
    obtain rfl : w = kn K 3 := by omega
    refine v_iload dX1_sharpest_11 rfl ?_
    refine v_aload_n dX1_sharpest_13 rfl ?_
    refine v_getI 4 4 dX1_sharpest_14 f1_58 (by first | exact hS.1 _ _ rfl | assumption) (by decide) ?_
    rw [e4, hP.2.2.1.1]
    refine v_icmp_ge 82 dX1_sharpest_17 (by decide) (fun h17 => ?_) (fun h17 => absurd (nI_le (Nat.le_refl _) (by omega)) h17)
    refine v_iload_n dX1_sharpest_82 rfl ?_
    refine v_iret dX1_sharpest_83 rfl ?_
    exact ⟨rfl, rfl⟩
  | succ i ih =>
    intro w o6 hw
    have hn := fun o6 => ih (w + 1) o6 (by omega)
    have hv1 := (hv w (by omega)).1
    have hv2 := (hv w (by omega)).2
    have hx1 := hx w (by omega)
    have hFa : F &&& a w < 16384 := Nat.lt_of_le_of_lt Nat.and_le_left hF
    have q1 := pcn_le (F &&& a w)
    have q2 := pcn_le F
    cases hb : shS F a x w with
    | none =>
      rw [show encO none = (-1 : Int32) from rfl, show shL F a none = pcn F from rfl]
      by_cases h2 : pcn (F &&& a w) < pcn F
      · rw [sh_0t hb h2] at hn
        refine v_iload dX1_sharpest_11 rfl ?_
        refine v_aload_n dX1_sharpest_13 rfl ?_
        refine v_getI 4 4 dX1_sharpest_14 f1_58 (by first | exact hS.1 _ _ rfl | assumption) (by decide) ?_
        rw [e4, hP.2.2.1.1]
        refine v_icmp_ge 82 dX1_sharpest_17 (by decide) (fun h17 => absurd ((nI_leI (by omega) (by omega)).mp h17) (by omega)) (fun h17 => ?_)
        refine v_iload_n dX1_sharpest_20 rfl ?_
        refine v_aload_n dX1_sharpest_21 rfl ?_
        refine v_getR 1 1 _ dX1_sharpest_22 f1_15 (by first | exact hS.1 _ _ rfl | assumption) (by decide) (by first | exact hS.2 _ _ _ rfl | exact hS'.2 _ _ _ rfl | assumption) ?_
        refine v_iload dX1_sharpest_25 rfl ?_
        refine v_ialdN (w) dX1_sharpest_27 (by first | exact hS.1 _ _ rfl | assumption) (by simp only [n_lit, pk_mul, nI_add]) ⟨by omega, by omega⟩ ?_
        rw [hv1]
        refine v_iand dX1_sharpest_28 ?_
        rw [nIand]
        refine v_cS [_] (cJ_bitCount G M _) kJ_bitCount dX1_sharpest_29 l1_72 rfl (Nat.le_of_ble_eq_true rfl) (Nat.le_of_ble_eq_true rfl) ?_
        rw [bcI_n hFa]
        refine v_istore dX1_sharpest_32 rfl (by decide) ?_
        refine v_iload dX1_sharpest_34 rfl ?_
        refine v_iload dX1_sharpest_36 rfl ?_
        refine v_icmp_lt 69 dX1_sharpest_38 (by decide) (fun h38 => ?_) (fun h38 => absurd (nI_lt h2 (by omega)) h38)
        refine v_iload dX1_sharpest_69 rfl ?_
        refine v_istore_n dX1_sharpest_71 rfl (by decide) ?_
        refine v_iload dX1_sharpest_72 rfl ?_
        refine v_istore dX1_sharpest_74 rfl (by decide) ?_
        refine v_iinc 1 dX1_sharpest_76 rfl (by decide) rfl (by decide) ?_
        refine v_goto 11 dX1_sharpest_79 (by decide) ?_
        (rw [nI_1]; exact hn _)
      · rw [sh_0f hb h2] at hn
        refine v_iload dX1_sharpest_11 rfl ?_
        refine v_aload_n dX1_sharpest_13 rfl ?_
        refine v_getI 4 4 dX1_sharpest_14 f1_58 (by first | exact hS.1 _ _ rfl | assumption) (by decide) ?_
        rw [e4, hP.2.2.1.1]
        refine v_icmp_ge 82 dX1_sharpest_17 (by decide) (fun h17 => absurd ((nI_leI (by omega) (by omega)).mp h17) (by omega)) (fun h17 => ?_)
        refine v_iload_n dX1_sharpest_20 rfl ?_
        refine v_aload_n dX1_sharpest_21 rfl ?_
        refine v_getR 1 1 _ dX1_sharpest_22 f1_15 (by first | exact hS.1 _ _ rfl | assumption) (by decide) (by first | exact hS.2 _ _ _ rfl | exact hS'.2 _ _ _ rfl | assumption) ?_
        refine v_iload dX1_sharpest_25 rfl ?_
        refine v_ialdN (w) dX1_sharpest_27 (by first | exact hS.1 _ _ rfl | assumption) (by simp only [n_lit, pk_mul, nI_add]) ⟨by omega, by omega⟩ ?_
        rw [hv1]
        refine v_iand dX1_sharpest_28 ?_
        rw [nIand]
        refine v_cS [_] (cJ_bitCount G M _) kJ_bitCount dX1_sharpest_29 l1_72 rfl (Nat.le_of_ble_eq_true rfl) (Nat.le_of_ble_eq_true rfl) ?_
        rw [bcI_n hFa]
        refine v_istore dX1_sharpest_32 rfl (by decide) ?_
        refine v_iload dX1_sharpest_34 rfl ?_
        refine v_iload dX1_sharpest_36 rfl ?_
        refine v_icmp_lt 69 dX1_sharpest_38 (by decide) (fun h38 => absurd ((nI_ltI (by omega) (by omega)).mp h38) h2) (fun h38 => ?_)
        refine v_iload_n dX1_sharpest_41 rfl ?_
        refine v_iconst (-1) dX1_sharpest_42 (by decide) ?_
        refine v_icmp_eq 76 dX1_sharpest_43 (by decide) (fun h43 => ?_) (fun h43 => absurd rfl h43)
        refine v_iinc 1 dX1_sharpest_76 rfl (by decide) rfl (by decide) ?_
        refine v_goto 11 dX1_sharpest_79 (by decide) ?_
        (rw [nI_1]; exact hn _)
    | some b =>
      obtain ⟨b1, b2⟩ := shS_ok w b hb
      have hw1 := (hv b (by omega)).1
      have hw2 := (hv b (by omega)).2
      have hx2 := hx b (by omega)
      have q3 := pcn_le (F &&& a b)
      rw [show encO (some b) = nI b from rfl, show shL F a (some b) = pcn (F &&& a b) from rfl]
      by_cases h2 : pcn (F &&& a w) < pcn (F &&& a b)
      · rw [sh_1t hb (Or.inl h2)] at hn
        refine v_iload dX1_sharpest_11 rfl ?_
        refine v_aload_n dX1_sharpest_13 rfl ?_
        refine v_getI 4 4 dX1_sharpest_14 f1_58 (by first | exact hS.1 _ _ rfl | assumption) (by decide) ?_
        rw [e4, hP.2.2.1.1]
        refine v_icmp_ge 82 dX1_sharpest_17 (by decide) (fun h17 => absurd ((nI_leI (by omega) (by omega)).mp h17) (by omega)) (fun h17 => ?_)
        refine v_iload_n dX1_sharpest_20 rfl ?_
        refine v_aload_n dX1_sharpest_21 rfl ?_
        refine v_getR 1 1 _ dX1_sharpest_22 f1_15 (by first | exact hS.1 _ _ rfl | assumption) (by decide) (by first | exact hS.2 _ _ _ rfl | exact hS'.2 _ _ _ rfl | assumption) ?_
        refine v_iload dX1_sharpest_25 rfl ?_
        refine v_ialdN (w) dX1_sharpest_27 (by first | exact hS.1 _ _ rfl | assumption) (by simp only [n_lit, pk_mul, nI_add]) ⟨by omega, by omega⟩ ?_
        rw [hv1]
        refine v_iand dX1_sharpest_28 ?_
        rw [nIand]
        refine v_cS [_] (cJ_bitCount G M _) kJ_bitCount dX1_sharpest_29 l1_72 rfl (Nat.le_of_ble_eq_true rfl) (Nat.le_of_ble_eq_true rfl) ?_
        rw [bcI_n hFa]
        refine v_istore dX1_sharpest_32 rfl (by decide) ?_
        refine v_iload dX1_sharpest_34 rfl ?_
        refine v_iload dX1_sharpest_36 rfl ?_
        refine v_icmp_lt 69 dX1_sharpest_38 (by decide) (fun h38 => ?_) (fun h38 => absurd (nI_lt h2 (by omega)) h38)
        refine v_iload dX1_sharpest_69 rfl ?_
        refine v_istore_n dX1_sharpest_71 rfl (by decide) ?_
        refine v_iload dX1_sharpest_72 rfl ?_
        refine v_istore dX1_sharpest_74 rfl (by decide) ?_
        refine v_iinc 1 dX1_sharpest_76 rfl (by decide) rfl (by decide) ?_
        refine v_goto 11 dX1_sharpest_79 (by decide) ?_
        (rw [nI_1]; exact hn _)
      · by_cases h3 : pcn (F &&& a w) = pcn (F &&& a b)
        · by_cases h4 : x w < x b
          · rw [sh_1t hb (Or.inr ⟨h3, h4⟩)] at hn
            refine v_iload dX1_sharpest_11 rfl ?_
            refine v_aload_n dX1_sharpest_13 rfl ?_
            refine v_getI 4 4 dX1_sharpest_14 f1_58 (by first | exact hS.1 _ _ rfl | assumption) (by decide) ?_
            rw [e4, hP.2.2.1.1]
            refine v_icmp_ge 82 dX1_sharpest_17 (by decide) (fun h17 => absurd ((nI_leI (by omega) (by omega)).mp h17) (by omega)) (fun h17 => ?_)
            refine v_iload_n dX1_sharpest_20 rfl ?_
            refine v_aload_n dX1_sharpest_21 rfl ?_
            refine v_getR 1 1 _ dX1_sharpest_22 f1_15 (by first | exact hS.1 _ _ rfl | assumption) (by decide) (by first | exact hS.2 _ _ _ rfl | exact hS'.2 _ _ _ rfl | assumption) ?_
            refine v_iload dX1_sharpest_25 rfl ?_
            refine v_ialdN (w) dX1_sharpest_27 (by first | exact hS.1 _ _ rfl | assumption) (by simp only [n_lit, pk_mul, nI_add]) ⟨by omega, by omega⟩ ?_
            rw [hv1]
            refine v_iand dX1_sharpest_28 ?_
            rw [nIand]
            refine v_cS [_] (cJ_bitCount G M _) kJ_bitCount dX1_sharpest_29 l1_72 rfl (Nat.le_of_ble_eq_true rfl) (Nat.le_of_ble_eq_true rfl) ?_
            rw [bcI_n hFa]
            refine v_istore dX1_sharpest_32 rfl (by decide) ?_
            refine v_iload dX1_sharpest_34 rfl ?_
            refine v_iload dX1_sharpest_36 rfl ?_
            refine v_icmp_lt 69 dX1_sharpest_38 (by decide) (fun h38 => absurd ((nI_ltI (by omega) (by omega)).mp h38) h2) (fun h38 => ?_)
            refine v_iload_n dX1_sharpest_41 rfl ?_
            refine v_iconst (-1) dX1_sharpest_42 (by decide) ?_
            refine v_icmp_eq 76 dX1_sharpest_43 (by decide) (fun h43 => absurd h43 (nI_m1 (by omega))) (fun h43 => ?_)
            refine v_iload dX1_sharpest_46 rfl ?_
            refine v_iload dX1_sharpest_48 rfl ?_
            refine v_icmp_ne 76 dX1_sharpest_50 (by decide) (fun h50 => absurd (by rw [h3]) h50) (fun h50 => ?_)
            refine v_aload_n dX1_sharpest_53 rfl ?_
            refine v_getR 1 2 _ dX1_sharpest_54 f1_19 (by first | exact hS.1 _ _ rfl | assumption) (by decide) (by first | exact hS.2 _ _ _ rfl | exact hS'.2 _ _ _ rfl | assumption) ?_
            refine v_iload dX1_sharpest_57 rfl ?_
            refine v_ialdN (w) dX1_sharpest_59 (by first | exact hS.1 _ _ rfl | assumption) (by simp only [n_lit, pk_mul, nI_add]) ⟨by omega, by omega⟩ ?_
            rw [hv2]
            refine v_aload_n dX1_sharpest_60 rfl ?_
            refine v_getR 1 2 _ dX1_sharpest_61 f1_19 (by first | exact hS.1 _ _ rfl | assumption) (by decide) (by first | exact hS.2 _ _ _ rfl | exact hS'.2 _ _ _ rfl | assumption) ?_
            refine v_iload_n dX1_sharpest_64 rfl ?_
            refine v_ialdN (b) dX1_sharpest_65 (by first | exact hS.1 _ _ rfl | assumption) (by simp only [n_lit, pk_mul, nI_add]) ⟨by omega, by omega⟩ ?_
            rw [hw2]
            refine v_icmp_ge 76 dX1_sharpest_66 (by decide) (fun h66 => absurd ((nI_leI (by omega) (by omega)).mp h66) (by omega)) (fun h66 => ?_)
            refine v_iload dX1_sharpest_69 rfl ?_
            refine v_istore_n dX1_sharpest_71 rfl (by decide) ?_
            refine v_iload dX1_sharpest_72 rfl ?_
            refine v_istore dX1_sharpest_74 rfl (by decide) ?_
            refine v_iinc 1 dX1_sharpest_76 rfl (by decide) rfl (by decide) ?_
            refine v_goto 11 dX1_sharpest_79 (by decide) ?_
            (rw [nI_1]; exact hn _)
          · rw [sh_1f hb (by omega)] at hn
            refine v_iload dX1_sharpest_11 rfl ?_
            refine v_aload_n dX1_sharpest_13 rfl ?_
            refine v_getI 4 4 dX1_sharpest_14 f1_58 (by first | exact hS.1 _ _ rfl | assumption) (by decide) ?_
            rw [e4, hP.2.2.1.1]
            refine v_icmp_ge 82 dX1_sharpest_17 (by decide) (fun h17 => absurd ((nI_leI (by omega) (by omega)).mp h17) (by omega)) (fun h17 => ?_)
            refine v_iload_n dX1_sharpest_20 rfl ?_
            refine v_aload_n dX1_sharpest_21 rfl ?_
            refine v_getR 1 1 _ dX1_sharpest_22 f1_15 (by first | exact hS.1 _ _ rfl | assumption) (by decide) (by first | exact hS.2 _ _ _ rfl | exact hS'.2 _ _ _ rfl | assumption) ?_
            refine v_iload dX1_sharpest_25 rfl ?_
            refine v_ialdN (w) dX1_sharpest_27 (by first | exact hS.1 _ _ rfl | assumption) (by simp only [n_lit, pk_mul, nI_add]) ⟨by omega, by omega⟩ ?_
            rw [hv1]
            refine v_iand dX1_sharpest_28 ?_
            rw [nIand]
            refine v_cS [_] (cJ_bitCount G M _) kJ_bitCount dX1_sharpest_29 l1_72 rfl (Nat.le_of_ble_eq_true rfl) (Nat.le_of_ble_eq_true rfl) ?_
            rw [bcI_n hFa]
            refine v_istore dX1_sharpest_32 rfl (by decide) ?_
            refine v_iload dX1_sharpest_34 rfl ?_
            refine v_iload dX1_sharpest_36 rfl ?_
            refine v_icmp_lt 69 dX1_sharpest_38 (by decide) (fun h38 => absurd ((nI_ltI (by omega) (by omega)).mp h38) h2) (fun h38 => ?_)
            refine v_iload_n dX1_sharpest_41 rfl ?_
            refine v_iconst (-1) dX1_sharpest_42 (by decide) ?_
            refine v_icmp_eq 76 dX1_sharpest_43 (by decide) (fun h43 => absurd h43 (nI_m1 (by omega))) (fun h43 => ?_)
            refine v_iload dX1_sharpest_46 rfl ?_
            refine v_iload dX1_sharpest_48 rfl ?_
            refine v_icmp_ne 76 dX1_sharpest_50 (by decide) (fun h50 => absurd (by rw [h3]) h50) (fun h50 => ?_)
            refine v_aload_n dX1_sharpest_53 rfl ?_
            refine v_getR 1 2 _ dX1_sharpest_54 f1_19 (by first | exact hS.1 _ _ rfl | assumption) (by decide) (by first | exact hS.2 _ _ _ rfl | exact hS'.2 _ _ _ rfl | assumption) ?_
            refine v_iload dX1_sharpest_57 rfl ?_
            refine v_ialdN (w) dX1_sharpest_59 (by first | exact hS.1 _ _ rfl | assumption) (by simp only [n_lit, pk_mul, nI_add]) ⟨by omega, by omega⟩ ?_
            rw [hv2]
            refine v_aload_n dX1_sharpest_60 rfl ?_
            refine v_getR 1 2 _ dX1_sharpest_61 f1_19 (by first | exact hS.1 _ _ rfl | assumption) (by decide) (by first | exact hS.2 _ _ _ rfl | exact hS'.2 _ _ _ rfl | assumption) ?_
            refine v_iload_n dX1_sharpest_64 rfl ?_
            refine v_ialdN (b) dX1_sharpest_65 (by first | exact hS.1 _ _ rfl | assumption) (by simp only [n_lit, pk_mul, nI_add]) ⟨by omega, by omega⟩ ?_
            rw [hw2]
            refine v_icmp_ge 76 dX1_sharpest_66 (by decide) (fun h66 => ?_) (fun h66 => absurd (nI_le (by omega) (by omega)) h66)
            refine v_iinc 1 dX1_sharpest_76 rfl (by decide) rfl (by decide) ?_
            refine v_goto 11 dX1_sharpest_79 (by decide) ?_
            (rw [nI_1]; exact hn _)
        · rw [sh_1f hb (by omega)] at hn
          refine v_iload dX1_sharpest_11 rfl ?_
          refine v_aload_n dX1_sharpest_13 rfl ?_
          refine v_getI 4 4 dX1_sharpest_14 f1_58 (by first | exact hS.1 _ _ rfl | assumption) (by decide) ?_
          rw [e4, hP.2.2.1.1]
          refine v_icmp_ge 82 dX1_sharpest_17 (by decide) (fun h17 => absurd ((nI_leI (by omega) (by omega)).mp h17) (by omega)) (fun h17 => ?_)
          refine v_iload_n dX1_sharpest_20 rfl ?_
          refine v_aload_n dX1_sharpest_21 rfl ?_
          refine v_getR 1 1 _ dX1_sharpest_22 f1_15 (by first | exact hS.1 _ _ rfl | assumption) (by decide) (by first | exact hS.2 _ _ _ rfl | exact hS'.2 _ _ _ rfl | assumption) ?_
          refine v_iload dX1_sharpest_25 rfl ?_
          refine v_ialdN (w) dX1_sharpest_27 (by first | exact hS.1 _ _ rfl | assumption) (by simp only [n_lit, pk_mul, nI_add]) ⟨by omega, by omega⟩ ?_
          rw [hv1]
          refine v_iand dX1_sharpest_28 ?_
          rw [nIand]
          refine v_cS [_] (cJ_bitCount G M _) kJ_bitCount dX1_sharpest_29 l1_72 rfl (Nat.le_of_ble_eq_true rfl) (Nat.le_of_ble_eq_true rfl) ?_
          rw [bcI_n hFa]
          refine v_istore dX1_sharpest_32 rfl (by decide) ?_
          refine v_iload dX1_sharpest_34 rfl ?_
          refine v_iload dX1_sharpest_36 rfl ?_
          refine v_icmp_lt 69 dX1_sharpest_38 (by decide) (fun h38 => absurd ((nI_ltI (by omega) (by omega)).mp h38) h2) (fun h38 => ?_)
          refine v_iload_n dX1_sharpest_41 rfl ?_
          refine v_iconst (-1) dX1_sharpest_42 (by decide) ?_
          refine v_icmp_eq 76 dX1_sharpest_43 (by decide) (fun h43 => absurd h43 (nI_m1 (by omega))) (fun h43 => ?_)
          refine v_iload dX1_sharpest_46 rfl ?_
          refine v_iload dX1_sharpest_48 rfl ?_
          refine v_icmp_ne 76 dX1_sharpest_50 (by decide) (fun h50 => ?_) (fun h50 => absurd ((nI_eq (by omega) (by omega)).mp (Decidable.not_not.mp h50)) h3)
          refine v_iinc 1 dX1_sharpest_76 rfl (by decide) rfl (by decide) ?_
          refine v_goto 11 dX1_sharpest_79 (by decide) ?_
          (rw [nI_1]; exact hn _)
theorem c1_sharpest (hS : Sh M) {p cd n F : Nat} {K : Nat → Int32} {a x : Nat → Nat} (hp : Plr M p cd n K) (hP : WP K) (hF : F < 16384) (hv : ∀ v, v < kn K 3 → gI M 203 v = nI (a v) ∧ gI M 204 v = nI (x v)) (hx : ∀ v, v < kn K 3 → x v ≤ 19) : Ct G Y1_sharpest 1 0 0 [.ref 201, .ref p, .int (nI F)] M (Rv (some (.int (encO (shS F a x (kn K 3))))) M) NX := by
  refine Ct.of k1_sharpest.1 (Nat.le_of_ble_eq_true rfl) ?_
  refine v_iconst (-1) dX1_sharpest_0 (by decide) ?_
  refine v_istore_n dX1_sharpest_1 rfl (by decide) ?_
  refine v_iload_n dX1_sharpest_2 rfl ?_
  refine v_cS [_] (cJ_bitCount G M _) kJ_bitCount dX1_sharpest_3 l1_72 rfl (Nat.le_of_ble_eq_true rfl) (Nat.le_of_ble_eq_true rfl) ?_
  rw [bcI_n hF]
  refine v_istore dX1_sharpest_6 rfl (by decide) ?_
  refine v_iconst 0 dX1_sharpest_8 (by decide) ?_
  refine v_istore dX1_sharpest_9 rfl (by decide) ?_
  skip
  exact v_pad (l1_sharpest G M hS hp hP hF hv hx (kn K 3) 0 none (by omega))
theorem l1_wbw {M0 : mM} {s p cd n : Nat} {K : Nat → Int32} (hS : Sh M) (hd : StD M0 s K) (hp : Plr M p cd n K) (hs : Str M s K) (hW : WK K) {c : Nat} (hc : c < kn K 2) (hv : ∀ v, v < kn K 3 → gI M 203 v = nI (aN M0 s K c v) ∧ gI M 204 v = nI (xc K c v)) : ∀ f S i (o7 : Option Value), S < 2 ^ kn K 3 → cnt (kn K 3) (fun w => !S.testBit w) + i = kn K 3 → pcn (fitK K (dsc K c S)) < f → V G Y1_wordByWord 8 0 0 (Rv (some (.int (grO K c f (dsc K c S)))) M) NX 19 [some (.ref 201), some (.ref p), some (.ref s), some (.int (nI c)), some (.int (nI (fitK K (dsc K c S)))), some (.int (nI S)), some (.int (nI i)), o7] [] M := by
  have h10 := hW.p.2.2.1.2
  have h14 := hW.p.2.1.2
  have hp0 := hp
  have hs1 := hs.1.1
  obtain ⟨⟨p1, p2, p3, p4, p5, p6, p7, p8, p9, p10, p11, p12, p13, p14⟩, ⟨e1, e2, e3, e4, e5, e6, e7⟩, g2, g3, g4, g5, g6, g7⟩ := hp
  have hpw : 2 ^ kn K 3 ≤ 2 ^ 10 := Nat.pow_le_pow_right (by omega) h10
  have c2 := two_pow_lt (c := c) (by omega)
  have hfit : ∀ S, S < 1024 → fitK K (dsc K c S) = mS (kn K 93) (aN M0 s K c) S := fun S hS => (mS_fit (a := aN M0 s K c) hW.p hW.i.2 hS (c := c) (fun w d hw hdd => agA_bit hd hW.p _ hc hdd hw)).symm
  intro f
  induction f with
  | zero => intro S i o7 _ _ h; omega
  | succ f ih =>
    intro S i o7 hSl hcn hf
    have hS10 : S < 1024 := by omega
    have ha : ∀ w, w < 10 → fitK K (dsc K c (S ||| 2 ^ w)) = fitK K (dsc K c S) &&& aN M0 s K c w := by
      intro w hw
      rw [hfit _ (Nat.or_lt_two_pow (n := 10) hS10 (Nat.pow_lt_pow_right (by omega) hw)), hfit S hS10, mS_or _ _ _ hw]
    have hgr := grF_sh hW.p hSl ha (kn K 3) (Nat.le_refl _)
    have hF : fitK K (dsc K c S) < 16384 := fitN_lt h14 _ _
    have hpl := pcn_le (fitK K (dsc K c S))
    have hself : (kn K 93).testBit c = true → (fitK K (dsc K c S)).testBit c = true := by
      intro h
      rw [hfit S hS10]
      unfold mS
      rw [mF_bit]
      refine ⟨h, fun v hv _ => ?_⟩
      show (agA M0 s (litB K) c v).testBit c = true
      rw [agA_bit hd hW.p _ hc hc hv, beq_self_eq_true]
    have hfull : i = kn K 3 → shS (fitK K (dsc K c S)) (aN M0 s K c) (xc K c) (kn K 3) = none := by
      intro hi
      cases hb : shS (fitK K (dsc K c S)) (aN M0 s K c) (xc K c) (kn K 3) with
      | none => rfl
      | some b =>
        obtain ⟨b1, b2⟩ := shS_ok _ b hb
        have := cnt_zero (p := fun w => !S.testBit w) (kn K 3) (by omega) b b1
        have hbS : S.testBit b = true := by simpa using this
        rw [← ha b (by omega), orb_in hbS] at b2
        omega
    have end81 : (pcn (fitK K (dsc K c S)) ≤ 1 ∨ i = kn K 3) → V G Y1_wordByWord 8 0 0 (Rv (some (.int (grO K c (f + 1) (dsc K c S)))) M) NX 81 [some (.ref 201), some (.ref p), some (.ref s), some (.int (nI c)), some (.int (nI (fitK K (dsc K c S)))), some (.int (nI S)), some (.int (nI i)), o7] [] M := by
      intro hor
      by_cases he : fitK K (dsc K c S) = 2 ^ c
      · rw [grO, if_pos he, he]
        refine v_iload dX1_wordByWord_81 rfl ?_
        refine v_iconst 1 dX1_wordByWord_83 (by decide) ?_
        refine v_iload_n dX1_wordByWord_84 rfl ?_
        refine v_ishl dX1_wordByWord_85 ?_
        rw [shl1 (by omega)]
        refine v_icmp_ne 102 dX1_wordByWord_86 (by decide) (fun h86 => absurd rfl h86) (fun h86 => ?_)
        refine v_iload dX1_wordByWord_89 rfl ?_
        refine v_aload_n dX1_wordByWord_91 rfl ?_
        refine v_iload_n dX1_wordByWord_92 rfl ?_
        refine v_cV [_] (c7_truthN G M hs hW hc) k7_truth dX1_wordByWord_93 l1_46 (by first | exact hS.1 _ _ rfl | assumption) (by decide) rfl (Nat.le_of_ble_eq_true rfl) (Nat.le_of_ble_eq_true rfl) ?_
        refine v_cS [_, _] (c1_described G M hS10) k1_described dX1_wordByWord_96 l1_85 rfl (Nat.le_of_ble_eq_true rfl) (Nat.le_of_ble_eq_true rfl) ?_
        refine v_goto 103 dX1_wordByWord_99 (by decide) ?_
        refine v_iret dX1_wordByWord_103 rfl ?_
        exact ⟨rfl, rfl⟩
      · have hg : grO K c (f + 1) (dsc K c S) = -1 := by
          cases hI : (kn K 93).testBit c
          · exact grO_out hI _ _
          · rcases hor with h | h
            · exact absurd (pcn_one hF (hself hI) h) he
            · rw [grO, if_neg he, hgr, hfull h]; rfl
        rw [hg]
        generalize hgF : fitK K (dsc K c S) = F at *
        refine v_iload dX1_wordByWord_81 rfl ?_
        refine v_iconst 1 dX1_wordByWord_83 (by decide) ?_
        refine v_iload_n dX1_wordByWord_84 rfl ?_
        refine v_ishl dX1_wordByWord_85 ?_
        rw [shl1 (by omega)]
        refine v_icmp_ne 102 dX1_wordByWord_86 (by decide) (fun h86 => ?_) (fun h86 => absurd ((nI_eq (by omega) (by omega)).mp (Decidable.not_not.mp h86)) he)
        refine v_iconst (-1) dX1_wordByWord_102 (by decide) ?_
        refine v_iret dX1_wordByWord_103 rfl ?_
        exact ⟨rfl, rfl⟩
    by_cases hi : i < kn K 3
    · by_cases h1 : pcn (fitK K (dsc K c S)) ≤ 1
      · have e81 := end81 (Or.inl h1)
        generalize hgA : grO K c (f + 1) (dsc K c S) = A at *
        generalize hgF : fitK K (dsc K c S) = F at *
        refine v_iload dX1_wordByWord_19 rfl ?_
        refine v_aload_n dX1_wordByWord_21 rfl ?_
        refine v_getI 4 4 dX1_wordByWord_22 f1_58 (by first | exact hS.1 _ _ rfl | assumption) (by decide) ?_
        rw [e4, hW.p.2.2.1.1]
        refine v_icmp_ge 81 dX1_wordByWord_25 (by decide) (fun h25 => absurd ((nI_leI (by omega) (by omega)).mp h25) (by omega)) (fun h25 => ?_)
        refine v_iload dX1_wordByWord_28 rfl ?_
        refine v_cS [_] (cJ_bitCount G M _) kJ_bitCount dX1_wordByWord_30 l1_72 rfl (Nat.le_of_ble_eq_true rfl) (Nat.le_of_ble_eq_true rfl) ?_
        rw [bcI_n hF]
        refine v_iconst 1 dX1_wordByWord_33 (by decide) ?_
        refine v_icmp_le 81 dX1_wordByWord_34 (by decide) (fun h34 => ?_) (fun h34 => absurd (nI_le (b := 1) h1 (by decide)) h34)
        exact e81
      · have hne : ¬ fitK K (dsc K c S) = 2 ^ c := by
          intro z
          rw [z] at h1
          exact h1 (Nat.le_of_eq (pcn_two (by omega)))
        have hcon := c1_sharpest G M hS hp0 hW.p hF hv (fun v hv => wcN_le hW.p (by omega) _)
        cases hb : shS (fitK K (dsc K c S)) (aN M0 s K c) (xc K c) (kn K 3) with
        | none =>
          rw [hb] at hcon
          have hg : grO K c (f + 1) (dsc K c S) = -1 := by rw [grO, if_neg hne, hgr, hb]; rfl
          rw [hg]
          generalize hgF : fitK K (dsc K c S) = F at *
          refine v_iload dX1_wordByWord_19 rfl ?_
          refine v_aload_n dX1_wordByWord_21 rfl ?_
          refine v_getI 4 4 dX1_wordByWord_22 f1_58 (by first | exact hS.1 _ _ rfl | assumption) (by decide) ?_
          rw [e4, hW.p.2.2.1.1]
          refine v_icmp_ge 81 dX1_wordByWord_25 (by decide) (fun h25 => absurd ((nI_leI (by omega) (by omega)).mp h25) (by omega)) (fun h25 => ?_)
          refine v_iload dX1_wordByWord_28 rfl ?_
          refine v_cS [_] (cJ_bitCount G M _) kJ_bitCount dX1_wordByWord_30 l1_72 rfl (Nat.le_of_ble_eq_true rfl) (Nat.le_of_ble_eq_true rfl) ?_
          rw [bcI_n hF]
          refine v_iconst 1 dX1_wordByWord_33 (by decide) ?_
          refine v_icmp_le 81 dX1_wordByWord_34 (by decide) (fun h34 => absurd ((nI_leI (b := 1) (by omega) (by decide)).mp h34) h1) (fun h34 => ?_)
          refine v_aload_n dX1_wordByWord_37 rfl ?_
          refine v_aload_n dX1_wordByWord_38 rfl ?_
          refine v_iload dX1_wordByWord_39 rfl ?_
          refine v_cV [_, _] (hcon) k1_sharpest dX1_wordByWord_41 l1_81 (by first | exact hS.1 _ _ rfl | assumption) (by decide) rfl (Nat.le_of_ble_eq_true rfl) (Nat.le_of_ble_eq_true rfl) ?_
          refine v_istore dX1_wordByWord_44 rfl (by decide) ?_
          refine v_iload dX1_wordByWord_46 rfl ?_
          refine v_iconst (-1) dX1_wordByWord_48 (by decide) ?_
          refine v_icmp_ne 54 dX1_wordByWord_49 (by decide) (fun h49 => absurd rfl h49) (fun h49 => ?_)
          refine v_iconst (-1) dX1_wordByWord_52 (by decide) ?_
          refine v_iret dX1_wordByWord_53 rfl ?_
          exact ⟨rfl, rfl⟩
        | some b =>
          rw [hb] at hcon
          obtain ⟨b1, b2⟩ := shS_ok _ b hb
          have bS : S.testBit b = false := nt (fun z => by rw [← ha b (by omega), orb_in z] at b2; omega)
          have hcn2 := cnt_or bS (kn K 3)
          rw [if_pos b1] at hcn2
          have hnext := fun o7 => ih (S ||| 2 ^ b) (i + 1) o7 (Nat.or_lt_two_pow hSl (Nat.pow_lt_pow_right (by omega) b1)) (by omega) (by rw [ha b (by omega)]; omega)
          have hg : grO K c (f + 1) (dsc K c S) = grO K c f (dsc K c (S ||| 2 ^ b)) := by rw [grO, if_neg hne, hgr, hb]; rfl
          rw [hg]
          rw [ha b (by omega)] at hnext
          generalize hgA : grO K c f (dsc K c (S ||| 2 ^ b)) = A at *
          generalize hgF : fitK K (dsc K c S) = F at *
          have hvb := (hv b b1).1
          rw [show encO (some b) = nI b from rfl] at hcon
          refine v_iload dX1_wordByWord_19 rfl ?_
          refine v_aload_n dX1_wordByWord_21 rfl ?_
          refine v_getI 4 4 dX1_wordByWord_22 f1_58 (by first | exact hS.1 _ _ rfl | assumption) (by decide) ?_
          rw [e4, hW.p.2.2.1.1]
          refine v_icmp_ge 81 dX1_wordByWord_25 (by decide) (fun h25 => absurd ((nI_leI (by omega) (by omega)).mp h25) (by omega)) (fun h25 => ?_)
          refine v_iload dX1_wordByWord_28 rfl ?_
          refine v_cS [_] (cJ_bitCount G M _) kJ_bitCount dX1_wordByWord_30 l1_72 rfl (Nat.le_of_ble_eq_true rfl) (Nat.le_of_ble_eq_true rfl) ?_
          rw [bcI_n hF]
          refine v_iconst 1 dX1_wordByWord_33 (by decide) ?_
          refine v_icmp_le 81 dX1_wordByWord_34 (by decide) (fun h34 => absurd ((nI_leI (b := 1) (by omega) (by decide)).mp h34) h1) (fun h34 => ?_)
          refine v_aload_n dX1_wordByWord_37 rfl ?_
          refine v_aload_n dX1_wordByWord_38 rfl ?_
          refine v_iload dX1_wordByWord_39 rfl ?_
          refine v_cV [_, _] (hcon) k1_sharpest dX1_wordByWord_41 l1_81 (by first | exact hS.1 _ _ rfl | assumption) (by decide) rfl (Nat.le_of_ble_eq_true rfl) (Nat.le_of_ble_eq_true rfl) ?_
          refine v_istore dX1_wordByWord_44 rfl (by decide) ?_
          refine v_iload dX1_wordByWord_46 rfl ?_
          refine v_iconst (-1) dX1_wordByWord_48 (by decide) ?_
          refine v_icmp_ne 54 dX1_wordByWord_49 (by decide) (fun h49 => ?_) (fun h49 => absurd (Decidable.not_not.mp h49) (nI_m1 (by omega)))
          refine v_iload dX1_wordByWord_54 rfl ?_
          refine v_iconst 1 dX1_wordByWord_56 (by decide) ?_
          refine v_iload dX1_wordByWord_57 rfl ?_
          refine v_ishl dX1_wordByWord_59 ?_
          rw [shl1 (by omega)]
          refine v_ior dX1_wordByWord_60 ?_
          rw [nIor]
          refine v_istore dX1_wordByWord_61 rfl (by decide) ?_
          refine v_iload dX1_wordByWord_63 rfl ?_
          refine v_aload_n dX1_wordByWord_65 rfl ?_
          refine v_getR 1 1 _ dX1_wordByWord_66 f1_15 (by first | exact hS.1 _ _ rfl | assumption) (by decide) (by first | exact hS.2 _ _ _ rfl | exact hS'.2 _ _ _ rfl | assumption) ?_
          refine v_iload dX1_wordByWord_69 rfl ?_
          refine v_ialdN (b) dX1_wordByWord_71 (by first | exact hS.1 _ _ rfl | assumption) (by simp only [n_lit, pk_mul, nI_add]) ⟨by omega, by omega⟩ ?_
          rw [hvb]
          refine v_iand dX1_wordByWord_72 ?_
          rw [nIand]
          refine v_istore dX1_wordByWord_73 rfl (by decide) ?_
          refine v_iinc 1 dX1_wordByWord_75 rfl (by decide) rfl (by decide) ?_
          refine v_goto 19 dX1_wordByWord_78 (by decide) ?_
          (rw [nI_1]; exact hnext _)
    · have e81 := end81 (Or.inr (by omega))
      generalize hgA : grO K c (f + 1) (dsc K c S) = A at *
      generalize hgF : fitK K (dsc K c S) = F at *
      refine v_iload dX1_wordByWord_19 rfl ?_
      refine v_aload_n dX1_wordByWord_21 rfl ?_
      refine v_getI 4 4 dX1_wordByWord_22 f1_58 (by first | exact hS.1 _ _ rfl | assumption) (by decide) ?_
      rw [e4, hW.p.2.2.1.1]
      refine v_icmp_ge 81 dX1_wordByWord_25 (by decide) (fun h25 => ?_) (fun h25 => absurd (nI_le (by omega) (by omega)) h25)
      exact e81
theorem c1_wordByWord (hS : Sh M) {s p cd n : Nat} {K : Nat → Int32} (hs : Str M s K) (hp : Plr M p cd n K) (hW : WK K) (ha : Ap2 s p cd) {c : Nat} (hc : c < kn K 2) : Ct G Y1_wordByWord 8 0 0 [.ref 201, .ref p, .ref s, .int (nI c)] M (Rs (some (.int (grO K c 16 0))) (Sj Wde J202 M)) NX := by
  have h14 := hW.p.2.1.2
  have hs1 := hs.1.1
  have hp1 := hp.1.1
  refine Ct.of k1_wordByWord.1 (Nat.le_of_ble_eq_true rfl) ?_
  refine v_aload_n dX1_wordByWord_0 rfl ?_
  refine v_aload_n dX1_wordByWord_1 rfl ?_
  refine v_aload_n dX1_wordByWord_2 rfl ?_
  refine v_iload_n dX1_wordByWord_3 rfl ?_
  -- at 4: .invokevirtual 32
  refine v_scVv [_, _, _] (c1_weighNow G M hS hs hp hW ha.h203 hc) k1_weighNow dX1_wordByWord_4 l1_32 (hS.1 201 _ rfl) (by decide) rfl (Nat.le_of_ble_eq_true rfl) (Nat.le_of_ble_eq_true rfl) (fun M2 hM2 => ?_)
  have hS2 := hS.sm hM2.1
  have hs2 := hs.sj (sw_d hM2.1) (fun q k h1 h2 => Wde_o (ha.h203 q (Or.inl ⟨h1, h2⟩)) k)
  have hp2 := hp.sj (sw_d hM2.1) (fun k => nbeq_f (by have := ha.2 p (Or.inl ⟨by omega, by omega⟩); omega)) (fun q k hq => Wde_o (ha.h203 q (Or.inr hq)) k)
  have t2 := hs2.1.1
  have e0 : dsc K c 0 = 0 := by unfold dsc; rw [Nat.zero_and, show dif 0 (trH K c) = 0 from by apply Nat.eq_of_testBit_eq; intro i; rw [dif_bit, Nat.zero_testBit]; rfl]; rfl
  have ef : fitK K 0 = kn K 93 := by
    rw [← e0]
    have := mS_fit (a := aN M s K c) hW.p hW.i.2 (show 0 < 1024 by decide) (c := c) (fun w d hw hdd => agA_bit hs.2 hW.p _ hc hdd hw)
    refine this.symm.trans ?_
    apply Nat.eq_of_testBit_eq; intro i
    apply Bool.eq_iff_iff.mpr
    unfold mS
    rw [mF_bit]
    exact ⟨fun h => h.1, fun h => ⟨h, fun v _ hv => by rw [Nat.zero_testBit] at hv; cases hv⟩⟩
  have hpl := pcn_le (fitK K (dsc K c 0))
  have hcnt : ∀ n, cnt n (fun w => !(0 : Nat).testBit w) = n := by
    intro n
    induction n with
    | zero => rfl
    | succ n ih => rw [show ∀ p : Nat → Bool, cnt (n + 1) p = cnt n p + (if p n = true then 1 else 0) from fun _ => rfl, ih, Nat.zero_testBit]; rfl
  have l := l1_wbw G M2 hS2 hs.2 hp2 hs2 hW hc hM2.2 16 0 0 none (Nat.two_pow_pos _) (by rw [hcnt]; rfl) (by omega)
  rw [e0, ef] at l
  refine v_aload_n dX1_wordByWord_7 rfl ?_
  refine v_getI 7 5 dX1_wordByWord_8 f1_36 (by first | exact hS2.1 _ _ rfl | assumption) (by decide) ?_
  rw [hs2.2.2.2.1, hW.i.1]
  refine v_istore dX1_wordByWord_11 rfl (by decide) ?_
  refine v_iconst 0 dX1_wordByWord_13 (by decide) ?_
  refine v_istore dX1_wordByWord_14 rfl (by decide) ?_
  refine v_iconst 0 dX1_wordByWord_16 (by decide) ?_
  refine v_istore dX1_wordByWord_17 rfl (by decide) ?_
  skip
  exact V.post l (fun v M4 h => ⟨h.1, by rw [h.2]; exact sw_d hM2.1⟩) (fun _ _ h => h)
end D7
