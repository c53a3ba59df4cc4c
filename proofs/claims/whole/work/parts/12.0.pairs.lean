/-! ===== the class: Asker, pairs ===== -/
def pxI (I : Nat) (t : Nat → Nat) (c : Nat) : Nat → List Nat
  | 0 => []
  | d + 1 => pxI I t c d ++ (if (I.testBit c && I.testBit d) = true then [t c ^^^ t d] else [])
def pxO (I : Nat) (t : Nat → Nat) : Nat → List Nat
  | 0 => []
  | c + 1 => pxO I t c ++ pxI I t c c
def tri : Nat → Nat
  | 0 => 0
  | c + 1 => tri c + c
theorem pxI_len (I : Nat) (t : Nat → Nat) (c : Nat) : ∀ d, (pxI I t c d).length ≤ d := by
  intro d
  induction d with
  | zero => exact Nat.le_refl _
  | succ d ih =>
    rw [pxI, List.length_append]
    split
    · rw [List.length_singleton]; omega
    · rw [List.length_nil]; omega
theorem pxO_len (I : Nat) (t : Nat → Nat) : ∀ c, (pxO I t c).length ≤ tri c := by
  intro c
  induction c with
  | zero => exact Nat.le_refl _
  | succ c ih =>
    rw [pxO, List.length_append, tri]
    have := pxI_len I t c c
    omega
theorem tri_14 : ∀ c, c < 14 → tri c + c ≤ 91 := by decide
theorem pxI_mem {I : Nat} {t : Nat → Nat} {c x : Nat} : ∀ d, x ∈ pxI I t c d ↔ ∃ d', d' < d ∧ I.testBit c = true ∧ I.testBit d' = true ∧ x = t c ^^^ t d' := by
  intro d
  induction d with
  | zero =>
    constructor
    · intro h; cases h
    · rintro ⟨d', h, -⟩; omega
  | succ d ih =>
    rw [pxI, List.mem_append, ih]
    constructor
    · rintro (⟨d', h⟩ | h)
      · exact ⟨d', by omega, h.2⟩
      · split at h
        · rename_i hb
          rw [Bool.and_eq_true] at hb
          rw [List.mem_singleton] at h
          exact ⟨d, by omega, hb.1, hb.2, h⟩
        · cases h
    · rintro ⟨d', h1, h2, h3, h4⟩
      by_cases e : d' = d
      · subst e
        right
        rw [if_pos (by rw [h2, h3]; rfl), List.mem_singleton]
        exact h4
      · exact Or.inl ⟨d', by omega, h2, h3, h4⟩
theorem pxO_mem {I : Nat} {t : Nat → Nat} {x : Nat} : ∀ n, x ∈ pxO I t n ↔ ∃ c d, d < c ∧ c < n ∧ I.testBit c = true ∧ I.testBit d = true ∧ x = t c ^^^ t d := by
  intro n
  induction n with
  | zero =>
    constructor
    · intro h; cases h
    · rintro ⟨c, d, _, h, _⟩; omega
  | succ n ih =>
    rw [pxO, List.mem_append, ih, pxI_mem]
    constructor
    · rintro (⟨c, d, h1, h2, h3⟩ | ⟨d, h1, h3⟩)
      · exact ⟨c, d, h1, by omega, h3⟩
      · exact ⟨n, d, h1, by omega, h3⟩
    · rintro ⟨c, d, h1, h2, h3⟩
      by_cases e : c = n
      · subst e; exact Or.inr ⟨d, h1, h3⟩
      · exact Or.inl ⟨c, d, h1, by omega, h3⟩
theorem prtI_iff {K : Nat → Int32} {s a : Nat} : ∀ i b, prtI K s a i b = true ↔ ∀ b', b ≤ b' → b' < b + i → prtP K s a b' = false := by
  intro i
  induction i with
  | zero =>
    intro b
    exact ⟨fun _ b' h1 h2 => by omega, fun _ => rfl⟩
  | succ i ih =>
    intro b
    rw [prtI, Bool.and_eq_true, ih]
    constructor
    · rintro ⟨h1, h2⟩ b' h3 h4
      by_cases e : b' = b
      · subst e; simpa using h1
      · exact h2 b' (by omega) (by omega)
    · intro h
      exact ⟨by rw [h b (by omega) (by omega)]; rfl, fun b' h1 h2 => h b' (by omega) (by omega)⟩
theorem prtO_iff {K : Nat → Int32} {s : Nat} : ∀ i a, a + i = kn K 2 → (prtO K s i a = true ↔ ∀ a' b', a ≤ a' → a' < b' → b' < kn K 2 → prtP K s a' b' = false) := by
  intro i
  induction i with
  | zero =>
    intro a ha
    exact ⟨fun _ a' b' h1 h2 h3 => by omega, fun _ => rfl⟩
  | succ i ih =>
    intro a ha
    rw [prtO, Bool.and_eq_true, ih (a + 1) (by omega), prtI_iff]
    constructor
    · rintro ⟨h1, h2⟩ a' b' h3 h4 h5
      by_cases e : a' = a
      · subst e; exact h1 b' (by omega) (by omega)
      · exact h2 a' b' (by omega) h4 h5
    · intro h
      exact ⟨fun b' h1 h2 => h a b' (by omega) (by omega) (by omega), fun a' b' h1 h2 h3 => h a' b' (by omega) h2 h3⟩
theorem px_prt {K : Nat → Int32} (hW : WK K) (s : Nat) : (∀ x, x ∈ pxO (kn K 93) (trH K) 14 → ¬ x &&& s = 0) ↔ prtA K s = true := by
  have h14 := hW.p.2.1.2
  unfold prtA
  rw [prtO_iff (kn K 2) 0 (by omega)]
  constructor
  · intro h a b _ h1 h2
    cases hp : prtP K s a b
    · rfl
    · exfalso
      unfold prtP at hp
      rw [Bool.and_eq_true, Bool.and_eq_true, decide_eq_true_eq] at hp
      refine h (trH K b ^^^ trH K a) ((pxO_mem 14).mpr ⟨b, a, h1, by omega, hp.1.2, hp.1.1, rfl⟩) ?_
      rw [Nat.xor_comm]; exact hp.2
  · intro h x hx hz
    obtain ⟨c, d, h1, h2, h3, h4, rfl⟩ := (pxO_mem 14).mp hx
    have hc : c < kn K 2 := Nat.lt_of_not_le (fun z => by rw [testBit_big hW.i.2 z] at h3; cases h3)
    have := h d c (Nat.zero_le _) h1 hc
    unfold prtP at this
    rw [h3, h4, decide_eq_true (by rw [Nat.xor_comm]; exact hz)] at this
    cases this
/-- the list stands in an array -/
def LsA (M : mM) (q : Nat) (L : List Nat) : Prop := ∀ j x, L[j]? = some x → gI M q j = nI x
theorem LsA.put {M : mM} {q : Nat} {L : List Nat} (h : LsA M q L) (x : Nat) : LsA (sI M q L.length (nI x)) q (L ++ [x]) := by
  intro j y hy
  rw [List.getElem?_append] at hy
  by_cases e : j < L.length
  · rw [if_pos e] at hy
    rw [gI_sk _ _ (by omega)]
    exact h j y hy
  · rw [if_neg e] at hy
    have e2 : j - L.length = 0 := by
      cases hz : j - L.length with
      | zero => rfl
      | succ k => rw [hz] at hy; cases hy
    rw [e2] at hy
    cases hy
    rw [show j = L.length by omega]
    exact gI_ss _ _ _ _
def Wdf (q _k : Nat) : Bool := Nat.beq q 208
section A0
variable (G : mG) (M : mM)
theorem l0_lp1 (hS : Sh M) {s : Nat} {K : Nat → Int32} (hs : Str M s K) (hW : WK K) (hap : s + 5 < 205 ∨ 208 < s) {Q : Option Value → mM → Prop} {c : Nat} (hc : c < 14)
    (kk : ∀ M', Sm Wdf M M' → LsA M' 208 (pxO (kn K 93) (trH K) (c + 1)) → V G Y0_learnPairs 5 0 0 Q NX 72 [some (.ref 205), some (.ref s), some (.int (nI (pxO (kn K 93) (trH K) (c + 1)).length)), some (.int (nI c)), some (.int (nI c))] [] M') :
    ∀ i d M' L, d + i = c → Sm Wdf M M' → L = pxO (kn K 93) (trH K) c ++ pxI (kn K 93) (trH K) c d → LsA M' 208 L → V G Y0_learnPairs 5 0 0 Q NX 13 [some (.ref 205), some (.ref s), some (.int (nI L.length)), some (.int (nI c)), some (.int (nI d))] [] M' := by
  have hbit : ∀ c, (kn K 93).testBit c = true → c < kn K 2 := fun c h => Nat.lt_of_not_le (fun z => by rw [testBit_big hW.i.2 z] at h; cases h)
  intro i
  induction i with
  | zero =>
    intro d M' L hd hM eL hL
    have hS' := hS.sm hM
    obtain rfl : d = c := by omega
    have e : L = pxO (kn K 93) (trH K) (d + 1) := eL
    subst e
    have k2 := kk M' hM hL
    generalize (pxO (kn K 93) (trH K) (d + 1)).length = n at *
    refine v_iload dX0_learnPairs_13 rfl ?_
    refine v_iload_n dX0_learnPairs_15 rfl ?_
    refine v_icmp_ge 72 dX0_learnPairs_16 (by decide) (fun h16 => ?_) (fun h16 => absurd (nI_le (Nat.le_refl _) (by omega)) h16)
    exact k2
  | succ i ih =>
    intro d M' L hd hM eL hL
    have hS' := hS.sm hM
    have hs' := hs.mv hM.2.1 hM.2.2.2.1 (fun q h1 h2 => hM.row (fun k => nbeq_f (by omega)))
    have hs1 := hs'.1.1
    have hlen : L.length < 91 := by
      have h1 := pxO_len (kn K 93) (trH K) c
      have h2 := pxI_len (kn K 93) (trH K) c d
      have h3 := tri_14 c hc
      rw [eL, List.length_append]
      omega
    have hb1 := c7_isIn G M' hs' hW (c := c) (by omega)
    have hb2 := c7_isIn G M' hs' hW (c := d) (by omega)
    by_cases h1 : (kn K 93).testBit c = true
    · rw [bI_t h1] at hb1
      by_cases h2 : (kn K 93).testBit d = true
      · rw [bI_t h2] at hb2
        have e2 : L ++ [trH K c ^^^ trH K d] = pxO (kn K 93) (trH K) c ++ pxI (kn K 93) (trH K) c (d + 1) := by rw [pxI, if_pos (by rw [h1, h2]; rfl), eL, List.append_assoc]
        have hn := ih (d + 1) _ (L ++ [trH K c ^^^ trH K d]) (by omega) (hM.st (q := 208) (k := L.length) (nI (trH K c ^^^ trH K d)) rfl) e2 (hL.put _)
        rw [List.length_append, List.length_singleton] at hn
        generalize L.length = n at *
        refine v_iload dX0_learnPairs_13 rfl ?_
        refine v_iload_n dX0_learnPairs_15 rfl ?_
        refine v_icmp_ge 72 dX0_learnPairs_16 (by decide) (fun h16 => absurd ((nI_leI (by omega) (by omega)).mp h16) (by omega)) (fun h16 => ?_)
        refine v_iload_n dX0_learnPairs_19 rfl ?_
        refine v_aload_n dX0_learnPairs_20 rfl ?_
        refine v_getR 0 2 _ dX0_learnPairs_21 f0_19 (by first | exact hS'.1 _ _ rfl | exact hS.1 _ _ rfl | assumption) (by decide) (by first | exact hS'.2 _ _ _ rfl | exact hS.2 _ _ _ rfl | assumption) ?_
        refine v_alen dX0_learnPairs_24 (by first | exact hS'.1 _ _ rfl | exact hS.1 _ _ rfl | assumption) (by decide) ?_
        refine v_icmp_ge 72 dX0_learnPairs_25 (by decide) (fun h25 => absurd ((nI_leI (a := 91) (by decide) (by omega)).mp h25) (by omega)) (fun h25 => ?_)
        refine v_aload_n dX0_learnPairs_28 rfl ?_
        refine v_iload_n dX0_learnPairs_29 rfl ?_
        refine v_cV [_] (hb1) k7_isIn dX0_learnPairs_30 l0_42 (by first | exact hS'.1 _ _ rfl | exact hS.1 _ _ rfl | assumption) (by decide) rfl (Nat.le_of_ble_eq_true rfl) (Nat.le_of_ble_eq_true rfl) ?_
        refine v_if_eq 66 dX0_learnPairs_33 (by decide) (fun h33 => absurd h33 (by decide)) (fun h33 => ?_)
        refine v_aload_n dX0_learnPairs_36 rfl ?_
        refine v_iload dX0_learnPairs_37 rfl ?_
        refine v_cV [_] (hb2) k7_isIn dX0_learnPairs_39 l0_42 (by first | exact hS'.1 _ _ rfl | exact hS.1 _ _ rfl | assumption) (by decide) rfl (Nat.le_of_ble_eq_true rfl) (Nat.le_of_ble_eq_true rfl) ?_
        refine v_if_eq 66 dX0_learnPairs_42 (by decide) (fun h42 => absurd h42 (by decide)) (fun h42 => ?_)
        refine v_aload_n dX0_learnPairs_45 rfl ?_
        refine v_getR 0 2 _ dX0_learnPairs_46 f0_19 (by first | exact hS'.1 _ _ rfl | exact hS.1 _ _ rfl | assumption) (by decide) (by first | exact hS'.2 _ _ _ rfl | exact hS.2 _ _ _ rfl | assumption) ?_
        refine v_iload_n dX0_learnPairs_49 rfl ?_
        refine v_aload_n dX0_learnPairs_50 rfl ?_
        refine v_iload_n dX0_learnPairs_51 rfl ?_
        refine v_cV [_] (c7_truthN G M' hs' hW (hbit c h1)) k7_truth dX0_learnPairs_52 l0_48 (by first | exact hS'.1 _ _ rfl | exact hS.1 _ _ rfl | assumption) (by decide) rfl (Nat.le_of_ble_eq_true rfl) (Nat.le_of_ble_eq_true rfl) ?_
        refine v_aload_n dX0_learnPairs_55 rfl ?_
        refine v_iload dX0_learnPairs_56 rfl ?_
        refine v_cV [_] (c7_truthN G M' hs' hW (hbit d h2)) k7_truth dX0_learnPairs_58 l0_48 (by first | exact hS'.1 _ _ rfl | exact hS.1 _ _ rfl | assumption) (by decide) rfl (Nat.le_of_ble_eq_true rfl) (Nat.le_of_ble_eq_true rfl) ?_
        refine v_ixor dX0_learnPairs_61 ?_
        skip
        refine v_iastN n dX0_learnPairs_62 (hS'.1 208 _ rfl) rfl ⟨by omega, by decide⟩ ?_
        refine v_iinc 1 dX0_learnPairs_63 rfl (by decide) rfl (by decide) ?_
        refine v_iinc 1 dX0_learnPairs_66 rfl (by decide) rfl (by decide) ?_
        refine v_goto 13 dX0_learnPairs_69 (by decide) ?_
        -- at 13: .iload 4
        rw [nI_1, nI_1, nIxor]
        exact hn
      · rw [bI_f h2] at hb2
        have e2 : L = pxO (kn K 93) (trH K) c ++ pxI (kn K 93) (trH K) c (d + 1) := by rw [pxI, if_neg (by rw [nt h2, Bool.and_false]; decide), List.append_nil, eL]
        have hn := ih (d + 1) _ L (by omega) hM e2 hL
        generalize L.length = n at *
        refine v_iload dX0_learnPairs_13 rfl ?_
        refine v_iload_n dX0_learnPairs_15 rfl ?_
        refine v_icmp_ge 72 dX0_learnPairs_16 (by decide) (fun h16 => absurd ((nI_leI (by omega) (by omega)).mp h16) (by omega)) (fun h16 => ?_)
        refine v_iload_n dX0_learnPairs_19 rfl ?_
        refine v_aload_n dX0_learnPairs_20 rfl ?_
        refine v_getR 0 2 _ dX0_learnPairs_21 f0_19 (by first | exact hS'.1 _ _ rfl | exact hS.1 _ _ rfl | assumption) (by decide) (by first | exact hS'.2 _ _ _ rfl | exact hS.2 _ _ _ rfl | assumption) ?_
        refine v_alen dX0_learnPairs_24 (by first | exact hS'.1 _ _ rfl | exact hS.1 _ _ rfl | assumption) (by decide) ?_
        refine v_icmp_ge 72 dX0_learnPairs_25 (by decide) (fun h25 => absurd ((nI_leI (a := 91) (by decide) (by omega)).mp h25) (by omega)) (fun h25 => ?_)
        refine v_aload_n dX0_learnPairs_28 rfl ?_
        refine v_iload_n dX0_learnPairs_29 rfl ?_
        refine v_cV [_] (hb1) k7_isIn dX0_learnPairs_30 l0_42 (by first | exact hS'.1 _ _ rfl | exact hS.1 _ _ rfl | assumption) (by decide) rfl (Nat.le_of_ble_eq_true rfl) (Nat.le_of_ble_eq_true rfl) ?_
        refine v_if_eq 66 dX0_learnPairs_33 (by decide) (fun h33 => absurd h33 (by decide)) (fun h33 => ?_)
        refine v_aload_n dX0_learnPairs_36 rfl ?_
        refine v_iload dX0_learnPairs_37 rfl ?_
        refine v_cV [_] (hb2) k7_isIn dX0_learnPairs_39 l0_42 (by first | exact hS'.1 _ _ rfl | exact hS.1 _ _ rfl | assumption) (by decide) rfl (Nat.le_of_ble_eq_true rfl) (Nat.le_of_ble_eq_true rfl) ?_
        refine v_if_eq 66 dX0_learnPairs_42 (by decide) (fun h42 => ?_) (fun h42 => absurd rfl h42)
        refine v_iinc 1 dX0_learnPairs_66 rfl (by decide) rfl (by decide) ?_
        refine v_goto 13 dX0_learnPairs_69 (by decide) ?_
        (rw [nI_1]; exact hn)
    · rw [bI_f h1] at hb1
      have e2 : L = pxO (kn K 93) (trH K) c ++ pxI (kn K 93) (trH K) c (d + 1) := by rw [pxI, if_neg (by rw [nt h1, Bool.false_and]; decide), List.append_nil, eL]
      have hn := ih (d + 1) _ L (by omega) hM e2 hL
      generalize L.length = n at *
      refine v_iload dX0_learnPairs_13 rfl ?_
      refine v_iload_n dX0_learnPairs_15 rfl ?_
      refine v_icmp_ge 72 dX0_learnPairs_16 (by decide) (fun h16 => absurd ((nI_leI (by omega) (by omega)).mp h16) (by omega)) (fun h16 => ?_)
      refine v_iload_n dX0_learnPairs_19 rfl ?_
      refine v_aload_n dX0_learnPairs_20 rfl ?_
      refine v_getR 0 2 _ dX0_learnPairs_21 f0_19 (by first | exact hS'.1 _ _ rfl | exact hS.1 _ _ rfl | assumption) (by decide) (by first | exact hS'.2 _ _ _ rfl | exact hS.2 _ _ _ rfl | assumption) ?_
      refine v_alen dX0_learnPairs_24 (by first | exact hS'.1 _ _ rfl | exact hS.1 _ _ rfl | assumption) (by decide) ?_
      refine v_icmp_ge 72 dX0_learnPairs_25 (by decide) (fun h25 => absurd ((nI_leI (a := 91) (by decide) (by omega)).mp h25) (by omega)) (fun h25 => ?_)
      refine v_aload_n dX0_learnPairs_28 rfl ?_
      refine v_iload_n dX0_learnPairs_29 rfl ?_
      refine v_cV [_] (hb1) k7_isIn dX0_learnPairs_30 l0_42 (by first | exact hS'.1 _ _ rfl | exact hS.1 _ _ rfl | assumption) (by decide) rfl (Nat.le_of_ble_eq_true rfl) (Nat.le_of_ble_eq_true rfl) ?_
      refine v_if_eq 66 dX0_learnPairs_33 (by decide) (fun h33 => ?_) (fun h33 => absurd rfl h33)
      refine v_iinc 1 dX0_learnPairs_66 rfl (by decide) rfl (by decide) ?_
      refine v_goto 13 dX0_learnPairs_69 (by decide) ?_
      (rw [nI_1]; exact hn)
theorem l0_lp2 (hS : Sh M) {s : Nat} {K : Nat → Int32} (hs : Str M s K) (hW : WK K) (hap : s + 5 < 205 ∨ 208 < s) : ∀ i c M' (o : Option Value), c + i = 14 → Sm Wdf M M' → LsA M' 208 (pxO (kn K 93) (trH K) c) → V G Y0_learnPairs 5 0 0 (Rs (some (.int (nI (pxO (kn K 93) (trH K) 14).length))) (fun M' => Sm Wdf M M' ∧ LsA M' 208 (pxO (kn K 93) (trH K) 14))) NX 4 [some (.ref 205), some (.ref s), some (.int (nI (pxO (kn K 93) (trH K) c).length)), some (.int (nI c)), o] [] M' := by
  intro i
  induction i with
  | zero =>
    intro c M' o hc hM hL
    obtain rfl : c = 14 := by omega
    generalize hn : (pxO (kn K 93) (trH K) 14).length = n at *
    refine v_iload_n dX0_learnPairs_4 rfl ?_
    refine v_bipush 14 dX0_learnPairs_5 (by decide) ?_
    refine v_icmp_ge 78 dX0_learnPairs_7 (by decide) (fun h7 => ?_) (fun h7 => absurd (by decide) h7)
    refine v_iload_n dX0_learnPairs_78 rfl ?_
    refine v_iret dX0_learnPairs_79 rfl ?_
    exact ⟨rfl, hM, hL⟩
  | succ i ih =>
    intro c M' o hc hM hL
    have hS' := hS.sm hM
    have hs' := hs.mv hM.2.1 hM.2.2.2.1 (fun q h1 h2 => hM.row (fun k => nbeq_f (by omega)))
    refine v_iload_n dX0_learnPairs_4 rfl ?_
    refine v_bipush 14 dX0_learnPairs_5 (by decide) ?_
    refine v_icmp_ge 78 dX0_learnPairs_7 (by decide) (fun h7 => absurd ((nI_leI (a := 14) (by decide) (by omega)).mp h7) (by omega)) (fun h7 => ?_)
    refine v_iconst 0 dX0_learnPairs_10 (by decide) ?_
    refine v_istore dX0_learnPairs_11 rfl (by decide) ?_
    skip
    refine l0_lp1 G M' hS' hs' hW hap (by omega) (fun M2 hM2 hL2 => ?_) c 0 M' _ (by omega) Sm.rf (List.append_nil _).symm hL
    refine v_iinc 1 dX0_learnPairs_72 rfl (by decide) rfl (by decide) ?_
    refine v_goto 4 dX0_learnPairs_75 (by decide) ?_
    -- at 4: .iload_n 3
    rw [nI_1]
    exact ih (c + 1) M2 _ (by omega) (hM.tr hM2) hL2
theorem c0_learnPairs (hS : Sh M) {s : Nat} {K : Nat → Int32} (hs : Str M s K) (hW : WK K) (hap : s + 5 < 205 ∨ 208 < s) : Ct G Y0_learnPairs 5 0 0 [.ref 205, .ref s] M (Rs (some (.int (nI (pxO (kn K 93) (trH K) 14).length))) (fun M' => Sm Wdf M M' ∧ LsA M' 208 (pxO (kn K 93) (trH K) 14))) NX := by
  refine Ct.of k0_learnPairs.1 (Nat.le_of_ble_eq_true rfl) ?_
  refine v_iconst 0 dX0_learnPairs_0 (by decide) ?_
  refine v_istore_n dX0_learnPairs_1 rfl (by decide) ?_
  refine v_iconst 1 dX0_learnPairs_2 (by decide) ?_
  refine v_istore_n dX0_learnPairs_3 rfl (by decide) ?_
  -- at 4: .iload_n 3
  refine v_pad ?_
  exact l0_lp2 G M hS hs hW hap 13 1 M none (by omega) Sm.rf (fun j x h => by cases h)
theorem l0_partsAll (hS : Sh M) {s : Nat} {L : List Nat} (hL : LsA M 208 L) (hl : L.length ≤ 91) (hb : ∀ x, x ∈ L → x < 1024) {R : Bool} : ∀ i j, j + i = L.length → (R = true ↔ ∀ k x, j ≤ k → L[k]? = some x → ¬ x &&& s = 0) → V G Y0_partsAll 4 0 0 (Rv (some (.int (bI (R = true)))) M) NX 2 [some (.ref 205), some (.int (nI s)), some (.int (nI L.length)), some (.int (nI j))] [] M := by
  intro i
  induction i with
  | zero =>
    intro j hj hR
    obtain rfl : j = L.length := by omega
    rw [bI_t (hR.mpr (fun k x h1 h2 => by rw [List.getElem?_eq_none h1] at h2; cases h2))]
    generalize L.length = n at *
    refine v_iload_n dX0_partsAll_2 rfl ?_
    refine v_iload_n dX0_partsAll_3 rfl ?_
    refine v_icmp_ge 26 dX0_partsAll_4 (by decide) (fun h4 => ?_) (fun h4 => absurd (nI_le (Nat.le_refl _) (by omega)) h4)
    refine v_iconst 1 dX0_partsAll_26 (by decide) ?_
    refine v_zret dX0_partsAll_27 rfl (by first | rfl | exact bI_nb _ | assumption) ?_
    exact ⟨rfl, rfl⟩
  | succ i ih =>
    intro j hj hR
    obtain ⟨x, hx⟩ : ∃ x, L[j]? = some x := ⟨_, List.getElem?_eq_getElem (by omega)⟩
    have hx2 := hL j x hx
    have hx3 := hb x (List.mem_of_getElem? hx)
    have hx4 : x &&& s ≤ x := Nat.and_le_left
    by_cases h0 : x &&& s = 0
    · have hRf : ¬ R = true := fun z => hR.mp z j x (Nat.le_refl _) hx h0
      rw [bI_f hRf]
      generalize L.length = n at *
      refine v_iload_n dX0_partsAll_2 rfl ?_
      refine v_iload_n dX0_partsAll_3 rfl ?_
      refine v_icmp_ge 26 dX0_partsAll_4 (by decide) (fun h4 => absurd ((nI_leI (by omega) (by omega)).mp h4) (by omega)) (fun h4 => ?_)
      refine v_aload_n dX0_partsAll_7 rfl ?_
      refine v_getR 0 2 _ dX0_partsAll_8 f0_19 (by first | exact hS'.1 _ _ rfl | exact hS.1 _ _ rfl | assumption) (by decide) (by first | exact hS'.2 _ _ _ rfl | exact hS.2 _ _ _ rfl | assumption) ?_
      refine v_iload_n dX0_partsAll_11 rfl ?_
      refine v_ialdN (j) dX0_partsAll_12 (by first | exact hS'.1 _ _ rfl | exact hS.1 _ _ rfl | assumption) (by simp only [n_lit, pk_mul, nI_add]) ⟨by omega, by omega⟩ ?_
      rw [hx2]
      refine v_iload_n dX0_partsAll_13 rfl ?_
      refine v_iand dX0_partsAll_14 ?_
      rw [nIand, h0]
      refine v_if_ne 20 dX0_partsAll_15 (by decide) (fun h15 => absurd rfl h15) (fun h15 => ?_)
      refine v_iconst 0 dX0_partsAll_18 (by decide) ?_
      refine v_zret dX0_partsAll_19 rfl (by first | rfl | exact bI_nb _ | assumption) ?_
      exact ⟨rfl, rfl⟩
    · have hn := ih (j + 1) (by omega) (hR.trans ⟨fun h k y h1 h2 => h k y (by omega) h2, fun h k y h1 h2 => by
        by_cases e : k = j
        · subst e; rw [hx] at h2; cases h2; exact h0
        · exact h k y (by omega) h2⟩)
      generalize L.length = n at *
      refine v_iload_n dX0_partsAll_2 rfl ?_
      refine v_iload_n dX0_partsAll_3 rfl ?_
      refine v_icmp_ge 26 dX0_partsAll_4 (by decide) (fun h4 => absurd ((nI_leI (by omega) (by omega)).mp h4) (by omega)) (fun h4 => ?_)
      refine v_aload_n dX0_partsAll_7 rfl ?_
      refine v_getR 0 2 _ dX0_partsAll_8 f0_19 (by first | exact hS'.1 _ _ rfl | exact hS.1 _ _ rfl | assumption) (by decide) (by first | exact hS'.2 _ _ _ rfl | exact hS.2 _ _ _ rfl | assumption) ?_
      refine v_iload_n dX0_partsAll_11 rfl ?_
      refine v_ialdN (j) dX0_partsAll_12 (by first | exact hS'.1 _ _ rfl | exact hS.1 _ _ rfl | assumption) (by simp only [n_lit, pk_mul, nI_add]) ⟨by omega, by omega⟩ ?_
      rw [hx2]
      refine v_iload_n dX0_partsAll_13 rfl ?_
      refine v_iand dX0_partsAll_14 ?_
      rw [nIand]
      refine v_if_ne 20 dX0_partsAll_15 (by decide) (fun h15 => ?_) (fun h15 => absurd ((nI0 (by omega)).mp (Decidable.not_not.mp h15)) h0)
      refine v_iinc 1 dX0_partsAll_20 rfl (by decide) rfl (by decide) ?_
      refine v_goto 2 dX0_partsAll_23 (by decide) ?_
      (rw [nI_1]; exact hn)
theorem pxO_lt {K : Nat → Int32} (hW : WK K) : ∀ x, x ∈ pxO (kn K 93) (trH K) 14 → x < 1024 := by
  intro x hx
  obtain ⟨c, d, -, -, -, -, rfl⟩ := (pxO_mem 14).mp hx
  exact Nat.xor_lt_two_pow (n := 10) (trN_lt hW.p (litB K) c) (trN_lt hW.p (litB K) d)
theorem c0_partsAll (hS : Sh M) {K : Nat → Int32} (hW : WK K) (hL : LsA M 208 (pxO (kn K 93) (trH K) 14)) (s : Nat) : Ct G Y0_partsAll 4 0 0 [.ref 205, .int (nI s), .int (nI (pxO (kn K 93) (trH K) 14).length)] M (Rv (some (.int (bI (prtA K s = true)))) M) NX := by
  have hl := pxO_len (kn K 93) (trH K) 14
  have h91 : tri 14 = 91 := by decide
  refine Ct.of k0_partsAll.1 (Nat.le_of_ble_eq_true rfl) ?_
  refine v_iconst 0 dX0_partsAll_0 (by decide) ?_
  refine v_istore_n dX0_partsAll_1 rfl (by decide) ?_
  -- at 2: .iload_n 3
  refine l0_partsAll G M hS hL (by omega) (pxO_lt hW) _ 0 (Nat.zero_add _) ?_
  rw [← px_prt hW]
  constructor
  · intro h k x _ hx; exact h x (List.mem_of_getElem? hx)
  · intro h x hx
    obtain ⟨k, hk⟩ := List.getElem?_of_mem hx
    exact h k x (Nat.zero_le _) hk
end A0
