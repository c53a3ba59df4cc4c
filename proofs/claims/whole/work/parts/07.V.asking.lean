/-! ===== the reference: asking ===== -/
theorem mod2_and (a b : Nat) : (a &&& b) % 2 = (a % 2) * (b % 2) := by
  have h1 := Nat.testBit_and a b 0
  rw [Nat.testBit_zero, Nat.testBit_zero, Nat.testBit_zero] at h1
  have ha := Nat.mod_two_eq_zero_or_one a
  have hb := Nat.mod_two_eq_zero_or_one b
  have hc := Nat.mod_two_eq_zero_or_one (a &&& b)
  rcases ha with ha | ha <;> rcases hb with hb | hb <;> rcases hc with hc | hc <;> simp [ha, hb, hc] at h1 ⊢
theorem mod2_dif (a b : Nat) : dif a b % 2 = (a % 2) * (1 - b % 2) := by
  have h1 := dif_bit a b 0
  rw [Nat.testBit_zero, Nat.testBit_zero, Nat.testBit_zero] at h1
  have ha := Nat.mod_two_eq_zero_or_one a
  have hb := Nat.mod_two_eq_zero_or_one b
  have hc := Nat.mod_two_eq_zero_or_one (dif a b)
  rcases ha with ha | ha <;> rcases hb with hb | hb <;> rcases hc with hc | hc <;> simp [ha, hb, hc] at h1 ⊢
theorem div2_and (a b : Nat) : (a &&& b) / 2 = a / 2 &&& b / 2 := by
  apply Nat.eq_of_testBit_eq
  intro i
  rw [Nat.testBit_and, Nat.testBit_div_two, Nat.testBit_div_two, Nat.testBit_div_two, Nat.testBit_and]
theorem div2_dif (a b : Nat) : dif a b / 2 = dif (a / 2) (b / 2) := by
  apply Nat.eq_of_testBit_eq
  intro i
  rw [dif_bit, Nat.testBit_div_two, Nat.testBit_div_two, Nat.testBit_div_two, dif_bit]
theorem pcf_split : ∀ n S h, pcf n (S &&& h) + pcf n (dif S h) = pcf n S := by
  intro n
  induction n with
  | zero => intro S h; rfl
  | succ n ih =>
    intro S h
    simp only [pcf]
    rw [mod2_and, mod2_dif, div2_and, div2_dif]
    have := ih (S / 2) (h / 2)
    rcases Nat.mod_two_eq_zero_or_one S with hs | hs <;> rcases Nat.mod_two_eq_zero_or_one h with hh | hh <;> simp [hs, hh] <;> omega
theorem pcn_split (S h : Nat) : pcn (S &&& h) + pcn (dif S h) = pcn S := pcf_split 14 S h
theorem pcf_0 : ∀ n S, S < 2 ^ n → pcf n S = 0 → S = 0 := by
  intro n
  induction n with
  | zero => intro S h _; omega
  | succ n ih =>
    intro S h h0
    simp only [pcf] at h0
    have := ih (S / 2) (by rw [Nat.pow_succ] at h; omega) (by omega)
    omega
theorem pcn_e0 {S : Nat} (h : S < 16384) (h0 : pcn S = 0) : S = 0 := pcf_0 14 S h h0
theorem pcn_p {S : Nat} (h : S < 16384) (h0 : S ≠ 0) : 0 < pcn S := Nat.pos_of_ne_zero (fun z => h0 (pcn_e0 h z))
def prt (K : Nat → Int32) (S w : Nat) : Nat := bset (kn K 2) (fun c => S.testBit c && (trH K c).testBit w)
def aqB (f : Nat → Nat) (K : Nat → Int32) (S w : Nat) : Nat := if prt K S w = 0 ∨ prt K S w = S then 536870912 else 1 + max (f (prt K S w)) (f (dif S (prt K S w)))
def aqM (g : Nat → Nat) : Nat → Nat
  | 0 => 536870912
  | w + 1 => min (aqM g w) (g w)
def aqF (K : Nat → Int32) : Nat → Nat → Nat
  | 0, _ => 0
  | f + 1, S => if pcn S < 2 then 0 else aqM (aqB (aqF K f) K S) (kn K 3)
/-- how many questions a set needs -/
def aq (K : Nat → Int32) (S : Nat) : Nat := aqF K (pcn S) S
theorem aqM_cong {g g' : Nat → Nat} : ∀ w, (∀ k, k < w → g k = g' k) → aqM g w = aqM g' w := by
  intro w
  induction w with
  | zero => intro _; rfl
  | succ w ih => intro h; simp only [aqM]; rw [ih (fun k hk => h k (by omega)), h w (by omega)]
theorem aqM_le (g : Nat → Nat) : ∀ w, aqM g w ≤ 536870912 := by
  intro w
  induction w with
  | zero => exact Nat.le_refl _
  | succ w ih => simp only [aqM]; omega
theorem prt_lt {K : Nat → Int32} (h14 : kn K 2 ≤ 14) (S w : Nat) : prt K S w < 16384 := Nat.lt_of_lt_of_le (bset_lt _ _) (show 2 ^ kn K 2 ≤ 2 ^ 14 from Nat.pow_le_pow_right (by omega) h14)
theorem prt_sub (K : Nat → Int32) (S w : Nat) : S &&& prt K S w = prt K S w := by
  apply Nat.eq_of_testBit_eq
  intro i
  unfold prt
  rw [Nat.testBit_and, bset_bit]
  cases S.testBit i <;> simp
theorem dif_lt {S h : Nat} (hS : S < 16384) : dif S h < 16384 := dif_le S h (n := 14) hS
theorem prt_pc {K : Nat → Int32} (h14 : kn K 2 ≤ 14) {S w : Nat} (hS : S < 16384) (h0 : ¬ (prt K S w = 0 ∨ prt K S w = S)) : pcn (prt K S w) < pcn S ∧ pcn (dif S (prt K S w)) < pcn S := by
  have hs := pcn_split S (prt K S w)
  rw [prt_sub] at hs
  have h1 := pcn_p (prt_lt h14 S w) (fun z => h0 (Or.inl z))
  have h2 : 0 < pcn (dif S (prt K S w)) := by
    refine pcn_p (dif_lt hS) (fun z => h0 (Or.inr ?_))
    apply Nat.eq_of_testBit_eq
    intro i
    have hb : (dif S (prt K S w)).testBit i = false := by rw [z, Nat.zero_testBit]
    have hc : (S &&& prt K S w).testBit i = (prt K S w).testBit i := by rw [prt_sub]
    rw [dif_bit] at hb
    rw [Nat.testBit_and] at hc
    revert hb hc
    cases S.testBit i <;> cases (prt K S w).testBit i <;> simp
  omega
theorem aqF_st {K : Nat → Int32} (h14 : kn K 2 ≤ 14) : ∀ n S, S < 16384 → pcn S ≤ n → ∀ f g, n ≤ f → n ≤ g → aqF K f S = aqF K g S := by
  intro n
  induction n with
  | zero =>
    intro S hS hp f g _ _
    have : pcn S < 2 := by omega
    cases f <;> cases g <;> simp [aqF, this]
  | succ n ih =>
    intro S hS hp f g hf hg
    obtain ⟨f, rfl⟩ : ∃ f', f = f' + 1 := ⟨f - 1, by omega⟩
    obtain ⟨g, rfl⟩ : ∃ g', g = g' + 1 := ⟨g - 1, by omega⟩
    simp only [aqF]
    by_cases h2 : pcn S < 2
    · rw [if_pos h2, if_pos h2]
    · rw [if_neg h2, if_neg h2]
      apply aqM_cong
      intro w _
      unfold aqB
      by_cases hy : prt K S w = 0 ∨ prt K S w = S
      · rw [if_pos hy, if_pos hy]
      · rw [if_neg hy, if_neg hy]
        have := prt_pc h14 hS hy
        rw [ih _ (prt_lt h14 S w) (by omega) f g (by omega) (by omega), ih _ (dif_lt hS) (by omega) f g (by omega) (by omega)]
theorem aq_1 {K : Nat → Int32} {S : Nat} (h : pcn S < 2) : aq K S = 0 := by
  unfold aq
  cases hp : pcn S with
  | zero => rfl
  | succ n => simp only [aqF]; rw [if_pos h]
theorem aq_2 {K : Nat → Int32} (h14 : kn K 2 ≤ 14) {S : Nat} (hS : S < 16384) (h : ¬ pcn S < 2) : aq K S = aqM (aqB (aq K) K S) (kn K 3) := by
  unfold aq
  obtain ⟨n, hn⟩ : ∃ n, pcn S = n + 1 := ⟨pcn S - 1, by omega⟩
  rw [hn]
  simp only [aqF]
  rw [if_neg h]
  apply aqM_cong
  intro w _
  unfold aqB
  by_cases hy : prt K S w = 0 ∨ prt K S w = S
  · rw [if_pos hy, if_pos hy]
  · rw [if_neg hy, if_neg hy]
    have := prt_pc h14 hS hy
    rw [aqF_st h14 _ _ (prt_lt h14 S w) (Nat.le_refl _) n (pcn (prt K S w)) (by omega) (Nat.le_refl _), aqF_st h14 _ _ (dif_lt hS) (Nat.le_refl _) n (pcn (dif S (prt K S w))) (by omega) (Nat.le_refl _)]
theorem aq_le {K : Nat → Int32} (h14 : kn K 2 ≤ 14) {S : Nat} (hS : S < 16384) : aq K S ≤ 536870912 := by
  by_cases h : pcn S < 2
  · rw [aq_1 h]; omega
  · rw [aq_2 h14 hS h]; exact aqM_le _ _
theorem aqB_le {K : Nat → Int32} (h14 : kn K 2 ≤ 14) {S : Nat} (hS : S < 16384) (w : Nat) : aqB (aq K) K S w ≤ 536870913 := by
  unfold aqB
  split
  · omega
  · have := aq_le h14 (prt_lt h14 S w)
    have := aq_le h14 (dif_lt (h := prt K S w) hS)
    omega
def W242 (q _k : Nat) : Bool := Nat.beq q 242
/-- what is known of questions is right -/
def AK (M : mM) (K : Nat → Int32) : Prop := ∀ s, s < 16384 → gI M 242 s = 0 ∨ gI M 242 s = nI (aq K s + 1)
theorem nI_max (a b : Nat) (ha : a < 2 ^ 31) (hb : b < 2 ^ 31) : (if nI a < nI b then nI b else nI a) = nI (max a b) := by
  by_cases h : a < b
  · rw [if_pos (nI_lt h hb), Nat.max_eq_right (by omega)]
  · rw [if_neg (nI_nlt (by omega) ha), Nat.max_eq_left (by omega)]
theorem nI_min (a b : Nat) (ha : a < 2 ^ 31) (hb : b < 2 ^ 31) : (if nI b < nI a then nI b else nI a) = nI (min a b) := by
  by_cases h : b < a
  · rw [if_pos (nI_lt h ha), Nat.min_eq_right (by omega)]
  · rw [if_neg (nI_nlt (by omega) hb), Nat.min_eq_left (by omega)]
theorem HH.w242 {M M' : mM} {K : Nat → Int32} (h : HH M K) (e : Sm W242 M M') : HH M' K := fun c hc => by
  rw [e.2.2.2.2 239 c rfl, e.2.2.2.2 240 c rfl, e.2.2.2.2 238 c rfl]
  exact h c hc
theorem AK.put {M : mM} {K : Nat → Int32} (h : AK M K) (S : Nat) : AK (sI M 242 S (nI (aq K S + 1))) K := by
  intro s hs
  by_cases e : s = S
  · subst e; exact Or.inr (gI_ss _ _ _ _)
  · rw [gI_sk _ _ e]; exact h s hs
section RV
variable (G : mG) (M : mM)
theorem l12_part (hS : Sh M) (hP : WP (gI M 231)) (hH : HH M (gI M 231)) {S w : Nat} (hs : S < 16384) (hw : w < 10) : ∀ i c, c + i = kn (gI M 231) 2 → V G Y12_part 1 0 0 (Rv (some (.int (nI (prt (gI M 231) S w)))) M) NX 5 [some (.ref 230), some (.int (nI S)), some (.int (nI w)), some (.int (nI (bset c (fun c => S.testBit c && (trH (gI M 231) c).testBit w)))), some (.int (nI c))] [] M := by
  have h14 := hP.2.1.2
  intro i
  induction i with
  | zero =>
    intro c hc
    obtain rfl : c = kn (gI M 231) 2 := by omega
    refine v_iload dX12_part_5 rfl ?_
    refine v_aload_n dX12_part_7 rfl ?_
    refine v_cV [] (c12_chestsN G M hS hP) k12_chests dX12_part_8 l12_245 (by first | exact hS.1 _ _ rfl | exact hS'.1 _ _ rfl | assumption) (by decide) rfl (Nat.le_of_ble_eq_true rfl) (Nat.le_of_ble_eq_true rfl) ?_
    refine v_icmp_ge 54 dX12_part_11 (by decide) (fun h11 => ?_) (fun h11 => absurd (nI_le (Nat.le_refl _) (by omega)) h11)
    refine v_iload_n dX12_part_54 rfl ?_
    refine v_iret dX12_part_55 rfl ?_
    exact ⟨rfl, rfl⟩
  | succ i ih =>
    intro c hc
    have hn := ih (c + 1) (by omega)
    have q1 := hH.hold hP c (by omega)
    have q2 := q1.2
    refine v_iload dX12_part_5 rfl ?_
    refine v_aload_n dX12_part_7 rfl ?_
    refine v_cV [] (c12_chestsN G M hS hP) k12_chests dX12_part_8 l12_245 (by first | exact hS.1 _ _ rfl | exact hS'.1 _ _ rfl | assumption) (by decide) rfl (Nat.le_of_ble_eq_true rfl) (Nat.le_of_ble_eq_true rfl) ?_
    refine v_icmp_ge 54 dX12_part_11 (by decide) (fun h11 => absurd ((nI_leI (by omega) (by omega)).mp h11) (by omega)) (fun h11 => ?_)
    refine v_iload_n dX12_part_14 rfl ?_
    refine v_iload_n dX12_part_15 rfl ?_
    refine v_iload dX12_part_16 rfl ?_
    refine v_cS [_, _] (c12_hasN G M (by omega) (by omega)) k12_has dX12_part_18 l12_248 rfl (Nat.le_of_ble_eq_true rfl) (Nat.le_of_ble_eq_true rfl) ?_
    refine v_if_eq 45 dX12_part_21 (by decide) (fun h21 => ?_) (fun h21 => ?_)
    · refine v_iconst 0 dX12_part_45 (by decide) ?_
      refine v_ior dX12_part_46 ?_
      refine v_istore_n dX12_part_47 rfl (by decide) ?_
      refine v_iinc 1 dX12_part_48 rfl (by decide) rfl (by decide) ?_
      refine v_goto 5 dX12_part_51 (by decide) ?_
      (rw [nI_1]; (try simp (disch := omega) only [nI_leI, nI_ltI, nI_eq, nI0, bI_z, bI_lez, Decidable.not_not] at h11 h21); first | (rw [bset_p (p := fun c => S.testBit c && (trH (gI M 231) c).testBit w) (by omega) (by simp [h11, h21])]; exact hn) | (rw [bset_n (p := fun c => S.testBit c && (trH (gI M 231) c).testBit w) (by omega) (by simp [h11, h21])]; exact hn))
    · refine v_aload_n dX12_part_24 rfl ?_
      refine v_getR 12 20 _ dX12_part_25 f12_36 (by first | exact hS.1 _ _ rfl | exact hS'.1 _ _ rfl | assumption) (by decide) (by first | exact hS.2 _ _ _ rfl | exact hS'.2 _ _ _ rfl | assumption) ?_
      refine v_iload dX12_part_28 rfl ?_
      refine v_ialdN (c) dX12_part_30 (by first | exact hS.1 _ _ rfl | exact hS'.1 _ _ rfl | assumption) (by simp only [n_lit, pk_mul, nI_add]) ⟨by omega, by omega⟩ ?_
      rw [q1.1]
      refine v_iload_n dX12_part_31 rfl ?_
      refine v_cS [_, _] (c12_hasN G M (by omega) (by omega)) k12_has dX12_part_32 l12_248 rfl (Nat.le_of_ble_eq_true rfl) (Nat.le_of_ble_eq_true rfl) ?_
      refine v_if_eq 45 dX12_part_35 (by decide) (fun h35 => ?_) (fun h35 => ?_)
      · refine v_iconst 0 dX12_part_45 (by decide) ?_
        refine v_ior dX12_part_46 ?_
        refine v_istore_n dX12_part_47 rfl (by decide) ?_
        refine v_iinc 1 dX12_part_48 rfl (by decide) rfl (by decide) ?_
        refine v_goto 5 dX12_part_51 (by decide) ?_
        (rw [nI_1]; (try simp (disch := omega) only [nI_leI, nI_ltI, nI_eq, nI0, bI_z, bI_lez, Decidable.not_not] at h11 h21 h35); first | (rw [bset_p (p := fun c => S.testBit c && (trH (gI M 231) c).testBit w) (by omega) (by simp [h11, h21, h35])]; exact hn) | (rw [bset_n (p := fun c => S.testBit c && (trH (gI M 231) c).testBit w) (by omega) (by simp [h11, h21, h35])]; exact hn))
      · refine v_iconst 1 dX12_part_38 (by decide) ?_
        refine v_iload dX12_part_39 rfl ?_
        refine v_ishl dX12_part_41 ?_
        refine v_goto 46 dX12_part_42 (by decide) ?_
        refine v_ior dX12_part_46 ?_
        refine v_istore_n dX12_part_47 rfl (by decide) ?_
        refine v_iinc 1 dX12_part_48 rfl (by decide) rfl (by decide) ?_
        refine v_goto 5 dX12_part_51 (by decide) ?_
        (rw [nI_1]; (try simp (disch := omega) only [nI_leI, nI_ltI, nI_eq, nI0, bI_z, bI_lez, Decidable.not_not] at h11 h21 h35); first | (rw [bset_p (p := fun c => S.testBit c && (trH (gI M 231) c).testBit w) (by omega) (by simp [h11, h21, h35])]; exact hn) | (rw [bset_n (p := fun c => S.testBit c && (trH (gI M 231) c).testBit w) (by omega) (by simp [h11, h21, h35])]; exact hn))
theorem c12_part (hS : Sh M) (hP : WP (gI M 231)) (hH : HH M (gI M 231)) {S w : Nat} (hs : S < 16384) (hw : w < 10) : Ct G Y12_part 1 0 0 [.ref 230, .int (nI S), .int (nI w)] M (Rv (some (.int (nI (prt (gI M 231) S w)))) M) NX := by
  refine Ct.of k12_part.1 (Nat.le_of_ble_eq_true rfl) ?_
  refine v_iconst 0 dX12_part_0 (by decide) ?_
  refine v_istore_n dX12_part_1 rfl (by decide) ?_
  refine v_iconst 0 dX12_part_2 (by decide) ?_
  refine v_istore dX12_part_3 rfl (by decide) ?_
  -- at 5: .iload 4
  exact l12_part G M hS hP hH hs hw (kn (gI M 231) 2) 0 (by omega)
end RV
section RV2
variable (G : mG) (K : Nat → Int32)
def AqC (n : Nat) : Prop := ∀ S, S < 16384 → pcn S ≤ n → ∀ M, gI M 231 = K → Sh M → WP K → HH M K → AK M K → Ct G Y12_asksOf (2 * n + 3) 0 0 [.ref 230, .int (nI S)] M (Rs (some (.int (nI (aq K S)))) (fun M' => Sm W242 M M' ∧ AK M' K)) NX
theorem c12_asksBy_open (n : Nat) (ih : AqC G K n) {S w : Nat} (hS14 : S < 16384) (hp : pcn S ≤ n + 1) (hw : w < 10) (M : mM) (eK : gI M 231 = K) (hS : Sh M) (hP : WP K) (hH : HH M K) (hA : AK M K) : Ct G Y12_asksBy (2 * n + 4) 0 0 [.ref 230, .int (nI S), .int (nI w)] M (Rs (some (.int (nI (aqB (aq K) K S w)))) (fun M' => Sm W242 M M' ∧ AK M' K)) NX := by
  have h14 := hP.2.1.2
  have hcon := c12_part G M hS (by rw [eK]; exact hP) (by rw [eK]; exact hH) hS14 hw
  rw [eK] at hcon
  have hpl := prt_lt h14 S w
  have hdl := dif_lt (h := prt K S w) hS14
  have hl1 := aq_le h14 hpl
  have hl2 := aq_le h14 hdl
  refine Ct.of k12_asksBy.1 (Nat.le_of_ble_eq_true rfl) ?_
  by_cases hy : prt K S w = 0 ∨ prt K S w = S
  · rw [aqB, if_pos hy]
    refine v_aload_n dX12_asksBy_0 rfl ?_
    refine v_iload_n dX12_asksBy_1 rfl ?_
    refine v_iload_n dX12_asksBy_2 rfl ?_
    refine v_cV [_, _] (hcon) k12_part dX12_asksBy_3 l12_427 (by first | exact hS.1 _ _ rfl | exact hS'.1 _ _ rfl | assumption) (by decide) rfl (by omega) (Nat.le_of_ble_eq_true rfl) ?_
    refine v_istore_n dX12_asksBy_6 rfl (by decide) ?_
    refine v_iload_n dX12_asksBy_7 rfl ?_
    refine v_if_eq 16 dX12_asksBy_8 (by decide) (fun h8 => ?_) (fun h8 => ?_)
    · refine v_ldcw 536870912 dX12_asksBy_16 K12_342 ?_
      refine v_goto 41 dX12_asksBy_19 (by decide) ?_
      refine v_iret dX12_asksBy_41 rfl ?_
      exact ⟨rfl, Sm.rf, hA⟩
    · refine v_iload_n dX12_asksBy_11 rfl ?_
      refine v_iload_n dX12_asksBy_12 rfl ?_
      refine v_icmp_ne 22 dX12_asksBy_13 (by decide) (fun h13 => ?_) (fun h13 => ?_)
      · (exfalso; (try simp (disch := omega) only [nI_leI, nI_ltI, nI_eq, nI0, bI_z, bI_lez, Decidable.not_not] at h8 h13); omega)
      · refine v_ldcw 536870912 dX12_asksBy_16 K12_342 ?_
        refine v_goto 41 dX12_asksBy_19 (by decide) ?_
        refine v_iret dX12_asksBy_41 rfl ?_
        exact ⟨rfl, Sm.rf, hA⟩
  · rw [aqB, if_neg hy]
    have hpc := prt_pc h14 hS14 hy
    refine v_aload_n dX12_asksBy_0 rfl ?_
    refine v_iload_n dX12_asksBy_1 rfl ?_
    refine v_iload_n dX12_asksBy_2 rfl ?_
    refine v_cV [_, _] (hcon) k12_part dX12_asksBy_3 l12_427 (by first | exact hS3.1 _ _ rfl | exact hS2.1 _ _ rfl | exact hS.1 _ _ rfl) (by decide) rfl (by omega) (Nat.le_of_ble_eq_true rfl) ?_
    refine v_istore_n dX12_asksBy_6 rfl (by decide) ?_
    refine v_iload_n dX12_asksBy_7 rfl ?_
    refine v_if_eq 16 dX12_asksBy_8 (by decide) (fun h8 => ?_) (fun h8 => ?_)
    · (exfalso; (try simp (disch := omega) only [nI_leI, nI_ltI, nI_eq, nI0, bI_z, bI_lez, Decidable.not_not] at h8); omega)
    · refine v_iload_n dX12_asksBy_11 rfl ?_
      refine v_iload_n dX12_asksBy_12 rfl ?_
      refine v_icmp_ne 22 dX12_asksBy_13 (by decide) (fun h13 => ?_) (fun h13 => ?_)
      · refine v_iconst 1 dX12_asksBy_22 (by decide) ?_
        refine v_aload_n dX12_asksBy_23 rfl ?_
        refine v_iload_n dX12_asksBy_24 rfl ?_
        refine v_scV [_] (ih _ hpl (by omega) M eK hS hP hH hA) k12_asksOf dX12_asksBy_25 l12_430 (by first | exact hS3.1 _ _ rfl | exact hS2.1 _ _ rfl | exact hS.1 _ _ rfl) (by decide) rfl (by omega) (Nat.le_of_ble_eq_true rfl) ?_
        intro M2 hM2; have hS2 := hS.sm hM2.1; have eK2 : gI M2 231 = K := (hM2.1.K (fun _ => rfl)).trans eK; have hH2 := hH.w242 hM2.1
        refine v_aload_n dX12_asksBy_28 rfl ?_
        refine v_iload_n dX12_asksBy_29 rfl ?_
        refine v_iload_n dX12_asksBy_30 rfl ?_
        refine v_iconst (-1) dX12_asksBy_31 (by decide) ?_
        refine v_ixor dX12_asksBy_32 ?_
        refine v_iand dX12_asksBy_33 ?_
        rw [andnot]
        refine v_scV [_] (ih _ hdl (by omega) M2 eK2 hS2 hP hH2 hM2.2) k12_asksOf dX12_asksBy_34 l12_430 (by first | exact hS3.1 _ _ rfl | exact hS2.1 _ _ rfl | exact hS.1 _ _ rfl) (by decide) rfl (by omega) (Nat.le_of_ble_eq_true rfl) ?_
        intro M3 hM3; have hS3 := hS2.sm hM3.1
        refine v_cS [_, _] (cJ_max G M3 _ _) kJ_max dX12_asksBy_37 l12_433 rfl (by omega) (Nat.le_of_ble_eq_true rfl) ?_
        rw [nI_max _ _ (by omega) (by omega)]
        refine v_iadd dX12_asksBy_40 ?_
        rw [show (1 : Int32) = nI 1 from rfl, nI_add]
        refine v_iret dX12_asksBy_41 rfl ?_
        exact ⟨rfl, hM2.1.tr hM3.1, hM3.2⟩
      · (exfalso; (try simp (disch := omega) only [nI_leI, nI_ltI, nI_eq, nI0, bI_z, bI_lez, Decidable.not_not] at h8 h13); omega)
theorem l12_asksOf (n : Nat) (ih : AqC G K n) {S : Nat} (hS14 : S < 16384) (hp : pcn S ≤ n + 1) (h2 : ¬ pcn S < 2) (M : mM) (eK0 : gI M 231 = K) (hS : Sh M) (hP : WP K) (hH : HH M K) : ∀ i w M', w + i = kn K 3 → Sm W242 M M' → AK M' K →
    V G Y12_asksOf (2 * n + 5) 0 0 (Rs (some (.int (nI (aq K S)))) (fun M' => Sm W242 M M' ∧ AK M' K)) NX 34 [some (.ref 230), some (.int (nI S)), some (.int (nI (aqM (aqB (aq K) K S) w))), some (.int (nI w))] [] M' := by
  have h14 := hP.2.1.2
  have h10 := hP.2.2.1.2
  intro i
  induction i with
  | zero =>
    intro w M' hw hM hA
    have hS' := hS.sm hM
    have eK : gI M' 231 = K := (hM.K (fun _ => rfl)).trans eK0
    obtain rfl : w = kn K 3 := by omega
    have hcon := c12_wordsN G M' hS' (by rw [eK]; exact hP)
    rw [eK] at hcon
    rw [← aq_2 h14 hS14 h2]
    refine v_iload_n dX12_asksOf_34 rfl ?_
    refine v_aload_n dX12_asksOf_35 rfl ?_
    refine v_cV [] (hcon) k12_words dX12_asksOf_36 l12_242 (hS'.1 _ _ rfl) (by decide) rfl (by omega) (Nat.le_of_ble_eq_true rfl) ?_
    refine v_icmp_ge 59 dX12_asksOf_39 (by decide) (fun h39 => ?_) (fun h39 => absurd (nI_le (Nat.le_refl _) (by omega)) h39)
    refine v_aload_n dX12_asksOf_59 rfl ?_
    refine v_getR 12 25 _ dX12_asksOf_60 f12_48 (hS'.1 _ _ rfl) (by decide) (hS'.2 _ _ _ rfl) ?_
    refine v_iload_n dX12_asksOf_63 rfl ?_
    refine v_iload_n dX12_asksOf_64 rfl ?_
    refine v_iconst 1 dX12_asksOf_65 (by decide) ?_
    refine v_iadd dX12_asksOf_66 ?_
    rw [nI_1]
    refine v_iastN (S) dX12_asksOf_67 (hS'.1 _ _ rfl) (by simp only [n_lit, pk_mul, nI_add]) ⟨by omega, by omega⟩ ?_
    refine v_iload_n dX12_asksOf_68 rfl ?_
    refine v_iret dX12_asksOf_69 rfl ?_
    exact ⟨rfl, hM.st _ rfl, hA.put S⟩
  | succ i ih2 =>
    intro w M' hw hM hA
    have hS' := hS.sm hM
    have eK : gI M' 231 = K := (hM.K (fun _ => rfl)).trans eK0
    have hH' := hH.w242 hM
    have hcon := c12_wordsN G M' hS' (by rw [eK]; exact hP)
    rw [eK] at hcon
    have b1 := aqM_le (aqB (aq K) K S) w
    have b2 := aqB_le h14 hS14 w
    refine v_iload_n dX12_asksOf_34 rfl ?_
    refine v_aload_n dX12_asksOf_35 rfl ?_
    refine v_cV [] (hcon) k12_words dX12_asksOf_36 l12_242 (by first | exact hS2.1 _ _ rfl | exact hS'.1 _ _ rfl) (by decide) rfl (by omega) (Nat.le_of_ble_eq_true rfl) ?_
    refine v_icmp_ge 59 dX12_asksOf_39 (by decide) (fun h39 => absurd ((nI_leI (by omega) (by omega)).mp h39) (by omega)) (fun h39 => ?_)
    refine v_iload_n dX12_asksOf_42 rfl ?_
    refine v_aload_n dX12_asksOf_43 rfl ?_
    refine v_iload_n dX12_asksOf_44 rfl ?_
    refine v_iload_n dX12_asksOf_45 rfl ?_
    refine v_scV [_, _] (c12_asksBy_open G K n ih hS14 hp (by omega) M' eK hS' hP hH' hA) k12_asksBy dX12_asksOf_46 l12_435 (by first | exact hS2.1 _ _ rfl | exact hS'.1 _ _ rfl) (by decide) rfl (by omega) (Nat.le_of_ble_eq_true rfl) ?_
    intro M2 hM2; have hS2 := hS'.sm hM2.1
    refine v_cS [_, _] (cJ_min G M2 _ _) kJ_min dX12_asksOf_49 l12_438 rfl (by omega) (Nat.le_of_ble_eq_true rfl) ?_
    refine v_istore_n dX12_asksOf_52 rfl (by decide) ?_
    refine v_iinc 1 dX12_asksOf_53 rfl (by decide) rfl (by decide) ?_
    refine v_goto 34 dX12_asksOf_56 (by decide) ?_
    skip
    rw [nI_1, nI_min _ _ (by omega) (by omega)]
    exact ih2 (w + 1) M2 (by omega) (hM.tr hM2.1) hM2.2
theorem c12_asksOf_all : ∀ n, AqC G K n := by
  intro n
  induction n with
  | zero =>
    intro S hS14 hp M eK hS hP hH hA
    have hz := pcn_le S
    rw [aq_1 (by omega)]
    refine Ct.of k12_asksOf.1 (Nat.le_of_ble_eq_true rfl) ?_
    refine v_iload_n dX12_asksOf_0 rfl ?_
    refine v_cS [_] (c12_size G M hS14) k12_size dX12_asksOf_1 l12_330 rfl (by omega) (Nat.le_of_ble_eq_true rfl) ?_
    refine v_iconst 2 dX12_asksOf_4 (by decide) ?_
    refine v_icmp_ge 10 dX12_asksOf_5 (by decide) (fun h5 => absurd ((nI_leI (a := 2) (by decide) (by omega)).mp h5) (by omega)) (fun h5 => ?_)
    refine v_iconst 0 dX12_asksOf_8 (by decide) ?_
    refine v_iret dX12_asksOf_9 rfl ?_
    exact ⟨rfl, Sm.rf, hA⟩
  | succ n ih =>
    intro S hS14 hp M eK hS hP hH hA
    have hz := pcn_le S
    have h14 := hP.2.1.2
    have hl := aq_le h14 hS14
    refine Ct.of k12_asksOf.1 (Nat.le_of_ble_eq_true rfl) ?_
    by_cases h2 : pcn S < 2
    · rw [aq_1 h2]
      refine v_iload_n dX12_asksOf_0 rfl ?_
      refine v_cS [_] (c12_size G M hS14) k12_size dX12_asksOf_1 l12_330 rfl (by omega) (Nat.le_of_ble_eq_true rfl) ?_
      refine v_iconst 2 dX12_asksOf_4 (by decide) ?_
      refine v_icmp_ge 10 dX12_asksOf_5 (by decide) (fun h5 => absurd ((nI_leI (a := 2) (by decide) (by omega)).mp h5) (by omega)) (fun h5 => ?_)
      refine v_iconst 0 dX12_asksOf_8 (by decide) ?_
      refine v_iret dX12_asksOf_9 rfl ?_
      exact ⟨rfl, Sm.rf, hA⟩
    · have hl2 := l12_asksOf G K n ih hS14 hp h2 M eK hS hP hH (kn K 3) 0 M (by omega) Sm.rf hA
      rcases hA S hS14 with ha | ha
      · refine v_iload_n dX12_asksOf_0 rfl ?_
        refine v_cS [_] (c12_size G M hS14) k12_size dX12_asksOf_1 l12_330 rfl (by omega) (Nat.le_of_ble_eq_true rfl) ?_
        refine v_iconst 2 dX12_asksOf_4 (by decide) ?_
        refine v_icmp_ge 10 dX12_asksOf_5 (by decide) (fun h5 => ?_) (fun h5 => absurd (nI_le (a := 2) (by omega) (by omega)) h5)
        refine v_aload_n dX12_asksOf_10 rfl ?_
        refine v_getR 12 25 _ dX12_asksOf_11 f12_48 (by first | exact hS.1 _ _ rfl | exact hS'.1 _ _ rfl | assumption) (by decide) (by first | exact hS.2 _ _ _ rfl | exact hS'.2 _ _ _ rfl | assumption) ?_
        refine v_iload_n dX12_asksOf_14 rfl ?_
        refine v_ialdN (S) dX12_asksOf_15 (by first | exact hS.1 _ _ rfl | exact hS'.1 _ _ rfl | assumption) (by simp only [n_lit, pk_mul, nI_add]) ⟨by omega, by omega⟩ ?_
        rw [ha]
        refine v_if_le 28 dX12_asksOf_16 (by decide) (fun h16 => ?_) (fun h16 => absurd (by decide) h16)
        refine v_ldcw 536870912 dX12_asksOf_28 K12_342 ?_
        refine v_istore_n dX12_asksOf_31 rfl (by decide) ?_
        refine v_iconst 0 dX12_asksOf_32 (by decide) ?_
        refine v_istore_n dX12_asksOf_33 rfl (by decide) ?_
        exact hl2
      · refine v_iload_n dX12_asksOf_0 rfl ?_
        refine v_cS [_] (c12_size G M hS14) k12_size dX12_asksOf_1 l12_330 rfl (by omega) (Nat.le_of_ble_eq_true rfl) ?_
        refine v_iconst 2 dX12_asksOf_4 (by decide) ?_
        refine v_icmp_ge 10 dX12_asksOf_5 (by decide) (fun h5 => ?_) (fun h5 => absurd (nI_le (a := 2) (by omega) (by omega)) h5)
        refine v_aload_n dX12_asksOf_10 rfl ?_
        refine v_getR 12 25 _ dX12_asksOf_11 f12_48 (by first | exact hS.1 _ _ rfl | exact hS'.1 _ _ rfl | assumption) (by decide) (by first | exact hS.2 _ _ _ rfl | exact hS'.2 _ _ _ rfl | assumption) ?_
        refine v_iload_n dX12_asksOf_14 rfl ?_
        refine v_ialdN (S) dX12_asksOf_15 (by first | exact hS.1 _ _ rfl | exact hS'.1 _ _ rfl | assumption) (by simp only [n_lit, pk_mul, nI_add]) ⟨by omega, by omega⟩ ?_
        rw [ha]
        refine v_if_le 28 dX12_asksOf_16 (by decide) (fun h16 => absurd h16 (nI_nle (by omega) (by omega))) (fun h16 => ?_)
        refine v_aload_n dX12_asksOf_19 rfl ?_
        refine v_getR 12 25 _ dX12_asksOf_20 f12_48 (by first | exact hS.1 _ _ rfl | exact hS'.1 _ _ rfl | assumption) (by decide) (by first | exact hS.2 _ _ _ rfl | exact hS'.2 _ _ _ rfl | assumption) ?_
        refine v_iload_n dX12_asksOf_23 rfl ?_
        refine v_ialdN (S) dX12_asksOf_24 (by first | exact hS.1 _ _ rfl | exact hS'.1 _ _ rfl | assumption) (by simp only [n_lit, pk_mul, nI_add]) ⟨by omega, by omega⟩ ?_
        rw [ha]
        refine v_iconst 1 dX12_asksOf_25 (by decide) ?_
        refine v_isub dX12_asksOf_26 ?_
        rw [nI_pred]
        refine v_iret dX12_asksOf_27 rfl ?_
        exact ⟨rfl, Sm.rf, hA⟩
end RV2
