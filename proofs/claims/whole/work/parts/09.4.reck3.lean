/-! ===== the class: Reckoner, faces; Plan ===== -/
/-- a reckoner's cells -/
def Wfc (r q k : Nat) : Bool := Nat.beq q (r + 1) || Nat.beq q (r + 2) || (Nat.beq q r && (Nat.beq k 2 || Nat.beq k 3))
theorem nbeq_f {a b : Nat} (h : a ≠ b) : Nat.beq a b = false := Bool.eq_false_iff.mpr (fun z => h (Nat.eq_of_beq_eq_true z))
theorem Wfc_o {r q : Nat} (h : q < r ∨ r + 2 < q) (k : Nat) : Wfc r q k = false := by
  unfold Wfc
  rw [nbeq_f (show q ≠ r + 1 by omega), nbeq_f (show q ≠ r + 2 by omega), nbeq_f (show q ≠ r by omega)]
  rfl
theorem Sm.wf {M M' : mM} {r : Nat} (h : Sm (Wst r) M M') : Sm (Wfc r) M M' := h.wk (fun q k z => by simp only [Wfc, Wst, Bool.or_eq_false_iff] at z ⊢; exact z.1.2)
/-- the plan lies apart from the cells a to b -/
def Apt (p cd a b : Nat) : Prop := ∀ q, (p ≤ q ∧ q ≤ p + 6) ∨ q = cd → q < a ∨ b < q
theorem Plr.fc {M M' : mM} {p cd n r : Nat} {K : Nat → Int32} (h : Plr M p cd n K) (ha : Apt p cd r (r + 2)) (e : Sm (Wfc r) M M') : Plr M' p cd n K := h.mv e.2.1 e.2.2.2.1 (by rw [e.2.2.1]) (fun q hq => e.row (Wfc_o (ha q hq)))
theorem pkR_lt {b : Nat → Int32} (c : Nat) (h : ∀ m, m < 6 → nb b (6 * c + m) ≤ 9) : ∀ m, m ≤ 6 → pkR b c m < 16 ^ m := by
  intro m
  induction m with
  | zero => intro _; exact (show 0 < 1 by decide)
  | succ m ih =>
    intro hm
    have h1 := ih (by omega)
    have h2 := h m (by omega)
    rw [pkR, Nat.pow_succ]
    have : nb b (6 * c + m) * 16 ^ m ≤ 9 * 16 ^ m := Nat.mul_le_mul_right _ h2
    omega
theorem pkR_at {b : Nat → Int32} (c : Nat) (h : ∀ m, m < 6 → nb b (6 * c + m) ≤ 9) {k : Nat} : ∀ m, m ≤ 6 → k < m → pkR b c m / 16 ^ k % 16 = nb b (6 * c + k) := by
  intro m
  induction m with
  | zero => intro _ hk; omega
  | succ m ih =>
    intro hm hk
    rw [pkR]
    have hp : 0 < 16 ^ k := Nat.pow_pos (by decide)
    by_cases e : k = m
    · subst e
      rw [Nat.add_mul_div_right _ _ hp, Nat.div_eq_of_lt (pkR_lt c h k (by omega)), Nat.zero_add]
      have := h k (by omega)
      omega
    · have h1 := ih (by omega) (by omega)
      rw [show 16 ^ m = 16 ^ (m - k - 1) * 16 * 16 ^ k by rw [← Nat.pow_succ, ← Nat.pow_add]; congr 1; omega, ← Nat.mul_assoc, Nat.add_mul_div_right _ _ hp, ← Nat.mul_assoc, Nat.add_mul_mod_self_right]
      exact h1
theorem pow16 (m : Nat) : 2 ^ (4 * m) = 16 ^ m := by rw [Nat.pow_mul]
/-- a mark out of its row -/
theorem row_at {x m : Nat} (hx : x < 2 ^ 24) (hm : m < 6) : (nI x >>> ((4 * nI m) &&& 31)) &&& 15 = nI (x / 16 ^ m % 16) := by
  rw [show (4 : Int32) * nI m = nI (4 * m) from pk_mul 4 m, shrN (by omega) (by omega), pk_andN (show x / 2 ^ (4 * m) < 2 ^ 32 from Nat.lt_of_le_of_lt (Nat.div_le_self _ _) (by omega)) 4 (by decide), pow16]
section C5c
variable (G : mG) (M : mM)
theorem c5_isTrue {r p cd n : Nat} {K : Nat → Int32} {f : Nat → Int32} {num : Int32} (hk : RkSh M r) (hdd : RkD M r (kn K 1) f num) (hP : WP K) (hp : Plr M p cd n K) (hr : Apt p cd r (r + 2)) {w : Nat} (hw : w < kn K 3) :
    Ct G Y5_isTrue 2 0 0 [.ref r, .ref p, .int (nI w)] M (Rs (some (.int (bI (wt K f num w = true)))) (Sm (Wst r) M)) NX := by
  obtain ⟨hps, hpd⟩ := hp
  have hps0 := hps
  obtain ⟨p1, p2, p3, p4, p5, p6, p7, p8, p9, p10, p11, p12, p13, p14⟩ := hps
  obtain ⟨d1, d2, d3, d4, d5, d6, d7⟩ := hpd
  have h10 := hP.2.2.1.2
  obtain ⟨a1, a2, a3, a4, a5⟩ := hP.2.2.2.2.2.2.2.1 w hw
  have hb := d6 (w + 1) (by omega)
  rw [show 144 + (w + 1) = 144 + w + 1 by omega] at hb
  have s1 := d3 w (by omega)
  have s2 := d3 (w + 1) (by omega)
  rw [show 144 + (w + 1) = 144 + w + 1 by omega] at s2
  refine Ct.of k5_isTrue.1 (Nat.le_of_ble_eq_true rfl) ?_
  have l := l5_isTrue G M (w := w) hk hdd hP.1.2.2 hP.1.2.1 hps0 (fun q hq => by have := hr q hq; omega) (b := kn K (144 + w + 1)) (by omega) (fun k hk => ⟨d4 k (by omega), (hP.2.2.2.2.2.2.1 k (by omega)).2⟩) (kn K (144 + w + 1) - kn K (144 + w)) (kn K (144 + w)) [] [] none M (by omega) a5 trivial (by decide) trivial Sm.rf
  refine v_aload_n dX5_isTrue_0 rfl ?_
  refine v_getR 4 12 _ dX5_isTrue_1 f5_44 (by assumption) (by decide) (by assumption) ?_
  refine v_iload_n dX5_isTrue_4 rfl ?_
  refine v_iconst 1 dX5_isTrue_5 (by decide) ?_
  refine v_iadd dX5_isTrue_6 ?_
  refine v_ialdN (w + 1) dX5_isTrue_7 (by assumption) (by simp only [n_lit, pk_mul, nI_add]) ⟨by omega, by omega⟩ ?_
  rw [s2, a2]
  refine v_aload_n dX5_isTrue_8 rfl ?_
  refine v_getR 4 14 _ dX5_isTrue_9 f5_47 (by assumption) (by decide) (by assumption) ?_
  refine v_alen dX5_isTrue_12 (by assumption) (by decide) ?_
  refine v_cS [_, _] (cJ_min G M _ _) kJ_min dX5_isTrue_13 l5_24 rfl (Nat.le_of_ble_eq_true rfl) (Nat.le_of_ble_eq_true rfl) ?_
  rw [if_neg (nI_nlt (a := n) (b := kn K (144 + w + 1)) (by omega) p14)]
  refine v_istore_n dX5_isTrue_16 rfl (by decide) ?_
  refine v_iconst 0 dX5_isTrue_17 (by decide) ?_
  refine v_istore dX5_isTrue_18 rfl (by decide) ?_
  refine v_aload_n dX5_isTrue_20 rfl ?_
  refine v_getR 4 12 _ dX5_isTrue_21 f5_44 (by assumption) (by decide) (by assumption) ?_
  refine v_iload_n dX5_isTrue_24 rfl ?_
  refine v_ialdN (w) dX5_isTrue_25 (by assumption) (by simp only [n_lit, pk_mul, nI_add]) ⟨by omega, by omega⟩ ?_
  rw [s1, a1]
  refine v_istore dX5_isTrue_26 rfl (by decide) ?_
  skip
  refine v_pad ?_
  simp only [wt, decide_eq_true_eq]
  exact l
theorem l5_allTruths {r p cd n : Nat} {K : Nat → Int32} {f : Nat → Int32} {num : Int32} (hk : RkSh M r) (hdd : RkD M r (kn K 1) f num) (hP : WP K) (hp : Plr M p cd n K) (hr : Apt p cd r (r + 2)) : ∀ i w M', w + i = kn K 3 → Sm (Wst r) M M' →
    V G Y5_allTruths 3 0 0 (Rs (some (.int (nI (wset K f num)))) (Sm (Wst r) M)) NX 4 [some (.ref r), some (.ref p), some (.int (nI (bset w (wt K f num)))), some (.int (nI w))] [] M' := by
  have h10 := hP.2.2.1.2
  intro i
  induction i with
  | zero =>
    intro w M' hw hM
    have hp2 := hp.fc hr hM.wf
    obtain ⟨⟨p1, p2, p3, p4, p5, p6, p7, p8, p9, p10, p11, p12, p13, p14⟩, ⟨e1, e2, e3, e4, e5, e6, e7⟩, d2, d3, d4, d5, d6, d7⟩ := hp2
    obtain rfl : w = kn K 3 := by omega
    refine v_iload_n dX5_allTruths_4 rfl ?_
    refine v_aload_n dX5_allTruths_5 rfl ?_
    refine v_getI 4 4 dX5_allTruths_6 f5_37 (by assumption) (by decide) ?_
    rw [e4, hP.2.2.1.1]
    refine v_icmp_ge 33 dX5_allTruths_9 (by decide) (fun h9 => ?_) (fun h9 => absurd (nI_le (Nat.le_refl _) (by omega)) h9)
    refine v_iload_n dX5_allTruths_33 rfl ?_
    refine v_iret dX5_allTruths_34 rfl ?_
    exact ⟨rfl, hM⟩
  | succ i ih =>
    intro w M' hw hM
    have hp2 := hp.fc hr hM.wf
    have hk2 := hk.mv hM.2.1 hM.2.2.2.1
    have hd2 : RkD M' r (kn K 1) f num := hdd.mv (fun q hq => hM.row (Wst_o (by omega)))
    have hcon := c5_isTrue G M' hk2 hd2 hP hp2 hr (w := w) (by omega)
    obtain ⟨k1, k2, k3, k4, k5⟩ := hk2
    obtain ⟨⟨p1, p2, p3, p4, p5, p6, p7, p8, p9, p10, p11, p12, p13, p14⟩, ⟨e1, e2, e3, e4, e5, e6, e7⟩, d2, d3, d4, d5, d6, d7⟩ := hp2
    have hn := fun M2 h => ih (w + 1) M2 (by omega) h
    by_cases hb : wt K f num w = true
    · rw [bI_t hb] at hcon
      rw [← bset_p (p := wt K f num) (by omega) hb] at hn
      refine v_iload_n dX5_allTruths_4 rfl ?_
      refine v_aload_n dX5_allTruths_5 rfl ?_
      refine v_getI 4 4 dX5_allTruths_6 f5_37 (by assumption) (by decide) ?_
      rw [e4, hP.2.2.1.1]
      refine v_icmp_ge 33 dX5_allTruths_9 (by decide) (fun h9 => absurd ((nI_leI (by omega) (by omega)).mp h9) (by omega)) (fun h9 => ?_)
      refine v_aload_n dX5_allTruths_12 rfl ?_
      refine v_aload_n dX5_allTruths_13 rfl ?_
      refine v_iload_n dX5_allTruths_14 rfl ?_
      refine v_scV [_, _] (hcon) k5_isTrue dX5_allTruths_15 l5_40 (by assumption) (by decide) rfl (Nat.le_of_ble_eq_true rfl) (Nat.le_of_ble_eq_true rfl) ?_
      intro M2 hM2
      refine v_if_eq 27 dX5_allTruths_18 (by decide) (fun h18 => absurd h18 (by decide)) (fun h18 => ?_)
      refine v_iload_n dX5_allTruths_21 rfl ?_
      refine v_iconst 1 dX5_allTruths_22 (by decide) ?_
      refine v_iload_n dX5_allTruths_23 rfl ?_
      refine v_ishl dX5_allTruths_24 ?_
      refine v_ior dX5_allTruths_25 ?_
      refine v_istore_n dX5_allTruths_26 rfl (by decide) ?_
      refine v_iinc 1 dX5_allTruths_27 rfl (by decide) rfl (by decide) ?_
      refine v_goto 4 dX5_allTruths_30 (by decide) ?_
      (rw [nI_1]; exact hn M2 (hM.tr hM2))
    · rw [bI_f hb] at hcon
      rw [← bset_n (p := wt K f num) (by omega) (by simpa using hb), Int32.or_zero] at hn
      refine v_iload_n dX5_allTruths_4 rfl ?_
      refine v_aload_n dX5_allTruths_5 rfl ?_
      refine v_getI 4 4 dX5_allTruths_6 f5_37 (by assumption) (by decide) ?_
      rw [e4, hP.2.2.1.1]
      refine v_icmp_ge 33 dX5_allTruths_9 (by decide) (fun h9 => absurd ((nI_leI (by omega) (by omega)).mp h9) (by omega)) (fun h9 => ?_)
      refine v_aload_n dX5_allTruths_12 rfl ?_
      refine v_aload_n dX5_allTruths_13 rfl ?_
      refine v_iload_n dX5_allTruths_14 rfl ?_
      refine v_scV [_, _] (hcon) k5_isTrue dX5_allTruths_15 l5_40 (by assumption) (by decide) rfl (Nat.le_of_ble_eq_true rfl) (Nat.le_of_ble_eq_true rfl) ?_
      intro M2 hM2
      refine v_if_eq 27 dX5_allTruths_18 (by decide) (fun h18 => ?_) (fun h18 => absurd rfl h18)
      refine v_iinc 1 dX5_allTruths_27 rfl (by decide) rfl (by decide) ?_
      refine v_goto 4 dX5_allTruths_30 (by decide) ?_
      (rw [nI_1]; exact hn M2 (hM.tr hM2))
theorem c5_allTruths {r p cd n : Nat} {K : Nat → Int32} {f : Nat → Int32} {num : Int32} (hk : RkSh M r) (hdd : RkD M r (kn K 1) f num) (hP : WP K) (hp : Plr M p cd n K) (hr : Apt p cd r (r + 2)) :
    Ct G Y5_allTruths 3 0 0 [.ref r, .ref p] M (Rs (some (.int (nI (wset K f num)))) (Sm (Wst r) M)) NX := by
  refine Ct.of k5_allTruths.1 (Nat.le_of_ble_eq_true rfl) ?_
  refine v_iconst 0 dX5_allTruths_0 (by decide) ?_
  refine v_istore_n dX5_allTruths_1 rfl (by decide) ?_
  refine v_iconst 0 dX5_allTruths_2 (by decide) ?_
  refine v_istore_n dX5_allTruths_3 rfl (by decide) ?_
  -- at 4: .iload_n 3
  exact l5_allTruths G M hk hdd hP hp hr (kn K 3) 0 M (by omega) Sm.rf
theorem c4_byLamp {p cd n : Nat} {K : Nat → Int32} (hp : Plr M p cd n K) (h6 : kn K 1 ≤ 6) {m v : Nat} (hm : m < kn K 1) (hv : v ≤ 9) : Ct G Y4_bLamp 0 0 0 [.ref p, .int (nI m), .int (nI v)] M (Rv (some (.int (lby K (nI m) (nI v) (kn K 4) 0))) M) NX := by
  obtain ⟨⟨p1, p2, p3, p4, p5, p6, p7, p8, p9, p10, p11, p12, p13, p14⟩, ⟨e1, e2, e3, e4, e5, e6, e7⟩, d2, d3, d4, d5, d6, d7⟩ := hp
  have h7 := d7 m v hm hv
  have ea : nI m * 10 + nI v = nI (10 * m + v) := by rw [show nI m * 10 = nI (m * 10) from pk_mul m 10, nI_add, Nat.mul_comm]
  refine Ct.of k4_bLamp.1 (Nat.le_of_ble_eq_true rfl) ?_
  refine v_iload_n dX4_byLamp_0 rfl ?_
  refine v_bipush 10 dX4_byLamp_1 (by decide) ?_
  refine v_imul dX4_byLamp_3 ?_
  refine v_iload_n dX4_byLamp_4 rfl ?_
  refine v_iadd dX4_byLamp_5 ?_
  rw [ea]
  refine v_istore_n dX4_byLamp_6 rfl (by decide) ?_
  refine v_iload_n dX4_byLamp_7 rfl ?_
  refine v_if_lt 42 dX4_byLamp_8 (by decide) (fun h8 => absurd h8 (nI_pos (by omega))) (fun h8 => ?_)
  refine v_iload_n dX4_byLamp_11 rfl ?_
  refine v_aload_n dX4_byLamp_12 rfl ?_
  refine v_getR 4 15 _ dX4_byLamp_13 f4_37 (by assumption) (by decide) (by assumption) ?_
  refine v_alen dX4_byLamp_16 (by assumption) (by decide) ?_
  refine v_icmp_ge 42 dX4_byLamp_17 (by decide) (fun h17 => absurd ((nI_leI (a := 60) (by decide) (by omega)).mp h17) (by omega)) (fun h17 => ?_)
  refine v_aload_n dX4_byLamp_20 rfl ?_
  refine v_getJ 4 16 dX4_byLamp_21 f4_46 (by assumption) (by decide) ?_
  refine v_iload_n dX4_byLamp_24 rfl ?_
  refine v_lshr dX4_byLamp_25 ?_
  refine v_lconst 1 dX4_byLamp_26 (by decide) ?_
  refine v_land dX4_byLamp_27 ?_
  refine v_lconst 1 dX4_byLamp_28 (by decide) ?_
  refine v_lcmp dX4_byLamp_29 ?_
  refine v_if_ne 42 dX4_byLamp_30 (by decide) (fun h30 => ?_) (fun h30 => ?_)
  · refine v_iload_n dX4_byLamp_42 rfl ?_
    refine v_iret dX4_byLamp_43 rfl ?_
    first | (rw [if_pos (show ltB M p (10 * m + v) = true from decide_eq_true (lg_eq.mp (Decidable.not_not.mp h30)))] at h7; exact ⟨congrArg (fun z => some (Value.int z)) h7, rfl⟩) | (rw [if_neg (show ¬ ltB M p (10 * m + v) = true from fun z => h30 (lg_eq.mpr (of_decide_eq_true z)))] at h7; exact ⟨congrArg (fun z => some (Value.int z)) h7, rfl⟩)
  · refine v_aload_n dX4_byLamp_33 rfl ?_
    refine v_getR 4 15 _ dX4_byLamp_34 f4_37 (by assumption) (by decide) (by assumption) ?_
    refine v_iload_n dX4_byLamp_37 rfl ?_
    refine v_ialdN (10 * m + v) dX4_byLamp_38 (by assumption) (by simp only [n_lit, pk_mul, nI_add]) ⟨by omega, by omega⟩ ?_
    refine v_goto 43 dX4_byLamp_39 (by decide) ?_
    refine v_iret dX4_byLamp_43 rfl ?_
    first | (rw [if_pos (show ltB M p (10 * m + v) = true from decide_eq_true (lg_eq.mp (Decidable.not_not.mp h30)))] at h7; exact ⟨congrArg (fun z => some (Value.int z)) h7, rfl⟩) | (rw [if_neg (show ¬ ltB M p (10 * m + v) = true from fun z => h30 (lg_eq.mpr (of_decide_eq_true z)))] at h7; exact ⟨congrArg (fun z => some (Value.int z)) h7, rfl⟩)
/-- how marks v look by light or lamp -/
def lkF (K : Nat → Int32) (lit : Bool) (v : Nat → Nat) (m : Nat) : Int32 := if lit then lby K (nI m) (nI (v m)) (kn K 4) 0 else nI (v m)
theorem l5_face {r p cd n : Nat} {K : Nat → Int32} (hk : RkSh M r) (hP : WP K) (hp : Plr M p cd n K) (hr : Apt p cd r (r + 2)) {x : Nat} (hx : x < 2 ^ 24) {v : Nat → Nat} (hv : ∀ m, m < kn K 1 → x / 16 ^ m % 16 = v m ∧ v m ≤ 9) (lit : Bool) (num : Int32) : ∀ i m (o : Option Value) M', m + i = kn K 1 → Sm (Wfc r) M M' → gI M' r 2 = nI (kn K 1) → gI M' r 3 = num → (∀ j, j < m → gI M' (r + 1) j = lkF K lit v j) →
    V G Y5_face 1 0 0 (Rs none (fun M' => Sm (Wfc r) M M' ∧ RkD M' r (kn K 1) (lkF K lit v) num)) NX 22 [some (.ref r), some (.ref p), some (.int (nI x)), some (.int (bI (lit = true))), some (.int num), some (.int (nI m)), o] [] M' := by
  have h6 := hP.1.2.2
  intro i
  induction i with
  | zero =>
    intro m o M' hm hM g2 g3 hl
    obtain ⟨k1, k2, k3, k4, k5⟩ := hk.mv hM.2.1 hM.2.2.2.1
    obtain rfl : m = kn K 1 := by omega
    refine v_iload dX5_face_22 rfl ?_
    refine v_aload_n dX5_face_24 rfl ?_
    refine v_getI 5 2 dX5_face_25 f5_30 (by assumption) (by decide) ?_
    rw [g2]
    refine v_icmp_ge 72 dX5_face_28 (by decide) (fun h28 => ?_) (fun h28 => absurd (nI_le (Nat.le_refl _) (by omega)) h28)
    refine v_vret dX5_face_72 rfl ?_
    exact ⟨rfl, hM, g2, g3, hl⟩
  | succ i ih =>
    intro m o M' hm hM g2 g3 hl
    have hp2 := hp.fc hr hM
    obtain ⟨k1, k2, k3, k4, k5⟩ := hk.mv hM.2.1 hM.2.2.2.1
    have hvm := hv m (by omega)
    have hw : ∀ z, Sm (Wfc r) M (sI M' (r + 1) m z) := fun z => hM.st _ (by unfold Wfc; rw [Nat.beq_refl]; rfl)
    have ps := hp2.1.1
    have fin : ∀ z, z = lkF K lit v m → V G Y5_face 1 0 0 (Rs none (fun M' => Sm (Wfc r) M M' ∧ RkD M' r (kn K 1) (lkF K lit v) num)) NX 22 [some (.ref r), some (.ref p), some (.int (nI x)), some (.int (bI (lit = true))), some (.int num), some (.int (nI (m + 1))), some (.int (nI (v m)))] [] (sI M' (r + 1) m z) := by
      intro z hz
      subst hz
      refine ih (m + 1) _ _ (by omega) (hw _) ((gI_sq _ _ (by omega)).trans g2) ((gI_sq _ _ (by omega)).trans g3) (fun j hj => ?_)
      by_cases e : j = m
      · subst e; exact gI_ss _ _ _ _
      · rw [gI_sk _ _ e]; exact hl j (by omega)
    cases lit with
    | true =>
      rw [show bI (true = true) = 1 from rfl] at fin ⊢
      refine v_iload dX5_face_22 rfl ?_
      refine v_aload_n dX5_face_24 rfl ?_
      refine v_getI 5 2 dX5_face_25 f5_30 (by assumption) (by decide) ?_
      rw [g2]
      refine v_icmp_ge 72 dX5_face_28 (by decide) (fun h28 => absurd ((nI_leI (by omega) (by omega)).mp h28) (by omega)) (fun h28 => ?_)
      refine v_iload_n dX5_face_31 rfl ?_
      refine v_iconst 4 dX5_face_32 (by decide) ?_
      refine v_iload dX5_face_33 rfl ?_
      refine v_imul dX5_face_35 ?_
      refine v_ishr dX5_face_36 ?_
      refine v_bipush 15 dX5_face_37 (by decide) ?_
      refine v_iand dX5_face_39 ?_
      rw [row_at hx (by omega), hvm.1]
      refine v_istore dX5_face_40 rfl (by decide) ?_
      refine v_aload_n dX5_face_42 rfl ?_
      refine v_getR 5 0 _ dX5_face_43 f5_11 (by assumption) (by decide) (by assumption) ?_
      refine v_iload dX5_face_46 rfl ?_
      refine v_iload_n dX5_face_48 rfl ?_
      refine v_if_eq 63 dX5_face_49 (by decide) (fun h49 => absurd h49 (by decide)) (fun h49 => ?_)
      refine v_aload_n dX5_face_52 rfl ?_
      refine v_iload dX5_face_53 rfl ?_
      refine v_iload dX5_face_55 rfl ?_
      refine v_cV [_, _] (c4_byLamp G M' hp2 h6 (by omega) hvm.2) k4_bLamp dX5_face_57 l5_34 (by assumption) (by decide) rfl (Nat.le_of_ble_eq_true rfl) (Nat.le_of_ble_eq_true rfl) ?_
      refine v_goto 65 dX5_face_60 (by decide) ?_
      refine v_iastN (m) dX5_face_65 (by assumption) (by simp only [n_lit, pk_mul, nI_add]) ⟨by omega, by omega⟩ ?_
      refine v_iinc 1 dX5_face_66 rfl (by decide) rfl (by decide) ?_
      refine v_goto 22 dX5_face_69 (by decide) ?_
      (rw [nI_1]; exact fin _ rfl)
    | false =>
      rw [show bI (false = true) = 0 from rfl] at fin ⊢
      refine v_iload dX5_face_22 rfl ?_
      refine v_aload_n dX5_face_24 rfl ?_
      refine v_getI 5 2 dX5_face_25 f5_30 (by assumption) (by decide) ?_
      rw [g2]
      refine v_icmp_ge 72 dX5_face_28 (by decide) (fun h28 => absurd ((nI_leI (by omega) (by omega)).mp h28) (by omega)) (fun h28 => ?_)
      refine v_iload_n dX5_face_31 rfl ?_
      refine v_iconst 4 dX5_face_32 (by decide) ?_
      refine v_iload dX5_face_33 rfl ?_
      refine v_imul dX5_face_35 ?_
      refine v_ishr dX5_face_36 ?_
      refine v_bipush 15 dX5_face_37 (by decide) ?_
      refine v_iand dX5_face_39 ?_
      rw [row_at hx (by omega), hvm.1]
      refine v_istore dX5_face_40 rfl (by decide) ?_
      refine v_aload_n dX5_face_42 rfl ?_
      refine v_getR 5 0 _ dX5_face_43 f5_11 (by assumption) (by decide) (by assumption) ?_
      refine v_iload dX5_face_46 rfl ?_
      refine v_iload_n dX5_face_48 rfl ?_
      refine v_if_eq 63 dX5_face_49 (by decide) (fun h49 => ?_) (fun h49 => absurd rfl h49)
      refine v_iload dX5_face_63 rfl ?_
      refine v_iastN (m) dX5_face_65 (by assumption) (by simp only [n_lit, pk_mul, nI_add]) ⟨by omega, by omega⟩ ?_
      refine v_iinc 1 dX5_face_66 rfl (by decide) rfl (by decide) ?_
      refine v_goto 22 dX5_face_69 (by decide) ?_
      (rw [nI_1]; exact fin _ rfl)
theorem c5_face {r p cd n : Nat} {K : Nat → Int32} (hk : RkSh M r) (hP : WP K) (hp : Plr M p cd n K) (hr : Apt p cd r (r + 2)) {x : Nat} (hx : x < 2 ^ 24) {v : Nat → Nat} (hv : ∀ m, m < kn K 1 → x / 16 ^ m % 16 = v m ∧ v m ≤ 9) (lit : Bool) (num : Int32) :
    Ct G Y5_face 1 0 0 [.ref r, .ref p, .int (nI x), .int (bI (lit = true)), .int num] M (Rs none (fun M' => Sm (Wfc r) M M' ∧ RkD M' r (kn K 1) (lkF K lit v) num)) NX := by
  have h6 := hP.1.2.2
  have hk0 := hk
  obtain ⟨k1, k2, k3, k4, k5⟩ := hk
  have hp0 := hp
  obtain ⟨⟨p1, p2, p3, p4, p5, p6, p7, p8, p9, p10, p11, p12, p13, p14⟩, ⟨e1, e2, e3, e4, e5, e6, e7⟩, d2, d3, d4, d5, d6, d7⟩ := hp
  refine Ct.of k5_face.1 (Nat.le_of_ble_eq_true rfl) ?_
  refine v_aload_n dX5_face_0 rfl ?_
  refine v_aload_n dX5_face_1 rfl ?_
  refine v_getI 4 1 dX5_face_2 f5_18 (by assumption) (by decide) ?_
  refine v_bipush 6 dX5_face_5 (by decide) ?_
  rw [e2, hP.1.1]
  refine v_cS [_, _] (cJ_min G M _ _) kJ_min dX5_face_7 l5_24 rfl (Nat.le_of_ble_eq_true rfl) (Nat.le_of_ble_eq_true rfl) ?_
  rw [if_neg (show ¬ (6 : Int32) < nI (kn K 1) from nI_nlt (a := 6) (by omega) (by decide))]
  refine v_putI 5 2 dX5_face_10 f5_30 (by assumption) (by decide) ?_
  refine v_aload_n dX5_face_13 rfl ?_
  refine v_iload dX5_face_14 rfl ?_
  refine v_putI 5 3 dX5_face_16 f5_31 (by assumption) (by decide) ?_
  refine v_iconst 0 dX5_face_19 (by decide) ?_
  refine v_istore dX5_face_20 rfl (by decide) ?_
  skip
  refine v_pad ?_
  refine l5_face G M hk0 hP hp0 hr hx hv lit num (kn K 1) 0 none _ (by omega) ((Sm.rf.st (q := r) (k := 2) _ (by unfold Wfc; rw [Nat.beq_refl, Bool.or_eq_true]; right; rfl)).st (q := r) (k := 3) _ (by unfold Wfc; rw [Nat.beq_refl, Bool.or_eq_true]; right; rfl)) ((gI_sk _ _ (by decide)).trans (gI_ss _ _ _ _)) (gI_ss _ _ _ _) (fun j hj => absurd hj (by omega))
theorem c4_allWords {p cd n : Nat} {K : Nat → Int32} (hp : Plr M p cd n K) (hP : WP K) : Ct G Y4_allWords 0 0 0 [.ref p] M (Rv (some (.int (nI (2 ^ kn K 3 - 1)))) M) NX := by
  obtain ⟨⟨p1, p2, p3, p4, p5, p6, p7, p8, p9, p10, p11, p12, p13, p14⟩, ⟨e1, e2, e3, e4, e5, e6, e7⟩, d2, d3, d4, d5, d6, d7⟩ := hp
  have h10 := hP.2.2.1.2
  have h1 := Nat.one_le_two_pow (n := kn K 3)
  refine Ct.of k4_allWords.1 (Nat.le_of_ble_eq_true rfl) ?_
  refine v_iconst 1 dX4_allWords_0 (by decide) ?_
  refine v_aload_n dX4_allWords_1 rfl ?_
  refine v_getI 4 4 dX4_allWords_2 f4_43 (by assumption) (by decide) ?_
  rw [e4, hP.2.2.1.1]
  refine v_ishl dX4_allWords_5 ?_
  rw [shl1 (by omega)]
  refine v_iconst 1 dX4_allWords_6 (by decide) ?_
  refine v_isub dX4_allWords_7 ?_
  rw [show nI (2 ^ kn K 3) - 1 = nI (2 ^ kn K 3 - 1) from pk_sub h1]
  refine v_iret dX4_allWords_8 rfl ?_
  exact ⟨rfl, rfl⟩
theorem c4_allChests {p cd n : Nat} {K : Nat → Int32} (hp : Plr M p cd n K) (hP : WP K) : Ct G Y4_allChests 0 0 0 [.ref p] M (Rv (some (.int (nI (2 ^ kn K 2 - 1)))) M) NX := by
  obtain ⟨⟨p1, p2, p3, p4, p5, p6, p7, p8, p9, p10, p11, p12, p13, p14⟩, ⟨e1, e2, e3, e4, e5, e6, e7⟩, d2, d3, d4, d5, d6, d7⟩ := hp
  have h14 := hP.2.1.2
  have h1 := Nat.one_le_two_pow (n := kn K 2)
  refine Ct.of k4_allChests.1 (Nat.le_of_ble_eq_true rfl) ?_
  refine v_iconst 1 dX4_allChests_0 (by decide) ?_
  refine v_aload_n dX4_allChests_1 rfl ?_
  refine v_getI 4 2 dX4_allChests_2 f4_40 (by assumption) (by decide) ?_
  rw [e3, hP.2.1.1]
  refine v_ishl dX4_allChests_5 ?_
  rw [shl1 (by omega)]
  refine v_iconst 1 dX4_allChests_6 (by decide) ?_
  refine v_isub dX4_allChests_7 ?_
  rw [show nI (2 ^ kn K 2) - 1 = nI (2 ^ kn K 2 - 1) from pk_sub h1]
  refine v_iret dX4_allChests_8 rfl ?_
  exact ⟨rfl, rfl⟩
end C5c
