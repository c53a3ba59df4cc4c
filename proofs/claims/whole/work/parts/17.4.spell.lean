/-! ===== the class: a token's spelling ===== -/
/-- a byte as the class has it -/
def sb (x : Nat) : Int32 := if x < 128 then nI x else nI x - 256
theorem sb_and : ∀ x, x < 256 → sb x &&& 255 = nI x := by decide +kernel
theorem sb_10 : ∀ x, x < 256 → (sb x = 10 ↔ x = 10) := by decide +kernel
theorem sb_32 : ∀ x, x < 256 → (sb x = 32 ↔ x = 32) := by decide +kernel
theorem sb_lo : ∀ x, x < 256 → (loB x = true ↔ ¬ sb x < 97 ∧ ¬ 122 < sb x) := by decide +kernel
theorem sb_di : ∀ x, x < 256 → (diB x = true ↔ ¬ sb x < 48 ∧ ¬ 57 < sb x) := by decide +kernel
theorem sb_n {x : Nat} (h : x < 128) : sb x = nI x := if_pos h
def Tk (M : mM) (Z : (Nat → Nat) × Nat) : Prop := gR M 103 3 = some 101 ∧ gI M 103 4 = nI Z.2 ∧ Z.2 ≤ 900 ∧ ∀ j, j < Z.2 → gI M 101 j = sb (Z.1 j) ∧ Z.1 j < 256
section KA
variable {G : mG} {y : mY} {D kc ks : Nat} {Q : Option Value → mM → Prop} {X : String → mM → Prop} {pc : Nat} {ls : List (Option Value)} {st : List Value} {M : mM}
/-- a token put into an array of tokens -/
theorem v_aastK {q n a : Nat} {i : Int32} (d : decode (yb y) pc = .ok (.aastore, 1)) (hT : gT M q = .inr (4, n)) (hi : vp_in i n) (ha : ∀ s, KK G s → va_O RX8 (al G a) (fr G) s G.2.2.2.1) (kk : V G y D kc ks Q X (pc + 1) ls st (sR M q i.toNatClampNeg (some a))) : V G y D kc ks Q X pc ls (.ref a :: .int i :: .ref q :: st) M := by
  intro p l e s m args below meth cd H locs cells slots mc ms lr E hl hR hf hc hs
  obtain ⟨g1, g2, g3⟩ := hR.arr hT (by decide)
  obtain ⟨hC, hc13⟩ := eT_C (t := 4) (by decide)
  obtain ⟨cellV, v1, v3, v2, -⟩ := (ha s E.2.2.2.2.2.2.2.1).kept (H1 := H) (fun a ha _ => hR.2.2.1 a ha)
  have hcls := (E.2.2.2.2.2.2.2.1.1.1 8 _ (cls_ok _ (by decide)).1).2
  have hra := E.2.2.2.2.2.2.2.1.ra (t := 4) (by decide)
  rw [hC] at hra
  obtain ⟨kA, comp, k1, k2, k3, -⟩ := hra
  have hcomp : comp = G.1 8 := Option.some.inj (k3.symm.trans hcls.1)
  subst hcomp
  obtain ⟨kC, hkC, -⟩ := hcls.2
  have hv2 : cellV.cls = G.1 8 := Option.some.inj (v2.symm.trans hcls.1)
  have hlt := vp_in_lt hi
  refine W.aast (g := F0 m pc lr _) E.1 E.2.1 g3 (fun q h => by cases h) (fun h => by cases h) k1 k2 rfl hkC ⟨fun z => hi (Or.inl z), by rw [arrV_size]; exact hlt⟩ v1 (fun q h => by rw [h] at v3; cases v3) (by rw [hv2]; exact hkC) (by rw [hv2]; exact va_assign hcls) rfl rfl d fun H' e1 e2 e3 => ?_
  exact kk p l e s m args below meth cd H' _ cells slots mc ms lr E hl (hR.store g1 rfl rfl e2 e3 (fun _ _ => rfl) (fun _ _ => rfl) (fun r hr => up2_row hr) (ar_put (by exact hT) e1 (by rw [fv_O (by rw [hC]; rfl), gR_sR, up2_s]; rfl) (fun j hj => fv_sR hj))) (fr_put hf g1) hc hs
end KA
section KB
variable (G : mG) (M : mM)
theorem kT_t2 : ∀ s, KK G s → va_T (.object RX8) (al G 33) 33 (fun j => .ref (al G (Nat.min j 32))) (fr G) s G.2.2.2.1 := fun s h => by
  obtain ⟨cell, h1, h2, h3, h4, h5, h6, h7⟩ := kT_t G s h
  refine ⟨cell, h1, h2, h3, h4, h5, fun j hj => ?_, h7⟩
  rw [h6 j hj]
  show some (Value.ref (ad G j)) = some (Value.ref (al G (Nat.min j 32)))
  rw [show Nat.min j 32 = j from Nat.min_eq_left (by omega), al_lt (show j < 100 by omega)]
theorem c9_isLetter {x : Nat} (hx : x < 256) : Ct G Y9_isLetter 0 0 0 [.int (sb x)] M (Rv (some (.int (bI (loB x = true)))) M) NX := by
  have hs := sb_lo x hx
  refine Ct.of k9_isLetter.1 (Nat.le_of_ble_eq_true rfl) ?_
  by_cases hl : loB x = true
  · rw [bI_t hl]
    refine v_iload_n dX9_isLetter_0 rfl ?_
    refine v_bipush 97 dX9_isLetter_1 (by decide) ?_
    refine v_icmp_lt 16 dX9_isLetter_3 (by decide) (fun h3 => absurd h3 (hs.mp hl).1) (fun h3 => ?_)
    refine v_iload_n dX9_isLetter_6 rfl ?_
    refine v_bipush 122 dX9_isLetter_7 (by decide) ?_
    refine v_icmp_gt 16 dX9_isLetter_9 (by decide) (fun h9 => absurd h9 (hs.mp hl).2) (fun h9 => ?_)
    refine v_iconst 1 dX9_isLetter_12 (by decide) ?_
    refine v_goto 17 dX9_isLetter_13 (by decide) ?_
    refine v_zret dX9_isLetter_17 rfl (by first | rfl | exact bI_nb _ | assumption) ?_
    exact ⟨rfl, rfl⟩
  · rw [bI_f hl]
    refine v_iload_n dX9_isLetter_0 rfl ?_
    refine v_bipush 97 dX9_isLetter_1 (by decide) ?_
    refine v_icmp_lt 16 dX9_isLetter_3 (by decide) (fun h3 => ?_) (fun h3 => ?_)
    · refine v_iconst 0 dX9_isLetter_16 (by decide) ?_
      refine v_zret dX9_isLetter_17 rfl (by first | rfl | exact bI_nb _ | assumption) ?_
      first | exact ⟨rfl, rfl⟩ | exact absurd (hs.mpr ⟨h3, h9⟩) hl
    · refine v_iload_n dX9_isLetter_6 rfl ?_
      refine v_bipush 122 dX9_isLetter_7 (by decide) ?_
      refine v_icmp_gt 16 dX9_isLetter_9 (by decide) (fun h9 => ?_) (fun h9 => ?_)
      · refine v_iconst 0 dX9_isLetter_16 (by decide) ?_
        refine v_zret dX9_isLetter_17 rfl (by first | rfl | exact bI_nb _ | assumption) ?_
        first | exact ⟨rfl, rfl⟩ | exact absurd (hs.mpr ⟨h3, h9⟩) hl
      · refine v_iconst 1 dX9_isLetter_12 (by decide) ?_
        refine v_goto 17 dX9_isLetter_13 (by decide) ?_
        refine v_zret dX9_isLetter_17 rfl (by first | rfl | exact bI_nb _ | assumption) ?_
        first | exact ⟨rfl, rfl⟩ | exact absurd (hs.mpr ⟨h3, h9⟩) hl
theorem c9_isDigit {x : Nat} (hx : x < 256) : Ct G Y9_isDigit 0 0 0 [.int (sb x)] M (Rv (some (.int (bI (diB x = true)))) M) NX := by
  have hs := sb_di x hx
  refine Ct.of k9_isDigit.1 (Nat.le_of_ble_eq_true rfl) ?_
  by_cases hl : diB x = true
  · rw [bI_t hl]
    refine v_iload_n dX9_isDigit_0 rfl ?_
    refine v_bipush 48 dX9_isDigit_1 (by decide) ?_
    refine v_icmp_lt 16 dX9_isDigit_3 (by decide) (fun h3 => absurd h3 (hs.mp hl).1) (fun h3 => ?_)
    refine v_iload_n dX9_isDigit_6 rfl ?_
    refine v_bipush 57 dX9_isDigit_7 (by decide) ?_
    refine v_icmp_gt 16 dX9_isDigit_9 (by decide) (fun h9 => absurd h9 (hs.mp hl).2) (fun h9 => ?_)
    refine v_iconst 1 dX9_isDigit_12 (by decide) ?_
    refine v_goto 17 dX9_isDigit_13 (by decide) ?_
    refine v_zret dX9_isDigit_17 rfl (by first | rfl | exact bI_nb _ | assumption) ?_
    exact ⟨rfl, rfl⟩
  · rw [bI_f hl]
    refine v_iload_n dX9_isDigit_0 rfl ?_
    refine v_bipush 48 dX9_isDigit_1 (by decide) ?_
    refine v_icmp_lt 16 dX9_isDigit_3 (by decide) (fun h3 => ?_) (fun h3 => ?_)
    · refine v_iconst 0 dX9_isDigit_16 (by decide) ?_
      refine v_zret dX9_isDigit_17 rfl (by first | rfl | exact bI_nb _ | assumption) ?_
      first | exact ⟨rfl, rfl⟩ | exact absurd (hs.mpr ⟨h3, h9⟩) hl
    · refine v_iload_n dX9_isDigit_6 rfl ?_
      refine v_bipush 57 dX9_isDigit_7 (by decide) ?_
      refine v_icmp_gt 16 dX9_isDigit_9 (by decide) (fun h9 => ?_) (fun h9 => ?_)
      · refine v_iconst 0 dX9_isDigit_16 (by decide) ?_
        refine v_zret dX9_isDigit_17 rfl (by first | rfl | exact bI_nb _ | assumption) ?_
        first | exact ⟨rfl, rfl⟩ | exact absurd (hs.mpr ⟨h3, h9⟩) hl
      · refine v_iconst 1 dX9_isDigit_12 (by decide) ?_
        refine v_goto 17 dX9_isDigit_13 (by decide) ?_
        refine v_zret dX9_isDigit_17 rfl (by first | rfl | exact bI_nb _ | assumption) ?_
        first | exact ⟨rfl, rfl⟩ | exact absurd (hs.mpr ⟨h3, h9⟩) hl
theorem c8_isSpelled {Z : (Nat → Nat) × Nat} {k f t : Nat} (hS : Sh M) (hT : Tk M Z) (hk : k < 33) (hf : f ≤ t) (ht : t ≤ Z.2) : Ct G Y8_isSpelled 4 0 0 [.ref k, .ref 101, .int (nI f), .int (nI t)] M (Rv (some (.int (bI (stX.getD (Nat.min k 29) [] = wl Z.1 f t)))) M) NX := by
  have h900 := hT.2.2.1
  have hm : Nat.min k 29 < 30 := Nat.lt_of_le_of_lt (Nat.min_le_right k 29) (by decide)
  have hw := wl_iff (b := Z.1) (s := f) (e := t) (k := Nat.min k 29)
  have hB1 : stX.getD (Nat.min k 29) [] = wl Z.1 f t → bI (stX.getD (Nat.min k 29) [] = wl Z.1 f t) = 1 := fun z => bI_t z
  have hB0 : ¬ stX.getD (Nat.min k 29) [] = wl Z.1 f t → bI (stX.getD (Nat.min k 29) [] = wl Z.1 f t) = 0 := fun z => bI_f z
  generalize bI (stX.getD (Nat.min k 29) [] = wl Z.1 f t) = B at hB1 hB0 ⊢
  have hx := kT_x G hk
  have hlen := (st_ok (Nat.min k 29) hm).1
  generalize Nat.min k 29 = m at hm hw hB1 hB0 hx hlen
  refine Ct.of k8_isSpelled.1 (Nat.le_of_ble_eq_true rfl) ?_
  by_cases hl : t - f = stN m
  · have loop : ∀ r j, j + r = stN m → (∀ i, i < j → nI (Z.1 (f + i)) = stC m i) → V G Y8_isSpelled 4 0 0 (Rv (some (.int B)) M) NX 28 [some (.ref k), some (.ref 101), some (.int (nI f)), some (.int (nI t)), some (.int (nI (f + j)))] [] M := by
      intro r
      induction r with
      | zero =>
        intro j hj ha
        rw [hB1 (hw.mpr ⟨hl, fun i hi => ha i (by omega)⟩)]
        refine v_iload dX8_isSpelled_28 rfl ?_
        refine v_iload_n dX8_isSpelled_30 rfl ?_
        refine v_icmp_ge 64 dX8_isSpelled_31 (by decide) (fun h31 => ?_) (fun h31 => absurd (nI_le (by omega) (by omega)) h31)
        refine v_iconst 1 dX8_isSpelled_64 (by decide) ?_
        refine v_zret dX8_isSpelled_65 rfl (by first | rfl | exact bI_nb _ | assumption) ?_
        exact ⟨rfl, rfl⟩
      | succ r ih =>
        intro j hj ha
        obtain ⟨b1, b2⟩ := hT.2.2.2 (f + j) (by omega)
        by_cases hc : nI (Z.1 (f + j)) = stC m j
        · have g := ih (j + 1) (by omega) (fun i hi => by
            rcases Nat.lt_or_ge i j with q | q
            · exact ha i q
            · rw [show i = j by omega]; exact hc)
          refine v_iload dX8_isSpelled_28 rfl ?_
          refine v_iload_n dX8_isSpelled_30 rfl ?_
          refine v_icmp_ge 64 dX8_isSpelled_31 (by decide) (fun h31 => absurd ((nI_leI (by omega) (by omega)).mp h31) (by omega)) (fun h31 => ?_)
          refine v_aload_n dX8_isSpelled_34 rfl ?_
          refine v_getC dX8_isSpelled_35 g8_122 hx ?_
          refine v_iload dX8_isSpelled_38 rfl ?_
          refine v_iload_n dX8_isSpelled_40 rfl ?_
          refine v_isub dX8_isSpelled_41 ?_
          rw [nSub (Nat.le_add_right f j), Nat.add_sub_cancel_left]
          refine v_cVC [_] (cJ_charAt G M (k := m) (j := j) hm (by omega)) kJ_charAt dX8_isSpelled_42 l8_139 (kS_o G hm) rfl (Nat.le_of_ble_eq_true rfl) (Nat.le_of_ble_eq_true rfl) ?_
          refine v_aload_n dX8_isSpelled_45 rfl ?_
          refine v_iload dX8_isSpelled_46 rfl ?_
          refine v_baldN (f + j) dX8_isSpelled_48 (by first | exact hS.1 _ _ rfl | assumption) (by simp only [n_lit, pk_mul, nI_add]) ⟨by omega, by omega⟩ ?_
          rw [b1]
          refine v_sipush 255 dX8_isSpelled_49 (by decide) ?_
          refine v_iand dX8_isSpelled_52 ?_
          rw [sb_and _ b2, hc]
          refine v_icmp_eq 58 dX8_isSpelled_53 (by decide) (fun h53 => ?_) (fun h53 => absurd rfl h53)
          refine v_iinc 1 dX8_isSpelled_58 rfl (by decide) rfl (by decide) ?_
          refine v_goto 28 dX8_isSpelled_61 (by decide) ?_
          (rw [nI_1]; exact g)
        · rw [hB0 (fun z => hc ((hw.mp z).2 j (by omega)))]
          refine v_iload dX8_isSpelled_28 rfl ?_
          refine v_iload_n dX8_isSpelled_30 rfl ?_
          refine v_icmp_ge 64 dX8_isSpelled_31 (by decide) (fun h31 => absurd ((nI_leI (by omega) (by omega)).mp h31) (by omega)) (fun h31 => ?_)
          refine v_aload_n dX8_isSpelled_34 rfl ?_
          refine v_getC dX8_isSpelled_35 g8_122 hx ?_
          refine v_iload dX8_isSpelled_38 rfl ?_
          refine v_iload_n dX8_isSpelled_40 rfl ?_
          refine v_isub dX8_isSpelled_41 ?_
          rw [nSub (Nat.le_add_right f j), Nat.add_sub_cancel_left]
          refine v_cVC [_] (cJ_charAt G M (k := m) (j := j) hm (by omega)) kJ_charAt dX8_isSpelled_42 l8_139 (kS_o G hm) rfl (Nat.le_of_ble_eq_true rfl) (Nat.le_of_ble_eq_true rfl) ?_
          refine v_aload_n dX8_isSpelled_45 rfl ?_
          refine v_iload dX8_isSpelled_46 rfl ?_
          refine v_baldN (f + j) dX8_isSpelled_48 (by first | exact hS.1 _ _ rfl | assumption) (by simp only [n_lit, pk_mul, nI_add]) ⟨by omega, by omega⟩ ?_
          rw [b1]
          refine v_sipush 255 dX8_isSpelled_49 (by decide) ?_
          refine v_iand dX8_isSpelled_52 ?_
          rw [sb_and _ b2]
          refine v_icmp_eq 58 dX8_isSpelled_53 (by decide) (fun h53 => absurd h53.symm hc) (fun h53 => ?_)
          refine v_iconst 0 dX8_isSpelled_56 (by decide) ?_
          refine v_zret dX8_isSpelled_57 rfl (by first | rfl | exact bI_nb _ | assumption) ?_
          exact ⟨rfl, rfl⟩
    refine v_aload_n dX8_isSpelled_0 rfl ?_
    refine v_getC dX8_isSpelled_1 g8_122 hx ?_
    refine v_cVC [] (cJ_length G M hm) kJ_length dX8_isSpelled_4 l8_133 (kS_o G hm) rfl (Nat.le_of_ble_eq_true rfl) (Nat.le_of_ble_eq_true rfl) ?_
    refine v_iload_n dX8_isSpelled_7 rfl ?_
    refine v_iload_n dX8_isSpelled_8 rfl ?_
    refine v_isub dX8_isSpelled_9 ?_
    rw [nSub hf, hl]
    refine v_icmp_ne 23 dX8_isSpelled_10 (by decide) (fun h10 => absurd rfl h10) (fun h10 => ?_)
    refine v_iload_n dX8_isSpelled_13 rfl ?_
    refine v_if_lt 23 dX8_isSpelled_14 (by decide) (fun h14 => absurd (show nI f < nI 0 from h14) (fun z => absurd ((nI_ltI (by omega) (by omega)).mp z) (by omega))) (fun h14 => ?_)
    refine v_iload_n dX8_isSpelled_17 rfl ?_
    refine v_aload_n dX8_isSpelled_18 rfl ?_
    refine v_alen dX8_isSpelled_19 (by first | exact hS.1 _ _ rfl | assumption) (by decide) ?_
    skip
    refine v_icmp_le 25 dX8_isSpelled_20 (by decide) (fun h20 => ?_) (fun h20 => absurd (nI_le (b := 900) (by omega) (by omega)) h20)
    refine v_iload_n dX8_isSpelled_25 rfl ?_
    refine v_istore dX8_isSpelled_26 rfl (by decide) ?_
    exact loop _ 0 (Nat.zero_add _) (fun i hi => absurd hi (Nat.not_lt_zero _))
  · rw [hB0 (fun z => hl (hw.mp z).1)]
    refine v_aload_n dX8_isSpelled_0 rfl ?_
    refine v_getC dX8_isSpelled_1 g8_122 hx ?_
    refine v_cVC [] (cJ_length G M hm) kJ_length dX8_isSpelled_4 l8_133 (kS_o G hm) rfl (Nat.le_of_ble_eq_true rfl) (Nat.le_of_ble_eq_true rfl) ?_
    refine v_iload_n dX8_isSpelled_7 rfl ?_
    refine v_iload_n dX8_isSpelled_8 rfl ?_
    refine v_isub dX8_isSpelled_9 ?_
    rw [nSub hf]
    refine v_icmp_ne 23 dX8_isSpelled_10 (by decide) (fun h10 => ?_) (fun h10 => absurd (fun z => hl ((nI_eq (by omega) (by omega)).mp z).symm) h10)
    refine v_iconst 0 dX8_isSpelled_23 (by decide) ?_
    refine v_zret dX8_isSpelled_24 rfl (by first | rfl | exact bI_nb _ | assumption) ?_
    exact ⟨rfl, rfl⟩
theorem c8_spelled {Z : (Nat → Nat) × Nat} {f t o : Nat} (hS : Sh M) (hT : Tk M Z) (hf : f < t) (ht : t ≤ Z.2) (ho : 29 ≤ o) : Ct G Y8_spelled 5 0 0 [.ref 101, .int (nI f), .int (nI t), .ref o] M (Rv (some (.ref (kdW (wl Z.1 f t) o))) M) NX := by
  refine Ct.of k8_spelled.1 (Nat.le_of_ble_eq_true rfl) ?_
  have hne : ∀ m, m < 30 → ¬ m < 29 → ¬ stX.getD m [] = wl Z.1 f t := by
    intro m h1 h2 z
    have := (wl_iff.mp z).1
    rw [show m = 29 by omega, show stN 29 = 0 by decide] at this
    omega
  have loop : ∀ r i, i + r = 33 → (∀ j, j < i → j < 29 → ¬ stX.getD j [] = wl Z.1 f t) → V G Y8_spelled 5 0 0 (Rv (some (.ref (kdW (wl Z.1 f t) o))) M) NX 3 [some (.ref 101), some (.int (nI f)), some (.int (nI t)), some (.ref o), some (.int (nI i))] [] M := by
    intro r
    induction r with
    | zero =>
      intro i hi ha
      have e : kdW (wl Z.1 f t) o = o := by
        rcases kdW_ok (wl Z.1 f t) o with ⟨a, b⟩ | ⟨a, _⟩
        · exact absurd b (ha _ (by omega) a)
        · exact a
      rw [e]
      refine v_iload dX8_spelled_3 rfl ?_
      refine v_gets (v := .ref 33) dX8_spelled_5 g8_126 (kT_a G) ?_
      refine v_alenC dX8_spelled_8 (kT_t2 G) ?_
      refine v_icmp_ge 40 dX8_spelled_9 (by decide) (fun h9 => ?_) (fun h9 => absurd (nI_le (a := 33) (by omega) (by omega)) h9)
      refine v_aload_n dX8_spelled_40 rfl ?_
      refine v_aret dX8_spelled_41 rfl (by first | exact Or.inr ⟨_, rfl⟩ | exact Or.inl rfl) ?_
      exact ⟨rfl, rfl⟩
    | succ r ih =>
      intro i hi ha
      have hsp := c8_isSpelled G M (k := i) hS hT (by omega) (Nat.le_of_lt hf) ht
      have hci : Nat.min (nI i).toNatClampNeg 32 = i := by rw [nI_clamp (by omega)]; exact Nat.min_eq_left (by omega)
      by_cases hc : stX.getD (Nat.min i 29) [] = wl Z.1 f t
      · have h29 : i < 29 := Decidable.byContradiction (fun z => hne (Nat.min i 29) (Nat.lt_of_le_of_lt (Nat.min_le_right i 29) (by decide)) (by rw [show Nat.min i 29 = 29 from Nat.min_eq_right (by omega)]; omega) hc)
        rw [bI_t hc] at hsp
        have e : kdW (wl Z.1 f t) o = i := (kdW_iff ho h29).mpr (by rw [show Nat.min i 29 = i from Nat.min_eq_left (by omega)] at hc; exact hc)
        rw [e]
        refine v_iload dX8_spelled_3 rfl ?_
        refine v_gets (v := .ref 33) dX8_spelled_5 g8_126 (kT_a G) ?_
        refine v_alenC dX8_spelled_8 (kT_t2 G) ?_
        refine v_icmp_ge 40 dX8_spelled_9 (by decide) (fun h9 => absurd ((nI_leI (a := 33) (by omega) (by omega)).mp h9) (by omega)) (fun h9 => ?_)
        refine v_gets (v := .ref 33) dX8_spelled_12 g8_126 (kT_a G) ?_
        refine v_iload dX8_spelled_15 rfl ?_
        refine v_aaldC (f := fun j => Nat.min j 32) dX8_spelled_17 (kT_t2 G) (vp_in_nI (by omega) (by omega)) ?_; show V _ _ _ _ _ _ _ _ _ (.ref (Nat.min (nI i).toNatClampNeg 32) :: _) _; rw [hci]
        refine v_aload_n dX8_spelled_18 rfl ?_
        refine v_iload_n dX8_spelled_19 rfl ?_
        refine v_iload_n dX8_spelled_20 rfl ?_
        refine v_cVC [_, _, _] hsp k8_isSpelled dX8_spelled_21 l8_129 (kT_o G (by omega)) rfl (Nat.le_of_ble_eq_true rfl) (Nat.le_of_ble_eq_true rfl) ?_
        refine v_if_eq 34 dX8_spelled_24 (by decide) (fun h24 => absurd h24 (by decide)) (fun h24 => ?_)
        refine v_gets (v := .ref 33) dX8_spelled_27 g8_126 (kT_a G) ?_
        refine v_iload dX8_spelled_30 rfl ?_
        refine v_aaldC (f := fun j => Nat.min j 32) dX8_spelled_32 (kT_t2 G) (vp_in_nI (by omega) (by omega)) ?_; show V _ _ _ _ _ _ _ _ _ (.ref (Nat.min (nI i).toNatClampNeg 32) :: _) _; rw [hci]
        refine v_aret dX8_spelled_33 rfl (by first | exact Or.inr ⟨_, rfl⟩ | exact Or.inl rfl) ?_
        exact ⟨rfl, rfl⟩
      · rw [bI_f hc] at hsp
        have g := ih (i + 1) (by omega) (fun j hj h29 => by
          rcases Nat.lt_or_ge j i with q | q
          · exact ha j q h29
          · have ej : j = i := by omega
            subst ej
            rw [show Nat.min j 29 = j from Nat.min_eq_left (by omega)] at hc
            exact hc)
        refine v_iload dX8_spelled_3 rfl ?_
        refine v_gets (v := .ref 33) dX8_spelled_5 g8_126 (kT_a G) ?_
        refine v_alenC dX8_spelled_8 (kT_t2 G) ?_
        refine v_icmp_ge 40 dX8_spelled_9 (by decide) (fun h9 => absurd ((nI_leI (a := 33) (by omega) (by omega)).mp h9) (by omega)) (fun h9 => ?_)
        refine v_gets (v := .ref 33) dX8_spelled_12 g8_126 (kT_a G) ?_
        refine v_iload dX8_spelled_15 rfl ?_
        refine v_aaldC (f := fun j => Nat.min j 32) dX8_spelled_17 (kT_t2 G) (vp_in_nI (by omega) (by omega)) ?_; show V _ _ _ _ _ _ _ _ _ (.ref (Nat.min (nI i).toNatClampNeg 32) :: _) _; rw [hci]
        refine v_aload_n dX8_spelled_18 rfl ?_
        refine v_iload_n dX8_spelled_19 rfl ?_
        refine v_iload_n dX8_spelled_20 rfl ?_
        refine v_cVC [_, _, _] hsp k8_isSpelled dX8_spelled_21 l8_129 (kT_o G (by omega)) rfl (Nat.le_of_ble_eq_true rfl) (Nat.le_of_ble_eq_true rfl) ?_
        refine v_if_eq 34 dX8_spelled_24 (by decide) (fun h24 => ?_) (fun h24 => absurd rfl h24)
        refine v_iinc 1 dX8_spelled_34 rfl (by decide) rfl (by decide) ?_
        refine v_goto 3 dX8_spelled_37 (by decide) ?_
        (rw [nI_1]; exact g)
  refine v_iconst 0 dX8_spelled_0 (by decide) ?_
  refine v_istore dX8_spelled_1 rfl (by decide) ?_
  exact loop 33 0 rfl (fun j hj => absurd hj (Nat.not_lt_zero _))
end KB
