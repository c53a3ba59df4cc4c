/-! ===== the class LeastWords: hardest, shorter, twins, idle, changing, differ ===== -/
theorem bset_f {p : Nat → Bool} {n : Nat} (h : p n = false) : bset (n + 1) p = bset n p := by
  show bset n p ||| (if p n then 2 ^ n else 0) = _
  rw [h]
  exact Nat.or_zero _
/-- a price told by the class: none is the greatest int -/
def mx (y : Int32) : Int32 := if y = 536870912 then 2147483647 else y
def pv (y : Int32) : Prop := y = 536870912 ∨ ∃ x, x ≤ 190 ∧ y = nI x
theorem mx_n {a : Nat} (h : a ≤ 190) : mx (nI a) = nI a := if_neg (fun z => by have := (nI_eq (b := 536870912) (by omega) (by decide)).mp z; omega)
theorem mx_0 {z : Int32} (hz : pv z) : (-1 : Int32) < mx z := by
  rcases hz with rfl | ⟨b, hb, rfl⟩
  · decide
  · rw [mx_n hb]; exact Int32.lt_of_lt_of_le (show (-1 : Int32) < 0 by decide) (nI_pos' (by omega))
theorem mx_lt {y z : Int32} (hy : pv y) (hz : pv z) : mx y < mx z ↔ y < z := by
  rcases hy with rfl | ⟨a, ha, rfl⟩
  · rcases hz with rfl | ⟨b, hb, rfl⟩
    · decide
    · rw [mx_n hb]
      exact ⟨fun h => absurd h (nI_nlt (a := 2147483647) (by omega) (by decide)), fun h => absurd h (nI_nlt (a := 536870912) (by omega) (by decide))⟩
  · rcases hz with rfl | ⟨b, hb, rfl⟩
    · rw [mx_n ha]
      exact ⟨fun _ => nI_lt (b := 536870912) (by omega) (by decide), fun _ => nI_lt (b := 2147483647) (by omega) (by decide)⟩
    · rw [mx_n ha, mx_n hb]
theorem prI_v {K : Nat → Int32} (hP : WP K) (c : Nat) : pv (prI K c) ∧ mx (prI K c) = if encE (lstN K c (2 ^ kn K 3 - 1) false) = -1 then 2147483647 else encE (lstN K c (2 ^ kn K 3 - 1) false) := by
  have h10 := hP.2.2.1.2
  have hp3 : 2 ^ kn K 3 ≤ 1024 := Nat.pow_le_pow_right (n := 2) (by decide) h10
  have hb := lstN_b hP (c := c) (sm := 2 ^ kn K 3 - 1) (sure := false) (by omega)
  unfold prI
  rw [prc_e]
  cases hl : lstN K c (2 ^ kn K 3 - 1) false with
  | none => exact ⟨Or.inl rfl, rfl⟩
  | some x =>
    obtain ⟨a, b⟩ := x
    have h1 := (hb a b hl).1
    have h2 : ¬ encE (some (a, b)) = -1 := nI_m1 (by omega)
    rw [if_neg h2, if_neg h2]
    exact ⟨Or.inr ⟨a, h1, rfl⟩, mx_n h1⟩
theorem hrF_v {K : Nat → Int32} (hP : WP K) : ∀ c, (hrF K c).1 = -1 ∨ pv (hrF K c).2 := by
  intro c
  induction c with
  | zero => exact Or.inl rfl
  | succ c ih =>
    simp only [hrF]
    split
    · split
      · exact Or.inr (prI_v hP c).1
      · exact ih
    · exact ih
/-- what the class has as the most so far -/
def hdM (r : Int32 × Int32) : Int32 := if r.1 = -1 then -1 else mx r.2
theorem hdM_lt {K : Nat → Int32} (hP : WP K) (c : Nat) {z : Int32} (hz : pv z) : hdM (hrF K c) < mx z ↔ ((hrF K c).1 = -1 ∨ (hrF K c).2 < z) := by
  unfold hdM
  by_cases h : (hrF K c).1 = -1
  · rw [if_pos h]
    exact ⟨fun _ => Or.inl h, fun _ => mx_0 hz⟩
  · rw [if_neg h, mx_lt ((hrF_v hP c).resolve_left h) hz]
    exact ⟨Or.inr, fun z => z.resolve_left h⟩
theorem dif_dj {D x : Nat} (h : D % 1024 &&& D / 1024 = 0) : dif D x % 1024 &&& dif D x / 1024 = 0 := by
  apply Nat.eq_of_testBit_eq
  intro i
  have h1 : (D % 1024 &&& D / 1024).testBit i = false := by rw [h, Nat.zero_testBit]
  rw [show (1024 : Nat) = 2 ^ 10 from rfl] at h1 ⊢
  rw [Nat.testBit_and, Nat.testBit_mod_two_pow, Nat.testBit_div_two_pow] at h1
  rw [Nat.zero_testBit, Nat.testBit_and, Nat.testBit_mod_two_pow, Nat.testBit_div_two_pow, dif_bit, dif_bit]
  cases h2 : D.testBit i <;> cases h3 : D.testBit (10 + i) <;> cases h4 : decide (i < 10) <;> simp_all
theorem dif_1 {D k : Nat} (h : D.testBit k = false) : dif D (2 ^ k) = D := by
  apply Nat.eq_of_testBit_eq
  intro i
  rw [dif_bit, Nat.testBit_two_pow]
  by_cases e : k = i
  · subst e; rw [h]; rfl
  · simp [e]
theorem nI_dec (k : Nat) : nI k + (-1) = nI k - 1 := (Int32.sub_eq_add_neg _ _).symm
theorem pcn_ten : ((List.range 1024).all (fun S => Nat.ble (pcn S) 10)) = true := by decide +kernel
theorem pcn_le10 {S : Nat} (h : S < 1024) : pcn S ≤ 10 := Nat.le_of_ble_eq_true (List.all_eq_true.mp pcn_ten S (List.mem_range.mpr h))
theorem nI_z {a : Nat} (ha : a < 2 ^ 32) (h : nI a = 0) : a = 0 := by
  have h1 := congrArg (fun x : Int32 => x.toBitVec.toNat) h
  rw [show (0 : Int32) = nI 0 from rfl, pk_tn ha, pk_tn (by decide)] at h1
  exact h1
theorem tCm_e {K : Nat → Int32} (hW : WK K) (x : Int32) : (tCm K x = 0 ↔ ¬ (x = 0 ∨ ¬ x &&& (K 93 ^^^ (-1)) = 0)) ∧ (tCm K x = 0 ∨ tCm K x = 1) ∧ (tCm K x = 0 → ∃ S, S < 2 ^ kn K 2 ∧ x = nI S) := by
  have h14 := hW.p.2.1.2
  have hi := hW.i.2
  have hp2 : 2 ^ kn K 2 ≤ 16384 := (show 2 ^ kn K 2 ≤ 2 ^ 14 from Nat.pow_le_pow_right (by decide) h14)
  have key : x &&& (K 93 ^^^ (-1)) = 0 → ∃ S, S < 2 ^ kn K 2 ∧ x = nI S := by
    intro h
    have hx : x = nI x.toBitVec.toNat := i32_ext (by rw [nI_bv]; apply BitVec.eq_of_toNat_eq; rw [BitVec.toNat_ofNat, Nat.mod_eq_of_lt x.toBitVec.isLt])
    generalize x.toBitVec.toNat = X at hx
    subst hx
    exact ⟨X % 2 ^ 32, by
      have e : nI X = nI (X % 2 ^ 32) := i32_ext (by rw [nI_bv, nI_bv]; apply BitVec.eq_of_toNat_eq; simp)
      rw [e, hW.i.1, andnot] at h
      have h2 : X % 2 ^ 32 < 2 ^ 32 := Nat.mod_lt _ (by decide)
      exact le_of_dif (nI_z (dif_le _ _ (n := 32) h2) h) hi, i32_ext (by rw [nI_bv, nI_bv]; apply BitVec.eq_of_toNat_eq; simp)⟩
  have lt : x &&& (K 93 ^^^ (-1)) = 0 → x ≠ 0 → 0 < x := by
    intro h h0
    obtain ⟨S, hS, rfl⟩ := key h
    have : S ≠ 0 := fun z => h0 (by rw [z]; rfl)
    exact nI_lt (a := 0) (by omega) (by omega)
  unfold tCm
  refine ⟨⟨fun h => ?_, fun h => ?_⟩, ?_, fun h => ?_⟩
  · split at h
    · rename_i hh
      intro z
      rcases z with z | z
      · rw [z] at hh; exact absurd hh.1 (by decide)
      · exact z hh.2
    · cases h
  · have h1 : x &&& (K 93 ^^^ (-1)) = 0 := Decidable.not_not.mp (fun z => h (Or.inr z))
    rw [if_pos ⟨lt h1 (fun z => h (Or.inl z)), h1⟩]
  · split
    · exact Or.inl rfl
    · exact Or.inr rfl
  · split at h
    · rename_i hh; exact key hh.2
    · cases h
section O4
variable (G : mG) (M : mM)
theorem l11_hardest {K : Nat → Int32} : ∀ i c M' (a b : Option Value), c + i = kn K 2 → Kp M M' → MR M' K → V G Y11_hardest 40 0 0 (Qt 0 (some (.int (hrF K (kn K 2)).1)) M K) NX 6 [some (.ref 100), some (.int (hrF K c).1), some (.int (hdM (hrF K c))), some (.int (nI c)), a, b] [] M' := by
  intro i
  induction i with
  | zero =>
    intro c M' a b hc hk h
    obtain ⟨hS, hW, hz, hsc, p, cd, n, rd, l1, hp0, hp, hrd, hpa⟩ := id h
    have h14 := hW.p.2.1.2
    obtain rfl : c = kn K 2 := by omega
    refine v_iload_n dX11_hardest_6 rfl ?_
    refine v_aload_n dX11_hardest_7 rfl ?_
    refine v_getR 11 6 _ dX11_hardest_8 f11_34 (by first | exact hS.1 _ _ rfl | assumption) (by decide) (by first | exact hS.2 _ _ _ rfl | assumption) ?_
    refine v_getR 6 0 _ dX11_hardest_11 f11_130 (by first | exact hS.1 _ _ rfl | assumption) (by decide) (by first | exact hS.2 _ _ _ rfl | assumption) ?_
    refine v_getI 4 2 dX11_hardest_14 f11_208 hp.1.1 (by decide) ?_
    rw [hp.2.1.2.2.1, hW.p.2.1.1]
    refine v_icmp_ge 96 dX11_hardest_17 (by decide) (fun h17 => ?_) (fun h17 => absurd (nI_le (Nat.le_refl _) (by omega)) h17)
    refine v_iload_n dX11_hardest_96 rfl ?_
    refine v_iret dX11_hardest_97 rfl ?_
    exact ⟨rfl, rfl, hk, h⟩
  | succ i ih =>
    intro c M' a b hc hk h
    have hs := h.sd
    obtain ⟨hS, hW, hz, hsc, p, cd, n, rd, l1, hp0, hp, hrd, hpa⟩ := id h
    obtain ⟨ap1, ap2, ap3, ap4, ap5, ap6, ap7, ap8⟩ := hpa.ap hz
    have h14 := hW.p.2.1.2
    have h10 := hW.p.2.2.1.2
    have hn := ih (c + 1)
    simp only [hrF] at hn
    by_cases hb : (kn K 93).testBit c = true
    · have q2 := c1_cheapest G M' hS hs hp hW ap4 (c := c) (by omega) 1023
      have hp3 : 2 ^ kn K 3 ≤ 1024 := Nat.pow_le_pow_right (n := 2) (by decide) h10
      rw [and1023n h10] at q2
      have q3 := c7_isIn G M' hs hW (c := c) (by omega)
      rw [bI_t hb] at q3
      rw [if_pos hb] at hn
      obtain ⟨v1, v2⟩ := prI_v hW.p c
      have v3 := hdM_lt hW.p c v1
      have go : ∀ M2 x b2, x = mx (prI K c) → Kp M M2 → MR M2 K → ∀ a2 : Int32, V G Y11_hardest 40 0 0 (Qt 0 (some (.int (hrF K (kn K 2)).1)) M K) NX 77 [some (.ref 100), some (.int (hrF K c).1), some (.int (hdM (hrF K c))), some (.int (nI c)), some (.int a2), b2] [.int x] M2 := by
        intro M2 x b2 hx hk2 hm2 a2
        by_cases hl : hdM (hrF K c) < x
        · rw [if_pos (v3.mp (by rw [← hx]; exact hl))] at hn
          have hn2 := hn M2 (some (.int a2)) (some (.int x)) (by omega) hk2 hm2
          rw [show hdM (nI c, prI K c) = x by rw [hx]; exact if_neg (nI_m1 (by omega))] at hn2
          refine v_istore dX11_hardest_77 rfl (by decide) ?_
          refine v_iload dX11_hardest_79 rfl ?_
          refine v_iload_n dX11_hardest_81 rfl ?_
          refine v_icmp_le 90 dX11_hardest_82 (by decide) (fun h82 => absurd h82 (Int32.not_le.mpr hl)) (fun h82 => ?_)
          refine v_iload dX11_hardest_85 rfl ?_
          refine v_istore_n dX11_hardest_87 rfl (by decide) ?_
          refine v_iload_n dX11_hardest_88 rfl ?_
          refine v_istore_n dX11_hardest_89 rfl (by decide) ?_
          refine v_iinc 1 dX11_hardest_90 rfl (by decide) rfl (by decide) ?_
          refine v_goto 6 dX11_hardest_93 (by decide) ?_
          (rw [nI_1]; exact hn2)
        · rw [if_neg (fun z => hl (by rw [hx]; exact v3.mpr z))] at hn
          have hn2 := hn M2 (some (.int a2)) (some (.int x)) (by omega) hk2 hm2
          refine v_istore dX11_hardest_77 rfl (by decide) ?_
          refine v_iload dX11_hardest_79 rfl ?_
          refine v_iload_n dX11_hardest_81 rfl ?_
          refine v_icmp_le 90 dX11_hardest_82 (by decide) (fun h82 => ?_) (fun h82 => absurd (Int32.not_lt.mp hl) h82)
          refine v_iinc 1 dX11_hardest_90 rfl (by decide) rfl (by decide) ?_
          refine v_goto 6 dX11_hardest_93 (by decide) ?_
          (rw [nI_1]; exact hn2)
      generalize hE : encE (lstN K c (2 ^ kn K 3 - 1) false) = E at *
      refine v_iload_n dX11_hardest_6 rfl ?_
      refine v_aload_n dX11_hardest_7 rfl ?_
      refine v_getR 11 6 _ dX11_hardest_8 f11_34 (by first | exact hS.1 _ _ rfl | assumption) (by decide) (by first | exact hS.2 _ _ _ rfl | assumption) ?_
      refine v_getR 6 0 _ dX11_hardest_11 f11_130 (by first | exact hS.1 _ _ rfl | assumption) (by decide) (by first | exact hS.2 _ _ _ rfl | assumption) ?_
      refine v_getI 4 2 dX11_hardest_14 f11_208 hp.1.1 (by decide) ?_
      rw [hp.2.1.2.2.1, hW.p.2.1.1]
      refine v_icmp_ge 96 dX11_hardest_17 (by decide) (fun h17 => absurd ((nI_leI (by omega) (by omega)).mp h17) (by omega)) (fun h17 => ?_)
      refine v_aload_n dX11_hardest_20 rfl ?_
      refine v_getR 11 6 _ dX11_hardest_21 f11_34 (by first | exact hS.1 _ _ rfl | assumption) (by decide) (by first | exact hS.2 _ _ _ rfl | assumption) ?_
      refine v_getR 6 1 _ dX11_hardest_24 f11_119 (by first | exact hS.1 _ _ rfl | assumption) (by decide) (by first | exact hS.2 _ _ _ rfl | assumption) ?_
      refine v_iload_n dX11_hardest_27 rfl ?_
      refine v_cV [_] (q3) k7_isIn dX11_hardest_28 l11_141 (by first | exact hS.1 _ _ rfl | assumption) (by decide) rfl (Nat.le_of_ble_eq_true rfl) (Nat.le_of_ble_eq_true rfl) ?_
      refine v_if_eq 90 dX11_hardest_31 (by decide) (fun h31 => absurd h31 (by decide)) (fun h31 => ?_)
      refine v_aload_n dX11_hardest_34 rfl ?_
      refine v_getR 11 10 _ dX11_hardest_35 f11_58 (by first | exact hS.1 _ _ rfl | assumption) (by decide) (by first | exact hS.2 _ _ _ rfl | assumption) ?_
      refine v_aload_n dX11_hardest_38 rfl ?_
      refine v_getR 11 6 _ dX11_hardest_39 f11_34 (by first | exact hS.1 _ _ rfl | assumption) (by decide) (by first | exact hS.2 _ _ _ rfl | assumption) ?_
      refine v_getR 6 0 _ dX11_hardest_42 f11_130 (by first | exact hS.1 _ _ rfl | assumption) (by decide) (by first | exact hS.2 _ _ _ rfl | assumption) ?_
      refine v_aload_n dX11_hardest_45 rfl ?_
      refine v_getR 11 6 _ dX11_hardest_46 f11_34 (by first | exact hS.1 _ _ rfl | assumption) (by decide) (by first | exact hS.2 _ _ _ rfl | assumption) ?_
      refine v_getR 6 1 _ dX11_hardest_49 f11_119 (by first | exact hS.1 _ _ rfl | assumption) (by decide) (by first | exact hS.2 _ _ _ rfl | assumption) ?_
      refine v_iload_n dX11_hardest_52 rfl ?_
      refine v_sipush 1023 dX11_hardest_53 (by decide) ?_
      refine v_scV [_, _, _, _] (q2) k1_cheapest dX11_hardest_56 l11_193 (by first | exact hS.1 _ _ rfl | assumption) (by decide) rfl (Nat.le_of_ble_eq_true rfl) (Nat.le_of_ble_eq_true rfl) ?_
      intro M2 hM2; have mm := sjDe h hM2
      skip
      have q4 := c1_costIn G M2 _ (lstN_b hW.p (c := c) (sm := 2 ^ kn K 3 - 1) (sure := false) (by omega))
      rw [hE] at q4
      by_cases he : E = -1
      · rw [if_pos he] at v2
        refine v_cS [_] (q4) k1_costIn dX11_hardest_59 l11_205 rfl (Nat.le_of_ble_eq_true rfl) (Nat.le_of_ble_eq_true rfl) ?_
        refine v_istore dX11_hardest_62 rfl (by decide) ?_
        refine v_iload dX11_hardest_64 rfl ?_
        refine v_iconst (-1) dX11_hardest_66 (by decide) ?_
        refine v_icmp_ne 75 dX11_hardest_67 (by decide) (fun h67 => absurd he h67) (fun h67 => ?_)
        refine v_ldc 2147483647 dX11_hardest_70 K11_211 ?_
        refine v_goto 77 dX11_hardest_72 (by decide) ?_
        exact go M2 _ _ v2.symm (hk.tr mm.1) mm.2 _
      · rw [if_neg he] at v2
        refine v_cS [_] (q4) k1_costIn dX11_hardest_59 l11_205 rfl (Nat.le_of_ble_eq_true rfl) (Nat.le_of_ble_eq_true rfl) ?_
        refine v_istore dX11_hardest_62 rfl (by decide) ?_
        refine v_iload dX11_hardest_64 rfl ?_
        refine v_iconst (-1) dX11_hardest_66 (by decide) ?_
        refine v_icmp_ne 75 dX11_hardest_67 (by decide) (fun h67 => ?_) (fun h67 => absurd (Decidable.not_not.mp h67) he)
        refine v_iload dX11_hardest_75 rfl ?_
        exact go M2 _ _ v2.symm (hk.tr mm.1) mm.2 _
    · have q3 := c7_isIn G M' hs hW (c := c) (by omega)
      rw [bI_f hb] at q3
      rw [if_neg hb] at hn
      refine v_iload_n dX11_hardest_6 rfl ?_
      refine v_aload_n dX11_hardest_7 rfl ?_
      refine v_getR 11 6 _ dX11_hardest_8 f11_34 (by first | exact hS.1 _ _ rfl | assumption) (by decide) (by first | exact hS.2 _ _ _ rfl | assumption) ?_
      refine v_getR 6 0 _ dX11_hardest_11 f11_130 (by first | exact hS.1 _ _ rfl | assumption) (by decide) (by first | exact hS.2 _ _ _ rfl | assumption) ?_
      refine v_getI 4 2 dX11_hardest_14 f11_208 hp.1.1 (by decide) ?_
      rw [hp.2.1.2.2.1, hW.p.2.1.1]
      refine v_icmp_ge 96 dX11_hardest_17 (by decide) (fun h17 => absurd ((nI_leI (by omega) (by omega)).mp h17) (by omega)) (fun h17 => ?_)
      refine v_aload_n dX11_hardest_20 rfl ?_
      refine v_getR 11 6 _ dX11_hardest_21 f11_34 (by first | exact hS.1 _ _ rfl | assumption) (by decide) (by first | exact hS.2 _ _ _ rfl | assumption) ?_
      refine v_getR 6 1 _ dX11_hardest_24 f11_119 (by first | exact hS.1 _ _ rfl | assumption) (by decide) (by first | exact hS.2 _ _ _ rfl | assumption) ?_
      refine v_iload_n dX11_hardest_27 rfl ?_
      refine v_cV [_] (q3) k7_isIn dX11_hardest_28 l11_141 (by first | exact hS.1 _ _ rfl | assumption) (by decide) rfl (Nat.le_of_ble_eq_true rfl) (Nat.le_of_ble_eq_true rfl) ?_
      refine v_if_eq 90 dX11_hardest_31 (by decide) (fun h31 => ?_) (fun h31 => absurd rfl h31)
      refine v_iinc 1 dX11_hardest_90 rfl (by decide) rfl (by decide) ?_
      refine v_goto 6 dX11_hardest_93 (by decide) ?_
      (rw [nI_1]; exact hn M' _ _ (by omega) hk h)
theorem c11_hardest {K : Nat → Int32} (h : MR M K) : Ct G Y11_hardest 40 0 0 [.ref 100] M (Qt (0) (some (.int (hrF K (kn K 2)).1)) M (K)) (NX) := by
  have h0 := h
  have hs := h.sd
  obtain ⟨hS, hW, hz, hsc, p, cd, n, rd, l1, hp0, hp, hrd, hpa⟩ := h
  obtain ⟨ap1, ap2, ap3, ap4, ap5, ap6, ap7, ap8⟩ := hpa.ap hz
  have h14 := hW.p.2.1.2
  have h6 := hW.p.1.2.2
  have h10 := hW.p.2.2.1.2
  refine Ct.of k11_hardest.1 (Nat.le_of_ble_eq_true rfl) ?_
  refine v_iconst (-1) dX11_hardest_0 (by decide) ?_
  refine v_istore_n dX11_hardest_1 rfl (by decide) ?_
  refine v_iconst (-1) dX11_hardest_2 (by decide) ?_
  refine v_istore_n dX11_hardest_3 rfl (by decide) ?_
  refine v_iconst 0 dX11_hardest_4 (by decide) ?_
  refine v_istore_n dX11_hardest_5 rfl (by decide) ?_
  exact v_pad (v_pad (l11_hardest G M (kn K 2) 0 M none none (by omega) Kp.rf h0))
theorem l11_shorter {K : Nat → Int32} (h : MR M K) {d : Int32} {S : Nat} : ∀ k D (b : Option Value), k ≤ 20 → D < 1048576 → D % 1024 &&& D / 1024 = 0 → fitK K D = S → V G Y11_shorter 40 1 6 (Qt 0 (some (.int (nI (shF K S k D)))) M K) NX 23 [some (.ref 100), some (.int d), some (.int (nI S)), some (.int (nI D)), some (.int (nI k - 1)), b] [] M := by
  have h0 := h
  have hs := h.sd
  obtain ⟨hS, hW, hz, hsc, p, cd, n, rd, l1, hp0, hp, hrd, hpa⟩ := h
  have h14 := hW.p.2.1.2
  intro k
  induction k with
  | zero =>
    intro D b _ _ _ _
    refine v_iload dX11_shorter_23 rfl ?_
    refine v_if_lt 63 dX11_shorter_25 (by decide) (fun h25 => ?_) (fun h25 => absurd (by decide) h25)
    refine v_iload_n dX11_shorter_63 rfl ?_
    refine v_iret dX11_shorter_64 rfl ?_
    exact ⟨rfl, rfl, Kp.rf, h0⟩
  | succ k ih =>
    intro D b hk hD hj hf
    have hd2 : dif D (2 ^ k) < 1048576 := dif_le D _ (n := 20) hD
    have q := c7_fitted G M hs hW hd2 (dif_dj hj)
    have f1 : fitK K (dif D (2 ^ k)) < 16384 := fitN_lt h14 _ _
    have f2 : S < 16384 := by rw [← hf]; exact fitN_lt h14 _ _
    have e0 : nI (k + 1) - 1 = nI k := nI_pred k
    by_cases hb : fitK K (dif D (2 ^ k)) = S
    · have e : shF K S (k + 1) D = shF K S k (dif D (2 ^ k)) := by
        simp only [shF]
        by_cases ht : D.testBit k = true
        · rw [if_pos (by rw [ht]; exact decide_eq_true hb)]
        · rw [if_neg (by simp [ht]), dif_1 (by simpa using ht)]
      have hn := fun b => ih (dif D (2 ^ k)) b (by omega) hd2 (dif_dj hj) hb
      rw [e, e0]
      refine v_iload dX11_shorter_23 rfl ?_
      refine v_if_lt 63 dX11_shorter_25 (by decide) (fun h25 => absurd h25 (nI_pos (by omega))) (fun h25 => ?_)
      refine v_iload_n dX11_shorter_28 rfl ?_
      refine v_iconst 1 dX11_shorter_29 (by decide) ?_
      refine v_iload dX11_shorter_30 rfl ?_
      refine v_ishl dX11_shorter_32 ?_
      refine v_iconst (-1) dX11_shorter_33 (by decide) ?_
      rw [shl1 (by omega)]
      refine v_ixor dX11_shorter_34 ?_
      refine v_iand dX11_shorter_35 ?_
      rw [andnot]
      refine v_istore dX11_shorter_36 rfl (by decide) ?_
      refine v_aload_n dX11_shorter_38 rfl ?_
      refine v_getR 11 6 _ dX11_shorter_39 f11_34 (by first | exact hS.1 _ _ rfl | assumption) (by decide) (by first | exact hS.2 _ _ _ rfl | assumption) ?_
      refine v_getR 6 1 _ dX11_shorter_42 f11_119 (by first | exact hS.1 _ _ rfl | assumption) (by decide) (by first | exact hS.2 _ _ _ rfl | assumption) ?_
      refine v_iload dX11_shorter_45 rfl ?_
      refine v_cV [_] (q) k7_fitted dX11_shorter_47 l11_180 (by first | exact hS.1 _ _ rfl | assumption) (by decide) rfl (Nat.le_of_ble_eq_true rfl) (Nat.le_of_ble_eq_true rfl) ?_
      refine v_iload_n dX11_shorter_50 rfl ?_
      refine v_icmp_ne 57 dX11_shorter_51 (by decide) (fun h51 => absurd (by rw [hb]) h51) (fun h51 => ?_)
      refine v_iload dX11_shorter_54 rfl ?_
      refine v_istore_n dX11_shorter_56 rfl (by decide) ?_
      refine v_iinc (-1) dX11_shorter_57 rfl (by decide) rfl (by decide) ?_
      refine v_goto 23 dX11_shorter_60 (by decide) ?_
      (rw [nI_dec]; exact hn _)
    · have e : shF K S (k + 1) D = shF K S k D := by
        simp only [shF]
        rw [if_neg (by rw [Bool.and_eq_true, decide_eq_true_eq]; exact fun z => hb z.2)]
      have hn := fun b => ih D b (by omega) hD hj hf
      rw [e, e0]
      refine v_iload dX11_shorter_23 rfl ?_
      refine v_if_lt 63 dX11_shorter_25 (by decide) (fun h25 => absurd h25 (nI_pos (by omega))) (fun h25 => ?_)
      refine v_iload_n dX11_shorter_28 rfl ?_
      refine v_iconst 1 dX11_shorter_29 (by decide) ?_
      refine v_iload dX11_shorter_30 rfl ?_
      refine v_ishl dX11_shorter_32 ?_
      refine v_iconst (-1) dX11_shorter_33 (by decide) ?_
      rw [shl1 (by omega)]
      refine v_ixor dX11_shorter_34 ?_
      refine v_iand dX11_shorter_35 ?_
      rw [andnot]
      refine v_istore dX11_shorter_36 rfl (by decide) ?_
      refine v_aload_n dX11_shorter_38 rfl ?_
      refine v_getR 11 6 _ dX11_shorter_39 f11_34 (by first | exact hS.1 _ _ rfl | assumption) (by decide) (by first | exact hS.2 _ _ _ rfl | assumption) ?_
      refine v_getR 6 1 _ dX11_shorter_42 f11_119 (by first | exact hS.1 _ _ rfl | assumption) (by decide) (by first | exact hS.2 _ _ _ rfl | assumption) ?_
      refine v_iload dX11_shorter_45 rfl ?_
      refine v_cV [_] (q) k7_fitted dX11_shorter_47 l11_180 (by first | exact hS.1 _ _ rfl | assumption) (by decide) rfl (Nat.le_of_ble_eq_true rfl) (Nat.le_of_ble_eq_true rfl) ?_
      refine v_iload_n dX11_shorter_50 rfl ?_
      refine v_icmp_ne 57 dX11_shorter_51 (by decide) (fun h51 => ?_) (fun h51 => absurd ((nI_eq (by omega) (by omega)).mp (Decidable.not_not.mp h51)) hb)
      refine v_iinc (-1) dX11_shorter_57 rfl (by decide) rfl (by decide) ?_
      refine v_goto 23 dX11_shorter_60 (by decide) ?_
      (rw [nI_dec]; exact hn _)
theorem c11_shorter {K : Nat → Int32} (h : MR M K) (d : Int32) : Ct G Y11_shorter 40 1 6 [.ref 100, .int d] M (Qt (tD K d) (some (.int (nI (shF K (fitN (kn K 2) (kn K 93) (trH K) d.toNatClampNeg) 20 d.toNatClampNeg)))) M (K)) (Xt [(1, iaE)] (tD K d) M) := by
  have h0 := h
  have hs := h.sd
  obtain ⟨hS, hW, hz, hsc, p, cd, n, rd, l1, hp0, hp, hrd, hpa⟩ := h
  obtain ⟨ap1, ap2, ap3, ap4, ap5, ap6, ap7, ap8⟩ := hpa.ap hz
  have h14 := hW.p.2.1.2
  have h6 := hW.p.1.2.2
  have h10 := hW.p.2.2.1.2
  refine Ct.of k11_shorter.1 (Nat.le_of_ble_eq_true rfl) ?_
  by_cases hd : isDI (kn K 3) d = true
  · have q1 := c11_needDescription G M h0 hd
    rw [show tD K d = 0 from if_pos hd]
    obtain ⟨D, rfl, hD, hD2, hD3⟩ := isDI_of hd
    obtain ⟨hD4, hD5⟩ := isDN_dj hD3
    rw [hD2]
    refine v_aload_n dX11_shorter_0 rfl ?_
    refine v_iload_n dX11_shorter_1 rfl ?_
    refine v_cVv [_] (q1) k11_needDescription dX11_shorter_2 l11_177 (by first | exact hS.1 _ _ rfl | assumption) (by decide) rfl (Nat.le_of_ble_eq_true rfl) (Nat.le_of_ble_eq_true rfl) ?_
    refine v_aload_n dX11_shorter_5 rfl ?_
    refine v_getR 11 6 _ dX11_shorter_6 f11_34 (by first | exact hS.1 _ _ rfl | assumption) (by decide) (by first | exact hS.2 _ _ _ rfl | assumption) ?_
    refine v_getR 6 1 _ dX11_shorter_9 f11_119 (by first | exact hS.1 _ _ rfl | assumption) (by decide) (by first | exact hS.2 _ _ _ rfl | assumption) ?_
    refine v_iload_n dX11_shorter_12 rfl ?_
    refine v_cV [_] (c7_fitted G M hs hW hD4 hD5) k7_fitted dX11_shorter_13 l11_180 (by first | exact hS.1 _ _ rfl | assumption) (by decide) rfl (Nat.le_of_ble_eq_true rfl) (Nat.le_of_ble_eq_true rfl) ?_
    refine v_istore_n dX11_shorter_16 rfl (by decide) ?_
    refine v_iload_n dX11_shorter_17 rfl ?_
    refine v_istore_n dX11_shorter_18 rfl (by decide) ?_
    refine v_bipush 19 dX11_shorter_19 (by decide) ?_
    refine v_istore dX11_shorter_21 rfl (by decide) ?_
    exact V.post (v_pad (l11_shorter G M h0 20 D none (by omega) hD4 hD5 rfl)) (fun _ _ h => h) (fun _ _ h => h.elim)
  · have ht : tD K d = 1 := if_neg hd
    rw [ht]
    refine v_aload_n dX11_shorter_0 rfl ?_
    refine v_iload_n dX11_shorter_1 rfl ?_
    refine v_callV [_] (c11_needDescriptionF G M h0 hd) k11_needDescription dX11_shorter_2 l11_177 (by first | exact hS.1 _ _ rfl | assumption) (by decide) rfl (Nat.le_of_ble_eq_true rfl) (Nat.le_of_ble_eq_true rfl) (fun _ _ h => h.elim) (fun E M9 he => ?_)
    exact Xt.of he (by simp)
theorem l11_twins {K : Nat → Int32} (h : MR M K) : ∀ i c, c + i = kn K 2 → V G Y11_twins 40 0 0 (Qt 0 (some (.int (nI (bset (kn K 2) (twP K))))) M K) NX 4 [some (.ref 100), some (.int (nI (bset c (twP K)))), some (.int (nI c))] [] M := by
  have h0 := h
  have hs := h.sd
  obtain ⟨hS, hW, hz, hsc, p, cd, n, rd, l1, hp0, hp, hrd, hpa⟩ := h
  have h14 := hW.p.2.1.2
  have h10 := hW.p.2.2.1.2
  intro i
  induction i with
  | zero =>
    intro c hc
    obtain rfl : c = kn K 2 := by omega
    refine v_iload_n dX11_twins_4 rfl ?_
    refine v_aload_n dX11_twins_5 rfl ?_
    refine v_getR 11 6 _ dX11_twins_6 f11_34 (by first | exact hS.1 _ _ rfl | assumption) (by decide) (by first | exact hS.2 _ _ _ rfl | assumption) ?_
    refine v_getR 6 0 _ dX11_twins_9 f11_130 (by first | exact hS.1 _ _ rfl | assumption) (by decide) (by first | exact hS.2 _ _ _ rfl | assumption) ?_
    refine v_getI 4 2 dX11_twins_12 f11_208 hp.1.1 (by decide) ?_
    rw [hp.2.1.2.2.1, hW.p.2.1.1]
    refine v_icmp_ge 58 dX11_twins_15 (by decide) (fun h15 => ?_) (fun h15 => absurd (nI_le (Nat.le_refl _) (by omega)) h15)
    refine v_iload_n dX11_twins_58 rfl ?_
    refine v_iret dX11_twins_59 rfl ?_
    exact ⟨rfl, rfl, Kp.rf, h0⟩
  | succ i ih =>
    intro c hc
    have hn := ih (c + 1) (by omega)
    have q1 := c7_isIn G M hs hW (c := c) (by omega)
    have q2 := c7_alikeTo G M hs hW (c := c) (by omega)
    have b1 : bset (kn K 2) (likP K c) < 16384 := Nat.lt_of_lt_of_le (bset_lt _ _) (show 2 ^ kn K 2 ≤ 2 ^ 14 from Nat.pow_le_pow_right (by omega) h14)
    have b2 : bset (kn K 2) (likP K c) = 0 ↔ likN K c = 0 := by
      rw [show likN K c = pcn (bset (kn K 2) (likP K c)) from (pcn_bset h14).symm]
      exact ⟨fun z => by rw [z]; rfl, fun z => pcn_e0 b1 z⟩
    by_cases hb : (kn K 93).testBit c = true
    · rw [bI_t hb] at q1
      by_cases h2 : likN K c = 0
      · rw [bset_f (show twP K c = false by unfold twP; rw [hb, h2]; rfl)] at hn
        refine v_iload_n dX11_twins_4 rfl ?_
        refine v_aload_n dX11_twins_5 rfl ?_
        refine v_getR 11 6 _ dX11_twins_6 f11_34 (by first | exact hS.1 _ _ rfl | assumption) (by decide) (by first | exact hS.2 _ _ _ rfl | assumption) ?_
        refine v_getR 6 0 _ dX11_twins_9 f11_130 (by first | exact hS.1 _ _ rfl | assumption) (by decide) (by first | exact hS.2 _ _ _ rfl | assumption) ?_
        refine v_getI 4 2 dX11_twins_12 f11_208 hp.1.1 (by decide) ?_
        rw [hp.2.1.2.2.1, hW.p.2.1.1]
        refine v_icmp_ge 58 dX11_twins_15 (by decide) (fun h15 => absurd ((nI_leI (by omega) (by omega)).mp h15) (by omega)) (fun h15 => ?_)
        refine v_aload_n dX11_twins_18 rfl ?_
        refine v_getR 11 6 _ dX11_twins_19 f11_34 (by first | exact hS.1 _ _ rfl | assumption) (by decide) (by first | exact hS.2 _ _ _ rfl | assumption) ?_
        refine v_getR 6 1 _ dX11_twins_22 f11_119 (by first | exact hS.1 _ _ rfl | assumption) (by decide) (by first | exact hS.2 _ _ _ rfl | assumption) ?_
        refine v_iload_n dX11_twins_25 rfl ?_
        refine v_cV [_] (q1) k7_isIn dX11_twins_26 l11_141 (by first | exact hS.1 _ _ rfl | assumption) (by decide) rfl (Nat.le_of_ble_eq_true rfl) (Nat.le_of_ble_eq_true rfl) ?_
        refine v_if_eq 52 dX11_twins_29 (by decide) (fun h29 => absurd h29 (by decide)) (fun h29 => ?_)
        refine v_aload_n dX11_twins_32 rfl ?_
        refine v_getR 11 6 _ dX11_twins_33 f11_34 (by first | exact hS.1 _ _ rfl | assumption) (by decide) (by first | exact hS.2 _ _ _ rfl | assumption) ?_
        refine v_getR 6 1 _ dX11_twins_36 f11_119 (by first | exact hS.1 _ _ rfl | assumption) (by decide) (by first | exact hS.2 _ _ _ rfl | assumption) ?_
        refine v_iload_n dX11_twins_39 rfl ?_
        refine v_cV [_] (q2) k7_alikeTo dX11_twins_40 l11_149 (by first | exact hS.1 _ _ rfl | assumption) (by decide) rfl (Nat.le_of_ble_eq_true rfl) (Nat.le_of_ble_eq_true rfl) ?_
        refine v_if_eq 52 dX11_twins_43 (by decide) (fun h43 => ?_) (fun h43 => absurd ((nI0 (by omega)).mpr (b2.mpr h2)) h43)
        refine v_iinc 1 dX11_twins_52 rfl (by decide) rfl (by decide) ?_
        refine v_goto 4 dX11_twins_55 (by decide) ?_
        (rw [nI_1]; exact hn)
      · rw [← bset_p (by omega) (show twP K c = true by unfold twP; rw [hb]; simp [h2])] at hn
        refine v_iload_n dX11_twins_4 rfl ?_
        refine v_aload_n dX11_twins_5 rfl ?_
        refine v_getR 11 6 _ dX11_twins_6 f11_34 (by first | exact hS.1 _ _ rfl | assumption) (by decide) (by first | exact hS.2 _ _ _ rfl | assumption) ?_
        refine v_getR 6 0 _ dX11_twins_9 f11_130 (by first | exact hS.1 _ _ rfl | assumption) (by decide) (by first | exact hS.2 _ _ _ rfl | assumption) ?_
        refine v_getI 4 2 dX11_twins_12 f11_208 hp.1.1 (by decide) ?_
        rw [hp.2.1.2.2.1, hW.p.2.1.1]
        refine v_icmp_ge 58 dX11_twins_15 (by decide) (fun h15 => absurd ((nI_leI (by omega) (by omega)).mp h15) (by omega)) (fun h15 => ?_)
        refine v_aload_n dX11_twins_18 rfl ?_
        refine v_getR 11 6 _ dX11_twins_19 f11_34 (by first | exact hS.1 _ _ rfl | assumption) (by decide) (by first | exact hS.2 _ _ _ rfl | assumption) ?_
        refine v_getR 6 1 _ dX11_twins_22 f11_119 (by first | exact hS.1 _ _ rfl | assumption) (by decide) (by first | exact hS.2 _ _ _ rfl | assumption) ?_
        refine v_iload_n dX11_twins_25 rfl ?_
        refine v_cV [_] (q1) k7_isIn dX11_twins_26 l11_141 (by first | exact hS.1 _ _ rfl | assumption) (by decide) rfl (Nat.le_of_ble_eq_true rfl) (Nat.le_of_ble_eq_true rfl) ?_
        refine v_if_eq 52 dX11_twins_29 (by decide) (fun h29 => absurd h29 (by decide)) (fun h29 => ?_)
        refine v_aload_n dX11_twins_32 rfl ?_
        refine v_getR 11 6 _ dX11_twins_33 f11_34 (by first | exact hS.1 _ _ rfl | assumption) (by decide) (by first | exact hS.2 _ _ _ rfl | assumption) ?_
        refine v_getR 6 1 _ dX11_twins_36 f11_119 (by first | exact hS.1 _ _ rfl | assumption) (by decide) (by first | exact hS.2 _ _ _ rfl | assumption) ?_
        refine v_iload_n dX11_twins_39 rfl ?_
        refine v_cV [_] (q2) k7_alikeTo dX11_twins_40 l11_149 (by first | exact hS.1 _ _ rfl | assumption) (by decide) rfl (Nat.le_of_ble_eq_true rfl) (Nat.le_of_ble_eq_true rfl) ?_
        refine v_if_eq 52 dX11_twins_43 (by decide) (fun h43 => absurd (b2.mp ((nI0 (by omega)).mp h43)) h2) (fun h43 => ?_)
        refine v_iload_n dX11_twins_46 rfl ?_
        refine v_iconst 1 dX11_twins_47 (by decide) ?_
        refine v_iload_n dX11_twins_48 rfl ?_
        refine v_ishl dX11_twins_49 ?_
        refine v_ior dX11_twins_50 ?_
        refine v_istore_n dX11_twins_51 rfl (by decide) ?_
        refine v_iinc 1 dX11_twins_52 rfl (by decide) rfl (by decide) ?_
        refine v_goto 4 dX11_twins_55 (by decide) ?_
        (rw [nI_1]; exact hn)
    · rw [bI_f hb] at q1
      rw [bset_f (show twP K c = false by unfold twP; simp [hb])] at hn
      refine v_iload_n dX11_twins_4 rfl ?_
      refine v_aload_n dX11_twins_5 rfl ?_
      refine v_getR 11 6 _ dX11_twins_6 f11_34 (by first | exact hS.1 _ _ rfl | assumption) (by decide) (by first | exact hS.2 _ _ _ rfl | assumption) ?_
      refine v_getR 6 0 _ dX11_twins_9 f11_130 (by first | exact hS.1 _ _ rfl | assumption) (by decide) (by first | exact hS.2 _ _ _ rfl | assumption) ?_
      refine v_getI 4 2 dX11_twins_12 f11_208 hp.1.1 (by decide) ?_
      rw [hp.2.1.2.2.1, hW.p.2.1.1]
      refine v_icmp_ge 58 dX11_twins_15 (by decide) (fun h15 => absurd ((nI_leI (by omega) (by omega)).mp h15) (by omega)) (fun h15 => ?_)
      refine v_aload_n dX11_twins_18 rfl ?_
      refine v_getR 11 6 _ dX11_twins_19 f11_34 (by first | exact hS.1 _ _ rfl | assumption) (by decide) (by first | exact hS.2 _ _ _ rfl | assumption) ?_
      refine v_getR 6 1 _ dX11_twins_22 f11_119 (by first | exact hS.1 _ _ rfl | assumption) (by decide) (by first | exact hS.2 _ _ _ rfl | assumption) ?_
      refine v_iload_n dX11_twins_25 rfl ?_
      refine v_cV [_] (q1) k7_isIn dX11_twins_26 l11_141 (by first | exact hS.1 _ _ rfl | assumption) (by decide) rfl (Nat.le_of_ble_eq_true rfl) (Nat.le_of_ble_eq_true rfl) ?_
      refine v_if_eq 52 dX11_twins_29 (by decide) (fun h29 => ?_) (fun h29 => absurd rfl h29)
      refine v_iinc 1 dX11_twins_52 rfl (by decide) rfl (by decide) ?_
      refine v_goto 4 dX11_twins_55 (by decide) ?_
      (rw [nI_1]; exact hn)
theorem c11_twins {K : Nat → Int32} (h : MR M K) : Ct G Y11_twins 40 0 0 [.ref 100] M (Qt (0) (some (.int (nI (bset (kn K 2) (twP K))))) M (K)) (NX) := by
  have h0 := h
  have hs := h.sd
  obtain ⟨hS, hW, hz, hsc, p, cd, n, rd, l1, hp0, hp, hrd, hpa⟩ := h
  obtain ⟨ap1, ap2, ap3, ap4, ap5, ap6, ap7, ap8⟩ := hpa.ap hz
  have h14 := hW.p.2.1.2
  have h6 := hW.p.1.2.2
  have h10 := hW.p.2.2.1.2
  refine Ct.of k11_twins.1 (Nat.le_of_ble_eq_true rfl) ?_
  refine v_iconst 0 dX11_twins_0 (by decide) ?_
  refine v_istore_n dX11_twins_1 rfl (by decide) ?_
  refine v_iconst 0 dX11_twins_2 (by decide) ?_
  refine v_istore_n dX11_twins_3 rfl (by decide) ?_
  exact l11_twins G M h0 (kn K 2) 0 (by omega)
theorem l11_changing {K : Nat → Int32} (h : MR M K) : ∀ i c, c + i = kn K 2 → V G Y11_changing 40 0 0 (Qt 0 (some (.int (nI (bset (kn K 2) (chP K))))) M K) NX 4 [some (.ref 100), some (.int (nI (bset c (chP K)))), some (.int (nI c))] [] M := by
  have h0 := h
  have hs := h.sd
  obtain ⟨hS, hW, hz, hsc, p, cd, n, rd, l1, hp0, hp, hrd, hpa⟩ := h
  have h14 := hW.p.2.1.2
  have h10 := hW.p.2.2.1.2
  intro i
  induction i with
  | zero =>
    intro c hc
    obtain rfl : c = kn K 2 := by omega
    refine v_iload_n dX11_changing_4 rfl ?_
    refine v_aload_n dX11_changing_5 rfl ?_
    refine v_getR 11 6 _ dX11_changing_6 f11_34 (by first | exact hS.1 _ _ rfl | assumption) (by decide) (by first | exact hS.2 _ _ _ rfl | assumption) ?_
    refine v_getR 6 0 _ dX11_changing_9 f11_130 (by first | exact hS.1 _ _ rfl | assumption) (by decide) (by first | exact hS.2 _ _ _ rfl | assumption) ?_
    refine v_getI 4 2 dX11_changing_12 f11_208 hp.1.1 (by decide) ?_
    rw [hp.2.1.2.2.1, hW.p.2.1.1]
    refine v_icmp_ge 57 dX11_changing_15 (by decide) (fun h15 => ?_) (fun h15 => absurd (nI_le (Nat.le_refl _) (by omega)) h15)
    refine v_iload_n dX11_changing_57 rfl ?_
    refine v_iret dX11_changing_58 rfl ?_
    exact ⟨rfl, rfl, Kp.rf, h0⟩
  | succ i ih =>
    intro c hc
    have hn := ih (c + 1) (by omega)
    have q1 := c7_truthBy G M hs (c := c) (by omega) true
    have q2 := c7_truthBy G M hs (c := c) (by omega) false
    rw [tvI_n hs.2 true (by omega), bI_t rfl] at q1
    rw [tvI_n hs.2 false (by omega), bI_f (by decide)] at q2
    have t1 := trN_lt hW.p true c
    have t2 := trN_lt hW.p false c
    by_cases hb : trN K false c = trN K true c
    · rw [bset_f (show chP K c = false by unfold chP; simp [hb])] at hn
      rw [hb] at q2
      refine v_iload_n dX11_changing_4 rfl ?_
      refine v_aload_n dX11_changing_5 rfl ?_
      refine v_getR 11 6 _ dX11_changing_6 f11_34 (by first | exact hS.1 _ _ rfl | assumption) (by decide) (by first | exact hS.2 _ _ _ rfl | assumption) ?_
      refine v_getR 6 0 _ dX11_changing_9 f11_130 (by first | exact hS.1 _ _ rfl | assumption) (by decide) (by first | exact hS.2 _ _ _ rfl | assumption) ?_
      refine v_getI 4 2 dX11_changing_12 f11_208 hp.1.1 (by decide) ?_
      rw [hp.2.1.2.2.1, hW.p.2.1.1]
      refine v_icmp_ge 57 dX11_changing_15 (by decide) (fun h15 => absurd ((nI_leI (by omega) (by omega)).mp h15) (by omega)) (fun h15 => ?_)
      refine v_aload_n dX11_changing_18 rfl ?_
      refine v_getR 11 6 _ dX11_changing_19 f11_34 (by first | exact hS.1 _ _ rfl | assumption) (by decide) (by first | exact hS.2 _ _ _ rfl | assumption) ?_
      refine v_getR 6 1 _ dX11_changing_22 f11_119 (by first | exact hS.1 _ _ rfl | assumption) (by decide) (by first | exact hS.2 _ _ _ rfl | assumption) ?_
      refine v_iload_n dX11_changing_25 rfl ?_
      refine v_iconst 1 dX11_changing_26 (by decide) ?_
      refine v_cV [_, _] (q1) k7_truthBy dX11_changing_27 l11_173 (by first | exact hS.1 _ _ rfl | assumption) (by decide) rfl (Nat.le_of_ble_eq_true rfl) (Nat.le_of_ble_eq_true rfl) ?_
      refine v_aload_n dX11_changing_30 rfl ?_
      refine v_getR 11 6 _ dX11_changing_31 f11_34 (by first | exact hS.1 _ _ rfl | assumption) (by decide) (by first | exact hS.2 _ _ _ rfl | assumption) ?_
      refine v_getR 6 1 _ dX11_changing_34 f11_119 (by first | exact hS.1 _ _ rfl | assumption) (by decide) (by first | exact hS.2 _ _ _ rfl | assumption) ?_
      refine v_iload_n dX11_changing_37 rfl ?_
      refine v_iconst 0 dX11_changing_38 (by decide) ?_
      refine v_cV [_, _] (q2) k7_truthBy dX11_changing_39 l11_173 (by first | exact hS.1 _ _ rfl | assumption) (by decide) rfl (Nat.le_of_ble_eq_true rfl) (Nat.le_of_ble_eq_true rfl) ?_
      refine v_icmp_eq 51 dX11_changing_42 (by decide) (fun h42 => ?_) (fun h42 => absurd rfl h42)
      refine v_iinc 1 dX11_changing_51 rfl (by decide) rfl (by decide) ?_
      refine v_goto 4 dX11_changing_54 (by decide) ?_
      (rw [nI_1]; exact hn)
    · rw [← bset_p (by omega) (show chP K c = true by unfold chP; simp [hb])] at hn
      refine v_iload_n dX11_changing_4 rfl ?_
      refine v_aload_n dX11_changing_5 rfl ?_
      refine v_getR 11 6 _ dX11_changing_6 f11_34 (by first | exact hS.1 _ _ rfl | assumption) (by decide) (by first | exact hS.2 _ _ _ rfl | assumption) ?_
      refine v_getR 6 0 _ dX11_changing_9 f11_130 (by first | exact hS.1 _ _ rfl | assumption) (by decide) (by first | exact hS.2 _ _ _ rfl | assumption) ?_
      refine v_getI 4 2 dX11_changing_12 f11_208 hp.1.1 (by decide) ?_
      rw [hp.2.1.2.2.1, hW.p.2.1.1]
      refine v_icmp_ge 57 dX11_changing_15 (by decide) (fun h15 => absurd ((nI_leI (by omega) (by omega)).mp h15) (by omega)) (fun h15 => ?_)
      refine v_aload_n dX11_changing_18 rfl ?_
      refine v_getR 11 6 _ dX11_changing_19 f11_34 (by first | exact hS.1 _ _ rfl | assumption) (by decide) (by first | exact hS.2 _ _ _ rfl | assumption) ?_
      refine v_getR 6 1 _ dX11_changing_22 f11_119 (by first | exact hS.1 _ _ rfl | assumption) (by decide) (by first | exact hS.2 _ _ _ rfl | assumption) ?_
      refine v_iload_n dX11_changing_25 rfl ?_
      refine v_iconst 1 dX11_changing_26 (by decide) ?_
      refine v_cV [_, _] (q1) k7_truthBy dX11_changing_27 l11_173 (by first | exact hS.1 _ _ rfl | assumption) (by decide) rfl (Nat.le_of_ble_eq_true rfl) (Nat.le_of_ble_eq_true rfl) ?_
      refine v_aload_n dX11_changing_30 rfl ?_
      refine v_getR 11 6 _ dX11_changing_31 f11_34 (by first | exact hS.1 _ _ rfl | assumption) (by decide) (by first | exact hS.2 _ _ _ rfl | assumption) ?_
      refine v_getR 6 1 _ dX11_changing_34 f11_119 (by first | exact hS.1 _ _ rfl | assumption) (by decide) (by first | exact hS.2 _ _ _ rfl | assumption) ?_
      refine v_iload_n dX11_changing_37 rfl ?_
      refine v_iconst 0 dX11_changing_38 (by decide) ?_
      refine v_cV [_, _] (q2) k7_truthBy dX11_changing_39 l11_173 (by first | exact hS.1 _ _ rfl | assumption) (by decide) rfl (Nat.le_of_ble_eq_true rfl) (Nat.le_of_ble_eq_true rfl) ?_
      refine v_icmp_eq 51 dX11_changing_42 (by decide) (fun h42 => absurd ((nI_eq (by omega) (by omega)).mp h42).symm hb) (fun h42 => ?_)
      refine v_iload_n dX11_changing_45 rfl ?_
      refine v_iconst 1 dX11_changing_46 (by decide) ?_
      refine v_iload_n dX11_changing_47 rfl ?_
      refine v_ishl dX11_changing_48 ?_
      refine v_ior dX11_changing_49 ?_
      refine v_istore_n dX11_changing_50 rfl (by decide) ?_
      refine v_iinc 1 dX11_changing_51 rfl (by decide) rfl (by decide) ?_
      refine v_goto 4 dX11_changing_54 (by decide) ?_
      (rw [nI_1]; exact hn)
theorem c11_changing {K : Nat → Int32} (h : MR M K) : Ct G Y11_changing 40 0 0 [.ref 100] M (Qt (0) (some (.int (nI (bset (kn K 2) (chP K))))) M (K)) (NX) := by
  have h0 := h
  have hs := h.sd
  obtain ⟨hS, hW, hz, hsc, p, cd, n, rd, l1, hp0, hp, hrd, hpa⟩ := h
  obtain ⟨ap1, ap2, ap3, ap4, ap5, ap6, ap7, ap8⟩ := hpa.ap hz
  have h14 := hW.p.2.1.2
  have h6 := hW.p.1.2.2
  have h10 := hW.p.2.2.1.2
  refine Ct.of k11_changing.1 (Nat.le_of_ble_eq_true rfl) ?_
  refine v_iconst 0 dX11_changing_0 (by decide) ?_
  refine v_istore_n dX11_changing_1 rfl (by decide) ?_
  refine v_iconst 0 dX11_changing_2 (by decide) ?_
  refine v_istore_n dX11_changing_3 rfl (by decide) ?_
  exact l11_changing G M h0 (kn K 2) 0 (by omega)
theorem l11_idle {K : Nat → Int32} (h : MR M K) : ∀ i c (a : Option Value), c + i = kn K 3 → V G Y11_idle 40 0 0 (Qt 0 (some (.int (nI (bset (kn K 3) (idP K))))) M K) NX 4 [some (.ref 100), some (.int (nI (bset c (idP K)))), some (.int (nI c)), a] [] M := by
  have h0 := h
  have hs := h.sd
  obtain ⟨hS, hW, hz, hsc, p, cd, n, rd, l1, hp0, hp, hrd, hpa⟩ := h
  have h14 := hW.p.2.1.2
  have h10 := hW.p.2.2.1.2
  intro i
  induction i with
  | zero =>
    intro c a hc
    obtain rfl : c = kn K 3 := by omega
    refine v_iload_n dX11_idle_4 rfl ?_
    refine v_aload_n dX11_idle_5 rfl ?_
    refine v_getR 11 6 _ dX11_idle_6 f11_34 (by first | exact hS.1 _ _ rfl | assumption) (by decide) (by first | exact hS.2 _ _ _ rfl | assumption) ?_
    refine v_getR 6 0 _ dX11_idle_9 f11_130 (by first | exact hS.1 _ _ rfl | assumption) (by decide) (by first | exact hS.2 _ _ _ rfl | assumption) ?_
    refine v_getI 4 4 dX11_idle_12 f11_352 hp.1.1 (by decide) ?_
    rw [hp.2.1.2.2.2.1, hW.p.2.2.1.1]
    refine v_icmp_ge 60 dX11_idle_15 (by decide) (fun h15 => ?_) (fun h15 => absurd (nI_le (Nat.le_refl _) (by omega)) h15)
    refine v_iload_n dX11_idle_60 rfl ?_
    refine v_iret dX11_idle_61 rfl ?_
    exact ⟨rfl, rfl, Kp.rf, h0⟩
  | succ i ih =>
    intro c a hc
    have hn := fun a => ih (c + 1) a (by omega)
    have q1 := c7_holders G M hs hW (w := c) (by omega)
    have hp2 : 2 ^ kn K 2 ≤ 16384 := (show 2 ^ kn K 2 ≤ 2 ^ 14 from Nat.pow_le_pow_right (by decide) h14)
    have b1 : bset (kn K 2) (inbP K c) < 16384 := Nat.lt_of_lt_of_le (bset_lt _ _) hp2
    have b2 : kn K 93 < 16384 := Nat.lt_of_lt_of_le hW.i.2 hp2
    by_cases hb : bset (kn K 2) (inbP K c) = 0
    · rw [← bset_p (by omega) (show idP K c = true by unfold idP; simp [hb])] at hn
      rw [hb] at q1
      refine v_iload_n dX11_idle_4 rfl ?_
      refine v_aload_n dX11_idle_5 rfl ?_
      refine v_getR 11 6 _ dX11_idle_6 f11_34 (by first | exact hS.1 _ _ rfl | assumption) (by decide) (by first | exact hS.2 _ _ _ rfl | assumption) ?_
      refine v_getR 6 0 _ dX11_idle_9 f11_130 (by first | exact hS.1 _ _ rfl | assumption) (by decide) (by first | exact hS.2 _ _ _ rfl | assumption) ?_
      refine v_getI 4 4 dX11_idle_12 f11_352 hp.1.1 (by decide) ?_
      rw [hp.2.1.2.2.2.1, hW.p.2.2.1.1]
      refine v_icmp_ge 60 dX11_idle_15 (by decide) (fun h15 => absurd ((nI_leI (by omega) (by omega)).mp h15) (by omega)) (fun h15 => ?_)
      refine v_aload_n dX11_idle_18 rfl ?_
      refine v_getR 11 6 _ dX11_idle_19 f11_34 (by first | exact hS.1 _ _ rfl | assumption) (by decide) (by first | exact hS.2 _ _ _ rfl | assumption) ?_
      refine v_getR 6 1 _ dX11_idle_22 f11_119 (by first | exact hS.1 _ _ rfl | assumption) (by decide) (by first | exact hS.2 _ _ _ rfl | assumption) ?_
      refine v_iload_n dX11_idle_25 rfl ?_
      refine v_cV [_] (q1) k7_holders dX11_idle_26 l11_164 (by first | exact hS.1 _ _ rfl | assumption) (by decide) rfl (Nat.le_of_ble_eq_true rfl) (Nat.le_of_ble_eq_true rfl) ?_
      refine v_istore_n dX11_idle_29 rfl (by decide) ?_
      refine v_iload_n dX11_idle_30 rfl ?_
      refine v_if_eq 48 dX11_idle_31 (by decide) (fun h31 => ?_) (fun h31 => absurd (by decide) h31)
      refine v_iload_n dX11_idle_48 rfl ?_
      refine v_iconst 1 dX11_idle_49 (by decide) ?_
      refine v_iload_n dX11_idle_50 rfl ?_
      refine v_ishl dX11_idle_51 ?_
      refine v_ior dX11_idle_52 ?_
      refine v_istore_n dX11_idle_53 rfl (by decide) ?_
      refine v_iinc 1 dX11_idle_54 rfl (by decide) rfl (by decide) ?_
      refine v_goto 4 dX11_idle_57 (by decide) ?_
      (rw [nI_1]; exact hn _)
    · by_cases hc2 : bset (kn K 2) (inbP K c) = kn K 93
      · rw [← bset_p (by omega) (show idP K c = true by unfold idP; simp [hc2])] at hn
        refine v_iload_n dX11_idle_4 rfl ?_
        refine v_aload_n dX11_idle_5 rfl ?_
        refine v_getR 11 6 _ dX11_idle_6 f11_34 (by first | exact hS.1 _ _ rfl | assumption) (by decide) (by first | exact hS.2 _ _ _ rfl | assumption) ?_
        refine v_getR 6 0 _ dX11_idle_9 f11_130 (by first | exact hS.1 _ _ rfl | assumption) (by decide) (by first | exact hS.2 _ _ _ rfl | assumption) ?_
        refine v_getI 4 4 dX11_idle_12 f11_352 hp.1.1 (by decide) ?_
        rw [hp.2.1.2.2.2.1, hW.p.2.2.1.1]
        refine v_icmp_ge 60 dX11_idle_15 (by decide) (fun h15 => absurd ((nI_leI (by omega) (by omega)).mp h15) (by omega)) (fun h15 => ?_)
        refine v_aload_n dX11_idle_18 rfl ?_
        refine v_getR 11 6 _ dX11_idle_19 f11_34 (by first | exact hS.1 _ _ rfl | assumption) (by decide) (by first | exact hS.2 _ _ _ rfl | assumption) ?_
        refine v_getR 6 1 _ dX11_idle_22 f11_119 (by first | exact hS.1 _ _ rfl | assumption) (by decide) (by first | exact hS.2 _ _ _ rfl | assumption) ?_
        refine v_iload_n dX11_idle_25 rfl ?_
        refine v_cV [_] (q1) k7_holders dX11_idle_26 l11_164 (by first | exact hS.1 _ _ rfl | assumption) (by decide) rfl (Nat.le_of_ble_eq_true rfl) (Nat.le_of_ble_eq_true rfl) ?_
        refine v_istore_n dX11_idle_29 rfl (by decide) ?_
        refine v_iload_n dX11_idle_30 rfl ?_
        refine v_if_eq 48 dX11_idle_31 (by decide) (fun h31 => absurd ((nI0 (by omega)).mp h31) hb) (fun h31 => ?_)
        refine v_iload_n dX11_idle_34 rfl ?_
        refine v_aload_n dX11_idle_35 rfl ?_
        refine v_getR 11 6 _ dX11_idle_36 f11_34 (by first | exact hS.1 _ _ rfl | assumption) (by decide) (by first | exact hS.2 _ _ _ rfl | assumption) ?_
        refine v_getR 6 1 _ dX11_idle_39 f11_119 (by first | exact hS.1 _ _ rfl | assumption) (by decide) (by first | exact hS.2 _ _ _ rfl | assumption) ?_
        refine v_getI 7 5 dX11_idle_42 f11_288 (by first | exact hS.1 _ _ rfl | assumption) (by decide) ?_
        rw [hs.2.2.2.1, hW.i.1]
        refine v_icmp_ne 54 dX11_idle_45 (by decide) (fun h45 => absurd (by rw [hc2]) h45) (fun h45 => ?_)
        refine v_iload_n dX11_idle_48 rfl ?_
        refine v_iconst 1 dX11_idle_49 (by decide) ?_
        refine v_iload_n dX11_idle_50 rfl ?_
        refine v_ishl dX11_idle_51 ?_
        refine v_ior dX11_idle_52 ?_
        refine v_istore_n dX11_idle_53 rfl (by decide) ?_
        refine v_iinc 1 dX11_idle_54 rfl (by decide) rfl (by decide) ?_
        refine v_goto 4 dX11_idle_57 (by decide) ?_
        (rw [nI_1]; exact hn _)
      · rw [bset_f (show idP K c = false by unfold idP; simp [hb, hc2])] at hn
        refine v_iload_n dX11_idle_4 rfl ?_
        refine v_aload_n dX11_idle_5 rfl ?_
        refine v_getR 11 6 _ dX11_idle_6 f11_34 (by first | exact hS.1 _ _ rfl | assumption) (by decide) (by first | exact hS.2 _ _ _ rfl | assumption) ?_
        refine v_getR 6 0 _ dX11_idle_9 f11_130 (by first | exact hS.1 _ _ rfl | assumption) (by decide) (by first | exact hS.2 _ _ _ rfl | assumption) ?_
        refine v_getI 4 4 dX11_idle_12 f11_352 hp.1.1 (by decide) ?_
        rw [hp.2.1.2.2.2.1, hW.p.2.2.1.1]
        refine v_icmp_ge 60 dX11_idle_15 (by decide) (fun h15 => absurd ((nI_leI (by omega) (by omega)).mp h15) (by omega)) (fun h15 => ?_)
        refine v_aload_n dX11_idle_18 rfl ?_
        refine v_getR 11 6 _ dX11_idle_19 f11_34 (by first | exact hS.1 _ _ rfl | assumption) (by decide) (by first | exact hS.2 _ _ _ rfl | assumption) ?_
        refine v_getR 6 1 _ dX11_idle_22 f11_119 (by first | exact hS.1 _ _ rfl | assumption) (by decide) (by first | exact hS.2 _ _ _ rfl | assumption) ?_
        refine v_iload_n dX11_idle_25 rfl ?_
        refine v_cV [_] (q1) k7_holders dX11_idle_26 l11_164 (by first | exact hS.1 _ _ rfl | assumption) (by decide) rfl (Nat.le_of_ble_eq_true rfl) (Nat.le_of_ble_eq_true rfl) ?_
        refine v_istore_n dX11_idle_29 rfl (by decide) ?_
        refine v_iload_n dX11_idle_30 rfl ?_
        refine v_if_eq 48 dX11_idle_31 (by decide) (fun h31 => absurd ((nI0 (by omega)).mp h31) hb) (fun h31 => ?_)
        refine v_iload_n dX11_idle_34 rfl ?_
        refine v_aload_n dX11_idle_35 rfl ?_
        refine v_getR 11 6 _ dX11_idle_36 f11_34 (by first | exact hS.1 _ _ rfl | assumption) (by decide) (by first | exact hS.2 _ _ _ rfl | assumption) ?_
        refine v_getR 6 1 _ dX11_idle_39 f11_119 (by first | exact hS.1 _ _ rfl | assumption) (by decide) (by first | exact hS.2 _ _ _ rfl | assumption) ?_
        refine v_getI 7 5 dX11_idle_42 f11_288 (by first | exact hS.1 _ _ rfl | assumption) (by decide) ?_
        rw [hs.2.2.2.1, hW.i.1]
        refine v_icmp_ne 54 dX11_idle_45 (by decide) (fun h45 => ?_) (fun h45 => absurd ((nI_eq (by omega) (by omega)).mp (Decidable.not_not.mp h45)) hc2)
        refine v_iinc 1 dX11_idle_54 rfl (by decide) rfl (by decide) ?_
        refine v_goto 4 dX11_idle_57 (by decide) ?_
        (rw [nI_1]; exact hn _)
theorem c11_idle {K : Nat → Int32} (h : MR M K) : Ct G Y11_idle 40 0 0 [.ref 100] M (Qt (0) (some (.int (nI (bset (kn K 3) (idP K))))) M (K)) (NX) := by
  have h0 := h
  have hs := h.sd
  obtain ⟨hS, hW, hz, hsc, p, cd, n, rd, l1, hp0, hp, hrd, hpa⟩ := h
  obtain ⟨ap1, ap2, ap3, ap4, ap5, ap6, ap7, ap8⟩ := hpa.ap hz
  have h14 := hW.p.2.1.2
  have h6 := hW.p.1.2.2
  have h10 := hW.p.2.2.1.2
  refine Ct.of k11_idle.1 (Nat.le_of_ble_eq_true rfl) ?_
  refine v_iconst 0 dX11_idle_0 (by decide) ?_
  refine v_istore_n dX11_idle_1 rfl (by decide) ?_
  refine v_iconst 0 dX11_idle_2 (by decide) ?_
  refine v_istore_n dX11_idle_3 rfl (by decide) ?_
  exact v_pad (l11_idle G M h0 (kn K 3) 0 none (by omega))
theorem c11_differ {K : Nat → Int32} (h : MR M K) (c : Int32) (d : Int32) : Ct G Y11_differ 40 1 6 [.ref 100, .int c, .int d] M (Qt (if (inR (kn K 2) c && inR (kn K 2) d) = true then 0 else 1) (some (.int (nI (trH K c.toNatClampNeg ^^^ trH K d.toNatClampNeg)))) M (K)) (Xt [(1, nsE)] (if (inR (kn K 2) c && inR (kn K 2) d) = true then 0 else 1) M) := by
  have h0 := h
  have hs := h.sd
  obtain ⟨hS, hW, hz, hsc, p, cd, n, rd, l1, hp0, hp, hrd, hpa⟩ := h
  obtain ⟨ap1, ap2, ap3, ap4, ap5, ap6, ap7, ap8⟩ := hpa.ap hz
  have h14 := hW.p.2.1.2
  have h6 := hW.p.1.2.2
  have h10 := hW.p.2.2.1.2
  refine Ct.of k11_differ.1 (Nat.le_of_ble_eq_true rfl) ?_
  by_cases hc : inR (kn K 2) c = true
  · have q1 := c11_needChest G M h0 hc
    by_cases hd : inR (kn K 2) d = true
    · have q2 := c11_needChest G M h0 hd
      rw [show (if (inR (kn K 2) c && inR (kn K 2) d) = true then (0 : Int32) else 1) = 0 from if_pos (by rw [hc, hd]; rfl)]
      obtain ⟨j, hj, rfl, hj2⟩ := inR_of hc
      obtain ⟨k, hk, rfl, hk2⟩ := inR_of hd
      rw [nI_clamp hj2, nI_clamp hk2]
      refine v_aload_n dX11_differ_0 rfl ?_
      refine v_iload_n dX11_differ_1 rfl ?_
      refine v_cVv [_] (q1) k11_needChest dX11_differ_2 l11_113 (by first | exact hS.1 _ _ rfl | assumption) (by decide) rfl (Nat.le_of_ble_eq_true rfl) (Nat.le_of_ble_eq_true rfl) ?_
      refine v_aload_n dX11_differ_5 rfl ?_
      refine v_iload_n dX11_differ_6 rfl ?_
      refine v_cVv [_] (q2) k11_needChest dX11_differ_7 l11_113 (by first | exact hS.1 _ _ rfl | assumption) (by decide) rfl (Nat.le_of_ble_eq_true rfl) (Nat.le_of_ble_eq_true rfl) ?_
      refine v_aload_n dX11_differ_10 rfl ?_
      refine v_getR 11 6 _ dX11_differ_11 f11_34 (by first | exact hS.1 _ _ rfl | assumption) (by decide) (by first | exact hS.2 _ _ _ rfl | assumption) ?_
      refine v_getR 6 1 _ dX11_differ_14 f11_119 (by first | exact hS.1 _ _ rfl | assumption) (by decide) (by first | exact hS.2 _ _ _ rfl | assumption) ?_
      refine v_iload_n dX11_differ_17 rfl ?_
      refine v_cV [_] (c7_truthN G M hs hW hj) k7_truth dX11_differ_18 l11_145 (by first | exact hS.1 _ _ rfl | assumption) (by decide) rfl (Nat.le_of_ble_eq_true rfl) (Nat.le_of_ble_eq_true rfl) ?_
      refine v_aload_n dX11_differ_21 rfl ?_
      refine v_getR 11 6 _ dX11_differ_22 f11_34 (by first | exact hS.1 _ _ rfl | assumption) (by decide) (by first | exact hS.2 _ _ _ rfl | assumption) ?_
      refine v_getR 6 1 _ dX11_differ_25 f11_119 (by first | exact hS.1 _ _ rfl | assumption) (by decide) (by first | exact hS.2 _ _ _ rfl | assumption) ?_
      refine v_iload_n dX11_differ_28 rfl ?_
      refine v_cV [_] (c7_truthN G M hs hW hk) k7_truth dX11_differ_29 l11_145 (by first | exact hS.1 _ _ rfl | assumption) (by decide) rfl (Nat.le_of_ble_eq_true rfl) (Nat.le_of_ble_eq_true rfl) ?_
      refine v_ixor dX11_differ_32 ?_
      rw [nIxor]
      refine v_iret dX11_differ_33 rfl ?_
      exact ⟨rfl, rfl, Kp.rf, h0⟩
    · have ht : (if (inR (kn K 2) c && inR (kn K 2) d) = true then (0 : Int32) else 1) = 1 := if_neg (by simp [hd])
      rw [ht]
      refine v_aload_n dX11_differ_0 rfl ?_
      refine v_iload_n dX11_differ_1 rfl ?_
      refine v_cVv [_] (q1) k11_needChest dX11_differ_2 l11_113 (by first | exact hS.1 _ _ rfl | assumption) (by decide) rfl (Nat.le_of_ble_eq_true rfl) (Nat.le_of_ble_eq_true rfl) ?_
      refine v_aload_n dX11_differ_5 rfl ?_
      refine v_iload_n dX11_differ_6 rfl ?_
      refine v_callV [_] (c11_needChestF G M h0 hd) k11_needChest dX11_differ_7 l11_113 (by first | exact hS.1 _ _ rfl | assumption) (by decide) rfl (Nat.le_of_ble_eq_true rfl) (Nat.le_of_ble_eq_true rfl) (fun _ _ h => h.elim) (fun E M9 he => ?_)
      exact Xt.of he (by simp)
  · have ht : (if (inR (kn K 2) c && inR (kn K 2) d) = true then (0 : Int32) else 1) = 1 := if_neg (by simp [hc])
    rw [ht]
    refine v_aload_n dX11_differ_0 rfl ?_
    refine v_iload_n dX11_differ_1 rfl ?_
    refine v_callV [_] (c11_needChestF G M h0 hc) k11_needChest dX11_differ_2 l11_113 (by first | exact hS.1 _ _ rfl | assumption) (by decide) rfl (Nat.le_of_ble_eq_true rfl) (Nat.le_of_ble_eq_true rfl) (fun _ _ h => h.elim) (fun E M9 he => ?_)
    exact Xt.of he (by simp)
end O4
