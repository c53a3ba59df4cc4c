/-! ===== the two constructors ===== -/
def Wc (c q _k : Nat) : Bool := Nat.beq q c
section TN
variable (G : mG) (M : mM)
theorem c12_tellsAt {q : Nat} (hT : gT M q = .inr (0, 2120)) : Ct G Y12_tellsNothing 0 0 0 [.ref q] M (Rs none (fun M' => Sm (Wc q) M M' ∧ gI M' q = bgK (gI M q))) NX := by
  refine Ct.of k12_tellsNothing.1 (Nat.le_of_ble_eq_true rfl) ?_
  have l2 : ∀ r p M', p + r = 6 → Sm (Wc q) M M' → gI M' q = cpK (uK (uK (uK (uK (cpK (gI M q) 0 (fun _ => 0) 2120) 1 1) 5 2) 6 2) 96 (-1)) 97 (fun _ => -1) p → V G Y12_tellsNothing 0 0 0 (Rs none (fun M' => Sm (Wc q) M M' ∧ gI M' q = bgK (gI M q))) NX 39 [some (.ref q), some (.int (nI p))] [] M' := by
    intro r
    induction r with
    | zero =>
      intro p M' hp e eK
      have hS' : gT M' q = .inr (0, 2120) := by rw [e.2.1]; exact hT
      have ep : p = 6 := by omega
      subst ep
      have fin : gI M' q = bgK (gI M q) := by
        rw [eK]
        funext j
        unfold bgK iniK
        by_cases h97 : 97 ≤ j ∧ j < 103
        · rw [cpK_in h97.1 (by omega), if_pos (by omega), if_neg (by omega), if_neg (by omega), if_pos (by omega)]
        · rw [cpK_out (by omega)]
          by_cases h96 : j = 96
          · subst h96; rw [uK_s]; rfl
          · rw [uK_n _ _ h96]
            by_cases h6 : j = 6
            · subst h6; rw [uK_s]; rfl
            · rw [uK_n _ _ h6]
              by_cases h5 : j = 5
              · subst h5; rw [uK_s]; rfl
              · rw [uK_n _ _ h5]
                by_cases h1 : j = 1
                · subst h1; rw [uK_s]; rfl
                · rw [uK_n _ _ h1]
                  by_cases hj : j < 2120
                  · rw [cpK_in (by omega) (by omega), if_pos hj, if_neg h1, if_neg (by omega), if_neg (by omega)]
                  · rw [cpK_out (by omega), if_neg hj]
      refine v_iload_n dX12_tellsNothing_39 rfl ?_
      refine v_bipush 6 dX12_tellsNothing_40 (by decide) ?_
      refine v_icmp_ge 58 dX12_tellsNothing_42 (by decide) (fun h42 => ?_) (fun h42 => absurd (by decide) h42)
      refine v_vret dX12_tellsNothing_58 rfl ?_
      exact ⟨rfl, e, fin⟩
    | succ r ih =>
      intro p M' hp e eK
      have hS' : gT M' q = .inr (0, 2120) := by rw [e.2.1]; exact hT
      have g := ih (p + 1) (sI M' q (97 + p) (-1)) (by omega) (e.st _ (Nat.beq_refl q)) (by rw [gI_uK, eK]; exact uK_cpK _ _ (fun _ => (-1 : Int32)) _)
      refine v_iload_n dX12_tellsNothing_39 rfl ?_
      refine v_bipush 6 dX12_tellsNothing_40 (by decide) ?_
      refine v_icmp_ge 58 dX12_tellsNothing_42 (by decide) (fun h42 => absurd ((nI_leI (a := 6) (by omega) (by omega)).mp h42) (by omega)) (fun h42 => ?_)
      refine v_aload_n dX12_tellsNothing_45 rfl ?_
      refine v_bipush 97 dX12_tellsNothing_46 (by decide) ?_
      refine v_iload_n dX12_tellsNothing_48 rfl ?_
      refine v_iadd dX12_tellsNothing_49 ?_
      refine v_iconst (-1) dX12_tellsNothing_50 (by decide) ?_
      refine v_iastN (97 + p) dX12_tellsNothing_51 hS' (by simp only [n_lit, pk_mul, nI_add]) ⟨by omega, by omega⟩ ?_
      refine v_iinc 1 dX12_tellsNothing_52 rfl (by decide) rfl (by decide) ?_
      refine v_goto 39 dX12_tellsNothing_55 (by decide) ?_
      (rw [nI_1]; exact g)
  have l1 : ∀ r p M', p + r = 2120 → Sm (Wc q) M M' → gI M' q = cpK (gI M q) 0 (fun _ => 0) p → V G Y12_tellsNothing 0 0 0 (Rs none (fun M' => Sm (Wc q) M M' ∧ gI M' q = bgK (gI M q))) NX 2 [some (.ref q), some (.int (nI p))] [] M' := by
    intro r
    induction r with
    | zero =>
      intro p M' hp e eK
      have hS' : gT M' q = .inr (0, 2120) := by rw [e.2.1]; exact hT
      have ep : p = 2120 := by omega
      subst ep
      have g := l2 6 0 (sI (sI (sI (sI M' q 1 1) q 5 2) q 6 2) q 96 (-1)) rfl ((((e.st _ (Nat.beq_refl q)).st _ (Nat.beq_refl q)).st _ (Nat.beq_refl q)).st _ (Nat.beq_refl q)) (by rw [gI_uK, gI_uK, gI_uK, gI_uK, eK, cpK_0])
      refine v_iload_n dX12_tellsNothing_2 rfl ?_
      refine v_sipush 2120 dX12_tellsNothing_3 (by decide) ?_
      refine v_icmp_ge 19 dX12_tellsNothing_6 (by decide) (fun h6 => ?_) (fun h6 => absurd (by decide) h6)
      refine v_aload_n dX12_tellsNothing_19 rfl ?_
      refine v_iconst 1 dX12_tellsNothing_20 (by decide) ?_
      refine v_iconst 1 dX12_tellsNothing_21 (by decide) ?_
      refine v_iastN (1) dX12_tellsNothing_22 hS' (by simp only [n_lit, pk_mul, nI_add]) ⟨by omega, by omega⟩ ?_
      refine v_aload_n dX12_tellsNothing_23 rfl ?_
      refine v_iconst 5 dX12_tellsNothing_24 (by decide) ?_
      refine v_iconst 2 dX12_tellsNothing_25 (by decide) ?_
      refine v_iastN (5) dX12_tellsNothing_26 hS' (by simp only [n_lit, pk_mul, nI_add]) ⟨by omega, by omega⟩ ?_
      refine v_aload_n dX12_tellsNothing_27 rfl ?_
      refine v_bipush 6 dX12_tellsNothing_28 (by decide) ?_
      refine v_iconst 2 dX12_tellsNothing_30 (by decide) ?_
      refine v_iastN (6) dX12_tellsNothing_31 hS' (by simp only [n_lit, pk_mul, nI_add]) ⟨by omega, by omega⟩ ?_
      refine v_aload_n dX12_tellsNothing_32 rfl ?_
      refine v_bipush 96 dX12_tellsNothing_33 (by decide) ?_
      refine v_iconst (-1) dX12_tellsNothing_35 (by decide) ?_
      refine v_iastN (96) dX12_tellsNothing_36 hS' (by simp only [n_lit, pk_mul, nI_add]) ⟨by omega, by omega⟩ ?_
      refine v_iconst 0 dX12_tellsNothing_37 (by decide) ?_
      refine v_istore_n dX12_tellsNothing_38 rfl (by decide) ?_
      exact g
    | succ r ih =>
      intro p M' hp e eK
      have hS' : gT M' q = .inr (0, 2120) := by rw [e.2.1]; exact hT
      have g := ih (p + 1) (sI M' q p 0) (by omega) (e.st _ (Nat.beq_refl q)) (by rw [gI_uK, eK]; have := uK_cpK (gI M q) 0 (fun _ => (0 : Int32)) p; rw [Nat.zero_add] at this; exact this)
      refine v_iload_n dX12_tellsNothing_2 rfl ?_
      refine v_sipush 2120 dX12_tellsNothing_3 (by decide) ?_
      refine v_icmp_ge 19 dX12_tellsNothing_6 (by decide) (fun h6 => absurd ((nI_leI (a := 2120) (by omega) (by omega)).mp h6) (by omega)) (fun h6 => ?_)
      refine v_aload_n dX12_tellsNothing_9 rfl ?_
      refine v_iload_n dX12_tellsNothing_10 rfl ?_
      refine v_iconst 0 dX12_tellsNothing_11 (by decide) ?_
      refine v_iastN (p) dX12_tellsNothing_12 hS' (by simp only [n_lit, pk_mul, nI_add]) ⟨by omega, by omega⟩ ?_
      refine v_iinc 1 dX12_tellsNothing_13 rfl (by decide) rfl (by decide) ?_
      refine v_goto 2 dX12_tellsNothing_16 (by decide) ?_
      (rw [nI_1]; exact g)
  refine v_iconst 0 dX12_tellsNothing_0 (by decide) ?_
  refine v_istore_n dX12_tellsNothing_1 rfl (by decide) ?_
  exact l1 2120 0 M (Nat.zero_add _) Sm.rf (funext (fun j => (cpK_out (by omega)).symm))
end TN
def shB (a b : Nat ⊕ (Nat × Nat)) : Bool := match a, b with
  | .inl x, .inl y => Nat.beq x y
  | .inr x, .inr y => Nat.beq x.1 y.1 && Nat.beq x.2 y.2
  | _, _ => false
theorem shB_eq {a b : Nat ⊕ (Nat × Nat)} (h : shB a b = true) : a = b := by
  cases a with
  | inl x => cases b with
    | inl y => exact congrArg Sum.inl (Nat.eq_of_beq_eq_true h)
    | inr y => cases h
  | inr x => cases b with
    | inl y => cases h
    | inr y =>
      obtain ⟨x1, x2⟩ := x
      obtain ⟨y1, y2⟩ := y
      simp only [shB, Bool.and_eq_true] at h
      rw [Nat.eq_of_beq_eq_true h.1, Nat.eq_of_beq_eq_true h.2]
def hasT (L : List (Nat × (Nat ⊕ (Nat × Nat)))) (a : Nat) (sh : Nat ⊕ (Nat × Nat)) : Bool := L.any (fun e => Nat.beq e.1 a && shB e.2 sh)
theorem NwO.t {c p n : Nat} {LT : List (Nat × (Nat ⊕ (Nat × Nat)))} {LR : List (Nat × Nat × Nat)} {LZ : List Nat} {f : Nat → Int32} {M0 M : mM} (h : NwO c p n LT LR LZ f M0 M) (a : Nat) (sh : Nat ⊕ (Nat × Nat)) (hb : hasT LT a sh = true) : gT M (p + a) = sh := by
  obtain ⟨e, he, h1⟩ := List.any_eq_true.mp hb
  rw [Bool.and_eq_true] at h1
  have := (h.2.2.2.2.2.1 e he).2
  rw [Nat.eq_of_beq_eq_true h1.1, shB_eq h1.2] at this
  exact this
def ImN (M : mM) (q : Nat) : Prop := ∀ i, gR M q i = none
theorem ImN.mk {M : mM} {p n : Nat} {sh : Nat ⊕ (Nat × Nat)} (hz : gz M = p + n) : ImN (nw M sh) (p + n) := fun i => if_pos hz.symm
theorem ImN.old {M M' : mM} {q z : Nat} (h : ImN M q) (o : Old z M M') (hq : q < z) : ImN M' q := fun i => ((o q hq).2.2.2 i).trans (h i)
theorem ImN.put {M : mM} {q a k : Nat} {v : Option Nat} (h : ImN M q) (hq : q ≠ a) : ImN (sR M a k v) q := fun i => (gR_sq _ _ hq).trans (h i)
theorem ir_old {M M' : mM} {q z : Nat} {f : Nat → Int32} (h : gI M q = f) (o : Old z M M') (hq : q < z) : gI M' q = f := (o q hq).2.1.trans h
theorem NwO.sx {c p n : Nat} {LT : List (Nat × (Nat ⊕ (Nat × Nat)))} {LR : List (Nat × Nat × Nat)} {LZ : List Nat} {f : Nat → Int32} {M0 M : mM} (h : NwO c p n LT LR LZ f M0 M) (b : Nat) {k : Nat} {v : Int32} (h0 : b ≠ 0) (hb : ∀ e ∈ LZ, e ≠ b) : NwO c p n LT LR LZ f M0 (sI M (p + b) k v) := by
  obtain ⟨h1, h2, h3, h4, h5, h6, h7, h8⟩ := h
  refine ⟨h1, h2, h3.tr (Old.si _ (show p ≤ p + b by omega)) (Nat.le_refl _), h4, (gI_sr _ _ (by omega)).trans h5, h6, h7, fun e he => ⟨(h8 e he).1, fun j => ?_⟩⟩
  rw [gI_sq _ _ (by have := hb e he; omega)]
  exact (h8 e he).2 j
theorem NwO.lz {c p n : Nat} {LT : List (Nat × (Nat ⊕ (Nat × Nat)))} {LR : List (Nat × Nat × Nat)} {LZ : List Nat} {e : Nat} {f : Nat → Int32} {M0 M : mM} (h : NwO c p n LT LR (e :: LZ) f M0 M) : NwO c p n LT LR LZ f M0 M := ⟨h.1, h.2.1, h.2.2.1, h.2.2.2.1, h.2.2.2.2.1, h.2.2.2.2.2.1, h.2.2.2.2.2.2.1, fun e he => h.2.2.2.2.2.2.2 e (List.mem_cons_of_mem _ he)⟩
section INI3
variable (G : mG) (M : mM)
def lt11 : List (Nat × (Nat ⊕ (Nat × Nat))) := ((lt10).map (fun e => (128 + e.1, e.2)) ++ (128, .inl 10) :: ((lt10).map (fun e => (126 + e.1, e.2)) ++ (126, .inl 10) :: ((lt10).map (fun e => (124 + e.1, e.2)) ++ (124, .inl 10) :: ((lt10).map (fun e => (122 + e.1, e.2)) ++ (122, .inl 10) :: ((lt2).map (fun e => (109 + e.1, e.2)) ++ (109, .inl 2) :: ((lt0).map (fun e => (105 + e.1, e.2)) ++ (105, .inl 0) :: ((lt1).map (fun e => (101 + e.1, e.2)) ++ (101, .inl 1) :: ((ltS).map (fun e => (95 + e.1, e.2)) ++ (95, .inl 7) :: ((94, .inr (7, 4)) :: ((93, .inr (6, 3)) :: ((ltC).map (fun e => (18 + e.1, e.2)) ++ (18, .inl 6) :: ((lt5).map (fun e => (15 + e.1, e.2)) ++ (15, .inl 5) :: ((lt3).map (fun e => (2 + e.1, e.2)) ++ (2, .inl 3) :: ((1, .inr (2, 900)) :: []))))))))))))))
def lr11 : List (Nat × Nat × Nat) := ((94, 3, 128) :: ((lr10).map (fun e => (128 + e.1, e.2.1, 128 + e.2.2)) ++ ((94, 2, 126) :: ((lr10).map (fun e => (126 + e.1, e.2.1, 126 + e.2.2)) ++ ((94, 1, 124) :: ((lr10).map (fun e => (124 + e.1, e.2.1, 124 + e.2.2)) ++ ((94, 0, 122) :: ((lr10).map (fun e => (122 + e.1, e.2.1, 122 + e.2.2)) ++ ((0, 12, 109) :: ((lr2).map (fun e => (109 + e.1, e.2.1, 109 + e.2.2)) ++ ((0, 11, 105) :: ((lr0).map (fun e => (105 + e.1, e.2.1, 105 + e.2.2)) ++ ((0, 10, 101) :: ((lr1).map (fun e => (101 + e.1, e.2.1, 101 + e.2.2)) ++ ((0, 9, 95) :: ((lrS).map (fun e => (95 + e.1, e.2.1, 95 + e.2.2)) ++ ((0, 8, 94) :: ((0, 7, 93) :: ((0, 6, 18) :: ((lrC).map (fun e => (18 + e.1, e.2.1, 18 + e.2.2)) ++ ((0, 5, 15) :: ((lr5).map (fun e => (15 + e.1, e.2.1, 15 + e.2.2)) ++ ((0, 4, 2) :: ((lr3).map (fun e => (2 + e.1, e.2.1, 2 + e.2.2)) ++ ((0, 0, 1) :: [])))))))))))))))))))))))))
def mz11 : List Nat := ((mz10).map (fun e => 128 + e) ++ ((mz10).map (fun e => 126 + e) ++ ((mz10).map (fun e => 124 + e) ++ ((mz10).map (fun e => 122 + e) ++ ((mz2).map (fun e => 109 + e) ++ ((mz0).map (fun e => 105 + e) ++ ((mz1).map (fun e => 101 + e) ++ (([]).map (fun e => 95 + e) ++ (94 :: (93 :: (([]).map (fun e => 18 + e) ++ ((mz5).map (fun e => 15 + e) ++ ((mz3).map (fun e => 2 + e) ++ (1 :: []))))))))))))))
def fn11 : Nat → Int32 := (uK (fun _ => 0) 3 (-1))
theorem c11_ini {p : Nat} (hp : gz M = p) : Ct G Y11_init 6 129 7195 [.ref p] (nw M (.inl 11)) (Rs none (fun M' => NwO 11 p 130 lt11 lr11 mz11 fn11 M M' ∧ ScN M' (p + 18) ∧ ImN M' (p + 93) ∧ gI M' (p + 122) = fn10 ∧ gI M' (p + 124) = fn10 ∧ gI M' (p + 126) = fn10 ∧ gI M' (p + 128) = fn10)) NX := by
  refine Ct.of k11_init.1 (Nat.le_of_ble_eq_true rfl) ?_
  have h := NwO.start hp 11
  generalize nw M (.inl 11) = M1 at h ⊢
  refine v_pad ?_
  refine v_aload_n dX11_init_0 rfl ?_
  refine v_objInit dX11_init_1 ⟨l11_3, oI⟩ (Nat.le_of_ble_eq_true rfl) (Nat.le_of_ble_eq_true rfl) ?_
  have hz := h.1
  refine v_aload_n dX11_init_4 rfl ?_
  refine v_sipush 900 dX11_init_5 (by decide) ?_
  refine v_newa (kc := 128) (ks := 6295) (t := 2) (N := 900) dX11_init_8 ⟨rfl, by decide⟩ A_2 ⟨by decide, rfl, by decide⟩ ?_
  rw [h.1]
  have h := h.arr (.inr (2, 900))
  refine v_putR 11 0 dX11_init_10 f11_9 h.own (by decide) (by decide) ?_
  have h := h.put0 0 1 (by decide)
  generalize sR (nw M1 (.inr (2, 900))) p 0 (some (p + 1)) = M2 at h ⊢
  have hz := h.1
  refine v_aload_n dX11_init_13 rfl ?_
  refine v_iconst (-1) dX11_init_14 (by decide) ?_
  refine v_putI 11 3 dX11_init_15 f11_13 h.own (by decide) ?_
  have h := h.si 3 (-1) (by decide)
  generalize sI M2 p 3 (-1) = M3 at h ⊢
  have hz := h.1
  refine v_aload_n dX11_init_18 rfl ?_
  refine v_new (kc := 127) (ks := 6290) 3 dX11_init_19 (by decide) ⟨c11_17, I_3, N_3⟩ ?_
  rw [h.1]
  refine v_dup dX11_init_22 rfl ?_
  refine v_scIN (kc := 115) (ks := 3454) [] (c3_ini G M3 (p := p + 2) h.1) k3_init dX11_init_23 n11_19 rfl (Nat.le_of_ble_eq_true rfl) (Nat.le_of_ble_eq_true rfl) ?_
  intro M4 h2
  have h := h.sub h2
  clear h2
  refine v_putR 11 4 dX11_init_26 f11_20 h.own (by decide) (by decide) ?_
  have h := h.put0 4 2 (by decide)
  generalize sR M4 p 4 (some (p + 2)) = M5 at h ⊢
  have hz := h.1
  refine v_aload_n dX11_init_29 rfl ?_
  refine v_new (kc := 114) (ks := 3450) 5 dX11_init_30 (by decide) ⟨c11_24, I_5, N_5⟩ ?_
  rw [h.1]
  refine v_dup dX11_init_33 rfl ?_
  refine v_scIN (kc := 112) (ks := 3404) [] (c5_ini G M5 (p := p + 15) h.1) k5_init dX11_init_34 n11_26 rfl (Nat.le_of_ble_eq_true rfl) (Nat.le_of_ble_eq_true rfl) ?_
  intro M6 h2
  have h := h.sub h2
  clear h2
  refine v_putR 11 5 dX11_init_37 f11_27 h.own (by decide) (by decide) ?_
  have h := h.put0 5 15 (by decide)
  generalize sR M6 p 5 (some (p + 15)) = M7 at h ⊢
  have hz := h.1
  refine v_aload_n dX11_init_40 rfl ?_
  refine v_new (kc := 111) (ks := 3399) 6 dX11_init_41 (by decide) ⟨c11_31, I_6, N_6⟩ ?_
  rw [h.1]
  refine v_dup dX11_init_44 rfl ?_
  refine v_scI (kc := 37) (ks := 2574) [] (c6_ini G M7 (p := p + 18) h.1) k6_init dX11_init_45 l11_33 rfl (Nat.le_of_ble_eq_true rfl) (Nat.le_of_ble_eq_true rfl) ?_
  intro M8 h2
  obtain ⟨h2, hsc⟩ := h2
  have h := h.sub h2
  clear h2
  refine v_putR 11 6 dX11_init_48 f11_34 h.own (by decide) (by decide) ?_
  have h := h.put0 6 18 (by decide)
  have hsc := hsc.put (q := p) (k := 6) (v := some (p + 18)) (by omega)
  generalize sR M8 p 6 (some (p + 18)) = M9 at h hsc ⊢
  have hz := h.1
  refine v_aload_n dX11_init_51 rfl ?_
  refine v_iconst 3 dX11_init_52 (by decide) ?_
  refine v_anew (kc := 36) (ks := 2571) (t := 6) (N := 3) dX11_init_53 (by decide) c11_31 ⟨by decide, rfl, by decide⟩ ?_
  rw [h.1]
  have h := h.arr (.inr (6, 3))
  refine v_putR 11 7 dX11_init_56 f11_38 h.own (by decide) (by decide) ?_
  have h := h.put0 7 93 (by decide)
  have hsc := (hsc.old (z := p + 93) (Old.nw (M := M9) (by omega) (.inr (6, 3))) (by omega)).put (q := p) (k := 7) (v := some (p + 93)) (by omega)
  have him := (ImN.mk (p := p) (n := 93) (sh := (.inr (6, 3))) hz).put (a := p) (k := 7) (v := some (p + 93)) (by omega)
  generalize sR (nw M9 (.inr (6, 3))) p 7 (some (p + 93)) = M10 at h hsc him ⊢
  have hz := h.1
  refine v_aload_n dX11_init_59 rfl ?_
  refine v_iconst 4 dX11_init_60 (by decide) ?_
  refine v_anew (kc := 35) (ks := 2567) (t := 7) (N := 4) dX11_init_61 (by decide) c11_42 ⟨by decide, rfl, by decide⟩ ?_
  rw [h.1]
  have h := h.arr (.inr (7, 4))
  refine v_putR 11 8 dX11_init_64 f11_44 h.own (by decide) (by decide) ?_
  have h := h.put0 8 94 (by decide)
  have hsc := (hsc.old (z := p + 94) (Old.nw (M := M10) (by omega) (.inr (7, 4))) (by omega)).put (q := p) (k := 8) (v := some (p + 94)) (by omega)
  have him := (him.old (z := p + 94) (Old.nw (M := M10) (by omega) (.inr (7, 4))) (by omega)).put (a := p) (k := 8) (v := some (p + 94)) (by omega)
  generalize sR (nw M10 (.inr (7, 4))) p 8 (some (p + 94)) = M11 at h hsc him ⊢
  have hz := h.1
  refine v_aload_n dX11_init_67 rfl ?_
  refine v_new (kc := 34) (ks := 2558) 7 dX11_init_68 (by decide) ⟨c11_48, I_7, N_7⟩ ?_
  rw [h.1]
  refine v_dup dX11_init_71 rfl ?_
  refine v_scI (kc := 29) (ks := 2504) [] (c7_ini G M11 (p := p + 95) h.1) k7_init dX11_init_72 l11_50 rfl (Nat.le_of_ble_eq_true rfl) (Nat.le_of_ble_eq_true rfl) ?_
  intro M12 h2
  have hsc := hsc.old h2.2.2.1 (by omega)
  have him := him.old h2.2.2.1 (by omega)
  have h := h.sub h2
  clear h2
  refine v_putR 11 9 dX11_init_75 f11_51 h.own (by decide) (by decide) ?_
  have h := h.put0 9 95 (by decide)
  have hsc := hsc.put (q := p) (k := 9) (v := some (p + 95)) (by omega)
  have him := him.put (a := p) (k := 9) (v := some (p + 95)) (by omega)
  generalize sR M12 p 9 (some (p + 95)) = M13 at h hsc him ⊢
  have hz := h.1
  refine v_aload_n dX11_init_78 rfl ?_
  refine v_new (kc := 28) (ks := 2501) 1 dX11_init_79 (by decide) ⟨c11_55, I_1, N_1⟩ ?_
  rw [h.1]
  refine v_dup dX11_init_82 rfl ?_
  refine v_scIN (kc := 25) (ks := 1457) [] (c1_ini G M13 (p := p + 101) h.1) k1_init dX11_init_83 n11_57 rfl (Nat.le_of_ble_eq_true rfl) (Nat.le_of_ble_eq_true rfl) ?_
  intro M14 h2
  have hsc := hsc.old h2.2.2.1 (by omega)
  have him := him.old h2.2.2.1 (by omega)
  have h := h.sub h2
  clear h2
  refine v_putR 11 10 dX11_init_86 f11_58 h.own (by decide) (by decide) ?_
  have h := h.put0 10 101 (by decide)
  have hsc := hsc.put (q := p) (k := 10) (v := some (p + 101)) (by omega)
  have him := him.put (a := p) (k := 10) (v := some (p + 101)) (by omega)
  generalize sR M14 p 10 (some (p + 101)) = M15 at h hsc him ⊢
  have hz := h.1
  refine v_aload_n dX11_init_89 rfl ?_
  refine v_new (kc := 24) (ks := 1453) 0 dX11_init_90 (by decide) ⟨c11_62, I_0, N_0⟩ ?_
  rw [h.1]
  refine v_dup dX11_init_93 rfl ?_
  refine v_scIN (kc := 21) (ks := 328) [] (c0_ini G M15 (p := p + 105) h.1) k0_init dX11_init_94 n11_64 rfl (Nat.le_of_ble_eq_true rfl) (Nat.le_of_ble_eq_true rfl) ?_
  intro M16 h2
  have hsc := hsc.old h2.2.2.1 (by omega)
  have him := him.old h2.2.2.1 (by omega)
  have h := h.sub h2
  clear h2
  refine v_putR 11 11 dX11_init_97 f11_65 h.own (by decide) (by decide) ?_
  have h := h.put0 11 105 (by decide)
  have hsc := hsc.put (q := p) (k := 11) (v := some (p + 105)) (by omega)
  have him := him.put (a := p) (k := 11) (v := some (p + 105)) (by omega)
  generalize sR M16 p 11 (some (p + 105)) = M17 at h hsc him ⊢
  have hz := h.1
  refine v_aload_n dX11_init_100 rfl ?_
  refine v_new (kc := 20) (ks := 324) 2 dX11_init_101 (by decide) ⟨c11_69, I_2, N_2⟩ ?_
  rw [h.1]
  refine v_dup dX11_init_104 rfl ?_
  refine v_scIN (kc := 8) (ks := 136) [] (c2_ini G M17 (p := p + 109) h.1) k2_init dX11_init_105 n11_71 rfl (Nat.le_of_ble_eq_true rfl) (Nat.le_of_ble_eq_true rfl) ?_
  intro M18 h2
  have hsc := hsc.old h2.2.2.1 (by omega)
  have him := him.old h2.2.2.1 (by omega)
  have h := h.sub h2
  clear h2
  refine v_putR 11 12 dX11_init_108 f11_72 h.own (by decide) (by decide) ?_
  have h := h.put0 12 109 (by decide)
  have hsc := hsc.put (q := p) (k := 12) (v := some (p + 109)) (by omega)
  have him := him.put (a := p) (k := 12) (v := some (p + 109)) (by omega)
  generalize sR M18 p 12 (some (p + 109)) = M19 at h hsc him ⊢
  refine v_iconst 0 dX11_init_111 (by decide) ?_
  refine v_istore_n dX11_init_112 rfl (by decide) ?_
  have hz := h.1
  refine v_iload_n dX11_init_113 rfl ?_
  refine v_iconst 4 dX11_init_114 (by decide) ?_
  refine v_icmp_ge 137 dX11_init_115 (by decide) (fun h4 => absurd h4 (by decide)) (fun _ => ?_)
  refine v_aload_n dX11_init_118 rfl ?_
  refine v_getR 11 8 _ dX11_init_119 f11_44 h.own (by decide) (h.2.2.2.2.2.2.1 (0, 8, 94) (by decide +kernel)).2 ?_
  refine v_iload_n dX11_init_122 rfl ?_
  refine v_new (kc := 7) (ks := 132) 10 dX11_init_123 (by decide) ⟨c11_42, I_10, N_10⟩ ?_
  rw [h.1]
  refine v_dup dX11_init_126 rfl ?_
  refine v_scIN (kc := 6) (ks := 102) [] (c10_ini G M19 (p := p + 122) h.1) k10_init dX11_init_127 n11_76 rfl (Nat.le_of_ble_eq_true rfl) (Nat.le_of_ble_eq_true rfl) ?_
  intro M20 h2
  have hsc := hsc.old h2.2.2.1 (by omega)
  have him := him.old h2.2.2.1 (by omega)
  have ht0 := h2.2.2.2.2.1
  have h := h.sub h2
  clear h2
  refine v_aast (t := 7) (n := 4) dX11_init_130 (h.t 94 (.inr (7, 4)) (by decide +kernel)) (by decide) (vp_in_iff.mpr (by decide)) (h.t 122 (.inl 10) (by decide +kernel)) ?_
  rw [show (0 : Int32).toNatClampNeg = 0 by decide]
  have h := h.put 94 0 122 (by decide) (by decide +kernel)
  have hsc := hsc.put (q := p + 94) (k := 0) (v := some (p + 122)) (by omega)
  have him := him.put (a := p + 94) (k := 0) (v := some (p + 122)) (by omega)
  have ht0 := (show gI (sR M20 (p + 94) 0 (some (p + 122))) (p + 122) = fn10 from ht0)
  generalize sR M20 (p + 94) 0 (some (p + 122)) = M21 at h hsc him ht0 ⊢
  refine v_iinc 1 dX11_init_131 rfl (by decide) rfl (by decide) ?_
  rw [show (0 : Int32) + 1 = 1 by decide]
  refine v_goto 113 dX11_init_134 (by decide) ?_
  have hz := h.1
  refine v_iload_n dX11_init_113 rfl ?_
  refine v_iconst 4 dX11_init_114 (by decide) ?_
  refine v_icmp_ge 137 dX11_init_115 (by decide) (fun h4 => absurd h4 (by decide)) (fun _ => ?_)
  refine v_aload_n dX11_init_118 rfl ?_
  refine v_getR 11 8 _ dX11_init_119 f11_44 h.own (by decide) (h.2.2.2.2.2.2.1 (0, 8, 94) (by decide +kernel)).2 ?_
  refine v_iload_n dX11_init_122 rfl ?_
  refine v_new (kc := 5) (ks := 98) 10 dX11_init_123 (by decide) ⟨c11_42, I_10, N_10⟩ ?_
  rw [h.1]
  refine v_dup dX11_init_126 rfl ?_
  refine v_scIN (kc := 4) (ks := 68) [] (c10_ini G M21 (p := p + 124) h.1) k10_init dX11_init_127 n11_76 rfl (Nat.le_of_ble_eq_true rfl) (Nat.le_of_ble_eq_true rfl) ?_
  intro M22 h2
  have hsc := hsc.old h2.2.2.1 (by omega)
  have him := him.old h2.2.2.1 (by omega)
  have ht0 := ir_old ht0 h2.2.2.1 (by omega)
  have ht1 := h2.2.2.2.2.1
  have h := h.sub h2
  clear h2
  refine v_aast (t := 7) (n := 4) dX11_init_130 (h.t 94 (.inr (7, 4)) (by decide +kernel)) (by decide) (vp_in_iff.mpr (by decide)) (h.t 124 (.inl 10) (by decide +kernel)) ?_
  rw [show (1 : Int32).toNatClampNeg = 1 by decide]
  have h := h.put 94 1 124 (by decide) (by decide +kernel)
  have hsc := hsc.put (q := p + 94) (k := 1) (v := some (p + 124)) (by omega)
  have him := him.put (a := p + 94) (k := 1) (v := some (p + 124)) (by omega)
  have ht0 := (show gI (sR M22 (p + 94) 1 (some (p + 124))) (p + 122) = fn10 from ht0)
  have ht1 := (show gI (sR M22 (p + 94) 1 (some (p + 124))) (p + 124) = fn10 from ht1)
  generalize sR M22 (p + 94) 1 (some (p + 124)) = M23 at h hsc him ht0 ht1 ⊢
  refine v_iinc 1 dX11_init_131 rfl (by decide) rfl (by decide) ?_
  rw [show (1 : Int32) + 1 = 2 by decide]
  refine v_goto 113 dX11_init_134 (by decide) ?_
  have hz := h.1
  refine v_iload_n dX11_init_113 rfl ?_
  refine v_iconst 4 dX11_init_114 (by decide) ?_
  refine v_icmp_ge 137 dX11_init_115 (by decide) (fun h4 => absurd h4 (by decide)) (fun _ => ?_)
  refine v_aload_n dX11_init_118 rfl ?_
  refine v_getR 11 8 _ dX11_init_119 f11_44 h.own (by decide) (h.2.2.2.2.2.2.1 (0, 8, 94) (by decide +kernel)).2 ?_
  refine v_iload_n dX11_init_122 rfl ?_
  refine v_new (kc := 3) (ks := 64) 10 dX11_init_123 (by decide) ⟨c11_42, I_10, N_10⟩ ?_
  rw [h.1]
  refine v_dup dX11_init_126 rfl ?_
  refine v_scIN (kc := 2) (ks := 34) [] (c10_ini G M23 (p := p + 126) h.1) k10_init dX11_init_127 n11_76 rfl (Nat.le_of_ble_eq_true rfl) (Nat.le_of_ble_eq_true rfl) ?_
  intro M24 h2
  have hsc := hsc.old h2.2.2.1 (by omega)
  have him := him.old h2.2.2.1 (by omega)
  have ht0 := ir_old ht0 h2.2.2.1 (by omega)
  have ht1 := ir_old ht1 h2.2.2.1 (by omega)
  have ht2 := h2.2.2.2.2.1
  have h := h.sub h2
  clear h2
  refine v_aast (t := 7) (n := 4) dX11_init_130 (h.t 94 (.inr (7, 4)) (by decide +kernel)) (by decide) (vp_in_iff.mpr (by decide)) (h.t 126 (.inl 10) (by decide +kernel)) ?_
  rw [show (2 : Int32).toNatClampNeg = 2 by decide]
  have h := h.put 94 2 126 (by decide) (by decide +kernel)
  have hsc := hsc.put (q := p + 94) (k := 2) (v := some (p + 126)) (by omega)
  have him := him.put (a := p + 94) (k := 2) (v := some (p + 126)) (by omega)
  have ht0 := (show gI (sR M24 (p + 94) 2 (some (p + 126))) (p + 122) = fn10 from ht0)
  have ht1 := (show gI (sR M24 (p + 94) 2 (some (p + 126))) (p + 124) = fn10 from ht1)
  have ht2 := (show gI (sR M24 (p + 94) 2 (some (p + 126))) (p + 126) = fn10 from ht2)
  generalize sR M24 (p + 94) 2 (some (p + 126)) = M25 at h hsc him ht0 ht1 ht2 ⊢
  refine v_iinc 1 dX11_init_131 rfl (by decide) rfl (by decide) ?_
  rw [show (2 : Int32) + 1 = 3 by decide]
  refine v_goto 113 dX11_init_134 (by decide) ?_
  have hz := h.1
  refine v_iload_n dX11_init_113 rfl ?_
  refine v_iconst 4 dX11_init_114 (by decide) ?_
  refine v_icmp_ge 137 dX11_init_115 (by decide) (fun h4 => absurd h4 (by decide)) (fun _ => ?_)
  refine v_aload_n dX11_init_118 rfl ?_
  refine v_getR 11 8 _ dX11_init_119 f11_44 h.own (by decide) (h.2.2.2.2.2.2.1 (0, 8, 94) (by decide +kernel)).2 ?_
  refine v_iload_n dX11_init_122 rfl ?_
  refine v_new (kc := 1) (ks := 30) 10 dX11_init_123 (by decide) ⟨c11_42, I_10, N_10⟩ ?_
  rw [h.1]
  refine v_dup dX11_init_126 rfl ?_
  refine v_scIN (kc := 0) (ks := 0) [] (c10_ini G M25 (p := p + 128) h.1) k10_init dX11_init_127 n11_76 rfl (Nat.le_of_ble_eq_true rfl) (Nat.le_of_ble_eq_true rfl) ?_
  intro M26 h2
  have hsc := hsc.old h2.2.2.1 (by omega)
  have him := him.old h2.2.2.1 (by omega)
  have ht0 := ir_old ht0 h2.2.2.1 (by omega)
  have ht1 := ir_old ht1 h2.2.2.1 (by omega)
  have ht2 := ir_old ht2 h2.2.2.1 (by omega)
  have ht3 := h2.2.2.2.2.1
  have h := h.sub h2
  clear h2
  refine v_aast (t := 7) (n := 4) dX11_init_130 (h.t 94 (.inr (7, 4)) (by decide +kernel)) (by decide) (vp_in_iff.mpr (by decide)) (h.t 128 (.inl 10) (by decide +kernel)) ?_
  rw [show (3 : Int32).toNatClampNeg = 3 by decide]
  have h := h.put 94 3 128 (by decide) (by decide +kernel)
  have hsc := hsc.put (q := p + 94) (k := 3) (v := some (p + 128)) (by omega)
  have him := him.put (a := p + 94) (k := 3) (v := some (p + 128)) (by omega)
  have ht0 := (show gI (sR M26 (p + 94) 3 (some (p + 128))) (p + 122) = fn10 from ht0)
  have ht1 := (show gI (sR M26 (p + 94) 3 (some (p + 128))) (p + 124) = fn10 from ht1)
  have ht2 := (show gI (sR M26 (p + 94) 3 (some (p + 128))) (p + 126) = fn10 from ht2)
  have ht3 := (show gI (sR M26 (p + 94) 3 (some (p + 128))) (p + 128) = fn10 from ht3)
  generalize sR M26 (p + 94) 3 (some (p + 128)) = M27 at h hsc him ht0 ht1 ht2 ht3 ⊢
  refine v_iinc 1 dX11_init_131 rfl (by decide) rfl (by decide) ?_
  rw [show (3 : Int32) + 1 = 4 by decide]
  refine v_goto 113 dX11_init_134 (by decide) ?_
  refine v_iload_n dX11_init_113 rfl ?_
  refine v_iconst 4 dX11_init_114 (by decide) ?_
  refine v_icmp_ge 137 dX11_init_115 (by decide) (fun _ => ?_) (fun h4 => absurd (by decide) h4)
  refine v_vret dX11_init_137 rfl ?_
  exact ⟨rfl, h, hsc, him, ht0, ht1, ht2, ht3⟩
def lt12 : List (Nat × (Nat ⊕ (Nat × Nat))) := ((16, .inr (1, 120)) :: ((15, .inr (0, 4)) :: ((14, .inr (0, 4)) :: ((13, .inr (0, 6)) :: ((12, .inr (0, 16384)) :: ((11, .inr (0, 100)) :: ((10, .inr (0, 14)) :: ((9, .inr (0, 14)) :: ((8, .inr (0, 14)) :: ((7, .inr (0, 64)) :: ((6, .inr (0, 6)) :: ((5, .inr (0, 900)) :: ((4, .inr (3, 3)) :: ((3, .inr (0, 6360)) :: ((2, .inr (0, 2120)) :: ((1, .inr (0, 2120)) :: []))))))))))))))))
def lr12 : List (Nat × Nat × Nat) := ((0, 29, 16) :: ((0, 28, 15) :: ((0, 27, 14) :: ((0, 26, 13) :: ((0, 25, 12) :: ((0, 23, 11) :: ((0, 22, 10) :: ((0, 21, 9) :: ((0, 20, 8) :: ((0, 18, 7) :: ((0, 17, 6) :: ((0, 5, 5) :: ((0, 3, 4) :: ((0, 2, 3) :: ((0, 1, 2) :: ((0, 0, 1) :: []))))))))))))))))
def mz12 : List Nat := ((16 :: (15 :: (13 :: (12 :: (11 :: (10 :: (9 :: (8 :: (7 :: (6 :: (5 :: (4 :: (3 :: (2 :: (1 :: [])))))))))))))))).filter (fun e => decide (e ≠ 1))
def fn12 : Nat → Int32 := (uK (fun _ => 0) 15 (-1))
theorem c12_ini {p : Nat} (hp : gz M = p) : Ct G Y12_init 6 16 28233 [.ref p] (nw M (.inl 12)) (Rs none (fun M' => NwO 12 p 17 lt12 lr12 mz12 fn12 M M' ∧ (∀ j, j < 4 → gI M' (p + 14) j = -1) ∧ gI M' (p + 1) = bgK (fun _ => 0))) NX := by
  refine Ct.of k12_init.1 (Nat.le_of_ble_eq_true rfl) ?_
  have h := NwO.start hp 12
  generalize nw M (.inl 12) = M1 at h ⊢
  refine v_aload_n dX12_init_0 rfl ?_
  refine v_objInit dX12_init_1 ⟨l12_1, oI⟩ (Nat.le_of_ble_eq_true rfl) (Nat.le_of_ble_eq_true rfl) ?_
  refine v_aload_n dX12_init_4 rfl ?_
  refine v_sipush 2120 dX12_init_5 (by decide) ?_
  refine v_newa (kc := 15) (ks := 26113) (t := 0) (N := 2120) dX12_init_8 ⟨rfl, by decide⟩ A_0 ⟨by decide, rfl, by decide⟩ ?_
  rw [h.1]
  have h := h.arr (.inr (0, 2120))
  refine v_putR 12 0 dX12_init_10 f12_9 h.own (by decide) (by decide) ?_
  have h := h.put0 0 1 (by decide)
  generalize sR (nw M1 (.inr (0, 2120))) p 0 (some (p + 1)) = M2 at h ⊢
  refine v_aload_n dX12_init_13 rfl ?_
  refine v_sipush 2120 dX12_init_14 (by decide) ?_
  refine v_newa (kc := 14) (ks := 23993) (t := 0) (N := 2120) dX12_init_17 ⟨rfl, by decide⟩ A_0 ⟨by decide, rfl, by decide⟩ ?_
  rw [h.1]
  have h := h.arr (.inr (0, 2120))
  refine v_putR 12 1 dX12_init_19 f12_13 h.own (by decide) (by decide) ?_
  have h := h.put0 1 2 (by decide)
  generalize sR (nw M2 (.inr (0, 2120))) p 1 (some (p + 2)) = M3 at h ⊢
  refine v_aload_n dX12_init_22 rfl ?_
  refine v_sipush 6360 dX12_init_23 (by decide) ?_
  refine v_newa (kc := 13) (ks := 17633) (t := 0) (N := 6360) dX12_init_26 ⟨rfl, by decide⟩ A_0 ⟨by decide, rfl, by decide⟩ ?_
  rw [h.1]
  have h := h.arr (.inr (0, 6360))
  refine v_putR 12 2 dX12_init_28 f12_16 h.own (by decide) (by decide) ?_
  have h := h.put0 2 3 (by decide)
  generalize sR (nw M3 (.inr (0, 6360))) p 2 (some (p + 3)) = M4 at h ⊢
  refine v_aload_n dX12_init_31 rfl ?_
  refine v_iconst 3 dX12_init_32 (by decide) ?_
  refine v_newa (kc := 12) (ks := 17630) (t := 3) (N := 3) dX12_init_33 ⟨rfl, by decide⟩ A_3 ⟨by decide, rfl, by decide⟩ ?_
  rw [h.1]
  have h := h.arr (.inr (3, 3))
  refine v_putR 12 3 dX12_init_35 f12_19 h.own (by decide) (by decide) ?_
  have h := h.put0 3 4 (by decide)
  generalize sR (nw M4 (.inr (3, 3))) p 3 (some (p + 4)) = M5 at h ⊢
  refine v_aload_n dX12_init_38 rfl ?_
  refine v_sipush 900 dX12_init_39 (by decide) ?_
  refine v_newa (kc := 11) (ks := 16730) (t := 0) (N := 900) dX12_init_42 ⟨rfl, by decide⟩ A_0 ⟨by decide, rfl, by decide⟩ ?_
  rw [h.1]
  have h := h.arr (.inr (0, 900))
  refine v_putR 12 5 dX12_init_44 f12_23 h.own (by decide) (by decide) ?_
  have h := h.put0 5 5 (by decide)
  generalize sR (nw M5 (.inr (0, 900))) p 5 (some (p + 5)) = M6 at h ⊢
  refine v_aload_n dX12_init_47 rfl ?_
  refine v_iconst (-1) dX12_init_48 (by decide) ?_
  refine v_putI 12 15 dX12_init_49 f12_26 h.own (by decide) ?_
  have h := h.si 15 (-1) (by decide)
  generalize sI M6 p 15 (-1) = M7 at h ⊢
  refine v_aload_n dX12_init_52 rfl ?_
  refine v_bipush 6 dX12_init_53 (by decide) ?_
  refine v_newa (kc := 10) (ks := 16724) (t := 0) (N := 6) dX12_init_55 ⟨rfl, by decide⟩ A_0 ⟨by decide, rfl, by decide⟩ ?_
  rw [h.1]
  have h := h.arr (.inr (0, 6))
  refine v_putR 12 17 dX12_init_57 f12_30 h.own (by decide) (by decide) ?_
  have h := h.put0 17 6 (by decide)
  generalize sR (nw M7 (.inr (0, 6))) p 17 (some (p + 6)) = M8 at h ⊢
  refine v_aload_n dX12_init_60 rfl ?_
  refine v_bipush 64 dX12_init_61 (by decide) ?_
  refine v_newa (kc := 9) (ks := 16660) (t := 0) (N := 64) dX12_init_63 ⟨rfl, by decide⟩ A_0 ⟨by decide, rfl, by decide⟩ ?_
  rw [h.1]
  have h := h.arr (.inr (0, 64))
  refine v_putR 12 18 dX12_init_65 f12_33 h.own (by decide) (by decide) ?_
  have h := h.put0 18 7 (by decide)
  generalize sR (nw M8 (.inr (0, 64))) p 18 (some (p + 7)) = M9 at h ⊢
  refine v_aload_n dX12_init_68 rfl ?_
  refine v_bipush 14 dX12_init_69 (by decide) ?_
  refine v_newa (kc := 8) (ks := 16646) (t := 0) (N := 14) dX12_init_71 ⟨rfl, by decide⟩ A_0 ⟨by decide, rfl, by decide⟩ ?_
  rw [h.1]
  have h := h.arr (.inr (0, 14))
  refine v_putR 12 20 dX12_init_73 f12_36 h.own (by decide) (by decide) ?_
  have h := h.put0 20 8 (by decide)
  generalize sR (nw M9 (.inr (0, 14))) p 20 (some (p + 8)) = M10 at h ⊢
  refine v_aload_n dX12_init_76 rfl ?_
  refine v_bipush 14 dX12_init_77 (by decide) ?_
  refine v_newa (kc := 7) (ks := 16632) (t := 0) (N := 14) dX12_init_79 ⟨rfl, by decide⟩ A_0 ⟨by decide, rfl, by decide⟩ ?_
  rw [h.1]
  have h := h.arr (.inr (0, 14))
  refine v_putR 12 21 dX12_init_81 f12_39 h.own (by decide) (by decide) ?_
  have h := h.put0 21 9 (by decide)
  generalize sR (nw M10 (.inr (0, 14))) p 21 (some (p + 9)) = M11 at h ⊢
  refine v_aload_n dX12_init_84 rfl ?_
  refine v_bipush 14 dX12_init_85 (by decide) ?_
  refine v_newa (kc := 6) (ks := 16618) (t := 0) (N := 14) dX12_init_87 ⟨rfl, by decide⟩ A_0 ⟨by decide, rfl, by decide⟩ ?_
  rw [h.1]
  have h := h.arr (.inr (0, 14))
  refine v_putR 12 22 dX12_init_89 f12_42 h.own (by decide) (by decide) ?_
  have h := h.put0 22 10 (by decide)
  generalize sR (nw M11 (.inr (0, 14))) p 22 (some (p + 10)) = M12 at h ⊢
  refine v_aload_n dX12_init_92 rfl ?_
  refine v_bipush 100 dX12_init_93 (by decide) ?_
  refine v_newa (kc := 5) (ks := 16518) (t := 0) (N := 100) dX12_init_95 ⟨rfl, by decide⟩ A_0 ⟨by decide, rfl, by decide⟩ ?_
  rw [h.1]
  have h := h.arr (.inr (0, 100))
  refine v_putR 12 23 dX12_init_97 f12_45 h.own (by decide) (by decide) ?_
  have h := h.put0 23 11 (by decide)
  generalize sR (nw M12 (.inr (0, 100))) p 23 (some (p + 11)) = M13 at h ⊢
  refine v_aload_n dX12_init_100 rfl ?_
  refine v_sipush 16384 dX12_init_101 (by decide) ?_
  refine v_newa (kc := 4) (ks := 134) (t := 0) (N := 16384) dX12_init_104 ⟨rfl, by decide⟩ A_0 ⟨by decide, rfl, by decide⟩ ?_
  rw [h.1]
  have h := h.arr (.inr (0, 16384))
  refine v_putR 12 25 dX12_init_106 f12_48 h.own (by decide) (by decide) ?_
  have h := h.put0 25 12 (by decide)
  generalize sR (nw M13 (.inr (0, 16384))) p 25 (some (p + 12)) = M14 at h ⊢
  refine v_aload_n dX12_init_109 rfl ?_
  refine v_bipush 6 dX12_init_110 (by decide) ?_
  refine v_newa (kc := 3) (ks := 128) (t := 0) (N := 6) dX12_init_112 ⟨rfl, by decide⟩ A_0 ⟨by decide, rfl, by decide⟩ ?_
  rw [h.1]
  have h := h.arr (.inr (0, 6))
  refine v_putR 12 26 dX12_init_114 f12_51 h.own (by decide) (by decide) ?_
  have h := h.put0 26 13 (by decide)
  generalize sR (nw M14 (.inr (0, 6))) p 26 (some (p + 13)) = M15 at h ⊢
  refine v_aload_n dX12_init_117 rfl ?_
  refine v_iconst 4 dX12_init_118 (by decide) ?_
  refine v_newa (kc := 2) (ks := 124) (t := 0) (N := 4) dX12_init_119 ⟨rfl, by decide⟩ A_0 ⟨by decide, rfl, by decide⟩ ?_
  rw [h.1]
  have h := (h.arr (.inr (0, 4))).lz
  generalize nw M15 (.inr (0, 4)) = M16 at h ⊢
  have hT := (h.t 14 (.inr (0, 4)) (by decide +kernel))
  refine v_dup dX12_init_121 rfl ?_
  refine v_iconst 0 dX12_init_122 (by decide) ?_
  refine v_iconst (-1) dX12_init_123 (by decide) ?_
  refine v_iast dX12_init_124 hT (vp_in_iff.mpr (by decide)) ?_
  rw [show (0 : Int32).toNatClampNeg = 0 by decide]
  have h := h.sx 14 (k := 0) (v := -1) (by decide) (by decide +kernel)
  have hj0 := gI_ss M16 (p + 14) 0 (-1)
  have hT := (show gT (sI M16 (p + 14) 0 (-1)) (p + 14) = .inr (0, 4) from hT)
  generalize sI M16 (p + 14) 0 (-1) = M17 at h hT hj0 ⊢
  refine v_dup dX12_init_125 rfl ?_
  refine v_iconst 1 dX12_init_126 (by decide) ?_
  refine v_iconst (-1) dX12_init_127 (by decide) ?_
  refine v_iast dX12_init_128 hT (vp_in_iff.mpr (by decide)) ?_
  rw [show (1 : Int32).toNatClampNeg = 1 by decide]
  have h := h.sx 14 (k := 1) (v := -1) (by decide) (by decide +kernel)
  have hj1 := gI_ss M17 (p + 14) 1 (-1)
  have hT := (show gT (sI M17 (p + 14) 1 (-1)) (p + 14) = .inr (0, 4) from hT)
  have hj0 := (gI_sk M17 (q := p + 14) (k := 1) (j := 0) (-1) (by decide)).trans hj0
  generalize sI M17 (p + 14) 1 (-1) = M18 at h hT hj0 hj1 ⊢
  refine v_dup dX12_init_129 rfl ?_
  refine v_iconst 2 dX12_init_130 (by decide) ?_
  refine v_iconst (-1) dX12_init_131 (by decide) ?_
  refine v_iast dX12_init_132 hT (vp_in_iff.mpr (by decide)) ?_
  rw [show (2 : Int32).toNatClampNeg = 2 by decide]
  have h := h.sx 14 (k := 2) (v := -1) (by decide) (by decide +kernel)
  have hj2 := gI_ss M18 (p + 14) 2 (-1)
  have hT := (show gT (sI M18 (p + 14) 2 (-1)) (p + 14) = .inr (0, 4) from hT)
  have hj0 := (gI_sk M18 (q := p + 14) (k := 2) (j := 0) (-1) (by decide)).trans hj0
  have hj1 := (gI_sk M18 (q := p + 14) (k := 2) (j := 1) (-1) (by decide)).trans hj1
  generalize sI M18 (p + 14) 2 (-1) = M19 at h hT hj0 hj1 hj2 ⊢
  refine v_dup dX12_init_133 rfl ?_
  refine v_iconst 3 dX12_init_134 (by decide) ?_
  refine v_iconst (-1) dX12_init_135 (by decide) ?_
  refine v_iast dX12_init_136 hT (vp_in_iff.mpr (by decide)) ?_
  rw [show (3 : Int32).toNatClampNeg = 3 by decide]
  have h := h.sx 14 (k := 3) (v := -1) (by decide) (by decide +kernel)
  have hj3 := gI_ss M19 (p + 14) 3 (-1)
  have hT := (show gT (sI M19 (p + 14) 3 (-1)) (p + 14) = .inr (0, 4) from hT)
  have hj0 := (gI_sk M19 (q := p + 14) (k := 3) (j := 0) (-1) (by decide)).trans hj0
  have hj1 := (gI_sk M19 (q := p + 14) (k := 3) (j := 1) (-1) (by decide)).trans hj1
  have hj2 := (gI_sk M19 (q := p + 14) (k := 3) (j := 2) (-1) (by decide)).trans hj2
  generalize sI M19 (p + 14) 3 (-1) = M20 at h hT hj0 hj1 hj2 hj3 ⊢
  have hj : ∀ j, j < 4 → gI M20 (p + 14) j = -1 := fun j hj => by
    obtain rfl | rfl | rfl | rfl : j = 0 ∨ j = 1 ∨ j = 2 ∨ j = 3 := by omega
    · exact hj0
    · exact hj1
    · exact hj2
    · exact hj3
  clear hj0 hj1 hj2 hj3 hT
  refine v_putR 12 27 dX12_init_137 f12_54 h.own (by decide) (by decide) ?_
  have h := h.put0 27 14 (by decide +kernel)
  have hj := (show ∀ j, j < 4 → gI (sR M20 p 27 (some (p + 14))) (p + 14) j = -1 from hj)
  generalize sR M20 p 27 (some (p + 14)) = M21 at h hj ⊢
  have hz := h.1
  refine v_aload_n dX12_init_140 rfl ?_
  refine v_iconst 4 dX12_init_141 (by decide) ?_
  refine v_newa (kc := 1) (ks := 120) (t := 0) (N := 4) dX12_init_142 ⟨rfl, by decide⟩ A_0 ⟨by decide, rfl, by decide⟩ ?_
  rw [h.1]
  have h := h.arr (.inr (0, 4))
  refine v_putR 12 28 dX12_init_144 f12_57 h.own (by decide) (by decide) ?_
  have h := h.put0 28 15 (by decide)
  have hj := (fun j (hj4 : j < 4) => (show gI (sR (nw M21 (.inr (0, 4))) p 28 (some (p + 15))) (p + 14) j = -1 from (congrFun ((Old.nw (M := M21) (z := p + 15) (by omega) (.inr (0, 4))) (p + 14) (by omega)).2.1 j).trans (hj j hj4)))
  generalize sR (nw M21 (.inr (0, 4))) p 28 (some (p + 15)) = M22 at h hj ⊢
  have hz := h.1
  refine v_aload_n dX12_init_147 rfl ?_
  refine v_bipush 120 dX12_init_148 (by decide) ?_
  refine v_newa (kc := 0) (ks := 0) (t := 1) (N := 120) dX12_init_150 ⟨rfl, by decide⟩ A_1 ⟨by decide, rfl, by decide⟩ ?_
  rw [h.1]
  have h := h.arr (.inr (1, 120))
  refine v_putR 12 29 dX12_init_152 f12_60 h.own (by decide) (by decide) ?_
  have h := h.put0 29 16 (by decide)
  have hj := (fun j (hj4 : j < 4) => (show gI (sR (nw M22 (.inr (1, 120))) p 29 (some (p + 16))) (p + 14) j = -1 from (congrFun ((Old.nw (M := M22) (z := p + 16) (by omega) (.inr (1, 120))) (p + 14) (by omega)).2.1 j).trans (hj j hj4)))
  generalize sR (nw M22 (.inr (1, 120))) p 29 (some (p + 16)) = M23 at h hj ⊢
  have hT := (h.t 1 (.inr (0, 2120)) (by decide +kernel))
  have h0 := (h.2.2.2.2.2.2.2 1 (by decide +kernel)).2
  refine v_aload_n dX12_init_155 rfl ?_
  refine v_getR 12 0 _ dX12_init_156 f12_9 h.own (by decide) (h.2.2.2.2.2.2.1 (0, 0, 1) (by decide +kernel)).2 ?_
  refine v_scSv (kc := 0) (ks := 0) [.ref (p + 1)] (c12_tellsAt G M23 hT) k12_tellsNothing dX12_init_159 l12_64 rfl (Nat.le_of_ble_eq_true rfl) (Nat.le_of_ble_eq_true rfl) ?_
  rintro M' ⟨⟨z1, z2, z3, z4, z5⟩, eK⟩
  refine v_vret dX12_init_162 rfl ?_
  have row : ∀ q, q ≠ p + 1 → gI M' q = gI M23 q := fun q hq => funext fun k => z5 q k (nbeq_f hq)
  refine ⟨rfl, ⟨z1.trans h.1, h.2.1, fun q hq => ?_, by rw [z2]; exact h.own, (row p (by omega)).trans h.2.2.2.2.1, fun e he => by rw [z2]; exact h.2.2.2.2.2.1 e he, fun e he => by rw [z4]; exact h.2.2.2.2.2.2.1 e he, fun e he => ?_⟩, fun j hj4 => by rw [row (p + 14) (by omega)]; exact hj j hj4, ?_⟩
  · obtain ⟨a1, a2, a3, a4⟩ := h.2.2.1 q hq
    exact ⟨by rw [z2]; exact a1, (row q (by omega)).trans a2, fun k => by rw [z3]; exact a3 k, fun k => by rw [z4]; exact a4 k⟩
  · obtain ⟨g1, g2⟩ := List.mem_filter.mp he
    have := h.2.2.2.2.2.2.2 e g1
    exact ⟨this.1, fun j => by rw [row _ (by have := of_decide_eq_true g2; omega)]; exact this.2 j⟩
  · rw [eK]
    exact congrArg bgK (funext h0)
end INI3
