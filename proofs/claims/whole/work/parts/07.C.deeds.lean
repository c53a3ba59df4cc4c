/-! ===== the reference: deeds, on what it knows ===== -/
def uK (K : Nat → Int32) (i : Nat) (v : Int32) : Nat → Int32 := fun j => if j = i then v else K j
def cpK (K : Nat → Int32) (a : Nat) (f : Nat → Int32) (n : Nat) : Nat → Int32 := fun i => if a ≤ i ∧ i < a + n then f (i - a) else K i
theorem uK_s (K : Nat → Int32) (i : Nat) (v : Int32) : uK K i v i = v := if_pos rfl
theorem uK_n (K : Nat → Int32) {i j : Nat} (v : Int32) (h : j ≠ i) : uK K i v j = K j := if_neg h
theorem cpK_in {K : Nat → Int32} {a n i : Nat} {f : Nat → Int32} (h : a ≤ i) (h2 : i < a + n) : cpK K a f n i = f (i - a) := if_pos ⟨h, h2⟩
theorem cpK_out {K : Nat → Int32} {a n i : Nat} {f : Nat → Int32} (h : i < a ∨ a + n ≤ i) : cpK K a f n i = K i := if_neg (by omega)
theorem gI_uK (M : mM) (q i : Nat) (v : Int32) : gI (sI M q i v) q = uK (gI M q) i v := by
  funext j
  rw [gI_sI]
  simp [up2, uK]
theorem uK_cpK (K : Nat → Int32) (a : Nat) (f : Nat → Int32) (n : Nat) : uK (cpK K a f n) (a + n) (f n) = cpK K a f (n + 1) := by
  funext i
  unfold uK cpK
  by_cases h : i = a + n
  · subst h
    rw [if_pos rfl, if_pos (by omega)]
    congr 1; omega
  · rw [if_neg h]
    by_cases h2 : a ≤ i ∧ i < a + n
    · rw [if_pos h2, if_pos (by omega)]
    · rw [if_neg h2, if_neg (by omega)]
theorem cpK_0 (K : Nat → Int32) (a : Nat) (f : Nat → Int32) : cpK K a f 0 = K := by funext i; exact if_neg (by omega)
def W231 (q _k : Nat) : Bool := Nat.beq q 231
def W241 (q _k : Nat) : Bool := Nat.beq q 241
/-- the first place with p, as an int; -1 -/
def fstF (p : Nat → Bool) : Nat → Nat → Int32
  | 0, _ => -1
  | n + 1, k => if p k = true then nI k else fstF p n (k + 1)
def fstI (K : Nat → Int32) : Int32 := fstF (fun c => (kn K 93).testBit c) (kn K 2) 0
def behF (p : Nat → Bool) (nc c : Nat) : Nat → Nat → Int32
  | 0, _ => -1
  | n + 1, k => if p ((c + k) % nc) = true then nI ((c + k) % nc) else behF p nc c n (k + 1)
def behI (K : Nat → Int32) (c : Nat) : Int32 := behF (fun c => (kn K 93).testBit c) (kn K 2) c (kn K 2) 1
def noCl (K : Nat → Int32) : Nat → Int32 := cpK K 97 (fun _ => -1) 6
def kep1 (K : Nat → Int32) : Nat → Int32 := if K 8 = 10 then uK (cpK K 155 (fun j => K (255 + j)) 900) 8 (nI 9) else K
def kepK (K : Nat → Int32) : Nat → Int32 := uK (cpK (kep1 K) (155 + 100 * kn (kep1 K) 8) (fun j => kep1 K (9 + j)) 100) 8 (nI (kn (kep1 K) 8 + 1))
section RC
variable (G : mG) (M : mM)
theorem l12_firstIn (hS : Sh M) (hP : WP (gI M 231)) (hI : inOK (gI M 231)) : ∀ n c, c + n = kn (gI M 231) 2 → V G Y12_firstIn 2 0 0 (Rv (some (.int (fstF (fun c => (kn (gI M 231) 93).testBit c) n c))) M) NX 2 [some (.ref 230), some (.int (nI c))] [] M := by
  have h14 := hP.2.1.2
  intro n
  induction n with
  | zero =>
    intro c hc
    obtain rfl : c = kn (gI M 231) 2 := by omega
    refine v_iload_n dX12_firstIn_2 rfl ?_
    refine v_aload_n dX12_firstIn_3 rfl ?_
    -- at 4: .invokevirtual 245
    refine v_cV [] (c12_chests G M hS) k12_chests dX12_firstIn_4 l12_245 (by first | exact hS.1 _ _ rfl | exact hS'.1 _ _ rfl | assumption) (by decide) rfl (Nat.le_of_ble_eq_true rfl) (Nat.le_of_ble_eq_true rfl) ?_
    rw [hP.2.1.1]
    refine v_icmp_ge 26 dX12_firstIn_7 (by decide) (fun hc2 => ?_) (fun hc2 => ?_)
    · refine v_iconst (-1) dX12_firstIn_26 (by decide) ?_
      -- at 27: .ireturn
      refine v_iret dX12_firstIn_27 rfl ⟨rfl, rfl⟩
    · exact absurd (nI_le (Nat.le_refl _) (by omega)) hc2
  | succ n ih =>
    intro c hc
    refine v_iload_n dX12_firstIn_2 rfl ?_
    refine v_aload_n dX12_firstIn_3 rfl ?_
    -- at 4: .invokevirtual 245
    refine v_cV [] (c12_chests G M hS) k12_chests dX12_firstIn_4 l12_245 (by first | exact hS.1 _ _ rfl | exact hS'.1 _ _ rfl | assumption) (by decide) rfl (Nat.le_of_ble_eq_true rfl) (Nat.le_of_ble_eq_true rfl) ?_
    rw [hP.2.1.1]
    refine v_icmp_ge 26 dX12_firstIn_7 (by decide) (fun hc2 => ?_) (fun hc2 => ?_)
    · exact absurd ((nI_leI (by omega) (by omega)).mp hc2) (by omega)
    refine v_aload_n dX12_firstIn_10 rfl ?_
    refine v_iload_n dX12_firstIn_11 rfl ?_
    -- at 12: .invokevirtual 250
    refine v_cV [_] (c12_isInN G M hS hP hI (c := c) (by omega)) k12_isIn dX12_firstIn_12 l12_250 (by first | exact hS.1 _ _ rfl | exact hS'.1 _ _ rfl | assumption) (by decide) rfl (Nat.le_of_ble_eq_true rfl) (Nat.le_of_ble_eq_true rfl) ?_
    by_cases hb : (kn (gI M 231) 93).testBit c = true
    · rw [bI_t hb]
      refine v_if_eq 20 dX12_firstIn_15 (by decide) (fun h15 => ?_) (fun h15 => ?_)
      · exact absurd h15 (by decide)
      · refine v_iload_n dX12_firstIn_18 rfl ?_
        -- at 19: .ireturn
        refine v_iret dX12_firstIn_19 rfl ⟨by rw [fstF, if_pos hb], rfl⟩
    · rw [bI_f hb]
      refine v_if_eq 20 dX12_firstIn_15 (by decide) (fun h15 => ?_) (fun h15 => ?_)
      · refine v_iinc 1 dX12_firstIn_20 rfl (by decide) rfl (by decide) ?_
        refine v_goto 2 dX12_firstIn_23 (by decide) ?_
        -- at 2: .iload_n 1
        rw [nI_1, show fstF (fun c => (kn (gI M 231) 93).testBit c) (n + 1) c = fstF (fun c => (kn (gI M 231) 93).testBit c) n (c + 1) from if_neg hb]
        exact ih (c + 1) (by omega)
      · exact absurd rfl h15
theorem c12_firstIn (hS : Sh M) (hP : WP (gI M 231)) (hI : inOK (gI M 231)) : Ct G Y12_firstIn 2 0 0 [.ref 230] M (Rv (some (.int (fstI (gI M 231)))) M) NX := by
  refine Ct.of k12_firstIn.1 (Nat.le_of_ble_eq_true rfl) ?_
  refine v_iconst 0 dX12_firstIn_0 (by decide) ?_
  refine v_istore_n dX12_firstIn_1 rfl (by decide) ?_
  -- at 2: .iload_n 1
  exact l12_firstIn G M hS hP hI (kn (gI M 231) 2) 0 (by omega)
theorem l12_inBehind (hS : Sh M) (hP : WP (gI M 231)) (hI : inOK (gI M 231)) {c : Nat} (hc : c < kn (gI M 231) 2) : ∀ n k, k + n = kn (gI M 231) 2 + 1 → V G Y12_inBehind 2 0 0 (Rv (some (.int (behF (fun c => (kn (gI M 231) 93).testBit c) (kn (gI M 231) 2) c n k))) M) NX 2 [some (.ref 230), some (.int (nI c)), some (.int (nI k))] [] M := by
  have h14 := hP.2.1.2
  have hne : ¬ nI (kn (gI M 231) 2) = 0 := fun z => by have := (nI0 (by omega)).mp z; omega
  intro n
  induction n with
  | zero =>
    intro k hk
    obtain rfl : k = kn (gI M 231) 2 + 1 := by omega
    refine v_iload_n dX12_inBehind_2 rfl ?_
    refine v_aload_n dX12_inBehind_3 rfl ?_
    -- at 4: .invokevirtual 245
    refine v_cV [] (c12_chests G M hS) k12_chests dX12_inBehind_4 l12_245 (by first | exact hS.1 _ _ rfl | exact hS'.1 _ _ rfl | assumption) (by decide) rfl (Nat.le_of_ble_eq_true rfl) (Nat.le_of_ble_eq_true rfl) ?_
    rw [hP.2.1.1]
    refine v_icmp_gt 40 dX12_inBehind_7 (by decide) (fun hc2 => ?_) (fun hc2 => ?_)
    · refine v_iconst (-1) dX12_inBehind_40 (by decide) ?_
      -- at 41: .ireturn
      refine v_iret dX12_inBehind_41 rfl ⟨rfl, rfl⟩
    · exact absurd (nI_lt (by omega) (by omega)) hc2
  | succ n ih =>
    intro k hk
    have hm := Nat.mod_lt (c + k) (show 0 < kn (gI M 231) 2 by omega)
    refine v_iload_n dX12_inBehind_2 rfl ?_
    refine v_aload_n dX12_inBehind_3 rfl ?_
    -- at 4: .invokevirtual 245
    refine v_cV [] (c12_chests G M hS) k12_chests dX12_inBehind_4 l12_245 (by first | exact hS.1 _ _ rfl | exact hS'.1 _ _ rfl | assumption) (by decide) rfl (Nat.le_of_ble_eq_true rfl) (Nat.le_of_ble_eq_true rfl) ?_
    rw [hP.2.1.1]
    refine v_icmp_gt 40 dX12_inBehind_7 (by decide) (fun hc2 => ?_) (fun hc2 => ?_)
    · exact absurd ((nI_ltI (by omega) (by omega)).mp hc2) (by omega)
    refine v_aload_n dX12_inBehind_10 rfl ?_
    refine v_iload_n dX12_inBehind_11 rfl ?_
    refine v_iload_n dX12_inBehind_12 rfl ?_
    refine v_iadd dX12_inBehind_13 ?_
    refine v_aload_n dX12_inBehind_14 rfl ?_
    -- at 15: .invokevirtual 245
    refine v_cV [] (c12_chests G M hS) k12_chests dX12_inBehind_15 l12_245 (by first | exact hS.1 _ _ rfl | exact hS'.1 _ _ rfl | assumption) (by decide) rfl (Nat.le_of_ble_eq_true rfl) (Nat.le_of_ble_eq_true rfl) ?_
    rw [hP.2.1.1]
    refine v_irem dX12_inBehind_18 hne ?_
    rw [nI_add, pk_rem (by omega) (by omega) (by omega)]
    refine v_cV [_] (c12_isInN G M hS hP hI (c := (c + k) % kn (gI M 231) 2) (by omega)) k12_isIn dX12_inBehind_19 l12_250 (by first | exact hS.1 _ _ rfl | exact hS'.1 _ _ rfl | assumption) (by decide) rfl (Nat.le_of_ble_eq_true rfl) (Nat.le_of_ble_eq_true rfl) ?_
    by_cases hb : (kn (gI M 231) 93).testBit ((c + k) % kn (gI M 231) 2) = true
    · rw [bI_t hb]
      refine v_if_eq 34 dX12_inBehind_22 (by decide) (fun h22 => ?_) (fun h22 => ?_)
      · exact absurd h22 (by decide)
      · refine v_iload_n dX12_inBehind_25 rfl ?_
        refine v_iload_n dX12_inBehind_26 rfl ?_
        refine v_iadd dX12_inBehind_27 ?_
        refine v_aload_n dX12_inBehind_28 rfl ?_
        -- at 29: .invokevirtual 245
        refine v_cV [] (c12_chests G M hS) k12_chests dX12_inBehind_29 l12_245 (by first | exact hS.1 _ _ rfl | exact hS'.1 _ _ rfl | assumption) (by decide) rfl (Nat.le_of_ble_eq_true rfl) (Nat.le_of_ble_eq_true rfl) ?_
        rw [hP.2.1.1]
        refine v_irem dX12_inBehind_32 hne ?_
        rw [nI_add, pk_rem (by omega) (by omega) (by omega)]
        refine v_iret dX12_inBehind_33 rfl ⟨by rw [behF, if_pos hb], rfl⟩
    · rw [bI_f hb]
      refine v_if_eq 34 dX12_inBehind_22 (by decide) (fun h22 => ?_) (fun h22 => ?_)
      · refine v_iinc 1 dX12_inBehind_34 rfl (by decide) rfl (by decide) ?_
        refine v_goto 2 dX12_inBehind_37 (by decide) ?_
        -- at 2: .iload_n 2
        rw [nI_1, show behF (fun c => (kn (gI M 231) 93).testBit c) (kn (gI M 231) 2) c (n + 1) k = behF (fun c => (kn (gI M 231) 93).testBit c) (kn (gI M 231) 2) c n (k + 1) from if_neg hb]
        exact ih (k + 1) (by omega)
      · exact absurd rfl h22
theorem c12_inBehind (hS : Sh M) (hP : WP (gI M 231)) (hI : inOK (gI M 231)) {c : Nat} (hc : c < kn (gI M 231) 2) : Ct G Y12_inBehind 2 0 0 [.ref 230, .int (nI c)] M (Rv (some (.int (behI (gI M 231) c))) M) NX := by
  refine Ct.of k12_inBehind.1 (Nat.le_of_ble_eq_true rfl) ?_
  refine v_iconst 1 dX12_inBehind_0 (by decide) ?_
  refine v_istore_n dX12_inBehind_1 rfl (by decide) ?_
  -- at 2: .iload_n 2
  exact l12_inBehind G M hS hP hI hc (kn (gI M 231) 2) 1 (by omega)
theorem l12_noClaims (hS : Sh M) : ∀ i p M', p + i = 6 → Sm W231 M M' → gI M' 231 = cpK (gI M 231) 97 (fun _ => -1) p → V G Y12_noClaims 0 0 0 (Rs none (fun M' => Sm W231 M M' ∧ gI M' 231 = noCl (gI M 231))) NX 2 [some (.ref 230), some (.int (nI p))] [] M' := by
  intro i
  induction i with
  | zero =>
    intro p M' hp hM e
    obtain rfl : p = 6 := by omega
    refine v_iload_n dX12_noClaims_2 rfl ?_
    refine v_bipush 6 dX12_noClaims_3 (by decide) ?_
    -- at 5: .if_icmp .ge 19
    refine v_icmp_ge 24 dX12_noClaims_5 (by decide) (fun hc => ?_) (fun hc => ?_)
    · refine v_vret dX12_noClaims_24 rfl ⟨rfl, hM, e⟩
    · exact absurd (by decide) hc
  | succ i ih =>
    intro p M' hp hM e
    have hS' := hS.sm hM
    refine v_iload_n dX12_noClaims_2 rfl ?_
    refine v_bipush 6 dX12_noClaims_3 (by decide) ?_
    -- at 5: .if_icmp .ge 19
    refine v_icmp_ge 24 dX12_noClaims_5 (by decide) (fun hc => ?_) (fun hc => ?_)
    · exact absurd ((nI_leI (a := 6) (by omega) (by omega)).mp hc) (by omega)
    · refine v_aload_n dX12_noClaims_8 rfl ?_
      refine v_getR 12 0 _ dX12_noClaims_9 f12_9 (by first | exact hS.1 _ _ rfl | exact hS'.1 _ _ rfl | assumption) (by decide) (by first | exact hS.2 _ _ _ rfl | exact hS'.2 _ _ _ rfl | assumption) ?_
      refine v_bipush 97 dX12_noClaims_12 (by decide) ?_
      refine v_iload_n dX12_noClaims_14 rfl ?_
      refine v_iadd dX12_noClaims_15 ?_
      refine v_iconst (-1) dX12_noClaims_16 (by decide) ?_
      -- at 17: .iastore
      refine v_iastN (97 + p) dX12_noClaims_17 (hS'.1 _ _ rfl) (by simp only [n_lit, nI_add]) ⟨by omega, by omega⟩ ?_
      refine v_iinc 1 dX12_noClaims_18 rfl (by decide) rfl (by decide) ?_
      refine v_goto 2 dX12_noClaims_21 (by decide) ?_
      -- at 2: .iload_n 1
      rw [nI_1]
      exact ih (p + 1) _ (by omega) (hM.st _ rfl) (by rw [gI_uK, e]; exact uK_cpK _ _ _ _)
theorem c12_noClaims (hS : Sh M) : Ct G Y12_noClaims 0 0 0 [.ref 230] M (Rs none (fun M' => Sm W231 M M' ∧ gI M' 231 = noCl (gI M 231))) NX := by
  refine Ct.of k12_noClaims.1 (Nat.le_of_ble_eq_true rfl) ?_
  refine v_iconst 0 dX12_noClaims_0 (by decide) ?_
  refine v_istore_n dX12_noClaims_1 rfl (by decide) ?_
  -- at 2: .iload_n 1
  exact l12_noClaims G M hS 6 0 M (by omega) Sm.rf (cpK_0 _ _ _).symm
theorem l12_keeps1 {Q : Option Value → mM → Prop} (hS : Sh M) (kk : ∀ M', Sm W231 M M' → gI M' 231 = cpK (gI M 231) 155 (fun j => gI M 231 (255 + j)) 900 → V G Y12_keeps 0 0 0 Q NX 44 [some (.ref 230), some (.int (nI 1055))] [] M') : ∀ i k M', k + i = 900 → Sm W231 M M' → gI M' 231 = cpK (gI M 231) 155 (fun j => gI M 231 (255 + j)) k → V G Y12_keeps 0 0 0 Q NX 16 [some (.ref 230), some (.int (nI (155 + k)))] [] M' := by
  intro i
  induction i with
  | zero =>
    intro k M' hk hM e
    obtain rfl : k = 900 := by omega
    refine v_iload_n dX12_keeps_16 rfl ?_
    refine v_sipush 1055 dX12_keeps_17 (by decide) ?_
    -- at 20: .if_icmp .ge 24
    refine v_icmp_ge 44 dX12_keeps_20 (by decide) (fun hc => ?_) (fun hc => ?_)
    · exact kk M' hM e
    · exact absurd (by decide) hc
  | succ i ih =>
    intro k M' hk hM e
    have hS' := hS.sm hM
    refine v_iload_n dX12_keeps_16 rfl ?_
    refine v_sipush 1055 dX12_keeps_17 (by decide) ?_
    -- at 20: .if_icmp .ge 24
    refine v_icmp_ge 44 dX12_keeps_20 (by decide) (fun hc => ?_) (fun hc => ?_)
    · exact absurd ((nI_leI (a := 1055) (by omega) (by omega)).mp hc) (by omega)
    · refine v_aload_n dX12_keeps_23 rfl ?_
      refine v_getR 12 0 _ dX12_keeps_24 f12_9 (by first | exact hS.1 _ _ rfl | exact hS'.1 _ _ rfl | assumption) (by decide) (by first | exact hS.2 _ _ _ rfl | exact hS'.2 _ _ _ rfl | assumption) ?_
      refine v_iload_n dX12_keeps_27 rfl ?_
      refine v_aload_n dX12_keeps_28 rfl ?_
      refine v_getR 12 0 _ dX12_keeps_29 f12_9 (by first | exact hS.1 _ _ rfl | exact hS'.1 _ _ rfl | assumption) (by decide) (by first | exact hS.2 _ _ _ rfl | exact hS'.2 _ _ _ rfl | assumption) ?_
      refine v_iload_n dX12_keeps_32 rfl ?_
      refine v_bipush 100 dX12_keeps_33 (by decide) ?_
      refine v_iadd dX12_keeps_35 ?_
      refine v_ialdN (155 + k + 100) dX12_keeps_36 (by first | exact hS.1 _ _ rfl | exact hS'.1 _ _ rfl | assumption) (by simp only [n_lit, pk_mul, nI_add]) ⟨by omega, by omega⟩ ?_
      -- at 37: .iastore
      rw [show gI M' 231 (155 + k + 100) = gI M 231 (255 + k) by rw [e, cpK_out (by omega)]; congr 1; omega]
      refine v_iastN (155 + k) dX12_keeps_37 (hS'.1 _ _ rfl) rfl ⟨by omega, by omega⟩ ?_
      refine v_iinc 1 dX12_keeps_38 rfl (by decide) rfl (by decide) ?_
      refine v_goto 16 dX12_keeps_41 (by decide) ?_
      -- at 16: .iload_n 1
      rw [nI_1]
      exact ih (k + 1) _ (by omega) (hM.st _ rfl) (by rw [gI_uK, e]; exact uK_cpK _ _ (fun j => gI M 231 (255 + j)) _)
theorem l12_keeps2 (hS : Sh M) {d : Nat} (hd : d < 10) (h8 : gI M 231 8 = nI d) : ∀ i k M', k + i = 100 → Sm W231 M M' → gI M' 231 = cpK (gI M 231) (155 + 100 * d) (fun j => gI M 231 (9 + j)) k → V G Y12_keeps 0 0 0 (Rs none (fun M' => Sm W231 M M' ∧ gI M' 231 = uK (cpK (gI M 231) (155 + 100 * d) (fun j => gI M 231 (9 + j)) 100) 8 (nI (d + 1)))) NX 57 [some (.ref 230), some (.int (nI k))] [] M' := by
  intro i
  induction i with
  | zero =>
    intro k M' hk hM e
    have hS' := hS.sm hM
    obtain rfl : k = 100 := by omega
    have e8 : gI M' 231 8 = nI d := by rw [e, cpK_out (by omega)]; exact h8
    refine v_iload_n dX12_keeps_57 rfl ?_
    refine v_bipush 100 dX12_keeps_58 (by decide) ?_
    -- at 60: .if_icmp .ge 39
    refine v_icmp_ge 99 dX12_keeps_60 (by decide) (fun hc => ?_) (fun hc => ?_)
    · refine v_aload_n dX12_keeps_99 rfl ?_
      refine v_getR 12 0 _ dX12_keeps_100 f12_9 (by first | exact hS.1 _ _ rfl | exact hS'.1 _ _ rfl | assumption) (by decide) (by first | exact hS.2 _ _ _ rfl | exact hS'.2 _ _ _ rfl | assumption) ?_
      refine v_bipush 8 dX12_keeps_103 (by decide) ?_
      refine v_dup2 dX12_keeps_105 rfl rfl ?_
      -- at 106: .iaload
      refine v_ialdN 8 dX12_keeps_106 (hS'.1 _ _ rfl) rfl (by decide) ?_
      rw [e8]
      refine v_iconst 1 dX12_keeps_107 (by decide) ?_
      refine v_iadd dX12_keeps_108 ?_
      -- at 109: .iastore
      rw [nI_1]
      refine v_iastN 8 dX12_keeps_109 (hS'.1 _ _ rfl) rfl (by decide) ?_
      refine v_vret dX12_keeps_110 rfl ⟨rfl, hM.st _ rfl, by rw [gI_uK, e]⟩
    · exact absurd (by decide) hc
  | succ i ih =>
    intro k M' hk hM e
    have hS' := hS.sm hM
    have e8 : gI M' 231 8 = nI d := by rw [e, cpK_out (by omega)]; exact h8
    refine v_iload_n dX12_keeps_57 rfl ?_
    refine v_bipush 100 dX12_keeps_58 (by decide) ?_
    -- at 60: .if_icmp .ge 39
    refine v_icmp_ge 99 dX12_keeps_60 (by decide) (fun hc => ?_) (fun hc => ?_)
    · exact absurd ((nI_leI (a := 100) (by omega) (by omega)).mp hc) (by omega)
    · refine v_aload_n dX12_keeps_63 rfl ?_
      refine v_getR 12 0 _ dX12_keeps_64 f12_9 (by first | exact hS.1 _ _ rfl | exact hS'.1 _ _ rfl | assumption) (by decide) (by first | exact hS.2 _ _ _ rfl | exact hS'.2 _ _ _ rfl | assumption) ?_
      refine v_sipush 155 dX12_keeps_67 (by decide) ?_
      refine v_bipush 100 dX12_keeps_70 (by decide) ?_
      refine v_aload_n dX12_keeps_72 rfl ?_
      refine v_getR 12 0 _ dX12_keeps_73 f12_9 (by first | exact hS.1 _ _ rfl | exact hS'.1 _ _ rfl | assumption) (by decide) (by first | exact hS.2 _ _ _ rfl | exact hS'.2 _ _ _ rfl | assumption) ?_
      refine v_bipush 8 dX12_keeps_76 (by decide) ?_
      refine v_ialdN 8 dX12_keeps_78 (by first | exact hS.1 _ _ rfl | exact hS'.1 _ _ rfl | assumption) rfl (by decide) ?_
      -- at 79: .imul
      rw [e8]
      refine v_imul dX12_keeps_79 ?_
      refine v_iadd dX12_keeps_80 ?_
      refine v_iload_n dX12_keeps_81 rfl ?_
      refine v_iadd dX12_keeps_82 ?_
      refine v_aload_n dX12_keeps_83 rfl ?_
      refine v_getR 12 0 _ dX12_keeps_84 f12_9 (by first | exact hS.1 _ _ rfl | exact hS'.1 _ _ rfl | assumption) (by decide) (by first | exact hS.2 _ _ _ rfl | exact hS'.2 _ _ _ rfl | assumption) ?_
      refine v_bipush 9 dX12_keeps_87 (by decide) ?_
      refine v_iload_n dX12_keeps_89 rfl ?_
      refine v_iadd dX12_keeps_90 ?_
      refine v_ialdN (9 + k) dX12_keeps_91 (by first | exact hS.1 _ _ rfl | exact hS'.1 _ _ rfl | assumption) (by simp only [n_lit, pk_mul, nI_add]) ⟨by omega, by omega⟩ ?_
      -- at 92: .iastore
      rw [show gI M' 231 (9 + k) = gI M 231 (9 + k) by rw [e, cpK_out (by omega)]]
      refine v_iastN (155 + 100 * d + k) dX12_keeps_92 (hS'.1 _ _ rfl) (by simp only [n_lit, pk_mul, nI_add]) ⟨by omega, by omega⟩ ?_
      refine v_iinc 1 dX12_keeps_93 rfl (by decide) rfl (by decide) ?_
      refine v_goto 57 dX12_keeps_96 (by decide) ?_
      -- at 57: .iload_n 1
      rw [nI_1]
      exact ih (k + 1) _ (by omega) (hM.st _ rfl) (by rw [gI_uK, e]; exact uK_cpK _ _ (fun j => gI M 231 (9 + j)) _)
theorem c12_keeps (hS : Sh M) (h8 : gI M 231 8 = nI (kn (gI M 231) 8)) (h10 : kn (gI M 231) 8 ≤ 10) : Ct G Y12_keeps 0 0 0 [.ref 230] M (Rs none (fun M' => Sm W231 M M' ∧ gI M' 231 = kepK (gI M 231))) NX := by
  have hkk : ∀ M', Sh M' → Sm W231 M M' → gI M' 231 = kep1 (gI M 231) → ∀ d, d < 10 → gI M' 231 8 = nI d → V G Y12_keeps 0 0 0 (Rs none (fun M' => Sm W231 M M' ∧ gI M' 231 = kepK (gI M 231))) NX 57 [some (.ref 230), some (.int (nI 0))] [] M' := by
    intro M' hS' hM e d hd hd8
    refine (l12_keeps2 G M' hS' hd hd8 100 0 M' (by omega) Sm.rf (cpK_0 _ _ _).symm).post (fun v M3 h => ?_) (fun _ _ h => h)
    refine ⟨h.1, hM.tr h.2.1, ?_⟩
    rw [h.2.2, kepK, ← e, show kn (gI M' 231) 8 = d by rw [kn, hd8, nI_clamp (by omega)]]
  refine Ct.of k12_keeps.1 (Nat.le_of_ble_eq_true rfl) ?_
  refine v_aload_n dX12_keeps_0 rfl ?_
  refine v_getR 12 0 _ dX12_keeps_1 f12_9 (by first | exact hS.1 _ _ rfl | exact hS'.1 _ _ rfl | assumption) (by decide) (by first | exact hS.2 _ _ _ rfl | exact hS'.2 _ _ _ rfl | assumption) ?_
  refine v_bipush 8 dX12_keeps_4 (by decide) ?_
  refine v_ialdN 8 dX12_keeps_6 (by first | exact hS.1 _ _ rfl | exact hS'.1 _ _ rfl | assumption) rfl (by decide) ?_
  refine v_bipush 10 dX12_keeps_7 (by decide) ?_
  -- at 9: .if_icmp .ne 46
  by_cases h : kn (gI M 231) 8 = 10
  · have hk8 : gI M 231 8 = 10 := by rw [h8, h]; rfl
    rw [hk8]
    refine v_icmp_ne 55 dX12_keeps_9 (by decide) (fun h9 => ?_) (fun h9 => ?_)
    · exact absurd rfl h9
    · refine v_sipush 155 dX12_keeps_12 (by decide) ?_
      refine v_istore_n dX12_keeps_15 rfl (by decide) ?_
      -- at 16: .iload_n 1
      refine l12_keeps1 G M hS (fun M' hM e => ?_) 900 0 M (by omega) Sm.rf (cpK_0 _ _ _).symm
      have hS' := hS.sm hM
      refine v_aload_n dX12_keeps_44 rfl ?_
      refine v_getR 12 0 _ dX12_keeps_45 f12_9 (by first | exact hS.1 _ _ rfl | exact hS'.1 _ _ rfl | assumption) (by decide) (by first | exact hS.2 _ _ _ rfl | exact hS'.2 _ _ _ rfl | assumption) ?_
      refine v_bipush 8 dX12_keeps_48 (by decide) ?_
      refine v_dup2 dX12_keeps_50 rfl rfl ?_
      -- at 51: .iaload
      refine v_ialdN 8 dX12_keeps_51 (hS'.1 _ _ rfl) rfl (by decide) ?_
      rw [show gI M' 231 8 = nI 10 by rw [e, cpK_out (by omega), hk8]; rfl]
      refine v_iconst 1 dX12_keeps_52 (by decide) ?_
      refine v_isub dX12_keeps_53 ?_
      -- at 54: .iastore
      refine v_iastN 8 dX12_keeps_54 (hS'.1 _ _ rfl) rfl (by decide) ?_
      refine v_iconst 0 dX12_keeps_55 (by decide) ?_
      refine v_istore_n dX12_keeps_56 rfl (by decide) ?_
      -- at 57: .iload_n 1
      refine hkk _ hS' (hM.st _ rfl) ?_ 9 (by omega) ?_
      · rw [gI_uK, e, kep1, if_pos hk8]; rfl
      · rw [gI_ss]; rfl
  · rw [h8]
    refine v_icmp_ne 55 dX12_keeps_9 (by decide) (fun h9 => ?_) (fun h9 => ?_)
    · refine v_iconst 0 dX12_keeps_55 (by decide) ?_
      refine v_istore_n dX12_keeps_56 rfl (by decide) ?_
      -- at 57: .iload_n 1
      have hne : ¬ gI M 231 8 = 10 := fun z => h ((nI_eq (a := kn (gI M 231) 8) (b := 10) (by omega) (by omega)).mp (h8.symm.trans z))
      exact hkk M hS Sm.rf (by rw [kep1, if_neg hne]) (kn (gI M 231) 8) (by omega) h8
    · exact absurd ((nI_eq (b := 10) (by omega) (by omega)).mp (Decidable.not_not.mp h9)) h
end RC
