/-! ===== the reference: the book ===== -/
theorem bI_z {p : Prop} [Decidable p] : bI p = 0 ↔ ¬ p := by
  unfold bI
  split <;> simp_all
theorem bI_lez {p : Prop} [Decidable p] : bI p ≤ 0 ↔ ¬ p := by
  unfold bI
  split <;> simp_all
theorem bI_1 {p : Prop} [Decidable p] : bI p = 1 ↔ p := by
  unfold bI
  split <;> simp_all
def prtP (K : Nat → Int32) (s a b : Nat) : Bool := (kn K 93).testBit a && (kn K 93).testBit b && decide ((trH K a ^^^ trH K b) &&& s = 0)
def prtI (K : Nat → Int32) (s a : Nat) : Nat → Nat → Bool
  | 0, _ => true
  | i + 1, b => !prtP K s a b && prtI K s a i (b + 1)
def prtO (K : Nat → Int32) (s : Nat) : Nat → Nat → Bool
  | 0, _ => true
  | i + 1, a => prtI K s a (kn K 2 - (a + 1)) (a + 1) && prtO K s i (a + 1)
def prtA (K : Nat → Int32) (s : Nat) : Bool := prtO K s (kn K 2) 0
def bkF (K : Nat → Int32) : Nat → Option Nat
  | 0 => none
  | s + 1 => match bkF K s with
    | none => if prtA K s = true then some s else none
    | some b => if pcn s < pcn b ∧ prtA K s = true then some s else some b
def encO (o : Option Nat) : Int32 := match o with
  | none => -1
  | some b => nI b
theorem bkF_lt {K : Nat → Int32} : ∀ n b, bkF K n = some b → b < n := by
  intro n
  induction n with
  | zero => intro b h; cases h
  | succ n ih =>
    intro b h
    simp only [bkF] at h
    split at h
    · split at h
      · cases h; omega
      · cases h
    · rename_i b0 h0
      split at h
      · cases h; omega
      · cases h; have := ih _ h0; omega
section RQ
variable (G : mG) (M : mM)
theorem c12_chestsN (hS : Sh M) (hP : WP (gI M 231)) : Ct G Y12_chests 0 0 0 [.ref 230] M (Rv (some (.int (nI (kn (gI M 231) 2)))) M) NX := by
  have h := c12_chests G M hS
  rw [hP.2.1.1] at h
  exact h
theorem c12_wordsN (hS : Sh M) (hP : WP (gI M 231)) : Ct G Y12_words 0 0 0 [.ref 230] M (Rv (some (.int (nI (kn (gI M 231) 3)))) M) NX := by
  have h := c12_words G M hS
  rw [hP.2.2.1.1] at h
  exact h
theorem l12_partsAll1 {R : Bool} (hS : Sh M) (hP : WP (gI M 231)) (hI : inOK (gI M 231)) (hH : HH M (gI M 231)) {s a : Nat} (hs : s < 1024) (ha : a < kn (gI M 231) 2) :
    ∀ i b, b + i = kn (gI M 231) 2 → (prtI (gI M 231) s a i b = false → R = false) → (prtI (gI M 231) s a i b = true → V G Y12_partsAll 2 0 0 (Rv (some (.int (bI (R = true)))) M) NX 64 [some (.ref 230), some (.int (nI s)), some (.int (nI a)), some (.int (nI (kn (gI M 231) 2)))] [] M) → V G Y12_partsAll 2 0 0 (Rv (some (.int (bI (R = true)))) M) NX 14 [some (.ref 230), some (.int (nI s)), some (.int (nI a)), some (.int (nI b))] [] M := by
  have h14 := hP.2.1.2
  have h231 : (16384 : Nat) < 2 ^ 31 := by decide
  intro i
  induction i with
  | zero =>
    intro b hb h1 h2
    obtain rfl : b = kn (gI M 231) 2 := by omega
    refine v_iload_n dX12_partsAll_14 rfl ?_
    refine v_aload_n dX12_partsAll_15 rfl ?_
    refine v_cV [] (c12_chestsN G M hS hP) k12_chests dX12_partsAll_16 l12_245 (by first | exact hS.1 _ _ rfl | exact hS'.1 _ _ rfl | assumption) (by decide) rfl (Nat.le_of_ble_eq_true rfl) (Nat.le_of_ble_eq_true rfl) ?_
    refine v_icmp_ge 64 dX12_partsAll_19 (by decide) (fun h19 => ?_) (fun h19 => ?_)
    · exact h2 rfl
    · (exfalso; (try simp (disch := omega) only [nI_leI, nI_ltI, nI_eq, nI0, bI_z, Decidable.not_not] at h19); omega)
  | succ i ih =>
    intro b hb h1 h2
    have e1 := (hH.hold hP a ha)
    have e2 := (hH.hold hP b (by omega))
    have e3 : (trH (gI M 231) a ^^^ trH (gI M 231) b) &&& s ≤ s := Nat.and_le_right
    have e4 : prtI (gI M 231) s a (i + 1) b = (!prtP (gI M 231) s a b && prtI (gI M 231) s a i (b + 1)) := rfl
    rw [e4] at h1 h2
    have go : prtP (gI M 231) s a b = false → V G Y12_partsAll 2 0 0 (Rv (some (.int (bI (R = true)))) M) NX 14 [some (.ref 230), some (.int (nI s)), some (.int (nI a)), some (.int (nI (b + 1)))] [] M := by
      intro hp
      rw [hp] at h1 h2
      exact ih (b + 1) (by omega) (by simpa using h1) (by simpa using h2)
    refine v_iload_n dX12_partsAll_14 rfl ?_
    refine v_aload_n dX12_partsAll_15 rfl ?_
    refine v_cV [] (c12_chestsN G M hS hP) k12_chests dX12_partsAll_16 l12_245 (by first | exact hS.1 _ _ rfl | exact hS'.1 _ _ rfl | assumption) (by decide) rfl (Nat.le_of_ble_eq_true rfl) (Nat.le_of_ble_eq_true rfl) ?_
    refine v_icmp_ge 64 dX12_partsAll_19 (by decide) (fun h19 => ?_) (fun h19 => ?_)
    · (exfalso; (try simp (disch := omega) only [nI_leI, nI_ltI, nI_eq, nI0, bI_z, Decidable.not_not] at h19); omega)
    · refine v_aload_n dX12_partsAll_22 rfl ?_
      refine v_iload_n dX12_partsAll_23 rfl ?_
      refine v_cV [_] (c12_isInN G M hS hP hI (by omega)) k12_isIn dX12_partsAll_24 l12_250 (by first | exact hS.1 _ _ rfl | exact hS'.1 _ _ rfl | assumption) (by decide) rfl (Nat.le_of_ble_eq_true rfl) (Nat.le_of_ble_eq_true rfl) ?_
      refine v_if_eq 58 dX12_partsAll_27 (by decide) (fun h27 => ?_) (fun h27 => ?_)
      · refine v_iinc 1 dX12_partsAll_58 rfl (by decide) rfl (by decide) ?_
        refine v_goto 14 dX12_partsAll_61 (by decide) ?_
        (rw [nI_1]; (try simp (disch := omega) only [nI_leI, nI_ltI, nI_eq, nI0, bI_z, Decidable.not_not] at h19 h27); refine go ?_; simp [prtP, h19, h27])
      · refine v_aload_n dX12_partsAll_30 rfl ?_
        refine v_iload_n dX12_partsAll_31 rfl ?_
        refine v_cV [_] (c12_isInN G M hS hP hI (by omega)) k12_isIn dX12_partsAll_32 l12_250 (by first | exact hS.1 _ _ rfl | exact hS'.1 _ _ rfl | assumption) (by decide) rfl (Nat.le_of_ble_eq_true rfl) (Nat.le_of_ble_eq_true rfl) ?_
        refine v_if_eq 58 dX12_partsAll_35 (by decide) (fun h35 => ?_) (fun h35 => ?_)
        · refine v_iinc 1 dX12_partsAll_58 rfl (by decide) rfl (by decide) ?_
          refine v_goto 14 dX12_partsAll_61 (by decide) ?_
          (rw [nI_1]; (try simp (disch := omega) only [nI_leI, nI_ltI, nI_eq, nI0, bI_z, Decidable.not_not] at h19 h27 h35); refine go ?_; simp [prtP, h19, h27, h35])
        · refine v_aload_n dX12_partsAll_38 rfl ?_
          refine v_getR 12 20 _ dX12_partsAll_39 f12_36 (by first | exact hS.1 _ _ rfl | exact hS'.1 _ _ rfl | assumption) (by decide) (by first | exact hS.2 _ _ _ rfl | exact hS'.2 _ _ _ rfl | assumption) ?_
          refine v_iload_n dX12_partsAll_42 rfl ?_
          refine v_ialdN (a) dX12_partsAll_43 (by first | exact hS.1 _ _ rfl | exact hS'.1 _ _ rfl | assumption) (by simp only [n_lit, pk_mul, nI_add]) ⟨by omega, by omega⟩ ?_
          rw [e1.1]
          refine v_aload_n dX12_partsAll_44 rfl ?_
          refine v_getR 12 20 _ dX12_partsAll_45 f12_36 (by first | exact hS.1 _ _ rfl | exact hS'.1 _ _ rfl | assumption) (by decide) (by first | exact hS.2 _ _ _ rfl | exact hS'.2 _ _ _ rfl | assumption) ?_
          refine v_iload_n dX12_partsAll_48 rfl ?_
          refine v_ialdN (b) dX12_partsAll_49 (by first | exact hS.1 _ _ rfl | exact hS'.1 _ _ rfl | assumption) (by simp only [n_lit, pk_mul, nI_add]) ⟨by omega, by omega⟩ ?_
          rw [e2.1]
          refine v_ixor dX12_partsAll_50 ?_
          refine v_iload_n dX12_partsAll_51 rfl ?_
          refine v_iand dX12_partsAll_52 ?_
          rw [nIxor, nIand]
          refine v_if_ne 58 dX12_partsAll_53 (by decide) (fun h53 => ?_) (fun h53 => ?_)
          · refine v_iinc 1 dX12_partsAll_58 rfl (by decide) rfl (by decide) ?_
            refine v_goto 14 dX12_partsAll_61 (by decide) ?_
            (rw [nI_1]; (try simp (disch := omega) only [nI_leI, nI_ltI, nI_eq, nI0, bI_z, Decidable.not_not] at h19 h27 h35 h53); refine go ?_; simp [prtP, h19, h27, h35, h53])
          · refine v_iconst 0 dX12_partsAll_56 (by decide) ?_
            refine v_zret dX12_partsAll_57 rfl (by first | rfl | exact bI_nb _ | assumption) ?_
            ((try simp (disch := omega) only [nI_leI, nI_ltI, nI_eq, nI0, bI_z, Decidable.not_not] at h19 h27 h35 h53); refine ⟨?_, rfl⟩; rw [h1 (by simp [prtP, h19, h27, h35, h53])]; rfl)
theorem l12_partsAll2 {R : Bool} (hS : Sh M) (hP : WP (gI M 231)) (hI : inOK (gI M 231)) (hH : HH M (gI M 231)) {s : Nat} (hs : s < 1024) :
    ∀ i a (o : Option Value), a + i = kn (gI M 231) 2 → R = prtO (gI M 231) s i a → V G Y12_partsAll 2 0 0 (Rv (some (.int (bI (R = true)))) M) NX 2 [some (.ref 230), some (.int (nI s)), some (.int (nI a)), o] [] M := by
  have h14 := hP.2.1.2
  intro i
  induction i with
  | zero =>
    intro a o ha hR
    obtain rfl : a = kn (gI M 231) 2 := by omega
    refine v_iload_n dX12_partsAll_2 rfl ?_
    refine v_aload_n dX12_partsAll_3 rfl ?_
    refine v_cV [] (c12_chestsN G M hS hP) k12_chests dX12_partsAll_4 l12_245 (by first | exact hS.1 _ _ rfl | exact hS'.1 _ _ rfl | assumption) (by decide) rfl (Nat.le_of_ble_eq_true rfl) (Nat.le_of_ble_eq_true rfl) ?_
    refine v_icmp_ge 70 dX12_partsAll_7 (by decide) (fun h7 => ?_) (fun h7 => ?_)
    · refine v_iconst 1 dX12_partsAll_70 (by decide) ?_
      refine v_zret dX12_partsAll_71 rfl (by first | rfl | exact bI_nb _ | assumption) ?_
      exact ⟨by rw [hR]; rfl, rfl⟩
    · (exfalso; (try simp (disch := omega) only [nI_leI, nI_ltI, nI_eq, nI0, bI_z, Decidable.not_not] at h7); omega)
  | succ i ih =>
    intro a o ha hR
    rw [prtO] at hR
    have l64 : R = prtO (gI M 231) s i (a + 1) → V G Y12_partsAll 2 0 0 (Rv (some (.int (bI (R = true)))) M) NX 64 [some (.ref 230), some (.int (nI s)), some (.int (nI a)), some (.int (nI (kn (gI M 231) 2)))] [] M := by
      intro h
      refine v_iinc 1 dX12_partsAll_64 rfl (by decide) rfl (by decide) ?_
      refine v_goto 2 dX12_partsAll_67 (by decide) ?_
      -- at 2: .iload_n 2
      rw [nI_1]
      exact ih (a + 1) _ (by omega) h
    have go := l12_partsAll1 G M hS hP hI hH (R := R) hs (a := a) (by omega) (kn (gI M 231) 2 - (a + 1)) (a + 1) (by omega) (fun h => by rw [hR, h]; rfl)
    refine v_iload_n dX12_partsAll_2 rfl ?_
    refine v_aload_n dX12_partsAll_3 rfl ?_
    refine v_cV [] (c12_chestsN G M hS hP) k12_chests dX12_partsAll_4 l12_245 (by first | exact hS.1 _ _ rfl | exact hS'.1 _ _ rfl | assumption) (by decide) rfl (Nat.le_of_ble_eq_true rfl) (Nat.le_of_ble_eq_true rfl) ?_
    refine v_icmp_ge 70 dX12_partsAll_7 (by decide) (fun h7 => ?_) (fun h7 => ?_)
    · (exfalso; (try simp (disch := omega) only [nI_leI, nI_ltI, nI_eq, nI0, bI_z, Decidable.not_not] at h7); omega)
    · refine v_iload_n dX12_partsAll_10 rfl ?_
      refine v_iconst 1 dX12_partsAll_11 (by decide) ?_
      refine v_iadd dX12_partsAll_12 ?_
      refine v_istore_n dX12_partsAll_13 rfl (by decide) ?_
      (rw [nI_1]; refine go (fun h => ?_); rw [h, Bool.true_and] at hR; exact l64 hR)
theorem c12_partsAll (hS : Sh M) (hP : WP (gI M 231)) (hI : inOK (gI M 231)) (hH : HH M (gI M 231)) {s : Nat} (hs : s < 1024) : Ct G Y12_partsAll 2 0 0 [.ref 230, .int (nI s)] M (Rv (some (.int (bI (prtA (gI M 231) s = true)))) M) NX := by
  refine Ct.of k12_partsAll.1 (Nat.le_of_ble_eq_true rfl) ?_
  refine v_iconst 0 dX12_partsAll_0 (by decide) ?_
  refine v_istore_n dX12_partsAll_1 rfl (by decide) ?_
  -- at 2: .iload_n 2
  refine v_pad ?_
  exact l12_partsAll2 G M hS hP hI hH hs (kn (gI M 231) 2) 0 none (by omega) rfl
theorem bk_pos {K : Nat → Int32} {s b : Nat} (hb : bkF K s = some b) (h : pcn s < pcn b) (h2 : prtA K s = true) : bkF K (s + 1) = some s := by
  simp only [bkF, hb]
  exact if_pos ⟨h, h2⟩
theorem bk_neg {K : Nat → Int32} {s b : Nat} (hb : bkF K s = some b) (h : ¬ (pcn s < pcn b ∧ prtA K s = true)) : bkF K (s + 1) = some b := by
  simp only [bkF, hb]
  exact if_neg h
theorem bk_0 {K : Nat → Int32} {s : Nat} (hb : bkF K s = none) (h : prtA K s = true) : bkF K (s + 1) = some s := by
  simp only [bkF, hb]
  exact if_pos h
theorem bk_1 {K : Nat → Int32} {s : Nat} (hb : bkF K s = none) (h : ¬ prtA K s = true) : bkF K (s + 1) = none := by
  simp only [bkF, hb]
  exact if_neg h
theorem l12_book (hS : Sh M) (hP : WP (gI M 231)) (hI : inOK (gI M 231)) (hH : HH M (gI M 231)) : ∀ i s, s + i = 2 ^ kn (gI M 231) 3 → V G Y12_book 7 0 0 (Rv (some (.int (encO (bkF (gI M 231) (2 ^ kn (gI M 231) 3))))) M) NX 13 [some (.ref 230), some (.int (encO (bkF (gI M 231) s))), some (.int (nI s))] [] M := by
  have haw := aw_lt hP
  have hp := Nat.two_pow_pos (kn (gI M 231) 3)
  intro i
  induction i with
  | zero =>
    intro s hs
    obtain rfl : s = 2 ^ kn (gI M 231) 3 := by omega
    refine v_iload_n dX12_book_13 rfl ?_
    refine v_aload_n dX12_book_14 rfl ?_
    refine v_cV [] (c12_allWords G M hS hP) k12_allWords dX12_book_15 l12_320 (by first | exact hS.1 _ _ rfl | exact hS'.1 _ _ rfl | assumption) (by decide) rfl (Nat.le_of_ble_eq_true rfl) (Nat.le_of_ble_eq_true rfl) ?_
    refine v_icmp_gt 53 dX12_book_18 (by decide) (fun h18 => ?_) (fun h18 => ?_)
    · refine v_iload_n dX12_book_53 rfl ?_
      refine v_iret dX12_book_54 rfl ?_
      exact ⟨rfl, rfl⟩
    · (exfalso; (try simp (disch := omega) only [nI_leI, nI_ltI, nI_eq, nI0, bI_z, Decidable.not_not] at h18); omega)
  | succ i ih =>
    intro s hs
    have hn := ih (s + 1) (by omega)
    cases hb : bkF (gI M 231) s with
    | none =>
      rw [show encO none = (-1 : Int32) from rfl]
      refine v_iload_n dX12_book_13 rfl ?_
      refine v_aload_n dX12_book_14 rfl ?_
      refine v_cV [] (c12_allWords G M hS hP) k12_allWords dX12_book_15 l12_320 (by first | exact hS.1 _ _ rfl | exact hS'.1 _ _ rfl | assumption) (by decide) rfl (Nat.le_of_ble_eq_true rfl) (Nat.le_of_ble_eq_true rfl) ?_
      refine v_icmp_gt 53 dX12_book_18 (by decide) (fun h18 => ?_) (fun h18 => ?_)
      · (exfalso; (try simp (disch := omega) only [nI_leI, nI_ltI, nI_eq, nI0, bI_z, Decidable.not_not] at h18); omega)
      · refine v_iload_n dX12_book_21 rfl ?_
        refine v_iconst (-1) dX12_book_22 (by decide) ?_
        refine v_icmp_eq 37 dX12_book_23 (by decide) (fun h23 => ?_) (fun h23 => ?_)
        · refine v_aload_n dX12_book_37 rfl ?_
          refine v_iload_n dX12_book_38 rfl ?_
          refine v_cV [_] (c12_partsAll G M hS hP hI hH (by omega)) k12_partsAll dX12_book_39 l12_424 (by first | exact hS.1 _ _ rfl | exact hS'.1 _ _ rfl | assumption) (by decide) rfl (Nat.le_of_ble_eq_true rfl) (Nat.le_of_ble_eq_true rfl) ?_
          refine v_if_eq 47 dX12_book_42 (by decide) (fun h42 => ?_) (fun h42 => ?_)
          · refine v_iinc 1 dX12_book_47 rfl (by decide) rfl (by decide) ?_
            refine v_goto 13 dX12_book_50 (by decide) ?_
            (rw [nI_1]; (try simp (disch := omega) only [nI_leI, nI_ltI, nI_eq, nI0, bI_z, Decidable.not_not] at h18 h23 h42); first | (rw [bk_0 hb (by assumption)] at hn; exact hn) | (rw [bk_1 hb (by assumption)] at hn; exact hn))
          · refine v_iload_n dX12_book_45 rfl ?_
            refine v_istore_n dX12_book_46 rfl (by decide) ?_
            refine v_iinc 1 dX12_book_47 rfl (by decide) rfl (by decide) ?_
            refine v_goto 13 dX12_book_50 (by decide) ?_
            (rw [nI_1]; (try simp (disch := omega) only [nI_leI, nI_ltI, nI_eq, nI0, bI_z, Decidable.not_not] at h18 h23 h42); first | (rw [bk_0 hb (by assumption)] at hn; exact hn) | (rw [bk_1 hb (by assumption)] at hn; exact hn))
        · exact absurd rfl h23
    | some b =>
      have hbl := bkF_lt _ _ hb
      have ps := pcn_le s
      have pb := pcn_le b
      rw [show encO (some b) = nI b from rfl]
      refine v_iload_n dX12_book_13 rfl ?_
      refine v_aload_n dX12_book_14 rfl ?_
      refine v_cV [] (c12_allWords G M hS hP) k12_allWords dX12_book_15 l12_320 (by first | exact hS.1 _ _ rfl | exact hS'.1 _ _ rfl | assumption) (by decide) rfl (Nat.le_of_ble_eq_true rfl) (Nat.le_of_ble_eq_true rfl) ?_
      refine v_icmp_gt 53 dX12_book_18 (by decide) (fun h18 => ?_) (fun h18 => ?_)
      · (exfalso; (try simp (disch := omega) only [nI_leI, nI_ltI, nI_eq, nI0, bI_z, Decidable.not_not] at h18); omega)
      · refine v_iload_n dX12_book_21 rfl ?_
        refine v_iconst (-1) dX12_book_22 (by decide) ?_
        refine v_icmp_eq 37 dX12_book_23 (by decide) (fun h23 => ?_) (fun h23 => ?_)
        · refine v_aload_n dX12_book_37 rfl ?_
          refine v_iload_n dX12_book_38 rfl ?_
          refine v_cV [_] (c12_partsAll G M hS hP hI hH (by omega)) k12_partsAll dX12_book_39 l12_424 (by first | exact hS.1 _ _ rfl | exact hS'.1 _ _ rfl | assumption) (by decide) rfl (Nat.le_of_ble_eq_true rfl) (Nat.le_of_ble_eq_true rfl) ?_
          refine v_if_eq 47 dX12_book_42 (by decide) (fun h42 => ?_) (fun h42 => ?_)
          · refine v_iinc 1 dX12_book_47 rfl (by decide) rfl (by decide) ?_
            refine v_goto 13 dX12_book_50 (by decide) ?_
            (rw [nI_1]; (try simp (disch := omega) only [nI_leI, nI_ltI, nI_eq, nI0, bI_z, Decidable.not_not] at h18 h23 h42); first | (rw [bk_pos hb (by omega) (by assumption)] at hn; exact hn) | (rw [bk_neg hb (fun z => by first | exact absurd z.2 (by assumption) | (have := z.1; omega))] at hn; exact hn) | exact absurd h23 (nI_m1 (by omega)))
          · refine v_iload_n dX12_book_45 rfl ?_
            refine v_istore_n dX12_book_46 rfl (by decide) ?_
            refine v_iinc 1 dX12_book_47 rfl (by decide) rfl (by decide) ?_
            refine v_goto 13 dX12_book_50 (by decide) ?_
            (rw [nI_1]; (try simp (disch := omega) only [nI_leI, nI_ltI, nI_eq, nI0, bI_z, Decidable.not_not] at h18 h23 h42); first | (rw [bk_pos hb (by omega) (by assumption)] at hn; exact hn) | (rw [bk_neg hb (fun z => by first | exact absurd z.2 (by assumption) | (have := z.1; omega))] at hn; exact hn) | exact absurd h23 (nI_m1 (by omega)))
        · refine v_iload_n dX12_book_26 rfl ?_
          refine v_cS [_] (c12_size G M (by omega)) k12_size dX12_book_27 l12_330 rfl (Nat.le_of_ble_eq_true rfl) (Nat.le_of_ble_eq_true rfl) ?_
          refine v_iload_n dX12_book_30 rfl ?_
          refine v_cS [_] (c12_size G M (by omega)) k12_size dX12_book_31 l12_330 rfl (Nat.le_of_ble_eq_true rfl) (Nat.le_of_ble_eq_true rfl) ?_
          refine v_icmp_ge 47 dX12_book_34 (by decide) (fun h34 => ?_) (fun h34 => ?_)
          · refine v_iinc 1 dX12_book_47 rfl (by decide) rfl (by decide) ?_
            refine v_goto 13 dX12_book_50 (by decide) ?_
            (rw [nI_1]; (try simp (disch := omega) only [nI_leI, nI_ltI, nI_eq, nI0, bI_z, Decidable.not_not] at h18 h23 h34); first | (rw [bk_pos hb (by omega) (by assumption)] at hn; exact hn) | (rw [bk_neg hb (fun z => by first | exact absurd z.2 (by assumption) | (have := z.1; omega))] at hn; exact hn) | exact absurd h23 (nI_m1 (by omega)))
          · refine v_aload_n dX12_book_37 rfl ?_
            refine v_iload_n dX12_book_38 rfl ?_
            refine v_cV [_] (c12_partsAll G M hS hP hI hH (by omega)) k12_partsAll dX12_book_39 l12_424 (by first | exact hS.1 _ _ rfl | exact hS'.1 _ _ rfl | assumption) (by decide) rfl (Nat.le_of_ble_eq_true rfl) (Nat.le_of_ble_eq_true rfl) ?_
            refine v_if_eq 47 dX12_book_42 (by decide) (fun h42 => ?_) (fun h42 => ?_)
            · refine v_iinc 1 dX12_book_47 rfl (by decide) rfl (by decide) ?_
              refine v_goto 13 dX12_book_50 (by decide) ?_
              (rw [nI_1]; (try simp (disch := omega) only [nI_leI, nI_ltI, nI_eq, nI0, bI_z, Decidable.not_not] at h18 h23 h34 h42); first | (rw [bk_pos hb (by omega) (by assumption)] at hn; exact hn) | (rw [bk_neg hb (fun z => by first | exact absurd z.2 (by assumption) | (have := z.1; omega))] at hn; exact hn) | exact absurd h23 (nI_m1 (by omega)))
            · refine v_iload_n dX12_book_45 rfl ?_
              refine v_istore_n dX12_book_46 rfl (by decide) ?_
              refine v_iinc 1 dX12_book_47 rfl (by decide) rfl (by decide) ?_
              refine v_goto 13 dX12_book_50 (by decide) ?_
              (rw [nI_1]; (try simp (disch := omega) only [nI_leI, nI_ltI, nI_eq, nI0, bI_z, Decidable.not_not] at h18 h23 h34 h42); first | (rw [bk_pos hb (by omega) (by assumption)] at hn; exact hn) | (rw [bk_neg hb (fun z => by first | exact absurd z.2 (by assumption) | (have := z.1; omega))] at hn; exact hn) | exact absurd h23 (nI_m1 (by omega)))
theorem c12_book (hS : Sh M) (hQ : WQ (gI M 231)) : Ct G Y12_book 7 0 0 [.ref 230] M (Rs (some (.int (encO (bkF (gI M 231) (2 ^ kn (gI M 231) 3))))) (Pq M 0)) NX := by
  obtain ⟨hP, hI, hU⟩ := hQ
  have e1 : gI (sI M 230 4 0) 231 = gI M 231 := gI_sr _ _ (by decide)
  refine Ct.of k12_book.1 (Nat.le_of_ble_eq_true rfl) ?_
  refine v_aload_n dX12_book_0 rfl ?_
  refine v_iconst 0 dX12_book_1 (by decide) ?_
  refine v_putI 12 4 dX12_book_2 f12_68 (by first | exact hS.1 _ _ rfl | exact hS'.1 _ _ rfl | assumption) (by decide) ?_
  refine v_aload_n dX12_book_5 rfl ?_
  -- at 6: .invokevirtual 306
  refine v_scVv [] (c12_laysHold G (sI M 230 4 0) hS (by rw [e1]; exact hP)) k12_laysHold dX12_book_6 l12_306 (hS.1 _ _ rfl) (by decide) rfl (Nat.le_of_ble_eq_true rfl) (Nat.le_of_ble_eq_true rfl) (fun M2 hM2 => ?_)
  have hS' := Sh.sm (M := sI M 230 4 0) hS hM2.1
  have e2 : gI M2 231 = gI M 231 := (hM2.1.K (fun _ => rfl)).trans e1
  have hH := hM2.2
  rw [e1, ← e2] at hH
  have hpq := Pq.of hM2.1
  rw [← e2] at hP hI hU ⊢
  refine v_iconst (-1) dX12_book_9 (by decide) ?_
  refine v_istore_n dX12_book_10 rfl (by decide) ?_
  refine v_iconst 0 dX12_book_11 (by decide) ?_
  refine v_istore_n dX12_book_12 rfl (by decide) ?_
  -- at 13: .iload_n 2
  refine V.post (l12_book G M2 hS' hP hI hH (2 ^ kn (gI M2 231) 3) 0 (by omega)) (fun v M3 h => ⟨h.1, by rw [h.2]; exact hpq⟩) (fun _ _ h => h)
end RQ
