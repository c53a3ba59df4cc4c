/-! ===== the reference: fits, tells, costs ===== -/
theorem nI0 {a : Nat} (h : a < 2 ^ 31) : nI a = 0 ↔ a = 0 := by rw [show (0 : Int32) = nI 0 from rfl, nI_eq h (by omega)]
theorem bI_cong {p q : Prop} [Decidable p] [Decidable q] (h : p ↔ q) : bI p = bI q := by unfold bI; simp [h]
theorem and1023 {d : Nat} (h : d < 2 ^ 32) : nI d &&& 1023 = nI (d % 1024) := pk_andN h 10 (by decide)
theorem shr10 {d : Nat} (h : d < 2 ^ 31) : nI d >>> ((10 : Int32) &&& 31) = nI (d / 1024) := shrN (k := 10) h (by decide)
theorem shl10 {d : Nat} (h : d < 2 ^ 20) : nI d <<< ((10 : Int32) &&& 31) = nI (d * 1024) := shlN (c := 10) (by decide) (by omega)
def fitB (d h : Nat) : Bool := decide (dif (d % 1024) h = 0 ∧ (d / 1024) &&& h = 0)
/-- a description: words said, words denied, none both -/
def isD (nw d : Nat) : Prop := d < 1048576 ∧ (d % 1024) &&& (d / 1024) = 0 ∧ ((d % 1024) ||| (d / 1024)) < 2 ^ nw
def cnt (n : Nat) (p : Nat → Bool) : Nat := match n with
  | 0 => 0
  | n + 1 => cnt n p + (if p n = true then 1 else 0)
theorem cnt_le (p : Nat → Bool) : ∀ n, cnt n p ≤ n := by
  intro n
  induction n with
  | zero => simp [cnt]
  | succ n ih => unfold cnt; split <;> omega
section R7
variable (G : mG) (M : mM)
theorem c12_fitsByN {d h : Nat} (hd : d < 1048576) (hh : h < 1024) : Ct G Y12_fitsBy 0 0 0 [.int (nI d), .int (nI h)] M (Rv (some (.int (bI (fitB d h = true)))) M) NX := by
  have c := c12_fitsBy G M (nI d) (nI h)
  rw [bI_cong (q := fitB d h = true)] at c
  · exact c
  · rw [and1023 (by omega), andnot, shr10 (by omega), nIand, nI0 (Nat.lt_of_lt_of_le (dif_le _ _ (n := 10) (Nat.mod_lt _ (by decide))) (by decide)), nI0 (Nat.lt_of_le_of_lt Nat.and_le_right (by omega))]
    unfold fitB
    rw [decide_eq_true_eq]
theorem l12_fitsOf (hS : Sh M) (hP : WP (gI M 231)) (hI : inOK (gI M 231)) {q : Nat} (hq : gT M q = .inr (0, 14)) {h : Nat → Nat} (hh : ∀ c, c < kn (gI M 231) 2 → gI M q c = nI (h c) ∧ h c < 1024) {d : Nat} (hd : d < 1048576) :
    ∀ i c, c + i = kn (gI M 231) 2 → V G Y12_fitsOf 2 0 0 (Rv (some (.int (nI (fitN (kn (gI M 231) 2) (kn (gI M 231) 93) h d)))) M) NX 5 [some (.ref 230), some (.int (nI d)), some (.ref q), some (.int (nI (bset c (fun c => (kn (gI M 231) 93).testBit c && fitB d (h c))))), some (.int (nI c))] [] M := by
  have h14 := hP.2.1.2
  intro i
  induction i with
  | zero =>
    intro c hc
    obtain rfl : c = kn (gI M 231) 2 := by omega
    refine v_iload dX12_fitsOf_5 rfl ?_
    refine v_aload_n dX12_fitsOf_7 rfl ?_
    -- at 8: .invokevirtual 245
    refine v_cV [] (c12_chests G M hS) k12_chests dX12_fitsOf_8 l12_245 (by first | exact hS.1 _ _ rfl | exact hS'.1 _ _ rfl | assumption) (by decide) rfl (Nat.le_of_ble_eq_true rfl) (Nat.le_of_ble_eq_true rfl) ?_
    rw [hP.2.1.1]
    refine v_icmp_ge 51 dX12_fitsOf_11 (by decide) (fun hc2 => ?_) (fun hc2 => ?_)
    · refine v_iload_n dX12_fitsOf_51 rfl ?_
      -- at 52: .ireturn
      refine v_iret dX12_fitsOf_52 rfl ⟨rfl, rfl⟩
    · exact absurd (nI_le (Nat.le_refl _) (by omega)) hc2
  | succ i ih =>
    intro c hc
    have hn := ih (c + 1) (by omega)
    rw [← bset_step _ (by omega), ← nI_1] at hn
    refine v_iload dX12_fitsOf_5 rfl ?_
    refine v_aload_n dX12_fitsOf_7 rfl ?_
    -- at 8: .invokevirtual 245
    refine v_cV [] (c12_chests G M hS) k12_chests dX12_fitsOf_8 l12_245 (by first | exact hS.1 _ _ rfl | exact hS'.1 _ _ rfl | assumption) (by decide) rfl (Nat.le_of_ble_eq_true rfl) (Nat.le_of_ble_eq_true rfl) ?_
    rw [hP.2.1.1]
    refine v_icmp_ge 51 dX12_fitsOf_11 (by decide) (fun hc2 => ?_) (fun hc2 => ?_)
    · exact absurd ((nI_leI (by omega) (by omega)).mp hc2) (by omega)
    refine v_iload_n dX12_fitsOf_14 rfl ?_
    refine v_aload_n dX12_fitsOf_15 rfl ?_
    refine v_iload dX12_fitsOf_16 rfl ?_
    -- at 18: .invokevirtual 250
    refine v_cV [_] (c12_isInN G M hS hP hI (c := c) (by omega)) k12_isIn dX12_fitsOf_18 l12_250 (by first | exact hS.1 _ _ rfl | exact hS'.1 _ _ rfl | assumption) (by decide) rfl (Nat.le_of_ble_eq_true rfl) (Nat.le_of_ble_eq_true rfl) ?_
    by_cases hin : (kn (gI M 231) 93).testBit c = true
    · rw [bI_t hin]
      refine v_if_eq 42 dX12_fitsOf_21 (by decide) (fun h21 => ?_) (fun h21 => ?_)
      · exact absurd h21 (by decide)
      refine v_iload_n dX12_fitsOf_24 rfl ?_
      refine v_aload_n dX12_fitsOf_25 rfl ?_
      refine v_iload dX12_fitsOf_26 rfl ?_
      -- at 28: .iaload
      refine v_ialdN c dX12_fitsOf_28 hq rfl ⟨by omega, by omega⟩ ?_
      rw [(hh c (by omega)).1]
      refine v_cS [_, _] (c12_fitsByN G M hd (hh c (by omega)).2) k12_fitsBy dX12_fitsOf_29 l12_323 rfl (Nat.le_of_ble_eq_true rfl) (Nat.le_of_ble_eq_true rfl) ?_
      by_cases hf : fitB d (h c) = true
      · rw [bI_t hf]
        rw [if_pos (by simp [hin, hf]), ← shl1 (by omega)] at hn
        refine v_if_eq 42 dX12_fitsOf_32 (by decide) (fun h32 => ?_) (fun h32 => ?_)
        · exact absurd h32 (by decide)
        · refine v_iconst 1 dX12_fitsOf_35 (by decide) ?_
          refine v_iload dX12_fitsOf_36 rfl ?_
          refine v_ishl dX12_fitsOf_38 ?_
          refine v_goto 43 dX12_fitsOf_39 (by decide) ?_
          refine v_ior dX12_fitsOf_43 ?_
          refine v_istore_n dX12_fitsOf_44 rfl (by decide) ?_
          refine v_iinc 1 dX12_fitsOf_45 rfl (by decide) rfl (by decide) ?_
          refine v_goto 5 dX12_fitsOf_48 (by decide) ?_
          -- at 5: .iload 4
          exact hn
      · rw [bI_f hf]
        rw [if_neg (by simp [hf])] at hn
        refine v_if_eq 42 dX12_fitsOf_32 (by decide) (fun h32 => ?_) (fun h32 => ?_)
        · refine v_iconst 0 dX12_fitsOf_42 (by decide) ?_
          refine v_ior dX12_fitsOf_43 ?_
          refine v_istore_n dX12_fitsOf_44 rfl (by decide) ?_
          refine v_iinc 1 dX12_fitsOf_45 rfl (by decide) rfl (by decide) ?_
          refine v_goto 5 dX12_fitsOf_48 (by decide) ?_
          -- at 5: .iload 4
          exact hn
        · exact absurd rfl h32
    · rw [bI_f hin]
      rw [if_neg (by simp [hin])] at hn
      refine v_if_eq 42 dX12_fitsOf_21 (by decide) (fun h21 => ?_) (fun h21 => ?_)
      · refine v_iconst 0 dX12_fitsOf_42 (by decide) ?_
        refine v_ior dX12_fitsOf_43 ?_
        refine v_istore_n dX12_fitsOf_44 rfl (by decide) ?_
        refine v_iinc 1 dX12_fitsOf_45 rfl (by decide) rfl (by decide) ?_
        refine v_goto 5 dX12_fitsOf_48 (by decide) ?_
        -- at 5: .iload 4
        exact hn
      · exact absurd rfl h21
theorem c12_fitsOf (hS : Sh M) (hP : WP (gI M 231)) (hI : inOK (gI M 231)) {q : Nat} (hq : gT M q = .inr (0, 14)) {h : Nat → Nat} (hh : ∀ c, c < kn (gI M 231) 2 → gI M q c = nI (h c) ∧ h c < 1024) {d : Nat} (hd : d < 1048576) :
    Ct G Y12_fitsOf 2 0 0 [.ref 230, .int (nI d), .ref q] M (Rv (some (.int (nI (fitN (kn (gI M 231) 2) (kn (gI M 231) 93) h d)))) M) NX := by
  refine Ct.of k12_fitsOf.1 (Nat.le_of_ble_eq_true rfl) ?_
  refine v_iconst 0 dX12_fitsOf_0 (by decide) ?_
  refine v_istore_n dX12_fitsOf_1 rfl (by decide) ?_
  refine v_iconst 0 dX12_fitsOf_2 (by decide) ?_
  refine v_istore dX12_fitsOf_3 rfl (by decide) ?_
  -- at 5: .iload 4
  exact l12_fitsOf G M hS hP hI hq hh hd (kn (gI M 231) 2) 0 (by omega)
theorem l12_size : ∀ f S n (x : Int32), S < 16384 → pcn S = f → n + f < 100 → V G Y12_size 0 0 0 (Rv (some (.int (nI (n + f)))) M) NX 4 [some (.int x), some (.int (nI n)), some (.int (nI S))] [] M := by
  intro f
  induction f with
  | zero =>
    intro S n x hS hf hn
    have h0 : S = 0 := by
      by_cases h : S = 0
      · exact h
      · have := pcn_step hS h; omega
    subst h0
    refine v_iload_n dX12_size_4 rfl ?_
    -- at 5: .ifCond .eq 15
    refine v_if_eq 20 dX12_size_5 (by decide) (fun hc => ?_) (fun hc => ?_)
    · refine v_iload_n dX12_size_20 rfl ?_
      -- at 21: .ireturn
      refine v_iret dX12_size_21 rfl ⟨rfl, rfl⟩
    · exact absurd rfl hc
  | succ f ih =>
    intro S n x hS hf hn
    have h0 : S ≠ 0 := fun z => by subst z; rw [pcn_0] at hf; omega
    have h1 := pcn_step hS h0
    refine v_iload_n dX12_size_4 rfl ?_
    -- at 5: .ifCond .eq 15
    refine v_if_eq 20 dX12_size_5 (by decide) (fun hc => ?_) (fun hc => ?_)
    · exact absurd ((nI0 (by omega)).mp hc) h0
    · refine v_iinc 1 dX12_size_8 rfl (by decide) rfl (by decide) ?_
      refine v_iload_n dX12_size_11 rfl ?_
      refine v_iload_n dX12_size_12 rfl ?_
      refine v_iconst 1 dX12_size_13 (by decide) ?_
      refine v_isub dX12_size_14 ?_
      refine v_iand dX12_size_15 ?_
      refine v_istore_n dX12_size_16 rfl (by decide) ?_
      refine v_goto 4 dX12_size_17 (by decide) ?_
      -- at 4: .iload_n 2
      rw [nI_1, show nI S - 1 = nI (S - 1) from pk_sub (a := S) (b := 1) (by omega), nIand]
      have := ih (S &&& (S - 1)) (n + 1) x (Nat.lt_of_le_of_lt and_le hS) (by omega) (by omega)
      rw [show n + 1 + f = n + (f + 1) by omega] at this
      exact this
theorem pcf_le : ∀ n S, pcf n S ≤ n := by
  intro n
  induction n with
  | zero => intro S; simp [pcf]
  | succ n ih => intro S; have := ih (S / 2); have := Nat.mod_lt S (show 0 < 2 by decide); simp only [pcf]; omega
theorem pcn_le (S : Nat) : pcn S ≤ 14 := pcf_le 14 S
theorem c12_size {S : Nat} (hS : S < 16384) : Ct G Y12_size 0 0 0 [.int (nI S)] M (Rv (some (.int (nI (pcn S)))) M) NX := by
  refine Ct.of k12_size.1 (Nat.le_of_ble_eq_true rfl) ?_
  refine v_iconst 0 dX12_size_0 (by decide) ?_
  refine v_istore_n dX12_size_1 rfl (by decide) ?_
  refine v_iload_n dX12_size_2 rfl ?_
  refine v_istore_n dX12_size_3 rfl (by decide) ?_
  -- at 4: .iload_n 2
  have := l12_size G M (pcn S) S 0 (nI S) hS rfl (by have := pcn_le S; omega)
  rw [Nat.zero_add] at this
  exact this
/-- the first c from k on, below n, with p; n if there is none -/
def frm (p : Nat → Bool) : Nat → Nat → Nat
  | 0, k => k
  | n + 1, k => if p k = true then k else frm p n (k + 1)
theorem l12_toldBy {S : Nat} (hS14 : S < 16384) {c0 : Nat} (hc0 : c0 < 14) (hb : S.testBit c0 = true) (hmin : ∀ j, j < c0 → S.testBit j = false) (d x : Option Value) : ∀ i c, c + i = c0 → V G Y12_toldBy 3 0 0 (Rv (some (.int (nI c0))) M) NX 22 [x, d, some (.int (nI S)), some (.int (nI c))] [] M := by
  intro i
  induction i with
  | zero =>
    intro c hc
    obtain rfl : c = c0 := by omega
    refine v_iload_n dX12_toldBy_22 rfl ?_
    refine v_iload_n dX12_toldBy_23 rfl ?_
    -- at 24: .invokestatic 248
    refine v_cS [_, _] (c12_hasN G M (s := S) (k := c) (by omega) (by omega)) k12_has dX12_toldBy_24 l12_248 rfl (Nat.le_of_ble_eq_true rfl) (Nat.le_of_ble_eq_true rfl) ?_
    rw [bI_t hb]
    refine v_if_ne 36 dX12_toldBy_27 (by decide) (fun h27 => ?_) (fun h27 => ?_)
    · refine v_iload_n dX12_toldBy_36 rfl ?_
      -- at 37: .ireturn
      refine v_iret dX12_toldBy_37 rfl ⟨rfl, rfl⟩
    · exact absurd (by decide) h27
  | succ i ih =>
    intro c hc
    refine v_iload_n dX12_toldBy_22 rfl ?_
    refine v_iload_n dX12_toldBy_23 rfl ?_
    -- at 24: .invokestatic 248
    refine v_cS [_, _] (c12_hasN G M (s := S) (k := c) (by omega) (by omega)) k12_has dX12_toldBy_24 l12_248 rfl (Nat.le_of_ble_eq_true rfl) (Nat.le_of_ble_eq_true rfl) ?_
    rw [bI_f (by rw [hmin c (by omega)]; decide)]
    refine v_if_ne 36 dX12_toldBy_27 (by decide) (fun h27 => ?_) (fun h27 => ?_)
    · exact absurd rfl h27
    · refine v_iinc 1 dX12_toldBy_30 rfl (by decide) rfl (by decide) ?_
      refine v_goto 22 dX12_toldBy_33 (by decide) ?_
      -- at 22: .iload_n 2
      rw [nI_1]
      exact ih (c + 1) (by omega)
/-- the one bit of a set with one, as an int; -1 if it has none or more -/
def oneOf (S : Nat) : Int32 := if pcn S = 1 then nI (frm (fun i => S.testBit i) 14 0) else -1
theorem frm_ok {p : Nat → Bool} : ∀ n k, (∃ j, k ≤ j ∧ j < k + n ∧ p j = true) → k ≤ frm p n k ∧ frm p n k < k + n ∧ p (frm p n k) = true ∧ ∀ j, k ≤ j → j < frm p n k → p j = false := by
  intro n
  induction n with
  | zero => intro k h; obtain ⟨j, h1, h2, _⟩ := h; omega
  | succ n ih =>
    intro k h
    unfold frm
    split
    · rename_i hp; exact ⟨Nat.le_refl _, by omega, hp, fun j h1 h2 => by omega⟩
    · rename_i hp
      obtain ⟨j, h1, h2, h3⟩ := h
      have hj : j ≠ k := fun z => hp (z ▸ h3)
      obtain ⟨a, b, c, d⟩ := ih (k + 1) ⟨j, by omega, by omega, h3⟩
      refine ⟨by omega, by omega, c, fun i h4 h5 => ?_⟩
      by_cases e : i = k
      · subst e; exact Bool.eq_false_iff.mpr hp
      · exact d i (by omega) h5
theorem pcn_pos {S : Nat} (hS : S < 16384) (h : pcn S = 1) : ∃ j, 0 ≤ j ∧ j < 0 + 14 ∧ S.testBit j = true := by
  refine Classical.byContradiction fun hn => ?_
  have : S = 0 := eq_of_bits (n := 14) hS (by decide) (fun i hi => by
    rw [Nat.zero_testBit]
    exact Bool.eq_false_iff.mpr (fun z => hn ⟨i, by omega, by omega, z⟩))
  subst this
  rw [pcn_0] at h
  omega
theorem fitN_lt {nc I : Nat} (h14 : nc ≤ 14) (h : Nat → Nat) (d : Nat) : fitN nc I h d < 16384 := Nat.lt_of_lt_of_le (bset_lt _ _) (show 2 ^ nc ≤ 2 ^ 14 from Nat.pow_le_pow_right (by omega) h14)
/-- the words that hold now, as the array 'hold' has them -/
theorem HH.hold {M : mM} {K : Nat → Int32} (hP : WP K) (h : HH M K) : ∀ c, c < kn K 2 → gI M 238 c = nI (trH K c) ∧ trH K c < 1024 := fun c hc => ⟨(h c hc).2.2, trN_lt hP _ _⟩
theorem c12_toldBy (hS : Sh M) (hP : WP (gI M 231)) (hI : inOK (gI M 231)) (hH : HH M (gI M 231)) {d : Nat} (hd : d < 1048576) : Ct G Y12_toldBy 3 0 0 [.ref 230, .int (nI d)] M (Rv (some (.int (oneOf (fitN (kn (gI M 231) 2) (kn (gI M 231) 93) (trH (gI M 231)) d)))) M) NX := by
  have hF := fitN_lt (I := kn (gI M 231) 93) hP.2.1.2 (trH (gI M 231)) d
  refine Ct.of k12_toldBy.1 (Nat.le_of_ble_eq_true rfl) ?_
  refine v_aload_n dX12_toldBy_0 rfl ?_
  refine v_iload_n dX12_toldBy_1 rfl ?_
  refine v_aload_n dX12_toldBy_2 rfl ?_
  refine v_getR 12 20 _ dX12_toldBy_3 f12_36 (by first | exact hS.1 _ _ rfl | exact hS'.1 _ _ rfl | assumption) (by decide) (by first | exact hS.2 _ _ _ rfl | exact hS'.2 _ _ _ rfl | assumption) ?_
  -- at 6: .invokevirtual 326
  refine v_cV [_, _] (c12_fitsOf G M hS hP hI (hS.1 238 _ rfl) (hH.hold hP) hd) k12_fitsOf dX12_toldBy_6 l12_326 (by first | exact hS.1 _ _ rfl | exact hS'.1 _ _ rfl | assumption) (by decide) rfl (Nat.le_of_ble_eq_true rfl) (Nat.le_of_ble_eq_true rfl) ?_
  generalize fitN (kn (gI M 231) 2) (kn (gI M 231) 93) (trH (gI M 231)) d = S at hF ⊢
  refine v_istore_n dX12_toldBy_9 rfl (by decide) ?_
  refine v_iload_n dX12_toldBy_10 rfl ?_
  -- at 11: .invokestatic 330
  refine v_cS [_] (c12_size G M hF) k12_size dX12_toldBy_11 l12_330 rfl (Nat.le_of_ble_eq_true rfl) (Nat.le_of_ble_eq_true rfl) ?_
  refine v_iconst 1 dX12_toldBy_14 (by decide) ?_
  -- at 15: .if_icmp .eq 5
  by_cases h1 : pcn S = 1
  · rw [h1]
    obtain ⟨a, b, c, e⟩ := frm_ok 14 0 (pcn_pos hF h1)
    refine v_icmp_eq 20 dX12_toldBy_15 (by decide) (fun h15 => ?_) (fun h15 => ?_)
    · refine v_iconst 0 dX12_toldBy_20 (by decide) ?_
      refine v_istore_n dX12_toldBy_21 rfl (by decide) ?_
      -- at 22: .iload_n 2
      rw [oneOf, if_pos h1]
      exact l12_toldBy G M hF (by omega) c (fun j hj => e j (by omega) hj) _ _ (frm (fun i => S.testBit i) 14 0) 0 (Nat.zero_add _)
    · exact absurd rfl h15
  · refine v_icmp_eq 20 dX12_toldBy_15 (by decide) (fun h15 => ?_) (fun h15 => ?_)
    · exact absurd ((nI_eq (a := pcn S) (b := 1) (by have := pcn_le S; omega) (by omega)).mp h15) h1
    · refine v_iconst (-1) dX12_toldBy_18 (by decide) ?_
      -- at 19: .ireturn
      refine v_iret dX12_toldBy_19 rfl ⟨by rw [oneOf, if_neg h1], rfl⟩
end R7
