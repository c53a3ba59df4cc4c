/-! ===== the class: Describer, the least ===== -/
def encL (o : Option (Nat × Nat)) : Int64 := match o with
  | none => -1
  | some (c, d) => lN (c * 1048576 + d)
theorem lN_m1 {a : Nat} (h : a < 2 ^ 63) : ¬ lN a = -1 := by
  intro z
  have := congrArg Int64.toInt z
  rw [pk_lT h] at this
  have e : (-1 : Int64).toInt = -1 := by decide
  rw [e] at this
  omega
theorem mnF_ext {ok ok' : Nat → Bool} {cs cs' ds ds' : Nat → Nat} : ∀ n, (∀ s, s < n → ok s = ok' s) → (∀ s, s < n → ok s = true → cs s = cs' s ∧ ds s = ds' s) → mnF ok cs ds n = mnF ok' cs' ds' n := by
  intro n
  induction n with
  | zero => intro _ _; rfl
  | succ n ih =>
    intro h h2
    have e := ih (fun s hs => h s (by omega)) (fun s hs => h2 s (by omega))
    simp only [mnF]
    rw [e, h n (by omega)]
    by_cases hk : ok' n = true
    · have h3 := h2 n (by omega) (by rw [h n (by omega)]; exact hk)
      rw [h3.1, h3.2]
    · rw [if_neg hk, if_neg hk]
/-- the sets that give just the goal, within A -/
def okG (A P : Nat) (a : Nat → Nat) (g S : Nat) : Bool := decide (dif S A = 0) && decide (mS P a S = g)
def dsT (t S : Nat) : Nat := (S &&& t) ||| dif S t * 1024
theorem dsT_lt (t : Nat) {s : Nat} (hs : s < 1024) : dsT t s < 1048576 := by
  have h1 : s &&& t < 1024 := Nat.lt_of_le_of_lt Nat.and_le_left hs
  have h2 : dif s t < 1024 := dif_le s t (n := 10) hs
  exact Nat.or_lt_two_pow (n := 20) (show s &&& t < 2 ^ 20 by omega) (by omega)
theorem mnF_t0 {ok : Nat → Bool} {cs ds : Nat → Nat} {s : Nat} (h : ok s = true) (h0 : mnF ok cs ds s = none) : mnF ok cs ds (s + 1) = some (cs s, ds s) := by simp only [mnF]; rw [if_pos h, h0]
theorem mnF_t1 {ok : Nat → Bool} {cs ds : Nat → Nat} {s c d : Nat} (h : ok s = true) (h0 : mnF ok cs ds s = some (c, d)) (h2 : cs s < c ∨ (cs s = c ∧ ds s < d)) : mnF ok cs ds (s + 1) = some (cs s, ds s) := by
  simp only [mnF]; rw [if_pos h, h0]; exact if_pos h2
theorem mnF_t2 {ok : Nat → Bool} {cs ds : Nat → Nat} {s c d : Nat} (h : ok s = true) (h0 : mnF ok cs ds s = some (c, d)) (h2 : ¬ (cs s < c ∨ (cs s = c ∧ ds s < d))) : mnF ok cs ds (s + 1) = some (c, d) := by
  simp only [mnF]; rw [if_pos h, h0]; exact if_neg h2
theorem mnF_f {ok : Nat → Bool} {cs ds : Nat → Nat} {s : Nat} (h : ¬ ok s = true) : mnF ok cs ds (s + 1) = mnF ok cs ds s := by simp only [mnF]; rw [if_neg h]
theorem mnF_b' {nw A P t g : Nat} {a x : Nat → Nat} (hx : ∀ w, w < nw → x w ≤ 19) (h10 : nw ≤ 10) (hA : A < 2 ^ nw) : ∀ n c d, n ≤ 2 ^ nw → mnF (okG A P a g) (xS x) (dsT t) n = some (c, d) → c ≤ 190 ∧ d < 1048576 := by
  have hpw : 2 ^ nw ≤ 2 ^ 10 := Nat.pow_le_pow_right (by omega) h10
  intro n
  induction n with
  | zero => intro c d _ h; simp [mnF] at h
  | succ n ih =>
    intro c d hn h
    have hxl : xS x n ≤ 190 := xF_le (x := x) hx (show n < 2 ^ nw by omega) 10
    have hdt := dsT_lt t (show n < 1024 by omega)
    simp only [mnF] at h
    split at h
    · split at h
      · cases h; exact ⟨hxl, hdt⟩
      · rename_i c0 d0 h0
        split at h
        · cases h; exact ⟨hxl, hdt⟩
        · cases h; exact ih _ _ (by omega) h0
    · exact ih _ _ (by omega) h
section D3
variable (G : mG) (M : mM)
theorem c1_described {s t : Nat} (hs : s < 1024) : Ct G Y1_described 0 0 0 [.int (nI s), .int (nI t)] M (Rv (some (.int (nI (dsT t s)))) M) NX := by
  have h2 : dif s t < 1024 := dif_le s t (n := 10) hs
  refine Ct.of k1_described.1 (Nat.le_of_ble_eq_true rfl) ?_
  refine v_iload_n dX1_described_0 rfl ?_
  refine v_iload_n dX1_described_1 rfl ?_
  refine v_iand dX1_described_2 ?_
  rw [nIand]
  refine v_iload_n dX1_described_3 rfl ?_
  refine v_iload_n dX1_described_4 rfl ?_
  refine v_iconst (-1) dX1_described_5 (by decide) ?_
  refine v_ixor dX1_described_6 ?_
  refine v_iand dX1_described_7 ?_
  rw [andnot]
  refine v_bipush 10 dX1_described_8 (by decide) ?_
  refine v_ishl dX1_described_10 ?_
  rw [shl10 (show _ < 2 ^ 20 by omega)]
  refine v_ior dX1_described_11 ?_
  rw [nIor]
  refine v_iret dX1_described_12 rfl ?_
  exact ⟨rfl, rfl⟩
theorem c1_numberIn (o : Option (Nat × Nat)) (ho : ∀ c d, o = some (c, d) → c ≤ 190 ∧ d < 1048576) : Ct G Y1_numberIn 0 0 0 [.long (encL o)] M (Rv (some (.int (encD o))) M) NX := by
  refine Ct.of k1_numberIn.1 (Nat.le_of_ble_eq_true rfl) ?_
  cases o with
  | none =>
    rw [show encL none = (-1 : Int64) from rfl]
    refine v_lload_n dX1_numberIn_0 rfl ?_
    refine v_ldc2 (-1) dX1_numberIn_1 K1_22 ?_
    refine v_lcmp dX1_numberIn_4 ?_
    refine v_if_ne 12 dX1_numberIn_5 (by decide) (fun h5 => absurd (lg_eq.mpr rfl) h5) (fun h5 => ?_)
    refine v_iconst (-1) dX1_numberIn_8 (by decide) ?_
    refine v_goto 18 dX1_numberIn_9 (by decide) ?_
    refine v_iret dX1_numberIn_18 rfl ?_
    exact ⟨rfl, rfl⟩
  | some z =>
    obtain ⟨c, d⟩ := z
    obtain ⟨h1, h2⟩ := ho c d rfl
    rw [show encL (some (c, d)) = lN (c * 1048576 + d) from rfl]
    have e : lN (c * 1048576 + d) &&& 1048575 = lN d := by
      rw [show (1048575 : Int64) = lN 1048575 from rfl, lNand]
      congr 1
      have := Nat.and_two_pow_sub_one_eq_mod (c * 1048576 + d) 20
      show _ &&& (2 ^ 20 - 1) = d
      rw [this]
      omega
    refine v_lload_n dX1_numberIn_0 rfl ?_
    refine v_ldc2 (-1) dX1_numberIn_1 K1_22 ?_
    refine v_lcmp dX1_numberIn_4 ?_
    refine v_if_ne 12 dX1_numberIn_5 (by decide) (fun h5 => ?_) (fun h5 => absurd (lg_eq.mp (Decidable.not_not.mp h5)) (lN_m1 (by omega)))
    refine v_lload_n dX1_numberIn_12 rfl ?_
    refine v_ldc2 1048575 dX1_numberIn_13 K1_24 ?_
    refine v_land dX1_numberIn_16 ?_
    rw [e]
    refine v_l2i dX1_numberIn_17 ?_
    rw [lN_i]
    refine v_iret dX1_numberIn_18 rfl ?_
    exact ⟨rfl, rfl⟩
def encE (o : Option (Nat × Nat)) : Int32 := match o with
  | none => -1
  | some (c, _) => nI c
theorem c1_costIn (o : Option (Nat × Nat)) (ho : ∀ c d, o = some (c, d) → c ≤ 190 ∧ d < 1048576) : Ct G Y1_costIn 0 0 0 [.long (encL o)] M (Rv (some (.int (encE o))) M) NX := by
  refine Ct.of k1_costIn.1 (Nat.le_of_ble_eq_true rfl) ?_
  cases o with
  | none =>
    rw [show encL none = (-1 : Int64) from rfl]
    refine v_lload_n dX1_costIn_0 rfl ?_
    refine v_ldc2 (-1) dX1_costIn_1 K1_22 ?_
    refine v_lcmp dX1_costIn_4 ?_
    refine v_if_ne 12 dX1_costIn_5 (by decide) (fun h5 => absurd (lg_eq.mpr rfl) h5) (fun h5 => ?_)
    refine v_iconst (-1) dX1_costIn_8 (by decide) ?_
    refine v_goto 17 dX1_costIn_9 (by decide) ?_
    refine v_iret dX1_costIn_17 rfl ?_
    exact ⟨rfl, rfl⟩
  | some z =>
    obtain ⟨c, d⟩ := z
    obtain ⟨h1, h2⟩ := ho c d rfl
    rw [show encL (some (c, d)) = lN (c * 1048576 + d) from rfl]
    have e : lN (c * 1048576 + d) >>> ((20 : Int32).toInt64 &&& 63) = lN c := by
      rw [show (20 : Int32) = nI 20 from rfl, lshrN (by decide) (by omega)]
      congr 1
      show (c * 1048576 + d) / 1048576 = c
      omega
    refine v_lload_n dX1_costIn_0 rfl ?_
    refine v_ldc2 (-1) dX1_costIn_1 K1_22 ?_
    refine v_lcmp dX1_costIn_4 ?_
    refine v_if_ne 12 dX1_costIn_5 (by decide) (fun h5 => ?_) (fun h5 => absurd (lg_eq.mp (Decidable.not_not.mp h5)) (lN_m1 (by omega)))
    refine v_lload_n dX1_costIn_12 rfl ?_
    refine v_bipush 20 dX1_costIn_13 (by decide) ?_
    refine v_lshr dX1_costIn_15 ?_
    rw [e]
    refine v_l2i dX1_costIn_16 ?_
    rw [lN_i]
    refine v_iret dX1_costIn_17 rfl ?_
    exact ⟨rfl, rfl⟩
theorem l1_leastOfRows (hS : Sh M) {nw A P t g : Nat} {a x : Nat → Nat} (h10 : nw ≤ 10) (hA : A < 2 ^ nw) (hP : P < 2 ^ 28) (hg : g < 2 ^ 30) (hx : ∀ w, w < nw → x w ≤ 19) (hr : RowsOK M nw A P a x) :
    ∀ i S (o7 o8 : Option Value), S + i = A + 1 → V G Y1_leastOfRows 1 0 0 (Rv (some (.long (encL (mnF (okG A P a g) (xS x) (dsT t) (A + 1))))) M) NX 8 [some (.ref 201), some (.int (nI A)), some (.int (nI t)), some (.int (nI g)), some (.long (encL (mnF (okG A P a g) (xS x) (dsT t) S))), none, some (.int (nI S)), o7, o8] [] M := by
  have hpw : 2 ^ nw ≤ 2 ^ 10 := Nat.pow_le_pow_right (by omega) h10
  intro i
  induction i with
  | zero =>
    intro S o7 o8 hs
    obtain rfl : S = A + 1 := by omega
    refine v_iload dX1_leastOfRows_8 rfl ?_
    refine v_iload_n dX1_leastOfRows_10 rfl ?_
    refine v_icmp_gt 85 dX1_leastOfRows_11 (by decide) (fun h11 => ?_) (fun h11 => absurd (nI_lt (Nat.lt_succ_self _) (by omega)) h11)
    refine v_lload dX1_leastOfRows_85 rfl ?_
    refine v_lret dX1_leastOfRows_87 rfl ?_
    exact ⟨rfl, rfl⟩
  | succ i ih =>
    intro S o7 o8 hs
    have hn := fun o7 o8 => ih (S + 1) o7 o8 (by omega)
    have hS10 : S < 1024 := by omega
    have hdl : dif S A < 1024 := dif_le S A (n := 10) hS10
    have skp : okG A P a g S = false → ∀ o7 o8, V G Y1_leastOfRows 1 0 0 (Rv (some (.long (encL (mnF (okG A P a g) (xS x) (dsT t) (A + 1))))) M) NX 8 [some (.ref 201), some (.int (nI A)), some (.int (nI t)), some (.int (nI g)), some (.long (encL (mnF (okG A P a g) (xS x) (dsT t) S))), none, some (.int (nI (S + 1))), o7, o8] [] M := by
      intro h o7 o8
      rw [mnF_f (s := S) (by rw [h]; decide)] at hn
      exact hn o7 o8
    by_cases hd : dif S A = 0
    · have hrow := hr S (by omega) hd
      have hxl : xS x S ≤ 190 := xF_le (x := x) hx (show S < 2 ^ nw by omega) 10
      have hml : mS P a S ≤ P := mF_le P a _ 10
      have f1 : (lN (xS x S * 4294967296 + mS P a S)).toInt32 = nI (mS P a S) := by rw [lN_i, nI_hi]
      by_cases hm : mS P a S = g
      · have hok : okG A P a g S = true := by unfold okG; rw [decide_eq_true hd, decide_eq_true hm]; rfl
        have hdt := dsT_lt t hS10
        have f2 : lN (xS x S * 4294967296 + mS P a S) >>> ((32 : Int32).toInt64 &&& 63) = lN (xS x S) := by
          rw [show (32 : Int32) = nI 32 from rfl, lshrN (by decide) (by omega)]
          congr 1
          show (xS x S * 4294967296 + mS P a S) / 4294967296 = _
          omega
        have f3 : lN (xS x S) <<< ((20 : Int32).toInt64 &&& 63) = lN (xS x S * 1048576) := by rw [show (20 : Int32) = nI 20 from rfl, lshlN (by decide)]
        have f4 : lN (xS x S * 1048576) ||| (nI (dsT t S)).toInt64 = lN (xS x S * 1048576 + dsT t S) := by
          rw [nI_l (by omega), lNor]
          exact congrArg lN (or_add (k := 20) (show dsT t S < 2 ^ 20 by omega))
        have go : ∀ o2, mnF (okG A P a g) (xS x) (dsT t) S = o2 → V G Y1_leastOfRows 1 0 0 (Rv (some (.long (encL (mnF (okG A P a g) (xS x) (dsT t) (A + 1))))) M) NX 58 [some (.ref 201), some (.int (nI A)), some (.int (nI t)), some (.int (nI g)), some (.long (encL o2)), none, some (.int (nI S)), some (.long (lN (xS x S * 1048576 + dsT t S))), none] [] M := by
          intro o2 ho2
          cases o2 with
          | none =>
            rw [mnF_t0 hok ho2] at hn
            rw [show encL none = (-1 : Int64) from rfl]
            refine v_lload dX1_leastOfRows_58 rfl ?_
            refine v_ldc2 (-1) dX1_leastOfRows_60 K1_22 ?_
            refine v_lcmp dX1_leastOfRows_63 ?_
            refine v_if_eq 75 dX1_leastOfRows_64 (by decide) (fun h64 => ?_) (fun h64 => absurd (lg_eq.mpr rfl) h64)
            refine v_lload dX1_leastOfRows_75 rfl ?_
            refine v_lstore dX1_leastOfRows_77 rfl (by decide) ?_
            refine v_iinc 1 dX1_leastOfRows_79 rfl (by decide) rfl (by decide) ?_
            refine v_goto 8 dX1_leastOfRows_82 (by decide) ?_
            (rw [nI_1]; exact hn _ _)
          | some z =>
            obtain ⟨c, d⟩ := z
            obtain ⟨b1, b2⟩ := mnF_b' hx h10 hA (g := g) S c d (by omega) ho2
            rw [show encL (some (c, d)) = lN (c * 1048576 + d) from rfl]
            by_cases hc : xS x S < c ∨ (xS x S = c ∧ dsT t S < d)
            · rw [mnF_t1 hok ho2 hc] at hn
              refine v_lload dX1_leastOfRows_58 rfl ?_
              refine v_ldc2 (-1) dX1_leastOfRows_60 K1_22 ?_
              refine v_lcmp dX1_leastOfRows_63 ?_
              refine v_if_eq 75 dX1_leastOfRows_64 (by decide) (fun h64 => absurd (lg_eq.mp h64) (lN_m1 (by omega))) (fun h64 => ?_)
              refine v_lload dX1_leastOfRows_67 rfl ?_
              refine v_lload dX1_leastOfRows_69 rfl ?_
              refine v_lcmp dX1_leastOfRows_71 ?_
              refine v_if_ge 79 dX1_leastOfRows_72 (by decide) (fun h72 => absurd (lg_lt.mpr ((pk_lLT (by omega) (by omega)).mpr (by omega))) (Int32.not_lt.mpr h72)) (fun h72 => ?_)
              refine v_lload dX1_leastOfRows_75 rfl ?_
              refine v_lstore dX1_leastOfRows_77 rfl (by decide) ?_
              refine v_iinc 1 dX1_leastOfRows_79 rfl (by decide) rfl (by decide) ?_
              refine v_goto 8 dX1_leastOfRows_82 (by decide) ?_
              (rw [nI_1]; exact hn _ _)
            · rw [mnF_t2 hok ho2 hc] at hn
              refine v_lload dX1_leastOfRows_58 rfl ?_
              refine v_ldc2 (-1) dX1_leastOfRows_60 K1_22 ?_
              refine v_lcmp dX1_leastOfRows_63 ?_
              refine v_if_eq 75 dX1_leastOfRows_64 (by decide) (fun h64 => absurd (lg_eq.mp h64) (lN_m1 (by omega))) (fun h64 => ?_)
              refine v_lload dX1_leastOfRows_67 rfl ?_
              refine v_lload dX1_leastOfRows_69 rfl ?_
              refine v_lcmp dX1_leastOfRows_71 ?_
              refine v_if_ge 79 dX1_leastOfRows_72 (by decide) (fun h72 => ?_) (fun h72 => absurd ((pk_lLT (by omega) (by omega)).mp (lg_lt.mp (Int32.not_le.mp h72))) (by omega))
              refine v_iinc 1 dX1_leastOfRows_79 rfl (by decide) rfl (by decide) ?_
              refine v_goto 8 dX1_leastOfRows_82 (by decide) ?_
              (rw [nI_1]; exact hn _ _)
        refine v_iload dX1_leastOfRows_8 rfl ?_
        refine v_iload_n dX1_leastOfRows_10 rfl ?_
        refine v_icmp_gt 85 dX1_leastOfRows_11 (by decide) (fun h11 => absurd ((nI_ltI (by omega) (by omega)).mp h11) (by omega)) (fun h11 => ?_)
        refine v_iload dX1_leastOfRows_14 rfl ?_
        refine v_iload_n dX1_leastOfRows_16 rfl ?_
        refine v_iconst (-1) dX1_leastOfRows_17 (by decide) ?_
        refine v_ixor dX1_leastOfRows_18 ?_
        refine v_iand dX1_leastOfRows_19 ?_
        rw [andnot, hd]
        refine v_if_ne 79 dX1_leastOfRows_20 (by decide) (fun h20 => absurd rfl h20) (fun h20 => ?_)
        refine v_aload_n dX1_leastOfRows_23 rfl ?_
        refine v_getR 1 0 _ dX1_leastOfRows_24 f1_9 (by first | exact hS.1 _ _ rfl | exact hS'.1 _ _ rfl | assumption) (by decide) (by first | exact hS.2 _ _ _ rfl | exact hS'.2 _ _ _ rfl | assumption) ?_
        refine v_iload dX1_leastOfRows_27 rfl ?_
        refine v_laldN (S) dX1_leastOfRows_29 (by first | exact hS.1 _ _ rfl | exact hS'.1 _ _ rfl | assumption) (by simp only [n_lit, pk_mul, nI_add]) ⟨by omega, by omega⟩ ?_
        rw [hrow]
        refine v_l2i dX1_leastOfRows_30 ?_
        rw [f1, hm]
        refine v_iload_n dX1_leastOfRows_31 rfl ?_
        refine v_icmp_ne 79 dX1_leastOfRows_32 (by decide) (fun h32 => absurd rfl h32) (fun h32 => ?_)
        refine v_aload_n dX1_leastOfRows_35 rfl ?_
        refine v_getR 1 0 _ dX1_leastOfRows_36 f1_9 (by first | exact hS.1 _ _ rfl | exact hS'.1 _ _ rfl | assumption) (by decide) (by first | exact hS.2 _ _ _ rfl | exact hS'.2 _ _ _ rfl | assumption) ?_
        refine v_iload dX1_leastOfRows_39 rfl ?_
        refine v_laldN (S) dX1_leastOfRows_41 (by first | exact hS.1 _ _ rfl | exact hS'.1 _ _ rfl | assumption) (by simp only [n_lit, pk_mul, nI_add]) ⟨by omega, by omega⟩ ?_
        rw [hrow]
        refine v_bipush 32 dX1_leastOfRows_42 (by decide) ?_
        refine v_lshr dX1_leastOfRows_44 ?_
        rw [f2]
        refine v_bipush 20 dX1_leastOfRows_45 (by decide) ?_
        refine v_lshl dX1_leastOfRows_47 ?_
        rw [f3]
        refine v_iload dX1_leastOfRows_48 rfl ?_
        refine v_iload_n dX1_leastOfRows_50 rfl ?_
        refine v_cS [_, _] (c1_described G M hS10) k1_described dX1_leastOfRows_51 l1_85 rfl (Nat.le_of_ble_eq_true rfl) (Nat.le_of_ble_eq_true rfl) ?_
        refine v_i2l dX1_leastOfRows_54 ?_
        refine v_lor dX1_leastOfRows_55 ?_
        rw [f4]
        refine v_lstore dX1_leastOfRows_56 rfl (by decide) ?_
        exact go _ rfl
      · have hsk := skp (by unfold okG; rw [decide_eq_false hm, Bool.and_false])
        refine v_iload dX1_leastOfRows_8 rfl ?_
        refine v_iload_n dX1_leastOfRows_10 rfl ?_
        refine v_icmp_gt 85 dX1_leastOfRows_11 (by decide) (fun h11 => absurd ((nI_ltI (by omega) (by omega)).mp h11) (by omega)) (fun h11 => ?_)
        refine v_iload dX1_leastOfRows_14 rfl ?_
        refine v_iload_n dX1_leastOfRows_16 rfl ?_
        refine v_iconst (-1) dX1_leastOfRows_17 (by decide) ?_
        refine v_ixor dX1_leastOfRows_18 ?_
        refine v_iand dX1_leastOfRows_19 ?_
        rw [andnot, hd]
        refine v_if_ne 79 dX1_leastOfRows_20 (by decide) (fun h20 => absurd rfl h20) (fun h20 => ?_)
        refine v_aload_n dX1_leastOfRows_23 rfl ?_
        refine v_getR 1 0 _ dX1_leastOfRows_24 f1_9 (by first | exact hS.1 _ _ rfl | exact hS'.1 _ _ rfl | assumption) (by decide) (by first | exact hS.2 _ _ _ rfl | exact hS'.2 _ _ _ rfl | assumption) ?_
        refine v_iload dX1_leastOfRows_27 rfl ?_
        refine v_laldN (S) dX1_leastOfRows_29 (by first | exact hS.1 _ _ rfl | exact hS'.1 _ _ rfl | assumption) (by simp only [n_lit, pk_mul, nI_add]) ⟨by omega, by omega⟩ ?_
        rw [hrow]
        refine v_l2i dX1_leastOfRows_30 ?_
        rw [f1]
        refine v_iload_n dX1_leastOfRows_31 rfl ?_
        refine v_icmp_ne 79 dX1_leastOfRows_32 (by decide) (fun h32 => ?_) (fun h32 => absurd ((nI_eq (by omega) (by omega)).mp (Decidable.not_not.mp h32)) hm)
        refine v_iinc 1 dX1_leastOfRows_79 rfl (by decide) rfl (by decide) ?_
        refine v_goto 8 dX1_leastOfRows_82 (by decide) ?_
        (rw [nI_1]; exact hsk _ _)
    · have hsk := skp (by unfold okG; rw [decide_eq_false hd, Bool.false_and])
      refine v_iload dX1_leastOfRows_8 rfl ?_
      refine v_iload_n dX1_leastOfRows_10 rfl ?_
      refine v_icmp_gt 85 dX1_leastOfRows_11 (by decide) (fun h11 => absurd ((nI_ltI (by omega) (by omega)).mp h11) (by omega)) (fun h11 => ?_)
      refine v_iload dX1_leastOfRows_14 rfl ?_
      refine v_iload_n dX1_leastOfRows_16 rfl ?_
      refine v_iconst (-1) dX1_leastOfRows_17 (by decide) ?_
      refine v_ixor dX1_leastOfRows_18 ?_
      refine v_iand dX1_leastOfRows_19 ?_
      rw [andnot]
      refine v_if_ne 79 dX1_leastOfRows_20 (by decide) (fun h20 => ?_) (fun h20 => absurd ((nI0 (by omega)).mp (Decidable.not_not.mp h20)) hd)
      refine v_iinc 1 dX1_leastOfRows_79 rfl (by decide) rfl (by decide) ?_
      refine v_goto 8 dX1_leastOfRows_82 (by decide) ?_
      (rw [nI_1]; exact hsk _ _)
theorem c1_leastOfRows (hS : Sh M) {nw A P t g : Nat} {a x : Nat → Nat} (h10 : nw ≤ 10) (hA : A < 2 ^ nw) (hP : P < 2 ^ 28) (hg : g < 2 ^ 30) (hx : ∀ w, w < nw → x w ≤ 19) (hr : RowsOK M nw A P a x) : Ct G Y1_leastOfRows 1 0 0 [.ref 201, .int (nI A), .int (nI t), .int (nI g)] M (Rv (some (.long (encL (mnF (okG A P a g) (xS x) (dsT t) (A + 1))))) M) NX := by
  refine Ct.of k1_leastOfRows.1 (Nat.le_of_ble_eq_true rfl) ?_
  refine v_ldc2 (-1) dX1_leastOfRows_0 K1_22 ?_
  refine v_lstore dX1_leastOfRows_3 rfl (by decide) ?_
  refine v_iconst 0 dX1_leastOfRows_5 (by decide) ?_
  refine v_istore dX1_leastOfRows_6 rfl (by decide) ?_
  -- at 8: .iload 6
  refine v_pad (v_pad ?_)
  exact l1_leastOfRows G M hS h10 hA hP hg hx hr (A + 1) 0 none none (by omega)
end D3
