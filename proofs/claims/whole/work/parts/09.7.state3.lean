/-! ===== the class: State, changes ===== -/
theorem cpM_ob (M : mM) {q1 q0 n a b : Nat} (h : a ≠ q1) : gI (cpM M q1 q0 n) a b = gI M a b := if_neg (fun z => h z.1)
theorem flI_in (M : mM) {q n b : Nat} (v : Int32) (h : b < n) : gI (flI M q n v) q b = v := if_pos ⟨rfl, h⟩
theorem flI_ob (M : mM) {q n a b : Nat} (v : Int32) (h : a ≠ q) : gI (flI M q n v) a b = gI M a b := if_neg (fun z => h z.1)
theorem flI_sm {W : Nat → Nat → Bool} {M0 M : mM} (h : Sm W M0 M) {q n : Nat} (v : Int32) (w : ∀ k, k < n → W q k = true) : Sm W M0 (flI M q n v) := ⟨h.1, h.2.1, h.2.2.1, h.2.2.2.1, fun a b z => by
  show (if a = q ∧ b < n then v else gI M a b) = _
  by_cases e : a = q ∧ b < n
  · rw [e.1, w b e.2] at z; cases z
  · rw [if_neg e]; exact h.2.2.2.2 a b z⟩
theorem pkR_cg {b b' : Nat → Int32} {c : Nat} (h : ∀ m, m < 6 → b' (6 * c + m) = b (6 * c + m)) : ∀ m, m ≤ 6 → pkR b' c m = pkR b c m := by
  intro m
  induction m with
  | zero => intro _; rfl
  | succ m ih => intro hm; rw [pkR, pkR, ih (by omega)]; unfold nb; rw [h m (by omega)]
/-- another state of the same marks -/
theorem StD.ch {M M' : mM} {s : Nat} {K K' : Nat → Int32} (h : StD M s K) (hP : WP K) (e1 : gI M' (s + 1) = gI M (s + 1)) (e2 : gI M' (s + 2) = gI M (s + 2)) (e3 : gI M' (s + 3) = gI M (s + 3)) (hp : ∀ i, plI i → K' i = K i) (hm : ∀ i, i < 84 → K' (9 + i) = K (9 + i))
    (hc : ∀ p, p < 6 → gI M' (s + 4) p = K' (97 + p) ∧ gI M' (s + 5) p = K' (103 + p)) (h5 : gI M' s 5 = K' 93) (h6 : gI M' s 6 = K' 96) (h7 : gI M' s 7 = K' 95) (h8 : gI M' s 8 = K' 94) : StD M' s K' := by
  refine ⟨fun c hcc => ?_, hc, h5, h6, h7, h8⟩
  have h14 := hP.2.1.2
  have n6 := hP.1.2.2
  rw [kn_cg (hp 2 (Or.inl (by omega)))] at hcc
  have em : ∀ m, m < kn K 1 → K' (9 + 6 * c + m) = K (9 + 6 * c + m) := fun m hmm => by
    have := hm (6 * c + m) (by omega)
    rw [show 9 + (6 * c + m) = 9 + 6 * c + m by omega] at this
    exact this
  rw [e1, e2, e3, kn_cg (hp 1 (Or.inl (by omega))), trN_K hP hp false em, trN_K hP hp true em, pkR_cg (b := cur K) (b' := cur K') (fun m hmm => hm _ (by omega)) _ n6]
  exact h.1 c hcc
theorem tb_mul (v k i : Nat) : (v * 2 ^ k).testBit i = (decide (k ≤ i) && v.testBit (i - k)) := by
  rw [← Nat.shiftLeft_eq, Nat.testBit_shiftLeft]
theorem pkR_bit {b : Nat → Int32} (c : Nat) (h : ∀ m, m < 6 → nb b (6 * c + m) ≤ 9) {n : Nat} (hn : n ≤ 6) (i : Nat) : (pkR b c n).testBit i = (decide (i / 4 < n) && (nb b (6 * c + i / 4)).testBit (i % 4)) := by
  by_cases hk : i / 4 < n
  · rw [decide_eq_true hk, Bool.true_and, ← pkR_at c h n hn hk, ← pow16, Nat.testBit_eq_decide_div_mod_eq, Nat.testBit_eq_decide_div_mod_eq]
    have e : 2 ^ i = 2 ^ (4 * (i / 4)) * 2 ^ (i % 4) := by rw [← Nat.pow_add]; congr 1; omega
    rw [e, ← Nat.div_div_eq_div_mul]
    generalize pkR b c n / 2 ^ (4 * (i / 4)) = x
    have h4 : i % 4 < 4 := Nat.mod_lt _ (by decide)
    congr 1
    obtain e | e | e | e : i % 4 = 0 ∨ i % 4 = 1 ∨ i % 4 = 2 ∨ i % 4 = 3 := by omega
    all_goals (rw [e]; apply propext; omega)
  · rw [decide_eq_false hk, Bool.false_and]
    refine testBit_big (n := 4 * n) ?_ (by omega)
    rw [pow16]
    exact pkR_lt c h n hn
theorem pk_set {K : Nat → Int32} {c m v n : Nat} (hb : ∀ i, i < 84 → cur K i = nI (nb (cur K) i) ∧ nb (cur K) i ≤ 9) (hc : c < 14) (hn : n ≤ 6) (hm : m < n) (hv : v ≤ 9) : dif (pkR (cur K) c n) (15 * 2 ^ (4 * m)) ||| v * 2 ^ (4 * m) = pkR (cur (uK K (9 + 6 * c + m) (nI v))) c n := by
  have h1 : ∀ m, m < 6 → nb (cur K) (6 * c + m) ≤ 9 := fun m hm => (hb _ (by omega)).2
  have e : ∀ j, j < 6 → nb (cur (uK K (9 + 6 * c + m) (nI v))) (6 * c + j) = if j = m then v else nb (cur K) (6 * c + j) := by
    intro j hj
    unfold nb cur
    by_cases h : j = m
    · subst h; rw [show 9 + (6 * c + j) = 9 + 6 * c + j by omega, uK_s, if_pos rfl, nI_clamp (by omega)]
    · rw [uK_n _ _ (by omega), if_neg h]
  have h2 : ∀ j, j < 6 → nb (cur (uK K (9 + 6 * c + m) (nI v))) (6 * c + j) ≤ 9 := fun j hj => by
    rw [e j hj]
    split
    · exact hv
    · exact h1 j hj
  apply Nat.eq_of_testBit_eq
  intro i
  rw [pkR_bit c h2 hn, Nat.testBit_or, dif_bit, pkR_bit c h1 hn, tb_mul, tb_mul]
  have h4 : i % 4 < 4 := Nat.mod_lt _ (by decide)
  by_cases hk : i / 4 < n
  · rw [decide_eq_true hk, Bool.true_and, Bool.true_and, e _ (by omega)]
    by_cases hi : i / 4 = m
    · rw [if_pos hi, decide_eq_true (show 4 * m ≤ i by omega), show i - 4 * m = i % 4 by omega]
      have h15 : Nat.testBit 15 (i % 4) = true := by
        obtain e | e | e | e : i % 4 = 0 ∨ i % 4 = 1 ∨ i % 4 = 2 ∨ i % 4 = 3 := by omega
        all_goals (rw [e]; decide)
      rw [h15]
      simp
    · rw [if_neg hi]
      by_cases hl : 4 * m ≤ i
      · have b1 : Nat.testBit 15 (i - 4 * m) = false := testBit_big (n := 4) (by decide) (by omega)
        have b2 : Nat.testBit v (i - 4 * m) = false := testBit_big (n := 4) (by omega) (by omega)
        rw [b1, b2]
        simp
      · rw [decide_eq_false hl]
        simp
  · have b1 : Nat.testBit 15 (i - 4 * m) = false := testBit_big (n := 4) (by decide) (by omega)
    have b2 : Nat.testBit v (i - 4 * m) = false := testBit_big (n := 4) (by omega) (by omega)
    rw [decide_eq_false hk, b1, b2]
    simp
section C7e
variable (G : mG) (M : mM)
theorem c7_setMark {s : Nat} {K : Nat → Int32} (hs : Str M s K) (hW : WK K) {c m v : Nat} (hc : c < kn K 2) (hm : m < kn K 1) (hv : v ≤ 9) : Ct G Y7_setMark 0 0 0 [.ref s, .int (nI c), .int (nI m), .int (nI v)] M (Rv none (sI M (s + 1) c (nI (pkR (cur (uK K (9 + 6 * c + m) (nI v))) c (kn K 1))))) NX := by
  obtain ⟨⟨s1, s2, s3, s4, s5, s6, s7, s8, s9, s10, s11⟩, d1, d2, d3, d4, d5, d6⟩ := hs
  have h14 := hW.p.2.1.2
  have h6 := hW.p.1.2.2
  have hb := hW.2.2.1.1
  have e4 : (4 : Int32) * nI m = nI (4 * m) := pk_mul 4 m
  have hp : 2 ^ (4 * m) ≤ 2 ^ 20 := Nat.pow_le_pow_right (by decide) (by omega)
  have f1 : nI 15 <<< (nI (4 * m) &&& 31) = nI (15 * 2 ^ (4 * m)) := shlN (by omega) (by omega)
  have f2 : nI v <<< (nI (4 * m) &&& 31) = nI (v * 2 ^ (4 * m)) := shlN (by omega) (Nat.lt_of_le_of_lt (Nat.mul_le_mul hv hp) (by decide))
  refine Ct.of k7_setMark.1 (Nat.le_of_ble_eq_true rfl) ?_
  refine v_aload_n dX7_setMark_0 rfl ?_
  refine v_getR 7 0 _ dX7_setMark_1 f7_9 (by assumption) (by decide) (by assumption) ?_
  refine v_iload_n dX7_setMark_4 rfl ?_
  refine v_aload_n dX7_setMark_5 rfl ?_
  refine v_getR 7 0 _ dX7_setMark_6 f7_9 (by assumption) (by decide) (by assumption) ?_
  refine v_iload_n dX7_setMark_9 rfl ?_
  refine v_ialdN (c) dX7_setMark_10 (by assumption) (by simp only [n_lit, pk_mul, nI_add]) ⟨by omega, by omega⟩ ?_
  rw [(d1 c hc).1]
  refine v_bipush 15 dX7_setMark_11 (by decide) ?_
  refine v_iconst 4 dX7_setMark_13 (by decide) ?_
  refine v_iload_n dX7_setMark_14 rfl ?_
  refine v_imul dX7_setMark_15 ?_
  rw [e4]
  refine v_ishl dX7_setMark_16 ?_
  rw [show (15 : Int32) = nI 15 from rfl, f1]
  refine v_iconst (-1) dX7_setMark_17 (by decide) ?_
  refine v_ixor dX7_setMark_18 ?_
  refine v_iand dX7_setMark_19 ?_
  rw [andnot]
  refine v_iload_n dX7_setMark_20 rfl ?_
  refine v_iconst 4 dX7_setMark_21 (by decide) ?_
  refine v_iload_n dX7_setMark_22 rfl ?_
  refine v_imul dX7_setMark_23 ?_
  rw [e4]
  refine v_ishl dX7_setMark_24 ?_
  rw [f2]
  refine v_ior dX7_setMark_25 ?_
  rw [nIor, pk_set hb (by omega) h6 hm hv]
  refine v_iastN (c) dX7_setMark_26 (by assumption) (by simp only [n_lit, pk_mul, nI_add]) ⟨by omega, by omega⟩ ?_
  refine v_vret dX7_setMark_27 rfl ?_
  exact ⟨rfl, rfl⟩
theorem c7_setStake {s : Nat} (hs : StSh M s) (x : Int32) : Ct G Y7_setStake 1 0 0 [.ref s, .int x] M (Rv none (flI (sI M s 6 x) (s + 4) 6 (-1))) NX := by
  obtain ⟨s1, s2, s3, s4, s5, s6, s7, s8, s9, s10, s11⟩ := hs
  refine Ct.of k7_setStake.1 (Nat.le_of_ble_eq_true rfl) ?_
  refine v_aload_n dX7_setStake_0 rfl ?_
  refine v_iload_n dX7_setStake_1 rfl ?_
  refine v_putI 7 6 dX7_setStake_2 f7_27 (by assumption) (by decide) ?_
  refine v_aload_n dX7_setStake_5 rfl ?_
  refine v_getR 7 3 _ dX7_setStake_6 f7_21 (by assumption) (by decide) (by assumption) ?_
  refine v_iconst (-1) dX7_setStake_9 (by decide) ?_
  refine v_cSv [_, _] (cJ_fill G (sI M s 6 x) (-1) s5 (by decide)) kJ_fill dX7_setStake_10 l7_31 rfl (Nat.le_of_ble_eq_true rfl) (Nat.le_of_ble_eq_true rfl) ?_
  refine v_vret dX7_setStake_13 rfl ?_
  exact ⟨rfl, rfl⟩
theorem c7_isInQ {s I : Nat} (hs : StSh M s) (h5 : gI M s 5 = nI I) (hI : I < 2 ^ 31) {c : Nat} (hc : c < 32) : Ct G Y7_isIn 0 0 0 [.ref s, .int (nI c)] M (Rv (some (.int (bI (I.testBit c = true)))) M) NX := by
  obtain ⟨s1, s2, s3, s4, s5, s6, s7, s8, s9, s10, s11⟩ := hs
  have hb := bI_has (s := I) (k := c) hI hc
  refine Ct.of k7_isIn.1 (Nat.le_of_ble_eq_true rfl) ?_
  refine v_aload_n dX7_isIn_0 rfl ?_
  refine v_getI 7 5 dX7_isIn_1 f7_43 (by assumption) (by decide) ?_
  rw [h5]
  refine v_iload_n dX7_isIn_4 rfl ?_
  refine v_ishr dX7_isIn_5 ?_
  refine v_iconst 1 dX7_isIn_6 (by decide) ?_
  refine v_iand dX7_isIn_7 ?_
  refine v_iconst 1 dX7_isIn_8 (by decide) ?_
  refine v_icmp_ne 16 dX7_isIn_9 (by decide) (fun h9 => ?_) (fun h9 => ?_)
  · refine v_iconst 0 dX7_isIn_16 (by decide) ?_
    refine v_zret dX7_isIn_17 rfl (by first | rfl | exact bI_nb _ | assumption) ?_
    first | exact ⟨by rw [← hb, bI_f h9], rfl⟩ | exact ⟨by rw [← hb, bI_t (Decidable.not_not.mp h9)], rfl⟩
  · refine v_iconst 1 dX7_isIn_12 (by decide) ?_
    refine v_goto 17 dX7_isIn_13 (by decide) ?_
    refine v_zret dX7_isIn_17 rfl (by first | rfl | exact bI_nb _ | assumption) ?_
    first | exact ⟨by rw [← hb, bI_f h9], rfl⟩ | exact ⟨by rw [← hb, bI_t (Decidable.not_not.mp h9)], rfl⟩
def fsI (I : Nat) : Int32 := if I = 0 then -1 else nI (ntzN I)
theorem c7_firstInQ {s I : Nat} (hs : StSh M s) (h5 : gI M s 5 = nI I) (hI : I < 16384) : Ct G Y7_firstIn 1 0 0 [.ref s] M (Rv (some (.int (fsI I))) M) NX := by
  obtain ⟨s1, s2, s3, s4, s5, s6, s7, s8, s9, s10, s11⟩ := hs
  refine Ct.of k7_firstIn.1 (Nat.le_of_ble_eq_true rfl) ?_
  unfold fsI
  by_cases h0 : I = 0
  · rw [if_pos h0]
    refine v_aload_n dX7_firstIn_0 rfl ?_
    refine v_getI 7 5 dX7_firstIn_1 f7_43 (by assumption) (by decide) ?_
    rw [h5, h0]
    refine v_if_ne 11 dX7_firstIn_4 (by decide) (fun h4 => absurd rfl h4) (fun h4 => ?_)
    refine v_iconst (-1) dX7_firstIn_7 (by decide) ?_
    refine v_goto 18 dX7_firstIn_8 (by decide) ?_
    refine v_iret dX7_firstIn_18 rfl ?_
    exact ⟨rfl, rfl⟩
  · rw [if_neg h0]
    refine v_aload_n dX7_firstIn_0 rfl ?_
    refine v_getI 7 5 dX7_firstIn_1 f7_43 (by assumption) (by decide) ?_
    rw [h5]
    refine v_if_ne 11 dX7_firstIn_4 (by decide) (fun h4 => ?_) (fun h4 => absurd ((nI0 (by omega)).mp (Decidable.not_not.mp h4)) h0)
    refine v_aload_n dX7_firstIn_11 rfl ?_
    refine v_getI 7 5 dX7_firstIn_12 f7_43 (by assumption) (by decide) ?_
    rw [h5]
    refine v_cS [_] (cJ_ntz G M _) kJ_ntz dX7_firstIn_15 l7_102 rfl (Nat.le_of_ble_eq_true rfl) (Nat.le_of_ble_eq_true rfl) ?_
    refine v_iret dX7_firstIn_18 rfl ?_
    exact ⟨by rw [ntz_n hI h0], rfl⟩
/-- the first behind c, else the first -/
def bhN (I c : Nat) : Int32 := if dif I (2 ^ (c + 1) - 1) = 0 then fsI I else nI (ntzN (dif I (2 ^ (c + 1) - 1)))
theorem shl_m2 {c : Nat} (hc : c < 14) : (-2 : Int32) <<< (nI c &&& 31) = nI (2 ^ (c + 1) - 1) ^^^ (-1) := by
  have : ∀ c, c < 14 → (-2 : Int32) <<< (nI c &&& 31) = nI (2 ^ (c + 1) - 1) ^^^ (-1) := by decide +kernel
  exact this c hc
theorem c7_nextInQ {s I : Nat} (hs : StSh M s) (h5 : gI M s 5 = nI I) (hI : I < 16384) {c : Nat} (hc : c < 14) : Ct G Y7_nextIn 2 0 0 [.ref s, .int (nI c)] M (Rv (some (.int (bhN I c))) M) NX := by
  have hs1 := hs.1
  have hd : dif I (2 ^ (c + 1) - 1) < 16384 := dif_lt hI
  refine Ct.of k7_nextIn.1 (Nat.le_of_ble_eq_true rfl) ?_
  unfold bhN
  by_cases h0 : dif I (2 ^ (c + 1) - 1) = 0
  · rw [if_pos h0]
    refine v_aload_n dX7_nextIn_0 rfl ?_
    refine v_getI 7 5 dX7_nextIn_1 f7_43 (by assumption) (by decide) ?_
    rw [h5]
    refine v_bipush (-2) dX7_nextIn_4 (by decide) ?_
    refine v_iload_n dX7_nextIn_6 rfl ?_
    refine v_ishl dX7_nextIn_7 ?_
    rw [shl_m2 hc]
    refine v_iand dX7_nextIn_8 ?_
    rw [andnot, h0]
    refine v_istore_n dX7_nextIn_9 rfl (by decide) ?_
    refine v_iload_n dX7_nextIn_10 rfl ?_
    refine v_if_ne 21 dX7_nextIn_11 (by decide) (fun h11 => absurd rfl h11) (fun h11 => ?_)
    refine v_aload_n dX7_nextIn_14 rfl ?_
    refine v_cV [] (c7_firstInQ G M hs h5 hI) k7_firstIn dX7_nextIn_15 l7_64 (by assumption) (by decide) rfl (Nat.le_of_ble_eq_true rfl) (Nat.le_of_ble_eq_true rfl) ?_
    refine v_goto 25 dX7_nextIn_18 (by decide) ?_
    refine v_iret dX7_nextIn_25 rfl ?_
    exact ⟨rfl, rfl⟩
  · rw [if_neg h0]
    refine v_aload_n dX7_nextIn_0 rfl ?_
    refine v_getI 7 5 dX7_nextIn_1 f7_43 (by assumption) (by decide) ?_
    rw [h5]
    refine v_bipush (-2) dX7_nextIn_4 (by decide) ?_
    refine v_iload_n dX7_nextIn_6 rfl ?_
    refine v_ishl dX7_nextIn_7 ?_
    rw [shl_m2 hc]
    refine v_iand dX7_nextIn_8 ?_
    rw [andnot]
    refine v_istore_n dX7_nextIn_9 rfl (by decide) ?_
    refine v_iload_n dX7_nextIn_10 rfl ?_
    refine v_if_ne 21 dX7_nextIn_11 (by decide) (fun h11 => ?_) (fun h11 => absurd ((nI0 (by omega)).mp (Decidable.not_not.mp h11)) h0)
    refine v_iload_n dX7_nextIn_21 rfl ?_
    refine v_cS [_] (cJ_ntz G M _) kJ_ntz dX7_nextIn_22 l7_102 rfl (Nat.le_of_ble_eq_true rfl) (Nat.le_of_ble_eq_true rfl) ?_
    refine v_iret dX7_nextIn_25 rfl ?_
    exact ⟨by rw [ntz_n hd h0], rfl⟩
theorem behF_hit {p : Nat → Bool} {nc c : Nat} : ∀ n k t, k ≤ t → t < k + n → p ((c + t) % nc) = true → (∀ u, k ≤ u → u < t → p ((c + u) % nc) = false) → behF p nc c n k = nI ((c + t) % nc) := by
  intro n
  induction n with
  | zero => intro k t h1 h2; omega
  | succ n ih =>
    intro k t h1 h2 h3 h4
    rw [behF]
    by_cases e : t = k
    · subst e; rw [if_pos h3]
    · rw [h4 k (Nat.le_refl _) (by omega), if_neg (by decide)]
      exact ih (k + 1) t (by omega) (by omega) h3 (fun u h5 h6 => h4 u (by omega) h6)
theorem behF_no {p : Nat → Bool} {nc c : Nat} : ∀ n k, (∀ u, k ≤ u → u < k + n → p ((c + u) % nc) = false) → behF p nc c n k = -1 := by
  intro n
  induction n with
  | zero => intro k _; rfl
  | succ n ih =>
    intro k h
    rw [behF, h k (Nat.le_refl _) (by omega), if_neg (by decide)]
    exact ih (k + 1) (fun u h5 h6 => h u (by omega) (by omega))
theorem ntzN_ok {S : Nat} (h : S < 16384) (h0 : S ≠ 0) : S.testBit (ntzN S) = true ∧ ntzN S < 14 ∧ ∀ j, j < ntzN S → S.testBit j = false := by
  have ex : ∃ j, 0 ≤ j ∧ j < 0 + 14 ∧ S.testBit j = true := by
    apply Classical.byContradiction
    intro hn
    apply h0
    exact zero_of_bits (n := 14) h (fun j hj => by
      cases hb : S.testBit j
      · rfl
      · exact absurd ⟨j, by omega, by omega, hb⟩ hn)
  have a := frm_ok (p := fun i => S.testBit i) 14 0 ex
  exact ⟨a.2.2.1, by unfold ntzN; omega, fun j hj => a.2.2.2 j (by omega) hj⟩
theorem low_bit (c i : Nat) : (2 ^ (c + 1) - 1).testBit i = decide (i < c + 1) := Nat.testBit_two_pow_sub_one _ _
theorem bh_eq {K : Nat → Int32} {I c : Nat} (h14 : kn K 2 ≤ 14) (hI : kn K 93 = I) (hl : I < 2 ^ kn K 2) (hc : c < kn K 2) : behI K c = bhN I c := by
  have hl2 : I < 16384 := Nat.lt_of_lt_of_le hl (show 2 ^ kn K 2 ≤ 2 ^ 14 from Nat.pow_le_pow_right (by omega) h14)
  unfold behI bhN
  rw [hI]
  have bd : ∀ i, (dif I (2 ^ (c + 1) - 1)).testBit i = (I.testBit i && decide (c < i)) := by
    intro i
    rw [dif_bit, low_bit]
    by_cases h : c < i
    · rw [decide_eq_true h, decide_eq_false (by omega)]; rfl
    · rw [decide_eq_false h, decide_eq_true (by omega)]; rfl
  by_cases h0 : dif I (2 ^ (c + 1) - 1) = 0
  · rw [if_pos h0]
    have hi : ∀ i, c < i → I.testBit i = false := by
      intro i h
      have := bd i
      rw [h0, Nat.zero_testBit, decide_eq_true h, Bool.and_true] at this
      exact this.symm
    unfold fsI
    by_cases hz : I = 0
    · rw [if_pos hz]
      exact behF_no _ _ (fun u _ _ => by rw [hz, Nat.zero_testBit])
    · rw [if_neg hz]
      obtain ⟨j1, j2, j3⟩ := ntzN_ok hl2 hz
      have jc : ntzN I ≤ c := Nat.le_of_not_lt (fun z => by rw [hi _ z] at j1; cases j1)
      have e : (c + (kn K 2 - c + ntzN I)) % kn K 2 = ntzN I := by
        rw [show c + (kn K 2 - c + ntzN I) = ntzN I + kn K 2 by omega, Nat.add_mod_right, Nat.mod_eq_of_lt (by omega)]
      have := behF_hit (p := fun c => I.testBit c) (nc := kn K 2) (c := c) (kn K 2) 1 (kn K 2 - c + ntzN I) (by omega) (by omega) (by rw [e]; exact j1) (fun u h1 h2 => by
        by_cases hu : c + u < kn K 2
        · rw [Nat.mod_eq_of_lt hu]; exact hi _ (by omega)
        · rw [show c + u = (c + u - kn K 2) + kn K 2 by omega, Nat.add_mod_right, Nat.mod_eq_of_lt (by omega)]
          exact j3 _ (by omega))
      rw [this, e]
  · rw [if_neg h0]
    obtain ⟨j1, j2, j3⟩ := ntzN_ok (dif_lt hl2) h0
    rw [bd, Bool.and_eq_true, decide_eq_true_eq] at j1
    have jn : ntzN (dif I (2 ^ (c + 1) - 1)) < kn K 2 := Nat.lt_of_not_le (fun z => by rw [testBit_big hl z] at j1; cases j1.1)
    have e : (c + (ntzN (dif I (2 ^ (c + 1) - 1)) - c)) % kn K 2 = ntzN (dif I (2 ^ (c + 1) - 1)) := by
      rw [show c + (ntzN (dif I (2 ^ (c + 1) - 1)) - c) = ntzN (dif I (2 ^ (c + 1) - 1)) by omega, Nat.mod_eq_of_lt jn]
    have := behF_hit (p := fun c => I.testBit c) (nc := kn K 2) (c := c) (kn K 2) 1 (ntzN (dif I (2 ^ (c + 1) - 1)) - c) (by omega) (by omega) (by rw [e]; exact j1.1) (fun u h1 h2 => by
      rw [Nat.mod_eq_of_lt (by omega)]
      have := j3 (c + u) (by omega)
      rw [bd, decide_eq_true (by omega), Bool.and_true] at this
      exact this)
    rw [this, e]
theorem fs_eq {K : Nat → Int32} {I : Nat} (h14 : kn K 2 ≤ 14) (hI : kn K 93 = I) (hl : I < 2 ^ kn K 2) : fstI K = fsI I := by
  rw [fstI_eqP h14 (by rw [hI]; exact hl), hI]
  rfl
theorem StSh.mv {M M' : mM} {s : Nat} (h : StSh M s) (hT : gT M' = gT M) (hR : gR M' = gR M) : StSh M' s := by
  unfold StSh at h ⊢
  rw [hT, hR]
  exact h
/-- the stake set, claims over: the state says so -/
theorem StD.stk {M M1 : mM} {s : Nat} {K K1 : Nat → Int32} {x : Int32} (h : StD M s K) (hP : WP K) (hM : ∀ q, s + 1 ≤ q → q ≤ s + 3 → gI M1 q = gI M q) (hp : ∀ i, plI i → K1 i = K i) (hm : ∀ i, i < 84 → K1 (9 + i) = K (9 + i)) (hw : ∀ p, p < 6 → gI M1 (s + 5) p = K1 (103 + p)) (h5 : gI M1 s 5 = K1 93) (h7 : gI M1 s 7 = K1 95) (h8 : gI M1 s 8 = K1 94) : StD (flI (sI M1 s 6 x) (s + 4) 6 (-1)) s (noCl (uK K1 96 x)) := by
  have e : ∀ q, s + 1 ≤ q → q ≤ s + 3 → gI (flI (sI M1 s 6 x) (s + 4) 6 (-1)) q = gI M q := fun q h1 h2 => by
    funext k
    rw [flI_ob _ _ (by omega), gI_sq _ _ (by omega), hM q h1 h2]
  refine h.ch hP (e _ (by omega) (by omega)) (e _ (by omega) (by omega)) (e _ (by omega) (by omega)) (fun i hi => ?_) (fun i hi => ?_) (fun p hp6 => ⟨?_, ?_⟩) ?_ ?_ ?_ ?_
  · unfold plI at hi; rw [noCl_o (by omega), uK_n _ _ (by omega), hp i (by unfold plI; omega)]
  · rw [noCl_o (by omega), uK_n _ _ (by omega), hm i hi]
  · rw [flI_in _ _ hp6, noCl_in hp6]
  · rw [flI_ob _ _ (by omega), gI_sq _ _ (by omega), noCl_o (by omega), uK_n _ _ (by omega), hw p hp6]
  · rw [flI_ob _ _ (by omega), gI_sk _ _ (by omega), noCl_o (by omega), uK_n _ _ (by omega), h5]
  · rw [flI_ob _ _ (by omega), gI_ss, noCl_o (by omega), uK_s]
  · rw [flI_ob _ _ (by omega), gI_sk _ _ (by omega), noCl_o (by omega), uK_n _ _ (by omega), h7]
  · rw [flI_ob _ _ (by omega), gI_sk _ _ (by omega), noCl_o (by omega), uK_n _ _ (by omega), h8]
theorem stk_sm {W : Nat → Nat → Bool} {M0 M : mM} (h : Sm W M0 M) {s : Nat} (x : Int32) (w : ∀ q k, s ≤ q → q ≤ s + 5 → W q k = true) : Sm W M0 (flI (sI M s 6 x) (s + 4) 6 (-1)) := flI_sm (h.st _ (w s 6 (by omega) (by omega))) _ (fun k _ => w (s + 4) k (by omega) (by omega))
theorem Wsd_w {s : Nat} : ∀ q k, s ≤ q → q ≤ s + 5 → Wsd s q k = true := fun q k h1 h2 => Wsd_i ⟨h1, h2⟩ k
theorem c7_carryChest {s : Nat} {K : Nat → Int32} (hs : Str M s K) (hW : WK K) {c : Nat} (hc : c < kn K 2) : Ct G Y7_carryChest 2 0 0 [.ref s, .int (nI c)] M (Rs none (fun M' => Sm (Wsd s) M M' ∧ Str M' s (carK K c))) NX := by
  obtain ⟨hsh, hsd⟩ := hs
  have hsd0 := hsd
  obtain ⟨d1, d2, d3, d4, d5, d6⟩ := hsd
  have hs1 := hsh.1
  have h14 := hW.p.2.1.2
  have hin := in_lt hW.p hW.i
  have hI' : kn K 93 ^^^ 2 ^ c < 2 ^ kn K 2 := xor_bit1 hW.i.2 hc
  have hI2 : kn K 93 ^^^ 2 ^ c < 16384 := Nat.lt_of_lt_of_le hI' (show 2 ^ kn K 2 ≤ 2 ^ 14 from Nat.pow_le_pow_right (by omega) h14)
  have hsm : Sm (Wsd s) M (sI M s 5 (nI (kn K 93 ^^^ 2 ^ c))) := Sm.rf.st _ (Wsd_w s 5 (by omega) (by omega))
  have hsh1 : StSh (sI M s 5 (nI (kn K 93 ^^^ 2 ^ c))) s := hsh
  have h5 : gI (sI M s 5 (nI (kn K 93 ^^^ 2 ^ c))) s 5 = nI (kn K 93 ^^^ 2 ^ c) := gI_ss _ _ _ _
  have e93 : kn (inK K (kn K 93 ^^^ 2 ^ c)) 93 = kn K 93 ^^^ 2 ^ c := inK_93 (by omega)
  have ef : fstI (inK K (kn K 93 ^^^ 2 ^ c)) = fsI (kn K 93 ^^^ 2 ^ c) := fs_eq (by rw [kn_cg (inK_o (i := 2) (by decide))]; exact h14) e93 (by rw [kn_cg (inK_o (i := 2) (by decide))]; exact hI')
  have fin : ¬ (K 96 ≠ -1 ∧ (kn K 93 ^^^ 2 ^ c).testBit (kn K 96) = true) → V G Y7_carryChest 2 0 0 (Rs none (fun M' => Sm (Wsd s) M M' ∧ Str M' s (carK K c))) NX 31 [some (.ref s), some (.int (nI c))] [] (sI M s 5 (nI (kn K 93 ^^^ 2 ^ c))) := by
    intro hn
    have ec : carK K c = noCl (uK (inK K (kn K 93 ^^^ 2 ^ c)) 96 (fsI (kn K 93 ^^^ 2 ^ c))) := by
      rw [carK, if_neg hn, ← ef]
      rfl
    rw [ec]
    refine v_aload_n dX7_carryChest_31 rfl ?_
    refine v_aload_n dX7_carryChest_32 rfl ?_
    refine v_cV [] (c7_firstInQ G _ hsh1 h5 hI2) k7_firstIn dX7_carryChest_33 l7_64 (by assumption) (by decide) rfl (Nat.le_of_ble_eq_true rfl) (Nat.le_of_ble_eq_true rfl) ?_
    refine v_cVv [_] (c7_setStake G _ hsh1 _) k7_setStake dX7_carryChest_36 l7_68 (by assumption) (by decide) rfl (Nat.le_of_ble_eq_true rfl) (Nat.le_of_ble_eq_true rfl) ?_
    refine v_vret dX7_carryChest_39 rfl ?_
    skip
    refine ⟨rfl, stk_sm hsm _ Wsd_w, hsh, ?_⟩
    exact hsd0.stk hW.p (fun q h1 h2 => gI_sr _ _ (by omega)) inK_p (fun i hi => inK_o (by omega)) (fun p hp => by rw [gI_sq _ _ (by omega), inK_o (by omega)]; exact (d2 p hp).2) (by rw [gI_ss]; exact (uK_s _ _ _).symm) (by rw [gI_sk _ _ (by decide), inK_o (by decide)]; exact d5) (by rw [gI_sk _ _ (by decide), inK_o (by decide)]; exact d6)
  have done : (K 96 ≠ -1 ∧ (kn K 93 ^^^ 2 ^ c).testBit (kn K 96) = true) → Str (sI M s 5 (nI (kn K 93 ^^^ 2 ^ c))) s (carK K c) := by
    intro h
    rw [carK, if_pos h]
    refine ⟨hsh, hsd0.ch hW.p (gI_sr _ _ (by omega)) (gI_sr _ _ (by omega)) (gI_sr _ _ (by omega)) inK_p (fun i hi => inK_o (by omega)) (fun p hp => ?_) (by rw [gI_ss]; exact (uK_s _ _ _).symm) (by rw [gI_sk _ _ (by decide), uK_n _ _ (by decide)]; exact d4) (by rw [gI_sk _ _ (by decide), uK_n _ _ (by decide)]; exact d5) (by rw [gI_sk _ _ (by decide), uK_n _ _ (by decide)]; exact d6)⟩
    rw [gI_sq _ _ (by omega), gI_sq _ _ (by omega), uK_n _ _ (by omega), uK_n _ _ (by omega)]
    exact d2 p hp
  have e6 : gI (sI M s 5 (nI (kn K 93 ^^^ 2 ^ c))) s 6 = K 96 := (gI_sk _ _ (by decide)).trans d4
  refine Ct.of k7_carryChest.1 (Nat.le_of_ble_eq_true rfl) ?_
  rcases hW.s with ⟨hs0, hs9⟩ | ⟨st, hs0, hst, hst2⟩
  · refine v_aload_n dX7_carryChest_0 rfl ?_
    refine v_dup dX7_carryChest_1 rfl ?_
    refine v_getI 7 5 dX7_carryChest_2 f7_43 (by assumption) (by decide) ?_
    rw [d3, hW.i.1]
    refine v_iconst 1 dX7_carryChest_5 (by decide) ?_
    refine v_iload_n dX7_carryChest_6 rfl ?_
    refine v_ishl dX7_carryChest_7 ?_
    rw [shl1 (by omega)]
    refine v_ixor dX7_carryChest_8 ?_
    rw [nIxor]
    refine v_putI 7 5 dX7_carryChest_9 f7_43 (by assumption) (by decide) ?_
    refine v_aload_n dX7_carryChest_12 rfl ?_
    refine v_getI 7 6 dX7_carryChest_13 f7_27 (by assumption) (by decide) ?_
    rw [e6, hs0]
    refine v_iconst (-1) dX7_carryChest_16 (by decide) ?_
    refine v_icmp_eq 31 dX7_carryChest_17 (by decide) (fun h17 => ?_) (fun h17 => absurd rfl h17)
    exact fin (fun z => z.1 hs0)
  · have hk := kn_n hs0 (by omega)
    by_cases hb : (kn K 93 ^^^ 2 ^ c).testBit st = true
    · have hcon := c7_isInQ G _ hsh1 h5 (by omega) (c := st) (by omega)
      rw [bI_t hb] at hcon
      refine v_aload_n dX7_carryChest_0 rfl ?_
      refine v_dup dX7_carryChest_1 rfl ?_
      refine v_getI 7 5 dX7_carryChest_2 f7_43 (by assumption) (by decide) ?_
      rw [d3, hW.i.1]
      refine v_iconst 1 dX7_carryChest_5 (by decide) ?_
      refine v_iload_n dX7_carryChest_6 rfl ?_
      refine v_ishl dX7_carryChest_7 ?_
      rw [shl1 (by omega)]
      refine v_ixor dX7_carryChest_8 ?_
      rw [nIxor]
      refine v_putI 7 5 dX7_carryChest_9 f7_43 (by assumption) (by decide) ?_
      refine v_aload_n dX7_carryChest_12 rfl ?_
      refine v_getI 7 6 dX7_carryChest_13 f7_27 (by assumption) (by decide) ?_
      rw [e6, hs0]
      refine v_iconst (-1) dX7_carryChest_16 (by decide) ?_
      refine v_icmp_eq 31 dX7_carryChest_17 (by decide) (fun h17 => absurd h17 (nI_m1 (by omega))) (fun h17 => ?_)
      refine v_aload_n dX7_carryChest_20 rfl ?_
      refine v_aload_n dX7_carryChest_21 rfl ?_
      refine v_getI 7 6 dX7_carryChest_22 f7_27 (by assumption) (by decide) ?_
      rw [e6, hs0]
      refine v_cV [_] (hcon) k7_isIn dX7_carryChest_25 l7_86 (by assumption) (by decide) rfl (Nat.le_of_ble_eq_true rfl) (Nat.le_of_ble_eq_true rfl) ?_
      refine v_if_ne 39 dX7_carryChest_28 (by decide) (fun h28 => ?_) (fun h28 => absurd (by decide) h28)
      refine v_vret dX7_carryChest_39 rfl ?_
      exact ⟨rfl, hsm, done ⟨by rw [hs0]; exact nI_m1 (by omega), by rw [hk]; exact hb⟩⟩
    · have hcon := c7_isInQ G _ hsh1 h5 (by omega) (c := st) (by omega)
      rw [bI_f hb] at hcon
      refine v_aload_n dX7_carryChest_0 rfl ?_
      refine v_dup dX7_carryChest_1 rfl ?_
      refine v_getI 7 5 dX7_carryChest_2 f7_43 (by assumption) (by decide) ?_
      rw [d3, hW.i.1]
      refine v_iconst 1 dX7_carryChest_5 (by decide) ?_
      refine v_iload_n dX7_carryChest_6 rfl ?_
      refine v_ishl dX7_carryChest_7 ?_
      rw [shl1 (by omega)]
      refine v_ixor dX7_carryChest_8 ?_
      rw [nIxor]
      refine v_putI 7 5 dX7_carryChest_9 f7_43 (by assumption) (by decide) ?_
      refine v_aload_n dX7_carryChest_12 rfl ?_
      refine v_getI 7 6 dX7_carryChest_13 f7_27 (by assumption) (by decide) ?_
      rw [e6, hs0]
      refine v_iconst (-1) dX7_carryChest_16 (by decide) ?_
      refine v_icmp_eq 31 dX7_carryChest_17 (by decide) (fun h17 => absurd h17 (nI_m1 (by omega))) (fun h17 => ?_)
      refine v_aload_n dX7_carryChest_20 rfl ?_
      refine v_aload_n dX7_carryChest_21 rfl ?_
      refine v_getI 7 6 dX7_carryChest_22 f7_27 (by assumption) (by decide) ?_
      rw [e6, hs0]
      refine v_cV [_] (hcon) k7_isIn dX7_carryChest_25 l7_86 (by assumption) (by decide) rfl (Nat.le_of_ble_eq_true rfl) (Nat.le_of_ble_eq_true rfl) ?_
      refine v_if_ne 39 dX7_carryChest_28 (by decide) (fun h28 => absurd rfl h28) (fun h28 => ?_)
      exact fin (fun z => hb (by rw [← hk]; exact z.2))
end C7e
