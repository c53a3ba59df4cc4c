/-! ===== the class: Describer, hardening ===== -/
theorem mS_and (P I : Nat) (a : Nat → Nat) (S : Nat) : mS P a S &&& I = mS (P &&& I) a S := by
  apply Nat.eq_of_testBit_eq
  intro i
  apply Bool.eq_iff_iff.mpr
  unfold mS
  rw [Nat.testBit_and, Bool.and_eq_true, mF_bit, mF_bit, Nat.testBit_and, Bool.and_eq_true]
  constructor
  · rintro ⟨⟨h1, h2⟩, h3⟩; exact ⟨⟨h1, h3⟩, h2⟩
  · rintro ⟨⟨h1, h3⟩, h2⟩; exact ⟨⟨h1, h2⟩, h3⟩
theorem all_and {nc I : Nat} (h : I < 2 ^ nc) : (2 ^ nc - 1) &&& I = I := by
  rw [Nat.and_comm, Nat.and_two_pow_sub_one_eq_mod, Nat.mod_eq_of_lt h]
theorem mnF_min {ok : Nat → Bool} {cs ds : Nat → Nat} : ∀ n, match mnF ok cs ds n with
    | none => ∀ s, s < n → ok s = false
    | some (c, _) => (∃ s, s < n ∧ ok s = true ∧ cs s = c) ∧ ∀ s, s < n → ok s = true → c ≤ cs s := by
  intro n
  induction n with
  | zero => intro s h; omega
  | succ n ih =>
    by_cases hk : ok n = true
    · cases h0 : mnF ok cs ds n with
      | none =>
        rw [h0] at ih
        rw [mnF_t0 hk h0]
        refine ⟨⟨n, by omega, hk, rfl⟩, fun s hs hok => ?_⟩
        by_cases e : s = n
        · subst e; exact Nat.le_refl _
        · rw [ih s (by omega)] at hok; cases hok
      | some z =>
        obtain ⟨c, d⟩ := z
        rw [h0] at ih
        obtain ⟨⟨s0, a1, a2, a3⟩, i2⟩ := ih
        by_cases h2 : cs n < c ∨ (cs n = c ∧ ds n < d)
        · rw [mnF_t1 hk h0 h2]
          refine ⟨⟨n, by omega, hk, rfl⟩, fun s hs hok => ?_⟩
          by_cases e : s = n
          · subst e; exact Nat.le_refl _
          · have := i2 s (by omega) hok; omega
        · rw [mnF_t2 hk h0 h2]
          refine ⟨⟨s0, by omega, a2, a3⟩, fun s hs hok => ?_⟩
          by_cases e : s = n
          · subst e; omega
          · exact i2 s (by omega) hok
    · rw [mnF_f hk]
      cases h0 : mnF ok cs ds n with
      | none =>
        rw [h0] at ih
        intro s hs
        by_cases e : s = n
        · subst e; exact nt hk
        · exact ih s (by omega)
      | some z =>
        obtain ⟨c, d⟩ := z
        rw [h0] at ih
        obtain ⟨⟨s0, a1, a2, a3⟩, i2⟩ := ih
        refine ⟨⟨s0, by omega, a2, a3⟩, fun s hs hok => ?_⟩
        by_cases e : s = n
        · subst e; exact absurd hok hk
        · exact i2 s (by omega) hok
theorem inK_dsc {K : Nat → Int32} (hP : WP K) (I : Nat) {c : Nat} (hc : c < 14) (S : Nat) : dsc (inK K I) c S = dsc K c S := by
  unfold dsc
  rw [inK_trH hP I hc]
theorem inK_cost {K : Nat → Int32} (I d : Nat) : costN (inK K I) d = costN K d := by
  have e : ∀ i, i ≠ 93 → kn (inK K I) i = kn K i := fun i h => kn_cg (inK_o h)
  have : ∀ w, w ≤ kn K 3 → costF (inK K I) d w = costF K d w := by
    intro w
    induction w with
    | zero => intro _; rfl
    | succ w ih =>
      intro hw
      rw [costF_s, costF_s, ih (by omega)]
      unfold costW
      rw [e (109 + w) (by omega), e 95 (by decide), e 5 (by decide)]
  unfold costN
  rw [e 3 (by decide)]
  exact this _ (Nat.le_refl _)
theorem fitN_cg {nc I d : Nat} {h h' : Nat → Nat} (e : ∀ c, c < nc → h' c = h c) : fitN nc I h' d = fitN nc I h d := bset_ext (fun c hc => by rw [e c hc])
/-- no set of words tells c at less than n -/
def hrB (K : Nat → Int32) (I c n : Nat) : Bool := decide (∀ S, S < 2 ^ kn K 3 → fitN (kn K 2) I (trH K) (dsc K c S) = 2 ^ c → n ≤ costN K (dsc K c S))
theorem hdB_eq {K : Nat → Int32} (hP : WP K) {c n s : Nat} (hc : c < kn K 2) (hI : kn K 93 ||| s < 2 ^ 31) (hn : n < 2 ^ 31) : hdB K c (nI n) s = hrB K (kn K 93 ||| s) c n := by
  have h14 := hP.2.1.2
  have haw := aw_lt hP
  have hpw := Nat.one_le_two_pow (n := kn K 3)
  obtain ⟨I, eI⟩ : ∃ I, I = kn K 93 ||| s := ⟨_, rfl⟩
  unfold hdB hrB
  rw [← eI] at hI ⊢
  have e3 : kn (inK K I) 3 = kn K 3 := kn_cg (inK_o (by decide))
  have e2 : kn (inK K I) 2 = kn K 2 := kn_cg (inK_o (by decide))
  have hm := mnF_min (ok := okL (inK K I) c (2 ^ kn K 3 - 1) false) (cs := fun s => costN (inK K I) (dsc (inK K I) c s)) (ds := dsc (inK K I) c) (2 ^ kn K 3 - 1 + 1)
  have hok : ∀ S, S < 2 ^ kn K 3 → (okL (inK K I) c (2 ^ kn K 3 - 1) false S = true ↔ fitN (kn K 2) I (trH K) (dsc K c S) = 2 ^ c) := by
    intro S hS
    unfold okL telB
    rw [decide_eq_true (dif_low.mpr hS), e2, inK_93 hI, inK_dsc hP I (by omega), fitN_cg (h := trH K) (h' := trH (inK K I)) (fun d hd => inK_trH hP I (by omega))]
    simp
  have ep : prcN (inK K I) c = match mnF (okL (inK K I) c (2 ^ kn K 3 - 1) false) (fun s => costN (inK K I) (dsc (inK K I) c s)) (dsc (inK K I) c) (2 ^ kn K 3 - 1 + 1) with
    | none => -1
    | some (x, _) => nI x := by
    unfold prcN lstN
    rw [e3]
    rfl
  rw [ep]
  have ec : ∀ S, costN (inK K I) (dsc (inK K I) c S) = costN K (dsc K c S) := fun S => by rw [inK_dsc hP I (by omega), inK_cost]
  generalize mnF (okL (inK K I) c (2 ^ kn K 3 - 1) false) (fun s => costN (inK K I) (dsc (inK K I) c s)) (dsc (inK K I) c) (2 ^ kn K 3 - 1 + 1) = o at hm
  apply decide_eq_decide.mpr
  cases o with
  | none =>
    simp only at hm ⊢
    constructor
    · intro _ S hS hf
      have := hm S (by omega)
      rw [(hok S hS).mpr hf] at this
      cases this
    · intro _; exact Or.inl trivial
  | some z =>
    obtain ⟨x, d⟩ := z
    simp only at hm ⊢
    obtain ⟨⟨s0, a1, a2, a3⟩, i2⟩ := hm
    have hx : x ≤ 190 := by rw [← a3, ec]; exact costN_le hP _
    constructor
    · intro h S hS hf
      have h1 := i2 S (by omega) ((hok S hS).mpr hf)
      rw [ec] at h1
      rcases h with h | h
      · exact absurd h (nI_m1 (by omega))
      · have := (nI_leI hn (by omega)).mp h
        omega
    · intro h
      refine Or.inr (nI_le ?_ (by omega))
      have := h s0 (by omega) ((hok s0 (by omega)).mp a2)
      rw [← ec, a3] at this
      exact this
theorem nI_dis {a b : Nat} (h : a &&& b = 0) : nI a + nI b = nI (a ||| b) := by
  apply i32_ext
  rw [Int32.toBitVec_add, nI_bv, nI_bv, nI_bv, BitVec.add_eq_or_of_and_eq_zero _ _ (by rw [← BitVec.ofNat_and, h]), BitVec.ofNat_or]
theorem neg_not (x : Int32) : (0 : Int32) - x = (x - 1) ^^^ (-1) := by
  apply i32_ext
  rw [Int32.toBitVec_sub, Int32.toBitVec_xor, Int32.toBitVec_sub]
  show 0#32 - x.toBitVec = (x.toBitVec - 1#32) ^^^ BitVec.allOnes 32
  rw [BitVec.xor_allOnes, BitVec.zero_sub]
  rw [BitVec.not_eq_neg_add, BitVec.neg_sub]
  simp [BitVec.sub_eq_add_neg, BitVec.add_comm, BitVec.add_assoc]
  rw [← BitVec.add_assoc, BitVec.add_comm 1#32, BitVec.add_assoc, show (1#32 + 4294967295#32) = 0#32 by decide, BitVec.add_zero]
/-- the next set within out -/
theorem nxt_i {b out : Nat} (h : dif b out = 0) (ho : out < 16384) : (nI b - nI out) &&& nI out = nI (if dif out b = 0 then 0 else out &&& (16383 ^^^ (dif out b - 1))) := by
  have hb : b < 16384 := le_of_dif (n := 14) h ho
  have e1 : nI b + nI (dif out b) = nI out := by
    have h1 : b &&& dif out b = 0 := by
      apply Nat.eq_of_testBit_eq; intro i
      rw [Nat.testBit_and, dif_bit, Nat.zero_testBit]
      cases b.testBit i <;> simp
    have h2 : b ||| dif out b = out := by
      apply Nat.eq_of_testBit_eq; intro i
      have hz : (dif b out).testBit i = false := by rw [h, Nat.zero_testBit]
      rw [dif_bit] at hz
      rw [Nat.testBit_or, dif_bit]
      revert hz
      cases b.testBit i <;> cases out.testBit i <;> simp
    rw [nI_dis h1, h2]
  obtain ⟨r, er⟩ : ∃ r, r = dif out b := ⟨_, rfl⟩
  rw [← er] at e1 ⊢
  have e2 : nI b - nI out = (0 : Int32) - nI r := by
    rw [← e1, Int32.sub_eq_add_neg, Int32.neg_add, Int32.sub_eq_add_neg (a := -nI b), ← Int32.add_assoc, Int32.add_right_neg, Int32.zero_add, Int32.sub_eq_add_neg, Int32.zero_add]
  rw [e2]
  by_cases h0 : r = 0
  · rw [if_pos h0, h0]
    rw [show (0 : Int32) - nI 0 = nI 0 by decide, nIand]
    simp
  · rw [if_neg h0]
    have e3 : (0 : Int32) - nI r = nI (r - 1) ^^^ (-1) := by
      have : ∀ x : Int32, (0 : Int32) - x = (x - 1) ^^^ (-1) := neg_not
      rw [this, show nI r - 1 = nI (r - 1) from pk_sub (a := r) (b := 1) (Nat.pos_of_ne_zero h0)]
    rw [e3, Int32.and_comm, andnot]
    congr 1
    apply Nat.eq_of_testBit_eq
    intro i
    rw [dif_bit, Nat.testBit_and, Nat.testBit_xor]
    by_cases hi : i < 14
    · rw [show (16383 : Nat) = 2 ^ 14 - 1 from rfl, Nat.testBit_two_pow_sub_one, decide_eq_true hi, Bool.true_xor]
    · rw [testBit_big (n := 14) ho (by omega)]; simp
def nxN (b out : Nat) : Nat := if dif out b = 0 then 0 else out &&& (16383 ^^^ (dif out b - 1))
/-- the least bit of r -/
theorem sub1_bit {r : Nat} (hr : r < 16384) (h0 : r ≠ 0) : ∃ j, j < 14 ∧ r.testBit j = true ∧ (∀ i, i < j → r.testBit i = false) ∧ ∀ i, (r - 1).testBit i = (if i < j then true else if i = j then false else r.testBit i) := by
  obtain ⟨j1, j2, j3⟩ := ntzN_ok hr h0
  obtain ⟨j, ej⟩ : ∃ j, j = ntzN r := ⟨_, rfl⟩
  rw [← ej] at j1 j2 j3
  refine ⟨j, j2, j1, j3, fun i => ?_⟩
  obtain ⟨q, eq⟩ : ∃ q, r = q * 2 ^ (j + 1) + 2 ^ j := by
    have h1 : r % 2 ^ j = 0 := by
      apply Nat.eq_of_testBit_eq; intro i
      rw [Nat.testBit_mod_two_pow, Nat.zero_testBit]
      by_cases h : i < j
      · rw [j3 i h, Bool.and_false]
      · rw [decide_eq_false h]; rfl
    have h2 : r / 2 ^ j % 2 = 1 := by
      rw [Nat.testBit_eq_decide_div_mod_eq] at j1
      simpa using j1
    refine ⟨r / 2 ^ j / 2, ?_⟩
    have h3 := Nat.div_add_mod r (2 ^ j)
    have h4 := Nat.div_add_mod (r / 2 ^ j) 2
    rw [Nat.pow_succ]
    have h5 : r = 2 ^ j * (r / 2 ^ j) := by omega
    have h6 : r / 2 ^ j = 2 * (r / 2 ^ j / 2) + 1 := by omega
    calc r = 2 ^ j * (r / 2 ^ j) := h5
      _ = 2 ^ j * (2 * (r / 2 ^ j / 2) + 1) := by rw [← h6]
      _ = r / 2 ^ j / 2 * (2 ^ j * 2) + 2 ^ j := by rw [Nat.mul_add, Nat.mul_one, ← Nat.mul_assoc, Nat.mul_comm (2 ^ j * 2)]
  have hp : 0 < 2 ^ j := Nat.two_pow_pos j
  have e1 : r - 1 = q * 2 ^ (j + 1) ||| (2 ^ j - 1) := by
    rw [or_add (k := j + 1) (by rw [Nat.pow_succ]; omega)]
    omega
  have e2 : r = q * 2 ^ (j + 1) ||| 2 ^ j := by
    rw [or_add (k := j + 1) (by rw [Nat.pow_succ]; omega)]
    exact eq
  rw [e1, Nat.testBit_or, Nat.testBit_two_pow_sub_one, tb_mul]
  by_cases h : i < j
  · rw [if_pos h, decide_eq_true h, Bool.or_true]
  · rw [if_neg h, decide_eq_false h, Bool.or_false]
    by_cases h7 : i = j
    · rw [if_pos h7, decide_eq_false (by omega), Bool.false_and]
    · rw [if_neg h7, e2, Nat.testBit_or, tb_mul, Nat.testBit_two_pow, decide_eq_false (show ¬ j = i by omega), Bool.or_false]
theorem bits_lt {a b k : Nat} (h1 : a.testBit k = false) (h2 : b.testBit k = true) (h3 : ∀ i, k < i → a.testBit i = b.testBit i) : a < b := by
  apply Classical.byContradiction
  intro hn
  have h4 : b / 2 ^ k ≤ a / 2 ^ k := Nat.div_le_div_right (by omega)
  have h5 : a / 2 ^ k / 2 = b / 2 ^ k / 2 := by
    apply Nat.eq_of_testBit_eq
    intro i
    rw [Nat.testBit_div_two, Nat.testBit_div_two, Nat.testBit_div_two_pow, Nat.testBit_div_two_pow]
    exact h3 _ (by omega)
  rw [Nat.testBit_eq_decide_div_mod_eq] at h1 h2
  have h6 : ¬ a / 2 ^ k % 2 = 1 := by simpa using h1
  have h7 : b / 2 ^ k % 2 = 1 := by simpa using h2
  omega
theorem nx_bit {b out : Nat} (ho : out < 16384) (h0 : dif out b ≠ 0) : ∃ j, j < 14 ∧ out.testBit j = true ∧ b.testBit j = false ∧ (∀ i, i < j → (nxN b out).testBit i = false) ∧ (nxN b out).testBit j = true ∧ (∀ i, j < i → (nxN b out).testBit i = (out.testBit i && b.testBit i)) ∧ ∀ i, i < j → (dif out b).testBit i = false := by
  obtain ⟨j, j1, j2, j0, j3⟩ := sub1_bit (dif_lt (h := b) ho) h0
  rw [dif_bit, Bool.and_eq_true] at j2
  have e : ∀ i, i < 14 → (nxN b out).testBit i = (out.testBit i && !(dif out b - 1).testBit i) := by
    intro i hi
    unfold nxN
    rw [if_neg h0, Nat.testBit_and, Nat.testBit_xor, show (16383 : Nat) = 2 ^ 14 - 1 from rfl, Nat.testBit_two_pow_sub_one, decide_eq_true hi, Bool.true_xor]
  refine ⟨j, j1, j2.1, by simpa using j2.2, fun i hi => ?_, ?_, fun i hi => ?_, j0⟩
  · rw [e i (by omega), j3, if_pos hi]; simp
  · rw [e j j1, j3, if_neg (by omega), if_pos rfl, j2.1]; rfl
  · by_cases h14 : i < 14
    · rw [e i h14, j3, if_neg (by omega), if_neg (by omega), dif_bit]
      cases out.testBit i <;> cases b.testBit i <;> rfl
    · have hz : out.testBit i = false := testBit_big (n := 14) ho (by omega)
      rw [hz, Bool.false_and]
      unfold nxN
      rw [if_neg h0, Nat.testBit_and, hz, Bool.false_and]
theorem sub_bit {s out i : Nat} (h : dif s out = 0) : s.testBit i = true → out.testBit i = true := by
  intro hs
  have : (dif s out).testBit i = false := by rw [h, Nat.zero_testBit]
  rw [dif_bit, hs] at this
  simpa using this
theorem nx_sub (b out : Nat) : dif (nxN b out) out = 0 := by
  unfold nxN
  split
  · apply Nat.eq_of_testBit_eq; intro i; rw [dif_bit, Nat.zero_testBit]; rfl
  · exact dif_and _ _
theorem nx_gt {b out : Nat} (ho : out < 16384) (hb : dif b out = 0) (h0 : dif out b ≠ 0) : b < nxN b out := by
  obtain ⟨j, j1, j2, j3, j4, j5, j6, j7⟩ := nx_bit (b := b) ho h0
  refine bits_lt j3 j5 (fun i hi => ?_)
  rw [j6 i hi]
  cases hz : b.testBit i
  · simp
  · rw [sub_bit hb hz]; rfl
/-- none between -/
theorem nx_none {b out s : Nat} (ho : out < 16384) (hb : dif b out = 0) (hs : dif s out = 0) (h1 : b < s) (h2 : s < (if dif out b = 0 then 16384 else nxN b out)) : False := by
  have hb14 : b < 2 ^ 14 := le_of_dif hb ho
  have hs14 : s < 2 ^ 14 := le_of_dif hs ho
  -- the highest place where they differ
  have hex : ∀ n, (∀ i, n ≤ i → b.testBit i = s.testBit i) → ∃ k, k < n ∧ b.testBit k = false ∧ s.testBit k = true ∧ ∀ i, k < i → b.testBit i = s.testBit i := by
    intro n
    induction n with
    | zero => intro h; exact absurd (Nat.eq_of_testBit_eq (fun i => h i (by omega))) (by omega)
    | succ n ih =>
      intro h
      by_cases e : b.testBit n = s.testBit n
      · obtain ⟨k, k1, k2⟩ := ih (fun i hi => by
          by_cases e2 : i = n
          · subst e2; exact e
          · exact h i (by omega))
        exact ⟨k, by omega, k2⟩
      · cases hbn : b.testBit n
        · refine ⟨n, by omega, hbn, ?_, fun i hi => h i (by omega)⟩
          rw [hbn] at e
          simpa using e
        · have hsn : s.testBit n = false := by rw [hbn] at e; simpa using e
          exact absurd (bits_lt hsn hbn (fun i hi => (h i (by omega)).symm)) (by omega)
  obtain ⟨k, k1, k2, k3, k4⟩ := hex 14 (fun i hi => by rw [testBit_big hb14 hi, testBit_big hs14 hi])
  have kr : (dif out b).testBit k = true := by rw [dif_bit, sub_bit hs k3, k2]; rfl
  have h0 : dif out b ≠ 0 := fun z => by rw [z, Nat.zero_testBit] at kr; cases kr
  rw [if_neg h0] at h2
  obtain ⟨j, j1, j2, j3, j4, j5, j6, j7⟩ := nx_bit (b := b) ho h0
  rcases Nat.lt_trichotomy k j with h | h | h
  · rw [j7 k h] at kr; cases kr
  · subst h
    have e : nxN b out &&& s = nxN b out := by
      apply Nat.eq_of_testBit_eq
      intro i
      rw [Nat.testBit_and]
      rcases Nat.lt_trichotomy i k with q | q | q
      · rw [j4 i q]; rfl
      · subst q; rw [j5, k3]; rfl
      · rw [j6 i q, ← k4 i q]
        cases out.testBit i <;> cases b.testBit i <;> rfl
    have := Nat.and_le_right (n := nxN b out) (m := s)
    omega
  · have := bits_lt (a := nxN b out) (b := s) (k := k) (by rw [j6 k h, k2, Bool.and_false]) k3 (fun i hi => by
      rw [j6 i (by omega), ← k4 i hi]
      cases hz : b.testBit i
      · simp
      · rw [sub_bit hb hz]; rfl)
    omega
/-- how many sets within out -/
theorem cnt_add (p : Nat → Bool) (a : Nat) : ∀ b, cnt (a + b) p = cnt a p + cnt b (fun i => p (a + i)) := by
  intro b
  induction b with
  | zero => rfl
  | succ b ih => rw [← Nat.add_assoc, cnt, ih, cnt]; omega
theorem cnt_sub (out : Nat) : ∀ n, cnt (2 ^ n) (fun s => decide (dif s out = 0)) = 2 ^ cnt n (fun i => out.testBit i) := by
  intro n
  induction n with
  | zero =>
    show 0 + (if decide (dif 0 out = 0) = true then 1 else 0) = 1
    rw [decide_eq_true (show dif 0 out = 0 by apply Nat.eq_of_testBit_eq; intro i; rw [dif_bit, Nat.zero_testBit]; rfl)]
    rfl
  | succ n ih =>
    rw [Nat.pow_succ, show 2 ^ n * 2 = 2 ^ n + 2 ^ n by omega, cnt_add, ih, cnt]
    have tb : ∀ t, t < 2 ^ n → ∀ i, (2 ^ n + t).testBit i = (decide (i = n) || t.testBit i) := by
      intro t ht i
      have e := or_add (c := 1) ht
      rw [Nat.one_mul] at e
      rw [← e, Nat.testBit_or, Nat.testBit_two_pow]
      congr 1
      exact decide_eq_decide.mpr ⟨fun h => h.symm, fun h => h.symm⟩
    by_cases hb : out.testBit n = true
    · rw [if_pos hb, Nat.pow_succ]
      have : cnt (2 ^ n) (fun i => decide (dif (2 ^ n + i) out = 0)) = cnt (2 ^ n) (fun s => decide (dif s out = 0)) := by
        refine cnt_ext _ (fun t ht => decide_eq_decide.mpr ?_)
        constructor
        · intro h
          apply Nat.eq_of_testBit_eq; intro i
          have h2 : (dif (2 ^ n + t) out).testBit i = false := by rw [h, Nat.zero_testBit]
          rw [dif_bit, tb t ht] at h2
          rw [dif_bit, Nat.zero_testBit]
          revert h2
          cases t.testBit i <;> cases out.testBit i <;> simp
        · intro h
          apply Nat.eq_of_testBit_eq; intro i
          have h2 : (dif t out).testBit i = false := by rw [h, Nat.zero_testBit]
          rw [dif_bit] at h2
          rw [dif_bit, Nat.zero_testBit, tb t ht]
          by_cases e : i = n
          · subst e; rw [hb]; simp
          · rw [decide_eq_false e, Bool.false_or]; exact h2
      rw [this, ih]
      omega
    · rw [if_neg hb, Nat.add_zero]
      have : cnt (2 ^ n) (fun i => decide (dif (2 ^ n + i) out = 0)) = 0 := by
        have hz : ∀ m, m ≤ 2 ^ n → cnt m (fun i => decide (dif (2 ^ n + i) out = 0)) = 0 := by
          intro m
          induction m with
          | zero => intro _; rfl
          | succ m ihm =>
            intro hm
            rw [cnt, ihm (by omega)]
            have : ¬ dif (2 ^ n + m) out = 0 := by
              intro h
              have h2 : (dif (2 ^ n + m) out).testBit n = false := by rw [h, Nat.zero_testBit]
              rw [dif_bit, tb m (by omega), decide_eq_true rfl, nt hb] at h2
              simp at h2
            rw [decide_eq_false this]; rfl
        exact hz _ (Nat.le_refl _)
      rw [this]
      rfl
theorem cnt_mono (p : Nat → Bool) : ∀ {a b : Nat}, a ≤ b → cnt a p ≤ cnt b p := by
  intro a b h
  obtain ⟨c, rfl⟩ : ∃ c, b = a + c := ⟨b - a, by omega⟩
  rw [cnt_add]
  omega
theorem hdF_skip {K : Nat → Int32} {c : Nat} {n : Int32} {out a : Nat} : ∀ j, (∀ s, a ≤ s → s < a + j → ¬ dif s out = 0) → hdF K c n out (a + j) = hdF K c n out a := by
  intro j
  induction j with
  | zero => intro _; rfl
  | succ j ih =>
    intro h
    rw [← Nat.add_assoc, hdF_f (fun z => h _ (by omega) (by omega) z.1)]
    exact ih (fun s h1 h2 => h s h1 (by omega))
