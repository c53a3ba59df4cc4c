/-! ===== what 'known' holds, all of it ===== -/
def nb (b : Nat → Int32) (i : Nat) : Nat := (b i).toNatClampNeg
/-- a state's hundred numbers, good for nc chests, nw words, np persons -/
def BK (nc nw np : Nat) (b : Nat → Int32) : Prop :=
  (∀ i, i < 84 → b i = nI (nb b i) ∧ nb b i ≤ 9) ∧ (b 84 = nI (nb b 84) ∧ nb b 84 < 2 ^ nc) ∧ (b 85 = 0 ∨ b 85 = 1) ∧ (b 86 = nI (nb b 86) ∧ nb b 86 < 2 ^ nw) ∧
  ((b 87 = -1 ∧ nb b 84 = 0) ∨ ∃ c, b 87 = nI c ∧ c < nc ∧ (nb b 84).testBit c = true) ∧ ∀ p, p < 6 → b (88 + p) = -1 ∨ (p < np ∧ ∃ d, b (88 + p) = nI d ∧ isDN nw d = true)
def cur (K : Nat → Int32) : Nat → Int32 := fun i => K (9 + i)
def blk (K : Nat → Int32) (j : Nat) : Nat → Int32 := fun i => K (155 + 100 * j + i)
def WK (K : Nat → Int32) : Prop := WP K ∧ (K 8 = nI (kn K 8) ∧ kn K 8 ≤ 10) ∧ BK (kn K 2) (kn K 3) (kn K 6) (cur K) ∧ ∀ j, j < kn K 8 → BK (kn K 2) (kn K 3) (kn K 6) (blk K j)
theorem BK.cong {nc nw np : Nat} {b b' : Nat → Int32} (h : BK nc nw np b) (e : ∀ i, i < 100 → b' i = b i) : BK nc nw np b' := by
  have n : ∀ i, i < 100 → nb b' i = nb b i := fun i hi => by unfold nb; rw [e i hi]
  obtain ⟨h1, h2, h3, h4, h5, h6⟩ := h
  refine ⟨fun i hi => by rw [e i (by omega), n i (by omega)]; exact h1 i hi, by rw [e 84 (by omega), n 84 (by omega)]; exact h2, by rw [e 85 (by omega)]; exact h3, by rw [e 86 (by omega), n 86 (by omega)]; exact h4, by rw [e 87 (by omega), n 84 (by omega)]; exact h5, fun p hp => by rw [e (88 + p) (by omega)]; exact h6 p hp⟩
theorem WK.p {K : Nat → Int32} (h : WK K) : WP K := h.1
theorem WK.i {K : Nat → Int32} (h : WK K) : inOK K := h.2.2.1.2.1
theorem WK.u {K : Nat → Int32} (h : WK K) : usOK K := h.2.2.1.2.2.2.1
theorem WK.q {K : Nat → Int32} (h : WK K) : WQ K := ⟨h.p, h.i, h.u⟩
theorem WK.s {K : Nat → Int32} (h : WK K) : stOK K := h.2.2.1.2.2.2.2.1
theorem WK.c {K : Nat → Int32} (h : WK K) : clOK K := fun p hp => by
  have := h.2.2.1.2.2.2.2.2 p hp
  rw [show cur K (88 + p) = K (97 + p) by unfold cur; congr 1; omega] at this
  exact this
theorem WK.l {K : Nat → Int32} (h : WK K) : K 94 = 0 ∨ K 94 = 1 := h.2.2.1.2.2.1
theorem chk_cong {K K' : Nat → Int32} {nm : Nat} (e : ∀ i, 1155 ≤ i → K' i = K i) : ∀ c k t, chk K' nm c k t = chk K nm c k t := by
  intro c
  induction c with
  | zero => intro k t; rfl
  | succ c ih =>
    intro k t
    simp only [chk]
    rw [show kn K' (1155 + k) = kn K (1155 + k) by unfold kn; rw [e _ (by omega)]]
    congr 1
    funext t'
    exact ih _ _
/-- the plan's places -/
def plI (i : Nat) : Prop := (1 ≤ i ∧ i < 8) ∨ (109 ≤ i ∧ i < 155) ∨ 1155 ≤ i
theorem WP.cong {K K' : Nat → Int32} (h : WP K) (e : ∀ i, plI i → K' i = K i) : WP K' := by
  have n : ∀ i, plI i → kn K' i = kn K i := fun i hi => by unfold kn; rw [e i hi]
  have p : ∀ i, ((1 ≤ i ∧ i < 8) ∨ (109 ≤ i ∧ i < 155) ∨ 1155 ≤ i) → plI i := fun i h => h
  obtain ⟨h1, h2, h3, h4, h5, h6, h7, h8, h9, h10⟩ := h
  refine ⟨by rw [e 1 (p _ (by omega)), n 1 (p _ (by omega))]; exact h1, by rw [e 2 (p _ (by omega)), n 2 (p _ (by omega))]; exact h2, by rw [e 3 (p _ (by omega)), n 3 (p _ (by omega))]; exact h3, by rw [e 4 (p _ (by omega)), n 4 (p _ (by omega))]; exact h4, by rw [e 5 (p _ (by omega)), n 5 (p _ (by omega))]; exact h5, by rw [e 6 (p _ (by omega)), n 6 (p _ (by omega))]; exact h6, fun k hk => by rw [e _ (p _ (by omega)), n _ (p _ (by omega))]; exact h7 k hk, fun w hw => ?_, fun w hw => by rw [e _ (p _ (by omega)), n _ (p _ (by omega))]; exact h9 w hw, by rw [e 119 (p _ (by omega)), n 119 (p _ (by omega)), n 3 (p _ (by omega))]; exact h10⟩
  rw [n 3 (p _ (by omega))] at hw
  have hw10 : w < 10 := by omega
  rw [e _ (p _ (by omega)), n _ (p _ (by omega)), e _ (p _ (by omega)), n _ (p _ (by omega)), n 1 (p _ (by omega)), chk_cong (fun i hi => e i (p _ (by omega)))]
  exact h8 w hw
/-- a deed that changes the state alone -/
theorem WK.deed {K K' : Nat → Int32} (h : WK K) (e : ∀ i, (i < 9 ∨ 109 ≤ i) → K' i = K i) (hb : BK (kn K 2) (kn K 3) (kn K 6) (cur K')) : WK K' := by
  have n : ∀ i, (i < 9 ∨ 109 ≤ i) → kn K' i = kn K i := fun i hi => by unfold kn; rw [e i hi]
  refine ⟨h.1.cong (fun i hi => e i (by unfold plI at hi; omega)), by rw [e 8 (by omega), n 8 (by omega)]; exact h.2.1, by rw [n 2 (by omega), n 3 (by omega), n 6 (by omega)]; exact hb, fun j hj => ?_⟩
  rw [n 8 (by omega)] at hj
  rw [n 2 (by omega), n 3 (by omega), n 6 (by omega)]
  exact (h.2.2.2 j hj).cong (fun i hi => e _ (by omega))
theorem kep1_o {K : Nat → Int32} {i : Nat} (h : i < 8 ∨ (8 < i ∧ i < 155) ∨ 1055 ≤ i) : kep1 K i = K i := by
  unfold kep1
  split
  · rw [uK_n _ _ (by omega), cpK_out (by omega)]
  · rfl
theorem kep1_8 {K : Nat → Int32} (h : WK K) : kep1 K 8 = nI (kn (kep1 K) 8) ∧ kn (kep1 K) 8 < 10 ∧ kn (kep1 K) 8 ≤ kn K 8 := by
  have h8 := h.2.1
  unfold kep1
  split
  · rename_i h1
    rw [kn, uK_s]
    have : kn K 8 = 10 := by rw [kn, h1]; rfl
    exact ⟨rfl, by decide, by rw [this]; decide⟩
  · rename_i h1
    exact ⟨h8.1, Nat.lt_of_le_of_ne h8.2 (fun z => h1 (by rw [h8.1, z]; rfl)), Nat.le_refl _⟩
theorem kepK_o {K : Nat → Int32} (hW : WK K) {i : Nat} (h : i < 8 ∨ (8 < i ∧ i < 155) ∨ 1155 ≤ i) : kepK K i = K i := by
  have := (kep1_8 hW).2.1
  unfold kepK
  rw [uK_n _ _ (by omega), cpK_out (by omega)]
  exact kep1_o (by omega)
theorem kepK_8 {K : Nat → Int32} : kepK K 8 = nI (kn (kep1 K) 8 + 1) := uK_s _ _ _
theorem WK.keeps {K : Nat → Int32} (h : WK K) : WK (kepK K) := by
  have h8 := kep1_8 h
  have n : ∀ i, (i < 8 ∨ (8 < i ∧ i < 155) ∨ 1155 ≤ i) → kn (kepK K) i = kn K i := fun i hi => by unfold kn; rw [kepK_o h hi]
  have e8 : kn (kepK K) 8 = kn (kep1 K) 8 + 1 := by rw [kn, kepK_8, nI_clamp (by omega)]
  refine ⟨h.1.cong (fun i hi => kepK_o h (by unfold plI at hi; omega)), by rw [kepK_8, e8]; exact ⟨rfl, by omega⟩, ?_, fun j hj => ?_⟩
  · rw [n 2 (by omega), n 3 (by omega), n 6 (by omega)]
    exact h.2.2.1.cong (fun i hi => kepK_o h (by omega))
  · rw [e8] at hj
    rw [n 2 (by omega), n 3 (by omega), n 6 (by omega)]
    by_cases hl : j = kn (kep1 K) 8
    · subst hl
      refine h.2.2.1.cong (fun i hi => ?_)
      unfold blk kepK
      rw [uK_n _ _ (by omega), cpK_in (by omega) (by omega), show 155 + 100 * kn (kep1 K) 8 + i - (155 + 100 * kn (kep1 K) 8) = i by omega]
      exact kep1_o (by omega)
    · by_cases h10 : K 8 = 10
      · have hk : kn K 8 = 10 := by rw [kn, h10]; rfl
        refine (h.2.2.2 (j + 1) (by omega)).cong (fun i hi => ?_)
        unfold blk kepK
        rw [uK_n _ _ (by omega), cpK_out (by omega)]
        unfold kep1
        rw [if_pos h10, uK_n _ _ (by omega), cpK_in (by omega) (by omega)]
        show K (255 + (155 + 100 * j + i - 155)) = K (155 + 100 * (j + 1) + i)
        exact congrArg K (by omega)
      · refine (h.2.2.2 j (by omega)).cong (fun i hi => ?_)
        unfold blk kepK
        rw [uK_n _ _ (by omega), cpK_out (by omega)]
        unfold kep1
        rw [if_neg h10]
theorem kepK_cur {K : Nat → Int32} (h : WK K) : cur (kepK K) = fun i => if i < 146 then K (9 + i) else kepK K (9 + i) := by
  funext i
  by_cases hi : i < 146
  · rw [if_pos hi]; exact kepK_o h (by omega)
  · rw [if_neg hi]; rfl
/-- carrying -/
def carK (K : Nat → Int32) (c : Nat) : Nat → Int32 :=
  if K 96 ≠ -1 ∧ (kn K 93 ^^^ 2 ^ c).testBit (kn K 96) = true then uK K 93 (nI (kn K 93 ^^^ 2 ^ c)) else noCl (uK (uK K 93 (nI (kn K 93 ^^^ 2 ^ c))) 96 (fstI (uK K 93 (nI (kn K 93 ^^^ 2 ^ c)))))
/-- settling, at a stake -/
def set1 (K : Nat → Int32) : Nat → Int32 := match winO K with
  | none => K
  | some p => uK (uK (uK K (103 + p) (K (103 + p) + 1)) 93 (nI (dif (kn K 93) (2 ^ kn K 96)))) 95 (nI (kn K 95 ||| (kn K (97 + p) ||| kn K (97 + p) / 1024) % 1024))
def setK (K : Nat → Int32) : Nat → Int32 := uK (noCl (set1 K)) 96 (behI (noCl (set1 K)) (kn K 96))
theorem fstF_ok {p : Nat → Bool} : ∀ n k, (fstF p n k = -1 ∧ ∀ j, k ≤ j → j < k + n → p j = false) ∨ ∃ j, fstF p n k = nI j ∧ k ≤ j ∧ j < k + n ∧ p j = true := by
  intro n
  induction n with
  | zero => intro k; exact Or.inl ⟨rfl, fun j h1 h2 => by omega⟩
  | succ n ih =>
    intro k
    unfold fstF
    split
    · rename_i h; exact Or.inr ⟨k, rfl, Nat.le_refl _, by omega, h⟩
    · rename_i h
      rcases ih (k + 1) with ⟨a, b⟩ | ⟨j, a, b, c, d⟩
      · refine Or.inl ⟨a, fun j h1 h2 => ?_⟩
        by_cases e : j = k
        · subst e; exact Bool.eq_false_iff.mpr h
        · exact b j (by omega) (by omega)
      · exact Or.inr ⟨j, a, by omega, by omega, d⟩
theorem behF_ok {p : Nat → Bool} {nc c : Nat} (h0 : 0 < nc) : ∀ n k, (behF p nc c n k = -1 ∧ ∀ j, k ≤ j → j < k + n → p ((c + j) % nc) = false) ∨ ∃ j, behF p nc c n k = nI j ∧ j < nc ∧ p j = true := by
  intro n
  induction n with
  | zero => intro k; exact Or.inl ⟨rfl, fun j h1 h2 => by omega⟩
  | succ n ih =>
    intro k
    unfold behF
    split
    · rename_i h; exact Or.inr ⟨_, rfl, Nat.mod_lt _ h0, h⟩
    · rename_i h
      rcases ih (k + 1) with ⟨a, b⟩ | h2
      · refine Or.inl ⟨a, fun j h1 h2 => ?_⟩
        by_cases e : j = k
        · subst e; exact Bool.eq_false_iff.mpr h
        · exact b j (by omega) (by omega)
      · exact Or.inr h2
