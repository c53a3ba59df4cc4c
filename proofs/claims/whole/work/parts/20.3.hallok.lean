/-! ===== what a hall's text leaves: all of 'known' is well ===== -/
theorem dg_kn {K : Nat → Int32} {i : Nat} (h : ∃ d, d ≤ 9 ∧ K i = nI d) : K i = nI (kn K i) ∧ kn K i ≤ 9 := by
  obtain ⟨d, hd, e⟩ := h
  rw [kn_n e (by omega), e]
  exact ⟨rfl, hd⟩
/-- 'known' behind a hall -/
def hlF (R : RSt) (K0 : Nat → Int32) : Nat → Int32 := uK (hlK R K0) 96 (fstI (hlK R K0))
theorem hlK_i {R : RSt} (K0 : Nat → Int32) {i : Nat} (h : i < 2120) : hlK R K0 i = R.2.2.2 i := if_pos h
theorem hlF_i {R : RSt} (K0 : Nat → Int32) {i : Nat} (h : i < 2120) (h2 : i ≠ 96) : hlF R K0 i = R.2.2.2 i := (uK_n _ _ h2).trans (hlK_i K0 h)
theorem hlK_WP {Z : (Nat → Nat) × Nat} {R : RSt} (hL : LV Z R) (hH : HV R.2.2.2) (K0 : Nat → Int32) : WP (hlK R K0) ∧ inOK (hlK R K0) := by
  have e : ∀ i, i < 2120 → hlK R K0 i = R.2.2.2 i := fun i hi => hlK_i K0 hi
  have n : ∀ i, i < 2120 → kn (hlK R K0) i = kn R.2.2.2 i := fun i hi => kn_cg (e i hi)
  generalize hlK R K0 = L at e n
  obtain ⟨hI, l2, l3, l4⟩ := hL
  have h79 := IV.k7 hI
  have l1 := hI.2.2.2.2.1
  obtain ⟨hv, ⟨m1, m2⟩, s1, s2, s3, s4⟩ := hH
  have dg : ∀ i, (i = 5 ∨ (9 ≤ i ∧ i < 93) ∨ (109 ≤ i ∧ i < 119) ∨ (120 ≤ i ∧ i < 144)) → L i = nI (kn L i) ∧ kn L i ≤ 9 := fun i hi => by
    rw [e i (by omega), n i (by omega)]
    exact dg_kn ((hv i).1 hi)
  refine ⟨⟨?_, ?_, ?_, ?_, ?_, ?_, fun k hk => ?_, fun w hw => ?_, fun w hw => dg _ (by omega), ?_⟩, ?_⟩
  · rw [e 1 (by omega), n 1 (by omega)]; exact l1
  · rw [e 2 (by omega), n 2 (by omega)]; exact l2
  · rw [e 3 (by omega), n 3 (by omega)]; exact l3
  · rw [e 4 (by omega), n 4 (by omega)]; exact l4
  · exact dg 5 (by omega)
  · obtain ⟨d, d1, d2, d3⟩ := (hv 6).2.1 rfl
    rw [e 6 (by omega), n 6 (by omega), kn_n d3 (by omega), d3]
    exact ⟨rfl, d1, d2⟩
  · rw [e _ (by omega), n _ (by omega)]
    by_cases q : k < kn R.2.2.2 7
    · exact ⟨(s1 k q).1, (s1 k q).2.1⟩
    · have z := s2 (1155 + k) (by omega) (by omega)
      rw [kn_n (j := 0) z (by omega), z]
      exact ⟨rfl, by omega⟩
  · rw [n 3 (by omega)] at hw
    have l10 := l3.2
    obtain ⟨q1, q2, q3⟩ := s4 w hw
    rw [n 1 (by omega), e (144 + w) (by omega), n (144 + w) (by omega), e (144 + w + 1) (by omega), n (144 + w + 1) (by omega), chk_cg (K := R.2.2.2) _ _ _ (fun j _ _ => e _ (by omega))]
    exact ⟨s3 w (by omega), s3 (w + 1) (by omega), q1, by omega, q3⟩
  · rw [n 3 (by omega), n 119 (by omega), e 119 (by omega)]; exact m2
  · unfold inOK
    rw [n 2 (by omega), n 93 (by omega), e 93 (by omega)]; exact m1
theorem hlF_ok {Z : (Nat → Nat) × Nat} {R : RSt} (hL : LV Z R) (hH : HV R.2.2.2) (K0 : Nat → Int32) : WK (hlF R K0) ∧ BgK (hlF R K0) ∧ hlF R K0 8 = 0 := by
  obtain ⟨hW, hI⟩ := hlK_WP hL hH K0
  have hf := fst_ok hW.2.1.2 hI.2
  have hq := fs_eq (K := hlK R K0) hW.2.1.2 rfl hI.2
  have e96 : hlF R K0 96 = fstI (hlK R K0) := uK_s _ _ _
  have o : ∀ i, i ≠ 96 → hlF R K0 i = hlK R K0 i := fun i hi => uK_n _ _ hi
  have e : ∀ i, i < 2120 → i ≠ 96 → hlF R K0 i = R.2.2.2 i := fun i a b => hlF_i K0 a b
  have l14 : kn (hlK R K0) 2 ≤ 14 := hW.2.1.2
  generalize hlF R K0 = F at e96 o e ⊢
  generalize hlK R K0 = L at hW hI hf hq e96 o l14
  have n : ∀ i, i ≠ 96 → kn F i = kn L i := fun i hi => kn_cg (o i hi)
  have hv := hH.1
  have hi2 : F 93 = nI (kn F 93) ∧ kn F 93 < 2 ^ kn F 2 := by
    rw [n 93 (by omega), n 2 (by omega), o 93 (by omega)]; exact hI
  have z8 : F 8 = 0 := (e 8 (by omega) (by omega)).trans ((hv 8).2.2.1 (by omega))
  have z94 : F 94 = 0 := (e 94 (by omega) (by omega)).trans ((hv 94).2.2.1 (by omega))
  have z95 : F 95 = 0 := (e 95 (by omega) (by omega)).trans ((hv 95).2.2.1 (by omega))
  have mk : ∀ i, i < 84 → F (9 + i) = nI (kn F (9 + i)) ∧ kn F (9 + i) ≤ 9 := fun i hi => by
    rw [kn_cg (e (9 + i) (by omega) (by omega)), e (9 + i) (by omega) (by omega)]
    exact dg_kn ((hv (9 + i)).1 (by omega))
  have cl : ∀ p, p < 6 → F (97 + p) = -1 := fun p hp => (e (97 + p) (by omega) (by omega)).trans ((hv (97 + p)).2.2.2 (by omega))
  have hs : ∀ p, p < 6 → F (103 + p) = 0 := fun p hp => (e (103 + p) (by omega) (by omega)).trans ((hv (103 + p)).2.2.1 (by omega))
  have hWF : WP F := hW.cong (fun i hi => o i (by unfold plI at hi; omega))
  refine ⟨⟨hWF, ?_, ⟨mk, hi2, Or.inl z94, ?_, ?_, fun p hp => ?_⟩, fun j hj => ?_⟩, ⟨mk, ?_, z94, z95, ?_, fun p hp => ⟨cl p hp, hs p hp⟩⟩, z8⟩
  · rw [kn_n (j := 0) z8 (by omega), z8]; exact ⟨rfl, by omega⟩
  · show F 95 = nI (kn F 95) ∧ kn F 95 < 2 ^ kn F 3
    rw [kn_n (j := 0) z95 (by omega), z95]
    exact ⟨rfl, Nat.two_pow_pos _⟩
  · show (F 96 = -1 ∧ kn F 93 = 0) ∨ ∃ c, F 96 = nI c ∧ c < kn F 2 ∧ (kn F 93).testBit c = true
    rw [e96, n 93 (by omega), n 2 (by omega)]
    exact hf
  · rw [cur_97]; exact Or.inl (cl p hp)
  · rw [kn_n (j := 0) z8 (by omega)] at hj
    exact absurd hj (Nat.not_lt_zero _)
  · refine ⟨hi2.1, Nat.lt_of_lt_of_le hi2.2 ?_⟩
    rw [n 2 (by omega)]
    exact (show 2 ^ kn L 2 ≤ 2 ^ 14 from Nat.pow_le_pow_right (by omega) l14)
  · rw [e96, n 93 (by omega)]; exact hq
/-- the class's plan behind a hall -/
theorem CG.pl {M : mM} {p N : Nat} {Z : (Nat → Nat) × Nat} {R : RSt} (hL : LV Z R) (hJ : LJ R) (hH : HV R.2.2.2) (g : CG M p R.2.2.2) (h1 : gI M p 1 = nI (kn R.2.2.2 1)) (hN : R.2.2.1 ≤ N) (K0 : Nat → Int32) : PlD M p (p + 7) (N + 1) (hlF R K0) ∧ (∀ d, d < kn (hlF R K0) 2 → gI M (p + 1) d = nI (pkR (cur (hlF R K0)) d (kn (hlF R K0) 1))) ∧ gI M p 3 = hlF R K0 93 := by
  have e : ∀ i, i < 2120 → i ≠ 96 → hlF R K0 i = R.2.2.2 i := fun i a b => hlF_i K0 a b
  generalize hlF R K0 = F at e ⊢
  have n : ∀ i, i < 2120 → i ≠ 96 → kn F i = kn R.2.2.2 i := fun i a b => kn_cg (e i a b)
  obtain ⟨hI, l2, l3, l4⟩ := hL
  have h79 := IV.k7 hI
  have h7 := hI.2.2.2.1
  have l1 := hI.2.2.2.2.1
  have l10 := l3.2
  obtain ⟨⟨_, kw⟩, kl⟩ := hJ
  obtain ⟨⟨g0, g2, g3, g4, g5, g6, g7, g8⟩, gc, grow, gcost, gst, gcode, glamp⟩ := g
  have s3 := hH.2.2.2.2.1
  refine ⟨⟨⟨?_, ?_, ?_, ?_, ?_, ?_, ?_⟩, fun w hw => ?_, fun w hw => ?_, fun k hk => ?_, ?_, fun w hw => ?_, fun m v hm hv => ?_⟩, fun d hd => ?_, ?_⟩
  · rw [e 0 (by omega) (by omega)]; exact g0
  · rw [e 1 (by omega) (by omega), h1]; exact l1.1.symm
  · rw [e 2 (by omega) (by omega)]; exact g2
  · rw [e 3 (by omega) (by omega)]; exact g4
  · rw [e 119 (by omega) (by omega)]; exact g5
  · rw [e 5 (by omega) (by omega)]; exact g7
  · rw [e 6 (by omega) (by omega)]; exact g8
  · rw [n 3 (by omega) (by omega)] at hw
    rw [e (109 + w) (by omega) (by omega)]
    exact gcost w (by omega)
  · rw [n 3 (by omega) (by omega)] at hw
    rw [e (144 + w) (by omega) (by omega)]
    exact gst w (by omega)
  · rw [n 3 (by omega) (by omega), n (144 + kn R.2.2.2 3) (by omega) (by omega), kl] at hk
    rw [n (1155 + k) (by omega) (by omega)]
    exact gcode k hk
  · rw [n 3 (by omega) (by omega), n (144 + kn R.2.2.2 3) (by omega) (by omega), e (144 + kn R.2.2.2 3) (by omega) (by omega), s3 _ (Nat.le_refl _), kl]
    exact ⟨by omega, rfl⟩
  · rw [n 3 (by omega) (by omega)] at hw ⊢
    rw [n (144 + w) (by omega) (by omega), n (144 + kn R.2.2.2 3) (by omega) (by omega), kl]
    exact kw w hw
  · rw [n 1 (by omega) (by omega)] at hm
    rw [n 4 (by omega) (by omega), lby_K (K := R.2.2.2) (fun i a b => e i (by omega) (by omega)) _ _ _ _ (by omega)]
    exact (glamp m v (by omega) hv).2
  · rw [n 2 (by omega) (by omega)] at hd
    rw [n 1 (by omega) (by omega), grow d hd]
    exact congrArg nI (pkR_cg (b := cur R.2.2.2) (b' := cur F) (fun m hm => e (9 + (6 * d + m)) (by omega) (by omega)) _ l1.2.2).symm
  · rw [e 93 (by omega) (by omega)]; exact g3
/-! ===== what words read ===== -/
theorem plN_cg2 {nm : Nat} {f g : Nat → Int32} (num : Int32) {s : Nat} (h6 : nm ≤ 6) (hs : okP nm s) (h : ∀ m, m < nm → (rdb nm s).testBit m = true → f m = g m) : plN nm f num s = plN nm g num s := by
  unfold plN
  by_cases h1 : 1000 ≤ s
  · rw [if_pos h1, if_pos h1]
  · rw [if_neg h1, if_neg h1]
    by_cases h2 : s < 200
    · rw [if_pos h2, if_pos h2]
      have h3 : 100 ≤ s ∧ s < 100 + nm := by unfold okP at hs; omega
      refine h (s - 100) (by omega) ?_
      unfold rdb
      rw [if_pos ⟨h3.1, h2⟩]
      exact Nat.testBit_two_pow_self
    · rw [if_neg h2, if_neg h2]
      by_cases h3 : s = 302
      · rw [if_pos h3, if_pos h3]
      · rw [if_neg h3, if_neg h3]
        have h4 : 200 ≤ s ∧ s ≤ 301 := by unfold okP at hs; omega
        refine plF_cong (fun m hm => h m hm ?_) _ nm (Nat.le_refl _)
        unfold rdb
        rw [if_neg (by omega), if_pos h4, Nat.testBit_two_pow_sub_one]
        exact decide_eq_true hm
theorem stpS_cg2 {nm : Nat} {f g : Nat → Int32} (h6 : nm ≤ 6) (num : Int32) {s : Nat} {t t' : List Bool} (hs : chs nm s t = some t') (h : ∀ m, m < nm → (rdb nm s).testBit m = true → f m = g m) (st : List Int32) : stpS nm f num s st = stpS nm g num s st := by
  unfold stpS
  rcases chs_len hs with ⟨a, _⟩ | ⟨a, _⟩ | ⟨_, a, _⟩
  · rw [plN_cg2 num h6 a h]
  · have h1 : ¬ 100 ≤ s := by omega
    rw [if_neg h1, if_neg h1]
  · have h1 : ¬ 100 ≤ s := by omega
    rw [if_neg h1, if_neg h1]
theorem evs_cg2 {K : Nat → Int32} {nm : Nat} {f g : Nat → Int32} (h6 : nm ≤ 6) (num : Int32) : ∀ c k t t' (st : List Int32), chk K nm c k t = some t' → (∀ j, k ≤ j → j < k + c → ∀ m, m < nm → (rdb nm (kn K (1155 + j))).testBit m = true → f m = g m) → evs K nm f num c k st = evs K nm g num c k st := by
  intro c
  induction c with
  | zero => intro k t t' st _ _; rfl
  | succ c ih =>
    intro k t t' st hc h
    simp only [chk] at hc
    obtain ⟨t2, ht2, hc2⟩ := Option.bind_eq_some_iff.mp hc
    simp only [evs]
    rw [stpS_cg2 h6 num ht2 (h k (Nat.le_refl _) (by omega)) st]
    exact ih _ _ _ _ hc2 (fun j a b => h j (by omega) (by omega))
theorem rdb_rdl {nm s m : Nat} (h : (rdb nm s).testBit m = true) : m < rdl nm s := by
  unfold rdb at h
  unfold rdl
  by_cases h1 : 100 ≤ s ∧ s < 200
  · rw [if_pos h1] at h ⊢
    rw [Nat.testBit_two_pow, decide_eq_true_eq] at h
    omega
  · rw [if_neg h1] at h ⊢
    by_cases h2 : 200 ≤ s ∧ s ≤ 301
    · rw [if_pos h2] at h ⊢
      rw [Nat.testBit_two_pow_sub_one, decide_eq_true_eq] at h
      exact h
    · rw [if_neg h2, Nat.zero_testBit] at h
      cases h
theorem rdS_in {K : Nat → Int32} {mk m : Nat} : ∀ n j, j < n → (rdb mk (kn K (1155 + j))).testBit m = true → (rdS K mk n).testBit m = true := by
  intro n
  induction n with
  | zero => intro j h; exact absurd h (Nat.not_lt_zero _)
  | succ n ih =>
    intro j hj h
    rw [rdS, Nat.testBit_or]
    by_cases e : j = n
    · subst e; rw [h, Bool.or_true]
    · rw [ih j (by omega) h, Bool.true_or]
theorem lwS_in {K : Nat → Int32} {mk a : Nat} : ∀ n j, j < n → rdl mk (kn K (1155 + (a + j))) ≤ lwS K mk a n := by
  intro n
  induction n with
  | zero => intro j h; exact absurd h (Nat.not_lt_zero _)
  | succ n ih =>
    intro j hj
    rw [lwS]
    by_cases e : j = n
    · subst e; exact Nat.le_max_right _ _
    · exact Nat.le_trans (ih j (by omega)) (Nat.le_max_left _ _)
theorem rdb_64 {mk s : Nat} (h : stp mk s) (h6 : mk ≤ 6) : rdb mk s < 64 := by
  unfold rdb
  split
  · rename_i q
    have := h.2 q.2
    exact (show 2 ^ (s - 100) < 2 ^ 6 from Nat.pow_lt_pow_right (by omega) (by omega))
  · split
    · have : 2 ^ mk ≤ 2 ^ 6 := Nat.pow_le_pow_right (by omega) h6
      omega
    · omega
theorem rdl_mk {mk s : Nat} (h : stp mk s) : rdl mk s ≤ mk := by
  unfold rdl
  split
  · rename_i q
    have := h.2 q.2
    omega
  · split
    · exact Nat.le_refl _
    · omega
theorem rdS_64 {K : Nat → Int32} {mk : Nat} (h6 : mk ≤ 6) : ∀ n, (∀ k, k < n → stp mk (kn K (1155 + k))) → rdS K mk n < 64 := by
  intro n
  induction n with
  | zero => intro _; exact (by decide : 0 < 64)
  | succ n ih =>
    intro h
    rw [rdS]
    exact Nat.or_lt_two_pow (n := 6) (ih (fun k hk => h k (by omega))) (rdb_64 (h n (by omega)) h6)
theorem lwS_mk {K : Nat → Int32} {mk a : Nat} : ∀ n, (∀ j, j < n → stp mk (kn K (1155 + (a + j)))) → lwS K mk a n ≤ mk := by
  intro n
  induction n with
  | zero => intro _; exact Nat.zero_le _
  | succ n ih =>
    intro h
    rw [lwS]
    exact Nat.max_le.mpr ⟨ih (fun j hj => h j (by omega)), rdl_mk (h n (by omega))⟩
theorem lby_dg {K : Nat → Int32} (h : ∀ i, 120 ≤ i → i < 144 → ∃ d, d ≤ 9 ∧ K i = nI d) {m : Int32} {v : Nat} (hv : v ≤ 9) : ∀ n k, k + n ≤ 8 → ∃ d, d ≤ 9 ∧ lby K m (nI v) n k = nI d := by
  intro n
  induction n with
  | zero => intro k _; exact ⟨v, hv, rfl⟩
  | succ n ih =>
    intro k hk
    rw [lby]
    split
    · exact h _ (by omega) (by omega)
    · exact ih (k + 1) (by omega)
theorem RB.rdr {M : mM} {p : Nat} {Z : (Nat → Nat) × Nat} {R : RSt} (hL : LV Z R) (hH : HV R.2.2.2) (r : RB M p false 0 0 R.2.2.2) (K0 : Nat → Int32) : Rdr M p (hlF R K0) (rdS R.2.2.2 (kn R.2.2.2 1) (kn R.2.2.2 7)) (fun w => lwS R.2.2.2 (kn R.2.2.2 1) (kn R.2.2.2 (144 + w)) (kn R.2.2.2 (144 + w + 1) - kn R.2.2.2 (144 + w))) := by
  have e : ∀ i, i < 2120 → i ≠ 96 → hlF R K0 i = R.2.2.2 i := fun i a b => hlF_i K0 a b
  generalize hlF R K0 = F at e ⊢
  have n : ∀ i, i < 2120 → i ≠ 96 → kn F i = kn R.2.2.2 i := fun i a b => kn_cg (e i a b)
  obtain ⟨hI, l2, l3, l4⟩ := hL
  have h79 := IV.k7 hI
  have l1 := hI.2.2.2.2.1
  have l10 := l3.2
  obtain ⟨hv, _, s1, s2, s3, s4⟩ := hH
  obtain ⟨r1, r2, _⟩ := r
  have word : ∀ w, w < kn R.2.2.2 3 → ∀ f g : Nat → Int32, (∀ j, j < kn R.2.2.2 (144 + w + 1) - kn R.2.2.2 (144 + w) → ∀ m, m < kn R.2.2.2 1 → (rdb (kn R.2.2.2 1) (kn R.2.2.2 (1155 + (kn R.2.2.2 (144 + w) + j)))).testBit m = true → f m = g m) → wt F f (-1) w = wt F g (-1) w := fun w hw f g h => by
    obtain ⟨q1, q2, q3⟩ := s4 w hw
    unfold wt
    rw [n 1 (by omega) (by omega), n (144 + w) (by omega) (by omega), n (144 + w + 1) (by omega) (by omega)]
    rw [evs_cg2 (K := F) (f := f) (g := g) l1.2.2 (-1) _ _ [] [true] [] ((chk_cg (K := R.2.2.2) _ _ _ (fun j _ _ => e _ (by omega) (by omega))).trans q3) (fun j a b m hm hb => by
      rw [n (1155 + j) (by omega) (by omega), show j = kn R.2.2.2 (144 + w) + (j - kn R.2.2.2 (144 + w)) by omega] at hb
      exact h (j - kn R.2.2.2 (144 + w)) (by omega) m hm hb)]
  refine ⟨fun m v hm hv9 => ?_, ⟨?_, ?_⟩, fun f g h w hw => ?_, fun w hw => ⟨?_, ?_, fun f g h => ?_⟩⟩
  · rw [n 4 (by omega) (by omega)]
    exact lby_dg (fun i a b => by rw [e i (by omega) (by omega)]; exact (hv i).1 (by omega)) hv9 _ _ (by omega)
  · rw [r1, Nat.or_zero]
  · exact rdS_64 l1.2.2 _ (fun k hk => (s1 k hk).2)
  · rw [n 3 (by omega) (by omega)] at hw
    obtain ⟨q1, q2, q3⟩ := s4 w hw
    exact word w hw f g (fun j hj m hm hb => h m (by rw [n 1 (by omega) (by omega)]; exact hm) (rdS_in _ _ (by omega) hb))
  · rw [n 3 (by omega) (by omega)] at hw
    exact r2 w hw
  · rw [n 3 (by omega) (by omega)] at hw
    obtain ⟨q1, q2, q3⟩ := s4 w hw
    rw [n 1 (by omega) (by omega)]
    exact lwS_mk _ (fun j hj => (s1 _ (by omega)).2)
  · rw [n 3 (by omega) (by omega)] at hw
    exact word w hw f g (fun j hj m hm hb => h m (Nat.lt_of_lt_of_le (rdb_rdl hb) (lwS_in _ j hj)))
