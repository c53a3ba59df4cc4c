/-! ===== the law's start ===== -/
theorem rQ_k {q k : Nat} (hk : 31 ≤ k) : rQ q k = none := by
  have e2 : ∀ a, a < 31 → Nat.beq k a = false := fun a ha => nbeq_f (by omega)
  unfold rQ
  simp (disch := decide) only [e2, cond_false, Bool.cond_self]
def chT (p n : Nat) (LT : List (Nat × (Nat ⊕ (Nat × Nat)))) : Bool := (List.range n).all (fun i => match tQ (p + i) with
  | none => true
  | some sh => hasT LT i sh)
def chR (p n : Nat) (LR : List (Nat × Nat × Nat)) : Bool := (List.range n).all (fun i => (List.range 31).all (fun k => match rQ (p + i) k with
  | none => true
  | some a => LR.any (fun e => (Nat.beq e.1 i && Nat.beq e.2.1 k) && Nat.beq (p + e.2.2) a)))
def chLo (n : Nat) : Bool := (List.range n).all (fun q => match tQ q with
  | none => (List.range 31).all (fun k => match rQ q k with
    | none => true
    | some _ => false)
  | some _ => false)
theorem NwO.r {c p n : Nat} {LT : List (Nat × (Nat ⊕ (Nat × Nat)))} {LR : List (Nat × Nat × Nat)} {LZ : List Nat} {f : Nat → Int32} {M0 M : mM} (h : NwO c p n LT LR LZ f M0 M) (i k a : Nat) (hb : LR.any (fun e => (Nat.beq e.1 i && Nat.beq e.2.1 k) && Nat.beq (p + e.2.2) a) = true) : gR M (p + i) k = some a := by
  obtain ⟨e, he, h1⟩ := List.any_eq_true.mp hb
  rw [Bool.and_eq_true, Bool.and_eq_true] at h1
  have := (h.2.2.2.2.2.2.1 e he).2
  rw [Nat.eq_of_beq_eq_true h1.1.1, Nat.eq_of_beq_eq_true h1.1.2, Nat.eq_of_beq_eq_true h1.2] at this
  exact this
theorem NwO.tt {c p n : Nat} {LT : List (Nat × (Nat ⊕ (Nat × Nat)))} {LR : List (Nat × Nat × Nat)} {LZ : List Nat} {f : Nat → Int32} {M0 M : mM} (h : NwO c p n LT LR LZ f M0 M) (a : Nat) (sh : Nat ⊕ (Nat × Nat)) (hb : hasT ((0, .inl c) :: LT) a sh = true) : gT M (p + a) = sh := by
  obtain ⟨e, he, h1⟩ := List.any_eq_true.mp hb
  rw [Bool.and_eq_true] at h1
  rcases List.mem_cons.mp he with rfl | he
  · rw [← Nat.eq_of_beq_eq_true h1.1, ← shB_eq h1.2]
    exact h.own
  · have := (h.2.2.2.2.2.1 e he).2
    rw [Nat.eq_of_beq_eq_true h1.1, shB_eq h1.2] at this
    exact this
theorem ch_T11 : chT 100 130 ((0, .inl 11) :: lt11) = true := by decide +kernel
theorem ch_R11 : chR 100 130 lr11 = true := by decide +kernel
theorem ch_T12 : chT 230 17 ((0, .inl 12) :: lt12) = true := by decide +kernel
theorem ch_R12 : chR 230 17 lr12 = true := by decide +kernel
theorem ch_L : chLo 100 = true := by decide +kernel
theorem NwO.cT {c p n : Nat} {LT : List (Nat × (Nat ⊕ (Nat × Nat)))} {LR : List (Nat × Nat × Nat)} {LZ : List Nat} {f : Nat → Int32} {M0 M : mM} (h : NwO c p n LT LR LZ f M0 M) (hc : chT p n ((0, .inl c) :: LT) = true) {q : Nat} (h1 : p ≤ q) (h2 : q < p + n) {sh : Nat ⊕ (Nat × Nat)} (hq : tQ q = some sh) : gT M q = sh := by
  have := List.all_eq_true.mp hc (q - p) (List.mem_range.mpr (by omega))
  obtain ⟨i, rfl⟩ : ∃ i, q = p + i := ⟨q - p, by omega⟩
  rw [Nat.add_sub_cancel_left, hq] at this
  exact h.tt i sh this
theorem NwO.cR {c p n : Nat} {LT : List (Nat × (Nat ⊕ (Nat × Nat)))} {LR : List (Nat × Nat × Nat)} {LZ : List Nat} {f : Nat → Int32} {M0 M : mM} (h : NwO c p n LT LR LZ f M0 M) (hc : chR p n LR = true) {q k a : Nat} (h1 : p ≤ q) (h2 : q < p + n) (hq : rQ q k = some a) : gR M q k = some a := by
  have hk : k < 31 := by
    apply Classical.byContradiction
    intro hk
    rw [rQ_k (by omega)] at hq
    cases hq
  have := List.all_eq_true.mp (List.all_eq_true.mp hc (q - p) (List.mem_range.mpr (by omega))) k (List.mem_range.mpr hk)
  obtain ⟨i, rfl⟩ : ∃ i, q = p + i := ⟨q - p, by omega⟩
  rw [Nat.add_sub_cancel_left, hq] at this
  exact h.r i k a this
theorem low_T {q : Nat} (hq : q < 100) : tQ q = none := by
  have := List.all_eq_true.mp ch_L q (List.mem_range.mpr hq)
  cases h : tQ q with
  | none => rfl
  | some sh => rw [h] at this; cases this
theorem low_R {q k : Nat} (hq : q < 100) : rQ q k = none := by
  by_cases hk : k < 31
  · have := List.all_eq_true.mp ch_L q (List.mem_range.mpr hq)
    rw [low_T hq] at this
    have := List.all_eq_true.mp this k (List.mem_range.mpr hk)
    cases h : rQ q k with
    | none => rfl
    | some sh => rw [h] at this; cases this
  · exact rQ_k (by omega)
theorem r247 (k : Nat) : rQ 247 k = none := by
  by_cases hk : k < 31
  · exact (by decide +kernel : ∀ k, k < 31 → rQ 247 k = none) k hk
  · exact rQ_k (by omega)
/-- the reference's telling at the start -/
def K00 : Nat → Int32 := bgK (fun _ => 0)
theorem K00_0 {i : Nat} (h1 : i ≠ 1) (h5 : i ≠ 5) (h6 : i ≠ 6) (h96 : ¬ (96 ≤ i ∧ i < 103)) : K00 i = 0 := by
  unfold K00 bgK iniK
  by_cases h : i < 2120
  · rw [if_pos h, if_neg h1, if_neg (by omega), if_neg h96]
  · rw [if_neg h]
theorem K00_m {i : Nat} (h96 : 96 ≤ i ∧ i < 103) : K00 i = -1 := by
  unfold K00 bgK iniK
  rw [if_pos (by omega), if_neg (by omega), if_neg (by omega), if_pos h96]
theorem K00_n {i : Nat} (h1 : i ≠ 1) (h5 : i ≠ 5) (h6 : i ≠ 6) (h96 : ¬ (96 ≤ i ∧ i < 103)) : kn K00 i = 0 := kn_n (j := 0) (K00_0 h1 h5 h6 h96) (by omega)
theorem K00_1 : K00 1 = nI 1 ∧ kn K00 1 = 1 := ⟨by decide, by decide⟩
theorem K00_5 : K00 5 = nI 2 ∧ kn K00 5 = 2 := ⟨by decide, by decide⟩
theorem K00_6 : K00 6 = nI 2 ∧ kn K00 6 = 2 := ⟨by decide, by decide⟩
theorem K00_z {i : Nat} (h1 : i ≠ 1) (h5 : i ≠ 5) (h6 : i ≠ 6) (h96 : ¬ (96 ≤ i ∧ i < 103)) : K00 i = nI (kn K00 i) := by
  rw [K00_n h1 h5 h6 h96, K00_0 h1 h5 h6 h96]
  rfl
theorem WK00 : WK K00 := by
  have z : ∀ i, i ≠ 1 → i ≠ 5 → i ≠ 6 → ¬ (96 ≤ i ∧ i < 103) → K00 i = nI (kn K00 i) ∧ kn K00 i = 0 := fun i a b c d => ⟨K00_z a b c d, K00_n a b c d⟩
  have n2 := (z 2 (by omega) (by omega) (by omega) (by omega)).2
  have n3 := (z 3 (by omega) (by omega) (by omega) (by omega)).2
  have n8 := (z 8 (by omega) (by omega) (by omega) (by omega)).2
  refine ⟨⟨⟨K00_1.2 ▸ K00_1.1, by rw [K00_1.2]; omega, by rw [K00_1.2]; omega⟩, ⟨(z 2 (by omega) (by omega) (by omega) (by omega)).1, by omega⟩, ⟨(z 3 (by omega) (by omega) (by omega) (by omega)).1, by omega⟩, ⟨(z 4 (by omega) (by omega) (by omega) (by omega)).1, by rw [(z 4 (by omega) (by omega) (by omega) (by omega)).2]; omega⟩, ⟨K00_5.2 ▸ K00_5.1, by rw [K00_5.2]; omega⟩, ⟨K00_6.2 ▸ K00_6.1, by rw [K00_6.2]; omega, by rw [K00_6.2]; omega⟩, fun k hk => ⟨(z _ (by omega) (by omega) (by omega) (by omega)).1, by rw [(z _ (by omega) (by omega) (by omega) (by omega)).2]; omega⟩, fun w hw => absurd hw (by omega), fun w hw => ⟨(z _ (by omega) (by omega) (by omega) (by omega)).1, by rw [(z _ (by omega) (by omega) (by omega) (by omega)).2]; omega⟩, ⟨(z 119 (by omega) (by omega) (by omega) (by omega)).1, by rw [(z 119 (by omega) (by omega) (by omega) (by omega)).2]; exact Nat.two_pow_pos _⟩⟩, ⟨(z 8 (by omega) (by omega) (by omega) (by omega)).1, by omega⟩, ⟨fun i hi => ?_, ?_, ?_, ?_, ?_, fun p hp => ?_⟩, fun j hj => absurd hj (by omega)⟩
  · show K00 (9 + i) = nI (kn K00 (9 + i)) ∧ kn K00 (9 + i) ≤ 9
    rw [(z (9 + i) (by omega) (by omega) (by omega) (by omega)).2]
    exact ⟨K00_0 (by omega) (by omega) (by omega) (by omega), by omega⟩
  · show K00 93 = nI (kn K00 93) ∧ kn K00 93 < 2 ^ kn K00 2
    exact ⟨(z 93 (by omega) (by omega) (by omega) (by omega)).1, by rw [(z 93 (by omega) (by omega) (by omega) (by omega)).2]; exact Nat.two_pow_pos _⟩
  · exact Or.inl (K00_0 (i := 94) (by omega) (by omega) (by omega) (by omega))
  · show K00 95 = nI (kn K00 95) ∧ kn K00 95 < 2 ^ kn K00 3
    exact ⟨(z 95 (by omega) (by omega) (by omega) (by omega)).1, by rw [(z 95 (by omega) (by omega) (by omega) (by omega)).2]; exact Nat.two_pow_pos _⟩
  · exact Or.inl ⟨K00_m (i := 96) (by omega), (z 93 (by omega) (by omega) (by omega) (by omega)).2⟩
  · exact Or.inl (show K00 (9 + (88 + p)) = -1 from K00_m (by omega))
theorem St00 {M : mM} {s : Nat} (h : StN M s) : StD M s K00 := by
  have n2 : kn K00 2 = 0 := K00_n (by omega) (by omega) (by omega) (by omega)
  obtain ⟨-, h2, h3⟩ := h
  refine ⟨fun c hc => absurd hc (by omega), fun p hp => ⟨?_, ?_⟩, ?_, ?_, ?_, ?_⟩
  · rw [(h3 p hp).1, K00_m (by omega)]
  · rw [(h3 p hp).2, K00_0 (by omega) (by omega) (by omega) (by omega)]
  · rw [h2 5, K00_0 (by omega) (by omega) (by omega) (by omega)]; rfl
  · rw [h2 6, K00_m (by omega)]; rfl
  · rw [h2 7, K00_0 (by omega) (by omega) (by omega) (by omega)]; rfl
  · rw [h2 8, K00_0 (by omega) (by omega) (by omega) (by omega)]; rfl
theorem Pl00 {M : mM} {p : Nat} (h : PlN M p) : Plr M p (p + 5) 0 K00 ∧ Rdr M p K00 0 (fun _ => 0) := by
  have n2 : kn K00 2 = 0 := K00_n (by omega) (by omega) (by omega) (by omega)
  have n3 : kn K00 3 = 0 := K00_n (by omega) (by omega) (by omega) (by omega)
  have n4 : kn K00 4 = 0 := K00_n (by omega) (by omega) (by omega) (by omega)
  have n144 : kn K00 144 = 0 := K00_n (by omega) (by omega) (by omega) (by omega)
  obtain ⟨h1, h2, h3, h4⟩ := h
  have z : ∀ i, i ≠ 1 → i ≠ 5 → i ≠ 6 → ¬ (96 ≤ i ∧ i < 103) → K00 i = 0 := fun i a b c d => K00_0 a b c d
  refine ⟨⟨h1, ⟨?_, ?_, ?_, ?_, ?_, ?_, ?_⟩, fun w hw => absurd hw (by omega), fun w hw => ?_, fun k hk => ?_, ?_, fun w hw => ?_, fun m v hm hv => ?_⟩, fun m v hm hv => ⟨v, hv, by rw [n4]; rfl⟩, ⟨by rw [h2 9]; rfl, by omega⟩, fun f g _ w hw => absurd hw (by omega), fun w hw => absurd hw (by omega)⟩
  · rw [h2 0, z 0 (by omega) (by omega) (by omega) (by omega)]; rfl
  · rw [h2 1]; exact K00_1.1.symm
  · rw [h2 2, z 2 (by omega) (by omega) (by omega) (by omega)]; rfl
  · rw [h2 4, z 3 (by omega) (by omega) (by omega) (by omega)]; rfl
  · rw [h2 5, z 119 (by omega) (by omega) (by omega) (by omega)]; rfl
  · rw [h2 7]; exact K00_5.1.symm
  · rw [h2 8]; exact K00_6.1.symm
  · rw [h3 w, z _ (by omega) (by omega) (by omega) (by omega)]
  · rw [n3, n144] at hk
    exact absurd hk (by omega)
  · rw [n3]
    exact ⟨by rw [n144]; omega, K00_z (by omega) (by omega) (by omega) (by omega)⟩
  · rw [n3] at hw ⊢
    obtain rfl : w = 0 := by omega
    exact Nat.le_refl _
  · have e : ltB M p (10 * m + v) = false := by
      unfold ltB
      rw [h4 16]
      refine decide_eq_false (fun z => ?_)
      rw [Int64.zero_shiftRight, Int64.zero_and] at z
      exact absurd z (by decide)
    rw [e, n4]
    rfl
theorem LI_start {M0 Ma Mb : mM} (hA : NwO 11 100 130 lt11 lr11 mz11 fn11 M0 Ma) (hsc : ScN Ma 118) (him : ImN Ma 193) (t0 : gI Ma 222 = fn10) (t1 : gI Ma 224 = fn10) (t2 : gI Ma 226 = fn10) (t3 : gI Ma 228 = fn10)
    (hB : NwO 12 230 17 lt12 lr12 mz12 fn12 Ma Mb) (hj : ∀ j, j < 4 → gI Mb 244 j = -1) (hk : gI Mb 231 = K00) : LI (nw Mb (.inr (1, 1))) := by
  obtain ⟨Mf, ef⟩ : ∃ Mf, Mf = nw Mb (.inr (1, 1)) := ⟨_, rfl⟩
  have zb : gz Mb = 247 := hB.1
  have of : Old 247 Mb Mf := by rw [ef]; exact Old.nw (by omega) _
  have oa : Old 230 Ma Mf := hB.2.2.1.tr (fun q hq => of q (by omega)) (Nat.le_refl _)
  have hA' := hA.grow (M' := Mf) (n' := 148) oa (by rw [ef]; show gz Mb + 1 = _; omega) (by omega)
  have hB' := hB.grow (M' := Mf) (n' := 18) (fun q hq => of q (by omega)) (by rw [ef]; show gz Mb + 1 = _; omega) (by omega)
  have t247 : gT Mf 247 = .inr (1, 1) := by rw [ef, ← zb]; exact nw_T _ _
  have zf : gz Mf = 248 := hA'.1
  rw [← ef]
  clear ef
  have hS : Sh Mf := by
    refine ⟨fun q sh hq => ?_, fun q k a hq => ?_⟩
    · have hlt := tQ_lt hq
      by_cases h1 : q < 100
      · rw [low_T h1] at hq; cases hq
      · by_cases h2 : q < 230
        · exact (oa q h2).1.trans (hA.cT ch_T11 (by omega) (by omega) hq)
        · by_cases h3 : q < 247
          · exact (of q h3).1.trans (hB.cT ch_T12 (by omega) (by omega) hq)
          · obtain rfl : q = 247 := by omega
            rw [show tQ 247 = some (.inr (1, 1)) from rfl] at hq
            cases hq
            exact t247
    · have hlt := rQ_lt hq
      by_cases h1 : q < 100
      · rw [low_R h1] at hq; cases hq
      · by_cases h2 : q < 230
        · exact ((oa q h2).2.2.2 k).trans (hA.cR ch_R11 (by omega) (by omega) hq)
        · by_cases h3 : q < 247
          · exact ((of q h3).2.2.2 k).trans (hB.cR ch_R12 (by omega) (by omega) hq)
          · obtain rfl : q = 247 := by omega
            rw [r247] at hq
            cases hq
  have eK : gI Mf 231 = K00 := (of 231 (by omega)).2.1.trans hk
  have lz12 : ∀ e, e ∈ mz12 → ∀ j, gI Mf (230 + e) j = 0 := fun e he j => (hB'.2.2.2.2.2.2.2 e he).2 j
  have sc : ScN Mf 118 := hsc.old oa (by omega)
  obtain ⟨f6, s1, s2, s3⟩ := sc
  have hM : MR Mf K00 := by
    obtain ⟨p1, p2⟩ := Pl00 s1
    refine ⟨hS, WK00, by omega, ⟨0, St00 s2, ?_, ?_, by omega, fun i hi => ?_, fun j hj => ?_⟩, 119, 124, 0, 0, fun _ => 0, ?_, p1, p2, Or.inl ⟨rfl, rfl⟩⟩
    · rw [f6, K00_0 (by omega) (by omega) (by omega) (by omega)]
    · rw [f6]; rfl
    · exact Or.inl (by rw [(s3 i hi).2.1 8]; rfl)
    · rw [K00_n (by omega) (by omega) (by omega) (by omega)] at hj
      exact absurd hj (by omega)
    · exact ((oa 118 (by omega)).2.2.2 0).trans (hA.r 18 0 119 (by decide +kernel))
  have e100 : gI Mf 100 = fn11 := (oa 100 (by omega)).2.1.trans hA.2.2.2.2.1
  have e230 : gI Mf 230 = fn12 := hB'.2.2.2.2.1
  refine ⟨⟨by rw [eK]; exact hM, fun p a b => ?_, fun i hi => ?_, fun t ht => ?_⟩, fun t ht => ⟨Or.inl ?_, ?_, ?_⟩, ?_, ?_, 0, fun _ => 0, ?_, ?_, by omega, fun j hj => absurd hj (by omega)⟩
  · rw [((oa 118 (by omega)).2.2.2 0).trans (hA.r 18 0 119 (by decide +kernel))] at a
    cases a
    exact absurd b (by omega)
  · exact Or.inl ⟨lz12 4 (by decide +kernel) i, ((oa 193 (by omega)).2.2.2 i).trans (him i)⟩
  · refine Or.inl ⟨(congrFun (of 244 (by omega)).2.1 t).trans (hj t ht), ?_⟩
    obtain rfl | rfl | rfl | rfl : t = 0 ∨ t = 1 ∨ t = 2 ∨ t = 3 := by omega
    · rw [show 222 + 2 * 0 = 222 from rfl, (oa 222 (by omega)).2.1, t0]; rfl
    · rw [show 222 + 2 * 1 = 224 from rfl, (oa 224 (by omega)).2.1, t1]; rfl
    · rw [show 222 + 2 * 2 = 226 from rfl, (oa 226 (by omega)).2.1, t2]; rfl
    · rw [show 222 + 2 * 3 = 228 from rfl, (oa 228 (by omega)).2.1, t3]; rfl
  · exact (congrFun (of 244 (by omega)).2.1 t).trans (hj t ht)
  · have := lz12 15 (by decide +kernel) t
    rw [show (230 : Nat) + 15 = 245 from rfl] at this
    unfold kn
    rw [this]
    rfl
  · have := lz12 15 (by decide +kernel) t
    rw [show (230 : Nat) + 15 = 245 from rfl] at this
    unfold kn
    rw [this]
    exact Nat.zero_le _
  · rw [e100, e230]; rfl
  · rw [e100, e230]; rfl
  · rw [e100]; rfl
  · rw [e230]; rfl
