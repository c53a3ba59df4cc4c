/-! ===== the class's parser: takes, emits, notes ===== -/
def KI (K : Nat → Int32) : Prop := (kn K 2 ≤ 14 ∧ kn K 3 ≤ 10 ∧ kn K 4 ≤ 8) ∧ ∀ w, w ≤ kn K 3 → kn K (144 + w) ≤ kn K 7
theorem KI.gs {Z : (Nat → Nat) × Nat} {s : Nat} {R S : RSt} (h : KI R.2.2.2) (g : gs Z s R S) : KI S.2.2.2 := by
  unfold KI at h ⊢
  rw [g.k (j := 2) (by decide) (by decide), g.k (j := 3) (by decide) (by decide), g.k (j := 4) (by decide) (by decide)]
  refine ⟨h.1, fun w hw => ?_⟩
  rw [g.k (by omega) (by omega)]
  have := h.2 w hw
  have := g.2.2.1
  omega
theorem rdS_cg {K K' : Nat → Int32} {mk : Nat} : ∀ n, (∀ j, j < n → K' (1155 + j) = K (1155 + j)) → rdS K' mk n = rdS K mk n
  | 0, _ => rfl
  | n + 1, h => by rw [rdS, rdS, rdS_cg n (fun j hj => h j (by omega)), kn_cg (h n (by omega))]
theorem lwS_cg {K K' : Nat → Int32} {mk a : Nat} : ∀ n, (∀ j, j < a + n → K' (1155 + j) = K (1155 + j)) → lwS K' mk a n = lwS K mk a n
  | 0, _ => rfl
  | n + 1, h => by rw [lwS, lwS, lwS_cg n (fun j hj => h j (by omega)), kn_cg (h (a + n) (by omega))]
/-- a step laid: the cells behind it -/
theorem emit_st {p N s v : Nat} {Z : (Nat → Nat) × Nat} {M0 M : mM} {b : Bool} {rb rl : Nat} {R : RSt} (hp : 248 ≤ p) (h : CS p N Z M0 b rb rl R M) (hb : R.1 = 0) (h7 : R.2.2.2 7 = nI (kn R.2.2.2 7)) (hc : kn R.2.2.2 7 < 2000) (hK : KI R.2.2.2) (hm6 : kn R.2.2.2 1 ≤ 6) (hs : s < 2000) (hv : v = encS s) (hrb : rdb (kn R.2.2.2 1) s = rb) (hrl : rdl (kn R.2.2.2 1) s = rl) :
    CS p N Z M0 b 0 0 (rly (nI s) R) (sI (sI M (p + 7) (kn R.2.2.2 7) (nI v)) 102 1 (nI (kn R.2.2.2 7 + 1))) := by
  obtain ⟨h1, h2, h3, h4, h5, h6⟩ := h
  obtain ⟨⟨tA, tB⟩, ⟨⟨g0, g2, g3, g4, g5, g6, g7, g8⟩, gc, grow, gcost, gst, gcode, glamp⟩, ⟨q1, q2, q3⟩⟩ := h6 hb
  obtain ⟨⟨k2, k3, k4⟩, kw⟩ := hK
  unfold rly
  rw [if_pos hb]
  have ho : ∀ j, j ≠ 7 → j ≠ 1155 + kn R.2.2.2 7 → uK (uK R.2.2.2 (1155 + kn R.2.2.2 7) (nI s)) 7 (nI (kn R.2.2.2 7 + 1)) j = R.2.2.2 j := fun j a c => by rw [uK_n _ _ a, uK_n _ _ c]
  have h77 : uK (uK R.2.2.2 (1155 + kn R.2.2.2 7) (nI s)) 7 (nI (kn R.2.2.2 7 + 1)) 7 = nI (kn R.2.2.2 7 + 1) := uK_s _ _ _
  have hns : uK (uK R.2.2.2 (1155 + kn R.2.2.2 7) (nI s)) 7 (nI (kn R.2.2.2 7 + 1)) (1155 + kn R.2.2.2 7) = nI s := by rw [uK_n _ _ (by omega), uK_s]
  generalize hKd : uK (uK R.2.2.2 (1155 + kn R.2.2.2 7) (nI s)) 7 (nI (kn R.2.2.2 7 + 1)) = K' at ho h77 hns ⊢
  generalize hcc : kn R.2.2.2 7 = c at hc kw ho h77 hns gcode q1 q3 ⊢
  have hk : ∀ j, j ≠ 7 → j ≠ 1155 + c → kn K' j = kn R.2.2.2 j := fun j a d => kn_cg (ho j a d)
  have hk7 : kn K' 7 = c + 1 := by rw [kn, h77, nI_clamp (by omega)]
  have hks : kn K' (1155 + c) = s := by rw [kn, hns, nI_clamp (by omega)]
  have mo : ∀ q k, q ≠ 102 → q ≠ p + 7 → gI (sI (sI M (p + 7) c (nI v)) 102 1 (nI (c + 1))) q k = gI M q k := fun q k a d => by rw [gI_sq _ _ a, gI_sq _ _ d]
  have m2 : ∀ k, k ≠ 1 → gI (sI (sI M (p + 7) c (nI v)) 102 1 (nI (c + 1))) 102 k = gI M 102 k := fun k a => by rw [gI_sk _ _ a, gI_sq _ _ (by omega)]
  refine ⟨(h1.st _ (Wcs_p _ ⟨by omega, by omega⟩)).st _ rfl, ⟨(m2 3 (by decide)).trans h2.1, h2.2⟩, (m2 4 (by decide)).trans h3, ?_, ?_, fun _ => ⟨?_, ⟨⟨?_, ?_, ?_, ?_, ?_, ?_, ?_, ?_⟩, ?_, ?_, ?_, ?_, ?_, ?_⟩, ?_, ?_, ?_⟩⟩
  · show gI _ p 1 = nI (kn K' 1)
    rw [mo p 1 (by omega) (by omega), hk 1 (by omega) (by omega)]; exact h4
  · rw [mo p 4 (by omega) (by omega)]; exact h5
  · obtain ⟨a1, a2, a3, a4, a5⟩ := tA
    obtain ⟨b1, b2, b3, b4, b5⟩ := tB
    refine ⟨⟨(mo 103 7 (by decide) (by omega)).trans a1, a2, a3, a4, fun j hj => ?_⟩, (mo 103 6 (by decide) (by omega)).trans b1, b2, b3, (mo 103 9 (by decide) (by omega)).trans b4, fun z => (mo 103 10 (by decide) (by omega)).trans (b5 z)⟩
    obtain ⟨c1, c2, c3⟩ := a5 j hj
    exact ⟨c1, (mo 105 j (by decide) (by omega)).trans c2, fun z => (mo 106 j (by decide) (by omega)).trans (c3 z)⟩
  · show gI _ p 0 = K' 0
    rw [mo p 0 (by omega) (by omega), ho 0 (by omega) (by omega)]; exact g0
  · show gI _ p 2 = K' 2
    rw [mo p 2 (by omega) (by omega), ho 2 (by omega) (by omega)]; exact g2
  · show gI _ p 3 = K' 93
    rw [mo p 3 (by omega) (by omega), ho 93 (by omega) (by omega)]; exact g3
  · show gI _ p 4 = K' 3
    rw [mo p 4 (by omega) (by omega), ho 3 (by omega) (by omega)]; exact g4
  · show gI _ p 5 = K' 119
    rw [mo p 5 (by omega) (by omega), ho 119 (by omega) (by omega)]; exact g5
  · show gI _ p 6 = K' 4
    rw [mo p 6 (by omega) (by omega), ho 4 (by omega) (by omega)]; exact g6
  · show gI _ p 7 = K' 5
    rw [mo p 7 (by omega) (by omega), ho 5 (by omega) (by omega)]; exact g7
  · show gI _ p 8 = K' 6
    rw [mo p 8 (by omega) (by omega), ho 6 (by omega) (by omega)]; exact g8
  · show gI _ 102 1 = K' 7
    rw [gI_ss]; exact h77.symm
  · intro d hd
    replace hd : d < kn K' 2 := hd
    rw [hk 2 (by omega) (by omega)] at hd
    show gI _ (p + 1) d = nI (pkR (cur K') d (kn K' 1))
    rw [mo (p + 1) d (by omega) (by omega), hk 1 (by omega) (by omega), grow d hd]
    exact congrArg nI (pkR_cg (b := cur R.2.2.2) (b' := cur K') (fun m hm => ho (9 + (6 * d + m)) (by omega) (by omega)) _ hm6).symm
  · intro w hw
    show gI _ (p + 2) w = K' (109 + w)
    rw [mo (p + 2) w (by omega) (by omega), ho (109 + w) (by omega) (by omega)]; exact gcost w hw
  · intro w hw
    show gI _ (p + 3) w = K' (144 + w)
    rw [mo (p + 3) w (by omega) (by omega), ho (144 + w) (by omega) (by omega)]; exact gst w hw
  · intro k hk'
    replace hk' : k < kn K' 7 := hk'
    rw [hk7] at hk'
    show gI _ (p + 7) k = nI (encS (kn K' (1155 + k)))
    rw [gI_sq _ _ (by omega)]
    by_cases hkc : k = c
    · subst hkc; rw [gI_ss, hks, hv]
    · rw [gI_sk _ _ hkc, hk (1155 + k) (by omega) (by omega)]; exact gcode k (by omega)
  · intro m x hm hx
    show ltB M p (10 * m + x) = hsL K' (nI m) (nI x) (kn K' 4) 0 ∧ (if ltB M p (10 * m + x) = true then gI (sI (sI M (p + 7) c (nI v)) 102 1 (nI (c + 1))) (p + 6) (10 * m + x) else nI x) = lby K' (nI m) (nI x) (kn K' 4) 0
    rw [mo (p + 6) _ (by omega) (by omega), hk 4 (by omega) (by omega), lby_K (K := R.2.2.2) (fun i a d => ho i (by omega) (by omega)) _ _ _ _ (by omega), hsL_K (K := R.2.2.2) (fun i a d => ho i (by omega) (by omega)) _ _ _ _ (by omega)]
    exact glamp m x hm hx
  · show gI _ p 9 = nI (rdS K' (kn K' 1) (kn K' 7) ||| 0)
    rw [mo p 9 (by omega) (by omega), hk7, hk 1 (by omega) (by omega), Nat.or_zero, rdS, hks, hrb, rdS_cg (K := R.2.2.2) c (fun j hj => ho _ (by omega) (by omega))]
    exact q1
  · intro w hw
    replace hw : w < kn K' 3 := hw
    rw [hk 3 (by omega) (by omega)] at hw
    show gI _ (p + 4) w = nI (lwS K' (kn K' 1) (kn K' (144 + w)) (kn K' (144 + w + 1) - kn K' (144 + w))) - 1
    have e1 := kw w (by omega)
    have e2 := kw (w + 1) (by omega)
    rw [show 144 + (w + 1) = 144 + w + 1 by omega] at e2
    rw [mo (p + 4) w (by omega) (by omega), hk 1 (by omega) (by omega), hk (144 + w) (by omega) (by omega), hk (144 + w + 1) (by omega) (by omega), lwS_cg (K := R.2.2.2) _ (fun j hj => ho _ (by omega) (by omega))]
    exact q2 w hw
  · intro hbt
    show gI _ (p + 4) (kn K' 3) = nI (max (lwS K' (kn K' 1) (kn K' (144 + kn K' 3)) (kn K' 7 - kn K' (144 + kn K' 3))) 0) - 1
    have e1 := kw (kn R.2.2.2 3) (Nat.le_refl _)
    rw [mo (p + 4) _ (by omega) (by omega), hk 1 (by omega) (by omega), hk 3 (by omega) (by omega), hk (144 + kn R.2.2.2 3) (by omega) (by omega), hk7, show c + 1 - kn R.2.2.2 (144 + kn R.2.2.2 3) = (c - kn R.2.2.2 (144 + kn R.2.2.2 3)) + 1 by omega, lwS, show 1155 + (kn R.2.2.2 (144 + kn R.2.2.2 3) + (c - kn R.2.2.2 (144 + kn R.2.2.2 3))) = 1155 + c by omega, hks, hrl, Nat.max_zero, lwS_cg (K := R.2.2.2) _ (fun j hj => ho _ (by omega) (by omega))]
    exact q3 hbt
theorem rnu_b {Z : (Nat → Nat) × Nat} {lo hi : Nat} {R : RSt} (h : R.1 ≠ 0) : rnu Z lo hi R = R ∧ rnv Z lo hi R = lo := by
  have e : rn1 Z lo hi R = R := by
    unfold rn1
    rw [rbl_b h, rbl_b h]
    split
    · rfl
    · split <;> rfl
  unfold rnu rnv
  rw [e, rgo_b h, if_neg h]
  exact ⟨rfl, rfl⟩
theorem max_m1 {l t : Nat} (hl : l < 1000) (ht : t < 1000) : (if nI l - 1 < nI t then nI t else nI l - 1) = nI (max l (t + 1)) - 1 := by
  have e : ∀ x, nI (x + 1) - 1 = nI x := fun x => by rw [← nI_1, Int32.add_sub_cancel]
  rcases Nat.eq_zero_or_pos l with h | h
  · subst h
    rw [show max 0 (t + 1) = t + 1 by omega, e, if_pos]
    exact Int32.lt_of_lt_of_le (show nI 0 - 1 < nI 0 by decide) (nI_le (Nat.zero_le _) (by omega))
  · obtain ⟨k, rfl⟩ : ∃ k, l = k + 1 := ⟨l - 1, by omega⟩
    rw [e]
    by_cases hk : k < t
    · rw [if_pos ((nI_ltI (by omega) (by omega)).mpr hk), show max (k + 1) (t + 1) = t + 1 by omega, e]
    · rw [if_neg (fun z => hk ((nI_ltI (by omega) (by omega)).mp z)), show max (k + 1) (t + 1) = k + 1 by omega, e]
section CQ
variable (G : mG) (M : mM)
theorem c3_takeIf {p N k : Nat} {Z : (Nat → Nat) × Nat} {M0 : mM} {b : Bool} {rb rl : Nat} {R : RSt} (hM : PM M0 p N) (h : CS p N Z M0 b rb rl R M) (hk : k < 32) : Ct G Y3_takeIf 1 0 0 [.ref 102, .ref k] M (Rs (some (.int (bI (rIs Z k R)))) (CS p N Z M0 b rb rl (rtk Z k R))) NX := by
  have hS' := (hM.sq h.1).1
  have hc := c3_stands G M (k := k) hM h (by omega)
  unfold rtk
  refine Ct.of k3_takeIf.1 (Nat.le_of_ble_eq_true rfl) ?_
  by_cases h0 : rIs Z k R
  · rw [if_pos h0]
    rw [bI_t h0] at hc ⊢
    have t := (h.2.2.2.2.2 h0.1).1
    have hi : R.2.2.1 < N := by
      rcases Nat.lt_or_ge R.2.2.1 N with q | q
      · exact q
      · exact absurd h0.2 (by rw [show R.2.2.1 = N by have := t.2.2.1; omega, t.1.2.2.1]; omega)
    refine v_aload_n dX3_takeIf_0 rfl ?_
    refine v_aload_n dX3_takeIf_1 rfl ?_
    refine v_cV [_] (hc) k3_stands dX3_takeIf_2 l3_72 (by first | exact hS'.1 _ _ rfl | assumption) (by decide) rfl (Nat.le_of_ble_eq_true rfl) (Nat.le_of_ble_eq_true rfl) ?_
    refine v_istore_n dX3_takeIf_5 rfl (by decide) ?_
    refine v_iload_n dX3_takeIf_6 rfl ?_
    refine v_if_eq 17 dX3_takeIf_7 (by decide) (fun h7 => absurd h7 (by decide)) (fun h7 => ?_)
    refine v_aload_n dX3_takeIf_10 rfl ?_
    refine v_getR 3 0 _ dX3_takeIf_11 f3_12 (by first | exact hS'.1 _ _ rfl | assumption) (by decide) (by first | exact hS'.2 _ _ _ rfl | assumption) ?_
    refine v_scVv [] (c9_next G M hS' t hi) k9_next dX3_takeIf_14 l3_96 (by first | exact hS'.1 _ _ rfl | assumption) (by decide) rfl (Nat.le_of_ble_eq_true rfl) (Nat.le_of_ble_eq_true rfl) ?_
    intro M2 hM2
    refine v_iload_n dX3_takeIf_17 rfl ?_
    refine v_zret dX3_takeIf_18 rfl (by first | rfl | exact bI_nb _ | assumption) ?_
    exact ⟨rfl, h.nx hM.2.2.1 h0.1 hM2.1 hM2.2⟩
  · rw [if_neg h0]
    rw [bI_f h0] at hc ⊢
    refine v_aload_n dX3_takeIf_0 rfl ?_
    refine v_aload_n dX3_takeIf_1 rfl ?_
    refine v_cV [_] (hc) k3_stands dX3_takeIf_2 l3_72 (by first | exact hS'.1 _ _ rfl | assumption) (by decide) rfl (Nat.le_of_ble_eq_true rfl) (Nat.le_of_ble_eq_true rfl) ?_
    refine v_istore_n dX3_takeIf_5 rfl (by decide) ?_
    refine v_iload_n dX3_takeIf_6 rfl ?_
    refine v_if_eq 17 dX3_takeIf_7 (by decide) (fun h7 => ?_) (fun h7 => absurd rfl h7)
    refine v_iload_n dX3_takeIf_17 rfl ?_
    refine v_zret dX3_takeIf_18 rfl (by first | rfl | exact bI_nb _ | assumption) ?_
    exact ⟨rfl, h⟩
/-- the next token, where one stands that isn't the end -/
theorem c3_nx {p N : Nat} {Z : (Nat → Nat) × Nat} {M0 : mM} {b : Bool} {rb rl : Nat} {R : RSt} (hM : PM M0 p N) (h : CS p N Z M0 b rb rl R M) (h0 : R.1 = 0) (hk : kd Z R.2.2.1 ≠ 32) : Ct G Y9_next 0 0 0 [.ref 103] M (Rs none (CS p N Z M0 b rb rl (rnx R))) NX := by
  have hS' := (hM.sq h.1).1
  have t := (h.2.2.2.2.2 h0).1
  have hi : R.2.2.1 < N := by
    rcases Nat.lt_or_ge R.2.2.1 N with q | q
    · exact q
    · exact absurd (show kd Z R.2.2.1 = 32 by rw [show R.2.2.1 = N by have := t.2.2.1; omega, t.1.2.2.1]) hk
  exact (c9_next G M hS' t hi).post (fun _ _ q => ⟨q.1, h.nx hM.2.2.1 h0 q.2.1 q.2.2⟩) (fun _ _ z => z)
theorem c3_take {p N k : Nat} {Z : (Nat → Nat) × Nat} {M0 : mM} {b : Bool} {rb rl : Nat} {R : RSt} (hM : PM M0 p N) (h : CS p N Z M0 b rb rl R M) (hk : k < 32) : Ct G Y3_take 1 0 0 [.ref 102, .ref k] M (Rs none (CS p N Z M0 b rb rl (rmu Z k R))) NX := by
  have hS' := (hM.sq h.1).1
  have hc := c3_stands G M (k := k) hM h (by omega)
  refine Ct.of k3_take.1 (Nat.le_of_ble_eq_true rfl) ?_
  by_cases h0 : rIs Z k R
  · rw [bI_t h0] at hc
    have e : rmu Z k R = rnx R := by unfold rmu; rw [if_pos h0.2, rgo_z h0.1]
    rw [e]
    refine v_aload_n dX3_take_0 rfl ?_
    refine v_aload_n dX3_take_1 rfl ?_
    refine v_cV [_] (hc) k3_stands dX3_take_2 l3_72 (by first | exact hS'.1 _ _ rfl | assumption) (by decide) rfl (Nat.le_of_ble_eq_true rfl) (Nat.le_of_ble_eq_true rfl) ?_
    refine v_if_eq 18 dX3_take_5 (by decide) (fun h5 => absurd h5 (by decide)) (fun h5 => ?_)
    refine v_aload_n dX3_take_8 rfl ?_
    refine v_getR 3 0 _ dX3_take_9 f3_12 (by first | exact hS'.1 _ _ rfl | assumption) (by decide) (by first | exact hS'.2 _ _ _ rfl | assumption) ?_
    refine v_scVv [] (c3_nx G M hM h h0.1 (by have := h0.2; omega)) k9_next dX3_take_12 l3_96 (by first | exact hS'.1 _ _ rfl | assumption) (by decide) rfl (Nat.le_of_ble_eq_true rfl) (Nat.le_of_ble_eq_true rfl) ?_
    intro M2 hM2
    refine v_goto 23 dX3_take_15 (by decide) ?_
    refine v_vret dX3_take_23 rfl ?_
    exact ⟨rfl, hM2⟩
  · rw [bI_f h0] at hc
    have e : rmu Z k R = rbl Z 2 R := by
      by_cases hb : R.1 = 0
      · unfold rmu; rw [if_neg (fun z => h0 ⟨hb, z⟩), rgo_b (rbl_p (by omega) R)]
      · rw [rmu_b hb, rbl_b hb]
    rw [e]
    refine v_aload_n dX3_take_0 rfl ?_
    refine v_aload_n dX3_take_1 rfl ?_
    refine v_cV [_] (hc) k3_stands dX3_take_2 l3_72 (by first | exact hS'.1 _ _ rfl | assumption) (by decide) rfl (Nat.le_of_ble_eq_true rfl) (Nat.le_of_ble_eq_true rfl) ?_
    refine v_if_eq 18 dX3_take_5 (by decide) (fun h5 => ?_) (fun h5 => absurd rfl h5)
    refine v_aload_n dX3_take_18 rfl ?_
    refine v_iconst 2 dX3_take_19 (by decide) ?_
    refine v_scVv [_] (c3_fail G M (k := 2) hM h rfl (by omega) (by omega)) k3_fail dX3_take_20 l3_99 (by first | exact hS'.1 _ _ rfl | assumption) (by decide) rfl (Nat.le_of_ble_eq_true rfl) (Nat.le_of_ble_eq_true rfl) ?_
    intro M2 hM2
    refine v_vret dX3_take_23 rfl ?_
    exact ⟨rfl, hM2⟩
theorem c3_takeNumber {p N lo hi : Nat} {Z : (Nat → Nat) × Nat} {M0 : mM} {b : Bool} {rb rl : Nat} {R : RSt} (hM : PM M0 p N) (h : CS p N Z M0 b rb rl R M) (hl : lo < 2 ^ 31) (hh : hi < 2 ^ 31) : Ct G Y3_takeNumber 1 0 0 [.ref 102, .int (nI lo), .int (nI hi)] M (Rs (some (.int (nI (rnv Z lo hi R)))) (CS p N Z M0 b rb rl (rnu Z lo hi R))) NX := by
  have hS' := (hM.sq h.1).1
  have hc := c3_stands G M (k := 29) hM h (by omega)
  refine Ct.of k3_takeNumber.1 (Nat.le_of_ble_eq_true rfl) ?_
  by_cases h0 : rIs Z 29 R
  · rw [bI_t h0] at hc
    have t := (h.2.2.2.2.2 h0.1).1
    have hv := t.2.2.2.2.2 h0.2
    have hvl := vl_lt h0.2
    by_cases hin : lo ≤ vl Z R.2.2.1 ∧ vl Z R.2.2.1 ≤ hi
    · have e : rn1 Z lo hi R = R := by unfold rn1; rw [if_neg (Decidable.not_not.mpr h0.2), if_pos hin]
      unfold rnu rnv
      rw [e, rgo_z h0.1, if_pos h0.1]
      refine v_aload_n dX3_takeNumber_0 rfl ?_
      refine v_gets (v := .ref 29) dX3_takeNumber_1 g3_102 (kT_z G (i := 29) (by decide) rfl) ?_
      refine v_cV [_] (hc) k3_stands dX3_takeNumber_4 l3_72 (by first | exact hS'.1 _ _ rfl | assumption) (by decide) rfl (Nat.le_of_ble_eq_true rfl) (Nat.le_of_ble_eq_true rfl) ?_
      refine v_if_ne 17 dX3_takeNumber_7 (by decide) (fun h7 => ?_) (fun h7 => absurd (show ¬ (1 : Int32) = 0 by decide) h7)
      refine v_aload_n dX3_takeNumber_17 rfl ?_
      refine v_getR 3 0 _ dX3_takeNumber_18 f3_12 (by first | exact hS'.1 _ _ rfl | assumption) (by decide) (by first | exact hS'.2 _ _ _ rfl | assumption) ?_
      refine v_getI 9 10 dX3_takeNumber_21 f3_105 (by first | exact hS'.1 _ _ rfl | assumption) (by decide) ?_
      rw [hv]
      refine v_istore_n dX3_takeNumber_24 rfl (by decide) ?_
      refine v_iload_n dX3_takeNumber_25 rfl ?_
      refine v_iload_n dX3_takeNumber_26 rfl ?_
      refine v_icmp_lt 35 dX3_takeNumber_27 (by decide) (fun h27 => absurd ((nI_ltI (by omega) hl).mp h27) (by omega)) (fun h27 => ?_)
      refine v_iload_n dX3_takeNumber_30 rfl ?_
      refine v_iload_n dX3_takeNumber_31 rfl ?_
      refine v_icmp_le 42 dX3_takeNumber_32 (by decide) (fun h32 => ?_) (fun h32 => absurd ((nI_leI (by omega) hh).mpr hin.2) h32)
      refine v_aload_n dX3_takeNumber_42 rfl ?_
      refine v_getR 3 0 _ dX3_takeNumber_43 f3_12 (by first | exact hS'.1 _ _ rfl | assumption) (by decide) (by first | exact hS'.2 _ _ _ rfl | assumption) ?_
      refine v_scVv [] (c3_nx G M hM h h0.1 (by have := h0.2; omega)) k9_next dX3_takeNumber_46 l3_96 (by first | exact hS'.1 _ _ rfl | assumption) (by decide) rfl (Nat.le_of_ble_eq_true rfl) (Nat.le_of_ble_eq_true rfl) ?_
      intro M2 hM2
      refine v_iload_n dX3_takeNumber_49 rfl ?_
      refine v_iret dX3_takeNumber_50 rfl ?_
      exact ⟨rfl, hM2⟩
    · have e : rn1 Z lo hi R = rbl Z 3 R := by unfold rn1; rw [if_neg (Decidable.not_not.mpr h0.2), if_neg hin]
      unfold rnu rnv
      rw [e, rgo_b (rbl_p (by omega) R), if_neg (rbl_p (by omega) R)]
      have hf := c3_fail G M (k := 3) hM h (x := 3) rfl (by omega) (by omega)
      by_cases hlo : vl Z R.2.2.1 < lo
      · refine v_aload_n dX3_takeNumber_0 rfl ?_
        refine v_gets (v := .ref 29) dX3_takeNumber_1 g3_102 (kT_z G (i := 29) (by decide) rfl) ?_
        refine v_cV [_] (hc) k3_stands dX3_takeNumber_4 l3_72 (by first | exact hS'.1 _ _ rfl | assumption) (by decide) rfl (Nat.le_of_ble_eq_true rfl) (Nat.le_of_ble_eq_true rfl) ?_
        refine v_if_ne 17 dX3_takeNumber_7 (by decide) (fun h7 => ?_) (fun h7 => absurd (show ¬ (1 : Int32) = 0 by decide) h7)
        refine v_aload_n dX3_takeNumber_17 rfl ?_
        refine v_getR 3 0 _ dX3_takeNumber_18 f3_12 (by first | exact hS'.1 _ _ rfl | assumption) (by decide) (by first | exact hS'.2 _ _ _ rfl | assumption) ?_
        refine v_getI 9 10 dX3_takeNumber_21 f3_105 (by first | exact hS'.1 _ _ rfl | assumption) (by decide) ?_
        rw [hv]
        refine v_istore_n dX3_takeNumber_24 rfl (by decide) ?_
        refine v_iload_n dX3_takeNumber_25 rfl ?_
        refine v_iload_n dX3_takeNumber_26 rfl ?_
        refine v_icmp_lt 35 dX3_takeNumber_27 (by decide) (fun h27 => ?_) (fun h27 => absurd ((nI_ltI (by omega) hl).mpr hlo) h27)
        refine v_aload_n dX3_takeNumber_35 rfl ?_
        refine v_iconst 3 dX3_takeNumber_36 (by decide) ?_
        refine v_scVv [_] (hf) k3_fail dX3_takeNumber_37 l3_99 (by first | exact hS'.1 _ _ rfl | assumption) (by decide) rfl (Nat.le_of_ble_eq_true rfl) (Nat.le_of_ble_eq_true rfl) ?_
        intro M2 hM2
        refine v_iload_n dX3_takeNumber_40 rfl ?_
        refine v_iret dX3_takeNumber_41 rfl ?_
        exact ⟨rfl, hM2⟩
      · refine v_aload_n dX3_takeNumber_0 rfl ?_
        refine v_gets (v := .ref 29) dX3_takeNumber_1 g3_102 (kT_z G (i := 29) (by decide) rfl) ?_
        refine v_cV [_] (hc) k3_stands dX3_takeNumber_4 l3_72 (by first | exact hS'.1 _ _ rfl | assumption) (by decide) rfl (Nat.le_of_ble_eq_true rfl) (Nat.le_of_ble_eq_true rfl) ?_
        refine v_if_ne 17 dX3_takeNumber_7 (by decide) (fun h7 => ?_) (fun h7 => absurd (show ¬ (1 : Int32) = 0 by decide) h7)
        refine v_aload_n dX3_takeNumber_17 rfl ?_
        refine v_getR 3 0 _ dX3_takeNumber_18 f3_12 (by first | exact hS'.1 _ _ rfl | assumption) (by decide) (by first | exact hS'.2 _ _ _ rfl | assumption) ?_
        refine v_getI 9 10 dX3_takeNumber_21 f3_105 (by first | exact hS'.1 _ _ rfl | assumption) (by decide) ?_
        rw [hv]
        refine v_istore_n dX3_takeNumber_24 rfl (by decide) ?_
        refine v_iload_n dX3_takeNumber_25 rfl ?_
        refine v_iload_n dX3_takeNumber_26 rfl ?_
        refine v_icmp_lt 35 dX3_takeNumber_27 (by decide) (fun h27 => absurd ((nI_ltI (by omega) hl).mp h27) hlo) (fun h27 => ?_)
        refine v_iload_n dX3_takeNumber_30 rfl ?_
        refine v_iload_n dX3_takeNumber_31 rfl ?_
        refine v_icmp_le 42 dX3_takeNumber_32 (by decide) (fun h32 => absurd ⟨by omega, (nI_leI (by omega) hh).mp h32⟩ hin) (fun h32 => ?_)
        refine v_aload_n dX3_takeNumber_35 rfl ?_
        refine v_iconst 3 dX3_takeNumber_36 (by decide) ?_
        refine v_scVv [_] (hf) k3_fail dX3_takeNumber_37 l3_99 (by first | exact hS'.1 _ _ rfl | assumption) (by decide) rfl (Nat.le_of_ble_eq_true rfl) (Nat.le_of_ble_eq_true rfl) ?_
        intro M2 hM2
        refine v_iload_n dX3_takeNumber_40 rfl ?_
        refine v_iret dX3_takeNumber_41 rfl ?_
        exact ⟨rfl, hM2⟩
  · rw [bI_f h0] at hc
    have e : rnu Z lo hi R = rbl Z 2 R ∧ rnv Z lo hi R = lo := by
      by_cases hb : R.1 = 0
      · have e : rn1 Z lo hi R = rbl Z 2 R := if_pos (fun z => h0 ⟨hb, z⟩)
        unfold rnu rnv
        rw [e, rgo_b (rbl_p (by omega) R), if_neg (rbl_p (by omega) R)]
        exact ⟨rfl, rfl⟩
      · rw [rbl_b hb]; exact rnu_b hb
    rw [e.1, e.2]
    refine v_aload_n dX3_takeNumber_0 rfl ?_
    refine v_gets (v := .ref 29) dX3_takeNumber_1 g3_102 (kT_z G (i := 29) (by decide) rfl) ?_
    refine v_cV [_] (hc) k3_stands dX3_takeNumber_4 l3_72 (by first | exact hS'.1 _ _ rfl | assumption) (by decide) rfl (Nat.le_of_ble_eq_true rfl) (Nat.le_of_ble_eq_true rfl) ?_
    refine v_if_ne 17 dX3_takeNumber_7 (by decide) (fun h7 => absurd rfl h7) (fun h7 => ?_)
    refine v_aload_n dX3_takeNumber_10 rfl ?_
    refine v_iconst 2 dX3_takeNumber_11 (by decide) ?_
    refine v_scVv [_] (c3_fail G M (k := 2) hM h rfl (by omega) (by omega)) k3_fail dX3_takeNumber_12 l3_99 (by first | exact hS'.1 _ _ rfl | assumption) (by decide) rfl (Nat.le_of_ble_eq_true rfl) (Nat.le_of_ble_eq_true rfl) ?_
    intro M2 hM2
    refine v_iload_n dX3_takeNumber_15 rfl ?_
    refine v_iret dX3_takeNumber_16 rfl ?_
    exact ⟨rfl, hM2⟩
theorem c3_mayNest {p N d : Nat} {Z : (Nat → Nat) × Nat} {M0 : mM} {b : Bool} {rb rl : Nat} {R : RSt} (hM : PM M0 p N) (h : CS p N Z M0 b rb rl R M) (h0 : R.1 = 0) (hk : kd Z R.2.2.1 ≠ 32) (hd : d ≤ 6) : Ct G Y3_mayNest 1 0 0 [.ref 102, .int (nI d)] M (Rs (some (.int (bI (d < 6)))) (CS p N Z M0 b rb rl (if d < 6 then rnx R else rbl Z 4 R))) NX := by
  have hS' := (hM.sq h.1).1
  refine Ct.of k3_mayNest.1 (Nat.le_of_ble_eq_true rfl) ?_
  by_cases hd6 : d < 6
  · rw [if_pos hd6, bI_t hd6]
    refine v_iload_n dX3_mayNest_0 rfl ?_
    refine v_bipush 6 dX3_mayNest_1 (by decide) ?_
    refine v_icmp_lt 13 dX3_mayNest_3 (by decide) (fun h3 => ?_) (fun h3 => absurd ((nI_ltI (b := 6) (by omega) (by omega)).mpr hd6) h3)
    refine v_aload_n dX3_mayNest_13 rfl ?_
    refine v_getR 3 0 _ dX3_mayNest_14 f3_12 (by first | exact hS'.1 _ _ rfl | assumption) (by decide) (by first | exact hS'.2 _ _ _ rfl | assumption) ?_
    refine v_scVv [] (c3_nx G M hM h h0 hk) k9_next dX3_mayNest_17 l3_96 (by first | exact hS'.1 _ _ rfl | assumption) (by decide) rfl (Nat.le_of_ble_eq_true rfl) (Nat.le_of_ble_eq_true rfl) ?_
    intro M2 hM2
    refine v_iconst 1 dX3_mayNest_20 (by decide) ?_
    refine v_zret dX3_mayNest_21 rfl (by first | rfl | exact bI_nb _ | assumption) ?_
    exact ⟨rfl, hM2⟩
  · rw [if_neg hd6, bI_f hd6]
    refine v_iload_n dX3_mayNest_0 rfl ?_
    refine v_bipush 6 dX3_mayNest_1 (by decide) ?_
    refine v_icmp_lt 13 dX3_mayNest_3 (by decide) (fun h3 => absurd ((nI_ltI (b := 6) (by omega) (by omega)).mp h3) hd6) (fun h3 => ?_)
    refine v_aload_n dX3_mayNest_6 rfl ?_
    refine v_iconst 4 dX3_mayNest_7 (by decide) ?_
    refine v_scVv [_] (c3_fail G M (k := 4) hM h rfl (by omega) (by omega)) k3_fail dX3_mayNest_8 l3_99 (by first | exact hS'.1 _ _ rfl | assumption) (by decide) rfl (Nat.le_of_ble_eq_true rfl) (Nat.le_of_ble_eq_true rfl) ?_
    intro M2 hM2
    refine v_iconst 0 dX3_mayNest_11 (by decide) ?_
    refine v_zret dX3_mayNest_12 rfl (by first | rfl | exact bI_nb _ | assumption) ?_
    exact ⟨rfl, hM2⟩
theorem c3_emitB {p N : Nat} {Z : (Nat → Nat) × Nat} {M0 : mM} {b : Bool} {rb rl : Nat} {R : RSt} (hM : PM M0 p N) (h : CS p N Z M0 b rb rl R M) (h0 : R.1 ≠ 0) (x y : Int32) : Ct G Y3_emit 0 0 0 [.ref 102, .int x, .int y] M (Rv none M) NX := by
  have hS' := (hM.sq h.1).1
  refine Ct.of k3_emit.1 (Nat.le_of_ble_eq_true rfl) ?_
  refine v_aload_n dX3_emit_0 rfl ?_
  refine v_getI 3 3 dX3_emit_1 f3_29 (by first | exact hS'.1 _ _ rfl | assumption) (by decide) ?_
  refine v_if_ne 50 dX3_emit_4 (by decide) (fun h4 => ?_) (fun h4 => absurd (h.bad.2 h0) h4)
  refine v_vret dX3_emit_50 rfl ?_
  exact ⟨rfl, rfl⟩
theorem c3_emit {p N s : Nat} {Z : (Nat → Nat) × Nat} {M0 : mM} {b : Bool} {rb rl : Nat} {R : RSt} {x y : Int32} (hM : PM M0 p N) (h : CS p N Z M0 b rb rl R M) (h7 : R.2.2.2 7 = nI (kn R.2.2.2 7)) (hc : R.1 = 0 → kn R.2.2.2 7 < R.2.2.1) (hK : KI R.2.2.2) (hm6 : kn R.2.2.2 1 ≤ 6) (hs : s < 2000) (hv : x <<< ((10 : Int32) &&& 31) ||| y = nI (encS s)) (hrb : R.1 = 0 → rdb (kn R.2.2.2 1) s = rb) (hrl : R.1 = 0 → rdl (kn R.2.2.2 1) s = rl) : Ct G Y3_emit 0 0 0 [.ref 102, .int x, .int y] M (Rs none (CS p N Z M0 b (if R.1 = 0 then 0 else rb) (if R.1 = 0 then 0 else rl) (rly (nI s) R))) NX := by
  have hPM := hM.sq h.1
  have hS' := hPM.1
  by_cases h0 : R.1 = 0
  · rw [if_pos h0, if_pos h0]
    have t := (h.2.2.2.2.2 h0).1
    have hiN := t.2.2.1
    have hN := hM.2.2.2.2
    have hc' := hc h0
    have e1 : gI M 102 1 = nI (kn R.2.2.2 7) := ((h.2.2.2.2.2 h0).2.1.2.1).trans h7
    have hp2 := hPM.2.2.2.1
    obtain ⟨p0, p1, p2, p3, p4, p6, r10, r11, r12, r13, r15, r14, tc, hlt⟩ := hPM.2.1
    have fin := emit_st (s := s) (v := encS s) hM.2.2.1 h h0 h7 (by omega) hK hm6 hs rfl (hrb h0) (hrl h0)
    have f1 : ∀ v, gI (sI M (p + 7) (kn R.2.2.2 7) v) 102 1 = nI (kn R.2.2.2 7) := fun v => (gI_sq _ _ (by have := hM.2.2.1; omega)).trans e1
    refine Ct.of k3_emit.1 (Nat.le_of_ble_eq_true rfl) ?_
    refine v_aload_n dX3_emit_0 rfl ?_
    refine v_getI 3 3 dX3_emit_1 f3_29 (by first | exact hS'.1 _ _ rfl | assumption) (by decide) ?_
    rw [h.bad.1 h0]
    refine v_if_ne 50 dX3_emit_4 (by decide) (fun h4 => absurd rfl h4) (fun h4 => ?_)
    refine v_aload_n dX3_emit_7 rfl ?_
    refine v_getI 3 1 dX3_emit_8 f3_32 (by first | exact hS'.1 _ _ rfl | assumption) (by decide) ?_
    refine v_aload_n dX3_emit_11 rfl ?_
    refine v_getR 3 2 _ dX3_emit_12 f3_21 (by first | exact hS'.1 _ _ rfl | assumption) (by decide) hp2 ?_
    refine v_getR 4 14 _ dX3_emit_15 f3_42 p0 (by decide) r14 ?_
    refine v_alen dX3_emit_18 tc (by decide) ?_
    rw [e1]
    refine v_icmp_ge 50 dX3_emit_19 (by decide) (fun h19 => absurd ((nI_leI (by omega) (by omega)).mp h19) (by omega)) (fun h19 => ?_)
    refine v_aload_n dX3_emit_22 rfl ?_
    refine v_getR 3 2 _ dX3_emit_23 f3_21 (by first | exact hS'.1 _ _ rfl | assumption) (by decide) hp2 ?_
    refine v_getR 4 14 _ dX3_emit_26 f3_42 p0 (by decide) r14 ?_
    refine v_aload_n dX3_emit_29 rfl ?_
    refine v_getI 3 1 dX3_emit_30 f3_32 (by first | exact hS'.1 _ _ rfl | assumption) (by decide) ?_
    rw [e1]
    refine v_iload_n dX3_emit_33 rfl ?_
    refine v_bipush 10 dX3_emit_34 (by decide) ?_
    refine v_ishl dX3_emit_36 ?_
    refine v_iload_n dX3_emit_37 rfl ?_
    refine v_ior dX3_emit_38 ?_
    rw [hv]
    refine v_iastN (kn R.2.2.2 7) dX3_emit_39 tc (by simp only [n_lit, pk_mul, nI_add]) ⟨by omega, by omega⟩ ?_
    refine v_aload_n dX3_emit_40 rfl ?_
    refine v_dup dX3_emit_41 rfl ?_
    refine v_getI 3 1 dX3_emit_42 f3_32 (by first | exact hS'.1 _ _ rfl | assumption) (by decide) ?_
    rw [f1]
    refine v_iconst 1 dX3_emit_45 (by decide) ?_
    refine v_iadd dX3_emit_46 ?_
    rw [nI_1]
    refine v_putI 3 1 dX3_emit_47 f3_32 (by first | exact hS'.1 _ _ rfl | assumption) (by decide) ?_
    refine v_vret dX3_emit_50 rfl ?_
    exact ⟨rfl, fin⟩
  · rw [if_neg h0, if_neg h0]
    exact (c3_emitB G M hM h h0 x y).post (fun _ _ q => ⟨q.1, by rw [q.2, rly, if_neg h0]; exact h⟩) (fun _ _ z => z)
end CQ
