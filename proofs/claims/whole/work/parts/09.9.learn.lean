/-! ===== the class: State learns, begins ===== -/
def Wln (s r q k : Nat) : Bool := Wsd s q k || Wfc r q k
theorem Wln_o {s r q : Nat} (h : q < s ∨ s + 5 < q) (h2 : q < r ∨ r + 2 < q) (k : Nat) : Wln s r q k = false := by
  unfold Wln
  rw [Wsd_o h, Wfc_o h2]
  rfl
theorem Sm.ln1 {M M' : mM} {s r : Nat} (h : Sm (Wfc r) M M') : Sm (Wln s r) M M' := h.wk (fun q k z => by simp only [Wln, Bool.or_eq_false_iff] at z; exact z.2)
theorem Sm.ln2 {M M' : mM} {s r : Nat} (h : Sm (Wsd s) M M') : Sm (Wln s r) M M' := h.wk (fun q k z => by simp only [Wln, Bool.or_eq_false_iff] at z; exact z.1)
theorem Wln_w {s r q k : Nat} (h : s ≤ q ∧ q ≤ s + 5) : Wln s r q k = true := by
  unfold Wln
  rw [Wsd_i h]
  rfl
theorem Plr.ln {M M' : mM} {p cd n s r : Nat} {K : Nat → Int32} (h : Plr M p cd n K) (ha : Apt p cd r (r + 2)) (hb : Apt p cd s (s + 5)) (e : Sm (Wln s r) M M') : Plr M' p cd n K := h.mv e.2.1 e.2.2.2.1 (by rw [e.2.2.1]) (fun q hq => e.row (fun k => Wln_o (hb q hq) (ha q hq) k))
theorem lkF_lkv {K : Nat → Int32} {c m : Nat} (hb : ∀ i, i < 84 → cur K i = nI (nb (cur K) i) ∧ nb (cur K) i ≤ 9) (hc : c < 14) (hm : m < 6) (l : Bool) : lkF K l (fun m => nb (cur K) (6 * c + m)) m = lkv K (kn K 4) l c m := by
  have e : nI (nb (cur K) (6 * c + m)) = K (9 + 6 * c + m) := by
    rw [← (hb (6 * c + m) (by omega)).1]
    unfold cur
    exact congrArg K (by omega)
  unfold lkF lkv
  simp only
  rw [e]
section C7g
variable (G : mG) (M : mM)
theorem c7_learn {s r p cd n c : Nat} {K : Nat → Int32} (hsh : StSh M s) (hk : RkSh M r) (hp : Plr M p cd n K) (hr : Apt p cd r (r + 2)) (hsp : Apt p cd s (s + 5)) (hsr : s + 5 < r ∨ r + 2 < s) (hP : WP K) (hb : ∀ i, i < 84 → cur K i = nI (nb (cur K) i) ∧ nb (cur K) i ≤ 9) (hc : c < 14) (hrow : gI M (s + 1) c = nI (pkR (cur K) c (kn K 1))) :
    Ct G Y7_learn 4 0 0 [.ref s, .ref p, .ref r, .int (nI c)] M (Rs none (fun M' => Sm (Wln s r) M M' ∧ (∀ q, q = s ∨ q = s + 1 ∨ q = s + 4 ∨ q = s + 5 → gI M' q = gI M q) ∧ gI M' (s + 2) = uK (gI M (s + 2)) c (nI (trN K false c)) ∧ gI M' (s + 3) = uK (gI M (s + 3)) c (nI (trN K true c)))) NX := by
  have h6 := hP.1.2.2
  have hnb : ∀ m, m < 6 → nb (cur K) (6 * c + m) ≤ 9 := fun m hm => (hb _ (by omega)).2
  have hx : pkR (cur K) c (kn K 1) < 2 ^ 24 := Nat.lt_of_lt_of_le (pkR_lt c hnb (kn K 1) h6) (show 16 ^ kn K 1 ≤ 16 ^ 6 from Nat.pow_le_pow_right (by decide) h6)
  have hv : ∀ m, m < kn K 1 → pkR (cur K) c (kn K 1) / 16 ^ m % 16 = (fun m => nb (cur K) (6 * c + m)) m ∧ (fun m => nb (cur K) (6 * c + m)) m ≤ 9 := fun m hm => ⟨pkR_at c hnb _ h6 hm, hnb m (by omega)⟩
  have ew : ∀ l, wset K (lkF K l (fun m => nb (cur K) (6 * c + m))) (nI c) = trN K l c := fun l => wset_cg hP (fun m hm => lkF_lkv hb hc (by omega) l) _
  obtain ⟨s1, s2, s3, s4, s5, s6, s7, s8, s9, s10, s11⟩ := hsh
  have k1 := hk.1
  refine Ct.of k7_learn.1 (Nat.le_of_ble_eq_true rfl) ?_
  refine v_aload_n dX7_learn_0 rfl ?_
  refine v_aload_n dX7_learn_1 rfl ?_
  refine v_aload_n dX7_learn_2 rfl ?_
  refine v_getR 7 0 _ dX7_learn_3 f7_9 (by assumption) (by decide) (by assumption) ?_
  refine v_iload_n dX7_learn_6 rfl ?_
  refine v_ialdN (c) dX7_learn_7 (by assumption) (by simp only [n_lit, pk_mul, nI_add]) ⟨by omega, by omega⟩ ?_
  rw [hrow]
  refine v_iconst 0 dX7_learn_8 (by decide) ?_
  refine v_iload_n dX7_learn_9 rfl ?_
  skip
  refine v_scVv [_, _, _, _] (c5_face G M hk hP hp hr hx hv false (nI c)) k5_face dX7_learn_10 l7_72 k1 (by decide) rfl (Nat.le_of_ble_eq_true rfl) (Nat.le_of_ble_eq_true rfl) (fun M2 hM2 => ?_)
  have m2 : Sm (Wln s r) M M2 := hM2.1.ln1
  have k2 := hk.mv hM2.1.2.1 hM2.1.2.2.2.1
  have a2 := c5_allTruths G M2 k2 hM2.2 hP (hp.fc hr hM2.1) hr
  rw [ew] at a2
  have t1 : gT M2 s = .inl 7 := by rw [hM2.1.2.1]; exact s1
  have t2 : gR M2 s 1 = some (s + 2) := by rw [hM2.1.2.2.2.1]; exact s8
  refine v_aload_n dX7_learn_13 rfl ?_
  refine v_getR 7 1 _ dX7_learn_14 f7_15 (by assumption) (by decide) (by assumption) ?_
  refine v_iload_n dX7_learn_17 rfl ?_
  refine v_aload_n dX7_learn_18 rfl ?_
  refine v_aload_n dX7_learn_19 rfl ?_
  skip
  refine v_scV [_] a2 k5_allTruths dX7_learn_20 l7_78 k2.1 (by decide) rfl (Nat.le_of_ble_eq_true rfl) (Nat.le_of_ble_eq_true rfl) (fun M3 hM3 => ?_)
  have m3 : Sm (Wfc r) M M3 := hM2.1.tr hM3.wf
  have u3 : gT M3 (s + 2) = .inr (0, 14) := by rw [m3.2.1]; exact s3
  have r3 : ∀ q, s ≤ q → q ≤ s + 5 → gI M3 q = gI M q := fun q h1 h2 => m3.row (Wfc_o (by omega))
  obtain ⟨M4, e4⟩ : ∃ M4, M4 = sI M3 (s + 2) c (nI (trN K false c)) := ⟨_, rfl⟩
  have m4 : Sm (Wln s r) M M4 := by rw [e4]; exact m3.ln1.st _ (Wln_w ⟨by omega, by omega⟩)
  have hp4 := hp.ln hr hsp m4
  have k4 := hk.mv m4.2.1 m4.2.2.2.1
  have v1 : gT M4 s = .inl 7 := by rw [m4.2.1]; exact s1
  have v2 : gR M4 s 0 = some (s + 1) := by rw [m4.2.2.2.1]; exact s7
  have v3 : gT M4 (s + 1) = .inr (0, 14) := by rw [m4.2.1]; exact s2
  have row4 : gI M4 (s + 1) c = nI (pkR (cur K) c (kn K 1)) := by rw [e4, gI_sq _ _ (by omega), r3 _ (by omega) (by omega), hrow]
  refine v_iastN c dX7_learn_23 u3 rfl ⟨by omega, by decide⟩ ?_
  rw [← e4]
  refine v_aload_n dX7_learn_24 rfl ?_
  refine v_aload_n dX7_learn_25 rfl ?_
  refine v_aload_n dX7_learn_26 rfl ?_
  refine v_getR 7 0 _ dX7_learn_27 f7_9 (by assumption) (by decide) (by assumption) ?_
  refine v_iload_n dX7_learn_30 rfl ?_
  refine v_ialdN (c) dX7_learn_31 (by assumption) (by simp only [n_lit, pk_mul, nI_add]) ⟨by omega, by omega⟩ ?_
  rw [row4]
  refine v_iconst 1 dX7_learn_32 (by decide) ?_
  refine v_iload_n dX7_learn_33 rfl ?_
  skip
  refine v_scVv [_, _, _, _] (c5_face G M4 k4 hP hp4 hr hx hv true (nI c)) k5_face dX7_learn_34 l7_72 k4.1 (by decide) rfl (Nat.le_of_ble_eq_true rfl) (Nat.le_of_ble_eq_true rfl) (fun M5 hM5 => ?_)
  have k5 := k4.mv hM5.1.2.1 hM5.1.2.2.2.1
  have a5 := c5_allTruths G M5 k5 hM5.2 hP (hp4.fc hr hM5.1) hr
  rw [ew] at a5
  have w1 : gT M5 s = .inl 7 := by rw [hM5.1.2.1]; exact v1
  have w2 : gR M5 s 2 = some (s + 3) := by rw [hM5.1.2.2.2.1, m4.2.2.2.1]; exact s9
  refine v_aload_n dX7_learn_37 rfl ?_
  refine v_getR 7 2 _ dX7_learn_38 f7_18 (by assumption) (by decide) (by assumption) ?_
  refine v_iload_n dX7_learn_41 rfl ?_
  refine v_aload_n dX7_learn_42 rfl ?_
  refine v_aload_n dX7_learn_43 rfl ?_
  skip
  refine v_scV [_] a5 k5_allTruths dX7_learn_44 l7_78 k5.1 (by decide) rfl (Nat.le_of_ble_eq_true rfl) (Nat.le_of_ble_eq_true rfl) (fun M6 hM6 => ?_)
  have m6 : Sm (Wfc r) M4 M6 := hM5.1.tr hM6.wf
  have u6 : gT M6 (s + 3) = .inr (0, 14) := by rw [m6.2.1, m4.2.1]; exact s4
  have r6 : ∀ q, s ≤ q → q ≤ s + 5 → gI M6 q = gI M4 q := fun q h1 h2 => m6.row (Wfc_o (by omega))
  refine v_iastN c dX7_learn_47 u6 rfl ⟨by omega, by decide⟩ ?_
  refine v_vret dX7_learn_48 rfl ⟨rfl, (m4.tr m6.ln1).st _ (Wln_w ⟨by omega, by omega⟩), fun q hq => ?_, ?_, ?_⟩
  · rw [gI_sr _ _ (by omega), r6 q (by omega) (by omega), e4, gI_sr _ _ (by omega), r3 q (by omega) (by omega)]
  · rw [gI_sr _ _ (by omega), r6 _ (by omega) (by omega), e4, gI_uK, r3 _ (by omega) (by omega)]
  · rw [gI_uK, r6 _ (by omega) (by omega), e4, gI_sr _ _ (by omega), r3 _ (by omega) (by omega)]
/-- a mark set and learnt: the state says so -/
theorem c7_learnStr {s r p cd n c m v : Nat} {K : Nat → Int32} {M0 : mM} (hs : Str M0 s K) (hW : WK K) (hk : RkSh M0 r) (hp : Plr M0 p cd n (uK K (9 + 6 * c + m) (nI v))) (hr : Apt p cd r (r + 2)) (hsp : Apt p cd s (s + 5)) (hsr : s + 5 < r ∨ r + 2 < s) (hc : c < kn K 2) (hm : m < kn K 1) (hv : v ≤ 9) (eM : M = sI M0 (s + 1) c (nI (pkR (cur (uK K (9 + 6 * c + m) (nI v))) c (kn K 1)))) :
    Ct G Y7_learn 4 0 0 [.ref s, .ref p, .ref r, .int (nI c)] M (Rs none (fun M' => Sm (Wln s r) M0 M' ∧ Str M' s (uK K (9 + 6 * c + m) (nI v)))) NX := by
  have h14 := hW.p.2.1.2
  have h6 := hW.p.1.2.2
  have hW2 : WK (uK K (9 + (6 * c + m)) (nI v)) := hW.mrk (by omega) hv
  rw [show 9 + (6 * c + m) = 9 + 6 * c + m by omega] at hW2
  have n2 : kn (uK K (9 + 6 * c + m) (nI v)) 2 = kn K 2 := kn_cg (uK_n _ _ (by omega))
  have n1 : kn (uK K (9 + 6 * c + m) (nI v)) 1 = kn K 1 := kn_cg (uK_n _ _ (by omega))
  have m0 : Sm (Wsd s) M0 M := by rw [eM]; exact Sm.rf.st _ (Wsd_w _ _ (by omega) (by omega))
  have hpl : ∀ i, plI i → uK K (9 + 6 * c + m) (nI v) i = K i := fun i hi => uK_n _ _ (by unfold plI at hi; omega)
  have hcon := c7_learn G M (hs.1.mv m0.2.1 m0.2.2.2.1) (hk.mv m0.2.1 m0.2.2.2.1) (hp.mv m0.2.1 m0.2.2.2.1 (by rw [m0.2.2.1]) (fun q hq => m0.row (Wsd_o (hsp q hq)))) hr hsp hsr hW2.p hW2.2.2.1.1 (c := c) (by omega) (by rw [eM, gI_ss, n1])
  refine hcon.post (fun v' M' h => ⟨h.1, m0.ln2.tr h.2.1, ?_, ?_⟩) (fun _ _ h => h)
  · exact (hs.1.mv m0.2.1 m0.2.2.2.1).mv h.2.1.2.1 h.2.1.2.2.2.1
  · obtain ⟨d1, d2, d3, d4, d5, d6⟩ := hs.2
    have rr : ∀ q, q = s ∨ q = s + 4 ∨ q = s + 5 → gI M' q = gI M0 q := fun q hq => by rw [h.2.2.1 q (by omega), eM, gI_sr _ _ (by omega)]
    refine ⟨fun c' hc' => ?_, fun q hq => ?_, ?_, ?_, ?_, ?_⟩
    · rw [n2] at hc'
      rw [h.2.2.1 (s + 1) (by omega), h.2.2.2.1, h.2.2.2.2, n1]
      by_cases e : c' = c
      · subst e
        rw [uK_s, uK_s, eM, gI_ss]
        exact ⟨rfl, rfl, rfl⟩
      · have em : ∀ m', m' < kn K 1 → uK K (9 + 6 * c + m) (nI v) (9 + 6 * c' + m') = K (9 + 6 * c' + m') := fun m' hm' => uK_n _ _ (by omega)
        rw [uK_n _ _ e, uK_n _ _ e, eM, gI_sk _ _ e, gI_sr _ _ (by omega), gI_sr _ _ (by omega), trN_K hW.p hpl false em, trN_K hW.p hpl true em, pkR_cg (b := cur K) (b' := cur (uK K (9 + 6 * c + m) (nI v))) (fun j hj => uK_n _ _ (by omega)) _ h6]
        exact d1 c' hc'
    · rw [rr _ (by omega), rr _ (by omega), uK_n _ _ (by omega), uK_n _ _ (by omega)]
      exact d2 q hq
    · rw [rr _ (by omega), uK_n _ _ (by omega)]; exact d3
    · rw [rr _ (by omega), uK_n _ _ (by omega)]; exact d4
    · rw [rr _ (by omega), uK_n _ _ (by omega)]; exact d5
    · rw [rr _ (by omega), uK_n _ _ (by omega)]; exact d6
end C7g
