/-! ===== the reference: which words hold ===== -/
theorem plF_cong {nm : Nat} {f g : Nat → Int32} (h : ∀ m, m < nm → f m = g m) (step : Int32) : ∀ j, j ≤ nm → plF f step j = plF g step j := by
  have ha : ∀ m, m < nm → ∀ j, j ≤ m → alk f m j = alk g m j := by
    intro m hm j
    induction j with
    | zero => intro _; rfl
    | succ j ih => intro hj; simp only [alk]; rw [ih (by omega), h j (by omega), h m hm]
  intro j
  induction j with
  | zero => intro _; rfl
  | succ j ih =>
    intro hj
    simp only [plF, pst]
    rw [ih (by omega), h j (by omega), ha j (by omega) j (Nat.le_refl _)]
theorem plN_cong {nm : Nat} {f g : Nat → Int32} (h : ∀ m, m < nm → f m = g m) (num : Int32) {s : Nat} (hs : okP nm s) : plN nm f num s = plN nm g num s := by
  unfold plN
  rw [plF_cong h _ nm (Nat.le_refl _)]
  split
  · rfl
  · split
    · rw [h (s - 100) (by unfold okP at hs; omega)]
    · rfl
theorem stpS_cong {nm : Nat} {f g : Nat → Int32} (h : ∀ m, m < nm → f m = g m) (num : Int32) {s : Nat} {t t' : List Bool} (hs : chs nm s t = some t') (st : List Int32) : stpS nm f num s st = stpS nm g num s st := by
  unfold stpS
  rcases chs_len hs with ⟨p1, p2, p3⟩ | ⟨p1, p2, p3, p4⟩ | ⟨p1, p2, p3, p4, p5⟩
  · rw [plN_cong h num p1]
  · have h1 : ¬ 100 ≤ s := by omega
    rw [if_neg h1, if_neg h1]
  · have h1 : ¬ 100 ≤ s := by omega
    rw [if_neg h1, if_neg h1]
theorem evs_cong {K : Nat → Int32} {nm : Nat} {f g : Nat → Int32} (h : ∀ m, m < nm → f m = g m) (num : Int32) : ∀ c k t (st : List Int32), chk K nm c k t = some [true] → evs K nm f num c k st = evs K nm g num c k st := by
  intro c
  induction c with
  | zero => intro k t st _; rfl
  | succ c ih =>
    intro k t st hc
    simp only [chk] at hc
    obtain ⟨t', ht', hc'⟩ := Option.bind_eq_some_iff.mp hc
    simp only [evs]
    rw [stpS_cong h num ht' st]
    exact ih _ _ _ hc'
/-- a hall's plan, as 'known' must hold it -/
def WP (K : Nat → Int32) : Prop :=
  (K 1 = nI (kn K 1) ∧ 1 ≤ kn K 1 ∧ kn K 1 ≤ 6) ∧ (K 2 = nI (kn K 2) ∧ kn K 2 ≤ 14) ∧ (K 3 = nI (kn K 3) ∧ kn K 3 ≤ 10) ∧ (K 4 = nI (kn K 4) ∧ kn K 4 ≤ 8) ∧ (K 5 = nI (kn K 5) ∧ kn K 5 ≤ 9) ∧ (K 6 = nI (kn K 6) ∧ 1 ≤ kn K 6 ∧ kn K 6 ≤ 6) ∧
  (∀ k, k < 965 → K (1155 + k) = nI (kn K (1155 + k)) ∧ kn K (1155 + k) < 2000) ∧
  (∀ w, w < kn K 3 → K (144 + w) = nI (kn K (144 + w)) ∧ K (144 + w + 1) = nI (kn K (144 + w + 1)) ∧ kn K (144 + w) ≤ kn K (144 + w + 1) ∧ kn K (144 + w + 1) ≤ 965 ∧ chk K (kn K 1) (kn K (144 + w + 1) - kn K (144 + w)) (kn K (144 + w)) [] = some [true]) ∧
  (∀ w, w < 10 → K (109 + w) = nI (kn K (109 + w)) ∧ kn K (109 + w) ≤ 9) ∧ (K 119 = nI (kn K 119) ∧ kn K 119 < 2 ^ kn K 3)
/-- whether word w holds where marks look as f says, of number num -/
def wt (K : Nat → Int32) (f : Nat → Int32) (num : Int32) (w : Nat) : Bool := decide (hd (evs K (kn K 1) f num (kn K (144 + w + 1) - kn K (144 + w)) (kn K (144 + w)) []) = 1)
theorem wt_cong {K : Nat → Int32} (hP : WP K) {f g : Nat → Int32} (h : ∀ m, m < kn K 1 → f m = g m) (num : Int32) {w : Nat} (hw : w < kn K 3) : wt K f num w = wt K g num w := by
  unfold wt
  rw [evs_cong h num _ _ _ _ (hP.2.2.2.2.2.2.2.1 w hw).2.2.2.2]
/-- the words that hold, as bits -/
def wset (K : Nat → Int32) (f : Nat → Int32) (num : Int32) : Nat := bset (kn K 3) (wt K f num)
/-- of chest c, by lamp or by day -/
def trN (K : Nat → Int32) (lamp : Bool) (c : Nat) : Nat := wset K (lkv K (kn K 4) lamp c) (nI c)
theorem wset_lt {K : Nat → Int32} (hP : WP K) (f : Nat → Int32) (num : Int32) : wset K f num < 1024 := Nat.lt_of_lt_of_le (bset_lt _ _) (show 2 ^ kn K 3 ≤ 2 ^ 10 from Nat.pow_le_pow_right (by omega) hP.2.2.1.2)
theorem trN_lt {K : Nat → Int32} (hP : WP K) (lamp : Bool) (c : Nat) : trN K lamp c < 1024 := wset_lt hP _ _
def Wev (q k : Nat) : Bool := Nat.beq q 236 || Nat.beq q 237 || (Nat.beq q 230 && Nat.beq k 19)
def Wlh (q k : Nat) : Bool := Nat.beq q 236 || Nat.beq q 237 || Nat.beq q 238 || Nat.beq q 239 || Nat.beq q 240 || (Nat.beq q 230 && Nat.beq k 19)
theorem Sm.K {W : Nat → Nat → Bool} {M M' : mM} (h : Sm W M M') (w : ∀ k, W 231 k = false) : gI M' 231 = gI M 231 := by funext k; exact h.2.2.2.2 231 k (w k)
section R5
variable (G : mG) (M : mM)
theorem c12_holdsNow (hS : Sh M) (hP : WP (gI M 231)) {w : Nat} (hw : w < kn (gI M 231) 3) : Ct G Y12_holdsNow 3 0 0 [.ref 230, .int (nI w)] M (Rs (some (.int (bI (wt (gI M 231) (gI M 236) (gI M 230 19) w = true)))) (Sm W237 M)) NX := by
  have h10 := hP.2.2.1.2
  obtain ⟨a1, a2, a3, a4, a5⟩ := hP.2.2.2.2.2.2.2.1 w hw
  refine Ct.of k12_holdsNow.1 (Nat.le_of_ble_eq_true rfl) ?_
  refine v_iconst 0 dX12_holdsNow_0 (by decide) ?_
  refine v_istore_n dX12_holdsNow_1 rfl (by decide) ?_
  refine v_aload_n dX12_holdsNow_2 rfl ?_
  refine v_getR 12 0 _ dX12_holdsNow_3 f12_9 (by first | exact hS.1 _ _ rfl | exact hS'.1 _ _ rfl | assumption) (by decide) (by first | exact hS.2 _ _ _ rfl | exact hS'.2 _ _ _ rfl | assumption) ?_
  refine v_sipush 144 dX12_holdsNow_6 (by decide) ?_
  refine v_iload_n dX12_holdsNow_9 rfl ?_
  refine v_iadd dX12_holdsNow_10 ?_
  refine v_ialdN (144 + w) dX12_holdsNow_11 (by first | exact hS.1 _ _ rfl | exact hS'.1 _ _ rfl | assumption) (by simp only [n_lit, pk_mul, nI_add]) ⟨by omega, by omega⟩ ?_
  refine v_istore_n dX12_holdsNow_12 rfl (by decide) ?_
  -- at 13: .iload_n 3
  rw [a1]
  refine v_pad ?_
  have := l12_holdsNow G M hS hP.1.1 hP.1.2.2 (w := w) (by omega) a2 a4 hP.2.2.2.2.2.2.1 (kn (gI M 231) (144 + w + 1) - kn (gI M 231) (144 + w)) (kn (gI M 231) (144 + w)) [] [] none M (by omega) a5 rfl (by decide) trivial Sm.rf
  simp only [wt, decide_eq_true_eq]
  exact this
theorem l12_seenWords (hS : Sh M) (hP : WP (gI M 231)) : ∀ i w M', w + i = kn (gI M 231) 3 → Sm W237 M M' → V G Y12_seenWords 4 0 0 (Rs (some (.int (nI (wset (gI M 231) (gI M 236) (gI M 230 19))))) (Sm W237 M)) NX 4 [some (.ref 230), some (.int (nI (bset w (wt (gI M 231) (gI M 236) (gI M 230 19))))), some (.int (nI w))] [] M' := by
  have h10 := hP.2.2.1.2
  intro i
  induction i with
  | zero =>
    intro w M' hw hM
    have hS' := hS.sm hM
    obtain rfl : w = kn (gI M 231) 3 := by omega
    refine v_iload_n dX12_seenWords_4 rfl ?_
    refine v_aload_n dX12_seenWords_5 rfl ?_
    -- at 6: .invokevirtual 242
    refine v_cV [] (c12_words G M' hS') k12_words dX12_seenWords_6 l12_242 (by first | exact hS.1 _ _ rfl | exact hS'.1 _ _ rfl | assumption) (by decide) rfl (Nat.le_of_ble_eq_true rfl) (Nat.le_of_ble_eq_true rfl) ?_
    rw [hM.K (fun _ => rfl), hP.2.2.1.1]
    refine v_icmp_ge 36 dX12_seenWords_9 (by decide) (fun hc => ?_) (fun hc => ?_)
    · refine v_iload_n dX12_seenWords_36 rfl ?_
      -- at 37: .ireturn
      refine v_iret dX12_seenWords_37 rfl ⟨rfl, hM⟩
    · exact absurd (nI_le (Nat.le_refl _) (by omega)) hc
  | succ i ih =>
    intro w M' hw hM
    have hS' := hS.sm hM
    have eK : gI M' 231 = gI M 231 := hM.K (fun _ => rfl)
    refine v_iload_n dX12_seenWords_4 rfl ?_
    refine v_aload_n dX12_seenWords_5 rfl ?_
    -- at 6: .invokevirtual 242
    refine v_cV [] (c12_words G M' hS') k12_words dX12_seenWords_6 l12_242 (by first | exact hS.1 _ _ rfl | exact hS'.1 _ _ rfl | assumption) (by decide) rfl (Nat.le_of_ble_eq_true rfl) (Nat.le_of_ble_eq_true rfl) ?_
    rw [eK, hP.2.2.1.1]
    refine v_icmp_ge 36 dX12_seenWords_9 (by decide) (fun hc => ?_) (fun hc => ?_)
    · exact absurd ((nI_leI (by omega) (by omega)).mp hc) (by omega)
    refine v_iload_n dX12_seenWords_12 rfl ?_
    refine v_aload_n dX12_seenWords_13 rfl ?_
    refine v_iload_n dX12_seenWords_14 rfl ?_
    -- at 15: .invokevirtual 283
    have hcon := c12_holdsNow G M' hS' (by rw [eK]; exact hP) (w := w) (by rw [eK]; omega)
    rw [eK, show gI M' 236 = gI M 236 by (funext j; exact hM.2.2.2.2 _ _ rfl), show gI M' 230 19 = gI M 230 19 from hM.2.2.2.2 _ _ rfl] at hcon
    refine v_scV [_] hcon k12_holdsNow dX12_seenWords_15 l12_283 (hS'.1 _ _ rfl) (by decide) rfl (Nat.le_of_ble_eq_true rfl) (Nat.le_of_ble_eq_true rfl) (fun M2 hM2 => ?_)
    have hb := bset_step (wt (gI M 231) (gI M 236) (gI M 230 19)) (n := w) (by omega)
    have hn := ih (w + 1) M2 (by omega) (hM.tr hM2)
    rw [← hb, ← nI_1] at hn
    by_cases hwt : wt (gI M 231) (gI M 236) (gI M 230 19) w = true
    · rw [bI_t hwt]
      rw [if_pos hwt, ← shl1 (by omega)] at hn
      refine v_if_eq 27 dX12_seenWords_18 (by decide) (fun h18 => ?_) (fun h18 => ?_)
      · exact absurd h18 (by decide)
      · refine v_iconst 1 dX12_seenWords_21 (by decide) ?_
        refine v_iload_n dX12_seenWords_22 rfl ?_
        refine v_ishl dX12_seenWords_23 ?_
        refine v_goto 28 dX12_seenWords_24 (by decide) ?_
        refine v_ior dX12_seenWords_28 ?_
        refine v_istore_n dX12_seenWords_29 rfl (by decide) ?_
        refine v_iinc 1 dX12_seenWords_30 rfl (by decide) rfl (by decide) ?_
        refine v_goto 4 dX12_seenWords_33 (by decide) ?_
        -- at 4: .iload_n 2
        exact hn
    · rw [bI_f hwt]
      rw [if_neg hwt] at hn
      refine v_if_eq 27 dX12_seenWords_18 (by decide) (fun h18 => ?_) (fun h18 => ?_)
      · refine v_iconst 0 dX12_seenWords_27 (by decide) ?_
        refine v_ior dX12_seenWords_28 ?_
        refine v_istore_n dX12_seenWords_29 rfl (by decide) ?_
        refine v_iinc 1 dX12_seenWords_30 rfl (by decide) rfl (by decide) ?_
        refine v_goto 4 dX12_seenWords_33 (by decide) ?_
        -- at 4: .iload_n 2
        exact hn
      · exact absurd rfl h18
theorem c12_seenWords (hS : Sh M) (hP : WP (gI M 231)) : Ct G Y12_seenWords 4 0 0 [.ref 230] M (Rs (some (.int (nI (wset (gI M 231) (gI M 236) (gI M 230 19))))) (Sm W237 M)) NX := by
  refine Ct.of k12_seenWords.1 (Nat.le_of_ble_eq_true rfl) ?_
  refine v_iconst 0 dX12_seenWords_0 (by decide) ?_
  refine v_istore_n dX12_seenWords_1 rfl (by decide) ?_
  refine v_iconst 0 dX12_seenWords_2 (by decide) ?_
  refine v_istore_n dX12_seenWords_3 rfl (by decide) ?_
  -- at 4: .iload_n 2
  exact l12_seenWords G M hS hP (kn (gI M 231) 3) 0 M (by omega) Sm.rf
theorem l12_wordsOf (hS : Sh M) (hP : WP (gI M 231)) {c : Nat} (hc14 : c < 14) (lamp : Bool) : ∀ i m M', m + i = kn (gI M 231) 1 → Sm Wev M M' → (∀ j, j < m → gI M' 236 j = lkv (gI M 231) (kn (gI M 231) 4) lamp c j) → V G Y12_wordsOf 5 0 0 (Rs (some (.int (nI (trN (gI M 231) lamp c)))) (Sm Wev M)) NX 2 [some (.ref 230), some (.int (nI c)), some (.int (bI (lamp = true))), some (.int (nI m))] [] M' := by
  have h6 := hP.1.2.2
  intro i
  induction i with
  | zero =>
    intro m M' hm hM hsee
    have hS' := hS.sm hM
    have eK : gI M' 231 = gI M 231 := hM.K (fun _ => rfl)
    obtain rfl : m = kn (gI M 231) 1 := by omega
    refine v_iload_n dX12_wordsOf_2 rfl ?_
    refine v_aload_n dX12_wordsOf_3 rfl ?_
    refine v_getR 12 0 _ dX12_wordsOf_4 f12_9 (by first | exact hS.1 _ _ rfl | exact hS'.1 _ _ rfl | assumption) (by decide) (by first | exact hS.2 _ _ _ rfl | exact hS'.2 _ _ _ rfl | assumption) ?_
    refine v_iconst 1 dX12_wordsOf_7 (by decide) ?_
    refine v_ialdN 1 dX12_wordsOf_8 (by first | exact hS.1 _ _ rfl | exact hS'.1 _ _ rfl | assumption) rfl (by decide) ?_
    -- at 9: .if_icmp .ge 22
    rw [eK, hP.1.1]
    refine v_icmp_ge 31 dX12_wordsOf_9 (by decide) (fun hc => ?_) (fun hc => ?_)
    · refine v_aload_n dX12_wordsOf_31 rfl ?_
      refine v_iload_n dX12_wordsOf_32 rfl ?_
      refine v_putI 12 19 dX12_wordsOf_33 f12_273 (by first | exact hS.1 _ _ rfl | exact hS'.1 _ _ rfl | assumption) (by decide) ?_
      refine v_aload_n dX12_wordsOf_36 rfl ?_
      -- at 37: .invokevirtual 290
      have hM2 : Sm Wev M (sI M' 230 19 (nI c)) := hM.st _ rfl
      have hcon := c12_seenWords G (sI M' 230 19 (nI c)) (hS.sm hM2) (by rw [hM2.K (fun _ => rfl)]; exact hP)
      rw [hM2.K (fun _ => rfl), gI_ss, gI_sr M' (a := 236) (nI c) (by decide)] at hcon
      rw [show wset (gI M 231) (gI M' 236) (nI c) = trN (gI M 231) lamp c from bset_ext (fun w hw => wt_cong hP (fun j hj => hsee j hj) _ hw)] at hcon
      refine v_scV [] hcon k12_seenWords dX12_wordsOf_37 l12_290 (hS'.1 _ _ rfl) (by decide) rfl (Nat.le_of_ble_eq_true rfl) (Nat.le_of_ble_eq_true rfl) (fun M3 hM3 => ?_)
      refine v_iret dX12_wordsOf_40 rfl ⟨rfl, hM2.tr (hM3.wk (fun q k z => by simp only [Wev, W237, Bool.or_eq_false_iff] at z ⊢; exact z.1.2))⟩
    · exact absurd (nI_le (Nat.le_refl _) (by omega)) hc
  | succ i ih =>
    intro m M' hm hM hsee
    have hS' := hS.sm hM
    have eK : gI M' 231 = gI M 231 := hM.K (fun _ => rfl)
    refine v_iload_n dX12_wordsOf_2 rfl ?_
    refine v_aload_n dX12_wordsOf_3 rfl ?_
    refine v_getR 12 0 _ dX12_wordsOf_4 f12_9 (by first | exact hS.1 _ _ rfl | exact hS'.1 _ _ rfl | assumption) (by decide) (by first | exact hS.2 _ _ _ rfl | exact hS'.2 _ _ _ rfl | assumption) ?_
    refine v_iconst 1 dX12_wordsOf_7 (by decide) ?_
    refine v_ialdN 1 dX12_wordsOf_8 (by first | exact hS.1 _ _ rfl | exact hS'.1 _ _ rfl | assumption) rfl (by decide) ?_
    -- at 9: .if_icmp .ge 22
    rw [eK, hP.1.1]
    refine v_icmp_ge 31 dX12_wordsOf_9 (by decide) (fun hc => ?_) (fun hc => ?_)
    · exact absurd ((nI_leI (by omega) (by omega)).mp hc) (by omega)
    refine v_aload_n dX12_wordsOf_12 rfl ?_
    refine v_getR 12 17 _ dX12_wordsOf_13 f12_30 (by first | exact hS.1 _ _ rfl | exact hS'.1 _ _ rfl | assumption) (by decide) (by first | exact hS.2 _ _ _ rfl | exact hS'.2 _ _ _ rfl | assumption) ?_
    refine v_iload_n dX12_wordsOf_16 rfl ?_
    refine v_aload_n dX12_wordsOf_17 rfl ?_
    refine v_iload_n dX12_wordsOf_18 rfl ?_
    refine v_iload_n dX12_wordsOf_19 rfl ?_
    refine v_iload_n dX12_wordsOf_20 rfl ?_
    -- at 21: .invokevirtual 286
    have hcon := c12_look G M' hS' (nl := kn (gI M 231) 4) (by rw [eK]; exact hP.2.2.2.1.1) hP.2.2.2.1.2 (c := c) (m := m) hc14 (by omega) lamp
    rw [eK] at hcon
    refine v_cV [_, _, _] hcon k12_look dX12_wordsOf_21 l12_286 (hS'.1 _ _ rfl) (by decide) rfl (Nat.le_of_ble_eq_true rfl) (Nat.le_of_ble_eq_true rfl) ?_
    refine v_iastN m dX12_wordsOf_24 (hS'.1 _ _ rfl) rfl ⟨by omega, by omega⟩ ?_
    refine v_iinc 1 dX12_wordsOf_25 rfl (by decide) rfl (by decide) ?_
    refine v_goto 2 dX12_wordsOf_28 (by decide) ?_
    -- at 2: .iload_n 3
    rw [nI_1]
    refine ih (m + 1) _ (by omega) (hM.st _ rfl) (fun j hj => ?_)
    by_cases e : j = m
    · subst e; exact gI_ss _ _ _ _
    · rw [gI_sk _ _ e]; exact hsee j (by omega)
theorem c12_wordsOf (hS : Sh M) (hP : WP (gI M 231)) {c : Nat} (hc14 : c < 14) (lamp : Bool) : Ct G Y12_wordsOf 5 0 0 [.ref 230, .int (nI c), .int (bI (lamp = true))] M (Rs (some (.int (nI (trN (gI M 231) lamp c)))) (Sm Wev M)) NX := by
  refine Ct.of k12_wordsOf.1 (Nat.le_of_ble_eq_true rfl) ?_
  refine v_iconst 0 dX12_wordsOf_0 (by decide) ?_
  refine v_istore_n dX12_wordsOf_1 rfl (by decide) ?_
  -- at 2: .iload_n 3
  exact l12_wordsOf G M hS hP hc14 lamp (kn (gI M 231) 1) 0 M (by omega) Sm.rf (fun j hj => absurd hj (by omega))
end R5
