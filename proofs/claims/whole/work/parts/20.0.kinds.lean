/-! ===== what a hall's text leaves: its steps are of their kinds ===== -/
theorem chk_app (K : Nat → Int32) (nm : Nat) : ∀ a b k t, chk K nm (a + b) k t = (chk K nm a k t).bind (chk K nm b (k + a)) := by
  intro a
  induction a with
  | zero => intro b k t; rw [Nat.zero_add]; rfl
  | succ a ih =>
    intro b k t
    rw [show a + 1 + b = (a + b) + 1 by omega]
    simp only [chk]
    cases h : chs nm (kn K (1155 + k)) t with
    | none => rfl
    | some t' =>
      show chk K nm (a + b) (k + 1) t' = (chk K nm a (k + 1) t').bind (chk K nm b (k + (a + 1)))
      rw [ih, show k + 1 + a = k + (a + 1) by omega]
theorem chk_cg {K K' : Nat → Int32} {nm : Nat} : ∀ c k t, (∀ j, k ≤ j → j < k + c → K' (1155 + j) = K (1155 + j)) → chk K' nm c k t = chk K nm c k t := by
  intro c
  induction c with
  | zero => intro k t _; rfl
  | succ c ih =>
    intro k t e
    simp only [chk]
    rw [kn_cg (e k (Nat.le_refl _) (by omega))]
    congr 1
    funext t'
    exact ih (k + 1) t' (fun j a b => e j (by omega) (by omega))
theorem okPb_mk {nm s : Nat} (h : okP nm s) : okPb nm s = true := by
  unfold okP at h
  simp only [okPb, Bool.or_eq_true, Bool.and_eq_true, Nat.ble_eq, Nat.blt_eq, Nat.beq_eq]
  omega
theorem rly_z {x : Int32} {S : RSt} (h : (rly x S).1 = 0) : S.1 = 0 := (rly_1 x S).1.symm.trans h
theorem rgo_1 (R : RSt) : (rgo R).1 = R.1 := by unfold rgo; split <;> rfl
theorem rmu_z {Z : (Nat → Nat) × Nat} {k : Nat} {S : RSt} (h : (rmu Z k S).1 = 0) : S.1 = 0 := by
  unfold rmu at h
  rw [rgo_1] at h
  split at h
  · exact h
  · exact absurd h (rbl_p (by omega) S)
theorem cmpS_z {Z : (Nat → Nat) × Nat} {S : RSt} (h : (cmpS Z S).1 = 0) : S.1 = 0 := by
  unfold cmpS at h
  rw [rgo_1] at h
  split at h
  · exact h
  · exact absurd h (rbl_p (by omega) S)
theorem cmpS_K (Z : (Nat → Nat) × Nat) (S : RSt) : (cmpS Z S).2.2.2 = S.2.2.2 := by
  unfold cmpS
  rw [rgo_K]
  split
  · rfl
  · exact rbl_K _ _ _
theorem IV.k7 {Z : (Nat → Nat) × Nat} {R : RSt} (h : IV Z R) : kn R.2.2.2 7 ≤ 900 := by
  have h1 := h.2.2.2.1
  have h2 := h.2.1
  have h3 := h.2.2.2.2.2
  omega
/-- a step that can be told, nm marks -/
def stp (nm s : Nat) : Prop := s < 2000 ∧ (s < 200 → s < 100 + nm)
/-- the steps between R and S take kinds t to t'; they are told as they are, all behind them stays -/
def ck (R S : RSt) (t t' : List Bool) : Prop :=
  kn R.2.2.2 7 ≤ kn S.2.2.2 7 ∧ (∀ j, j ≠ 7 → (j < 1155 + kn R.2.2.2 7 ∨ 1155 + kn S.2.2.2 7 ≤ j) → S.2.2.2 j = R.2.2.2 j) ∧
  (∀ k, kn R.2.2.2 7 ≤ k → k < kn S.2.2.2 7 → S.2.2.2 (1155 + k) = nI (kn S.2.2.2 (1155 + k)) ∧ stp (kn R.2.2.2 1) (kn S.2.2.2 (1155 + k))) ∧
  chk S.2.2.2 (kn R.2.2.2 1) (kn S.2.2.2 7 - kn R.2.2.2 7) (kn R.2.2.2 7) t = some t'
theorem ck.tr {R S T : RSt} {t t' t'' : List Bool} (h : ck R S t t') (g : ck S T t' t'') : ck R T t t'' := by
  obtain ⟨h1, h2, h4, h3⟩ := h
  obtain ⟨g1, g2, g4, g3⟩ := g
  have k1 : kn S.2.2.2 1 = kn R.2.2.2 1 := kn_cg (h2 1 (by decide) (Or.inl (by omega)))
  refine ⟨by omega, fun j a b => (g2 j a (by omega)).trans (h2 j a (by omega)), fun k a b => ?_, ?_⟩
  · by_cases hk : k < kn S.2.2.2 7
    · have e := g2 (1155 + k) (by omega) (Or.inl (by omega))
      rw [kn_cg e, e]
      exact h4 k a hk
    · rw [← k1]
      exact g4 k (by omega) b
  · rw [show kn T.2.2.2 7 - kn R.2.2.2 7 = (kn S.2.2.2 7 - kn R.2.2.2 7) + (kn T.2.2.2 7 - kn S.2.2.2 7) by omega, chk_app, chk_cg (K := S.2.2.2) _ _ _ (fun j a b => g2 _ (by omega) (Or.inl (by omega))), h3]
    show chk T.2.2.2 (kn R.2.2.2 1) _ (kn R.2.2.2 7 + (kn S.2.2.2 7 - kn R.2.2.2 7)) t' = some t''
    rw [show kn R.2.2.2 7 + (kn S.2.2.2 7 - kn R.2.2.2 7) = kn S.2.2.2 7 by omega, ← k1]
    exact g3
theorem ck.rf {R S : RSt} (t : List Bool) (h : S.2.2.2 = R.2.2.2) : ck R S t t := by
  unfold ck
  rw [h, Nat.sub_self]
  exact ⟨Nat.le_refl _, fun _ _ _ => rfl, fun k a b => absurd b (by omega), rfl⟩
theorem ck.ly {R S : RSt} {t t' t'' : List Bool} {s : Nat} (h : ck R S t t') (h0 : S.1 = 0) (h9 : kn S.2.2.2 7 ≤ 900) (hs : s < 2000) (hc : chs (kn R.2.2.2 1) s t' = some t'') : ck R (rly (nI s) S) t t'' := by
  refine h.tr ?_
  have k1 : kn S.2.2.2 1 = kn R.2.2.2 1 := kn_cg (h.2.1 1 (by decide) (Or.inl (by omega)))
  have eR : rly (nI s) S = (S.1, S.2.1, S.2.2.1, uK (uK S.2.2.2 (1155 + kn S.2.2.2 7) (nI s)) 7 (nI (kn S.2.2.2 7 + 1))) := if_pos h0
  rw [eR]
  have e7 : kn (uK (uK S.2.2.2 (1155 + kn S.2.2.2 7) (nI s)) 7 (nI (kn S.2.2.2 7 + 1))) 7 = kn S.2.2.2 7 + 1 := kn_uK (by omega)
  have ev : uK (uK S.2.2.2 (1155 + kn S.2.2.2 7) (nI s)) 7 (nI (kn S.2.2.2 7 + 1)) (1155 + kn S.2.2.2 7) = nI s := by rw [uK_n _ _ (by omega), uK_s]
  have eo : ∀ j, j ≠ 7 → j ≠ 1155 + kn S.2.2.2 7 → uK (uK S.2.2.2 (1155 + kn S.2.2.2 7) (nI s)) 7 (nI (kn S.2.2.2 7 + 1)) j = S.2.2.2 j := fun j a b => by rw [uK_n _ _ a, uK_n _ _ b]
  show kn S.2.2.2 7 ≤ kn (uK (uK S.2.2.2 (1155 + kn S.2.2.2 7) (nI s)) 7 (nI (kn S.2.2.2 7 + 1))) 7 ∧ (∀ j, j ≠ 7 → (j < 1155 + kn S.2.2.2 7 ∨ 1155 + kn (uK (uK S.2.2.2 (1155 + kn S.2.2.2 7) (nI s)) 7 (nI (kn S.2.2.2 7 + 1))) 7 ≤ j) → uK (uK S.2.2.2 (1155 + kn S.2.2.2 7) (nI s)) 7 (nI (kn S.2.2.2 7 + 1)) j = S.2.2.2 j) ∧ (∀ k, kn S.2.2.2 7 ≤ k → k < kn (uK (uK S.2.2.2 (1155 + kn S.2.2.2 7) (nI s)) 7 (nI (kn S.2.2.2 7 + 1))) 7 → uK (uK S.2.2.2 (1155 + kn S.2.2.2 7) (nI s)) 7 (nI (kn S.2.2.2 7 + 1)) (1155 + k) = nI (kn (uK (uK S.2.2.2 (1155 + kn S.2.2.2 7) (nI s)) 7 (nI (kn S.2.2.2 7 + 1))) (1155 + k)) ∧ stp (kn S.2.2.2 1) (kn (uK (uK S.2.2.2 (1155 + kn S.2.2.2 7) (nI s)) 7 (nI (kn S.2.2.2 7 + 1))) (1155 + k))) ∧ chk (uK (uK S.2.2.2 (1155 + kn S.2.2.2 7) (nI s)) 7 (nI (kn S.2.2.2 7 + 1))) (kn S.2.2.2 1) (kn (uK (uK S.2.2.2 (1155 + kn S.2.2.2 7) (nI s)) 7 (nI (kn S.2.2.2 7 + 1))) 7 - kn S.2.2.2 7) (kn S.2.2.2 7) t' = some t''
  generalize uK (uK S.2.2.2 (1155 + kn S.2.2.2 7) (nI s)) 7 (nI (kn S.2.2.2 7 + 1)) = K' at e7 ev eo
  have en : kn K' (1155 + kn S.2.2.2 7) = s := by rw [kn, ev, nI_clamp (by omega)]
  rw [e7]
  refine ⟨by omega, fun j a b => eo j a (by omega), fun k a b => ?_, ?_⟩
  · have : k = kn S.2.2.2 7 := by omega
    subst this
    rw [en, ev, k1]
    refine ⟨rfl, hs, fun q => ?_⟩
    rcases chs_len hc with ⟨a, _⟩ | ⟨a, _⟩ | ⟨_, a, _⟩
    · unfold okP at a; omega
    · omega
    · omega
  · rw [show kn S.2.2.2 7 + 1 - kn S.2.2.2 7 = 0 + 1 by omega, k1]
    show (chs (kn R.2.2.2 1) (kn K' (1155 + kn S.2.2.2 7)) t').bind (fun u => some u) = some t''
    rw [en, hc]
    rfl
/-- a part of the grammar that leaves one more of kind b, at most n deeper than it stands -/
def sk (Z : (Nat → Nat) × Nat) (b : Bool) (n : Nat) (f : RSt → RSt) : Prop := gok Z f ∧ ∀ R, IV Z R → (f R).1 = 0 → ∀ t : List Bool, t.length + n ≤ 40 → ck R (f R) t (b :: t)
theorem sk.z {Z : (Nat → Nat) × Nat} {b : Bool} {n : Nat} {f : RSt → RSt} (h : sk Z b n f) {R : RSt} (hR : IV Z R) (h0 : (f R).1 = 0) : R.1 = 0 := Decidable.byContradiction (fun z => by
  rw [(h.1 R hR).2 z] at h0
  exact z h0)
theorem ck_op {Z : (Nat → Nat) × Nat} {b : Bool} {n : Nat} {g : RSt → RSt} (hg : sk Z b n g) {R : RSt} (hR : IV Z R) (hk : kd Z R.2.2.1 ≠ 32) {s : Nat} (hs : ∀ nm r, chs nm s (b :: b :: r) = some (b :: r)) (h2 : s < 2000) (h0 : (rly (nI s) (g (rnx R))).1 = 0) {t : List Bool} (ht : t.length + (n + 1) ≤ 40) : ck R (rly (nI s) (g (rnx R))) (b :: t) (b :: t) := by
  have gn := gs.nx hR hk
  have h0' := rly_z h0
  have c := hg.2 (rnx R) gn.1 h0' (b :: t) (by rw [List.length_cons]; omega)
  exact ((ck.rf (R := R) (S := rnx R) (b :: t) rfl).tr c).ly h0' (IV.k7 (hg.1 _ gn.1).1.1) h2 (hs _ _)
theorem ck_itr {Z : (Nat → Nat) × Nat} {c : RSt → Bool} {f : RSt → RSt} {b : Bool} {n : Nat} (hc : ∀ R, IV Z R → c R = true → R.1 = 0 ∧ gs Z 0 R (f R)) (hf : ∀ R, IV Z R → c R = true → (f R).1 = 0 → ∀ t : List Bool, t.length + n ≤ 40 → ck R (f R) (b :: t) (b :: t)) : ∀ k R, IV Z R → (itr c f k R).1 = 0 → ∀ t : List Bool, t.length + n ≤ 40 → ck R (itr c f k R) (b :: t) (b :: t) := by
  intro k
  induction k with
  | zero => intro R h h0 t ht; exact ck.rf _ rfl
  | succ k ih =>
    intro R h h0 t ht
    rw [itr] at h0 ⊢
    by_cases q : c R = true
    · rw [if_pos q] at h0 ⊢
      have g := (hc R h q).2
      have z : (f R).1 = 0 := Decidable.byContradiction (fun z => by
        rw [(itr_gs hc k _ g.1).2 z] at h0
        exact z h0)
      exact (hf R h q z t ht).tr (ih _ g.1 h0 t ht)
    · rw [if_neg q]
      exact ck.rf _ rfl
theorem itr_z {Z : (Nat → Nat) × Nat} {c : RSt → Bool} {f : RSt → RSt} (hc : ∀ R, IV Z R → c R = true → R.1 = 0 ∧ gs Z 0 R (f R)) {k : Nat} {S : RSt} (hS : IV Z S) (h0 : (itr c f k S).1 = 0) : S.1 = 0 := Decidable.byContradiction (fun z => by
  rw [(itr_gs hc k _ hS).2 z] at h0
  exact z h0)
theorem trm_sk {Z : (Nat → Nat) × Nat} {a : RSt → RSt} {n : Nat} (ha : sk Z false n a) : sk Z false (n + 1) (trm Z a) := by
  refine ⟨trm_ok ha.1, fun R h h0 t ht => ?_⟩
  unfold trm at h0 ⊢
  have hc : ∀ R, IV Z R → decide (rIs Z 21 R) = true → R.1 = 0 ∧ gs Z 0 R (rly (nI 12) (a (rnx R))) := fun R h hc => ⟨(rIs_t hc).1, (op_ok ha.1 h (by have := (rIs_t hc).2; omega) _).1⟩
  have h1 := (ha.1 R h).1.1
  have z : (a R).1 = 0 := itr_z hc h1 h0
  exact (ha.2 R h z t (by omega)).tr (ck_itr hc (fun R h hc h0 t ht => ck_op ha h (by have := (rIs_t hc).2; omega) (fun _ _ => rfl) (by decide) h0 ht) 901 _ h1 h0 t ht)
theorem sms_sk {Z : (Nat → Nat) × Nat} {a : RSt → RSt} {n : Nat} (ha : sk Z false n a) : sk Z false (n + 2) (sms Z a) := by
  have hT := trm_sk ha
  refine ⟨sms_ok ha.1, fun R h h0 t ht => ?_⟩
  unfold sms at h0 ⊢
  have nk : ∀ R, pmB Z R = true → R.1 = 0 ∧ kd Z R.2.2.1 ≠ 32 := fun R q => by rcases pmB_t.mp q with q | q <;> exact ⟨q.1, by have := q.2; omega⟩
  have hc : ∀ R, IV Z R → pmB Z R = true → R.1 = 0 ∧ gs Z 0 R (rly (if kd Z R.2.2.1 = 19 then nI 10 else nI 11) (trm Z a (rnx R))) := fun R h q => ⟨(nk R q).1, (op_ok hT.1 h (nk R q).2 _).1⟩
  have h1 := (hT.1 R h).1.1
  have z : (trm Z a R).1 = 0 := itr_z hc h1 h0
  exact (hT.2 R h z t (by omega)).tr (ck_itr hc (fun R h q h0 t ht => by
    by_cases e : kd Z R.2.2.1 = 19
    · rw [if_pos e] at h0 ⊢
      exact ck_op hT h (nk R q).2 (fun _ _ => rfl) (by decide) h0 (by omega)
    · rw [if_neg e] at h0 ⊢
      exact ck_op hT h (nk R q).2 (fun _ _ => rfl) (by decide) h0 (by omega)) 901 _ h1 h0 t ht)
theorem ats_sk {Z : (Nat → Nat) × Nat} {inn : RSt → RSt} {n : Nat} (hi : ∀ R, IV Z R → R.1 = 0 → kd Z R.2.2.1 = 22 → gs Z 0 R (inn R)) (hn : 1 ≤ n) (h2 : ∀ R, IV Z R → R.1 = 0 → kd Z R.2.2.1 = 22 → (inn R).1 = 0 → ∀ t : List Bool, t.length + n ≤ 40 → ck R (inn R) t (false :: t)) : sk Z false n (ats Z inn) := by
  refine ⟨ats_ok hi, fun R h h0 t ht => ?_⟩
  have h6 := h.2.2.2.2.1.2
  have num : ∀ (S : RSt) (s : Nat), IV Z S → (rly (nI s) S).1 = 0 → S.2.2.2 = R.2.2.2 → okP (kn R.2.2.2 1) s → ck R (rly (nI s) S) t (false :: t) := fun S s g z e q => by
    refine (ck.rf (R := R) (S := S) t e).ly (rly_z z) (IV.k7 g) (by unfold okP at q; omega) ?_
    unfold chs
    rw [if_pos (okPb_mk q), if_pos (by omega)]
  unfold ats at h0 ⊢
  by_cases hz : R.1 = 0
  · rw [if_neg (Decidable.not_not.mpr hz)] at h0 ⊢
    by_cases k12 : kd Z R.2.2.1 = 12
    · rw [if_pos k12] at h0 ⊢
      have g := gs.nx h (show kd Z R.2.2.1 ≠ 32 by omega)
      have r := rnv_rng (Z := Z) (lo := 0) (hi := kn R.2.2.2 1 - 1) (R := rnx R) (Nat.zero_le _)
      exact num _ _ (gs.nu g.1).1.1 h0 (rnu_K _ _ _ _) (by unfold okP; omega)
    · rw [if_neg k12] at h0 ⊢
      by_cases k13 : kd Z R.2.2.1 = 13
      · rw [if_pos k13] at h0 ⊢
        have g := gs.nx h (show kd Z R.2.2.1 ≠ 32 by omega)
        have r := rnv_rng (Z := Z) (lo := 0) (hi := 9) (R := rnx R) (Nat.zero_le _)
        exact num _ _ (gs.nu g.1).1.1 h0 (rnu_K _ _ _ _) (by unfold okP; omega)
      · rw [if_neg k13] at h0 ⊢
        by_cases k14 : kd Z R.2.2.1 = 14
        · rw [if_pos k14] at h0 ⊢
          exact num _ 300 (gs.nx h (show kd Z R.2.2.1 ≠ 32 by omega)).1 h0 rfl (by unfold okP; omega)
        · rw [if_neg k14] at h0 ⊢
          by_cases k15 : kd Z R.2.2.1 = 15
          · rw [if_pos k15] at h0 ⊢
            exact num _ 301 (gs.nx h (show kd Z R.2.2.1 ≠ 32 by omega)).1 h0 rfl (by unfold okP; omega)
          · rw [if_neg k15] at h0 ⊢
            by_cases k16 : kd Z R.2.2.1 = 16
            · rw [if_pos k16] at h0 ⊢
              exact num _ 302 (gs.nx h (show kd Z R.2.2.1 ≠ 32 by omega)).1 h0 rfl (by unfold okP; omega)
            · rw [if_neg k16] at h0 ⊢
              by_cases k22 : kd Z R.2.2.1 = 22
              · rw [if_pos k22] at h0 ⊢
                exact h2 R h hz k22 h0 t ht
              · rw [if_neg k22] at h0 ⊢
                have r := rnv_rng (Z := Z) (lo := 0) (hi := 999) (R := R) (Nat.zero_le _)
                exact num _ _ (gs.nu h).1.1 h0 (rnu_K _ _ _ _) (by unfold okP; omega)
  · rw [if_pos hz] at h0
    exact absurd h0 hz
theorem atm_sk (Z : (Nat → Nat) × Nat) : ∀ L, sk Z false (2 * L + 1) (atm Z L)
  | 0 => ats_sk (fun R h _ _ => gs.bl h (by omega)) (by omega) (fun R _ _ _ h0 _ _ => absurd h0 (rbl_p (by omega) R))
  | L + 1 => ats_sk (fun R h _ q => by
      have g := gs.nx h (show kd Z R.2.2.1 ≠ 32 by omega)
      have g2 := (sms_ok (atm_ok Z L) _ g.1).1
      exact (g.tr g2 (Nat.le_refl _)).tr (gs.mu g2.1 (by omega)) (by omega)) (by omega) (fun R h hz hk h0 t ht => by
      have g := gs.nx h (show kd Z R.2.2.1 ≠ 32 by omega)
      have s := sms_sk (atm_sk Z L)
      have c := s.2 (rnx R) g.1 (rmu_z h0) t (by omega)
      exact ((ck.rf (R := R) (S := rnx R) t rfl).tr c).tr (ck.rf _ (rmu_K _ _ _)))
theorem uns_sk {Z : (Nat → Nat) × Nat} {s nt br : RSt → RSt} {n m : Nat} (hs : sk Z false m s) (hm : m + 1 ≤ n) (gn : ∀ R, IV Z R → kd Z R.2.2.1 = 11 → gs Z 0 R (nt R)) (gb : ∀ R, IV Z R → kd Z R.2.2.1 = 24 → gs Z 0 R (br R))
    (hn : ∀ R, IV Z R → kd Z R.2.2.1 = 11 → (nt R).1 = 0 → ∀ t : List Bool, t.length + n ≤ 40 → ck R (nt R) t (true :: t)) (hb : ∀ R, IV Z R → kd Z R.2.2.1 = 24 → (br R).1 = 0 → ∀ t : List Bool, t.length + n ≤ 40 → ck R (br R) t (true :: t)) : sk Z true n (uns Z s nt br) := by
  refine ⟨uns_ok hs.1 gn gb, fun R h h0 t ht => ?_⟩
  unfold uns at h0 ⊢
  by_cases hz : R.1 = 0
  · rw [if_neg (Decidable.not_not.mpr hz)] at h0 ⊢
    by_cases k11 : kd Z R.2.2.1 = 11
    · rw [if_pos k11] at h0 ⊢
      exact hn R h k11 h0 t ht
    · rw [if_neg k11] at h0 ⊢
      by_cases k24 : kd Z R.2.2.1 = 24
      · rw [if_pos k24] at h0 ⊢
        exact hb R h k24 h0 t ht
      · rw [if_neg k24] at h0 ⊢
        have z3 : (s (cmpS Z (s R))).1 = 0 := rly_z h0
        have i1 := (hs.1 R h).1.1
        have ic := (cmpS_ok i1).1.1
        have z2 : (cmpS Z (s R)).1 = 0 := hs.z ic z3
        have c1 := hs.2 R h (cmpS_z z2) t (by omega)
        have c2 := hs.2 _ ic z3 (false :: t) (by rw [List.length_cons]; omega)
        have c := (c1.tr (ck.rf (R := s R) (S := cmpS Z (s R)) _ (cmpS_K _ _))).tr c2
        have i3 := IV.k7 (hs.1 _ ic).1.1
        by_cases q : kd Z (s R).2.2.1 = 26
        · rw [show cmpV Z (s R) = nI 13 from if_pos q]
          exact c.ly z3 i3 (by decide) rfl
        · by_cases q2 : kd Z (s R).2.2.1 = 27
          · rw [show cmpV Z (s R) = nI 14 from (if_neg q).trans (if_pos q2)]
            exact c.ly z3 i3 (by decide) rfl
          · rw [show cmpV Z (s R) = nI 15 from (if_neg q).trans (if_neg q2)]
            exact c.ly z3 i3 (by decide) rfl
  · rw [if_pos hz] at h0
    exact absurd h0 hz
theorem bth_sk {Z : (Nat → Nat) × Nat} {a : RSt → RSt} {n : Nat} (ha : sk Z true n a) : sk Z true (n + 1) (bth Z a) := by
  refine ⟨bth_ok ha.1, fun R h h0 t ht => ?_⟩
  unfold bth at h0 ⊢
  have hc : ∀ R, IV Z R → decide (rIs Z 10 R) = true → R.1 = 0 ∧ gs Z 0 R (rly (nI 16) (a (rnx R))) := fun R h hc => ⟨(rIs_t hc).1, (op_ok ha.1 h (by have := (rIs_t hc).2; omega) _).1⟩
  have h1 := (ha.1 R h).1.1
  have z : (a R).1 = 0 := itr_z hc h1 h0
  exact (ha.2 R h z t (by omega)).tr (ck_itr hc (fun R h hc h0 t ht => ck_op ha h (by have := (rIs_t hc).2; omega) (fun _ _ => rfl) (by decide) h0 ht) 901 _ h1 h0 t ht)
theorem tru_sk {Z : (Nat → Nat) × Nat} {a : RSt → RSt} {n : Nat} (ha : sk Z true n a) : sk Z true (n + 2) (tru Z a) := by
  have hT := bth_sk ha
  refine ⟨tru_ok ha.1, fun R h h0 t ht => ?_⟩
  unfold tru at h0 ⊢
  have hc : ∀ R, IV Z R → decide (rIs Z 9 R) = true → R.1 = 0 ∧ gs Z 0 R (rly (nI 17) (bth Z a (rnx R))) := fun R h hc => ⟨(rIs_t hc).1, (op_ok hT.1 h (by have := (rIs_t hc).2; omega) _).1⟩
  have h1 := (hT.1 R h).1.1
  have z : (bth Z a R).1 = 0 := itr_z hc h1 h0
  exact (hT.2 R h z t (by omega)).tr (ck_itr hc (fun R h hc h0 t ht => ck_op hT h (by have := (rIs_t hc).2; omega) (fun _ _ => rfl) (by decide) h0 (by omega)) 901 _ h1 h0 t ht)
theorem unt_sk (Z : (Nat → Nat) × Nat) : ∀ L, sk Z true (2 * L + 4) (unt Z L)
  | 0 => uns_sk (sms_sk (atm_sk Z 0)) (by omega) (fun R h _ => gs.bl h (by omega)) (fun R h _ => gs.bl h (by omega)) (fun R _ _ h0 _ _ => absurd h0 (rbl_p (by omega) R)) (fun R _ _ h0 _ _ => absurd h0 (rbl_p (by omega) R))
  | L + 1 => by
    have hu := unt_sk Z L
    have ht := tru_sk hu
    refine uns_sk (sms_sk (atm_sk Z (L + 1))) (by omega) (fun R h q => ?_) (fun R h q => ?_) (fun R h q h0 t hl => ?_) (fun R h q h0 t hl => ?_)
    · exact (op_ok hu.1 h (by omega) _).1
    · have g := gs.nx h (show kd Z R.2.2.1 ≠ 32 by omega)
      have g2 := (ht.1 _ g.1).1
      exact (g.tr g2 (Nat.le_refl _)).tr (gs.mu g2.1 (by omega)) (by omega)
    · have g := gs.nx h (show kd Z R.2.2.1 ≠ 32 by omega)
      have c := hu.2 (rnx R) g.1 (rly_z h0) t (by omega)
      exact ((ck.rf (R := R) (S := rnx R) t rfl).tr c).ly (rly_z h0) (IV.k7 (hu.1 _ g.1).1.1) (by decide) rfl
    · have g := gs.nx h (show kd Z R.2.2.1 ≠ 32 by omega)
      have c := ht.2 (rnx R) g.1 (rmu_z h0) t (by omega)
      exact ((ck.rf (R := R) (S := rnx R) t rfl).tr c).tr (ck.rf _ (rmu_K _ _ _))
