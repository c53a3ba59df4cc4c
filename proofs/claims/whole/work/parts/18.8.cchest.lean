/-! ===== the class's parser: readChest ===== -/
theorem rbl_rst (Z : (Nat → Nat) × Nat) (k : Nat) (S : RSt) (j : Nat) (v : Int32) : rbl Z k (rst S j v) = rst (rbl Z k S) j v := by
  unfold rbl rst
  by_cases h : S.1 = 0
  · rw [if_pos h, if_pos h]
  · rw [if_neg h, if_neg h]
theorem rgo_rst (S : RSt) (j : Nat) (v : Int32) : rgo (rst S j v) = rst (rgo S) j v := by
  unfold rgo
  by_cases h : S.1 = 0
  · rw [if_pos h, if_pos (show (rst S j v).1 = 0 from h)]; rfl
  · rw [if_neg h, if_neg (show ¬ (rst S j v).1 = 0 from h)]
theorem rn1_rst (Z : (Nat → Nat) × Nat) (lo hi : Nat) (S : RSt) (j : Nat) (v : Int32) : rn1 Z lo hi (rst S j v) = rst (rn1 Z lo hi S) j v := by
  unfold rn1
  rw [rbl_rst, rbl_rst]
  show (if kd Z S.2.2.1 ≠ 29 then _ else if lo ≤ vl Z S.2.2.1 ∧ vl Z S.2.2.1 ≤ hi then _ else _) = _
  split
  · rfl
  · split <;> rfl
theorem rnu_rst (Z : (Nat → Nat) × Nat) (lo hi : Nat) (S : RSt) (j : Nat) (v : Int32) : rnu Z lo hi (rst S j v) = rst (rnu Z lo hi S) j v ∧ rnv Z lo hi (rst S j v) = rnv Z lo hi S := by
  unfold rnu rnv
  rw [rn1_rst, rgo_rst]
  exact ⟨rfl, rfl⟩
theorem rst_comm (S : RSt) {a b : Nat} (x y : Int32) (h : a ≠ b) : rst (rst S a x) b y = rst (rst S b y) a x := by
  have : uK (uK S.2.2.2 a x) b y = uK (uK S.2.2.2 b y) a x := by
    funext i
    unfold uK
    by_cases h1 : i = a
    · subst h1; rw [if_neg h, if_pos rfl, if_pos rfl]
    · by_cases h2 : i = b
      · subst h2; rw [if_pos rfl, if_neg h1, if_pos rfl]
      · rw [if_neg h2, if_neg h1, if_neg h1, if_neg h2]
  show (S.1, S.2.1, S.2.2.1, uK (uK S.2.2.2 a x) b y) = (S.1, S.2.1, S.2.2.1, uK (uK S.2.2.2 b y) a x)
  rw [this]
theorem chL_rst {Z : (Nat → Nat) × Nat} {c : Nat} (hc : c < 14) (v : Int32) : ∀ r m S, m + r ≤ 6 → chL Z c r m (rst S 93 v) = rst (chL Z c r m S) 93 v
  | 0, _, _, _ => rfl
  | r + 1, m, S, h => by
    rw [chL, chL, (rnu_rst Z 0 9 S 93 v).1, (rnu_rst Z 0 9 S 93 v).2, rst_comm _ _ _ (by omega), chL_rst hc v r (m + 1) _ (by omega)]
theorem chL_o {Z : (Nat → Nat) × Nat} {c : Nat} {i : Nat} : ∀ r m S, (i < 9 + 6 * c + m ∨ 9 + 6 * c + m + r ≤ i) → (chL Z c r m S).2.2.2 i = S.2.2.2 i
  | 0, _, _, _ => rfl
  | r + 1, m, S, h => by
    rw [chL, chL_o r (m + 1) _ (by omega)]
    exact (uK_n _ _ (by omega)).trans (congrFun (rnu_K Z 0 9 S) i)
section CC
variable (G : mG)
theorem chE_st {p N c : Nat} {Z : (Nat → Nat) × Nat} {M0 M : mM} {T : RSt} (hp : 248 ≤ p) (h : CS p N Z M0 false 0 0 T M) (hI : IV Z T) (hK : KI T.2.2.2) (hb : T.1 = 0) (hc : T.2.2.2 2 = nI c) (hc14 : c < 14) : CS p N Z M0 false 0 0 (rst T 2 (T.2.2.2 2 + 1)) (sI (sI M (p + 1) c (nI (pkR (cur T.2.2.2) c (kn T.2.2.2 1)))) p 2 (T.2.2.2 2 + 1)) := by
  have hm := hI.2.2.2.2.1
  have mo : ∀ q k, (q ≠ p + 1 ∨ k ≠ c) → (q ≠ p ∨ k ≠ 2) → gI (sI (sI M (p + 1) c (nI (pkR (cur T.2.2.2) c (kn T.2.2.2 1)))) p 2 (T.2.2.2 2 + 1)) q k = gI M q k := fun q k a b => by
    by_cases hq : q = p
    · subst hq; rw [gI_sk _ _ (b.resolve_left (fun z => z rfl)), gI_sq _ _ (by omega)]
    · rw [gI_sq _ _ hq]
      by_cases hq2 : q = p + 1
      · subst hq2; exact gI_sk _ _ (a.resolve_left (fun z => z rfl))
      · exact gI_sq _ _ hq2
  have mq : ∀ q, q ≠ p → q ≠ p + 1 → gI (sI (sI M (p + 1) c (nI (pkR (cur T.2.2.2) c (kn T.2.2.2 1)))) p 2 (T.2.2.2 2 + 1)) q = gI M q := fun q a b => funext (fun k => mo q k (Or.inl b) (Or.inl a))
  have eo : ∀ i, i ≠ 2 → uK T.2.2.2 2 (T.2.2.2 2 + 1) i = T.2.2.2 i := fun i hi => uK_n _ _ hi
  have e2 : uK T.2.2.2 2 (T.2.2.2 2 + 1) 2 = nI (c + 1) := by rw [uK_s, hc, nI_1]
  have ko : ∀ i, i ≠ 2 → kn (uK T.2.2.2 2 (T.2.2.2 2 + 1)) i = kn T.2.2.2 i := fun i hi => kn_cg (eo i hi)
  have k2 : kn (uK T.2.2.2 2 (T.2.2.2 2 + 1)) 2 = c + 1 := by rw [kn, e2, nI_clamp (by omega)]
  have kc : kn T.2.2.2 2 = c := by rw [kn, hc, nI_clamp (by omega)]
  refine CS.to hp h rfl rfl rfl ((Sq.rf.st _ (Wcs_p _ ⟨by omega, by omega⟩)).st _ (Wcs_p _ ⟨by omega, by omega⟩)) (fun q hq => mq q (by omega) (by omega)) rfl ?_ (by rw [mo p 4 (Or.inl (by omega)) (Or.inr (by decide))]; exact h.2.2.2.2.1) (fun _ g r => ⟨?_, ?_⟩)
  · rw [mo p 1 (Or.inl (by omega)) (Or.inr (by decide))]
    show _ = nI (kn (uK T.2.2.2 2 (T.2.2.2 2 + 1)) 1)
    rw [ko 1 (by decide)]; exact h.2.2.2.1
  · show CG _ p (uK T.2.2.2 2 (T.2.2.2 2 + 1))
    obtain ⟨⟨g0, g2, g3, g4, g5, g6, g7, g8⟩, gc, grow, gcost, gst, gcode, glamp⟩ := g
    have pf : ∀ k, k ≠ 2 → gI (sI (sI M (p + 1) c (nI (pkR (cur T.2.2.2) c (kn T.2.2.2 1)))) p 2 (T.2.2.2 2 + 1)) p k = gI M p k := fun k hk => mo p k (Or.inl (by omega)) (Or.inr hk)
    unfold CG
    rw [ko 1 (by decide), k2, ko 4 (by decide), ko 7 (by decide), eo 0 (by decide), e2, eo 93 (by decide), eo 3 (by decide), eo 119 (by decide), eo 4 (by decide), eo 5 (by decide), eo 6 (by decide), eo 7 (by decide), pf 0 (by decide), gI_ss, pf 3 (by decide), pf 4 (by decide), pf 5 (by decide), pf 6 (by decide), pf 7 (by decide), pf 8 (by decide), mq 102 (by omega) (by omega), mq (p + 2) (by omega) (by omega), mq (p + 3) (by omega) (by omega), mq (p + 6) (by omega) (by omega), mq (p + 7) (by omega) (by omega)]
    have hrow : ∀ d, d < 14 → pkR (cur (uK T.2.2.2 2 (T.2.2.2 2 + 1))) d (kn T.2.2.2 1) = pkR (cur T.2.2.2) d (kn T.2.2.2 1) := fun d hd => pkR_cg (b := cur T.2.2.2) (b' := cur (uK T.2.2.2 2 (T.2.2.2 2 + 1))) (fun m hm => eo (9 + (6 * d + m)) (by omega)) _ hm.2.2
    refine ⟨⟨g0, by rw [hc, nI_1], g3, g4, g5, g6, g7, g8⟩, gc, fun d hd => ?_, fun w hw => ?_, fun w hw => ?_, fun k hk => ?_, fun m v hm' hv => ?_⟩
    · rw [hrow d (by omega), gI_sq _ _ (by omega)]
      by_cases hd' : d = c
      · subst hd'; rw [gI_ss]
      · rw [gI_sk _ _ hd']; exact grow d (by omega)
    · rw [eo (109 + w) (by omega)]; exact gcost w hw
    · rw [eo (144 + w) (by omega)]; exact gst w hw
    · rw [ko (1155 + k) (by omega)]; exact gcode k hk
    · rw [lby_K (K := T.2.2.2) (fun i a d => eo i (by omega)) _ _ _ _ (by have := hK.1.2.2; omega), hsL_K (K := T.2.2.2) (fun i a d => eo i (by omega)) _ _ _ _ (by have := hK.1.2.2; omega)]
      exact glamp m v hm' hv
  · show RB _ p false 0 0 (uK T.2.2.2 2 (T.2.2.2 2 + 1))
    obtain ⟨⟨q2, q3, q4⟩, qw⟩ := hK
    unfold RB at r ⊢
    rw [ko 1 (by decide), ko 3 (by decide), ko 7 (by decide), ko (144 + kn T.2.2.2 3) (by omega), mo p 9 (Or.inl (by omega)) (Or.inr (by decide)), mq (p + 4) (by omega) (by omega), rdS_cg (K := T.2.2.2) _ (fun j hj => eo _ (by omega))]
    refine ⟨r.1, fun w hw => ?_, fun z => by cases z⟩
    rw [ko (144 + w) (by omega), ko (144 + w + 1) (by omega), lwS_cg (K := T.2.2.2) _ (fun j hj => eo _ (by omega))]
    exact r.2.1 w hw
end CC
