/-! ===== class and reference side by side: what holds between two lines of the script ===== -/
theorem lz_take (ls : List (Option Value)) : ∀ (n i : Nat), ∀ q ∈ lz i (ls.take n), q ∈ lz i ls := by
  induction ls with
  | nil => intro n i q h; simpa using h
  | cons a t ih =>
    intro n i q h
    cases n with
    | zero => simp [lz] at h
    | succ n =>
      cases a with
      | none => exact ih n (i + 1) q (by simpa [lz] using h)
      | some v =>
        simp only [List.take_succ_cons, lz, List.mem_cons] at h ⊢
        rcases h with h | h
        · exact Or.inl h
        · exact Or.inr (ih n (i + 1) q h)
/-- locals forgotten -/
theorem v_take {G : mG} {y : mY} {D kc ks : Nat} {Q : Option Value → mM → Prop} {X : String → mM → Prop} {pc : Nat} {ls : List (Option Value)} {st : List Value} {M : mM} (n : Nat) (k : V G y D kc ks Q X pc (ls.take n) st M) : V G y D kc ks Q X pc ls st M := by
  intro p l e s m args below meth c H locs cells slots mc ms lr E hl hR hf hc hs
  refine k p l e s m args below meth c H locs cells slots mc ms lr E ⟨hl.1, hl.2.1, fun q hq => hl.2.2 q ?_⟩ hR hf hc hs
  obtain ⟨z, hz, rfl⟩ := List.mem_map.mp hq
  exact List.mem_map.mpr ⟨z, lz_take ls n 0 z hz, rfl⟩
/-- what the class's cells say -/
def CM (M : mM) (K A B T1 T2 : Nat → Int32) (J : Nat → Int64) : Prop := MR M K ∧ CapP M ∧ IMs M A B ∧ MT M T1 T2 J
/-- the reference's cells, and what was fed and told -/
def Rq (q : Nat) : Prop := q = 100 ∨ q = 101 ∨ (230 ≤ q ∧ q ≤ 246)
def RS (M M' : mM) : Prop := ∀ q, Rq q → Sme M M' q
def TpV (M : mM) : Prop := gI M 100 2 = gI M 230 14 ∧ gI M 100 3 = gI M 230 15 ∧ ∃ (tp : Nat) (b : Nat → Nat), gI M 100 1 = nI tp ∧ gI M 230 6 = nI tp ∧ tp ≤ 900 ∧ ∀ j, j < tp → gI M 101 j = sb (b j) ∧ gI M 235 j = nI (b j) ∧ b j < 256
def LI (M : mM) : Prop := CM M (gI M 231) (gI M 233) (gI M 234) (gI M 244) (gI M 245) (gJ M 246) ∧ TW M ∧ TpV M
theorem Sme.rf {M : mM} {q : Nat} : Sme M M q := ⟨rfl, rfl, fun _ => rfl, fun _ => rfl⟩
theorem Sme.tr {M M' M2 : mM} {q : Nat} (h : Sme M M' q) (h2 : Sme M' M2 q) : Sme M M2 q := ⟨h2.1.trans h.1, h2.2.1.trans h.2.1, fun k => (h2.2.2.1 k).trans (h.2.2.1 k), fun k => (h2.2.2.2 k).trans (h.2.2.2 k)⟩
theorem RS.tr {M M' M2 : mM} (h : RS M M') (h2 : RS M' M2) : RS M M2 := fun q hq => (h q hq).tr (h2 q hq)
theorem RS.rf {M : mM} : RS M M := fun _ _ => Sme.rf
theorem RS.ky {M M' : mM} (h : Ky M M') (h8 : 248 ≤ gz M) : RS M M' := fun q hq => by
  unfold Rq at hq
  obtain ⟨h1, h2, h3, h4⟩ := h.2.1 q (by omega) (by unfold Fx; omega) (by omega)
  exact ⟨h1, h2, fun k => by rw [h3], fun k => by rw [h4]⟩
theorem RS.ki {M M' : mM} (h : ∀ q, Ki q → Sme M M' q) : RS M M' := fun q hq => h q (by unfold Rq at hq; unfold Ki; omega)
theorem RS.kp {M M' : mM} (h : Kp M M') (h8 : 248 ≤ gz M) : RS M M' := RS.ky (Ky.kp h) h8
theorem MT.same {M M' : mM} {A B : Nat → Int32} {J : Nat → Int64} (h : MT M A B J) (e : ∀ q, 222 ≤ q ∧ q ≤ 229 → gI M' q = gI M q ∧ ∀ k, gJ M' q k = gJ M q k) : MT M' A B J := by
  intro t ht
  obtain ⟨a1, a2⟩ := e (222 + 2 * t) (by omega)
  obtain ⟨b1, b2⟩ := e (223 + 2 * t) (by omega)
  have := h t ht
  unfold TyR at this ⊢
  simp only [a1, b2]
  exact this
theorem CM.kp {M M' : mM} {K K' A B T1 T2 : Nat → Int32} {J : Nat → Int64} (h : CM M K A B T1 T2 J) (k : Kp M M') (m : MR M' K') : CM M' K' A B T1 T2 J :=
  ⟨m, h.2.1.km k.km h.1, h.2.2.1.km k.km h.1, h.2.2.2.kp k h.1.2.2.1⟩
theorem CM.ky {M M' : mM} {K K' A B T1 T2 T1' T2' : Nat → Int32} {J J' : Nat → Int64} (h : CM M K A B T1 T2 J) (k : Ky M M') (m : MR M' K') (t : MT M' T1' T2' J') : CM M' K' A B T1' T2' J' :=
  ⟨m, h.2.1.km k.km h.1, h.2.2.1.km k.km h.1, t⟩
theorem CM.gap {M : mM} {K A B T1 T2 : Nat → Int32} {J : Nat → Int64} (h : CM M K A B T1 T2 J) {z : Nat} (hz : gz M ≤ z) : CM (gapM M z) K A B T1 T2 J := h.kp (Kp.gap hz) (h.1.gap hz).2
theorem RS.gap {M : mM} {z : Nat} (h8 : 248 ≤ gz M) (hz : gz M ≤ z) : RS M (gapM M z) := RS.kp (Kp.gap hz) h8
/-- cells of the reference changed, nothing else -/
theorem CM.ref {M M' : mM} {K A B T1 T2 : Nat → Int32} {J : Nat → Int64} (h : CM M K A B T1 T2 J) (hz : gz M' = gz M) (hT : gT M' = gT M) (hR : gR M' = gR M) (hI : ∀ q, ¬ (230 ≤ q ∧ q ≤ 247) → q ≠ 100 → q ≠ 101 → gI M' q = gI M q) (hJ : ∀ q, ¬ (230 ≤ q ∧ q ≤ 247) → gJ M' q = gJ M q) : CM M' K A B T1 T2 J := by
  have km : KM M M' := ⟨by rw [hz]; exact Nat.le_refl _, fun q _ b => ⟨by rw [hT], hI q (by omega) (by omega) (by omega), fun k => by rw [hJ q (by omega)], fun k => by rw [hR]⟩, by rw [hR]⟩
  exact ⟨h.1.gen hz hT hR (fun q a => hI q (by omega) (by omega) (by omega)) (fun q a => hJ q (by omega)), h.2.1.km km h.1, h.2.2.1.km km h.1, h.2.2.2.same (fun q a => ⟨hI q (by omega) (by omega) (by omega), fun k => by rw [hJ q (by omega)]⟩)⟩
theorem CM.out {M : mM} {K A B T1 T2 : Nat → Int32} {J : Nat → Int64} (h : CM M K A B T1 T2 J) (v : Int64) : CM (sJ M 247 0 v) K A B T1 T2 J :=
  h.ref rfl rfl rfl (fun _ _ _ _ => rfl) (fun q a => funext fun k => up2_q _ _ (by omega))
theorem RS.out {M : mM} (v : Int64) : RS M (sJ M 247 0 v) := fun q hq => ⟨rfl, rfl, fun k => up2_q _ _ (by unfold Rq at hq; omega), fun _ => rfl⟩
/-- behind the class's call: told t, answered v -/
def QC (M : mM) (t0 : Int32) (v : Int64) (K A B T1 T2 : Nat → Int32) (J : Nat → Int64) : Int32 → mM → Prop := fun t M1 => t = t0 ∧ (t0 = 0 → gJ M1 247 0 = v) ∧ RS M M1 ∧ CM M1 K A B T1 T2 J
theorem QC.fin {M M1 : mM} {t0 : Int32} {K A B T1 T2 : Nat → Int32} {J : Nat → Int64} (h0 : t0 = 0) (v : Int64) (h : RS M M1) (c : CM M1 K A B T1 T2 J) : QC M t0 v K A B T1 T2 J 0 (sJ M1 247 0 v) :=
  ⟨h0.symm, fun _ => gJ_ss _ _ _ _, h.tr (RS.out v), c.out v⟩
theorem QC.qt {M : mM} (hL : LI M) {t0 : Int32} {v : Int32} {K' K2 : Nat → Int32} (e : t0 = 0 → K' = K2) : ∀ a M1, Qt t0 (some (.int v)) M K' a M1 → ∃ r : Int32, a = some (.int r) ∧ gT M1 247 = .inr (1, 1) ∧ QC M t0 v.toInt64 K2 (gI M 233) (gI M 234) (gI M 244) (gI M 245) (gJ M 246) 0 (sJ M1 247 0 r.toInt64) := by
  rintro a M1 ⟨h0, rfl, k, m⟩
  refine ⟨v, rfl, m.1.1 247 _ rfl, QC.fin h0 _ (RS.kp k hL.1.1.2.2.1) ?_⟩
  rw [← e h0]
  exact hL.1.kp k m
/-- the class threw -/
theorem QC.xt {M : mM} (hL : LI M) {t0 : Int32} {v : Int64} {K2 A B T1 T2 : Nat → Int32} {J : Nat → Int64} {l : List (Int32 × String)} (hn : ∀ E, (t0, E) ∈ l → t0 ≠ 0) (e : t0 ≠ 0 → K2 = gI M 231 ∧ A = gI M 233 ∧ B = gI M 234 ∧ T1 = gI M 244 ∧ T2 = gI M 245 ∧ J = gJ M 246) : ∀ E M1, Xt l t0 M E M1 → ∃ t, (t, E) ∈ l ∧ QC M t0 v K2 A B T1 T2 J t M1 := by
  rintro E M1 ⟨h, z, hz, rfl⟩
  have h0 := hn E h
  obtain ⟨rfl, rfl, rfl, rfl, rfl, rfl⟩ := e h0
  exact ⟨t0, h, rfl, fun q => absurd q h0, RS.gap hL.1.1.2.2.1 hz, hL.1.gap hz⟩
/-- the reference's step -/
theorem LI.ref {M M1 M2 : mM} {t0 : Int32} {v : Int64} {t : Int32} {K A B T1 T2 : Nat → Int32} {J : Nat → Int64} (hL : LI M) (q : QC M t0 v K A B T1 T2 J t M1) (hz : gz M2 = gz M1) (hT : gT M2 = gT M1) (hR : gR M2 = gR M1) (hI : ∀ q, ¬ (230 ≤ q ∧ q ≤ 246) → gI M2 q = gI M1 q) (hJ : ∀ q, q ≠ 246 → gJ M2 q = gJ M1 q)
    (e1 : gI M2 231 = K) (e2 : gI M2 233 = A) (e3 : gI M2 234 = B) (e4 : gI M2 244 = T1) (e5 : gI M2 245 = T2) (e6 : gJ M2 246 = J) (hW : TW M2) (e7 : gI M2 230 14 = gI M1 230 14) (e8 : gI M2 230 15 = gI M1 230 15) (e9 : gI M2 230 6 = gI M1 230 6) (e10 : gI M2 235 = gI M1 235) : LI M2 ∧ (t = 0 → gJ M2 247 0 = v) := by
  obtain ⟨rfl, q2, q3, q4⟩ := q
  have s100 := (q3 100 (Or.inl rfl)).2.1
  have s101 := (q3 101 (Or.inr (Or.inl rfl))).2.1
  have s230 := (q3 230 (Or.inr (Or.inr ⟨by omega, by omega⟩))).2.1
  have s235 := (q3 235 (Or.inr (Or.inr ⟨by omega, by omega⟩))).2.1
  obtain ⟨hC, -, t1, t2, tp, b, t3, t4, t5, t6⟩ := hL
  refine ⟨⟨?_, hW, ?_⟩, fun h0 => by rw [hJ 247 (by omega)]; exact q2 h0⟩
  · rw [e1, e2, e3, e4, e5, e6]
    exact q4.ref hz hT hR (fun q a _ _ => hI q (by omega)) (fun q a => hJ q (by omega))
  · have i100 := hI 100 (by omega)
    have i101 := hI 101 (by omega)
    refine ⟨by rw [i100, e7, s100, s230]; exact t1, by rw [i100, e8, s100, s230]; exact t2, tp, b, by rw [i100, s100]; exact t3, by rw [e9, s230]; exact t4, t5, fun j hj => ?_⟩
    rw [i101, s101, e10, s235]
    exact t6 j hj
