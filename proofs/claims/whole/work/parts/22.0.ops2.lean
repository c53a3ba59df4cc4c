/-! ===== pairs with a boolean, trays, images ===== -/
def TWs (A B : Nat → Int32) : Prop := ∀ t, t < 4 → (A t = -1 ∨ ∃ s, s < 4 ∧ A t = nI s) ∧ B t = nI (kn B t) ∧ kn B t ≤ 30
theorem LI.pt {M M1 M2 : mM} {t0 t : Int32} {v : Int64} {T1 T2 : Nat → Int32} {J : Nat → Int64} (hL : LI M) (q : QC M t0 v (gI M 231) (gI M 233) (gI M 234) T1 T2 J t M1) (p : Pt M1 t0 T1 T2 J M2) (hW : TWs T1 T2) : LI M2 ∧ gI M2 230 4 = t ∧ (t = 0 → gJ M2 247 0 = v) := by
  obtain ⟨⟨pz, pT, pR, pI, pJ⟩, p1, p2, p3, p4⟩ := p
  have q3 := q.2.2.1
  have row : ∀ r, (∀ k, Wt r k = false) → gI M2 r = gI M1 r := fun r w => funext fun k => pI r k (w k)
  have rowJ : ∀ r, r ≠ 246 → gJ M2 r = gJ M1 r := fun r w => funext fun k => pJ r k (nbeq_f w)
  obtain ⟨a, b⟩ := hL.ref q pz pT pR (fun r h => row r (Wt_o h)) rowJ ((row 231 (fun k => rfl)).trans (q3.row ⟨by omega, by omega⟩)) ((row 233 (fun k => rfl)).trans (q3.row ⟨by omega, by omega⟩)) ((row 234 (fun k => rfl)).trans (q3.row ⟨by omega, by omega⟩)) p2 p3 p4 (by unfold TW; rw [p2, p3]; exact hW) (pI 230 14 rfl) (pI 230 15 rfl) (pI 230 6 rfl) (row 235 (fun k => rfl))
  exact ⟨a, p1.trans q.1.symm, b⟩
theorem LI.pi {M M1 M2 : mM} {t0 t : Int32} {v : Int64} {K A B : Nat → Int32} (hL : LI M) (q : QC M t0 v K A B (gI M 244) (gI M 245) (gJ M 246) t M1) (p : Pi M1 t0 K A B M2) : LI M2 ∧ gI M2 230 4 = t ∧ (t = 0 → gJ M2 247 0 = v) := by
  obtain ⟨⟨pz, pT, pJ, pR, pI⟩, p1, p2, p3, p4⟩ := p
  have q3 := q.2.2.1
  have row : ∀ r, (∀ k, Wi r k = false) → gI M2 r = gI M1 r := fun r w => funext fun k => pI r k (w k)
  have e4 : gI M2 244 = gI M 244 := (row 244 (fun k => rfl)).trans (q3.row ⟨by omega, by omega⟩)
  have e5 : gI M2 245 = gI M 245 := (row 245 (fun k => rfl)).trans (q3.row ⟨by omega, by omega⟩)
  obtain ⟨a, b⟩ := hL.ref q pz pT pR (fun r h => row r (Wi_o h)) (fun r _ => by rw [pJ]) p2 p3 p4 e4 e5 ((show gJ M2 246 = gJ M1 246 by rw [pJ]).trans (q3.rowJ ⟨by omega, by omega⟩)) (hL.2.1.same e4 e5) (pI 230 14 rfl) (pI 230 15 rfl) (pI 230 6 rfl) (row 235 (fun k => rfl))
  exact ⟨a, p1.trans q.1.symm, b⟩
/-- the same with no answer -/
def QN (M : mM) (t0 : Int32) (K A B T1 T2 : Nat → Int32) (J : Nat → Int64) : Int32 → mM → Prop := fun t M1 => t = t0 ∧ RS M M1 ∧ CM M1 K A B T1 T2 J
theorem QN.qc {M M1 : mM} {t0 t : Int32} {K A B T1 T2 : Nat → Int32} {J : Nat → Int64} (h : QN M t0 K A B T1 T2 J t M1) : QC M t0 (gJ M1 247 0) K A B T1 T2 J t M1 := ⟨h.1, fun _ => rfl, h.2⟩
theorem QN.xt {M : mM} (hL : LI M) {t0 : Int32} {K2 A B T1 T2 : Nat → Int32} {J : Nat → Int64} {l : List (Int32 × String)} (hn : ∀ E, (t0, E) ∈ l → t0 ≠ 0) (e : t0 ≠ 0 → K2 = gI M 231 ∧ A = gI M 233 ∧ B = gI M 234 ∧ T1 = gI M 244 ∧ T2 = gI M 245 ∧ J = gJ M 246) : ∀ E M1, Xt l t0 M E M1 → ∃ t, (t, E) ∈ l ∧ QN M t0 K2 A B T1 T2 J t M1 := by
  intro E M1 h
  obtain ⟨t, a, b⟩ := QC.xt (v := 0) hL hn e E M1 h
  exact ⟨t, a, b.1, b.2.2⟩
def OPn (G : mG) (YL Y12 : mY) (hh : List (Nat × Nat × Nat × Nat)) (D2 mc ms : Nat) (As : List Value) (M : mM) : Prop :=
  ∃ Q : Int32 → mM → Prop, CtW G YL hh 41 mc ms (.ref 100 :: As) M (fun a M1 => ∃ t, a = some (.int t) ∧ Q t M1) ∧ ∀ t M1, Q t M1 → Sh M1 ∧ Ct G Y12 D2 0 0 (.ref 230 :: As) M1 (Rs none (fun M2 => LI M2 ∧ gI M2 230 4 = t)) NX
def OPh (G : mG) (YL Y12 : mY) (hh : List (Nat × Nat × Nat × Nat)) (D2 mc ms : Nat) (As : List Value) (M : mM) : Prop :=
  ∃ Q : Int32 → mM → Prop, CtW G YL hh 41 mc ms (.ref 100 :: (As ++ [.ref 247])) M (fun a M1 => ∃ t, a = some (.int t) ∧ Q t M1) ∧ ∀ t M1, Q t M1 → Sh M1 ∧ ∃ v : Int32, Ct G Y12 D2 0 0 (.ref 230 :: As) M1 (Rs (some (.int v)) (fun M2 => LI M2 ∧ gI M2 230 4 = t ∧ (t = 0 → gJ M2 247 0 = (if v = 0 then 0 else 1)))) NX
def OPl (G : mG) (YL Y12 : mY) (hh : List (Nat × Nat × Nat × Nat)) (D2 mc ms : Nat) (As : List Value) (M : mM) : Prop :=
  ∃ Q : Int32 → mM → Prop, CtW G YL hh 41 mc ms (.ref 100 :: (As ++ [.ref 247])) M (fun a M1 => ∃ t, a = some (.int t) ∧ Q t M1) ∧ ∀ t M1, Q t M1 → Sh M1 ∧ ∃ v : Int64, Ct G Y12 D2 0 0 (.ref 230 :: As) M1 (Rs (some (.long v)) (fun M2 => LI M2 ∧ gI M2 230 4 = t ∧ (t = 0 → gJ M2 247 0 = v))) NX
theorem TWs.put {A B : Nat → Int32} (h : TWs A B) {t s n : Nat} (hs : s < 4) (hn : n ≤ 30) : TWs (uK A t (nI s)) (uK B t (nI n)) := by
  intro j hj
  by_cases e : j = t
  · simp only [uK, kn, if_pos e, nI_clamp (show n < 2 ^ 31 by omega)]
    exact ⟨Or.inr ⟨s, hs, rfl⟩, trivial, hn⟩
  · simp only [uK, kn, if_neg e]
    exact h j hj
section PAIRS2
variable (G : mG) (M : mM)
theorem op_mark (hL : LI M) (a1 a2 : Int32) (l : Bool) : OPi G YL_mark Y12_mark [(0, 12, 15, 19)] 2 1 6 [.int a1, .int a2, .int (bI (l = true))] M := by
  have hW := hL.1.1.2.1
  refine OPi.mk (K := gI M 231) hL (w_mark G a1 a2 _ (c11_mark G M hL.1.1 a1 a2 l) (hL.1.1.1.1 100 _ rfl) (QC.qt hL (fun _ => rfl)) (QC.xt hL c1n (fun _ => ⟨rfl, rfl, rfl, rfl, rfl, rfl⟩))) (fun M1 hS _ e => ?_)
  have c := c12_mark G M1 hS (by rw [e]; exact hW.p) a1 a2 l
  rw [e] at c
  refine ⟨_, fun h => ?_, c.pq e⟩
  exact if_pos (ifz h)
theorem op_holds (hL : LI M) (a1 a2 : Int32) (l : Bool) : OPh G YL_holds Y12_holds [(0, 19, 22, 19)] 6 1 6 [.int a1, .int a2, .int (bI (l = true))] M := by
  have hW := hL.1.1.2.1
  have hM := c11_holds G M hL.1.1 a1 a2 l
  generalize htb : (trN (gI M 231) l a2.toNatClampNeg).testBit a1.toNatClampNeg = tb at hM
  refine ⟨_, w_holds G a1 a2 _ (Q := QC M (if okWC (gI M 231) a1 a2 = true then 0 else 1) (if bI (tb = true) = 0 then 0 else 1) (gI M 231) (gI M 233) (gI M 234) (gI M 244) (gI M 245) (gJ M 246)) hM (hL.1.1.1.1 100 _ rfl) ?_ (QC.xt hL c1n (fun _ => ⟨rfl, rfl, rfl, rfl, rfl, rfl⟩)), fun t M1 q => ⟨q.2.2.2.1.1, ?_⟩⟩
  · rintro a M1 ⟨h0, rfl, k, m⟩
    exact ⟨_, rfl, m.1.1 247 _ rfl, QC.fin h0 _ (RS.kp k hL.1.1.2.2.1) (hL.1.kp k m)⟩
  · have e := q.2.2.1.row (q := 231) ⟨by omega, by omega⟩
    have c := c12_holds G M1 q.2.2.2.1.1 (by rw [e]; exact hW.p) a1 a2 l
    rw [e, htb] at c
    refine ⟨bI ((okWC (gI M 231) a1 a2 && tb) = true), (c.pq e).post ?_ (fun _ _ h => h)⟩
    rintro v' M2 ⟨rfl, p⟩
    obtain ⟨a, b, d⟩ := hL.pn q p
    refine ⟨rfl, a, b, fun h => ?_⟩
    rw [d h]
    have hok : okWC (gI M 231) a1 a2 = true := ifz (q.1.symm.trans h)
    rw [hok, Bool.true_and]
theorem op_judge (hL : LI M) (a1 a2 : Int32) : OPi G YL_judge Y12_judge [(0, 10, 13, 19), (0, 10, 17, 44), (0, 10, 21, 13)] 10 1 6 [.int a1, .int a2] M := by
  have hW := hL.1.1.2.1
  refine OPi.mk (K := gI M 231) hL (w_judge G a1 a2 (c11_judge G M hL.1.1 hL.1.2.2.2 (fun t ht => (hL.2.1 t ht).2) a1 a2) (hL.1.1.1.1 100 _ rfl) (QC.qt hL (fun _ => rfl)) (QC.xt hL c3n (fun _ => ⟨rfl, rfl, rfl, rfl, rfl, rfl⟩))) (fun M1 hS hr e => ?_)
  have e4 := hr.row (q := 244) ⟨by omega, by omega⟩
  have e5 := hr.row (q := 245) ⟨by omega, by omega⟩
  have e6 := hr.rowJ (q := 246) ⟨by omega, by omega⟩
  have c : Ct G Y12_judge 10 0 0 [.ref 230, .int a1, .int a2] M1 (Rs (some (.int (if tJA (gI M1 244) a1 a2 = 0 then rJA (jdF (fun k => gJ M1 246 (30 * a1.toNatClampNeg + k)) (kn (gI M1 245) a1.toNatClampNeg) 0 (gI M1 231)) a2 else 0))) (Pd M1 (tJA (gI M1 244) a1 a2) (gI M1 231))) NX := c12_judge G M1 hS (by rw [e]; exact hW) (hL.2.1.same e4 e5) a1 a2
  rw [e, e4, e5, e6] at c
  refine ⟨_, fun h => ?_, c.pd⟩
  exact if_pos h
theorem op_perform (hL : LI M) (a1 : Int32) : OPi G YL_perform Y12_perform [(0, 9, 12, 19), (0, 9, 15, 44)] 10 1 6 [.int a1] M := by
  have hW := hL.1.1.2.1
  refine OPi.mk (K := if tFA (gI M 244) a1 = 0 then (prf (fun k => gJ M 246 (30 * a1.toNatClampNeg + k)) (kn (gI M 245) a1.toNatClampNeg) 0 (gI M 231)).2 else gI M 231) hL (w_perform G a1 (c11_perform G M hL.1.1 hL.1.2.2.2 (fun t ht => (hL.2.1 t ht).2) a1) (hL.1.1.1.1 100 _ rfl) (QC.qt hL (fun h => (if_pos h).symm)) (QC.xt hL c2n (fun h => ⟨if_neg h, rfl, rfl, rfl, rfl, rfl⟩))) (fun M1 hS hr e => ?_)
  have e4 := hr.row (q := 244) ⟨by omega, by omega⟩
  have e5 := hr.row (q := 245) ⟨by omega, by omega⟩
  have e6 := hr.rowJ (q := 246) ⟨by omega, by omega⟩
  have c : Ct G Y12_perform 10 0 0 [.ref 230, .int a1] M1 (Rs (some (.int (if tFA (gI M1 244) a1 = 0 then nI (prf (fun k => gJ M1 246 (30 * a1.toNatClampNeg + k)) (kn (gI M1 245) a1.toNatClampNeg) 0 (gI M1 231)).1 else 0))) (Pd M1 (tFA (gI M1 244) a1) (if tFA (gI M1 244) a1 = 0 then (prf (fun k => gJ M1 246 (30 * a1.toNatClampNeg + k)) (kn (gI M1 245) a1.toNatClampNeg) 0 (gI M1 231)).2 else gI M1 231))) NX := c12_perform G M1 hS (by rw [e]; exact hW) (hL.2.1.same e4 e5) a1
  rw [e, e4, e5, e6] at c
  refine ⟨_, fun h => ?_, c.pd⟩
  exact if_pos h
theorem op_copy (hL : LI M) (a1 : Int32) : OPi G YL_copy Y12_copy [(0, 9, 12, 19), (0, 9, 15, 44)] 3 1 6 [.int a1] M := by
  have hW := hL.1.1.2.1
  refine ⟨_, w_copy G a1 (Q := QC M (tFA (gI M 244) a1) (nI (cpyF (kn (gI M 231) 93) (kn (gI M 245) a1.toNatClampNeg) a1.toNatClampNeg (gJ M 246) (kn (gI M 231) 2)).1).toInt64 (gI M 231) (gI M 233) (gI M 234) (gI M 244) (gI M 245) (if tFA (gI M 244) a1 = 0 then (cpyF (kn (gI M 231) 93) (kn (gI M 245) a1.toNatClampNeg) a1.toNatClampNeg (gJ M 246) (kn (gI M 231) 2)).2 else gJ M 246)) (c11_copy G M hL.1.1 hL.1.2.2.2 (fun t ht => (hL.2.1 t ht).2) a1) (hL.1.1.1.1 100 _ rfl) ?_ (QC.xt hL c2n (fun h => ⟨rfl, rfl, rfl, rfl, rfl, if_neg h⟩)), fun t M1 q => ⟨q.2.2.2.1.1, ?_⟩⟩
  · rintro a M1 ⟨h0, rfl, k, m, mt⟩
    refine ⟨_, rfl, m.1.1 247 _ rfl, QC.fin h0 _ (RS.ky k hL.1.1.2.2.1) ?_⟩
    rw [if_pos h0]
    exact hL.1.ky k m mt
  · have hr := q.2.2.1
    have e := hr.row (q := 231) ⟨by omega, by omega⟩
    have e4 := hr.row (q := 244) ⟨by omega, by omega⟩
    have e5 := hr.row (q := 245) ⟨by omega, by omega⟩
    have e6 := hr.rowJ (q := 246) ⟨by omega, by omega⟩
    have c : Ct G Y12_copy 3 0 0 [.ref 230, .int a1] M1 (Rs (some (.int (nI (if tFA (gI M1 244) a1 = 0 then cpyF (kn (gI M1 231) 93) (kn (gI M1 245) a1.toNatClampNeg) a1.toNatClampNeg (gJ M1 246) (kn (gI M1 231) 2) else (0, gJ M1 246)).1))) (Pt M1 (tFA (gI M1 244) a1) (gI M1 244) (gI M1 245) (if tFA (gI M1 244) a1 = 0 then cpyF (kn (gI M1 231) 93) (kn (gI M1 245) a1.toNatClampNeg) a1.toNatClampNeg (gJ M1 246) (kn (gI M1 231) 2) else (0, gJ M1 246)).2)) NX := c12_copy G M1 q.2.2.2.1.1 (by rw [e]; exact hW.q) (hL.2.1.same e4 e5) a1
    rw [e, e4, e5, e6] at c
    refine ⟨nI (if tFA (gI M 244) a1 = 0 then cpyF (kn (gI M 231) 93) (kn (gI M 245) a1.toNatClampNeg) a1.toNatClampNeg (gJ M 246) (kn (gI M 231) 2) else (0, gJ M 246)).1, c.post ?_ (fun _ _ h => h)⟩
    rintro v' M2 ⟨rfl, p⟩
    by_cases h0 : tFA (gI M 244) a1 = 0
    · rw [if_pos h0] at p q ⊢
      obtain ⟨a, b, d⟩ := hL.pt q p hL.2.1
      exact ⟨rfl, a, b, d⟩
    · rw [if_neg h0] at p q ⊢
      obtain ⟨a, b, d⟩ := hL.pt q p hL.2.1
      exact ⟨rfl, a, b, fun h => absurd (q.1.symm.trans h) h0⟩
theorem op_write (hL : LI M) (a1 a2 : Int32) (a3 : Int64) : OPl G YL_write Y12_write [(0, 11, 14, 19), (0, 11, 18, 44), (0, 11, 22, 125)] 3 1 6 [.int a1, .int a2, .long a3] M := by
  refine ⟨_, w_write G a1 a2 a3 (Q := QC M (wrA (gI M 244) (gI M 245) a1 a2) (ctV (kn (gI M 244) a1.toNatClampNeg) a3) (gI M 231) (gI M 233) (gI M 234) (gI M 244) (gI M 245) (if wrA (gI M 244) (gI M 245) a1 a2 = 0 then wrJA (gI M 244) (gI M 245) (gJ M 246) a1 a2 a3 else gJ M 246)) (c11_write G M hL.1.1 hL.1.2.2.2 (fun t ht => (hL.2.1 t ht).1) (fun t ht => (hL.2.1 t ht).2) a1 a2 a3) (hL.1.1.1.1 100 _ rfl) ?_ (QC.xt hL c3n (fun h => ⟨rfl, rfl, rfl, rfl, rfl, if_neg h⟩)), fun t M1 q => ⟨q.2.2.2.1.1, ?_⟩⟩
  · rintro a M1 ⟨h0, rfl, k, m, mt⟩
    refine ⟨_, rfl, m.1.1 247 _ rfl, QC.fin h0 _ (RS.ky k hL.1.1.2.2.1) ?_⟩
    rw [if_pos h0]
    exact hL.1.ky k m mt
  · have hr := q.2.2.1
    have e4 := hr.row (q := 244) ⟨by omega, by omega⟩
    have e5 := hr.row (q := 245) ⟨by omega, by omega⟩
    have e6 := hr.rowJ (q := 246) ⟨by omega, by omega⟩
    have c : Ct G Y12_write 3 0 0 [.ref 230, .int a1, .int a2, .long a3] M1 (Rs (some (.long (if wrA (gI M1 244) (gI M1 245) a1 a2 = 0 then ctV (kn (gI M1 244) a1.toNatClampNeg) a3 else 0))) (Pt M1 (wrA (gI M1 244) (gI M1 245) a1 a2) (gI M1 244) (gI M1 245) (if wrA (gI M1 244) (gI M1 245) a1 a2 = 0 then wrJA (gI M1 244) (gI M1 245) (gJ M1 246) a1 a2 a3 else gJ M1 246))) NX := c12_write G M1 q.2.2.2.1.1 (hL.2.1.same e4 e5) a1 a2 a3
    rw [e4, e5, e6] at c
    refine ⟨if wrA (gI M 244) (gI M 245) a1 a2 = 0 then ctV (kn (gI M 244) a1.toNatClampNeg) a3 else 0, c.post ?_ (fun _ _ h => h)⟩
    rintro v' M2 ⟨rfl, p⟩
    obtain ⟨a, b, d⟩ := hL.pt q p hL.2.1
    refine ⟨rfl, a, b, fun h => ?_⟩
    rw [if_pos (q.1.symm.trans h)]
    exact d h
theorem op_tray (hL : LI M) (a1 a2 a3 : Int32) : OPn G YL_tray Y12_tray [(0, 7, 10, 19), (0, 7, 14, 13)] 2 1 6 [.int a1, .int a2, .int a3] M := by
  refine ⟨_, w_tray G a1 a2 a3 (Q := QN M (tTr a1 a2 a3) (gI M 231) (gI M 233) (gI M 234) (if tTr a1 a2 a3 = 0 then uK (gI M 244) a1.toNatClampNeg a2 else gI M 244) (if tTr a1 a2 a3 = 0 then uK (gI M 245) a1.toNatClampNeg a3 else gI M 245) (if tTr a1 a2 a3 = 0 then trJ (gJ M 246) a1.toNatClampNeg else gJ M 246)) (c11_tray G M hL.1.1 hL.1.2.2.2 a1 a2 a3) (hL.1.1.1.1 100 _ rfl) ?_ (QN.xt hL c2n (fun h => ⟨rfl, rfl, rfl, if_neg h, if_neg h, if_neg h⟩)), fun t M1 q => ⟨q.2.2.1.1, ?_⟩⟩
  · rintro a M1 ⟨h0, rfl, k, m, mt⟩
    refine ⟨rfl, h0.symm, RS.ky k hL.1.1.2.2.1, ?_⟩
    rw [if_pos h0, if_pos h0, if_pos h0]
    exact hL.1.ky k m mt
  · have hr := q.2.1
    have e4 := hr.row (q := 244) ⟨by omega, by omega⟩
    have e5 := hr.row (q := 245) ⟨by omega, by omega⟩
    have e6 := hr.rowJ (q := 246) ⟨by omega, by omega⟩
    have c := c12_tray G M1 q.2.2.1.1 a1 a2 a3
    rw [e4, e5, e6] at c
    refine c.post ?_ (fun _ _ h => h)
    rintro v' M2 ⟨rfl, p⟩
    by_cases h0 : tTr a1 a2 a3 = 0
    · rw [if_pos h0] at p
      rw [if_pos h0, if_pos h0, if_pos h0] at q
      have hw : TWs (uK (gI M 244) a1.toNatClampNeg a2) (uK (gI M 245) a1.toNatClampNeg a3) := by
        unfold tTr at h0
        by_cases r1 : inR 4 a1 = true
        · rw [if_pos r1] at h0
          by_cases r2 : inR 4 a2 = true ∧ inR 31 a3 = true
          · obtain ⟨s, hs, rfl, hs2⟩ := inR_of r2.1
            obtain ⟨n, hn, rfl, hn2⟩ := inR_of r2.2
            exact TWs.put hL.2.1 hs (by omega)
          · rw [if_neg r2] at h0
            exact absurd h0 (by decide)
        · rw [if_neg r1] at h0
          exact absurd h0 (by decide)
      have p' : Pt M1 (tTr a1 a2 a3) (uK (gI M 244) a1.toNatClampNeg a2) (uK (gI M 245) a1.toNatClampNeg a3) (trJ (gJ M 246) a1.toNatClampNeg) M2 := by rw [h0]; exact p
      obtain ⟨a, b, d⟩ := hL.pt q.qc p' hw
      exact ⟨rfl, a, b⟩
    · rw [if_neg h0] at p
      rw [if_neg h0, if_neg h0, if_neg h0] at q
      obtain ⟨a, b, d⟩ := hL.pt q.qc p hL.2.1
      exact ⟨rfl, a, b⟩
theorem op_image (hL : LI M) (a1 : Int32) : OPn G YL_image Y12_image [(0, 5, 8, 19)] 1 75 830 [.int a1] M := by
  refine ⟨_, w_image G a1 (Q := QN M (if inR 3 a1 = true then 0 else 1) (gI M 231) (if inR 3 a1 = true then cpK (gI M 233) (2120 * a1.toNatClampNeg) (gI M 231) 2120 else gI M 233) (if inR 3 a1 = true then uK (gI M 234) a1.toNatClampNeg 1 else gI M 234) (gI M 244) (gI M 245) (gJ M 246)) (c11_image G M hL.1.1 hL.1.2.1 hL.1.2.2.1 a1) (hL.1.1.1.1 100 _ rfl) ?_ ?_, fun t M1 q => ⟨q.2.2.1.1, ?_⟩⟩
  · rintro a M1 ⟨h0, rfl, hz, k, m, hc, hi⟩
    refine ⟨rfl, (if_pos h0).symm, RS.ki k, ?_⟩
    rw [if_pos h0, if_pos h0]
    exact ⟨m, hc, hi, hL.1.2.2.2.same (fun r a => ⟨(k r (by unfold Ki; omega)).2.1, (k r (by unfold Ki; omega)).2.2.1⟩)⟩
  · rintro E M1 ⟨h0, rfl, z, hz, rfl⟩
    refine ⟨1, by simp, (if_neg h0).symm, RS.gap hL.1.1.2.2.1 hz, ?_⟩
    rw [if_neg h0, if_neg h0]
    exact hL.1.gap hz
  · have hr := q.2.1
    have e1 := hr.row (q := 231) ⟨by omega, by omega⟩
    have e4 := hr.row (q := 233) ⟨by omega, by omega⟩
    have e5 := hr.row (q := 234) ⟨by omega, by omega⟩
    have c := c12_image G M1 q.2.2.1.1 a1
    rw [e1, e4, e5] at c
    refine c.post ?_ (fun _ _ h => h)
    rintro v' M2 ⟨rfl, p⟩
    by_cases h0 : inR 3 a1 = true
    · rw [if_pos h0] at p
      rw [if_pos h0, if_pos h0, if_pos h0] at q
      obtain ⟨a, b, d⟩ := hL.pi q.qc p
      exact ⟨rfl, a, b⟩
    · rw [if_neg h0] at p
      rw [if_neg h0, if_neg h0, if_neg h0] at q
      obtain ⟨a, b, d⟩ := hL.pi q.qc p
      exact ⟨rfl, a, b⟩
theorem op_restore (hL : LI M) (a1 : Int32) : OPn G YL_restore Y12_restore [(0, 5, 8, 19), (0, 5, 11, 44)] 1 1 6 [.int a1] M := by
  refine ⟨_, w_restore G a1 (Q := QN M (rsT M a1) (if rsT M a1 = 0 then cpK (gI M 231) 0 (fun j => gI M 233 (2120 * a1.toNatClampNeg + j)) 2120 else gI M 231) (gI M 233) (gI M 234) (gI M 244) (gI M 245) (gJ M 246)) (c11_restore G M hL.1.1 hL.1.2.1 hL.1.2.2.1 a1) (hL.1.1.1.1 100 _ rfl) ?_ ?_, fun t M1 q => ⟨q.2.2.1.1, ?_⟩⟩
  · rintro a M1 ⟨h0, h1, rfl, hz, k, m, hc, hi⟩
    have hr : rsT M a1 = 0 := by rw [rsT, if_pos h0, if_neg h1]
    refine ⟨rfl, hr.symm, RS.ki k, ?_⟩
    rw [if_pos hr]
    exact ⟨m, hc, hi, hL.1.2.2.2.same (fun r a => ⟨(k r (by unfold Ki; omega)).2.1, (k r (by unfold Ki; omega)).2.2.1⟩)⟩
  · rintro E M1 (⟨h0, rfl, z, hz, rfl⟩ | ⟨h0, h1, rfl, z, hz, rfl⟩)
    · have hr : rsT M a1 = 1 := by rw [rsT, if_neg h0]
      refine ⟨1, by simp, hr.symm, RS.gap hL.1.1.2.2.1 hz, ?_⟩
      rw [if_neg (by rw [hr]; decide)]
      exact hL.1.gap hz
    · have hr : rsT M a1 = 2 := by rw [rsT, if_pos h0, if_pos h1]
      refine ⟨2, by simp, hr.symm, RS.gap hL.1.1.2.2.1 hz, ?_⟩
      rw [if_neg (by rw [hr]; decide)]
      exact hL.1.gap hz
  · have hr := q.2.1
    have e1 := hr.row (q := 231) ⟨by omega, by omega⟩
    have e4 := hr.row (q := 233) ⟨by omega, by omega⟩
    have e5 := hr.row (q := 234) ⟨by omega, by omega⟩
    have er : rsT M1 a1 = rsT M a1 := by unfold rsT; rw [e5]
    have c := c12_restore G M1 q.2.2.1.1 a1
    rw [er, e1, e4, e5] at c
    refine c.post ?_ (fun _ _ h => h)
    rintro v' M2 ⟨rfl, p⟩
    by_cases h0 : rsT M a1 = 0
    · rw [if_pos h0] at p
      rw [if_pos h0] at q
      have p' : Pi M1 (rsT M a1) (cpK (gI M 231) 0 (fun j => gI M 233 (2120 * a1.toNatClampNeg + j)) 2120) (gI M 233) (gI M 234) M2 := by rw [h0]; exact p
      obtain ⟨a, b, d⟩ := hL.pi q.qc p'
      exact ⟨rfl, a, b⟩
    · rw [if_neg h0] at p
      rw [if_neg h0] at q
      obtain ⟨a, b, d⟩ := hL.pi q.qc p
      exact ⟨rfl, a, b⟩
end PAIRS2
