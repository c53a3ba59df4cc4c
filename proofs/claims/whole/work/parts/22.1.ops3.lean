/-! ===== pairs without a wrapper; feed, hall ===== -/
def OPq (G : mG) (Y11 Y12 : mY) (D2 : Nat) (As : List Value) (M : mM) : Prop :=
  ∃ (v : Int32) (Q : mM → Prop), Ct G Y11 40 0 0 (.ref 100 :: As) M (fun a M1 => a = some (.int v) ∧ Q M1) NX ∧ ∀ M1, Q M1 → Sh M1 ∧ Ct G Y12 D2 0 0 (.ref 230 :: As) M1 (Rs (some (.int v)) LI) NX
theorem OPq.mk {G : mG} {Y11 Y12 : mY} {D2 : Nat} {M : mM} (hL : LI M) {v : Int32} {K : Nat → Int32} (h : Ct G Y11 40 0 0 [.ref 100] M (Qt 0 (some (.int v)) M K) NX) (hr : ∀ M1, Sh M1 → gI M1 231 = gI M 231 → Ct G Y12 D2 0 0 [.ref 230] M1 (Rs (some (.int v)) (Pn M1 0 K)) NX) : OPq G Y11 Y12 D2 [] M := by
  refine ⟨v, fun M1 => QN M 0 K (gI M 233) (gI M 234) (gI M 244) (gI M 245) (gJ M 246) 0 M1, h.post ?_ (fun _ _ z => z), fun M1 q => ⟨q.2.2.1.1, (hr M1 q.2.2.1.1 (q.2.1.row ⟨by omega, by omega⟩)).post ?_ (fun _ _ z => z)⟩⟩
  · rintro a M1 ⟨-, rfl, k, m⟩
    exact ⟨rfl, rfl, RS.kp k hL.1.1.2.2.1, hL.1.kp k m⟩
  · rintro v' M2 ⟨rfl, p⟩
    exact ⟨rfl, (hL.pn q.qc p).1⟩
section PAIRS3
variable (G : mG) (M : mM)
theorem op_hardest (hL : LI M) : OPq G Y11_hardest Y12_hardest 7 [] M := OPq.mk hL (c11_hardest G M hL.1.1) (fun M1 hS e => by
  have c := c12_hardest G M1 hS (by rw [e]; exact hL.1.1.2.1.q)
  rw [e] at c
  exact c.pq e)
theorem op_book (hL : LI M) : OPq G Y11_book Y12_book 7 [] M := OPq.mk hL (c11_book G M hL.1.1) (fun M1 hS e => by
  have c := c12_book G M1 hS (by rw [e]; exact hL.1.1.2.1.q)
  rw [e] at c
  exact c.pq e)
theorem op_twins (hL : LI M) : OPq G Y11_twins Y12_twins 7 [] M := OPq.mk hL (c11_twins G M hL.1.1) (fun M1 hS e => by
  have c := c12_twins G M1 hS (by rw [e]; exact hL.1.1.2.1.q)
  rw [e] at c
  exact c.pq e)
theorem op_parts (hL : LI M) : OPq G Y11_parts Y12_parts 7 [] M := OPq.mk hL (c11_parts G M hL.1.1) (fun M1 hS e => by
  have c := c12_parts G M1 hS (by rw [e]; exact hL.1.1.2.1.q)
  rw [e] at c
  exact c.pq e)
theorem op_idle (hL : LI M) : OPq G Y11_idle Y12_idle 7 [] M := OPq.mk hL (c11_idle G M hL.1.1) (fun M1 hS e => by
  have c := c12_idle G M1 hS (by rw [e]; exact hL.1.1.2.1.q)
  rw [e] at c
  exact c.pq e)
theorem op_changing (hL : LI M) : OPq G Y11_changing Y12_changing 7 [] M := OPq.mk hL (c11_changing G M hL.1.1) (fun M1 hS e => by
  have c := c12_changing G M1 hS (by rw [e]; exact hL.1.1.2.1.q)
  rw [e] at c
  exact c.pq e)
theorem op_winner (hL : LI M) : OPq G Y11_winner Y12_winner 8 [] M := OPq.mk hL (c11_winner G M hL.1.1) (fun M1 hS e => by
  have c := c12_winner G M1 hS (by rw [e]; exact hL.1.1.2.1)
  rw [e] at c
  exact c.pq e)
theorem op_lamp (hL : LI M) : OPq G Y11_lamp Y12_lamp 1 [] M := OPq.mk hL (c11_lamp G M hL.1.1) (fun M1 hS e => by
  have c := c12_lamp G M1 hS (by rw [e]; exact hL.1.1.2.1)
  rw [e] at c
  exact c.pd)
theorem LI.qn (hL : LI M) : QN M 0 (gI M 231) (gI M 233) (gI M 234) (gI M 244) (gI M 245) (gJ M 246) 0 M := ⟨rfl, RS.rf, hL.1⟩
theorem op_fault (hL : LI M) (a1 : Int32) : OPq G Y11_fault Y12_fault 0 [.int a1] M := by
  refine ⟨_, fun M1 => M1 = M, c11_fault G M hL.1.1.1 a1, ?_⟩
  rintro M1 rfl
  have c := c12_fault G M1 hL.1.1.1 a1
  refine ⟨hL.1.1.1, c.post ?_ (fun _ _ z => z)⟩
  rintro v' M2 ⟨rfl, p⟩
  refine ⟨?_, (hL.pn (LI.qn M1 hL).qc (p.pn rfl)).1⟩
  rw [hL.2.2.1, hL.2.2.2.1]
theorem op_count (hL : LI M) (a1 : Int32) : OPq G Y11_count Y12_count 1 [.int a1] M := by
  refine ⟨_, fun M1 => M1 = M, c11_count G M hL.1.1 a1, ?_⟩
  rintro M1 rfl
  have c := c12_count G M1 hL.1.1.1 hL.1.1.2.1.q a1
  refine ⟨hL.1.1.1, c.post ?_ (fun _ _ z => z)⟩
  rintro v' M2 ⟨rfl, p⟩
  refine ⟨?_, (hL.pn (LI.qn M1 hL).qc (p.pn rfl)).1⟩
  obtain ⟨tp, b, t3, t4, -⟩ := hL.2.2.2.2
  rw [cnV_A, t3, t4]
theorem op_feed (hL : LI M) (a b c d e : Int32) : OPq G Y11_feed Y12_feed 0 [.int a, .int b, .int c, .int d, .int e] M := by
  obtain ⟨hC, hT, t1, t2, tp, by_, t3, t4, t5, t6⟩ := hL
  have hS := hC.1.1
  refine ⟨_, _, c11_feed G M hS t3 t5 a b c d e, ?_⟩
  rintro M1 ⟨h1, h2, h3⟩
  obtain ⟨z1, z2, z3, z4, z5⟩ := h1
  have w1 : ∀ q, q ≠ 100 → q ≠ 101 → gI M1 q = gI M q := fun q x y => funext fun k => z5 q k (by unfold Wtp; rw [nbeq_f x, nbeq_f y]; rfl)
  have hC1 : CM M1 (gI M 231) (gI M 233) (gI M 234) (gI M 244) (gI M 245) (gJ M 246) := hC.ref z1 z2 z4 (fun q _ x y => w1 q x y) (fun q _ => by rw [z3])
  have e230 : gI M1 230 = gI M 230 := w1 230 (by decide) (by decide)
  have e235 : gI M1 235 = gI M 235 := w1 235 (by decide) (by decide)
  have c12 := c12_feed G M1 hC1.1.1 (by rw [e230]; exact t4) t5 a b c d e
  refine ⟨hC1.1.1, c12.post ?_ (fun _ _ z => z)⟩
  rintro v' M2 ⟨rfl, ⟨y1, y2, y3, y4, y5⟩, k1, k2, k3⟩
  refine ⟨rfl, ?_⟩
  have row : ∀ r, (∀ k, Wfd r k = false) → gI M2 r = gI M1 r := fun r w => funext fun k => y5 r k (w k)
  have r1 : ∀ q, 231 ≤ q → q ≤ 246 → q ≠ 235 → gI M2 q = gI M q := fun q x y z => (row q (fun k => by unfold Wfd; rw [nbeq_f (show q ≠ 230 by omega), nbeq_f z]; rfl)).trans (w1 q (by omega) (by omega))
  have j1 : gJ M2 246 = gJ M 246 := by rw [y3, z3]
  have s100 : gI M2 100 = gI M1 100 := row 100 (fun k => rfl)
  have s101 : gI M2 101 = gI M1 101 := row 101 (fun k => rfl)
  refine ⟨?_, hT.same (r1 244 (by omega) (by omega) (by omega)) (r1 245 (by omega) (by omega) (by omega)), ?_⟩
  · rw [r1 231 (by omega) (by omega) (by omega), r1 233 (by omega) (by omega) (by omega), r1 234 (by omega) (by omega) (by omega), r1 244 (by omega) (by omega) (by omega), r1 245 (by omega) (by omega) (by omega), j1]
    exact hC1.ref y1 y2 y4 (fun q x _ _ => row q (Wfd_o (by omega))) (fun q _ => by rw [y3])
  · refine ⟨?_, ?_, (if tp ≤ 880 then tp + 20 else tp), fun j => if tp ≤ j ∧ j < (if tp ≤ 880 then tp + 20 else tp) then fdA a b c d e (j - tp) else by_ j, by rw [s100]; exact h2, k2, by split <;> omega, fun j hj => ?_⟩
    · rw [s100, z5 100 2 rfl, y5 230 14 rfl, e230]; exact t1
    · rw [s100, z5 100 3 rfl, y5 230 15 rfl, e230]; exact t2
    · rw [s101, h3 j, k3 j, e235]
      by_cases hh : tp ≤ j ∧ j < (if tp ≤ 880 then tp + 20 else tp)
      · simp only [if_pos hh]
        exact ⟨trivial, trivial, fdA_256 _ _ _ _ _ _⟩
      · simp only [if_neg hh]
        exact t6 j (Nat.lt_of_not_le (fun z => hh ⟨z, hj⟩))
end PAIRS3
/-- a hall's plan is new: images stay -/
theorem IMs.kh {M M' : mM} {K A B : Nat → Int32} (h : IMs M A B) (k : Kh M M') (hm : MR M K) (hp : gR M' 118 0 = some (gz M)) (hcd : gR M' (gz M) 14 = some (gz M + 7)) : IMs M' A B := by
  have h8 := hm.2.2.1
  have e193 := (k.2 193 (by omega) (by omega)).2.2.2
  have pc : ∀ {p cd : Nat}, PlA M p cd → (∀ a, p ≤ a → a ≤ p + 6 → Sme M M' a) ∧ Sme M M' cd := fun {p cd} z => by
    unfold PlA at z
    exact ⟨fun a x y => k.2 a (by omega) (by omega), k.2 cd (by omega) (by omega)⟩
  have nd : ∀ q, q + 74 < gz M → Dj M' 118 q := fun q hq p a b => by
    rw [hp] at a
    cases a
    refine ⟨fun r x y => Or.inr (by omega), fun cd c => ?_⟩
    rw [hcd] at c
    cases c
    exact Or.inr (by omega)
  intro i hi
  rcases h i hi with ⟨a, b⟩ | ⟨a, q, q1, q2, q3, q4, q5, q6, q7⟩
  · exact Or.inl ⟨a, (e193 i).trans b⟩
  · have sq : ∀ r, q ≤ r → r ≤ q + 74 → Sme M M' r := fun r x y => k.2 r (by omega) (by omega)
    refine Or.inr ⟨a, q, (e193 i).trans q1, q2, by have := k.1; omega, q4.sm (fun r x y => ⟨(sq r x y).1, fun j _ => (sq r x y).2.2.2 j⟩), q5.mv k.1 (fun r x y => (sq r x y).2.1) ((sq q (by omega) (by omega)).2.2.2 0) (fun p cd _ _ z => pc z), nd q q3, fun j hj q' hq' => ?_⟩
    rw [e193] at hq'
    obtain ⟨d1, d2⟩ := q7 j hj q' hq'
    obtain ⟨_, u1, u2, _, u5, _⟩ := h.ir hj hq'
    refine ⟨d1.mv ((k.2 q' (by omega) (by omega)).2.2.2 0) (fun p x y => ?_), d2⟩
    obtain ⟨p', cd, v1, v2, v3⟩ := u5.pl
    rw [v1] at x
    cases x
    exact ((pc v3).1 p (by omega) (by omega)).2.2.2 14
theorem CM.kh {M M1 : mM} {K K' A B T1 T2 : Nat → Int32} {J : Nat → Int64} {r : Nat} (h : CM M K A B T1 T2 J) (k : Kh M M1) (m : MR M1 K') (hp : if r = 0 then (gR M1 118 0 = some (gz M) ∧ gR M1 (gz M) 14 = some (gz M + 7) ∧ ∃ n, n ≤ 965 ∧ gT M1 (gz M + 7) = .inr (0, n)) else gR M1 118 0 = gR M 118 0) : CM M1 K' A B T1 T2 J := by
  have h8 := h.1.2.2.1
  have mt : MT M1 T1 T2 J := h.2.2.2.same (fun q a => ⟨(k.2 q (by omega) (by omega)).2.1, (k.2 q (by omega) (by omega)).2.2.1⟩)
  by_cases h0 : r = 0
  · rw [if_pos h0] at hp
    obtain ⟨p1, p2, n, n1, n2⟩ := hp
    refine ⟨m, fun p a b cd n' c d => ?_, h.2.2.1.kh k h.1 p1 p2, mt⟩
    rw [p1] at a
    cases a
    rw [p2] at c
    cases c
    rw [n2] at d
    cases d
    exact n1
  · rw [if_neg h0] at hp
    have km : KM M M1 := ⟨k.1, fun q a b => k.2 q a (by omega), hp⟩
    exact ⟨m, h.2.1.km km h.1, h.2.2.1.km km h.1, mt⟩
section PAIRS4
variable (G : mG) (M : mM)
theorem op_hall (hL : LI M) (a1 : Int32) : OPi G YL_hall Y12_hall [(0, 9, 12, 13)] 33 8 1023 [.int a1] M := by
  obtain ⟨tp, by_, t3, t4, t5, t6⟩ := hL.2.2.2.2
  have hC := hL.1
  have hS := hC.1.1
  have h8 := hC.1.2.2.1
  by_cases hn : 0 ≤ a1 ∧ a1 ≤ nI tp
  · obtain ⟨nn, hnn', rfl, hnn2⟩ := inR_of (inR_mkL (Int32.not_lt.mpr hn.1) hn.2 (by omega))
    have hnn : nn ≤ tp := by omega
    have hbc : ∀ j, j < nn → gI M 101 j = sb (by_ j) ∧ by_ j < 256 := fun j hj => ⟨(t6 j (by omega)).1, (t6 j (by omega)).2.2⟩
    have hbr : ∀ j, j < nn → gI M 235 j = nI (by_ j) ∧ by_ j < 256 := fun j hj => (t6 j (by omega)).2
    have hM := c11_hallT G M hC.1 t3 t5 hnn hbc (gI M 232)
    have hW : (hlS (by_, nn) (gI M 232)).1 = 0 → WP (hlK (hlS (by_, nn) (gI M 232)) (gI M 231)) ∧ inOK (hlK (hlS (by_, nn) (gI M 232)) (gI M 231)) := fun z => hlK_WP (hlP (M := M) (Z := (by_, nn)) (show nn ≤ 900 by omega) (gI M 232)) (hlS_HV (Z := (by_, nn)) (show nn ≤ 900 by omega) _ z).2 _
    generalize hR : hlS (by_, nn) (gI M 232) = R at hM hW
    refine ⟨fun t M1 => t = 0 ∧ gJ M1 247 0 = (if R.1 = 0 then R.2.2.2 0 else -10 - nI R.1).toInt64 ∧ (∀ q, 230 ≤ q ∧ q ≤ 246 → gI M1 q = gI M q ∧ gJ M1 q = gJ M q) ∧ CM M1 (if R.1 = 0 then hlF R (gI M 231) else gI M 231) (gI M 233) (gI M 234) (gI M 244) (gI M 245) (gJ M 246) ∧ gI M1 100 1 = 0 ∧ gI M1 100 2 = nI R.1 ∧ gI M1 100 3 = (if R.1 = 0 then -1 else nI R.2.1), w_hall G (nI nn) hM (hS.1 100 _ rfl) ?_ (fun _ _ h => h.elim), fun t M1 q => ?_⟩
    · rintro a M1 ⟨rfl, k, m, k1, k2, k3, kp⟩
      refine ⟨_, rfl, m.1.1 247 _ rfl, rfl, gJ_ss _ _ _ _, fun q hq => ⟨(k.2 q (by omega) (by omega)).2.1, funext fun i => ?_⟩, (hC.kh k m kp).out _, k1, k2, k3⟩
      exact (up2_q _ _ (show q ≠ 247 by omega)).trans ((k.2 q (by omega) (by omega)).2.2.1 i)
    · obtain ⟨rfl, q2, q3, q4, q5, q6, q7⟩ := q
      have e1 := (q3 231 ⟨by omega, by omega⟩).1
      have e2 := (q3 232 ⟨by omega, by omega⟩).1
      have e0 := (q3 230 ⟨by omega, by omega⟩).1
      have e5 := (q3 235 ⟨by omega, by omega⟩).1
      have c := c12_hallT G M1 q4.1.1 (b := by_) (nn := nn) (by rw [e0]; exact t4) t5 hnn (by rw [e5]; exact hbr) (by rw [e1, e2, hR]; exact hW)
      rw [e1, e2, hR] at c
      refine ⟨q4.1.1, if R.1 = 0 then R.2.2.2 0 else -10 - nI R.1, c.post ?_ (fun _ _ z => z)⟩
      rintro v' M2 ⟨rfl, ⟨y1, y2, y3, y4, y5⟩, k1, k2, k3, k4, k5⟩
      have row : ∀ r, (∀ k, Whl r k = false) → gI M2 r = gI M1 r := fun r w => funext fun k => y5 r k (w k)
      have r1 : ∀ q, 233 ≤ q → q ≤ 246 → gI M2 q = gI M q := fun q x y => (row q (fun k => by unfold Whl; rw [nbeq_f (show q ≠ 230 by omega), nbeq_f (show q ≠ 231 by omega), nbeq_f (show q ≠ 232 by omega)]; rfl)).trans (q3 q ⟨by omega, by omega⟩).1
      have j1 : gJ M2 246 = gJ M 246 := by rw [y3]; exact (q3 246 ⟨by omega, by omega⟩).2
      refine ⟨rfl, ⟨?_, hL.2.1.same (r1 244 (by omega) (by omega)) (r1 245 (by omega) (by omega)), ?_⟩, k1, fun _ => by rw [y3]; exact q2⟩
      · rw [k5, r1 233 (by omega) (by omega), r1 234 (by omega) (by omega), r1 244 (by omega) (by omega), r1 245 (by omega) (by omega), j1]
        exact q4.ref y1 y2 y4 (fun q x _ _ => row q (Whl_o (by omega))) (fun q _ => by rw [y3])
      · have s100 : gI M2 100 = gI M1 100 := row 100 (fun k => rfl)
        exact ⟨by rw [s100, k3]; exact q6, by rw [s100, k4]; exact q7, 0, fun _ => 0, by rw [s100]; exact q5, k2, by omega, fun j hj => absurd hj (by omega)⟩
  · refine ⟨fun t M1 => QN M 1 (gI M 231) (gI M 233) (gI M 234) (gI M 244) (gI M 245) (gJ M 246) t M1, w_hall G a1 (c11_hallF G M hS t3 hn) (hS.1 100 _ rfl) (fun _ _ h => h.elim) ?_, fun t M1 q => ?_⟩
    · rintro E M1 ⟨rfl, z, hz, rfl⟩
      exact ⟨1, by simp, rfl, RS.gap h8 hz, hC.gap hz⟩
    · have e0 := q.2.1.row (q := 230) ⟨by omega, by omega⟩
      have c := c12_hallF G M1 q.2.2.1.1 (by rw [e0]; exact t4) t5 hn
      refine ⟨q.2.2.1.1, 0, c.post ?_ (fun _ _ z => z)⟩
      rintro v' M2 ⟨rfl, rfl⟩
      have p : Pn M1 1 (gI M 231) (sI (sI M1 230 4 0) 230 4 1) := ⟨(Sm.rf.st _ rfl).st _ rfl, gI_ss _ _ _ _, (gI_sr _ _ (by decide)).trans ((gI_sr _ _ (by decide)).trans (q.2.1.row ⟨by omega, by omega⟩))⟩
      obtain ⟨a, b, d⟩ := hL.pn q.qc p
      exact ⟨rfl, a, b, fun h => absurd (q.1.symm.trans h) (by decide)⟩
end PAIRS4
