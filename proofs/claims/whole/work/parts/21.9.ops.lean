/-! ===== class and reference, operation by operation ===== -/
theorem Wdn_o {q : Nat} (h : ¬ (230 ≤ q ∧ q ≤ 246)) (k : Nat) : Wdn q k = false := by
  unfold Wdn Wd Wq Wlh W230s
  simp only [nbeq_f (show q ≠ 230 by omega), nbeq_f (show q ≠ 231 by omega), nbeq_f (show q ≠ 236 by omega), nbeq_f (show q ≠ 237 by omega), nbeq_f (show q ≠ 238 by omega), nbeq_f (show q ≠ 239 by omega), nbeq_f (show q ≠ 240 by omega), nbeq_f (show q ≠ 241 by omega), nbeq_f (show q ≠ 242 by omega), nbeq_f (show q ≠ 243 by omega), Bool.false_and, Bool.or_false]
theorem Wt_o {q : Nat} (h : ¬ (230 ≤ q ∧ q ≤ 246)) (k : Nat) : Wt q k = false := by
  unfold Wt
  simp only [nbeq_f (show q ≠ 230 by omega), nbeq_f (show q ≠ 244 by omega), nbeq_f (show q ≠ 245 by omega), Bool.false_and, Bool.or_false]
theorem Wi_o {q : Nat} (h : ¬ (230 ≤ q ∧ q ≤ 246)) (k : Nat) : Wi q k = false := by
  unfold Wi
  simp only [nbeq_f (show q ≠ 230 by omega), nbeq_f (show q ≠ 231 by omega), nbeq_f (show q ≠ 233 by omega), nbeq_f (show q ≠ 234 by omega), Bool.false_and, Bool.or_false]
theorem Whl_o {q : Nat} (h : ¬ (230 ≤ q ∧ q ≤ 246)) (k : Nat) : Whl q k = false := by
  unfold Whl
  simp only [nbeq_f (show q ≠ 230 by omega), nbeq_f (show q ≠ 231 by omega), nbeq_f (show q ≠ 232 by omega), Bool.false_and, Bool.or_false]
theorem Wfd_o {q : Nat} (h : ¬ (230 ≤ q ∧ q ≤ 246)) (k : Nat) : Wfd q k = false := by
  unfold Wfd
  simp only [nbeq_f (show q ≠ 230 by omega), nbeq_f (show q ≠ 235 by omega), Bool.false_and, Bool.or_false]
theorem Pq.pn {M M' : mM} {t : Int32} {K : Nat → Int32} (h : Pq M t M') (e : gI M 231 = K) : Pn M t K M' := by
  refine ⟨h.1.wk (fun q k z => ?_), h.2, (h.1.row (fun k => rfl)).trans e⟩
  simp only [Wdn, Wd, Bool.or_eq_false_iff] at z
  exact z.1.1.1
theorem Pd.pn {M M' : mM} {t : Int32} {K : Nat → Int32} (h : Pd M t K M') : Pn M t K M' := by
  refine ⟨h.1.wk (fun q k z => ?_), h.2⟩
  simp only [Wdn, Bool.or_eq_false_iff] at z
  exact z.1
theorem TW.same {M M' : mM} (h : TW M) (e1 : gI M' 244 = gI M 244) (e2 : gI M' 245 = gI M 245) : TW M' := by
  unfold TW at h ⊢
  rw [e1, e2]
  exact h
theorem RS.row {M M' : mM} (h : RS M M') {q : Nat} (hq : 230 ≤ q ∧ q ≤ 246) : gI M' q = gI M q := (h q (Or.inr (Or.inr hq))).2.1
theorem RS.rowJ {M M' : mM} (h : RS M M') {q : Nat} (hq : 230 ≤ q ∧ q ≤ 246) : gJ M' q = gJ M q := funext fun k => (h q (Or.inr (Or.inr hq))).2.2.1 k
theorem LI.pn {M M1 M2 : mM} {t0 t : Int32} {v : Int64} {K : Nat → Int32} (hL : LI M) (q : QC M t0 v K (gI M 233) (gI M 234) (gI M 244) (gI M 245) (gJ M 246) t M1) (p : Pn M1 t0 K M2) : LI M2 ∧ gI M2 230 4 = t ∧ (t = 0 → gJ M2 247 0 = v) := by
  obtain ⟨pz, pT, pJ, pR, pI⟩ := p.1
  have q3 := q.2.2.1
  have row : ∀ r, (∀ k, Wdn r k = false) → gI M2 r = gI M1 r := fun r w => funext fun k => pI r k (w k)
  have e4 : gI M2 244 = gI M 244 := (row 244 (fun k => rfl)).trans (q3.row ⟨by omega, by omega⟩)
  have e5 : gI M2 245 = gI M 245 := (row 245 (fun k => rfl)).trans (q3.row ⟨by omega, by omega⟩)
  obtain ⟨a, b⟩ := hL.ref q pz pT pR (fun r h => row r (Wdn_o h)) (fun r _ => by rw [pJ]) p.2.2 ((row 233 (fun k => rfl)).trans (q3.row ⟨by omega, by omega⟩)) ((row 234 (fun k => rfl)).trans (q3.row ⟨by omega, by omega⟩)) e4 e5 ((show gJ M2 246 = gJ M1 246 by rw [pJ]).trans (q3.rowJ ⟨by omega, by omega⟩)) (hL.2.1.same e4 e5) (pI 230 14 rfl) (pI 230 15 rfl) (pI 230 6 rfl) (row 235 (fun k => rfl))
  exact ⟨a, p.2.1.trans q.1.symm, b⟩
/-- a wrapper and the reference's operation, side by side -/
def OPi (G : mG) (YL Y12 : mY) (hh : List (Nat × Nat × Nat × Nat)) (D2 mc ms : Nat) (As : List Value) (M : mM) : Prop :=
  ∃ Q : Int32 → mM → Prop, CtW G YL hh 41 mc ms (.ref 100 :: (As ++ [.ref 247])) M (fun a M1 => ∃ t, a = some (.int t) ∧ Q t M1) ∧ ∀ t M1, Q t M1 → Sh M1 ∧ ∃ v : Int32, Ct G Y12 D2 0 0 (.ref 230 :: As) M1 (Rs (some (.int v)) (fun M2 => LI M2 ∧ gI M2 230 4 = t ∧ (t = 0 → gJ M2 247 0 = v.toInt64))) NX
theorem OPi.mk {G : mG} {YL Y12 : mY} {hh : List (Nat × Nat × Nat × Nat)} {D2 mc ms : Nat} {As : List Value} {M : mM} (hL : LI M) {t0 v : Int32} {K : Nat → Int32}
    (hW : CtW G YL hh 41 mc ms (.ref 100 :: (As ++ [.ref 247])) M (fun a M1 => ∃ t, a = some (.int t) ∧ QC M t0 v.toInt64 K (gI M 233) (gI M 234) (gI M 244) (gI M 245) (gJ M 246) t M1))
    (hr : ∀ M1, Sh M1 → RS M M1 → gI M1 231 = gI M 231 → ∃ v2 : Int32, (t0 = 0 → v2 = v) ∧ Ct G Y12 D2 0 0 (.ref 230 :: As) M1 (Rs (some (.int v2)) (Pn M1 t0 K)) NX) : OPi G YL Y12 hh D2 mc ms As M := by
  refine ⟨_, hW, fun t M1 q => ⟨q.2.2.2.1.1, ?_⟩⟩
  obtain ⟨v2, e, c⟩ := hr M1 q.2.2.2.1.1 q.2.2.1 (q.2.2.1.row ⟨by omega, by omega⟩)
  refine ⟨v2, c.post ?_ (fun _ _ h => h)⟩
  rintro v' M2 ⟨rfl, p⟩
  obtain ⟨a, b, d⟩ := hL.pn q p
  exact ⟨rfl, a, b, fun h => by rw [e (q.1.symm.trans h)]; exact d h⟩
theorem ifz {p : Prop} [Decidable p] (h : (if p then (0 : Int32) else 1) = 0) : p := by
  by_cases hp : p
  · exact hp
  · rw [if_neg hp] at h; exact absurd h (by decide)
theorem ifn {p : Prop} [Decidable p] (h : ¬ (if p then (0 : Int32) else 1) = 0) : ¬ p := fun hp => h (if_pos hp)
theorem ify {p : Prop} [Decidable p] (h : (if p then (1 : Int32) else 0) = 0) : ¬ p := fun hp => by rw [if_pos hp] at h; exact absurd h (by decide)
theorem ifw {p : Prop} [Decidable p] (h : ¬ (if p then (1 : Int32) else 0) = 0) : p := Decidable.not_not.mp (fun hp => h (if_neg hp))
theorem Ct.pq {G : mG} {y : mY} {D : Nat} {as : List Value} {M : mM} {v : Option Value} {t : Int32} {K : Nat → Int32} (e : gI M 231 = K) (h : Ct G y D 0 0 as M (Rs v (Pq M t)) NX) : Ct G y D 0 0 as M (Rs v (Pn M t K)) NX :=
  h.post (fun _ _ q => ⟨q.1, q.2.pn e⟩) (fun _ _ q => q)
theorem Ct.pd {G : mG} {y : mY} {D : Nat} {as : List Value} {M : mM} {v : Option Value} {t : Int32} {K : Nat → Int32} (h : Ct G y D 0 0 as M (Rs v (Pd M t K)) NX) : Ct G y D 0 0 as M (Rs v (Pn M t K)) NX :=
  h.post (fun _ _ q => ⟨q.1, q.2.pn⟩) (fun _ _ q => q)
theorem c1n {t : Int32} {A : String} : ∀ E, (t, E) ∈ ([(1, A)] : List (Int32 × String)) → t ≠ 0 := by
  intro E h e
  subst e
  simp only [List.mem_cons, List.not_mem_nil, or_false, Prod.mk.injEq] at h
  exact absurd h.1 (by decide)
theorem c2n {t : Int32} {A B : String} : ∀ E, (t, E) ∈ ([(1, A), (2, B)] : List (Int32 × String)) → t ≠ 0 := by
  intro E h e
  subst e
  simp only [List.mem_cons, List.not_mem_nil, or_false, Prod.mk.injEq] at h
  rcases h with h | h <;> exact absurd h.1 (by decide)
theorem c3n {t : Int32} {A B C : String} : ∀ E, (t, E) ∈ ([(1, A), (2, B), (3, C)] : List (Int32 × String)) → t ≠ 0 := by
  intro E h e
  subst e
  simp only [List.mem_cons, List.not_mem_nil, or_false, Prod.mk.injEq] at h
  rcases h with h | h | h <;> exact absurd h.1 (by decide)
section PAIRS
variable (G : mG) (M : mM)
theorem op_chest (hL : LI M) (a1 a2 : Int32) : OPi G YL_chest Y12_chest [(0, 10, 13, 19), (0, 10, 17, 13)] 7 1 6 [.int a1, .int a2] M := by
  have hW := hL.1.1.2.1
  refine OPi.mk (K := gI M 231) hL (w_chest G a1 a2 (c11_chest G M hL.1.1 a1 a2) (hL.1.1.1.1 100 _ rfl) (QC.qt hL (fun _ => rfl)) (QC.xt hL c2n (fun _ => ⟨rfl, rfl, rfl, rfl, rfl, rfl⟩))) (fun M1 hS _ e => ?_)
  have c := c12_chest G M1 hS (by rw [e]; exact hW.q) a1 a2
  rw [e] at c
  refine ⟨_, fun h => ?_, c.pq e⟩
  exact if_pos h
theorem op_word (hL : LI M) (a1 a2 : Int32) : OPi G YL_word Y12_word [(0, 10, 13, 19), (0, 10, 17, 13)] 7 1 6 [.int a1, .int a2] M := by
  have hW := hL.1.1.2.1
  refine OPi.mk (K := gI M 231) hL (w_word G a1 a2 (c11_word G M hL.1.1 a1 a2) (hL.1.1.1.1 100 _ rfl) (QC.qt hL (fun _ => rfl)) (QC.xt hL c2n (fun _ => ⟨rfl, rfl, rfl, rfl, rfl, rfl⟩))) (fun M1 hS _ e => ?_)
  have c := c12_word G M1 hS (by rw [e]; exact hW.q) a1 a2
  rw [e] at c
  refine ⟨_, fun h => ?_, c.pq e⟩
  exact if_pos h
theorem op_fits (hL : LI M) (a1 : Int32) : OPi G YL_fits Y12_fits [(0, 9, 12, 13)] 7 1 6 [.int a1] M := by
  have hW := hL.1.1.2.1
  refine OPi.mk (K := gI M 231) hL (w_fits G a1 (c11_fits G M hL.1.1 a1) (hL.1.1.1.1 100 _ rfl) (QC.qt hL (fun _ => rfl)) (QC.xt hL c1n (fun _ => ⟨rfl, rfl, rfl, rfl, rfl, rfl⟩))) (fun M1 hS _ e => ?_)
  have c := c12_fits G M1 hS (by rw [e]; exact hW.q) a1
  rw [e] at c
  refine ⟨_, fun h => ?_, c.pq e⟩
  exact if_pos (ifz h)
theorem op_tells (hL : LI M) (a1 : Int32) : OPi G YL_tells Y12_tells [(0, 9, 12, 13)] 7 1 6 [.int a1] M := by
  have hW := hL.1.1.2.1
  refine OPi.mk (K := gI M 231) hL (w_tells G a1 (c11_tells G M hL.1.1 a1) (hL.1.1.1.1 100 _ rfl) (QC.qt hL (fun _ => rfl)) (QC.xt hL c1n (fun _ => ⟨rfl, rfl, rfl, rfl, rfl, rfl⟩))) (fun M1 hS _ e => ?_)
  have c := c12_tells G M1 hS (by rw [e]; exact hW.q) a1
  rw [e] at c
  refine ⟨_, fun h => ?_, c.pq e⟩
  exact if_pos (ifz h)
theorem op_cost (hL : LI M) (a1 : Int32) : OPi G YL_cost Y12_cost [(0, 9, 12, 13)] 3 1 6 [.int a1] M := by
  have hW := hL.1.1.2.1
  refine OPi.mk (K := gI M 231) hL (w_cost G a1 (c11_cost G M hL.1.1 a1) (hL.1.1.1.1 100 _ rfl) (QC.qt hL (fun _ => rfl)) (QC.xt hL c1n (fun _ => ⟨rfl, rfl, rfl, rfl, rfl, rfl⟩))) (fun M1 hS _ e => ?_)
  have c := c12_cost G M1 hS (by rw [e]; exact hW.q) a1
  rw [e] at c
  refine ⟨_, fun h => ?_, c.pq e⟩
  exact if_pos (ifz h)
theorem op_least (hL : LI M) (a1 : Int32) : OPi G YL_least Y12_least [(0, 9, 12, 19), (0, 9, 15, 44)] 7 1 6 [.int a1] M := by
  have hW := hL.1.1.2.1
  refine OPi.mk (K := gI M 231) hL (w_least G a1 (c11_least G M hL.1.1 a1) (hL.1.1.1.1 100 _ rfl) (QC.qt hL (fun _ => rfl)) (QC.xt hL c2n (fun _ => ⟨rfl, rfl, rfl, rfl, rfl, rfl⟩))) (fun M1 hS _ e => ?_)
  have c := c12_least G M1 hS (by rw [e]; exact hW.q) a1
  rw [e] at c
  refine ⟨_, fun h => ?_, c.pq e⟩
  exact if_pos h
theorem op_blind (hL : LI M) (a1 : Int32) : OPi G YL_blind Y12_blind [(0, 9, 12, 19), (0, 9, 15, 44)] 7 1 6 [.int a1] M := by
  have hW := hL.1.1.2.1
  refine OPi.mk (K := gI M 231) hL (w_blind G a1 (c11_blind G M hL.1.1 a1) (hL.1.1.1.1 100 _ rfl) (QC.qt hL (fun _ => rfl)) (QC.xt hL c2n (fun _ => ⟨rfl, rfl, rfl, rfl, rfl, rfl⟩))) (fun M1 hS _ e => ?_)
  have c := c12_blind G M1 hS (by rw [e]; exact hW.q) a1
  rw [e] at c
  refine ⟨_, fun h => ?_, c.pq e⟩
  exact if_pos h
theorem op_sure (hL : LI M) (a1 : Int32) : OPi G YL_sure Y12_sure [(0, 9, 12, 19), (0, 9, 15, 44)] 7 1 6 [.int a1] M := by
  have hW := hL.1.1.2.1
  refine OPi.mk (K := gI M 231) hL (w_sure G a1 (c11_sure G M hL.1.1 a1) (hL.1.1.1.1 100 _ rfl) (QC.qt hL (fun _ => rfl)) (QC.xt hL c2n (fun _ => ⟨rfl, rfl, rfl, rfl, rfl, rfl⟩))) (fun M1 hS _ e => ?_)
  have c := c12_sure G M1 hS (by rw [e]; exact hW.q) a1
  rw [e] at c
  refine ⟨_, fun h => ?_, c.pq e⟩
  exact if_pos h
theorem op_price (hL : LI M) (a1 : Int32) : OPi G YL_price Y12_price [(0, 9, 12, 19), (0, 9, 15, 44)] 7 1 6 [.int a1] M := by
  have hW := hL.1.1.2.1
  refine OPi.mk (K := gI M 231) hL (w_price G a1 (c11_price G M hL.1.1 a1) (hL.1.1.1.1 100 _ rfl) (QC.qt hL (fun _ => rfl)) (QC.xt hL c2n (fun _ => ⟨rfl, rfl, rfl, rfl, rfl, rfl⟩))) (fun M1 hS _ e => ?_)
  have c := c12_price G M1 hS (by rw [e]; exact hW.q) a1
  rw [e] at c
  refine ⟨_, fun h => ?_, c.pq e⟩
  exact if_pos h
theorem op_ways (hL : LI M) (a1 : Int32) : OPi G YL_ways Y12_ways [(0, 9, 12, 19), (0, 9, 15, 44)] 7 1 6 [.int a1] M := by
  have hW := hL.1.1.2.1
  refine OPi.mk (K := gI M 231) hL (w_ways G a1 (c11_ways G M hL.1.1 a1) (hL.1.1.1.1 100 _ rfl) (QC.qt hL (fun _ => rfl)) (QC.xt hL c2n (fun _ => ⟨rfl, rfl, rfl, rfl, rfl, rfl⟩))) (fun M1 hS _ e => ?_)
  have c := c12_ways G M1 hS (by rw [e]; exact hW.q) a1
  rw [e] at c
  refine ⟨_, fun h => ?_, c.pq e⟩
  exact if_pos h
theorem op_greedy (hL : LI M) (a1 : Int32) : OPi G YL_greedy Y12_greedy [(0, 9, 12, 19), (0, 9, 15, 44)] 7 1 6 [.int a1] M := by
  have hW := hL.1.1.2.1
  refine OPi.mk (K := gI M 231) hL (w_greedy G a1 (c11_greedy G M hL.1.1 a1) (hL.1.1.1.1 100 _ rfl) (QC.qt hL (fun _ => rfl)) (QC.xt hL c2n (fun _ => ⟨rfl, rfl, rfl, rfl, rfl, rfl⟩))) (fun M1 hS _ e => ?_)
  have c := c12_greedy G M1 hS (by rw [e]; exact hW.q) a1
  rw [e] at c
  refine ⟨_, fun h => ?_, c.pq e⟩
  exact if_pos h
theorem op_rank (hL : LI M) (a1 : Int32) : OPi G YL_rank Y12_rank [(0, 9, 12, 13)] 7 1 6 [.int a1] M := by
  have hW := hL.1.1.2.1
  refine OPi.mk (K := gI M 231) hL (w_rank G a1 (c11_rank G M hL.1.1 a1) (hL.1.1.1.1 100 _ rfl) (QC.qt hL (fun _ => rfl)) (QC.xt hL c1n (fun _ => ⟨rfl, rfl, rfl, rfl, rfl, rfl⟩))) (fun M1 hS _ e => ?_)
  have c := c12_rank G M1 hS (by rw [e]; exact hW.q) a1
  rw [e] at c
  refine ⟨_, fun h => ?_, c.pq e⟩
  exact if_pos (ifz h)
theorem op_shorter (hL : LI M) (a1 : Int32) : OPi G YL_shorter Y12_shorter [(0, 9, 12, 13)] 7 1 6 [.int a1] M := by
  have hW := hL.1.1.2.1
  refine OPi.mk (K := gI M 231) hL (w_shorter G a1 (c11_shorter G M hL.1.1 a1) (hL.1.1.1.1 100 _ rfl) (QC.qt hL (fun _ => rfl)) (QC.xt hL c1n (fun _ => ⟨rfl, rfl, rfl, rfl, rfl, rfl⟩))) (fun M1 hS _ e => ?_)
  have c := c12_shorter G M1 hS (by rw [e]; exact hW.q) a1
  rw [e] at c
  refine ⟨_, fun h => ?_, c.pq e⟩
  exact if_pos (ifz h)
theorem op_hardened (hL : LI M) (a1 a2 : Int32) : OPi G YL_hardened Y12_hardened [(0, 10, 13, 19), (0, 10, 17, 44), (0, 10, 21, 13)] 7 1 6 [.int a1, .int a2] M := by
  have hW := hL.1.1.2.1
  refine OPi.mk (K := gI M 231) hL (w_hardened G a1 a2 (c11_hardened G M hL.1.1 a1 a2) (hL.1.1.1.1 100 _ rfl) (QC.qt hL (fun _ => rfl)) (QC.xt hL c3n (fun _ => ⟨rfl, rfl, rfl, rfl, rfl, rfl⟩))) (fun M1 hS _ e => ?_)
  have c := c12_hardened G M1 hS (by rw [e]; exact hW.q) a1 a2
  rw [e] at c
  refine ⟨_, fun h => ?_, c.pd⟩
  exact if_pos h
theorem op_asking (hL : LI M) (a1 : Int32) : OPi G YL_asking Y12_asking [(0, 9, 12, 13)] 32 1 6 [.int a1] M := by
  have hW := hL.1.1.2.1
  refine OPi.mk (K := gI M 231) hL (w_asking G a1 (c11_asking G M hL.1.1 a1) (hL.1.1.1.1 100 _ rfl) (QC.qt hL (fun _ => rfl)) (QC.xt hL c1n (fun _ => ⟨rfl, rfl, rfl, rfl, rfl, rfl⟩))) (fun M1 hS _ e => ?_)
  have c := c12_asking G M1 hS (by rw [e]; exact hW.q) a1
  rw [e] at c
  refine ⟨_, fun h => ?_, c.pq e⟩
  exact if_pos (ifz h)
theorem op_fresh (hL : LI M) (a1 a2 : Int32) : OPi G YL_fresh Y12_fresh [(0, 10, 13, 19), (0, 10, 17, 13)] 13 1 6 [.int a1, .int a2] M := by
  have hW := hL.1.1.2.1
  refine OPi.mk (K := gI M 231) hL (w_fresh G a1 a2 (c11_fresh G M hL.1.1 a1 a2) (hL.1.1.1.1 100 _ rfl) (QC.qt hL (fun _ => rfl)) (QC.xt hL c2n (fun _ => ⟨rfl, rfl, rfl, rfl, rfl, rfl⟩))) (fun M1 hS _ e => ?_)
  have c := c12_fresh G M1 hS (by rw [e]; exact hW.q) a1 a2
  rw [e] at c
  refine ⟨_, fun h => ?_, c.pq e⟩
  exact if_pos h
theorem op_nearest (hL : LI M) (a1 : Int32) : OPi G YL_nearest Y12_nearest [(0, 9, 12, 19)] 7 1 6 [.int a1] M := by
  have hW := hL.1.1.2.1
  refine OPi.mk (K := gI M 231) hL (w_nearest G a1 (c11_nearest G M hL.1.1 a1) (hL.1.1.1.1 100 _ rfl) (QC.qt hL (fun _ => rfl)) (QC.xt hL c1n (fun _ => ⟨rfl, rfl, rfl, rfl, rfl, rfl⟩))) (fun M1 hS _ e => ?_)
  have c := c12_nearest G M1 hS (by rw [e]; exact hW.q) a1
  rw [e] at c
  refine ⟨_, fun h => ?_, c.pq e⟩
  exact if_pos (ifz h)
theorem op_common (hL : LI M) (a1 : Int32) : OPi G YL_common Y12_common [(0, 9, 12, 13)] 7 1 6 [.int a1] M := by
  have hW := hL.1.1.2.1
  refine OPi.mk (K := gI M 231) hL (w_common G a1 (c11_common G M hL.1.1 a1) (hL.1.1.1.1 100 _ rfl) (QC.qt hL (fun _ => rfl)) (QC.xt hL c1n (fun _ => ⟨rfl, rfl, rfl, rfl, rfl, rfl⟩))) (fun M1 hS _ e => ?_)
  have c := c12_common G M1 hS (by rw [e]; exact hW.q) a1
  rw [e] at c
  refine ⟨_, fun h => ?_, c.pq e⟩
  exact if_pos h
theorem op_person (hL : LI M) (a1 a2 : Int32) : OPi G YL_person Y12_person [(0, 10, 13, 19), (0, 10, 17, 13)] 2 1 6 [.int a1, .int a2] M := by
  have hW := hL.1.1.2.1
  refine OPi.mk (K := gI M 231) hL (w_person G a1 a2 (c11_person G M hL.1.1 a1 a2) (hL.1.1.1.1 100 _ rfl) (QC.qt hL (fun _ => rfl)) (QC.xt hL c2n (fun _ => ⟨rfl, rfl, rfl, rfl, rfl, rfl⟩))) (fun M1 hS _ e => ?_)
  have c := c12_person G M1 hS (by rw [e]; exact hW) a1 a2
  rw [e] at c
  refine ⟨_, fun h => ?_, c.pq e⟩
  exact if_pos h
theorem op_carry (hL : LI M) (a1 : Int32) : OPi G YL_carry Y12_carry [(0, 9, 12, 19)] 4 1 6 [.int a1] M := by
  have hW := hL.1.1.2.1
  refine OPi.mk (K := cryK (gI M 231) a1) hL (w_carry G a1 (c11_carry G M hL.1.1 a1) (hL.1.1.1.1 100 _ rfl) (QC.qt hL (fun _ => rfl)) (QC.xt hL c1n (fun h => ⟨if_neg (ifn h), rfl, rfl, rfl, rfl, rfl⟩))) (fun M1 hS _ e => ?_)
  have c := c12_carry G M1 hS (by rw [e]; exact hW) a1
  rw [e] at c
  refine ⟨_, fun h => ?_, c.pd⟩
  exact if_pos (ifz h)
theorem op_change (hL : LI M) (a1 a2 a3 : Int32) : OPi G YL_change Y12_change [(0, 12, 15, 19), (0, 12, 19, 13)] 2 1 6 [.int a1, .int a2, .int a3] M := by
  have hW := hL.1.1.2.1
  refine OPi.mk (K := chgK (gI M 231) a1 a2 a3) hL (w_change G a1 a2 a3 (c11_change G M hL.1.1 a1 a2 a3) (hL.1.1.1.1 100 _ rfl) (QC.qt hL (fun _ => rfl)) (QC.xt hL c2n (fun h => ⟨if_neg h, rfl, rfl, rfl, rfl, rfl⟩))) (fun M1 hS _ e => ?_)
  have c := c12_change G M1 hS (by rw [e]; exact hW) a1 a2 a3
  rw [e] at c
  refine ⟨_, fun h => ?_, c.pd⟩
  exact if_pos h
theorem op_stake (hL : LI M) (a1 : Int32) : OPi G YL_stake Y12_stake [(0, 9, 12, 19), (0, 9, 15, 44)] 3 1 6 [.int a1] M := by
  have hW := hL.1.1.2.1
  refine OPi.mk (K := tStk (gI M 231) a1) hL (w_stake G a1 (c11_stake G M hL.1.1 a1) (hL.1.1.1.1 100 _ rfl) (QC.qt hL (fun _ => rfl)) (QC.xt hL c2n (fun h => ⟨if_neg h, rfl, rfl, rfl, rfl, rfl⟩))) (fun M1 hS _ e => ?_)
  have c := c12_stake G M1 hS (by rw [e]; exact hW) a1
  rw [e] at c
  refine ⟨_, fun h => ?_, c.pd⟩
  exact if_pos h
theorem op_claim (hL : LI M) (a1 a2 : Int32) : OPi G YL_claim Y12_claim [(0, 10, 13, 19), (0, 10, 17, 44), (0, 10, 21, 13)] 7 1 6 [.int a1, .int a2] M := by
  have hW := hL.1.1.2.1
  refine OPi.mk (K := clmK (gI M 231) a1 a2) hL (w_claim G a1 a2 (c11_claim G M hL.1.1 a1 a2) (hL.1.1.1.1 100 _ rfl) (QC.qt hL (fun _ => rfl)) (QC.xt hL c3n (fun h => ⟨if_neg h, rfl, rfl, rfl, rfl, rfl⟩))) (fun M1 hS _ e => ?_)
  have c := c12_claim G M1 hS (by rw [e]; exact hW) a1 a2
  rw [e] at c
  refine ⟨_, fun h => ?_, c.pd⟩
  exact if_pos h
theorem op_undo (hL : LI M) (a1 : Int32) : OPi G YL_undo Y12_undo [(0, 9, 12, 13)] 1 1 6 [.int a1] M := by
  have hW := hL.1.1.2.1
  refine OPi.mk (K := if okUb (gI M 231) a1 = true then undK (gI M 231) a1.toNatClampNeg else gI M 231) hL (w_undo G a1 (c11_undo G M hL.1.1 a1) (hL.1.1.1.1 100 _ rfl) (QC.qt hL (fun h => (if_pos (ifz h)).symm)) (QC.xt hL c1n (fun h => ⟨if_neg (ifn h), rfl, rfl, rfl, rfl, rfl⟩))) (fun M1 hS _ e => ?_)
  have c := c12_undo G M1 hS (by rw [e]; exact hW) a1
  rw [e] at c
  refine ⟨_, fun h => ?_, c.pd⟩
  exact if_pos (ifz h)
theorem op_settle (hL : LI M) : OPi G YL_settle Y12_settle [(0, 8, 11, 44)] 9 1 6 [] M := by
  have hW := hL.1.1.2.1
  refine OPi.mk (K := if gI M 231 96 = -1 then gI M 231 else setK (kepK (gI M 231))) hL (w_settle G (c11_settle G M hL.1.1) (hL.1.1.1.1 100 _ rfl) (QC.qt hL (fun h => (if_neg (ify h)).symm)) (QC.xt hL c1n (fun h => ⟨if_pos (ifw h), rfl, rfl, rfl, rfl, rfl⟩))) (fun M1 hS _ e => ?_)
  have c := c12_settle G M1 hS (by rw [e]; exact hW)
  rw [e] at c
  refine ⟨_, fun h => ?_, c.pd⟩
  exact if_neg (ify h)
theorem op_night (hL : LI M) (a1 a2 : Int32) : OPi G YL_night Y12_night [(0, 10, 13, 13), (0, 10, 17, 44)] 10 1 6 [.int a1, .int a2] M := by
  have hW := hL.1.1.2.1
  refine OPi.mk (K := if tNt (gI M 231) a2 = 0 then ntF (kn (gI M 231) 2) (kn (gI M 231) 1) a2.toNatClampNeg a1 (gI M 231) else gI M 231) hL (w_night G a1 a2 (c11_night G M hL.1.1 a1 a2) (hL.1.1.1.1 100 _ rfl) (QC.qt hL (fun h => (if_pos h).symm)) (QC.xt hL c2n (fun h => ⟨if_neg h, rfl, rfl, rfl, rfl, rfl⟩))) (fun M1 hS _ e => ?_)
  have c := c12_night G M1 hS (by rw [e]; exact hW) a1 a2
  rw [e] at c
  refine ⟨_, fun h => ?_, c⟩
  exact if_pos h
theorem op_differ (hL : LI M) (a1 a2 : Int32) : OPi G YL_differ Y12_differ [(0, 10, 13, 19)] 7 1 6 [.int a1, .int a2] M := by
  have hW := hL.1.1.2.1
  refine OPi.mk (K := gI M 231) hL (w_differ G a1 a2 (c11_differ G M hL.1.1 a1 a2) (hL.1.1.1.1 100 _ rfl) (QC.qt hL (fun _ => rfl)) (QC.xt hL c1n (fun _ => ⟨rfl, rfl, rfl, rfl, rfl, rfl⟩))) (fun M1 hS _ e => ?_)
  have c := c12_differ G M1 hS (by rw [e]; exact hW.q) a1 a2
  rw [e] at c
  refine ⟨_, fun h => ?_, c.pq e⟩
  exact if_pos (ifz h)
end PAIRS
