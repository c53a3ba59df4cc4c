/-! ===== the class: a text read, from its first instruction on ===== -/
theorem tQ_lt {q : Nat} {sh : Nat ⊕ (Nat × Nat)} (hq : tQ q = some sh) : q < 248 := by
  apply Classical.byContradiction
  intro hn
  have e1 : ∀ a, a ≤ 248 → Nat.blt q a = false := fun a ha => Bool.eq_false_iff.mpr (fun z => by have := Nat.le_of_ble_eq_true z; omega)
  have e2 : ∀ a, a < 248 → Nat.beq q a = false := fun a ha => nbeq_f (by omega)
  have : tQ q = none := by
    unfold tQ
    simp (disch := decide) only [e1, e2, cond_false]
  rw [this] at hq
  cases hq
theorem rQ_lt {q k a : Nat} (hq : rQ q k = some a) : q < 248 := by
  apply Classical.byContradiction
  intro hn
  have e1 : ∀ a, a ≤ 248 → Nat.blt q a = false := fun a ha => Bool.eq_false_iff.mpr (fun z => by have := Nat.le_of_ble_eq_true z; omega)
  have e2 : ∀ a, a < 248 → Nat.beq q a = false := fun a ha => nbeq_f (by omega)
  have : rQ q k = none := by
    unfold rQ
    simp (disch := decide) only [e1, e2, cond_false]
  rw [this] at hq
  cases hq
theorem rQ_no {q k : Nat} (h : 248 ≤ q) : rQ q k = none := by
  cases e : rQ q k with
  | none => rfl
  | some a => exact absurd (rQ_lt e) (by omega)
theorem Sh.nwM {M : mM} (h : Sh M) (h8 : 248 ≤ gz M) (sh : Nat ⊕ (Nat × Nat)) : Sh (nw M sh) :=
  ⟨fun q s hq => (nw_To (by have := tQ_lt hq; omega)).trans (h.1 q s hq), fun q k a hq => (nw_Ro (by have := rQ_lt hq; omega)).trans (h.2 q k a hq)⟩
theorem sh_rr {M : mM} (h : Sh M) {p k : Nat} (v : Option Nat) (hn : rQ p k = none) : Sh (sR M p k v) := ⟨fun q s hq => h.1 q s hq, fun q j a hq => by
  have e : ¬ (q = p ∧ j = k) := fun z => by rw [z.1, z.2, hn] at hq; cases hq
  rw [gR_sR]
  unfold up2
  rw [if_neg e]
  exact h.2 q j a hq⟩
theorem V.up {G : mG} {y : mY} {D kc ks kc' ks' : Nat} {Q : Option Value → mM → Prop} {X : String → mM → Prop} {pc : Nat} {ls : List (Option Value)} {st : List Value} {M : mM} (h : V G y D kc ks Q X pc ls st M) (h1 : kc ≤ kc') (h2 : ks ≤ ks') : V G y D kc' ks' Q X pc ls st M := by
  intro p l e s m args below meth c H locs cells slots mc ms lr E hl hR hf hc hs
  exact h p l e s m args below meth c H locs cells slots mc ms lr E hl hR hf (by omega) (by omega)
/-- the memory as it was, but for the parser's cells; eight new cells -/
def OlM (M M0 : mM) : Prop := gz M0 = gz M + 8 ∧ (∀ q, q < gz M → gT M0 q = gT M q) ∧ ∀ q, q < gz M → ¬ (102 ≤ q ∧ q ≤ 106) → gI M0 q = gI M q ∧ (∀ k, gJ M0 q k = gJ M q k) ∧ ∀ k, gR M0 q k = gR M q k
section CQ
variable (G : mG) (M : mM)
theorem c3_read {Z : (Nat → Nat) × Nat} (K : Nat → Int32) (hS : Sh M) (h8 : 248 ≤ gz M) (h9 : Z.2 ≤ 900) (hb : ∀ j, j < Z.2 → gI M 101 j = sb (Z.1 j) ∧ Z.1 j < 256) : Ct G Y3_read 18 8 1023 [.ref 102, .ref 101, .int (nI Z.2)] M (fun v M' => v = some (if (hlS Z K).1 = 0 then .ref (gz M) else .null) ∧ ∃ N M0, OlM M M0 ∧ PM M0 (gz M) N ∧ CS (gz M) N Z M0 false 0 0 (hlS Z K) M') NX := by
  have hS' := hS
  refine Ct.of k3_read.1 (Nat.le_of_ble_eq_true rfl) ?_
  refine v_aload_n dX3_read_0 rfl ?_
  refine v_iconst 0 dX3_read_1 (by decide) ?_
  refine v_putI 3 3 dX3_read_2 f3_29 (by first | exact hS'.1 _ _ rfl | assumption) (by decide) ?_
  refine v_aload_n dX3_read_5 rfl ?_
  refine v_iconst (-1) dX3_read_6 (by decide) ?_
  refine v_putI 3 4 dX3_read_7 f3_25 (by first | exact hS'.1 _ _ rfl | assumption) (by decide) ?_
  refine v_aload_n dX3_read_10 rfl ?_
  refine v_iconst 0 dX3_read_11 (by decide) ?_
  refine v_putI 3 1 dX3_read_12 f3_32 (by first | exact hS'.1 _ _ rfl | assumption) (by decide) ?_
  refine v_aload_n dX3_read_15 rfl ?_
  skip
  obtain ⟨M0, e0⟩ : ∃ M0, M0 = sI (sI (sI M 102 3 0) 102 4 (-1)) 102 1 0 := ⟨_, rfl⟩
  rw [← e0]
  have z0 : gz M0 = gz M := by rw [e0]; rfl
  have hS0 : Sh M0 := by rw [e0]; exact ⟨fun q sh hq => hS.1 q sh hq, fun q k a hq => hS.2 q k a hq⟩
  have i0 : ∀ q, q ≠ 102 → gI M0 q = gI M q := fun q hq => by rw [e0, gI_sr _ _ hq, gI_sr _ _ hq, gI_sr _ _ hq]
  have f3 : gI M0 102 3 = 0 := by rw [e0, gI_sk _ _ (by decide), gI_sk _ _ (by decide), gI_ss]
  have f4 : gI M0 102 4 = -1 := by rw [e0, gI_sk _ _ (by decide), gI_ss]
  have f1 : gI M0 102 1 = 0 := by rw [e0, gI_ss]
  have t0 : gT M0 = gT M := by rw [e0]; rfl
  have j0 : gJ M0 = gJ M := by rw [e0]; rfl
  have r0 : gR M0 = gR M := by rw [e0]; rfl
  clear e0
  rw [← z0]
  rw [← z0] at h8
  refine v_new (kc := 7) (ks := 1006) 4 dX3_read_16 (by decide) ⟨c3_18, I_4, N_4⟩ ?_
  obtain ⟨iz, itl, itp, it1, it2, it3, it4, it6⟩ := iniP_T M0
  have hSi : Sh (iniP (nw M0 (.inl 4)) (gz M0)) := ⟨fun q sh hq => (itl q (by have := tQ_lt hq; omega)).trans (hS0.1 q sh hq), fun q k a hq => (iniP_Rl M0 (by have := rQ_lt hq; omega)).trans (hS0.2 q k a hq)⟩
  refine v_dup dX3_read_19 rfl ?_
  refine v_cIN [] (c4_init G (nw M0 (.inl 4)) (p := gz M0) (nw_T _ _) (Nat.lt_succ_self _)) k4_init dX3_read_20 n3_20 rfl (Nat.le_of_ble_eq_true rfl) (Nat.le_of_ble_eq_true rfl) ?_
  refine v_putR 3 2 dX3_read_23 f3_21 (hSi.1 _ _ rfl) (by decide) (by decide) ?_
  skip
  obtain ⟨M1, e1⟩ : ∃ M1, M1 = iniP (nw M0 (.inl 4)) (gz M0) := ⟨_, rfl⟩
  obtain ⟨M2, e2⟩ : ∃ M2, M2 = sR M1 102 2 (some (gz M0)) := ⟨_, rfl⟩
  have iI := fun q (hq : q < gz M0) => iniP_Il M0 hq
  have iIp := iniP_Ip M0
  have iI2 := iniP_I2 M0
  have iI3 := iniP_I3 M0
  have iJl := fun q k (hq : q < gz M0) => iniP_Jl M0 (q := q) (k := k) hq
  have iJp := iniP_Jp M0
  have iRl := fun q k (hq : q < gz M0) => iniP_Rl M0 (q := q) (k := k) hq
  have iR10 := iniP_R10 M0
  have iR11 := iniP_R11 M0
  have iR12 := iniP_R12 M0
  have iR13 := iniP_R13 M0
  have iR15 := iniP_R15 M0
  rw [← e1] at iz itl itp it1 it2 it3 it4 it6 hSi iI iIp iI2 iI3 iJl iJp iRl iR10 iR11 iR12 iR13 iR15 ⊢
  rw [← e2]
  clear e1
  have hS2 : Sh M2 := by rw [e2]; exact sh_rr hSi _ rfl
  have hS' := hS2
  have b2 : ∀ j, j < Z.2 → gI M2 101 j = sb (Z.1 j) ∧ Z.1 j < 256 := fun j hj => by
    rw [e2, gI_sR, iI 101 (by omega), i0 101 (by decide)]
    exact hb j hj
  have h22 : gR M2 102 2 = some (gz M0) := by rw [e2]; exact gR_ss _ _ _ _
  refine v_aload_n dX3_read_26 rfl ?_
  refine v_getR 3 0 _ dX3_read_27 f3_12 (by first | exact hS'.1 _ _ rfl | assumption) (by decide) (by first | exact hS'.2 _ _ _ rfl | assumption) ?_
  refine v_aload_n dX3_read_30 rfl ?_
  refine v_iload_n dX3_read_31 rfl ?_
  refine v_scVv [_, _] (c9_open G M2 (Z := Z) hS2 h9 b2) k9_open dX3_read_32 l3_35 (by first | exact hS'.1 _ _ rfl | assumption) (by decide) rfl (Nat.le_of_ble_eq_true rfl) (Nat.le_of_ble_eq_true rfl) ?_
  intro M3 hM3; obtain ⟨e3, N, hTS⟩ := hM3
  skip
  have hS3 : Sh M3 := hS2.sn e3 Rop_q
  have hS' := hS3
  have z3 : gz M3 = gz M0 + 7 := e3.1.trans (by rw [e2]; exact iz)
  have r32 : gR M3 102 2 = some (gz M0) := (e3.2.2.2.1 102 2 rfl).trans h22
  have hN := hTS.1.2.1
  refine v_aload_n dX3_read_35 rfl ?_
  refine v_getR 3 2 _ dX3_read_36 f3_21 (by first | exact hS'.1 _ _ rfl | assumption) (by decide) r32 ?_
  refine v_aload_n dX3_read_39 rfl ?_
  refine v_getR 3 0 _ dX3_read_40 f3_12 (by first | exact hS'.1 _ _ rfl | assumption) (by decide) (by first | exact hS'.2 _ _ _ rfl | assumption) ?_
  refine v_getI 9 7 dX3_read_43 f3_39 (by first | exact hS'.1 _ _ rfl | assumption) (by decide) ?_
  skip
  have hx : ¬ nI (N + 1) < 0 ∧ (nI (N + 1)).toNatClampNeg = N + 1 ∧ N + 1 ≤ 60000 := ⟨nI_pos (by omega), nI_clamp (by omega), by omega⟩
  obtain ⟨n, en⟩ : ∃ n, n = N + 1 := ⟨_, rfl⟩
  have hn9 : n ≤ 901 := by omega
  rw [← en] at hx
  rw [hTS.1.1, ← en]
  refine V.up (kc := 0 + 1) (ks := 0 + n) ?_ (by omega) (by omega)
  refine v_newa (kc := 0) (ks := 0) (t := 0) (N := n) dX3_read_46 ⟨rfl, by decide⟩ A_0 hx ?_
  have tp3 : gT M3 (gz M0) = .inl 4 := by rw [e3.2.1, e2]; exact itp
  refine v_putR 4 14 dX3_read_48 f3_42 ((nw_To (by omega)).trans tp3) (by decide) (by decide) ?_
  skip
  obtain ⟨M4, e4⟩ : ∃ M4, M4 = nw M3 (.inr (0, n)) := ⟨_, rfl⟩
  obtain ⟨M5, e5⟩ : ∃ M5, M5 = sR M4 (gz M0) 14 (some (gz M3)) := ⟨_, rfl⟩
  rw [← e4, ← e5]
  have z5 : gz M5 = gz M0 + 8 := by rw [e5, e4]; show gz M3 + 1 = _; omega
  have hS5 : Sh M5 := by
    rw [e5, e4]
    exact sh_rr (hS3.nwM (by omega) _) _ (rQ_no (by omega))
  have q3 : ∀ q, q < gz M0 + 7 → gI M5 q = gI M3 q := fun q hq => funext (fun k => by
    rw [e5, gI_sR, e4]
    exact nw_Io (by omega))
  have j3 : ∀ q k, q < gz M0 + 7 → gJ M5 q k = gJ M3 q k := fun q k hq => by
    rw [e5, gJ_sR, e4]
    exact nw_Jo (by omega)
  have t3 : ∀ q, q < gz M0 + 7 → gT M5 q = gT M3 q := fun q hq => by
    rw [e5, gT_sR, e4]
    exact nw_To (by omega)
  have r3 : ∀ q k, q < gz M0 + 7 → ¬ (q = gz M0 ∧ k = 14) → gR M5 q k = gR M3 q k := fun q k hq hn => by
    rw [e5, gR_sR]
    unfold up2
    rw [if_neg hn, e4]
    exact nw_Ro (by omega)
  have wp : ∀ q k, q ≠ 103 → q ≠ 105 → q ≠ 106 → Wpn q k = false := fun q k a b c => by
    unfold Wpn
    rw [nbeq_f a, nbeq_f b, nbeq_f c]
    rfl
  have rp : ∀ q k, q ≠ 103 → q ≠ 104 → Rop q k = false := fun q k a b => by
    unfold Rop
    rw [nbeq_f a, nbeq_f b]
    rfl
  have qi : ∀ q, q < gz M0 + 7 → q ≠ 103 → q ≠ 105 → q ≠ 106 → gI M5 q = gI M1 q := fun q hq a b c => (q3 q hq).trans (funext (fun k => (e3.2.2.2.2 q k (wp q k a b c)).trans (by rw [e2, gI_sR])))
  have ji : ∀ q k, q < gz M0 + 7 → gJ M5 q k = gJ M1 q k := fun q k hq => (j3 q k hq).trans (by rw [e3.2.2.1, e2, gJ_sR])
  have ti : ∀ q, q < gz M0 + 7 → gT M5 q = gT M1 q := fun q hq => (t3 q hq).trans (by rw [e3.2.1, e2, gT_sR])
  have ri : ∀ q k, q < gz M0 + 7 → ¬ (q = gz M0 ∧ k = 14) → q ≠ 102 → q ≠ 103 → q ≠ 104 → gR M5 q k = gR M1 q k := fun q k hq hn a b c => (r3 q k hq hn).trans ((e3.2.2.2.1 q k (rp q k b c)).trans (by rw [e2]; exact gR_sq _ _ a))
  have hO : OlM M M5 := by
    refine ⟨by rw [z5, z0], fun q hq => ?_, fun q hq hn => ⟨?_, fun k => ?_, fun k => ?_⟩⟩
    · rw [← z0] at hq
      rw [ti q (by omega), itl q hq, t0]
    · rw [← z0] at hq
      rw [qi q (by omega) (by omega) (by omega) (by omega), iI q hq, i0 q (by omega)]
    · rw [← z0] at hq
      rw [ji q k (by omega), iJl q k hq, j0]
    · rw [← z0] at hq
      rw [ri q k (by omega) (by omega) (by omega) (by omega) (by omega), iRl q k hq, r0]
  have hSH : PlSh M5 (gz M0) (gz M0 + 7) (N + 1) := by
    refine ⟨(ti _ (by omega)).trans itp, (ti _ (by omega)).trans it1, (ti _ (by omega)).trans it2, (ti _ (by omega)).trans it3, (ti _ (by omega)).trans it4, (ti _ (by omega)).trans it6, ?_, ?_, ?_, ?_, ?_, ?_, ?_, by omega⟩
    · exact (ri _ _ (by omega) (by omega) (by omega) (by omega) (by omega)).trans iR10
    · exact (ri _ _ (by omega) (by omega) (by omega) (by omega) (by omega)).trans iR11
    · exact (ri _ _ (by omega) (by omega) (by omega) (by omega) (by omega)).trans iR12
    · exact (ri _ _ (by omega) (by omega) (by omega) (by omega) (by omega)).trans iR13
    · exact (ri _ _ (by omega) (by omega) (by omega) (by omega) (by omega)).trans iR15
    · rw [e5, gR_ss, z3]
    · rw [e5, gT_sR, e4, ← z3, ← en]; exact nw_T _ _
  have hPM : PM M5 (gz M0) N := ⟨hS5, hSH, h8, (r3 102 2 (by omega) (by omega)).trans r32, hN⟩
  have hTS5 : TS M5 Z N 0 := by
    obtain ⟨⟨a1, a2, a3, a4, a5⟩, d1, d2, d3, d4, d5⟩ := hTS
    exact ⟨⟨by rw [q3 103 (by omega)]; exact a1, a2, a3, a4, fun j hj => by rw [r3 104 j (by omega) (by omega), q3 105 (by omega), q3 106 (by omega)]; exact a5 j hj⟩, by rw [q3 103 (by omega)]; exact d1, d2, by rw [r3 103 8 (by omega) (by omega)]; exact d3, by rw [q3 103 (by omega)]; exact d4, by rw [q3 103 (by omega)]; exact d5⟩
  have e102 : gI M5 102 = gI M0 102 := (qi 102 (by omega) (by decide) (by decide) (by decide)).trans (iI 102 (by omega))
  have hCS : CS (gz M0) N Z M5 false 0 0 (0, 0, 0, bgK K) M5 := CS_start K (by rw [e102]; exact f3) (by rw [e102]; exact f4) (by rw [e102]; exact f1) (fun k => by rw [qi _ (by omega) (by omega) (by omega) (by omega)]; exact iIp k) (fun k => by rw [qi _ (by omega) (by omega) (by omega) (by omega)]; exact iI2 k) (fun k => by rw [qi _ (by omega) (by omega) (by omega) (by omega)]; exact iI3 k) (by rw [ji _ _ (by omega)]; exact iJp 16) hTS5
  exact (l3_read0 G hPM h9 hCS).post (fun v M' h => ⟨h.1, N, M5, hO, hPM, h.2⟩) (fun _ _ h => h)
end CQ
