/-! ===== the class's parser: readAtom ===== -/
theorem CS.rb {p N : Nat} {Z : (Nat → Nat) × Nat} {M0 M : mM} {b : Bool} {rb rl rb' rl' : Nat} {R : RSt} (h0 : R.1 ≠ 0) (h : CS p N Z M0 b rb rl R M) : CS p N Z M0 b rb' rl' R M := by
  obtain ⟨h1, h2, h3, h4, h5, h6⟩ := h
  exact ⟨h1, h2, h3, h4, h5, fun z => absurd z h0⟩
section CA
variable (G : mG) (M : mM)
theorem c3_emitZ {p N s : Nat} {Z : (Nat → Nat) × Nat} {M0 : mM} {b : Bool} {rb rl : Nat} {R : RSt} {x y : Int32} (hM : PM M0 p N) (h : CS p N Z M0 b rb rl R M) (hI : IV Z R) (hc : R.1 = 0 → kn R.2.2.2 7 < R.2.2.1) (hK : KI R.2.2.2) (hs : s < 2000) (hv : x <<< ((10 : Int32) &&& 31) ||| y = nI (encS s)) (hrb : R.1 = 0 → rdb (kn R.2.2.2 1) s = rb) (hrl : R.1 = 0 → rdl (kn R.2.2.2 1) s = rl) : Ct G Y3_emit 0 0 0 [.ref 102, .int x, .int y] M (Rs none (CS p N Z M0 b 0 0 (rly (nI s) R))) NX := by
  have hc := c3_emit G M hM h hI.2.2.1 hc hK hI.2.2.2.2.1.2.2 hs hv hrb hrl
  by_cases h0 : R.1 = 0
  · rw [if_pos h0, if_pos h0] at hc; exact hc
  · refine hc.post (fun _ _ q => ⟨q.1, CS.rb (by rw [rly, if_neg h0]; exact h0) q.2⟩) (fun _ _ z => z)
theorem c3_stT {p N k : Nat} {Z : (Nat → Nat) × Nat} {M0 : mM} {b : Bool} {rb rl : Nat} {R : RSt} (hM : PM M0 p N) (h : CS p N Z M0 b rb rl R M) (hk : k < 33) (h0 : rIs Z k R) : Ct G Y3_stands 0 0 0 [.ref 102, .ref k] M (Rv (some (.int 1)) M) NX := by
  have hc := c3_stands G M (k := k) hM h hk
  rw [bI_t h0] at hc
  exact hc
theorem c3_stF {p N k : Nat} {Z : (Nat → Nat) × Nat} {M0 : mM} {b : Bool} {rb rl : Nat} {R : RSt} (hM : PM M0 p N) (h : CS p N Z M0 b rb rl R M) (hk : k < 33) (h0 : ¬ rIs Z k R) : Ct G Y3_stands 0 0 0 [.ref 102, .ref k] M (Rv (some (.int 0)) M) NX := by
  have hc := c3_stands G M (k := k) hM h hk
  rw [bI_f h0] at hc
  exact hc
theorem c3_tkT {p N k : Nat} {Z : (Nat → Nat) × Nat} {M0 : mM} {b : Bool} {rb rl : Nat} {R : RSt} (hM : PM M0 p N) (h : CS p N Z M0 b rb rl R M) (hk : k < 32) (h0 : rIs Z k R) : Ct G Y3_takeIf 1 0 0 [.ref 102, .ref k] M (Rs (some (.int 1)) (CS p N Z M0 b rb rl (rnx R))) NX := by
  have hc := c3_takeIf G M (k := k) hM h hk
  unfold rtk at hc
  rw [bI_t h0, if_pos h0] at hc
  exact hc
theorem c3_tkF {p N k : Nat} {Z : (Nat → Nat) × Nat} {M0 : mM} {b : Bool} {rb rl : Nat} {R : RSt} (hM : PM M0 p N) (h : CS p N Z M0 b rb rl R M) (hk : k < 33) (h0 : ¬ rIs Z k R) : Ct G Y3_takeIf 1 0 0 [.ref 102, .ref k] M (Rv (some (.int 0)) M) NX := by
  have hS' := (hM.sq h.1).1
  have hc := c3_stF G M (k := k) hM h hk h0
  refine Ct.of k3_takeIf.1 (Nat.le_of_ble_eq_true rfl) ?_
  refine v_aload_n dX3_takeIf_0 rfl ?_
  refine v_aload_n dX3_takeIf_1 rfl ?_
  refine v_cV [_] (hc) k3_stands dX3_takeIf_2 l3_72 (by first | exact hS'.1 _ _ rfl | assumption) (by decide) rfl (Nat.le_of_ble_eq_true rfl) (Nat.le_of_ble_eq_true rfl) ?_
  refine v_istore_n dX3_takeIf_5 rfl (by decide) ?_
  refine v_iload_n dX3_takeIf_6 rfl ?_
  refine v_if_eq 17 dX3_takeIf_7 (by decide) (fun h7 => ?_) (fun h7 => absurd rfl h7)
  refine v_iload_n dX3_takeIf_17 rfl ?_
  refine v_zret dX3_takeIf_18 rfl (by first | rfl | exact bI_nb _ | assumption) ?_
  exact ⟨rfl, rfl⟩
theorem c3_failB {p N : Nat} {Z : (Nat → Nat) × Nat} {M0 : mM} {b : Bool} {rb rl : Nat} {R : RSt} (hM : PM M0 p N) (h : CS p N Z M0 b rb rl R M) (hb : R.1 ≠ 0) (x : Int32) : Ct G Y3_fail 0 0 0 [.ref 102, .int x] M (Rv none M) NX := by
  have hS' := (hM.sq h.1).1
  refine Ct.of k3_fail.1 (Nat.le_of_ble_eq_true rfl) ?_
  refine v_aload_n dX3_fail_0 rfl ?_
  refine v_getI 3 3 dX3_fail_1 f3_29 (by first | exact hS'.1 _ _ rfl | assumption) (by decide) ?_
  refine v_if_ne 40 dX3_fail_4 (by decide) (fun h4 => ?_) (fun h4 => absurd (h.bad.2 hb) h4)
  refine v_vret dX3_fail_40 rfl ?_
  exact ⟨rfl, rfl⟩
theorem c3_atB {p N D0 : Nat} {Z : (Nat → Nat) × Nat} {M0 : mM} {b : Bool} {rb rl : Nat} {R : RSt} (hM : PM M0 p N) (h : CS p N Z M0 b rb rl R M) (hb : R.1 ≠ 0) (d : Int32) : Ct G Y3_readAtom (D0 + 2) 0 0 [.ref 102, .int d] M (Rv none M) NX := by
  have hS' := (hM.sq h.1).1
  have n : ∀ k, ¬ rIs Z k R := fun k z => hb z.1
  refine Ct.of k3_readAtom.1 (Nat.le_of_ble_eq_true rfl) ?_
  refine v_aload_n dX3_readAtom_0 rfl ?_
  refine v_gets (v := .ref 29) dX3_readAtom_1 g3_102 (kT_z G (i := 29) (by decide) rfl) ?_
  refine v_cV [_] (c3_stF G M (k := 29) hM h (by decide) (n 29)) k3_stands dX3_readAtom_4 l3_72 (by first | exact hS'.1 _ _ rfl | assumption) (by decide) rfl (by omega) (Nat.le_of_ble_eq_true rfl) ?_
  refine v_if_eq 26 dX3_readAtom_7 (by decide) (fun h7 => ?_) (fun h7 => absurd rfl h7)
  refine v_aload_n dX3_readAtom_26 rfl ?_
  refine v_gets (v := .ref 12) dX3_readAtom_27 g3_248 (kT_z G (i := 12) (by decide) rfl) ?_
  refine v_cV [_] (c3_tkF G M (k := 12) hM h (by decide) (n 12)) k3_takeIf dX3_readAtom_30 l3_132 (by first | exact hS'.1 _ _ rfl | assumption) (by decide) rfl (by omega) (Nat.le_of_ble_eq_true rfl) ?_
  refine v_if_eq 66 dX3_readAtom_33 (by decide) (fun h33 => ?_) (fun h33 => absurd rfl h33)
  refine v_aload_n dX3_readAtom_66 rfl ?_
  refine v_gets (v := .ref 13) dX3_readAtom_67 g3_254 (kT_z G (i := 13) (by decide) rfl) ?_
  refine v_cV [_] (c3_tkF G M (k := 13) hM h (by decide) (n 13)) k3_takeIf dX3_readAtom_70 l3_132 (by first | exact hS'.1 _ _ rfl | assumption) (by decide) rfl (by omega) (Nat.le_of_ble_eq_true rfl) ?_
  refine v_if_eq 105 dX3_readAtom_73 (by decide) (fun h73 => ?_) (fun h73 => absurd rfl h73)
  refine v_aload_n dX3_readAtom_105 rfl ?_
  refine v_gets (v := .ref 14) dX3_readAtom_106 g3_257 (kT_z G (i := 14) (by decide) rfl) ?_
  refine v_cV [_] (c3_tkF G M (k := 14) hM h (by decide) (n 14)) k3_takeIf dX3_readAtom_109 l3_132 (by first | exact hS'.1 _ _ rfl | assumption) (by decide) rfl (by omega) (Nat.le_of_ble_eq_true rfl) ?_
  refine v_if_eq 138 dX3_readAtom_112 (by decide) (fun h112 => ?_) (fun h112 => absurd rfl h112)
  refine v_aload_n dX3_readAtom_138 rfl ?_
  refine v_gets (v := .ref 15) dX3_readAtom_139 g3_260 (kT_z G (i := 15) (by decide) rfl) ?_
  refine v_cV [_] (c3_tkF G M (k := 15) hM h (by decide) (n 15)) k3_takeIf dX3_readAtom_142 l3_132 (by first | exact hS'.1 _ _ rfl | assumption) (by decide) rfl (by omega) (Nat.le_of_ble_eq_true rfl) ?_
  refine v_if_eq 171 dX3_readAtom_145 (by decide) (fun h145 => ?_) (fun h145 => absurd rfl h145)
  refine v_aload_n dX3_readAtom_171 rfl ?_
  refine v_gets (v := .ref 16) dX3_readAtom_172 g3_263 (kT_z G (i := 16) (by decide) rfl) ?_
  refine v_cV [_] (c3_tkF G M (k := 16) hM h (by decide) (n 16)) k3_takeIf dX3_readAtom_175 l3_132 (by first | exact hS'.1 _ _ rfl | assumption) (by decide) rfl (by omega) (Nat.le_of_ble_eq_true rfl) ?_
  refine v_if_eq 190 dX3_readAtom_178 (by decide) (fun h178 => ?_) (fun h178 => absurd rfl h178)
  refine v_aload_n dX3_readAtom_190 rfl ?_
  refine v_gets (v := .ref 22) dX3_readAtom_191 g3_266 (kT_z G (i := 22) (by decide) rfl) ?_
  refine v_cV [_] (c3_stF G M (k := 22) hM h (by decide) (n 22)) k3_stands dX3_readAtom_194 l3_72 (by first | exact hS'.1 _ _ rfl | assumption) (by decide) rfl (by omega) (Nat.le_of_ble_eq_true rfl) ?_
  refine v_if_ne 208 dX3_readAtom_197 (by decide) (fun h197 => absurd rfl h197) (fun h197 => ?_)
  refine v_aload_n dX3_readAtom_200 rfl ?_
  refine v_iconst 2 dX3_readAtom_201 (by decide) ?_
  refine v_cVv [_] (c3_failB G M hM h hb 2) k3_fail dX3_readAtom_202 l3_99 (by first | exact hS'.1 _ _ rfl | assumption) (by decide) rfl (by omega) (Nat.le_of_ble_eq_true rfl) ?_
  refine v_goto 230 dX3_readAtom_205 (by decide) ?_
  refine v_vret dX3_readAtom_230 rfl ?_
  exact ⟨rfl, rfl⟩
theorem c3_suB {p N D0 : Nat} {Z : (Nat → Nat) × Nat} {M0 : mM} {b : Bool} {rb rl : Nat} {R : RSt} (hM : PM M0 p N) (h : CS p N Z M0 b rb rl R M) (hb : R.1 ≠ 0) (d : Int32) : Ct G Y3_readSum (D0 + 3) 0 0 [.ref 102, .int d] M (Rv none M) NX := by
  have hS' := (hM.sq h.1).1
  have n : ∀ k, ¬ rIs Z k R := fun k z => hb z.1
  refine Ct.of k3_readSum.1 (Nat.le_of_ble_eq_true rfl) ?_
  refine v_iconst (-1) dX3_readSum_0 (by decide) ?_
  refine v_istore_n dX3_readSum_1 rfl (by decide) ?_
  refine v_aload_n dX3_readSum_2 rfl ?_
  refine v_iload_n dX3_readSum_3 rfl ?_
  refine v_cVv [_] (c3_atB (D0 := D0) G M hM h hb d) k3_readAtom dX3_readSum_4 l3_236 (by first | exact hS'.1 _ _ rfl | assumption) (by decide) rfl (by omega) (Nat.le_of_ble_eq_true rfl) ?_
  refine v_iconst 0 dX3_readSum_7 (by decide) ?_
  refine v_istore_n dX3_readSum_8 rfl (by decide) ?_
  refine v_iload_n dX3_readSum_9 rfl ?_
  refine v_sipush 900 dX3_readSum_10 (by decide) ?_
  refine v_icmp_ge 118 dX3_readSum_13 (by decide) (fun h13 => absurd h13 (by decide)) (fun h13 => ?_)
  refine v_aload_n dX3_readSum_16 rfl ?_
  refine v_gets (v := .ref 21) dX3_readSum_17 g3_239 (kT_z G (i := 21) (by decide) rfl) ?_
  refine v_cV [_] (c3_stF G M (k := 21) hM h (by decide) (n 21)) k3_stands dX3_readSum_20 l3_72 (by first | exact hS'.1 _ _ rfl | assumption) (by decide) rfl (by omega) (Nat.le_of_ble_eq_true rfl) ?_
  refine v_if_ne 46 dX3_readSum_23 (by decide) (fun h23 => absurd rfl h23) (fun h23 => ?_)
  refine v_aload_n dX3_readSum_26 rfl ?_
  refine v_gets (v := .ref 19) dX3_readSum_27 g3_242 (kT_z G (i := 19) (by decide) rfl) ?_
  refine v_cV [_] (c3_stF G M (k := 19) hM h (by decide) (n 19)) k3_stands dX3_readSum_30 l3_72 (by first | exact hS'.1 _ _ rfl | assumption) (by decide) rfl (by omega) (Nat.le_of_ble_eq_true rfl) ?_
  refine v_if_ne 46 dX3_readSum_33 (by decide) (fun h33 => absurd rfl h33) (fun h33 => ?_)
  refine v_aload_n dX3_readSum_36 rfl ?_
  refine v_gets (v := .ref 20) dX3_readSum_37 g3_245 (kT_z G (i := 20) (by decide) rfl) ?_
  refine v_cV [_] (c3_stF G M (k := 20) hM h (by decide) (n 20)) k3_stands dX3_readSum_40 l3_72 (by first | exact hS'.1 _ _ rfl | assumption) (by decide) rfl (by omega) (Nat.le_of_ble_eq_true rfl) ?_
  refine v_if_eq 118 dX3_readSum_43 (by decide) (fun h43 => ?_) (fun h43 => absurd rfl h43)
  refine v_iload_n dX3_readSum_118 rfl ?_
  refine v_iconst (-1) dX3_readSum_119 (by decide) ?_
  refine v_icmp_eq 129 dX3_readSum_120 (by decide) (fun h120 => ?_) (fun h120 => absurd rfl h120)
  refine v_vret dX3_readSum_129 rfl ?_
  exact ⟨rfl, rfl⟩
end CA
theorem enc_n {v : Nat} (h : v < 1000) : encS (1000 + v) = 0 * 1024 + v := by unfold encS; rw [if_pos (by omega)]; omega
theorem enc_m : ∀ m, m < 7 → encS (100 + m) = 1 * 1024 + m := by decide
theorem enc_h : ∀ m, m < 10 → encS (200 + m) = 2 * 1024 + m := by decide
theorem rdb_o {mk s : Nat} (h : s < 100 ∨ 301 < s) : rdb mk s = 0 ∧ rdl mk s = 0 := by
  unfold rdb rdl
  rw [if_neg (by omega), if_neg (by omega), if_neg (by omega), if_neg (by omega)]
  exact ⟨rfl, rfl⟩
theorem rdb_m {mk m : Nat} (h : m < 100) : rdb mk (100 + m) = bts m (m + 1 - m) ∧ rdl mk (100 + m) = m + 1 := by
  unfold rdb rdl
  rw [if_pos (by omega), if_pos (by omega), Nat.add_sub_cancel_left, Nat.add_sub_cancel_left]
  exact ⟨by simp [bts], rfl⟩
theorem rdb_a {mk s : Nat} (h : 200 ≤ s ∧ s ≤ 301) (hm : 1 ≤ mk ∧ mk ≤ 6) : rdb mk s = bts 0 (mk - 1 + 1 - 0) ∧ rdl mk s = mk - 1 + 1 := by
  unfold rdb rdl
  rw [if_neg (by omega), if_pos h, if_neg (by omega), if_pos h, show mk - 1 + 1 - 0 = mk by omega, bts_all mk (by omega)]
  exact ⟨rfl, by omega⟩
section CB
variable (G : mG)
theorem c3_atG {p N D0 : Nat} {Z : (Nat → Nat) × Nat} {M0 : mM} {dd : Int32} {inn : RSt → RSt} (hM : PM M0 p N) (hD : 2 ≤ D0) (hi : ∀ R M, CS p N Z M0 true 0 0 R M → IV Z R → KI R.2.2.2 → rIs Z 22 R → V G Y3_readAtom D0 0 0 (Rs none (CS p N Z M0 true 0 0 (inn R))) NX 208 [some (.ref 102), some (.int dd)] [] M) : ∀ R M, CS p N Z M0 true 0 0 R M → IV Z R → KI R.2.2.2 → Ct G Y3_readAtom D0 0 0 [.ref 102, .int dd] M (Rs none (CS p N Z M0 true 0 0 (ats Z inn R))) NX := by
  intro R M h hI hK
  have hPM := hM.sq h.1
  have hS' := hPM.1
  have hm := hI.2.2.2.2.1
  unfold ats
  by_cases h0 : R.1 = 0
  · rw [if_neg (Decidable.not_not.mpr h0)]
    have nx : kd Z R.2.2.1 ≠ 32 → gs Z 1 R (rnx R) := fun q => gs.nx hI q
    have hk7 := hI.2.2.2.1
    have mk1 : ∀ (S : RSt) M2 (b1 b2 : Nat), CS p N Z M0 true b1 b2 S M2 → kn S.2.2.2 1 = kn R.2.2.2 1 → gI M2 p 1 - 1 = nI (kn R.2.2.2 1 - 1) := fun S M2 b1 b2 hs he => by
      rw [hs.2.2.2.1, he]; exact nSub (b := 1) hm.2.1
    refine Ct.of k3_readAtom.1 (Nat.le_of_ble_eq_true rfl) ?_
    have n29 : ¬ kd Z R.2.2.1 = 29 → ¬ rIs Z 29 R := fun q z => q z.2
    by_cases k29 : kd Z R.2.2.1 = 29
    · rw [if_neg (by omega), if_neg (by omega), if_neg (by omega), if_neg (by omega), if_neg (by omega), if_neg (by omega)]
      have gn := gs.nu (lo := 0) (hi := 999) hI
      have hr := rnv_rng (Z := Z) (lo := 0) (hi := 999) (R := R) (by omega)
      have htn := c3_takeNumber G M (lo := 0) (hi := 999) hM h (by decide) (by decide)
      generalize rnv Z 0 999 R = v at hr htn ⊢
      refine v_aload_n dX3_readAtom_0 rfl ?_
      refine v_gets (v := .ref 29) dX3_readAtom_1 g3_102 (kT_z G (i := 29) (by decide) rfl) ?_
      refine v_cV [_] (c3_stT G M (k := 29) hM h (by decide) ⟨h0, k29⟩) k3_stands dX3_readAtom_4 l3_72 (by first | exact hS'.1 _ _ rfl | assumption) (by decide) rfl (by omega) (Nat.le_of_ble_eq_true rfl) ?_
      refine v_if_eq 26 dX3_readAtom_7 (by decide) (fun h7 => absurd h7 (by decide)) (fun h7 => ?_)
      refine v_aload_n dX3_readAtom_10 rfl ?_
      refine v_iconst 0 dX3_readAtom_11 (by decide) ?_
      refine v_aload_n dX3_readAtom_12 rfl ?_
      refine v_iconst 0 dX3_readAtom_13 (by decide) ?_
      refine v_sipush 999 dX3_readAtom_14 (by decide) ?_
      refine v_scV [_, _] (htn) k3_takeNumber dX3_readAtom_17 l3_56 (by first | exact hS'.1 _ _ rfl | assumption) (by decide) rfl (by omega) (Nat.le_of_ble_eq_true rfl) ?_
      intro M2 hM2; have hS' := (hM.sq hM2.1).1
      refine v_scVv [_, _] (c3_emitZ G M2 (s := 1000 + v) hM hM2 gn.1.1 (fun z => by have := (gn.2 z).2.2.1; omega) (hK.gs gn.1) (by omega) (by rw [enc_n (by omega)]; exact enc_or (d := 0) (by decide) (by omega)) (fun _ => (rdb_o (by omega)).1) (fun _ => (rdb_o (by omega)).2)) k3_emit dX3_readAtom_20 l3_203 (by first | exact hS'.1 _ _ rfl | assumption) (by decide) rfl (by omega) (Nat.le_of_ble_eq_true rfl) ?_
      intro M3 hM3
      refine v_goto 230 dX3_readAtom_23 (by decide) ?_
      refine v_vret dX3_readAtom_230 rfl ?_
      exact ⟨rfl, hM3⟩
    · by_cases k12 : kd Z R.2.2.1 = 12
      · rw [if_pos k12]
        have g1 := nx (by omega)
        have gn := gs.nu (lo := 0) (hi := kn R.2.2.2 1 - 1) g1.1
        have gt := g1.tr gn.1 (Nat.le_refl _)
        have hr := rnv_rng (Z := Z) (lo := 0) (hi := kn R.2.2.2 1 - 1) (R := rnx R) (by omega)
        have ek1 := gt.k (j := 1) (by decide) (by decide)
        have htn := fun M2 hM2 => c3_takeNumber G M2 (lo := 0) (hi := kn R.2.2.2 1 - 1) hM (show CS p N Z M0 true 0 0 (rnx R) M2 from hM2) (by decide) (by omega)
        generalize rnv Z 0 (kn R.2.2.2 1 - 1) (rnx R) = v at hr htn ⊢
        refine v_aload_n dX3_readAtom_0 rfl ?_
        refine v_gets (v := .ref 29) dX3_readAtom_1 g3_102 (kT_z G (i := 29) (by decide) rfl) ?_
        refine v_cV [_] (c3_stF G M (k := 29) hM h (by decide) (n29 k29)) k3_stands dX3_readAtom_4 l3_72 (by first | exact hS'.1 _ _ rfl | assumption) (by decide) rfl (by omega) (Nat.le_of_ble_eq_true rfl) ?_
        refine v_if_eq 26 dX3_readAtom_7 (by decide) (fun h7 => ?_) (fun h7 => absurd rfl h7)
        refine v_aload_n dX3_readAtom_26 rfl ?_
        refine v_gets (v := .ref 12) dX3_readAtom_27 g3_248 (kT_z G (i := 12) (by decide) rfl) ?_
        refine v_scV [_] (c3_tkT G M (k := 12) hM h (by decide) ⟨h0, k12⟩) k3_takeIf dX3_readAtom_30 l3_132 (by first | exact hS'.1 _ _ rfl | assumption) (by decide) rfl (by omega) (Nat.le_of_ble_eq_true rfl) ?_
        intro M2 hM2; have hPM2 := hM.sq hM2.1; have hS' := hPM2.1; have hp2 := hPM2.2.2.2.1; have hp0 := hPM2.2.1.1
        refine v_if_eq 66 dX3_readAtom_33 (by decide) (fun h33 => absurd h33 (by decide)) (fun h33 => ?_)
        refine v_aload_n dX3_readAtom_36 rfl ?_
        refine v_iconst 0 dX3_readAtom_37 (by decide) ?_
        refine v_aload_n dX3_readAtom_38 rfl ?_
        refine v_getR 3 2 _ dX3_readAtom_39 f3_21 (by first | exact hS'.1 _ _ rfl | assumption) (by decide) hp2 ?_
        refine v_getI 4 1 dX3_readAtom_42 f3_60 hp0 (by decide) ?_
        refine v_iconst 1 dX3_readAtom_45 (by decide) ?_
        refine v_isub dX3_readAtom_46 ?_
        rw [mk1 _ M2 0 0 hM2 rfl]
        refine v_scV [_, _] (htn M2 hM2) k3_takeNumber dX3_readAtom_47 l3_56 (by first | exact hS'.1 _ _ rfl | assumption) (by decide) rfl (by omega) (Nat.le_of_ble_eq_true rfl) ?_
        intro M3 hM3; have hS' := (hM.sq hM3.1).1
        refine v_istore_n dX3_readAtom_50 rfl (by decide) ?_
        refine v_aload_n dX3_readAtom_51 rfl ?_
        refine v_iload_n dX3_readAtom_52 rfl ?_
        refine v_iload_n dX3_readAtom_53 rfl ?_
        refine v_scVv [_, _] (c3_noteRead G M3 (a := v) (t := v) hM hM3 (by omega) (by omega) (by omega)) k3_noteRead dX3_readAtom_54 l3_251 (by first | exact hS'.1 _ _ rfl | assumption) (by decide) rfl (by omega) (Nat.le_of_ble_eq_true rfl) ?_
        intro M4 hM4; have hS' := (hM.sq hM4.1).1
        refine v_aload_n dX3_readAtom_57 rfl ?_
        refine v_iconst 1 dX3_readAtom_58 (by decide) ?_
        refine v_iload_n dX3_readAtom_59 rfl ?_
        refine v_scVv [_, _] (c3_emitZ G M4 (s := 100 + v) hM hM4 gn.1.1 (fun z => by have := (g1.tr (gn.2 z) (Nat.le_refl _)).2.2.1; omega) (hK.gs gt) (by omega) (by rw [enc_m v (by omega)]; exact enc_or (d := 1) (by decide) (by omega)) (fun _ => (rdb_m (m := v) (by omega)).1) (fun _ => (rdb_m (m := v) (by omega)).2)) k3_emit dX3_readAtom_60 l3_203 (by first | exact hS'.1 _ _ rfl | assumption) (by decide) rfl (by omega) (Nat.le_of_ble_eq_true rfl) ?_
        intro M5 hM5
        refine v_goto 230 dX3_readAtom_63 (by decide) ?_
        refine v_vret dX3_readAtom_230 rfl ?_
        exact ⟨rfl, hM5⟩
      · rw [if_neg k12]
        by_cases k13 : kd Z R.2.2.1 = 13
        · rw [if_pos k13]
          have g1 := nx (by omega)
          have gn := gs.nu (lo := 0) (hi := 9) g1.1
          have gt := g1.tr gn.1 (Nat.le_refl _)
          have hr := rnv_rng (Z := Z) (lo := 0) (hi := 9) (R := rnx R) (by omega)
          have ek1 := gt.k (j := 1) (by decide) (by decide)
          have htn := fun M2 b1 b2 hM2 => c3_takeNumber G M2 (lo := 0) (hi := 9) hM (show CS p N Z M0 true b1 b2 (rnx R) M2 from hM2) (by decide) (by decide)
          generalize rnv Z 0 9 (rnx R) = v at hr htn ⊢
          refine v_aload_n dX3_readAtom_0 rfl ?_
          refine v_gets (v := .ref 29) dX3_readAtom_1 g3_102 (kT_z G (i := 29) (by decide) rfl) ?_
          refine v_cV [_] (c3_stF G M (k := 29) hM h (by decide) (n29 k29)) k3_stands dX3_readAtom_4 l3_72 (by first | exact hS'.1 _ _ rfl | assumption) (by decide) rfl (by omega) (Nat.le_of_ble_eq_true rfl) ?_
          refine v_if_eq 26 dX3_readAtom_7 (by decide) (fun h7 => ?_) (fun h7 => absurd rfl h7)
          refine v_aload_n dX3_readAtom_26 rfl ?_
          refine v_gets (v := .ref 12) dX3_readAtom_27 g3_248 (kT_z G (i := 12) (by decide) rfl) ?_
          refine v_cV [_] (c3_tkF G M (k := 12) hM h (by decide) (fun z => k12 z.2)) k3_takeIf dX3_readAtom_30 l3_132 (by first | exact hS'.1 _ _ rfl | assumption) (by decide) rfl (by omega) (Nat.le_of_ble_eq_true rfl) ?_
          refine v_if_eq 66 dX3_readAtom_33 (by decide) (fun h33 => ?_) (fun h33 => absurd rfl h33)
          refine v_aload_n dX3_readAtom_66 rfl ?_
          refine v_gets (v := .ref 13) dX3_readAtom_67 g3_254 (kT_z G (i := 13) (by decide) rfl) ?_
          refine v_scV [_] (c3_tkT G M (k := 13) hM h (by decide) ⟨h0, k13⟩) k3_takeIf dX3_readAtom_70 l3_132 (by first | exact hS'.1 _ _ rfl | assumption) (by decide) rfl (by omega) (Nat.le_of_ble_eq_true rfl) ?_
          intro M2 hM2; have hPM2 := hM.sq hM2.1; have hS' := hPM2.1; have hp2 := hPM2.2.2.2.1; have hp0 := hPM2.2.1.1
          refine v_if_eq 105 dX3_readAtom_73 (by decide) (fun h73 => absurd h73 (by decide)) (fun h73 => ?_)
          refine v_aload_n dX3_readAtom_76 rfl ?_
          refine v_iconst 0 dX3_readAtom_77 (by decide) ?_
          refine v_aload_n dX3_readAtom_78 rfl ?_
          refine v_getR 3 2 _ dX3_readAtom_79 f3_21 (by first | exact hS'.1 _ _ rfl | assumption) (by decide) hp2 ?_
          refine v_getI 4 1 dX3_readAtom_82 f3_60 hp0 (by decide) ?_
          refine v_iconst 1 dX3_readAtom_85 (by decide) ?_
          refine v_isub dX3_readAtom_86 ?_
          rw [mk1 _ M2 0 0 hM2 rfl]
          refine v_scVv [_, _] (c3_noteRead G M2 (a := 0) (t := kn R.2.2.2 1 - 1) hM hM2 hm.2.2 (by omega) (by omega)) k3_noteRead dX3_readAtom_87 l3_251 (by first | exact hS'.1 _ _ rfl | assumption) (by decide) rfl (by omega) (Nat.le_of_ble_eq_true rfl) ?_
          intro M3 hM3; have hS' := (hM.sq hM3.1).1
          refine v_aload_n dX3_readAtom_90 rfl ?_
          refine v_iconst 2 dX3_readAtom_91 (by decide) ?_
          refine v_aload_n dX3_readAtom_92 rfl ?_
          refine v_iconst 0 dX3_readAtom_93 (by decide) ?_
          refine v_bipush 9 dX3_readAtom_94 (by decide) ?_
          refine v_scV [_, _] (htn M3 _ _ hM3) k3_takeNumber dX3_readAtom_96 l3_56 (by first | exact hS'.1 _ _ rfl | assumption) (by decide) rfl (by omega) (Nat.le_of_ble_eq_true rfl) ?_
          intro M4 hM4; have hS' := (hM.sq hM4.1).1
          refine v_scVv [_, _] (c3_emitZ G M4 (s := 200 + v) hM hM4 gn.1.1 (fun z => by have := (g1.tr (gn.2 z) (Nat.le_refl _)).2.2.1; omega) (hK.gs gt) (by omega) (by rw [enc_h v (by omega)]; exact enc_or (d := 2) (by decide) (by omega)) (fun _ => by rw [ek1]; exact (rdb_a (by omega) hm.2).1) (fun _ => by rw [ek1]; exact (rdb_a (by omega) hm.2).2)) k3_emit dX3_readAtom_99 l3_203 (by first | exact hS'.1 _ _ rfl | assumption) (by decide) rfl (by omega) (Nat.le_of_ble_eq_true rfl) ?_
          intro M5 hM5
          refine v_goto 230 dX3_readAtom_102 (by decide) ?_
          refine v_vret dX3_readAtom_230 rfl ?_
          exact ⟨rfl, hM5⟩
        · rw [if_neg k13]
          by_cases k14 : kd Z R.2.2.1 = 14
          · rw [if_pos k14]
            have g1 := nx (by omega)
            refine v_aload_n dX3_readAtom_0 rfl ?_
            refine v_gets (v := .ref 29) dX3_readAtom_1 g3_102 (kT_z G (i := 29) (by decide) rfl) ?_
            refine v_cV [_] (c3_stF G M (k := 29) hM h (by decide) (n29 k29)) k3_stands dX3_readAtom_4 l3_72 (by first | exact hS'.1 _ _ rfl | assumption) (by decide) rfl (by omega) (Nat.le_of_ble_eq_true rfl) ?_
            refine v_if_eq 26 dX3_readAtom_7 (by decide) (fun h7 => ?_) (fun h7 => absurd rfl h7)
            refine v_aload_n dX3_readAtom_26 rfl ?_
            refine v_gets (v := .ref 12) dX3_readAtom_27 g3_248 (kT_z G (i := 12) (by decide) rfl) ?_
            refine v_cV [_] (c3_tkF G M (k := 12) hM h (by decide) (fun z => k12 z.2)) k3_takeIf dX3_readAtom_30 l3_132 (by first | exact hS'.1 _ _ rfl | assumption) (by decide) rfl (by omega) (Nat.le_of_ble_eq_true rfl) ?_
            refine v_if_eq 66 dX3_readAtom_33 (by decide) (fun h33 => ?_) (fun h33 => absurd rfl h33)
            refine v_aload_n dX3_readAtom_66 rfl ?_
            refine v_gets (v := .ref 13) dX3_readAtom_67 g3_254 (kT_z G (i := 13) (by decide) rfl) ?_
            refine v_cV [_] (c3_tkF G M (k := 13) hM h (by decide) (fun z => k13 z.2)) k3_takeIf dX3_readAtom_70 l3_132 (by first | exact hS'.1 _ _ rfl | assumption) (by decide) rfl (by omega) (Nat.le_of_ble_eq_true rfl) ?_
            refine v_if_eq 105 dX3_readAtom_73 (by decide) (fun h73 => ?_) (fun h73 => absurd rfl h73)
            refine v_aload_n dX3_readAtom_105 rfl ?_
            refine v_gets (v := .ref 14) dX3_readAtom_106 g3_257 (kT_z G (i := 14) (by decide) rfl) ?_
            refine v_scV [_] (c3_tkT G M (k := 14) hM h (by decide) ⟨h0, k14⟩) k3_takeIf dX3_readAtom_109 l3_132 (by first | exact hS'.1 _ _ rfl | assumption) (by decide) rfl (by omega) (Nat.le_of_ble_eq_true rfl) ?_
            intro M2 hM2; have hPM2 := hM.sq hM2.1; have hS' := hPM2.1; have hp2 := hPM2.2.2.2.1; have hp0 := hPM2.2.1.1
            refine v_if_eq 138 dX3_readAtom_112 (by decide) (fun h112 => absurd h112 (by decide)) (fun h112 => ?_)
            refine v_aload_n dX3_readAtom_115 rfl ?_
            refine v_iconst 0 dX3_readAtom_116 (by decide) ?_
            refine v_aload_n dX3_readAtom_117 rfl ?_
            refine v_getR 3 2 _ dX3_readAtom_118 f3_21 (by first | exact hS'.1 _ _ rfl | assumption) (by decide) hp2 ?_
            refine v_getI 4 1 dX3_readAtom_121 f3_60 hp0 (by decide) ?_
            refine v_iconst 1 dX3_readAtom_124 (by decide) ?_
            refine v_isub dX3_readAtom_125 ?_
            rw [mk1 _ M2 0 0 hM2 rfl]
            refine v_scVv [_, _] (c3_noteRead G M2 (a := 0) (t := kn R.2.2.2 1 - 1) hM hM2 hm.2.2 (by omega) (by omega)) k3_noteRead dX3_readAtom_126 l3_251 (by first | exact hS'.1 _ _ rfl | assumption) (by decide) rfl (by omega) (Nat.le_of_ble_eq_true rfl) ?_
            intro M3 hM3; have hS' := (hM.sq hM3.1).1
            refine v_aload_n dX3_readAtom_129 rfl ?_
            refine v_iconst 3 dX3_readAtom_130 (by decide) ?_
            refine v_iconst 0 dX3_readAtom_131 (by decide) ?_
            refine v_scVv [_, _] (c3_emitZ G M3 (s := 300) hM hM3 g1.1 (fun z => by have := g1.2.2.1; omega) (hK.gs g1) (by omega) (by decide) (fun _ => (rdb_a (by omega) hm.2).1) (fun _ => (rdb_a (by omega) hm.2).2)) k3_emit dX3_readAtom_132 l3_203 (by first | exact hS'.1 _ _ rfl | assumption) (by decide) rfl (by omega) (Nat.le_of_ble_eq_true rfl) ?_
            intro M4 hM4
            refine v_goto 230 dX3_readAtom_135 (by decide) ?_
            refine v_vret dX3_readAtom_230 rfl ?_
            exact ⟨rfl, hM4⟩
          · rw [if_neg k14]
            by_cases k15 : kd Z R.2.2.1 = 15
            · rw [if_pos k15]
              have g1 := nx (by omega)
              refine v_aload_n dX3_readAtom_0 rfl ?_
              refine v_gets (v := .ref 29) dX3_readAtom_1 g3_102 (kT_z G (i := 29) (by decide) rfl) ?_
              refine v_cV [_] (c3_stF G M (k := 29) hM h (by decide) (n29 k29)) k3_stands dX3_readAtom_4 l3_72 (by first | exact hS'.1 _ _ rfl | assumption) (by decide) rfl (by omega) (Nat.le_of_ble_eq_true rfl) ?_
              refine v_if_eq 26 dX3_readAtom_7 (by decide) (fun h7 => ?_) (fun h7 => absurd rfl h7)
              refine v_aload_n dX3_readAtom_26 rfl ?_
              refine v_gets (v := .ref 12) dX3_readAtom_27 g3_248 (kT_z G (i := 12) (by decide) rfl) ?_
              refine v_cV [_] (c3_tkF G M (k := 12) hM h (by decide) (fun z => k12 z.2)) k3_takeIf dX3_readAtom_30 l3_132 (by first | exact hS'.1 _ _ rfl | assumption) (by decide) rfl (by omega) (Nat.le_of_ble_eq_true rfl) ?_
              refine v_if_eq 66 dX3_readAtom_33 (by decide) (fun h33 => ?_) (fun h33 => absurd rfl h33)
              refine v_aload_n dX3_readAtom_66 rfl ?_
              refine v_gets (v := .ref 13) dX3_readAtom_67 g3_254 (kT_z G (i := 13) (by decide) rfl) ?_
              refine v_cV [_] (c3_tkF G M (k := 13) hM h (by decide) (fun z => k13 z.2)) k3_takeIf dX3_readAtom_70 l3_132 (by first | exact hS'.1 _ _ rfl | assumption) (by decide) rfl (by omega) (Nat.le_of_ble_eq_true rfl) ?_
              refine v_if_eq 105 dX3_readAtom_73 (by decide) (fun h73 => ?_) (fun h73 => absurd rfl h73)
              refine v_aload_n dX3_readAtom_105 rfl ?_
              refine v_gets (v := .ref 14) dX3_readAtom_106 g3_257 (kT_z G (i := 14) (by decide) rfl) ?_
              refine v_cV [_] (c3_tkF G M (k := 14) hM h (by decide) (fun z => k14 z.2)) k3_takeIf dX3_readAtom_109 l3_132 (by first | exact hS'.1 _ _ rfl | assumption) (by decide) rfl (by omega) (Nat.le_of_ble_eq_true rfl) ?_
              refine v_if_eq 138 dX3_readAtom_112 (by decide) (fun h112 => ?_) (fun h112 => absurd rfl h112)
              refine v_aload_n dX3_readAtom_138 rfl ?_
              refine v_gets (v := .ref 15) dX3_readAtom_139 g3_260 (kT_z G (i := 15) (by decide) rfl) ?_
              refine v_scV [_] (c3_tkT G M (k := 15) hM h (by decide) ⟨h0, k15⟩) k3_takeIf dX3_readAtom_142 l3_132 (by first | exact hS'.1 _ _ rfl | assumption) (by decide) rfl (by omega) (Nat.le_of_ble_eq_true rfl) ?_
              intro M2 hM2; have hPM2 := hM.sq hM2.1; have hS' := hPM2.1; have hp2 := hPM2.2.2.2.1; have hp0 := hPM2.2.1.1
              refine v_if_eq 171 dX3_readAtom_145 (by decide) (fun h145 => absurd h145 (by decide)) (fun h145 => ?_)
              refine v_aload_n dX3_readAtom_148 rfl ?_
              refine v_iconst 0 dX3_readAtom_149 (by decide) ?_
              refine v_aload_n dX3_readAtom_150 rfl ?_
              refine v_getR 3 2 _ dX3_readAtom_151 f3_21 (by first | exact hS'.1 _ _ rfl | assumption) (by decide) hp2 ?_
              refine v_getI 4 1 dX3_readAtom_154 f3_60 hp0 (by decide) ?_
              refine v_iconst 1 dX3_readAtom_157 (by decide) ?_
              refine v_isub dX3_readAtom_158 ?_
              rw [mk1 _ M2 0 0 hM2 rfl]
              refine v_scVv [_, _] (c3_noteRead G M2 (a := 0) (t := kn R.2.2.2 1 - 1) hM hM2 hm.2.2 (by omega) (by omega)) k3_noteRead dX3_readAtom_159 l3_251 (by first | exact hS'.1 _ _ rfl | assumption) (by decide) rfl (by omega) (Nat.le_of_ble_eq_true rfl) ?_
              intro M3 hM3; have hS' := (hM.sq hM3.1).1
              refine v_aload_n dX3_readAtom_162 rfl ?_
              refine v_iconst 4 dX3_readAtom_163 (by decide) ?_
              refine v_iconst 0 dX3_readAtom_164 (by decide) ?_
              refine v_scVv [_, _] (c3_emitZ G M3 (s := 301) hM hM3 g1.1 (fun z => by have := g1.2.2.1; omega) (hK.gs g1) (by omega) (by decide) (fun _ => (rdb_a (by omega) hm.2).1) (fun _ => (rdb_a (by omega) hm.2).2)) k3_emit dX3_readAtom_165 l3_203 (by first | exact hS'.1 _ _ rfl | assumption) (by decide) rfl (by omega) (Nat.le_of_ble_eq_true rfl) ?_
              intro M4 hM4
              refine v_goto 230 dX3_readAtom_168 (by decide) ?_
              refine v_vret dX3_readAtom_230 rfl ?_
              exact ⟨rfl, hM4⟩
            · rw [if_neg k15]
              by_cases k16 : kd Z R.2.2.1 = 16
              · rw [if_pos k16]
                have g1 := nx (by omega)
                refine v_aload_n dX3_readAtom_0 rfl ?_
                refine v_gets (v := .ref 29) dX3_readAtom_1 g3_102 (kT_z G (i := 29) (by decide) rfl) ?_
                refine v_cV [_] (c3_stF G M (k := 29) hM h (by decide) (n29 k29)) k3_stands dX3_readAtom_4 l3_72 (by first | exact hS'.1 _ _ rfl | assumption) (by decide) rfl (by omega) (Nat.le_of_ble_eq_true rfl) ?_
                refine v_if_eq 26 dX3_readAtom_7 (by decide) (fun h7 => ?_) (fun h7 => absurd rfl h7)
                refine v_aload_n dX3_readAtom_26 rfl ?_
                refine v_gets (v := .ref 12) dX3_readAtom_27 g3_248 (kT_z G (i := 12) (by decide) rfl) ?_
                refine v_cV [_] (c3_tkF G M (k := 12) hM h (by decide) (fun z => k12 z.2)) k3_takeIf dX3_readAtom_30 l3_132 (by first | exact hS'.1 _ _ rfl | assumption) (by decide) rfl (by omega) (Nat.le_of_ble_eq_true rfl) ?_
                refine v_if_eq 66 dX3_readAtom_33 (by decide) (fun h33 => ?_) (fun h33 => absurd rfl h33)
                refine v_aload_n dX3_readAtom_66 rfl ?_
                refine v_gets (v := .ref 13) dX3_readAtom_67 g3_254 (kT_z G (i := 13) (by decide) rfl) ?_
                refine v_cV [_] (c3_tkF G M (k := 13) hM h (by decide) (fun z => k13 z.2)) k3_takeIf dX3_readAtom_70 l3_132 (by first | exact hS'.1 _ _ rfl | assumption) (by decide) rfl (by omega) (Nat.le_of_ble_eq_true rfl) ?_
                refine v_if_eq 105 dX3_readAtom_73 (by decide) (fun h73 => ?_) (fun h73 => absurd rfl h73)
                refine v_aload_n dX3_readAtom_105 rfl ?_
                refine v_gets (v := .ref 14) dX3_readAtom_106 g3_257 (kT_z G (i := 14) (by decide) rfl) ?_
                refine v_cV [_] (c3_tkF G M (k := 14) hM h (by decide) (fun z => k14 z.2)) k3_takeIf dX3_readAtom_109 l3_132 (by first | exact hS'.1 _ _ rfl | assumption) (by decide) rfl (by omega) (Nat.le_of_ble_eq_true rfl) ?_
                refine v_if_eq 138 dX3_readAtom_112 (by decide) (fun h112 => ?_) (fun h112 => absurd rfl h112)
                refine v_aload_n dX3_readAtom_138 rfl ?_
                refine v_gets (v := .ref 15) dX3_readAtom_139 g3_260 (kT_z G (i := 15) (by decide) rfl) ?_
                refine v_cV [_] (c3_tkF G M (k := 15) hM h (by decide) (fun z => k15 z.2)) k3_takeIf dX3_readAtom_142 l3_132 (by first | exact hS'.1 _ _ rfl | assumption) (by decide) rfl (by omega) (Nat.le_of_ble_eq_true rfl) ?_
                refine v_if_eq 171 dX3_readAtom_145 (by decide) (fun h145 => ?_) (fun h145 => absurd rfl h145)
                refine v_aload_n dX3_readAtom_171 rfl ?_
                refine v_gets (v := .ref 16) dX3_readAtom_172 g3_263 (kT_z G (i := 16) (by decide) rfl) ?_
                refine v_scV [_] (c3_tkT G M (k := 16) hM h (by decide) ⟨h0, k16⟩) k3_takeIf dX3_readAtom_175 l3_132 (by first | exact hS'.1 _ _ rfl | assumption) (by decide) rfl (by omega) (Nat.le_of_ble_eq_true rfl) ?_
                intro M2 hM2; have hPM2 := hM.sq hM2.1; have hS' := hPM2.1
                refine v_if_eq 190 dX3_readAtom_178 (by decide) (fun h178 => absurd h178 (by decide)) (fun h178 => ?_)
                refine v_aload_n dX3_readAtom_181 rfl ?_
                refine v_iconst 5 dX3_readAtom_182 (by decide) ?_
                refine v_iconst 0 dX3_readAtom_183 (by decide) ?_
                refine v_scVv [_, _] (c3_emitZ G M2 (s := 302) hM hM2 g1.1 (fun z => by have := g1.2.2.1; omega) (hK.gs g1) (by omega) (by decide) (fun _ => (rdb_o (by omega)).1) (fun _ => (rdb_o (by omega)).2)) k3_emit dX3_readAtom_184 l3_203 (by first | exact hS'.1 _ _ rfl | assumption) (by decide) rfl (by omega) (Nat.le_of_ble_eq_true rfl) ?_
                intro M4 hM4
                refine v_goto 230 dX3_readAtom_187 (by decide) ?_
                refine v_vret dX3_readAtom_230 rfl ?_
                exact ⟨rfl, hM4⟩
              · rw [if_neg k16]
                by_cases k22 : kd Z R.2.2.1 = 22
                · rw [if_pos k22]
                  refine v_aload_n dX3_readAtom_0 rfl ?_
                  refine v_gets (v := .ref 29) dX3_readAtom_1 g3_102 (kT_z G (i := 29) (by decide) rfl) ?_
                  refine v_cV [_] (c3_stF G M (k := 29) hM h (by decide) (n29 k29)) k3_stands dX3_readAtom_4 l3_72 (by first | exact hS'.1 _ _ rfl | assumption) (by decide) rfl (by omega) (Nat.le_of_ble_eq_true rfl) ?_
                  refine v_if_eq 26 dX3_readAtom_7 (by decide) (fun h7 => ?_) (fun h7 => absurd rfl h7)
                  refine v_aload_n dX3_readAtom_26 rfl ?_
                  refine v_gets (v := .ref 12) dX3_readAtom_27 g3_248 (kT_z G (i := 12) (by decide) rfl) ?_
                  refine v_cV [_] (c3_tkF G M (k := 12) hM h (by decide) (fun z => k12 z.2)) k3_takeIf dX3_readAtom_30 l3_132 (by first | exact hS'.1 _ _ rfl | assumption) (by decide) rfl (by omega) (Nat.le_of_ble_eq_true rfl) ?_
                  refine v_if_eq 66 dX3_readAtom_33 (by decide) (fun h33 => ?_) (fun h33 => absurd rfl h33)
                  refine v_aload_n dX3_readAtom_66 rfl ?_
                  refine v_gets (v := .ref 13) dX3_readAtom_67 g3_254 (kT_z G (i := 13) (by decide) rfl) ?_
                  refine v_cV [_] (c3_tkF G M (k := 13) hM h (by decide) (fun z => k13 z.2)) k3_takeIf dX3_readAtom_70 l3_132 (by first | exact hS'.1 _ _ rfl | assumption) (by decide) rfl (by omega) (Nat.le_of_ble_eq_true rfl) ?_
                  refine v_if_eq 105 dX3_readAtom_73 (by decide) (fun h73 => ?_) (fun h73 => absurd rfl h73)
                  refine v_aload_n dX3_readAtom_105 rfl ?_
                  refine v_gets (v := .ref 14) dX3_readAtom_106 g3_257 (kT_z G (i := 14) (by decide) rfl) ?_
                  refine v_cV [_] (c3_tkF G M (k := 14) hM h (by decide) (fun z => k14 z.2)) k3_takeIf dX3_readAtom_109 l3_132 (by first | exact hS'.1 _ _ rfl | assumption) (by decide) rfl (by omega) (Nat.le_of_ble_eq_true rfl) ?_
                  refine v_if_eq 138 dX3_readAtom_112 (by decide) (fun h112 => ?_) (fun h112 => absurd rfl h112)
                  refine v_aload_n dX3_readAtom_138 rfl ?_
                  refine v_gets (v := .ref 15) dX3_readAtom_139 g3_260 (kT_z G (i := 15) (by decide) rfl) ?_
                  refine v_cV [_] (c3_tkF G M (k := 15) hM h (by decide) (fun z => k15 z.2)) k3_takeIf dX3_readAtom_142 l3_132 (by first | exact hS'.1 _ _ rfl | assumption) (by decide) rfl (by omega) (Nat.le_of_ble_eq_true rfl) ?_
                  refine v_if_eq 171 dX3_readAtom_145 (by decide) (fun h145 => ?_) (fun h145 => absurd rfl h145)
                  refine v_aload_n dX3_readAtom_171 rfl ?_
                  refine v_gets (v := .ref 16) dX3_readAtom_172 g3_263 (kT_z G (i := 16) (by decide) rfl) ?_
                  refine v_cV [_] (c3_tkF G M (k := 16) hM h (by decide) (fun z => k16 z.2)) k3_takeIf dX3_readAtom_175 l3_132 (by first | exact hS'.1 _ _ rfl | assumption) (by decide) rfl (by omega) (Nat.le_of_ble_eq_true rfl) ?_
                  refine v_if_eq 190 dX3_readAtom_178 (by decide) (fun h178 => ?_) (fun h178 => absurd rfl h178)
                  refine v_aload_n dX3_readAtom_190 rfl ?_
                  refine v_gets (v := .ref 22) dX3_readAtom_191 g3_266 (kT_z G (i := 22) (by decide) rfl) ?_
                  refine v_cV [_] (c3_stT G M (k := 22) hM h (by decide) ⟨h0, k22⟩) k3_stands dX3_readAtom_194 l3_72 (by first | exact hS'.1 _ _ rfl | assumption) (by decide) rfl (by omega) (Nat.le_of_ble_eq_true rfl) ?_
                  refine v_if_ne 208 dX3_readAtom_197 (by decide) (fun h197 => ?_) (fun h197 => absurd (show ¬ (1 : Int32) = 0 by decide) h197)
                  exact hi R M h hI hK ⟨h0, k22⟩
                · rw [if_neg k22]
                  have e : rly (nI (1000 + rnv Z 0 999 R)) (rnu Z 0 999 R) = rbl Z 2 R := by
                    have e1 : rn1 Z 0 999 R = rbl Z 2 R := if_pos k29
                    have e2 : rnu Z 0 999 R = rbl Z 2 R := by unfold rnu; rw [e1, rgo_b (rbl_p (by omega) R)]
                    rw [e2, rly, if_neg (rbl_p (by omega) R)]
                  rw [e]
                  refine v_aload_n dX3_readAtom_0 rfl ?_
                  refine v_gets (v := .ref 29) dX3_readAtom_1 g3_102 (kT_z G (i := 29) (by decide) rfl) ?_
                  refine v_cV [_] (c3_stF G M (k := 29) hM h (by decide) (n29 k29)) k3_stands dX3_readAtom_4 l3_72 (by first | exact hS'.1 _ _ rfl | assumption) (by decide) rfl (by omega) (Nat.le_of_ble_eq_true rfl) ?_
                  refine v_if_eq 26 dX3_readAtom_7 (by decide) (fun h7 => ?_) (fun h7 => absurd rfl h7)
                  refine v_aload_n dX3_readAtom_26 rfl ?_
                  refine v_gets (v := .ref 12) dX3_readAtom_27 g3_248 (kT_z G (i := 12) (by decide) rfl) ?_
                  refine v_cV [_] (c3_tkF G M (k := 12) hM h (by decide) (fun z => k12 z.2)) k3_takeIf dX3_readAtom_30 l3_132 (by first | exact hS'.1 _ _ rfl | assumption) (by decide) rfl (by omega) (Nat.le_of_ble_eq_true rfl) ?_
                  refine v_if_eq 66 dX3_readAtom_33 (by decide) (fun h33 => ?_) (fun h33 => absurd rfl h33)
                  refine v_aload_n dX3_readAtom_66 rfl ?_
                  refine v_gets (v := .ref 13) dX3_readAtom_67 g3_254 (kT_z G (i := 13) (by decide) rfl) ?_
                  refine v_cV [_] (c3_tkF G M (k := 13) hM h (by decide) (fun z => k13 z.2)) k3_takeIf dX3_readAtom_70 l3_132 (by first | exact hS'.1 _ _ rfl | assumption) (by decide) rfl (by omega) (Nat.le_of_ble_eq_true rfl) ?_
                  refine v_if_eq 105 dX3_readAtom_73 (by decide) (fun h73 => ?_) (fun h73 => absurd rfl h73)
                  refine v_aload_n dX3_readAtom_105 rfl ?_
                  refine v_gets (v := .ref 14) dX3_readAtom_106 g3_257 (kT_z G (i := 14) (by decide) rfl) ?_
                  refine v_cV [_] (c3_tkF G M (k := 14) hM h (by decide) (fun z => k14 z.2)) k3_takeIf dX3_readAtom_109 l3_132 (by first | exact hS'.1 _ _ rfl | assumption) (by decide) rfl (by omega) (Nat.le_of_ble_eq_true rfl) ?_
                  refine v_if_eq 138 dX3_readAtom_112 (by decide) (fun h112 => ?_) (fun h112 => absurd rfl h112)
                  refine v_aload_n dX3_readAtom_138 rfl ?_
                  refine v_gets (v := .ref 15) dX3_readAtom_139 g3_260 (kT_z G (i := 15) (by decide) rfl) ?_
                  refine v_cV [_] (c3_tkF G M (k := 15) hM h (by decide) (fun z => k15 z.2)) k3_takeIf dX3_readAtom_142 l3_132 (by first | exact hS'.1 _ _ rfl | assumption) (by decide) rfl (by omega) (Nat.le_of_ble_eq_true rfl) ?_
                  refine v_if_eq 171 dX3_readAtom_145 (by decide) (fun h145 => ?_) (fun h145 => absurd rfl h145)
                  refine v_aload_n dX3_readAtom_171 rfl ?_
                  refine v_gets (v := .ref 16) dX3_readAtom_172 g3_263 (kT_z G (i := 16) (by decide) rfl) ?_
                  refine v_cV [_] (c3_tkF G M (k := 16) hM h (by decide) (fun z => k16 z.2)) k3_takeIf dX3_readAtom_175 l3_132 (by first | exact hS'.1 _ _ rfl | assumption) (by decide) rfl (by omega) (Nat.le_of_ble_eq_true rfl) ?_
                  refine v_if_eq 190 dX3_readAtom_178 (by decide) (fun h178 => ?_) (fun h178 => absurd rfl h178)
                  refine v_aload_n dX3_readAtom_190 rfl ?_
                  refine v_gets (v := .ref 22) dX3_readAtom_191 g3_266 (kT_z G (i := 22) (by decide) rfl) ?_
                  refine v_cV [_] (c3_stF G M (k := 22) hM h (by decide) (fun z => k22 z.2)) k3_stands dX3_readAtom_194 l3_72 (by first | exact hS'.1 _ _ rfl | assumption) (by decide) rfl (by omega) (Nat.le_of_ble_eq_true rfl) ?_
                  refine v_if_ne 208 dX3_readAtom_197 (by decide) (fun h197 => absurd rfl h197) (fun h197 => ?_)
                  refine v_aload_n dX3_readAtom_200 rfl ?_
                  refine v_iconst 2 dX3_readAtom_201 (by decide) ?_
                  refine v_scVv [_] (c3_fail G M (k := 2) hM h rfl (by omega) (by omega)) k3_fail dX3_readAtom_202 l3_99 (by first | exact hS'.1 _ _ rfl | assumption) (by decide) rfl (by omega) (Nat.le_of_ble_eq_true rfl) ?_
                  intro M2 hM2
                  refine v_goto 230 dX3_readAtom_205 (by decide) ?_
                  refine v_vret dX3_readAtom_230 rfl ?_
                  exact ⟨rfl, hM2⟩
  · rw [if_pos h0]
    have := c3_atB (D0 := D0 - 2) G M hM h h0 dd
    rw [show D0 - 2 + 2 = D0 by omega] at this
    exact this.post (fun _ _ q => ⟨q.1, by rw [q.2]; exact h⟩) (fun _ _ z => z)
end CB
