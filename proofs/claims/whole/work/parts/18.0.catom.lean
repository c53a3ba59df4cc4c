/-! ===== the class's parser: readAtom ===== -/
theorem CS.rb {p N : Nat} {Z : (Nat → Nat) × Nat} {M0 M : mM} {b : Bool} {rb rl rb' rl' : Nat} {R : RSt} (h0 : R.1 ≠ 0) (h : CS p N Z M0 b rb rl R M) : CS p N Z M0 b rb' rl' R M := by
  obtain ⟨h1, h2, h3, h4, h5, h6⟩ := h
  exact ⟨h1, h2, h3, h4, h5, fun z => absurd z h0⟩
section CA
variable (G : mG) (M : mM)
theorem c3_emitZ {p N s : Nat} {Z : (Nat → Nat) × Nat} {M0 : mM} {b : Bool} {rb rl : Nat} {R : RSt} {x y : Int32} (hM : PM M0 p N) (h : CS p N Z M0 b rb rl R M) (hI : IV Z R) (hc : R.1 = 0 → kn R.2.2.2 7 < R.2.2.1) (hK : KI R.2.2.2) (hs : s < 2000) (hv : x <<< ((10 : Int32) &&& 31) ||| y = nI (encS s)) (hrb : R.1 = 0 → rdb (kn R.2.2.2 1) s = rb) (hrl : R.1 = 0 → rdl (kn R.2.2.2 1) s = rl) : Ct G Y3_emit 0 0 0 [.ref 102, .int x, .int y] M (Rs none (CS p N Z M0 b 0 0 (rly (nI s) R))) NX := by
  have hc := c3_emit G M hM h hI.2.2.1 hc hK hI.2.2.2.2.1.2.2 hs hv hrb hrl
  by_cases h0 : R.1 = 0
  · rw [if_pos h0, if_pos h0] at hc; exact hc
  · refine hc.post (fun _ _ q => ⟨q.1, CS.rb (by rw [rly, if_neg h0]; exact h0) q.2⟩) (fun _ _ z => z)
theorem c3_stT {p N k : Nat} {Z : (Nat → Nat) × Nat} {M0 : mM} {b : Bool} {rb rl : Nat} {R : RSt} (hM : PM M0 p N) (h : CS p N Z M0 b rb rl R M) (hk : k < 33) (h0 : rIs Z k R) : Ct G Y3_stands 0 0 0 [.ref 102, .ref k] M (Rv (some (.int 1)) M) NX := by
  have hc := c3_stands G M (k := k) hM h hk
  rw [bI_t h0] at hc
  exact hc
theorem c3_stF {p N k : Nat} {Z : (Nat → Nat) × Nat} {M0 : mM} {b : Bool} {rb rl : Nat} {R : RSt} (hM : PM M0 p N) (h : CS p N Z M0 b rb rl R M) (hk : k < 33) (h0 : ¬ rIs Z k R) : Ct G Y3_stands 0 0 0 [.ref 102, .ref k] M (Rv (some (.int 0)) M) NX := by
  have hc := c3_stands G M (k := k) hM h hk
  rw [bI_f h0] at hc
  exact hc
theorem c3_tkT {p N k : Nat} {Z : (Nat → Nat) × Nat} {M0 : mM} {b : Bool} {rb rl : Nat} {R : RSt} (hM : PM M0 p N) (h : CS p N Z M0 b rb rl R M) (hk : k < 32) (h0 : rIs Z k R) : Ct G Y3_takeIf 1 0 0 [.ref 102, .ref k] M (Rs (some (.int 1)) (CS p N Z M0 b rb rl (rnx R))) NX := by
  have hc := c3_takeIf G M (k := k) hM h hk
  unfold rtk at hc
  rw [bI_t h0, if_pos h0] at hc
  exact hc
theorem c3_tkF {p N k : Nat} {Z : (Nat → Nat) × Nat} {M0 : mM} {b : Bool} {rb rl : Nat} {R : RSt} (hM : PM M0 p N) (h : CS p N Z M0 b rb rl R M) (hk : k < 33) (h0 : ¬ rIs Z k R) : Ct G Y3_takeIf 1 0 0 [.ref 102, .ref k] M (Rv (some (.int 0)) M) NX := by
  have hS' := (hM.sq h.1).1
  have hc := c3_stF G M (k := k) hM h hk h0
  refine Ct.of k3_takeIf.1 (Nat.le_of_ble_eq_true rfl) ?_
  refine v_aload_n dX3_takeIf_0 rfl ?_
  refine v_aload_n dX3_takeIf_1 rfl ?_
  refine v_cV [_] (hc) k3_stands dX3_takeIf_2 l3_72 (by first | exact hS'.1 _ _ rfl | assumption) (by decide) rfl (Nat.le_of_ble_eq_true rfl) (Nat.le_of_ble_eq_true rfl) ?_
  refine v_istore_n dX3_takeIf_5 rfl (by decide) ?_
  refine v_iload_n dX3_takeIf_6 rfl ?_
  refine v_if_eq 17 dX3_takeIf_7 (by decide) (fun h7 => ?_) (fun h7 => absurd rfl h7)
  refine v_iload_n dX3_takeIf_17 rfl ?_
  refine v_zret dX3_takeIf_18 rfl (by first | rfl | exact bI_nb _ | assumption) ?_
  exact ⟨rfl, rfl⟩
theorem c3_failB {p N : Nat} {Z : (Nat → Nat) × Nat} {M0 : mM} {b : Bool} {rb rl : Nat} {R : RSt} (hM : PM M0 p N) (h : CS p N Z M0 b rb rl R M) (hb : R.1 ≠ 0) (x : Int32) : Ct G Y3_fail 0 0 0 [.ref 102, .int x] M (Rv none M) NX := by
  have hS' := (hM.sq h.1).1
  refine Ct.of k3_fail.1 (Nat.le_of_ble_eq_true rfl) ?_
  refine v_aload_n dX3_fail_0 rfl ?_
  refine v_getI 3 3 dX3_fail_1 f3_29 (by first | exact hS'.1 _ _ rfl | assumption) (by decide) ?_
  refine v_if_ne 40 dX3_fail_4 (by decide) (fun h4 => ?_) (fun h4 => absurd (h.bad.2 hb) h4)
  refine v_vret dX3_fail_40 rfl ?_
  exact ⟨rfl, rfl⟩
theorem c3_atB {p N D0 : Nat} {Z : (Nat → Nat) × Nat} {M0 : mM} {b : Bool} {rb rl : Nat} {R : RSt} (hM : PM M0 p N) (h : CS p N Z M0 b rb rl R M) (hb : R.1 ≠ 0) (d : Int32) : Ct G Y3_readAtom (D0 + 2) 0 0 [.ref 102, .int d] M (Rv none M) NX := by
  have hS' := (hM.sq h.1).1
  have n : ∀ k, ¬ rIs Z k R := fun k z => hb z.1
  refine Ct.of k3_readAtom.1 (Nat.le_of_ble_eq_true rfl) ?_
  refine v_aload_n dX3_readAtom_0 rfl ?_
  refine v_gets (v := .ref 29) dX3_readAtom_1 g3_102 (kT_z G (i := 29) (by decide) rfl) ?_
  refine v_cV [_] (c3_stF G M (k := 29) hM h (by decide) (n 29)) k3_stands dX3_readAtom_4 l3_72 (by first | exact hS'.1 _ _ rfl | assumption) (by decide) rfl (by omega) (Nat.le_of_ble_eq_true rfl) ?_
  refine v_if_eq 26 dX3_readAtom_7 (by decide) (fun h7 => ?_) (fun h7 => absurd rfl h7)
  refine v_aload_n dX3_readAtom_26 rfl ?_
  refine v_gets (v := .ref 12) dX3_readAtom_27 g3_248 (kT_z G (i := 12) (by decide) rfl) ?_
  refine v_cV [_] (c3_tkF G M (k := 12) hM h (by decide) (n 12)) k3_takeIf dX3_readAtom_30 l3_132 (by first | exact hS'.1 _ _ rfl | assumption) (by decide) rfl (by omega) (Nat.le_of_ble_eq_true rfl) ?_
  refine v_if_eq 66 dX3_readAtom_33 (by decide) (fun h33 => ?_) (fun h33 => absurd rfl h33)
  refine v_aload_n dX3_readAtom_66 rfl ?_
  refine v_gets (v := .ref 13) dX3_readAtom_67 g3_254 (kT_z G (i := 13) (by decide) rfl) ?_
  refine v_cV [_] (c3_tkF G M (k := 13) hM h (by decide) (n 13)) k3_takeIf dX3_readAtom_70 l3_132 (by first | exact hS'.1 _ _ rfl | assumption) (by decide) rfl (by omega) (Nat.le_of_ble_eq_true rfl) ?_
  refine v_if_eq 105 dX3_readAtom_73 (by decide) (fun h73 => ?_) (fun h73 => absurd rfl h73)
  refine v_aload_n dX3_readAtom_105 rfl ?_
  refine v_gets (v := .ref 14) dX3_readAtom_106 g3_257 (kT_z G (i := 14) (by decide) rfl) ?_
  refine v_cV [_] (c3_tkF G M (k := 14) hM h (by decide) (n 14)) k3_takeIf dX3_readAtom_109 l3_132 (by first | exact hS'.1 _ _ rfl | assumption) (by decide) rfl (by omega) (Nat.le_of_ble_eq_true rfl) ?_
  refine v_if_eq 138 dX3_readAtom_112 (by decide) (fun h112 => ?_) (fun h112 => absurd rfl h112)
  refine v_aload_n dX3_readAtom_138 rfl ?_
  refine v_gets (v := .ref 15) dX3_readAtom_139 g3_260 (kT_z G (i := 15) (by decide) rfl) ?_
  refine v_cV [_] (c3_tkF G M (k := 15) hM h (by decide) (n 15)) k3_takeIf dX3_readAtom_142 l3_132 (by first | exact hS'.1 _ _ rfl | assumption) (by decide) rfl (by omega) (Nat.le_of_ble_eq_true rfl) ?_
  refine v_if_eq 171 dX3_readAtom_145 (by decide) (fun h145 => ?_) (fun h145 => absurd rfl h145)
  refine v_aload_n dX3_readAtom_171 rfl ?_
  refine v_gets (v := .ref 16) dX3_readAtom_172 g3_263 (kT_z G (i := 16) (by decide) rfl) ?_
  refine v_cV [_] (c3_tkF G M (k := 16) hM h (by decide) (n 16)) k3_takeIf dX3_readAtom_175 l3_132 (by first | exact hS'.1 _ _ rfl | assumption) (by decide) rfl (by omega) (Nat.le_of_ble_eq_true rfl) ?_
  refine v_if_eq 190 dX3_readAtom_178 (by decide) (fun h178 => ?_) (fun h178 => absurd rfl h178)
  refine v_aload_n dX3_readAtom_190 rfl ?_
  refine v_gets (v := .ref 22) dX3_readAtom_191 g3_266 (kT_z G (i := 22) (by decide) rfl) ?_
  refine v_cV [_] (c3_stF G M (k := 22) hM h (by decide) (n 22)) k3_stands dX3_readAtom_194 l3_72 (by first | exact hS'.1 _ _ rfl | assumption) (by decide) rfl (by omega) (Nat.le_of_ble_eq_true rfl) ?_
  refine v_if_ne 208 dX3_readAtom_197 (by decide) (fun h197 => absurd rfl h197) (fun h197 => ?_)
  refine v_aload_n dX3_readAtom_200 rfl ?_
  refine v_iconst 2 dX3_readAtom_201 (by decide) ?_
  refine v_cVv [_] (c3_failB G M hM h hb 2) k3_fail dX3_readAtom_202 l3_99 (by first | exact hS'.1 _ _ rfl | assumption) (by decide) rfl (by omega) (Nat.le_of_ble_eq_true rfl) ?_
  refine v_goto 230 dX3_readAtom_205 (by decide) ?_
  refine v_vret dX3_readAtom_230 rfl ?_
  exact ⟨rfl, rfl⟩
theorem c3_suB {p N D0 : Nat} {Z : (Nat → Nat) × Nat} {M0 : mM} {b : Bool} {rb rl : Nat} {R : RSt} (hM : PM M0 p N) (h : CS p N Z M0 b rb rl R M) (hb : R.1 ≠ 0) (d : Int32) : Ct G Y3_readSum (D0 + 3) 0 0 [.ref 102, .int d] M (Rv none M) NX := by
  have hS' := (hM.sq h.1).1
  have n : ∀ k, ¬ rIs Z k R := fun k z => hb z.1
  refine Ct.of k3_readSum.1 (Nat.le_of_ble_eq_true rfl) ?_
  refine v_iconst (-1) dX3_readSum_0 (by decide) ?_
  refine v_istore_n dX3_readSum_1 rfl (by decide) ?_
  refine v_aload_n dX3_readSum_2 rfl ?_
  refine v_iload_n dX3_readSum_3 rfl ?_
  refine v_cVv [_] (c3_atB (D0 := D0) G M hM h hb d) k3_readAtom dX3_readSum_4 l3_236 (by first | exact hS'.1 _ _ rfl | assumption) (by decide) rfl (by omega) (Nat.le_of_ble_eq_true rfl) ?_
  refine v_iconst 0 dX3_readSum_7 (by decide) ?_
  refine v_istore_n dX3_readSum_8 rfl (by decide) ?_
  refine v_iload_n dX3_readSum_9 rfl ?_
  refine v_sipush 900 dX3_readSum_10 (by decide) ?_
  refine v_icmp_ge 118 dX3_readSum_13 (by decide) (fun h13 => absurd h13 (by decide)) (fun h13 => ?_)
  refine v_aload_n dX3_readSum_16 rfl ?_
  refine v_gets (v := .ref 21) dX3_readSum_17 g3_239 (kT_z G (i := 21) (by decide) rfl) ?_
  refine v_cV [_] (c3_stF G M (k := 21) hM h (by decide) (n 21)) k3_stands dX3_readSum_20 l3_72 (by first | exact hS'.1 _ _ rfl | assumption) (by decide) rfl (by omega) (Nat.le_of_ble_eq_true rfl) ?_
  refine v_if_ne 46 dX3_readSum_23 (by decide) (fun h23 => absurd rfl h23) (fun h23 => ?_)
  refine v_aload_n dX3_readSum_26 rfl ?_
  refine v_gets (v := .ref 19) dX3_readSum_27 g3_242 (kT_z G (i := 19) (by decide) rfl) ?_
  refine v_cV [_] (c3_stF G M (k := 19) hM h (by decide) (n 19)) k3_stands dX3_readSum_30 l3_72 (by first | exact hS'.1 _ _ rfl | assumption) (by decide) rfl (by omega) (Nat.le_of_ble_eq_true rfl) ?_
  refine v_if_ne 46 dX3_readSum_33 (by decide) (fun h33 => absurd rfl h33) (fun h33 => ?_)
  refine v_aload_n dX3_readSum_36 rfl ?_
  refine v_gets (v := .ref 20) dX3_readSum_37 g3_245 (kT_z G (i := 20) (by decide) rfl) ?_
  refine v_cV [_] (c3_stF G M (k := 20) hM h (by decide) (n 20)) k3_stands dX3_readSum_40 l3_72 (by first | exact hS'.1 _ _ rfl | assumption) (by decide) rfl (by omega) (Nat.le_of_ble_eq_true rfl) ?_
  refine v_if_eq 118 dX3_readSum_43 (by decide) (fun h43 => ?_) (fun h43 => absurd rfl h43)
  refine v_iload_n dX3_readSum_118 rfl ?_
  refine v_iconst (-1) dX3_readSum_119 (by decide) ?_
  refine v_icmp_eq 129 dX3_readSum_120 (by decide) (fun h120 => ?_) (fun h120 => absurd rfl h120)
  refine v_vret dX3_readSum_129 rfl ?_
  exact ⟨rfl, rfl⟩
end CA
section CB
variable (G : mG)
theorem c3_atG {p N D0 : Nat} {Z : (Nat → Nat) × Nat} {M0 : mM} {dd : Int32} {inn : RSt → RSt} (hM : PM M0 p N) (hD : 2 ≤ D0) (hi : ∀ R M, CS p N Z M0 true 0 0 R M → IV Z R → KI R.2.2.2 → rIs Z 22 R → V G Y3_readAtom D0 0 0 (Rs none (CS p N Z M0 true 0 0 (inn R))) NX 208 [some (.ref 102), some (.int dd)] [] M) : ∀ R M, CS p N Z M0 true 0 0 R M → IV Z R → KI R.2.2.2 → Ct G Y3_readAtom D0 0 0 [.ref 102, .int dd] M (Rs none (CS p N Z M0 true 0 0 (ats Z inn R))) NX := by
  intro R M h hI hK
  have hPM := hM.sq h.1
  have hS' := hPM.1
  have hm := hI.2.2.2.2.1
  unfold ats
  by_cases h0 : R.1 = 0
  · rw [if_neg (Decidable.not_not.mpr h0)]
    have nx : kd Z R.2.2.1 ≠ 32 → gs Z 1 R (rnx R) := fun q => gs.nx hI q
    have hk7 := hI.2.2.2.1
    have mk1 : ∀ (S : RSt) M2 (b1 b2 : Nat), CS p N Z M0 true b1 b2 S M2 → kn S.2.2.2 1 = kn R.2.2.2 1 → gI M2 p 1 - 1 = nI (kn R.2.2.2 1 - 1) := fun S M2 b1 b2 hs he => by
      rw [hs.2.2.2.1, he]; exact nSub (b := 1) hm.2.1
    refine Ct.of k3_readAtom.1 (Nat.le_of_ble_eq_true rfl) ?_
    by_cases k29 : kd Z R.2.2.1 = 29
    · rw [if_neg (by omega), if_neg (by omega), if_neg (by omega), if_neg (by omega), if_neg (by omega), if_neg (by omega)]
      have gn := gs.nu (lo := 0) (hi := 999) hI
      have hr := rnv_rng (Z := Z) (lo := 0) (hi := 999) (R := R) (by omega)
      generalize rnv Z 0 999 R = v at hr ⊢
      sorry
    · sorry
  · rw [if_pos h0]
    have := c3_atB (D0 := D0 - 2) G M hM h h0 dd
    rw [show D0 - 2 + 2 = D0 by omega] at this
    exact this.post (fun _ _ q => ⟨q.1, by rw [q.2]; exact h⟩) (fun _ _ z => z)
end CB
