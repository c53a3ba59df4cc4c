/-! ===== the class's parser: readSum, readTruth: what waits ===== -/
def lyW (w : Nat) (S : RSt) : RSt := if w = 0 then S else rly (nI w) S
def fnS (Z : (Nat → Nat) × Nat) (a : RSt → RSt) (w : Nat) (S : RSt) : RSt := itr (pmB Z) (fun R => rly (if kd Z R.2.2.1 = 19 then nI 10 else nI 11) (trm Z a (rnx R))) 901 (lyW w (itr (fun R => decide (rIs Z 21 R)) (fun R => rly (nI 12) (a (rnx R))) 901 S))
def fnT (Z : (Nat → Nat) × Nat) (u : RSt → RSt) (w : Nat) (S : RSt) : RSt := itr (fun R => decide (rIs Z 9 R)) (fun R => rly (nI 17) (bth Z u (rnx R))) 901 (lyW w (itr (fun R => decide (rIs Z 10 R)) (fun R => rly (nI 16) (u (rnx R))) 901 S))
theorem rly_1 (x : Int32) (S : RSt) : (rly x S).1 = S.1 ∧ (rly x S).2.2.1 = S.2.2.1 := by
  unfold rly
  split <;> exact ⟨rfl, rfl⟩
theorem IV.ly {Z : (Nat → Nat) × Nat} {S : RSt} (h : IV Z S) (hs : kn S.2.2.2 7 < S.2.2.1) (hK : KI S.2.2.2) (x : Int32) : IV Z (rly x S) ∧ KI (rly x S).2.2.2 := by
  have hR : IV Z (S.1, S.2.1, S.2.2.1 - 1, S.2.2.2) := by
    obtain ⟨a1, a2, a3, a4, a5, a6⟩ := h
    exact ⟨a1, by show S.2.2.1 - 1 ≤ Z.2; omega, a3, by show kn S.2.2.2 7 ≤ S.2.2.1 - 1; omega, a5, a6⟩
  have g : gs Z 1 (S.1, S.2.1, S.2.2.1 - 1, S.2.2.2) S := ⟨h, by show S.2.2.1 - 1 ≤ S.2.2.1; omega, by show kn S.2.2.2 7 + (S.2.2.1 - 1) + 1 ≤ kn S.2.2.2 7 + S.2.2.1 ∧ kn S.2.2.2 7 ≤ kn S.2.2.2 7; omega, fun _ _ _ => rfl⟩
  have g2 := gs.ly (x := x) hR (g.wk (Nat.zero_le _)) (fun _ => g)
  exact ⟨g2.1, KI.gs (R := (S.1, S.2.1, S.2.2.1 - 1, S.2.2.2)) hK g2⟩
theorem lyW_1 (w : Nat) (S : RSt) : (lyW w S).1 = S.1 ∧ (lyW w S).2.2.1 = S.2.2.1 := by
  unfold lyW
  split
  · exact ⟨rfl, rfl⟩
  · exact rly_1 _ _
theorem lyW_I {Z : (Nat → Nat) × Nat} {S : RSt} {w : Nat} (h : IV Z S) (hs : kn S.2.2.2 7 + (if w = 0 then 0 else 1) ≤ S.2.2.1) (hK : KI S.2.2.2) : IV Z (lyW w S) ∧ KI (lyW w S).2.2.2 := by
  unfold lyW
  split
  · exact ⟨h, hK⟩
  · rename_i q
    rw [if_neg q] at hs
    exact h.ly (by omega) hK _
section CS1
variable (G : mG)
theorem c3_sum {p N D0 : Nat} {Z : (Nat → Nat) × Nat} {M0 : mM} {dd : Int32} {a : RSt → RSt} (hM : PM M0 p N) (hD : 2 ≤ D0) (hg : gok Z a) (ha : ∀ R M, CS p N Z M0 true 0 0 R M → IV Z R → KI R.2.2.2 → Ct G Y3_readAtom D0 0 0 [.ref 102, .int dd] M (Rs none (CS p N Z M0 true 0 0 (a R))) NX) : ∀ R M, CS p N Z M0 true 0 0 R M → IV Z R → KI R.2.2.2 → Ct G Y3_readSum (D0 + 1) 0 0 [.ref 102, .int dd] M (Rs none (CS p N Z M0 true 0 0 (sms Z a R))) NX := by
  have loop : ∀ n i S w M, Z.2 + 1 ≤ S.2.2.1 + n → i ≤ S.2.2.1 → IV Z S → KI S.2.2.2 → (w = 0 ∨ w = 10 ∨ w = 11) → kn S.2.2.2 7 + (if w = 0 then 0 else 1) ≤ S.2.2.1 → CS p N Z M0 true 0 0 S M → V G Y3_readSum (D0 + 1) 0 0 (Rs none (CS p N Z M0 true 0 0 (fnS Z a w S))) NX 9 [some (.ref 102), some (.int dd), some (.int (if w = 0 then -1 else if w = 10 then 12 else 13)), some (.int (nI i))] [] M := by
    intro n
    induction n with
    | zero => intro i S w M h1 h2 h3; have := h3.2.1; omega
    | succ n ih =>
      intro i S w M hn hi hI hK hw hs h
      have hS' := (hM.sq h.1).1
      have h900 := hI.2.2.2.2.2
      have hiz := hI.2.1
      have lI := lyW_I hI hs hK
      have l1 := lyW_1 w S
      -- what waits is emitted
      have emi : w ≠ 0 → Ct G Y3_emit 0 0 0 [.ref 102, .int (if w = 0 then -1 else if w = 10 then 12 else 13), .int 0] M (Rs none (CS p N Z M0 true 0 0 (lyW w S))) NX := by
        intro hw0
        rw [if_neg hw0] at hs
        have := c3_emitZ G M (s := w) (x := if w = 0 then -1 else if w = 10 then 12 else 13) (y := 0) hM h hI (fun _ => by omega) hK (by omega) (by rcases hw with q | q | q <;> subst q <;> first | exact absurd rfl hw0 | decide) (fun _ => (rdb_o (by omega)).1) (fun _ => (rdb_o (by omega)).2)
        rw [show lyW w S = rly (nI w) S from if_neg hw0]
        exact this
      have out : ¬ rIs Z 21 S → ¬ rIs Z 19 S → ¬ rIs Z 20 S → V G Y3_readSum (D0 + 1) 0 0 (Rs none (CS p N Z M0 true 0 0 (fnS Z a w S))) NX 118 [some (.ref 102), some (.int dd), some (.int (if w = 0 then -1 else if w = 10 then 12 else 13)), some (.int (nI i))] [] M := by
        intro n21 n19 n20
        have e : fnS Z a w S = lyW w S := by
          unfold fnS
          rw [trm_un hg hI, if_neg n21, sms_un hg lI.1, if_neg (fun z => by rcases z with ⟨z1, z2⟩ | ⟨z1, z2⟩ <;> (rw [l1.1] at z1; rw [l1.2] at z2); exact n19 ⟨z1, z2⟩; exact n20 ⟨z1, z2⟩)]
        rw [e]
        by_cases hw0 : w = 0
        · subst hw0
          refine v_iload_n dX3_readSum_118 rfl ?_
          refine v_iconst (-1) dX3_readSum_119 (by decide) ?_
          refine v_icmp_eq 129 dX3_readSum_120 (by decide) (fun h120 => ?_) (fun h120 => absurd rfl h120)
          refine v_vret dX3_readSum_129 rfl ?_
          exact ⟨rfl, h⟩
        · refine v_iload_n dX3_readSum_118 rfl ?_
          refine v_iconst (-1) dX3_readSum_119 (by decide) ?_
          refine v_icmp_eq 129 dX3_readSum_120 (by decide) (fun h120 => absurd h120 (by rcases hw with q | q | q <;> subst q <;> first | exact absurd rfl hw0 | decide)) (fun h120 => ?_)
          refine v_aload_n dX3_readSum_123 rfl ?_
          refine v_iload_n dX3_readSum_124 rfl ?_
          refine v_iconst 0 dX3_readSum_125 (by decide) ?_
          refine v_scVv [_, _] (emi hw0) k3_emit dX3_readSum_126 l3_203 (by first | exact hS'.1 _ _ rfl | assumption) (by decide) rfl (by omega) (Nat.le_of_ble_eq_true rfl) ?_
          intro M2 hM2
          refine v_vret dX3_readSum_129 rfl ?_
          exact ⟨rfl, hM2⟩
      by_cases h9 : i < 900
      · by_cases k21 : rIs Z 21 S
        · have hk : kd Z S.2.2.1 ≠ 32 := by have := k21.2; omega
          have g1 := gs.nx hI hk
          have g2 := (hg _ g1.1).1
          have gt := g1.tr g2 (Nat.le_refl _)
          have g3 := op_ok hg hI hk (nI 12)
          have e : fnS Z a w S = fnS Z a w (rly (nI 12) (a (rnx S))) := by
            unfold fnS
            rw [trm_un hg hI, if_pos k21]
          rw [e]
          have next := fun M4 hM4 => ih (i + 1) (rly (nI 12) (a (rnx S))) w M4 (by omega) (by omega) g3.1.1 (hK.gs g3.1) hw (by have := g3.1.2.2.1; split at hs <;> (rename_i q; first | rw [if_pos q] | rw [if_neg q]) <;> omega) hM4
          refine v_iload_n dX3_readSum_9 rfl ?_
          refine v_sipush 900 dX3_readSum_10 (by decide) ?_
          refine v_icmp_ge 118 dX3_readSum_13 (by decide) (fun h13 => absurd ((nI_leI (a := 900) (by omega) (by omega)).mp h13) (by omega)) (fun h13 => ?_)
          refine v_aload_n dX3_readSum_16 rfl ?_
          refine v_gets (v := .ref 21) dX3_readSum_17 g3_239 (kT_z G (i := 21) (by decide) rfl) ?_
          refine v_cV [_] (c3_stT G M (k := 21) hM h (by decide) k21) k3_stands dX3_readSum_20 l3_72 (by first | exact hS'.1 _ _ rfl | assumption) (by decide) rfl (by omega) (Nat.le_of_ble_eq_true rfl) ?_
          refine v_if_ne 46 dX3_readSum_23 (by decide) (fun h23 => ?_) (fun h23 => absurd (show ¬ (1 : Int32) = 0 by decide) h23)
          refine v_aload_n dX3_readSum_46 rfl ?_
          refine v_gets (v := .ref 21) dX3_readSum_47 g3_239 (kT_z G (i := 21) (by decide) rfl) ?_
          refine v_scV [_] (c3_tkT G M (k := 21) hM h (by decide) k21) k3_takeIf dX3_readSum_50 l3_132 (by first | exact hS'.1 _ _ rfl | assumption) (by decide) rfl (by omega) (Nat.le_of_ble_eq_true rfl) ?_
          intro M2 hM2; have hS' := (hM.sq hM2.1).1
          refine v_if_eq 71 dX3_readSum_53 (by decide) (fun h53 => absurd h53 (by decide)) (fun h53 => ?_)
          refine v_aload_n dX3_readSum_56 rfl ?_
          refine v_iload_n dX3_readSum_57 rfl ?_
          refine v_scVv [_] (ha _ M2 hM2 g1.1 (hK.gs g1)) k3_readAtom dX3_readSum_58 l3_236 (by first | exact hS'.1 _ _ rfl | assumption) (by decide) rfl (by omega) (Nat.le_of_ble_eq_true rfl) ?_
          intro M3 hM3; have hS' := (hM.sq hM3.1).1
          refine v_aload_n dX3_readSum_61 rfl ?_
          refine v_bipush 14 dX3_readSum_62 (by decide) ?_
          refine v_iconst 0 dX3_readSum_64 (by decide) ?_
          refine v_scVv [_, _] (c3_emitZ G M3 (s := 12) hM hM3 g2.1 (fun _ => by have := gt.2.2.1; have := hI.2.2.2.1; omega) (hK.gs gt) (by decide) (by decide) (fun _ => (rdb_o (by omega)).1) (fun _ => (rdb_o (by omega)).2)) k3_emit dX3_readSum_65 l3_203 (by first | exact hS'.1 _ _ rfl | assumption) (by decide) rfl (by omega) (Nat.le_of_ble_eq_true rfl) ?_
          intro M4 hM4
          refine v_goto 112 dX3_readSum_68 (by decide) ?_
          refine v_iinc 1 dX3_readSum_112 rfl (by decide) rfl (by decide) ?_
          refine v_goto 9 dX3_readSum_115 (by decide) ?_
          (rw [nI_1]; exact next M4 hM4)
        · by_cases kpm : rIs Z 19 S ∨ rIs Z 20 S
          · have hb : S.1 = 0 := by rcases kpm with q | q <;> exact q.1
            have hk : kd Z S.2.2.1 ≠ 32 := by rcases kpm with q | q <;> (have := q.2; omega)
            have kpm1 : rIs Z 19 (lyW w S) ∨ rIs Z 20 (lyW w S) := by rcases kpm with ⟨q1, q2⟩ | ⟨q1, q2⟩; exact Or.inl ⟨l1.1.trans q1, l1.2 ▸ q2⟩; exact Or.inr ⟨l1.1.trans q1, l1.2 ▸ q2⟩
            have hk1 : kd Z (lyW w S).2.2.1 ≠ 32 := by rw [l1.2]; exact hk
            have g1 := gs.nx lI.1 hk1
            have g2 := (hg _ g1.1).1
            have gt := g1.tr g2 (Nat.le_refl _)
            -- from the sign on, with what was waiting emitted
            have sign : ∀ M2, CS p N Z M0 true 0 0 (lyW w S) M2 → V G Y3_readSum (D0 + 1) 0 0 (Rs none (CS p N Z M0 true 0 0 (fnS Z a w S))) NX 82 [some (.ref 102), some (.int dd), some (.int (if w = 0 then -1 else if w = 10 then 12 else 13)), some (.int (nI i))] [] M2 := by
              intro M2 h2
              have hS' := (hM.sq h2.1).1
              have e : fnS Z a w S = fnS Z a (if kd Z (lyW w S).2.2.1 = 19 then 10 else 11) (a (rnx (lyW w S))) := by
                unfold fnS
                rw [trm_un hg hI, if_neg k21, sms_un hg lI.1, if_pos kpm1]
                congr 1
                unfold trm
                by_cases q : kd Z (lyW w S).2.2.1 = 19
                · rw [if_pos q, if_pos q]; rfl
                · rw [if_neg q, if_neg q]; rfl
              rw [e]
              have hsl : kn (a (rnx (lyW w S))).2.2.2 7 + 1 ≤ (a (rnx (lyW w S))).2.2.1 := by have := gt.2.2.1; have := lI.1.2.2.2.1; omega
              by_cases k19 : rIs Z 19 (lyW w S)
              · rw [if_pos k19.2]
                have next := fun M4 hM4 => ih (i + 1) (a (rnx (lyW w S))) 10 M4 (by have := gt.2.2.1; have := g2.2.1; have : (rnx (lyW w S)).2.2.1 = S.2.2.1 + 1 := congrArg (· + 1) l1.2; omega) (by have := g2.2.1; have : (rnx (lyW w S)).2.2.1 = S.2.2.1 + 1 := congrArg (· + 1) l1.2; omega) g2.1 (lI.2.gs gt) (Or.inr (Or.inl rfl)) hsl hM4
                refine v_aload_n dX3_readSum_82 rfl ?_
                refine v_gets (v := .ref 19) dX3_readSum_83 g3_242 (kT_z G (i := 19) (by decide) rfl) ?_
                refine v_cV [_] (c3_stT G M2 (k := 19) hM h2 (by decide) k19) k3_stands dX3_readSum_86 l3_72 (by first | exact hS'.1 _ _ rfl | assumption) (by decide) rfl (by omega) (Nat.le_of_ble_eq_true rfl) ?_
                refine v_if_eq 97 dX3_readSum_89 (by decide) (fun h89 => absurd h89 (by decide)) (fun h89 => ?_)
                refine v_bipush 12 dX3_readSum_92 (by decide) ?_
                refine v_goto 99 dX3_readSum_94 (by decide) ?_
                refine v_istore_n dX3_readSum_99 rfl (by decide) ?_
                refine v_aload_n dX3_readSum_100 rfl ?_
                refine v_getR 3 0 _ dX3_readSum_101 f3_12 (by first | exact hS'.1 _ _ rfl | assumption) (by decide) (by first | exact hS'.2 _ _ _ rfl | assumption) ?_
                refine v_scVv [] (c3_nx G M2 hM h2 k19.1 hk1) k9_next dX3_readSum_104 l3_96 (by first | exact hS'.1 _ _ rfl | assumption) (by decide) rfl (by omega) (Nat.le_of_ble_eq_true rfl) ?_
                intro M3 hM3; have hS' := (hM.sq hM3.1).1
                refine v_aload_n dX3_readSum_107 rfl ?_
                refine v_iload_n dX3_readSum_108 rfl ?_
                refine v_scVv [_] (ha _ M3 hM3 g1.1 (lI.2.gs g1)) k3_readAtom dX3_readSum_109 l3_236 (by first | exact hS'.1 _ _ rfl | assumption) (by decide) rfl (by omega) (Nat.le_of_ble_eq_true rfl) ?_
                intro M4 hM4
                refine v_iinc 1 dX3_readSum_112 rfl (by decide) rfl (by decide) ?_
                refine v_goto 9 dX3_readSum_115 (by decide) ?_
                (rw [nI_1]; exact next M4 hM4)
              · have k20 : rIs Z 20 (lyW w S) := kpm1.resolve_left k19
                rw [if_neg (by have := k20.2; omega)]
                have next := fun M4 hM4 => ih (i + 1) (a (rnx (lyW w S))) 11 M4 (by have := gt.2.2.1; have := g2.2.1; have : (rnx (lyW w S)).2.2.1 = S.2.2.1 + 1 := congrArg (· + 1) l1.2; omega) (by have := g2.2.1; have : (rnx (lyW w S)).2.2.1 = S.2.2.1 + 1 := congrArg (· + 1) l1.2; omega) g2.1 (lI.2.gs gt) (Or.inr (Or.inr rfl)) hsl hM4
                refine v_aload_n dX3_readSum_82 rfl ?_
                refine v_gets (v := .ref 19) dX3_readSum_83 g3_242 (kT_z G (i := 19) (by decide) rfl) ?_
                refine v_cV [_] (c3_stF G M2 (k := 19) hM h2 (by decide) k19) k3_stands dX3_readSum_86 l3_72 (by first | exact hS'.1 _ _ rfl | assumption) (by decide) rfl (by omega) (Nat.le_of_ble_eq_true rfl) ?_
                refine v_if_eq 97 dX3_readSum_89 (by decide) (fun h89 => ?_) (fun h89 => absurd rfl h89)
                refine v_bipush 13 dX3_readSum_97 (by decide) ?_
                refine v_istore_n dX3_readSum_99 rfl (by decide) ?_
                refine v_aload_n dX3_readSum_100 rfl ?_
                refine v_getR 3 0 _ dX3_readSum_101 f3_12 (by first | exact hS'.1 _ _ rfl | assumption) (by decide) (by first | exact hS'.2 _ _ _ rfl | assumption) ?_
                refine v_scVv [] (c3_nx G M2 hM h2 k20.1 hk1) k9_next dX3_readSum_104 l3_96 (by first | exact hS'.1 _ _ rfl | assumption) (by decide) rfl (by omega) (Nat.le_of_ble_eq_true rfl) ?_
                intro M3 hM3; have hS' := (hM.sq hM3.1).1
                refine v_aload_n dX3_readSum_107 rfl ?_
                refine v_iload_n dX3_readSum_108 rfl ?_
                refine v_scVv [_] (ha _ M3 hM3 g1.1 (lI.2.gs g1)) k3_readAtom dX3_readSum_109 l3_236 (by first | exact hS'.1 _ _ rfl | assumption) (by decide) rfl (by omega) (Nat.le_of_ble_eq_true rfl) ?_
                intro M4 hM4
                refine v_iinc 1 dX3_readSum_112 rfl (by decide) rfl (by decide) ?_
                refine v_goto 9 dX3_readSum_115 (by decide) ?_
                (rw [nI_1]; exact next M4 hM4)
            have wait : V G Y3_readSum (D0 + 1) 0 0 (Rs none (CS p N Z M0 true 0 0 (fnS Z a w S))) NX 46 [some (.ref 102), some (.int dd), some (.int (if w = 0 then -1 else if w = 10 then 12 else 13)), some (.int (nI i))] [] M := by
              by_cases hw0 : w = 0
              · subst hw0
                refine v_aload_n dX3_readSum_46 rfl ?_
                refine v_gets (v := .ref 21) dX3_readSum_47 g3_239 (kT_z G (i := 21) (by decide) rfl) ?_
                refine v_cV [_] (c3_tkF G M (k := 21) hM h (by decide) k21) k3_takeIf dX3_readSum_50 l3_132 (by first | exact hS'.1 _ _ rfl | assumption) (by decide) rfl (by omega) (Nat.le_of_ble_eq_true rfl) ?_
                refine v_if_eq 71 dX3_readSum_53 (by decide) (fun h53 => ?_) (fun h53 => absurd rfl h53)
                refine v_iload_n dX3_readSum_71 rfl ?_
                refine v_iconst (-1) dX3_readSum_72 (by decide) ?_
                refine v_icmp_eq 82 dX3_readSum_73 (by decide) (fun h73 => ?_) (fun h73 => absurd rfl h73)
                exact sign M h
              · refine v_aload_n dX3_readSum_46 rfl ?_
                refine v_gets (v := .ref 21) dX3_readSum_47 g3_239 (kT_z G (i := 21) (by decide) rfl) ?_
                refine v_cV [_] (c3_tkF G M (k := 21) hM h (by decide) k21) k3_takeIf dX3_readSum_50 l3_132 (by first | exact hS'.1 _ _ rfl | assumption) (by decide) rfl (by omega) (Nat.le_of_ble_eq_true rfl) ?_
                refine v_if_eq 71 dX3_readSum_53 (by decide) (fun h53 => ?_) (fun h53 => absurd rfl h53)
                refine v_iload_n dX3_readSum_71 rfl ?_
                refine v_iconst (-1) dX3_readSum_72 (by decide) ?_
                refine v_icmp_eq 82 dX3_readSum_73 (by decide) (fun h73 => absurd h73 (by rcases hw with q | q | q <;> subst q <;> first | exact absurd rfl hw0 | decide)) (fun h73 => ?_)
                refine v_aload_n dX3_readSum_76 rfl ?_
                refine v_iload_n dX3_readSum_77 rfl ?_
                refine v_iconst 0 dX3_readSum_78 (by decide) ?_
                refine v_scVv [_, _] (emi hw0) k3_emit dX3_readSum_79 l3_203 (by first | exact hS'.1 _ _ rfl | assumption) (by decide) rfl (by omega) (Nat.le_of_ble_eq_true rfl) ?_
                intro M2 hM2
                exact sign M2 hM2
            by_cases k19 : rIs Z 19 S
            · refine v_iload_n dX3_readSum_9 rfl ?_
              refine v_sipush 900 dX3_readSum_10 (by decide) ?_
              refine v_icmp_ge 118 dX3_readSum_13 (by decide) (fun h13 => absurd ((nI_leI (a := 900) (by omega) (by omega)).mp h13) (by omega)) (fun h13 => ?_)
              refine v_aload_n dX3_readSum_16 rfl ?_
              refine v_gets (v := .ref 21) dX3_readSum_17 g3_239 (kT_z G (i := 21) (by decide) rfl) ?_
              refine v_cV [_] (c3_stF G M (k := 21) hM h (by decide) k21) k3_stands dX3_readSum_20 l3_72 (by first | exact hS'.1 _ _ rfl | assumption) (by decide) rfl (by omega) (Nat.le_of_ble_eq_true rfl) ?_
              refine v_if_ne 46 dX3_readSum_23 (by decide) (fun h23 => absurd rfl h23) (fun h23 => ?_)
              refine v_aload_n dX3_readSum_26 rfl ?_
              refine v_gets (v := .ref 19) dX3_readSum_27 g3_242 (kT_z G (i := 19) (by decide) rfl) ?_
              refine v_cV [_] (c3_stT G M (k := 19) hM h (by decide) k19) k3_stands dX3_readSum_30 l3_72 (by first | exact hS'.1 _ _ rfl | assumption) (by decide) rfl (by omega) (Nat.le_of_ble_eq_true rfl) ?_
              refine v_if_ne 46 dX3_readSum_33 (by decide) (fun h33 => ?_) (fun h33 => absurd (show ¬ (1 : Int32) = 0 by decide) h33)
              exact wait
            · have k20 : rIs Z 20 S := kpm.resolve_left k19
              refine v_iload_n dX3_readSum_9 rfl ?_
              refine v_sipush 900 dX3_readSum_10 (by decide) ?_
              refine v_icmp_ge 118 dX3_readSum_13 (by decide) (fun h13 => absurd ((nI_leI (a := 900) (by omega) (by omega)).mp h13) (by omega)) (fun h13 => ?_)
              refine v_aload_n dX3_readSum_16 rfl ?_
              refine v_gets (v := .ref 21) dX3_readSum_17 g3_239 (kT_z G (i := 21) (by decide) rfl) ?_
              refine v_cV [_] (c3_stF G M (k := 21) hM h (by decide) k21) k3_stands dX3_readSum_20 l3_72 (by first | exact hS'.1 _ _ rfl | assumption) (by decide) rfl (by omega) (Nat.le_of_ble_eq_true rfl) ?_
              refine v_if_ne 46 dX3_readSum_23 (by decide) (fun h23 => absurd rfl h23) (fun h23 => ?_)
              refine v_aload_n dX3_readSum_26 rfl ?_
              refine v_gets (v := .ref 19) dX3_readSum_27 g3_242 (kT_z G (i := 19) (by decide) rfl) ?_
              refine v_cV [_] (c3_stF G M (k := 19) hM h (by decide) k19) k3_stands dX3_readSum_30 l3_72 (by first | exact hS'.1 _ _ rfl | assumption) (by decide) rfl (by omega) (Nat.le_of_ble_eq_true rfl) ?_
              refine v_if_ne 46 dX3_readSum_33 (by decide) (fun h33 => absurd rfl h33) (fun h33 => ?_)
              refine v_aload_n dX3_readSum_36 rfl ?_
              refine v_gets (v := .ref 20) dX3_readSum_37 g3_245 (kT_z G (i := 20) (by decide) rfl) ?_
              refine v_cV [_] (c3_stT G M (k := 20) hM h (by decide) k20) k3_stands dX3_readSum_40 l3_72 (by first | exact hS'.1 _ _ rfl | assumption) (by decide) rfl (by omega) (Nat.le_of_ble_eq_true rfl) ?_
              refine v_if_eq 118 dX3_readSum_43 (by decide) (fun h43 => absurd h43 (by decide)) (fun h43 => ?_)
              exact wait
          · have n19 : ¬ rIs Z 19 S := fun z => kpm (Or.inl z)
            have n20 : ¬ rIs Z 20 S := fun z => kpm (Or.inr z)
            refine v_iload_n dX3_readSum_9 rfl ?_
            refine v_sipush 900 dX3_readSum_10 (by decide) ?_
            refine v_icmp_ge 118 dX3_readSum_13 (by decide) (fun h13 => absurd ((nI_leI (a := 900) (by omega) (by omega)).mp h13) (by omega)) (fun h13 => ?_)
            refine v_aload_n dX3_readSum_16 rfl ?_
            refine v_gets (v := .ref 21) dX3_readSum_17 g3_239 (kT_z G (i := 21) (by decide) rfl) ?_
            refine v_cV [_] (c3_stF G M (k := 21) hM h (by decide) k21) k3_stands dX3_readSum_20 l3_72 (by first | exact hS'.1 _ _ rfl | assumption) (by decide) rfl (by omega) (Nat.le_of_ble_eq_true rfl) ?_
            refine v_if_ne 46 dX3_readSum_23 (by decide) (fun h23 => absurd rfl h23) (fun h23 => ?_)
            refine v_aload_n dX3_readSum_26 rfl ?_
            refine v_gets (v := .ref 19) dX3_readSum_27 g3_242 (kT_z G (i := 19) (by decide) rfl) ?_
            refine v_cV [_] (c3_stF G M (k := 19) hM h (by decide) n19) k3_stands dX3_readSum_30 l3_72 (by first | exact hS'.1 _ _ rfl | assumption) (by decide) rfl (by omega) (Nat.le_of_ble_eq_true rfl) ?_
            refine v_if_ne 46 dX3_readSum_33 (by decide) (fun h33 => absurd rfl h33) (fun h33 => ?_)
            refine v_aload_n dX3_readSum_36 rfl ?_
            refine v_gets (v := .ref 20) dX3_readSum_37 g3_245 (kT_z G (i := 20) (by decide) rfl) ?_
            refine v_cV [_] (c3_stF G M (k := 20) hM h (by decide) n20) k3_stands dX3_readSum_40 l3_72 (by first | exact hS'.1 _ _ rfl | assumption) (by decide) rfl (by omega) (Nat.le_of_ble_eq_true rfl) ?_
            refine v_if_eq 118 dX3_readSum_43 (by decide) (fun h43 => ?_) (fun h43 => absurd rfl h43)
            exact out k21 n19 n20
      · have hend : kd Z S.2.2.1 = 32 := Decidable.byContradiction (fun z => by have := (kd_lt z).1; omega)
        have ne : ∀ k, k ≠ 32 → ¬ rIs Z k S := fun k hk z => hk (z.2.symm.trans hend)
        have hi9 : i ≤ 900 := by omega
        refine v_iload_n dX3_readSum_9 rfl ?_
        refine v_sipush 900 dX3_readSum_10 (by decide) ?_
        refine v_icmp_ge 118 dX3_readSum_13 (by decide) (fun h13 => ?_) (fun h13 => absurd (nI_le (a := 900) (by omega) (by omega)) h13)
        exact out (ne 21 (by decide)) (ne 19 (by decide)) (ne 20 (by decide))
  intro R M h hI hK
  have hS' := (hM.sq h.1).1
  have g := (hg R hI).1
  refine Ct.of k3_readSum.1 (Nat.le_of_ble_eq_true rfl) ?_
  refine v_iconst (-1) dX3_readSum_0 (by decide) ?_
  refine v_istore_n dX3_readSum_1 rfl (by decide) ?_
  refine v_aload_n dX3_readSum_2 rfl ?_
  refine v_iload_n dX3_readSum_3 rfl ?_
  refine v_scVv [_] (ha R M h hI hK) k3_readAtom dX3_readSum_4 l3_236 (by first | exact hS'.1 _ _ rfl | assumption) (by decide) rfl (by omega) (Nat.le_of_ble_eq_true rfl) ?_
  intro M2 hM2
  refine v_iconst 0 dX3_readSum_7 (by decide) ?_
  refine v_istore_n dX3_readSum_8 rfl (by decide) ?_
  exact loop (Z.2 + 1) 0 (a R) 0 M2 (by omega) (Nat.zero_le _) g.1 (hK.gs g) (Or.inl rfl) (by rw [if_pos rfl]; exact g.1.2.2.2.1) hM2
theorem c3_atm {p N : Nat} {Z : (Nat → Nat) × Nat} {M0 : mM} (hM : PM M0 p N) : ∀ L d, d + L = 6 → ∀ R M, CS p N Z M0 true 0 0 R M → IV Z R → KI R.2.2.2 → Ct G Y3_readAtom (2 + 2 * L) 0 0 [.ref 102, .int (nI d)] M (Rs none (CS p N Z M0 true 0 0 (atm Z L R))) NX := by
  intro L
  induction L with
  | zero =>
    intro d hd
    refine c3_atG G (inn := rbl Z 4) hM (by omega) (fun R M h hI hK hk => ?_)
    have hS' := (hM.sq h.1).1
    have hmn := c3_mayNest G M (d := d) hM h hk.1 (by have := hk.2; omega) (by omega)
    rw [bI_f (by omega), if_neg (by omega)] at hmn
    refine v_aload_n dX3_readAtom_208 rfl ?_
    refine v_iload_n dX3_readAtom_209 rfl ?_
    refine v_scV [_] (hmn) k3_mayNest dX3_readAtom_210 l3_210 (by first | exact hS'.1 _ _ rfl | assumption) (by decide) rfl (by omega) (Nat.le_of_ble_eq_true rfl) ?_
    intro M2 hM2
    refine v_if_eq 230 dX3_readAtom_213 (by decide) (fun h213 => ?_) (fun h213 => absurd rfl h213)
    refine v_vret dX3_readAtom_230 rfl ?_
    exact ⟨rfl, hM2⟩
  | succ L ih =>
    intro d hd
    refine c3_atG G (inn := fun R => rmu Z 23 (sms Z (atm Z L) (rnx R))) hM (by omega) (fun R M h hI hK hk => ?_)
    have hS' := (hM.sq h.1).1
    have hmn := c3_mayNest G M (d := d) hM h hk.1 (by have := hk.2; omega) (by omega)
    rw [bI_t (by omega), if_pos (by omega)] at hmn
    have g1 := gs.nx hI (by have := hk.2; omega)
    have hsum := c3_sum G (D0 := 2 + 2 * L) hM (by omega) (atm_ok Z L) (ih (d + 1) (by omega))
    refine v_aload_n dX3_readAtom_208 rfl ?_
    refine v_iload_n dX3_readAtom_209 rfl ?_
    refine v_scV [_] (hmn) k3_mayNest dX3_readAtom_210 l3_210 (by first | exact hS'.1 _ _ rfl | assumption) (by decide) rfl (by omega) (Nat.le_of_ble_eq_true rfl) ?_
    intro M2 hM2; have hS' := (hM.sq hM2.1).1
    refine v_if_eq 230 dX3_readAtom_213 (by decide) (fun h213 => absurd h213 (by decide)) (fun h213 => ?_)
    refine v_aload_n dX3_readAtom_216 rfl ?_
    refine v_iload_n dX3_readAtom_217 rfl ?_
    refine v_iconst 1 dX3_readAtom_218 (by decide) ?_
    refine v_iadd dX3_readAtom_219 ?_
    rw [nI_1]
    refine v_scVv [_] (hsum _ M2 hM2 g1.1 (hK.gs g1)) k3_readSum dX3_readAtom_220 l3_220 (by first | exact hS'.1 _ _ rfl | assumption) (by decide) rfl (by omega) (Nat.le_of_ble_eq_true rfl) ?_
    intro M3 hM3; have hS' := (hM.sq hM3.1).1
    refine v_aload_n dX3_readAtom_223 rfl ?_
    refine v_gets (v := .ref 23) dX3_readAtom_224 g3_269 (kT_z G (i := 23) (by decide) rfl) ?_
    refine v_scVv [_] (c3_take G M3 (k := 23) hM hM3 (by decide)) k3_take dX3_readAtom_227 l3_52 (by first | exact hS'.1 _ _ rfl | assumption) (by decide) rfl (by omega) (Nat.le_of_ble_eq_true rfl) ?_
    intro M4 hM4
    refine v_vret dX3_readAtom_230 rfl ?_
    exact ⟨rfl, hM4⟩
theorem c3_sumL {p N : Nat} {Z : (Nat → Nat) × Nat} {M0 : mM} (hM : PM M0 p N) {L d : Nat} (hd : d + L = 6) : ∀ R M, CS p N Z M0 true 0 0 R M → IV Z R → KI R.2.2.2 → Ct G Y3_readSum (3 + 2 * L) 0 0 [.ref 102, .int (nI d)] M (Rs none (CS p N Z M0 true 0 0 (sms Z (atm Z L) R))) NX := by
  have h := c3_sum G (D0 := 2 + 2 * L) (dd := nI d) hM (by omega) (atm_ok Z L) (c3_atm G hM L d hd)
  rw [show 2 + 2 * L + 1 = 3 + 2 * L by omega] at h
  exact h
theorem c3_tru {p N D0 : Nat} {Z : (Nat → Nat) × Nat} {M0 : mM} {dd : Int32} {u : RSt → RSt} (hM : PM M0 p N) (hD : 2 ≤ D0) (hg : gok Z u) (hu : ∀ R M, CS p N Z M0 true 0 0 R M → IV Z R → KI R.2.2.2 → Ct G Y3_readUnit D0 0 0 [.ref 102, .int dd] M (Rs none (CS p N Z M0 true 0 0 (u R))) NX) : ∀ R M, CS p N Z M0 true 0 0 R M → IV Z R → KI R.2.2.2 → Ct G Y3_readTruth (D0 + 1) 0 0 [.ref 102, .int dd] M (Rs none (CS p N Z M0 true 0 0 (tru Z u R))) NX := by
  have loop : ∀ n i S w M, Z.2 + 1 ≤ S.2.2.1 + n → i ≤ S.2.2.1 → IV Z S → KI S.2.2.2 → (w = 0 ∨ w = 17) → kn S.2.2.2 7 + (if w = 0 then 0 else 1) ≤ S.2.2.1 → CS p N Z M0 true 0 0 S M → V G Y3_readTruth (D0 + 1) 0 0 (Rs none (CS p N Z M0 true 0 0 (fnT Z u w S))) NX 9 [some (.ref 102), some (.int dd), some (.int (if w = 0 then 0 else 1)), some (.int (nI i))] [] M := by
    intro n
    induction n with
    | zero => intro i S w M h1 h2 h3; have := h3.2.1; omega
    | succ n ih =>
      intro i S w M hn hi hI hK hw hs h
      have hS' := (hM.sq h.1).1
      have h900 := hI.2.2.2.2.2
      have hiz := hI.2.1
      have lI := lyW_I hI hs hK
      have l1 := lyW_1 w S
      have emi : w ≠ 0 → Ct G Y3_emit 0 0 0 [.ref 102, .int 8, .int 0] M (Rs none (CS p N Z M0 true 0 0 (lyW w S))) NX := by
        intro hw0
        have hw17 : w = 17 := hw.resolve_left hw0
        subst hw17
        rw [if_neg hw0] at hs
        exact c3_emitZ G M (s := 17) (x := 8) (y := 0) hM h hI (fun _ => by omega) hK (by omega) (by decide) (fun _ => (rdb_o (by omega)).1) (fun _ => (rdb_o (by omega)).2)
      have out : ¬ rIs Z 10 S → ¬ rIs Z 9 S → V G Y3_readTruth (D0 + 1) 0 0 (Rs none (CS p N Z M0 true 0 0 (fnT Z u w S))) NX 92 [some (.ref 102), some (.int dd), some (.int (if w = 0 then 0 else 1)), some (.int (nI i))] [] M := by
        intro n10 n9
        have e : fnT Z u w S = lyW w S := by
          unfold fnT
          rw [bth_un hg hI, if_neg n10, tru_un hg lI.1, if_neg (fun z => n9 ⟨l1.1.symm.trans z.1, l1.2 ▸ z.2⟩)]
        rw [e]
        by_cases hw0 : w = 0
        · subst hw0
          refine v_iload_n dX3_readTruth_92 rfl ?_
          refine v_if_eq 103 dX3_readTruth_93 (by decide) (fun h93 => ?_) (fun h93 => absurd rfl h93)
          refine v_vret dX3_readTruth_103 rfl ?_
          exact ⟨rfl, h⟩
        · have hw17 : w = 17 := hw.resolve_left hw0
          subst hw17
          refine v_iload_n dX3_readTruth_92 rfl ?_
          refine v_if_eq 103 dX3_readTruth_93 (by decide) (fun h93 => absurd h93 (by decide)) (fun h93 => ?_)
          refine v_aload_n dX3_readTruth_96 rfl ?_
          refine v_bipush 8 dX3_readTruth_97 (by decide) ?_
          refine v_iconst 0 dX3_readTruth_99 (by decide) ?_
          refine v_scVv [_, _] (emi hw0) k3_emit dX3_readTruth_100 l3_203 (by first | exact hS'.1 _ _ rfl | assumption) (by decide) rfl (by omega) (Nat.le_of_ble_eq_true rfl) ?_
          intro M2 hM2
          refine v_vret dX3_readTruth_103 rfl ?_
          exact ⟨rfl, hM2⟩
      by_cases h9 : i < 900
      · by_cases k10 : rIs Z 10 S
        · have hk : kd Z S.2.2.1 ≠ 32 := by have := k10.2; omega
          have g1 := gs.nx hI hk
          have g2 := (hg _ g1.1).1
          have gt := g1.tr g2 (Nat.le_refl _)
          have g3 := op_ok hg hI hk (nI 16)
          have e : fnT Z u w S = fnT Z u w (rly (nI 16) (u (rnx S))) := by
            unfold fnT
            rw [bth_un hg hI, if_pos k10]
          rw [e]
          have next := fun M4 hM4 => ih (i + 1) (rly (nI 16) (u (rnx S))) w M4 (by omega) (by omega) g3.1.1 (hK.gs g3.1) hw (by have := g3.1.2.2.1; split at hs <;> (rename_i q; first | rw [if_pos q] | rw [if_neg q]) <;> omega) hM4
          refine v_iload_n dX3_readTruth_9 rfl ?_
          refine v_sipush 900 dX3_readTruth_10 (by decide) ?_
          refine v_icmp_ge 92 dX3_readTruth_13 (by decide) (fun h13 => absurd ((nI_leI (a := 900) (by omega) (by omega)).mp h13) (by omega)) (fun h13 => ?_)
          refine v_aload_n dX3_readTruth_16 rfl ?_
          refine v_gets (v := .ref 10) dX3_readTruth_17 g3_197 (kT_z G (i := 10) (by decide) rfl) ?_
          refine v_cV [_] (c3_stT G M (k := 10) hM h (by decide) k10) k3_stands dX3_readTruth_20 l3_72 (by first | exact hS'.1 _ _ rfl | assumption) (by decide) rfl (by omega) (Nat.le_of_ble_eq_true rfl) ?_
          refine v_if_ne 36 dX3_readTruth_23 (by decide) (fun h23 => ?_) (fun h23 => absurd (show ¬ (1 : Int32) = 0 by decide) h23)
          refine v_aload_n dX3_readTruth_36 rfl ?_
          refine v_gets (v := .ref 10) dX3_readTruth_37 g3_197 (kT_z G (i := 10) (by decide) rfl) ?_
          refine v_scV [_] (c3_tkT G M (k := 10) hM h (by decide) k10) k3_takeIf dX3_readTruth_40 l3_132 (by first | exact hS'.1 _ _ rfl | assumption) (by decide) rfl (by omega) (Nat.le_of_ble_eq_true rfl) ?_
          intro M2 hM2; have hS' := (hM.sq hM2.1).1
          refine v_if_eq 61 dX3_readTruth_43 (by decide) (fun h43 => absurd h43 (by decide)) (fun h43 => ?_)
          refine v_aload_n dX3_readTruth_46 rfl ?_
          refine v_iload_n dX3_readTruth_47 rfl ?_
          refine v_scVv [_] (hu _ M2 hM2 g1.1 (hK.gs g1)) k3_readUnit dX3_readTruth_48 l3_194 (by first | exact hS'.1 _ _ rfl | assumption) (by decide) rfl (by omega) (Nat.le_of_ble_eq_true rfl) ?_
          intro M3 hM3; have hS' := (hM.sq hM3.1).1
          refine v_aload_n dX3_readTruth_51 rfl ?_
          refine v_bipush 7 dX3_readTruth_52 (by decide) ?_
          refine v_iconst 0 dX3_readTruth_54 (by decide) ?_
          refine v_scVv [_, _] (c3_emitZ G M3 (s := 16) hM hM3 g2.1 (fun _ => by have := gt.2.2.1; have := hI.2.2.2.1; omega) (hK.gs gt) (by decide) (by decide) (fun _ => (rdb_o (by omega)).1) (fun _ => (rdb_o (by omega)).2)) k3_emit dX3_readTruth_55 l3_203 (by first | exact hS'.1 _ _ rfl | assumption) (by decide) rfl (by omega) (Nat.le_of_ble_eq_true rfl) ?_
          intro M4 hM4
          refine v_goto 86 dX3_readTruth_58 (by decide) ?_
          refine v_iinc 1 dX3_readTruth_86 rfl (by decide) rfl (by decide) ?_
          refine v_goto 9 dX3_readTruth_89 (by decide) ?_
          (rw [nI_1]; exact next M4 hM4)
        · by_cases k9 : rIs Z 9 S
          · have hk : kd Z S.2.2.1 ≠ 32 := by have := k9.2; omega
            have k91 : rIs Z 9 (lyW w S) := ⟨l1.1.trans k9.1, l1.2 ▸ k9.2⟩
            have hk1 : kd Z (lyW w S).2.2.1 ≠ 32 := by rw [l1.2]; exact hk
            have g1 := gs.nx lI.1 hk1
            have g2 := (hg _ g1.1).1
            have gt := g1.tr g2 (Nat.le_refl _)
            have sign : ∀ M2, CS p N Z M0 true 0 0 (lyW w S) M2 → V G Y3_readTruth (D0 + 1) 0 0 (Rs none (CS p N Z M0 true 0 0 (fnT Z u w S))) NX 72 [some (.ref 102), some (.int dd), some (.int (if w = 0 then 0 else 1)), some (.int (nI i))] [] M2 := by
              intro M2 h2
              have hS' := (hM.sq h2.1).1
              have e : fnT Z u w S = fnT Z u 17 (u (rnx (lyW w S))) := by
                unfold fnT
                rw [bth_un hg hI, if_neg k10, tru_un hg lI.1, if_pos k91]
                rfl
              rw [e]
              have hsl : kn (u (rnx (lyW w S))).2.2.2 7 + 1 ≤ (u (rnx (lyW w S))).2.2.1 := by have := gt.2.2.1; have := lI.1.2.2.2.1; omega
              have next := fun M4 hM4 => ih (i + 1) (u (rnx (lyW w S))) 17 M4 (by have := gt.2.2.1; have := g2.2.1; have : (rnx (lyW w S)).2.2.1 = S.2.2.1 + 1 := congrArg (· + 1) l1.2; omega) (by have := g2.2.1; have : (rnx (lyW w S)).2.2.1 = S.2.2.1 + 1 := congrArg (· + 1) l1.2; omega) g2.1 (lI.2.gs gt) (Or.inr rfl) hsl hM4
              refine v_iconst 1 dX3_readTruth_72 (by decide) ?_
              refine v_istore_n dX3_readTruth_73 rfl (by decide) ?_
              refine v_aload_n dX3_readTruth_74 rfl ?_
              refine v_getR 3 0 _ dX3_readTruth_75 f3_12 (by first | exact hS'.1 _ _ rfl | assumption) (by decide) (by first | exact hS'.2 _ _ _ rfl | assumption) ?_
              refine v_scVv [] (c3_nx G M2 hM h2 k91.1 hk1) k9_next dX3_readTruth_78 l3_96 (by first | exact hS'.1 _ _ rfl | assumption) (by decide) rfl (by omega) (Nat.le_of_ble_eq_true rfl) ?_
              intro M3 hM3; have hS' := (hM.sq hM3.1).1
              refine v_aload_n dX3_readTruth_81 rfl ?_
              refine v_iload_n dX3_readTruth_82 rfl ?_
              refine v_scVv [_] (hu _ M3 hM3 g1.1 (lI.2.gs g1)) k3_readUnit dX3_readTruth_83 l3_194 (by first | exact hS'.1 _ _ rfl | assumption) (by decide) rfl (by omega) (Nat.le_of_ble_eq_true rfl) ?_
              intro M4 hM4
              refine v_iinc 1 dX3_readTruth_86 rfl (by decide) rfl (by decide) ?_
              refine v_goto 9 dX3_readTruth_89 (by decide) ?_
              (rw [nI_1]; exact next M4 hM4)
            by_cases hw0 : w = 0
            · subst hw0
              refine v_iload_n dX3_readTruth_9 rfl ?_
              refine v_sipush 900 dX3_readTruth_10 (by decide) ?_
              refine v_icmp_ge 92 dX3_readTruth_13 (by decide) (fun h13 => absurd ((nI_leI (a := 900) (by omega) (by omega)).mp h13) (by omega)) (fun h13 => ?_)
              refine v_aload_n dX3_readTruth_16 rfl ?_
              refine v_gets (v := .ref 10) dX3_readTruth_17 g3_197 (kT_z G (i := 10) (by decide) rfl) ?_
              refine v_cV [_] (c3_stF G M (k := 10) hM h (by decide) k10) k3_stands dX3_readTruth_20 l3_72 (by first | exact hS'.1 _ _ rfl | assumption) (by decide) rfl (by omega) (Nat.le_of_ble_eq_true rfl) ?_
              refine v_if_ne 36 dX3_readTruth_23 (by decide) (fun h23 => absurd rfl h23) (fun h23 => ?_)
              refine v_aload_n dX3_readTruth_26 rfl ?_
              refine v_gets (v := .ref 9) dX3_readTruth_27 g3_200 (kT_z G (i := 9) (by decide) rfl) ?_
              refine v_cV [_] (c3_stT G M (k := 9) hM h (by decide) k9) k3_stands dX3_readTruth_30 l3_72 (by first | exact hS'.1 _ _ rfl | assumption) (by decide) rfl (by omega) (Nat.le_of_ble_eq_true rfl) ?_
              refine v_if_eq 92 dX3_readTruth_33 (by decide) (fun h33 => absurd h33 (by decide)) (fun h33 => ?_)
              refine v_aload_n dX3_readTruth_36 rfl ?_
              refine v_gets (v := .ref 10) dX3_readTruth_37 g3_197 (kT_z G (i := 10) (by decide) rfl) ?_
              refine v_cV [_] (c3_tkF G M (k := 10) hM h (by decide) k10) k3_takeIf dX3_readTruth_40 l3_132 (by first | exact hS'.1 _ _ rfl | assumption) (by decide) rfl (by omega) (Nat.le_of_ble_eq_true rfl) ?_
              refine v_if_eq 61 dX3_readTruth_43 (by decide) (fun h43 => ?_) (fun h43 => absurd rfl h43)
              refine v_iload_n dX3_readTruth_61 rfl ?_
              refine v_if_eq 72 dX3_readTruth_62 (by decide) (fun h62 => ?_) (fun h62 => absurd rfl h62)
              exact sign M h
            · have hw17 : w = 17 := hw.resolve_left hw0
              subst hw17
              refine v_iload_n dX3_readTruth_9 rfl ?_
              refine v_sipush 900 dX3_readTruth_10 (by decide) ?_
              refine v_icmp_ge 92 dX3_readTruth_13 (by decide) (fun h13 => absurd ((nI_leI (a := 900) (by omega) (by omega)).mp h13) (by omega)) (fun h13 => ?_)
              refine v_aload_n dX3_readTruth_16 rfl ?_
              refine v_gets (v := .ref 10) dX3_readTruth_17 g3_197 (kT_z G (i := 10) (by decide) rfl) ?_
              refine v_cV [_] (c3_stF G M (k := 10) hM h (by decide) k10) k3_stands dX3_readTruth_20 l3_72 (by first | exact hS'.1 _ _ rfl | assumption) (by decide) rfl (by omega) (Nat.le_of_ble_eq_true rfl) ?_
              refine v_if_ne 36 dX3_readTruth_23 (by decide) (fun h23 => absurd rfl h23) (fun h23 => ?_)
              refine v_aload_n dX3_readTruth_26 rfl ?_
              refine v_gets (v := .ref 9) dX3_readTruth_27 g3_200 (kT_z G (i := 9) (by decide) rfl) ?_
              refine v_cV [_] (c3_stT G M (k := 9) hM h (by decide) k9) k3_stands dX3_readTruth_30 l3_72 (by first | exact hS'.1 _ _ rfl | assumption) (by decide) rfl (by omega) (Nat.le_of_ble_eq_true rfl) ?_
              refine v_if_eq 92 dX3_readTruth_33 (by decide) (fun h33 => absurd h33 (by decide)) (fun h33 => ?_)
              refine v_aload_n dX3_readTruth_36 rfl ?_
              refine v_gets (v := .ref 10) dX3_readTruth_37 g3_197 (kT_z G (i := 10) (by decide) rfl) ?_
              refine v_cV [_] (c3_tkF G M (k := 10) hM h (by decide) k10) k3_takeIf dX3_readTruth_40 l3_132 (by first | exact hS'.1 _ _ rfl | assumption) (by decide) rfl (by omega) (Nat.le_of_ble_eq_true rfl) ?_
              refine v_if_eq 61 dX3_readTruth_43 (by decide) (fun h43 => ?_) (fun h43 => absurd rfl h43)
              refine v_iload_n dX3_readTruth_61 rfl ?_
              refine v_if_eq 72 dX3_readTruth_62 (by decide) (fun h62 => absurd h62 (by decide)) (fun h62 => ?_)
              refine v_aload_n dX3_readTruth_65 rfl ?_
              refine v_bipush 8 dX3_readTruth_66 (by decide) ?_
              refine v_iconst 0 dX3_readTruth_68 (by decide) ?_
              refine v_scVv [_, _] (emi hw0) k3_emit dX3_readTruth_69 l3_203 (by first | exact hS'.1 _ _ rfl | assumption) (by decide) rfl (by omega) (Nat.le_of_ble_eq_true rfl) ?_
              intro M2 hM2
              exact sign M2 hM2
          · refine v_iload_n dX3_readTruth_9 rfl ?_
            refine v_sipush 900 dX3_readTruth_10 (by decide) ?_
            refine v_icmp_ge 92 dX3_readTruth_13 (by decide) (fun h13 => absurd ((nI_leI (a := 900) (by omega) (by omega)).mp h13) (by omega)) (fun h13 => ?_)
            refine v_aload_n dX3_readTruth_16 rfl ?_
            refine v_gets (v := .ref 10) dX3_readTruth_17 g3_197 (kT_z G (i := 10) (by decide) rfl) ?_
            refine v_cV [_] (c3_stF G M (k := 10) hM h (by decide) k10) k3_stands dX3_readTruth_20 l3_72 (by first | exact hS'.1 _ _ rfl | assumption) (by decide) rfl (by omega) (Nat.le_of_ble_eq_true rfl) ?_
            refine v_if_ne 36 dX3_readTruth_23 (by decide) (fun h23 => absurd rfl h23) (fun h23 => ?_)
            refine v_aload_n dX3_readTruth_26 rfl ?_
            refine v_gets (v := .ref 9) dX3_readTruth_27 g3_200 (kT_z G (i := 9) (by decide) rfl) ?_
            refine v_cV [_] (c3_stF G M (k := 9) hM h (by decide) k9) k3_stands dX3_readTruth_30 l3_72 (by first | exact hS'.1 _ _ rfl | assumption) (by decide) rfl (by omega) (Nat.le_of_ble_eq_true rfl) ?_
            refine v_if_eq 92 dX3_readTruth_33 (by decide) (fun h33 => ?_) (fun h33 => absurd rfl h33)
            exact out k10 k9
      · have hend : kd Z S.2.2.1 = 32 := Decidable.byContradiction (fun z => by have := (kd_lt z).1; omega)
        have ne : ∀ k, k ≠ 32 → ¬ rIs Z k S := fun k hk z => hk (z.2.symm.trans hend)
        have hi9 : i ≤ 900 := by omega
        refine v_iload_n dX3_readTruth_9 rfl ?_
        refine v_sipush 900 dX3_readTruth_10 (by decide) ?_
        refine v_icmp_ge 92 dX3_readTruth_13 (by decide) (fun h13 => ?_) (fun h13 => absurd (nI_le (a := 900) (by omega) (by omega)) h13)
        exact out (ne 10 (by decide)) (ne 9 (by decide))
  intro R M h hI hK
  have hS' := (hM.sq h.1).1
  have g := (hg R hI).1
  refine Ct.of k3_readTruth.1 (Nat.le_of_ble_eq_true rfl) ?_
  refine v_iconst 0 dX3_readTruth_0 (by decide) ?_
  refine v_istore_n dX3_readTruth_1 rfl (by decide) ?_
  refine v_aload_n dX3_readTruth_2 rfl ?_
  refine v_iload_n dX3_readTruth_3 rfl ?_
  refine v_scVv [_] (hu R M h hI hK) k3_readUnit dX3_readTruth_4 l3_194 (by first | exact hS'.1 _ _ rfl | assumption) (by decide) rfl (by omega) (Nat.le_of_ble_eq_true rfl) ?_
  intro M2 hM2
  refine v_iconst 0 dX3_readTruth_7 (by decide) ?_
  refine v_istore_n dX3_readTruth_8 rfl (by decide) ?_
  exact loop (Z.2 + 1) 0 (u R) 0 M2 (by omega) (Nat.zero_le _) g.1 (hK.gs g) (Or.inl rfl) (by rw [if_pos rfl]; exact g.1.2.2.2.1) hM2
end CS1
