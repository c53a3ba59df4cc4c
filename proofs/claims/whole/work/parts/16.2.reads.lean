/-! ===== the reference reads on: the next token ===== -/
theorem nSub {a b : Nat} (h : b ≤ a) : nI a - nI b = nI (a - b) := by
  rw [show nI a = nI (a - b) + nI b by rw [nI_add]; exact congrArg nI (by omega), Int32.add_sub_cancel]
theorem eqL {x c : Nat} (hx : x < 2 ^ 31) (hc : c < 2 ^ 31) : (nI x = nI c) = (x = c) := propext (nI_eq hx hc)
theorem ltL {x c : Nat} (hx : x < 2 ^ 31) (hc : c < 2 ^ 31) : (nI x < nI c) = (x < c) := propext (nI_ltI hx hc)
theorem leL {x c : Nat} (hx : x < 2 ^ 31) (hc : c < 2 ^ 31) : (nI x ≤ nI c) = (x ≤ c) := propext (nI_leI hx hc)
theorem sgB_iff {x : Nat} : sgB x = true ↔ (x = 59 ∨ x = 58 ∨ x = 43 ∨ x = 45 ∨ x = 42 ∨ x = 40 ∨ x = 41 ∨ x = 91 ∨ x = 93 ∨ x = 61 ∨ x = 60 ∨ x = 62) := by
  unfold sgB; simp only [Bool.or_eq_true, Nat.beq_eq, or_assoc]
def Tp (M : mM) (Z : (Nat → Nat) × Nat) : Prop := gI M 230 7 = nI Z.2 ∧ Z.2 ≤ 900 ∧ ∀ j, j < Z.2 → gI M 235 j = nI (Z.1 j) ∧ Z.1 j < 256
def Wro (q k : Nat) : Bool := Nat.beq q 230 && (Nat.ble 8 k && Nat.ble k 11)
theorem Wro_o {q k : Nat} (h : q ≠ 230 ∨ k < 8 ∨ 11 < k) : Wro q k = false := by
  unfold Wro
  rw [Bool.and_eq_false_iff, Bool.and_eq_false_iff]
  rcases h with h | h | h
  · exact Or.inl (by rw [← Bool.not_eq_true, Nat.beq_eq]; exact h)
  · exact Or.inr (Or.inl (by rw [← Bool.not_eq_true, Nat.ble_eq]; omega))
  · exact Or.inr (Or.inr (by rw [← Bool.not_eq_true, Nat.ble_eq]; omega))
theorem Tp.sm {W : Nat → Nat → Bool} {M M' : mM} {Z : (Nat → Nat) × Nat} (h : Tp M Z) (e : Sm W M M') (h7 : W 230 7 = false) (hw : ∀ k, W 235 k = false) : Tp M' Z := ⟨by rw [e.2.2.2.2 _ _ h7]; exact h.1, h.2.1, fun j hj => by rw [e.2.2.2.2 _ _ (hw j)]; exact h.2.2 j hj⟩
/-- a token read: where it starts and ends, what it is -/
def RO (M : mM) (Z : (Nat → Nat) × Nat) (h : Nat) (M' : mM) : Prop := Sm Wro M M' ∧ gI M' 230 8 = nI (tkE Z h) ∧ gI M' 230 9 = nI (tkS Z h) ∧ gI M' 230 10 = nI (rc (tkK Z h)) ∧ (tkK Z h = 29 → gI M' 230 11 = nI (tkV Z h))
section RO
variable (G : mG) (M : mM)
theorem c12_loN {x : Nat} (hx : x < 256) : Ct G Y12_isLetter 0 0 0 [.int (nI x)] M (Rv (some (.int (bI (loB x = true)))) M) NX := by
  refine Ct.of k12_isLetter.1 (Nat.le_of_ble_eq_true rfl) ?_
  refine v_iload_n dX12_isLetter_0 rfl ?_
  refine v_bipush 97 dX12_isLetter_1 (by decide) ?_
  refine v_icmp_lt 16 dX12_isLetter_3 (by decide) (fun h3 => ?_) (fun h3 => ?_)
  · refine v_iconst 0 dX12_isLetter_16 (by decide) ?_
    refine v_zret dX12_isLetter_17 rfl (by first | rfl | exact bI_nb _ | assumption) ?_
    simp (disch := omega) only [n_lit, ltL] at h3; refine ⟨?_, rfl⟩; first | (rw [bI_t (loB_iff.mpr (by omega))]; done) | (rw [bI_f (fun z => by have := loB_iff.mp z; omega)]; done)
  · refine v_iload_n dX12_isLetter_6 rfl ?_
    refine v_bipush 122 dX12_isLetter_7 (by decide) ?_
    refine v_icmp_gt 16 dX12_isLetter_9 (by decide) (fun h9 => ?_) (fun h9 => ?_)
    · refine v_iconst 0 dX12_isLetter_16 (by decide) ?_
      refine v_zret dX12_isLetter_17 rfl (by first | rfl | exact bI_nb _ | assumption) ?_
      simp (disch := omega) only [n_lit, ltL] at h3 h9; refine ⟨?_, rfl⟩; first | (rw [bI_t (loB_iff.mpr (by omega))]; done) | (rw [bI_f (fun z => by have := loB_iff.mp z; omega)]; done)
    · refine v_iconst 1 dX12_isLetter_12 (by decide) ?_
      refine v_goto 17 dX12_isLetter_13 (by decide) ?_
      refine v_zret dX12_isLetter_17 rfl (by first | rfl | exact bI_nb _ | assumption) ?_
      simp (disch := omega) only [n_lit, ltL] at h3 h9; refine ⟨?_, rfl⟩; first | (rw [bI_t (loB_iff.mpr (by omega))]; done) | (rw [bI_f (fun z => by have := loB_iff.mp z; omega)]; done)
theorem c12_diN {x : Nat} (hx : x < 256) : Ct G Y12_isDigit 0 0 0 [.int (nI x)] M (Rv (some (.int (bI (diB x = true)))) M) NX := by
  refine Ct.of k12_isDigit.1 (Nat.le_of_ble_eq_true rfl) ?_
  refine v_iload_n dX12_isDigit_0 rfl ?_
  refine v_bipush 48 dX12_isDigit_1 (by decide) ?_
  refine v_icmp_lt 16 dX12_isDigit_3 (by decide) (fun h3 => ?_) (fun h3 => ?_)
  · refine v_iconst 0 dX12_isDigit_16 (by decide) ?_
    refine v_zret dX12_isDigit_17 rfl (by first | rfl | exact bI_nb _ | assumption) ?_
    simp (disch := omega) only [n_lit, ltL] at h3; refine ⟨?_, rfl⟩; first | (rw [bI_t (diB_iff.mpr (by omega))]; done) | (rw [bI_f (fun z => by have := diB_iff.mp z; omega)]; done)
  · refine v_iload_n dX12_isDigit_6 rfl ?_
    refine v_bipush 57 dX12_isDigit_7 (by decide) ?_
    refine v_icmp_gt 16 dX12_isDigit_9 (by decide) (fun h9 => ?_) (fun h9 => ?_)
    · refine v_iconst 0 dX12_isDigit_16 (by decide) ?_
      refine v_zret dX12_isDigit_17 rfl (by first | rfl | exact bI_nb _ | assumption) ?_
      simp (disch := omega) only [n_lit, ltL] at h3 h9; refine ⟨?_, rfl⟩; first | (rw [bI_t (diB_iff.mpr (by omega))]; done) | (rw [bI_f (fun z => by have := diB_iff.mp z; omega)]; done)
    · refine v_iconst 1 dX12_isDigit_12 (by decide) ?_
      refine v_goto 17 dX12_isDigit_13 (by decide) ?_
      refine v_zret dX12_isDigit_17 rfl (by first | rfl | exact bI_nb _ | assumption) ?_
      simp (disch := omega) only [n_lit, ltL] at h3 h9; refine ⟨?_, rfl⟩; first | (rw [bI_t (diB_iff.mpr (by omega))]; done) | (rw [bI_f (fun z => by have := diB_iff.mp z; omega)]; done)
theorem c12_isSignByte {x : Nat} (hx : x < 256) : Ct G Y12_isSignByte 0 0 0 [.int (nI x)] M (Rv (some (.int (bI (sgB x = true)))) M) NX := by
  refine Ct.of k12_isSignByte.1 (Nat.le_of_ble_eq_true rfl) ?_
  have t1 : sgB x = true → V G Y12_isSignByte 0 0 0 (Rv (some (.int (bI (sgB x = true)))) M) NX 36 [some (.int (nI x)), some (.int 1)] [] M := by
    intro h
    rw [bI_t h]
    refine v_iload_n dX12_isSignByte_36 rfl ?_
    refine v_if_ne 82 dX12_isSignByte_37 (by decide) (fun h37 => ?_) (fun h37 => absurd (Decidable.not_not.mp h37) (by decide))
    refine v_iconst 1 dX12_isSignByte_82 (by decide) ?_
    refine v_goto 87 dX12_isSignByte_83 (by decide) ?_
    refine v_zret dX12_isSignByte_87 rfl (by first | rfl | exact bI_nb _ | assumption) ?_
    exact ⟨rfl, rfl⟩
  have t0 : ¬ (x = 91 ∨ x = 93 ∨ x = 61 ∨ x = 60 ∨ x = 62) → V G Y12_isSignByte 0 0 0 (Rv (some (.int (bI (sgB x = true)))) M) NX 36 [some (.int (nI x)), some (.int 0)] [] M := by
    intro h
    refine v_iload_n dX12_isSignByte_36 rfl ?_
    refine v_if_ne 82 dX12_isSignByte_37 (by decide) (fun h37 => absurd rfl h37) (fun h37 => ?_)
    refine v_iload_n dX12_isSignByte_40 rfl ?_
    refine v_bipush 59 dX12_isSignByte_41 (by decide) ?_
    refine v_icmp_eq 82 dX12_isSignByte_43 (by decide) (fun h43 => ?_) (fun h43 => ?_)
    · refine v_iconst 1 dX12_isSignByte_82 (by decide) ?_
      refine v_goto 87 dX12_isSignByte_83 (by decide) ?_
      refine v_zret dX12_isSignByte_87 rfl (by first | rfl | exact bI_nb _ | assumption) ?_
      simp (disch := omega) only [n_lit, eqL] at h37 h43; refine ⟨?_, rfl⟩; first | (rw [bI_t (sgB_iff.mpr (by omega))]; done) | (rw [bI_f (fun z => by have := sgB_iff.mp z; omega)]; done)
    · refine v_iload_n dX12_isSignByte_46 rfl ?_
      refine v_bipush 58 dX12_isSignByte_47 (by decide) ?_
      refine v_icmp_eq 82 dX12_isSignByte_49 (by decide) (fun h49 => ?_) (fun h49 => ?_)
      · refine v_iconst 1 dX12_isSignByte_82 (by decide) ?_
        refine v_goto 87 dX12_isSignByte_83 (by decide) ?_
        refine v_zret dX12_isSignByte_87 rfl (by first | rfl | exact bI_nb _ | assumption) ?_
        simp (disch := omega) only [n_lit, eqL] at h37 h43 h49; refine ⟨?_, rfl⟩; first | (rw [bI_t (sgB_iff.mpr (by omega))]; done) | (rw [bI_f (fun z => by have := sgB_iff.mp z; omega)]; done)
      · refine v_iload_n dX12_isSignByte_52 rfl ?_
        refine v_bipush 43 dX12_isSignByte_53 (by decide) ?_
        refine v_icmp_eq 82 dX12_isSignByte_55 (by decide) (fun h55 => ?_) (fun h55 => ?_)
        · refine v_iconst 1 dX12_isSignByte_82 (by decide) ?_
          refine v_goto 87 dX12_isSignByte_83 (by decide) ?_
          refine v_zret dX12_isSignByte_87 rfl (by first | rfl | exact bI_nb _ | assumption) ?_
          simp (disch := omega) only [n_lit, eqL] at h37 h43 h49 h55; refine ⟨?_, rfl⟩; first | (rw [bI_t (sgB_iff.mpr (by omega))]; done) | (rw [bI_f (fun z => by have := sgB_iff.mp z; omega)]; done)
        · refine v_iload_n dX12_isSignByte_58 rfl ?_
          refine v_bipush 45 dX12_isSignByte_59 (by decide) ?_
          refine v_icmp_eq 82 dX12_isSignByte_61 (by decide) (fun h61 => ?_) (fun h61 => ?_)
          · refine v_iconst 1 dX12_isSignByte_82 (by decide) ?_
            refine v_goto 87 dX12_isSignByte_83 (by decide) ?_
            refine v_zret dX12_isSignByte_87 rfl (by first | rfl | exact bI_nb _ | assumption) ?_
            simp (disch := omega) only [n_lit, eqL] at h37 h43 h49 h55 h61; refine ⟨?_, rfl⟩; first | (rw [bI_t (sgB_iff.mpr (by omega))]; done) | (rw [bI_f (fun z => by have := sgB_iff.mp z; omega)]; done)
          · refine v_iload_n dX12_isSignByte_64 rfl ?_
            refine v_bipush 42 dX12_isSignByte_65 (by decide) ?_
            refine v_icmp_eq 82 dX12_isSignByte_67 (by decide) (fun h67 => ?_) (fun h67 => ?_)
            · refine v_iconst 1 dX12_isSignByte_82 (by decide) ?_
              refine v_goto 87 dX12_isSignByte_83 (by decide) ?_
              refine v_zret dX12_isSignByte_87 rfl (by first | rfl | exact bI_nb _ | assumption) ?_
              simp (disch := omega) only [n_lit, eqL] at h37 h43 h49 h55 h61 h67; refine ⟨?_, rfl⟩; first | (rw [bI_t (sgB_iff.mpr (by omega))]; done) | (rw [bI_f (fun z => by have := sgB_iff.mp z; omega)]; done)
            · refine v_iload_n dX12_isSignByte_70 rfl ?_
              refine v_bipush 40 dX12_isSignByte_71 (by decide) ?_
              refine v_icmp_eq 82 dX12_isSignByte_73 (by decide) (fun h73 => ?_) (fun h73 => ?_)
              · refine v_iconst 1 dX12_isSignByte_82 (by decide) ?_
                refine v_goto 87 dX12_isSignByte_83 (by decide) ?_
                refine v_zret dX12_isSignByte_87 rfl (by first | rfl | exact bI_nb _ | assumption) ?_
                simp (disch := omega) only [n_lit, eqL] at h37 h43 h49 h55 h61 h67 h73; refine ⟨?_, rfl⟩; first | (rw [bI_t (sgB_iff.mpr (by omega))]; done) | (rw [bI_f (fun z => by have := sgB_iff.mp z; omega)]; done)
              · refine v_iload_n dX12_isSignByte_76 rfl ?_
                refine v_bipush 41 dX12_isSignByte_77 (by decide) ?_
                refine v_icmp_ne 86 dX12_isSignByte_79 (by decide) (fun h79 => ?_) (fun h79 => ?_)
                · refine v_iconst 0 dX12_isSignByte_86 (by decide) ?_
                  refine v_zret dX12_isSignByte_87 rfl (by first | rfl | exact bI_nb _ | assumption) ?_
                  simp (disch := omega) only [n_lit, eqL] at h37 h43 h49 h55 h61 h67 h73 h79; refine ⟨?_, rfl⟩; first | (rw [bI_t (sgB_iff.mpr (by omega))]; done) | (rw [bI_f (fun z => by have := sgB_iff.mp z; omega)]; done)
                · refine v_iconst 1 dX12_isSignByte_82 (by decide) ?_
                  refine v_goto 87 dX12_isSignByte_83 (by decide) ?_
                  refine v_zret dX12_isSignByte_87 rfl (by first | rfl | exact bI_nb _ | assumption) ?_
                  simp (disch := omega) only [n_lit, eqL] at h37 h43 h49 h55 h61 h67 h73 h79; refine ⟨?_, rfl⟩; first | (rw [bI_t (sgB_iff.mpr (by omega))]; done) | (rw [bI_f (fun z => by have := sgB_iff.mp z; omega)]; done)
  refine v_iload_n dX12_isSignByte_0 rfl ?_
  refine v_bipush 91 dX12_isSignByte_1 (by decide) ?_
  refine v_icmp_eq 30 dX12_isSignByte_3 (by decide) (fun h3 => ?_) (fun h3 => ?_)
  · refine v_iconst 1 dX12_isSignByte_30 (by decide) ?_
    refine v_goto 35 dX12_isSignByte_31 (by decide) ?_
    refine v_istore_n dX12_isSignByte_35 rfl (by decide) ?_
    simp (disch := omega) only [n_lit, eqL] at h3; first | exact t0 (by omega) | exact t1 (sgB_iff.mpr (by omega))
  · refine v_iload_n dX12_isSignByte_6 rfl ?_
    refine v_bipush 93 dX12_isSignByte_7 (by decide) ?_
    refine v_icmp_eq 30 dX12_isSignByte_9 (by decide) (fun h9 => ?_) (fun h9 => ?_)
    · refine v_iconst 1 dX12_isSignByte_30 (by decide) ?_
      refine v_goto 35 dX12_isSignByte_31 (by decide) ?_
      refine v_istore_n dX12_isSignByte_35 rfl (by decide) ?_
      simp (disch := omega) only [n_lit, eqL] at h3 h9; first | exact t0 (by omega) | exact t1 (sgB_iff.mpr (by omega))
    · refine v_iload_n dX12_isSignByte_12 rfl ?_
      refine v_bipush 61 dX12_isSignByte_13 (by decide) ?_
      refine v_icmp_eq 30 dX12_isSignByte_15 (by decide) (fun h15 => ?_) (fun h15 => ?_)
      · refine v_iconst 1 dX12_isSignByte_30 (by decide) ?_
        refine v_goto 35 dX12_isSignByte_31 (by decide) ?_
        refine v_istore_n dX12_isSignByte_35 rfl (by decide) ?_
        simp (disch := omega) only [n_lit, eqL] at h3 h9 h15; first | exact t0 (by omega) | exact t1 (sgB_iff.mpr (by omega))
      · refine v_iload_n dX12_isSignByte_18 rfl ?_
        refine v_bipush 60 dX12_isSignByte_19 (by decide) ?_
        refine v_icmp_eq 30 dX12_isSignByte_21 (by decide) (fun h21 => ?_) (fun h21 => ?_)
        · refine v_iconst 1 dX12_isSignByte_30 (by decide) ?_
          refine v_goto 35 dX12_isSignByte_31 (by decide) ?_
          refine v_istore_n dX12_isSignByte_35 rfl (by decide) ?_
          simp (disch := omega) only [n_lit, eqL] at h3 h9 h15 h21; first | exact t0 (by omega) | exact t1 (sgB_iff.mpr (by omega))
        · refine v_iload_n dX12_isSignByte_24 rfl ?_
          refine v_bipush 62 dX12_isSignByte_25 (by decide) ?_
          refine v_icmp_ne 34 dX12_isSignByte_27 (by decide) (fun h27 => ?_) (fun h27 => ?_)
          · refine v_iconst 0 dX12_isSignByte_34 (by decide) ?_
            refine v_istore_n dX12_isSignByte_35 rfl (by decide) ?_
            simp (disch := omega) only [n_lit, eqL] at h3 h9 h15 h21 h27; first | exact t0 (by omega) | exact t1 (sgB_iff.mpr (by omega))
          · refine v_iconst 1 dX12_isSignByte_30 (by decide) ?_
            refine v_goto 35 dX12_isSignByte_31 (by decide) ?_
            refine v_istore_n dX12_isSignByte_35 rfl (by decide) ?_
            simp (disch := omega) only [n_lit, eqL] at h3 h9 h15 h21 h27; first | exact t0 (by omega) | exact t1 (sgB_iff.mpr (by omega))
theorem c12_see {Z : (Nat → Nat) × Nat} (hS : Sh M) (hT : Tp M Z) {h : Nat} (hh : h ≤ Z.2) : Ct G Y12_see 0 0 0 [.ref 230, .int (nI h)] M (Rv (some (.int (nI (if h < Z.2 then Z.1 h else 0)))) M) NX := by
  have h9 := hT.2.1
  refine Ct.of k12_see.1 (Nat.le_of_ble_eq_true rfl) ?_
  by_cases hn : h < Z.2
  · rw [if_pos hn]
    refine v_iload_n dX12_see_0 rfl ?_
    refine v_aload_n dX12_see_1 rfl ?_
    refine v_getI 12 7 dX12_see_2 f12_74 (by first | exact hS.1 _ _ rfl | assumption) (by decide) ?_
    rw [hT.1]
    refine v_icmp_ge 17 dX12_see_5 (by decide) (fun h5 => absurd ((nI_leI (by omega) (by omega)).mp h5) (by omega)) (fun h5 => ?_)
    refine v_aload_n dX12_see_8 rfl ?_
    refine v_getR 12 5 _ dX12_see_9 f12_23 (by first | exact hS.1 _ _ rfl | assumption) (by decide) (by first | exact hS.2 _ _ _ rfl | assumption) ?_
    refine v_iload_n dX12_see_12 rfl ?_
    refine v_ialdN (h) dX12_see_13 (by first | exact hS.1 _ _ rfl | assumption) (by simp only [n_lit, pk_mul, nI_add]) ⟨by omega, by omega⟩ ?_
    rw [(hT.2.2 h hn).1]
    refine v_goto 18 dX12_see_14 (by decide) ?_
    refine v_iret dX12_see_18 rfl ?_
    exact ⟨rfl, rfl⟩
  · rw [if_neg hn]
    refine v_iload_n dX12_see_0 rfl ?_
    refine v_aload_n dX12_see_1 rfl ?_
    refine v_getI 12 7 dX12_see_2 f12_74 (by first | exact hS.1 _ _ rfl | assumption) (by decide) ?_
    rw [hT.1]
    refine v_icmp_ge 17 dX12_see_5 (by decide) (fun h5 => ?_) (fun h5 => absurd (nI_le (by omega) (by omega)) h5)
    refine v_iconst 0 dX12_see_17 (by decide) ?_
    refine v_iret dX12_see_18 rfl ?_
    exact ⟨rfl, rfl⟩
theorem see_lt {Z : (Nat → Nat) × Nat} {M : mM} (hT : Tp M Z) (h : Nat) : (if h < Z.2 then Z.1 h else 0) < 256 := by
  split
  · exact (hT.2.2 h (by assumption)).2
  · decide
end RO
