/-! ===== the reference's parser: readAtom, readTerm, readSum ===== -/
section PC
variable (G : mG) (M0 : mM)
theorem c12_tookF (M : mM) {Z : (Nat → Nat) × Nat} {d t : Nat} {R : RSt} (hS : Sh M0) (hT : Tp M0 Z) (h : PS M0 Z d R M) (ht : t < 17) (hn : ¬ rIs Z t R) : Ct G Y12_took 5 0 0 [.ref 230, .ref (40 + t)] M (Rv (some (.int 0)) M) NX := by
  have hS' := hS.sm h.1
  have hc := c12_isWord G M0 M hS hT h ht
  rw [bI_f hn] at hc
  refine Ct.of k12_took.1 (Nat.le_of_ble_eq_true rfl) ?_
  refine v_aload_n dX12_took_0 rfl ?_
  refine v_aload_n dX12_took_1 rfl ?_
  refine v_cV [_] (hc) k12_isWord dX12_took_2 l12_118 (by first | exact hS'.1 _ _ rfl | assumption) (by decide) rfl (Nat.le_of_ble_eq_true rfl) (Nat.le_of_ble_eq_true rfl) ?_
  refine v_istore_n dX12_took_5 rfl (by decide) ?_
  refine v_iload_n dX12_took_6 rfl ?_
  refine v_if_eq 14 dX12_took_7 (by decide) (fun h7 => ?_) (fun h7 => absurd rfl h7)
  refine v_iload_n dX12_took_14 rfl ?_
  refine v_zret dX12_took_15 rfl (by first | rfl | exact bI_nb _ | assumption) ?_
  exact ⟨rfl, rfl⟩
theorem c12_tookT (M : mM) {Z : (Nat → Nat) × Nat} {d t : Nat} {R : RSt} (hS : Sh M0) (hT : Tp M0 Z) (h : PS M0 Z d R M) (ht : t < 17) (hn : rIs Z t R) : Ct G Y12_took 5 0 0 [.ref 230, .ref (40 + t)] M (Rs (some (.int 1)) (PS M0 Z d (rnx R))) NX := by
  have hc := c12_took G M0 M hS hT h ht
  rw [bI_t hn] at hc
  unfold rtk at hc
  rw [if_pos hn] at hc
  exact hc
theorem c12_sgF (M : mM) {Z : (Nat → Nat) × Nat} {d k : Nat} {R : RSt} {x : Int32} (hS : Sh M0) (h : PS M0 Z d R M) (hk : 17 ≤ k ∧ k < 29) (hx : x = nI (rc k)) (hn : ¬ rIs Z k R) : Ct G Y12_isSign 0 0 0 [.ref 230, .int x] M (Rv (some (.int 0)) M) NX := by
  have hc := c12_isSign G M0 M hS h hk hx
  rw [bI_f hn] at hc
  exact hc
theorem c12_sgT (M : mM) {Z : (Nat → Nat) × Nat} {d k : Nat} {R : RSt} {x : Int32} (hS : Sh M0) (h : PS M0 Z d R M) (hk : 17 ≤ k ∧ k < 29) (hx : x = nI (rc k)) (hn : rIs Z k R) : Ct G Y12_isSign 0 0 0 [.ref 230, .int x] M (Rv (some (.int 1)) M) NX := by
  have hc := c12_isSign G M0 M hS h hk hx
  rw [bI_t hn] at hc
  exact hc
theorem PS.k1 {M0 M : mM} {Z : (Nat → Nat) × Nat} {d : Nat} {R : RSt} (h : PS M0 Z d R M) (hI : IV Z R) : gI M 232 1 - 1 = nI (kn R.2.2.2 1 - 1) := by
  rw [h.2.1, hI.2.2.2.2.1.1, show (1 : Int32) = nI 1 from rfl, nSub hI.2.2.2.2.1.2.1]
def wdV (Z : (Nat → Nat) × Nat) (R : RSt) : Int32 :=
  if kd Z R.2.2.1 = 12 then nI (100 + rnv Z 0 (kn R.2.2.2 1 - 1) (rnx R)) else if kd Z R.2.2.1 = 13 then nI (200 + rnv Z 0 9 (rnx R)) else if kd Z R.2.2.1 = 14 then nI 300 else if kd Z R.2.2.1 = 15 then nI 301 else if kd Z R.2.2.1 = 16 then nI 302 else -1
def wdR (Z : (Nat → Nat) × Nat) (R : RSt) : RSt :=
  if kd Z R.2.2.1 = 12 then rnu Z 0 (kn R.2.2.2 1 - 1) (rnx R) else if kd Z R.2.2.1 = 13 then rnu Z 0 9 (rnx R) else if kd Z R.2.2.1 = 14 then rnx R else if kd Z R.2.2.1 = 15 then rnx R else if kd Z R.2.2.1 = 16 then rnx R else R
theorem c12_wordStep (M : mM) {Z : (Nat → Nat) × Nat} {d : Nat} {R : RSt} (hS : Sh M0) (hT : Tp M0 Z) (h : PS M0 Z d R M) (hI : IV Z R) (h0 : R.1 = 0) : Ct G Y12_wordStep 6 0 0 [.ref 230] M (Rs (some (.int (wdV Z R))) (PS M0 Z d (wdR Z R))) NX := by
  have hS' := hS.sm h.1
  have h6 := hI.2.2.2.2.1.2.2
  unfold wdV wdR
  refine Ct.of k12_wordStep.1 (Nat.le_of_ble_eq_true rfl) ?_
  by_cases k12 : kd Z R.2.2.1 = 12
  · rw [if_pos k12, if_pos k12]
    refine v_aload_n dX12_wordStep_0 rfl ?_
    refine v_ldcS (k := 12) (tx := "m") dX12_wordStep_1 rfl (List.mem_of_getElem? (i := 7) rfl) (by decide) ?_
    refine v_scV [_] (c12_tookT G M0 M hS hT h (t := 12) (by decide) ⟨h0, k12⟩) k12_took dX12_wordStep_3 l12_125 (hS'.1 _ _ rfl) (by decide) rfl (Nat.le_of_ble_eq_true rfl) (Nat.le_of_ble_eq_true rfl) ?_
    intro M2 hM2; have hS' := hS.sm hM2.1
    refine v_if_eq 26 dX12_wordStep_6 (by decide) (fun h6 => absurd h6 (by decide)) (fun h6 => ?_)
    refine v_bipush 100 dX12_wordStep_9 (by decide) ?_
    refine v_aload_n dX12_wordStep_11 rfl ?_
    refine v_iconst 0 dX12_wordStep_12 (by decide) ?_
    refine v_aload_n dX12_wordStep_13 rfl ?_
    refine v_getR 12 1 _ dX12_wordStep_14 f12_13 (hS'.1 _ _ rfl) (by decide) (hS'.2 _ _ _ rfl) ?_
    refine v_iconst 1 dX12_wordStep_17 (by decide) ?_
    refine v_ialdN 1 dX12_wordStep_18 (hS'.1 _ _ rfl) rfl (by decide) ?_
    refine v_iconst 1 dX12_wordStep_19 (by decide) ?_
    refine v_isub dX12_wordStep_20 ?_
    rw [hM2.k1 (gs.nx hI (by omega)).1]
    refine v_scV [_, _] (c12_number G M0 M2 (lo := 0) hS hT hM2 (by decide) (by show kn R.2.2.2 1 - 1 < _; omega)) k12_number dX12_wordStep_21 l12_177 (hS'.1 _ _ rfl) (by decide) rfl (Nat.le_of_ble_eq_true rfl) (Nat.le_of_ble_eq_true rfl) ?_
    intro M3 hM3
    refine v_iadd dX12_wordStep_24 ?_
    rw [show (100 : Int32) = nI 100 from rfl, nI_add]
    refine v_iret dX12_wordStep_25 rfl ?_
    exact ⟨rfl, hM3⟩
  · rw [if_neg k12, if_neg k12]
    by_cases k13 : kd Z R.2.2.1 = 13
    · rw [if_pos k13, if_pos k13]
      refine v_aload_n dX12_wordStep_0 rfl ?_
      refine v_ldcS (k := 12) (tx := "m") dX12_wordStep_1 rfl (List.mem_of_getElem? (i := 7) rfl) (by decide) ?_
      refine v_cV [_] (c12_tookF G M0 M hS hT h (t := 12) (by decide) (fun z => k12 z.2)) k12_took dX12_wordStep_3 l12_125 (hS'.1 _ _ rfl) (by decide) rfl (Nat.le_of_ble_eq_true rfl) (Nat.le_of_ble_eq_true rfl) ?_
      refine v_if_eq 26 dX12_wordStep_6 (by decide) (fun h6 => ?_) (fun h6 => absurd rfl h6)
      refine v_aload_n dX12_wordStep_26 rfl ?_
      refine v_ldcS (k := 13) (tx := "has") dX12_wordStep_27 rfl (List.mem_of_getElem? (i := 8) rfl) (by decide) ?_
      refine v_scV [_] (c12_tookT G M0 M hS hT h (t := 13) (by decide) ⟨h0, k13⟩) k12_took dX12_wordStep_29 l12_125 (hS'.1 _ _ rfl) (by decide) rfl (Nat.le_of_ble_eq_true rfl) (Nat.le_of_ble_eq_true rfl) ?_
      intro M2 hM2; have hS' := hS.sm hM2.1
      refine v_if_eq 47 dX12_wordStep_32 (by decide) (fun h32 => absurd h32 (by decide)) (fun h32 => ?_)
      refine v_sipush 200 dX12_wordStep_35 (by decide) ?_
      refine v_aload_n dX12_wordStep_38 rfl ?_
      refine v_iconst 0 dX12_wordStep_39 (by decide) ?_
      refine v_bipush 9 dX12_wordStep_40 (by decide) ?_
      refine v_scV [_, _] (c12_number G M0 M2 (lo := 0) (hi := 9) hS hT hM2 (by decide) (by decide)) k12_number dX12_wordStep_42 l12_177 (hS'.1 _ _ rfl) (by decide) rfl (Nat.le_of_ble_eq_true rfl) (Nat.le_of_ble_eq_true rfl) ?_
      intro M3 hM3
      refine v_iadd dX12_wordStep_45 ?_
      rw [show (200 : Int32) = nI 200 from rfl, nI_add]
      refine v_iret dX12_wordStep_46 rfl ?_
      exact ⟨rfl, hM3⟩
    · rw [if_neg k13, if_neg k13]
      by_cases k14 : kd Z R.2.2.1 = 14
      · rw [if_pos k14, if_pos k14]
        refine v_aload_n dX12_wordStep_0 rfl ?_
        refine v_ldcS (k := 12) (tx := "m") dX12_wordStep_1 rfl (List.mem_of_getElem? (i := 7) rfl) (by decide) ?_
        refine v_cV [_] (c12_tookF G M0 M hS hT h (t := 12) (by decide) (fun z => k12 z.2)) k12_took dX12_wordStep_3 l12_125 (by first | exact hS'.1 _ _ rfl | assumption) (by decide) rfl (Nat.le_of_ble_eq_true rfl) (Nat.le_of_ble_eq_true rfl) ?_
        refine v_if_eq 26 dX12_wordStep_6 (by decide) (fun h6 => ?_) (fun h6 => absurd rfl h6)
        refine v_aload_n dX12_wordStep_26 rfl ?_
        refine v_ldcS (k := 13) (tx := "has") dX12_wordStep_27 rfl (List.mem_of_getElem? (i := 8) rfl) (by decide) ?_
        refine v_cV [_] (c12_tookF G M0 M hS hT h (t := 13) (by decide) (fun z => k13 z.2)) k12_took dX12_wordStep_29 l12_125 (by first | exact hS'.1 _ _ rfl | assumption) (by decide) rfl (Nat.le_of_ble_eq_true rfl) (Nat.le_of_ble_eq_true rfl) ?_
        refine v_if_eq 47 dX12_wordStep_32 (by decide) (fun h32 => ?_) (fun h32 => absurd rfl h32)
        refine v_aload_n dX12_wordStep_47 rfl ?_
        refine v_ldcS (k := 14) (tx := "sum") dX12_wordStep_48 rfl (List.mem_of_getElem? (i := 9) rfl) (by decide) ?_
        refine v_scV [_] (c12_tookT G M0 M hS hT h (t := 14) (by decide) ⟨h0, k14⟩) k12_took dX12_wordStep_50 l12_125 (by first | exact hS'.1 _ _ rfl | assumption) (by decide) rfl (Nat.le_of_ble_eq_true rfl) (Nat.le_of_ble_eq_true rfl) ?_
        intro M2 hM2
        refine v_if_eq 60 dX12_wordStep_53 (by decide) (fun h53 => absurd h53 (by decide)) (fun h53 => ?_)
        refine v_sipush 300 dX12_wordStep_56 (by decide) ?_
        refine v_iret dX12_wordStep_59 rfl ?_
        exact ⟨rfl, hM2⟩
      · rw [if_neg k14, if_neg k14]
        by_cases k15 : kd Z R.2.2.1 = 15
        · rw [if_pos k15, if_pos k15]
          refine v_aload_n dX12_wordStep_0 rfl ?_
          refine v_ldcS (k := 12) (tx := "m") dX12_wordStep_1 rfl (List.mem_of_getElem? (i := 7) rfl) (by decide) ?_
          refine v_cV [_] (c12_tookF G M0 M hS hT h (t := 12) (by decide) (fun z => k12 z.2)) k12_took dX12_wordStep_3 l12_125 (by first | exact hS'.1 _ _ rfl | assumption) (by decide) rfl (Nat.le_of_ble_eq_true rfl) (Nat.le_of_ble_eq_true rfl) ?_
          refine v_if_eq 26 dX12_wordStep_6 (by decide) (fun h6 => ?_) (fun h6 => absurd rfl h6)
          refine v_aload_n dX12_wordStep_26 rfl ?_
          refine v_ldcS (k := 13) (tx := "has") dX12_wordStep_27 rfl (List.mem_of_getElem? (i := 8) rfl) (by decide) ?_
          refine v_cV [_] (c12_tookF G M0 M hS hT h (t := 13) (by decide) (fun z => k13 z.2)) k12_took dX12_wordStep_29 l12_125 (by first | exact hS'.1 _ _ rfl | assumption) (by decide) rfl (Nat.le_of_ble_eq_true rfl) (Nat.le_of_ble_eq_true rfl) ?_
          refine v_if_eq 47 dX12_wordStep_32 (by decide) (fun h32 => ?_) (fun h32 => absurd rfl h32)
          refine v_aload_n dX12_wordStep_47 rfl ?_
          refine v_ldcS (k := 14) (tx := "sum") dX12_wordStep_48 rfl (List.mem_of_getElem? (i := 9) rfl) (by decide) ?_
          refine v_cV [_] (c12_tookF G M0 M hS hT h (t := 14) (by decide) (fun z => k14 z.2)) k12_took dX12_wordStep_50 l12_125 (by first | exact hS'.1 _ _ rfl | assumption) (by decide) rfl (Nat.le_of_ble_eq_true rfl) (Nat.le_of_ble_eq_true rfl) ?_
          refine v_if_eq 60 dX12_wordStep_53 (by decide) (fun h53 => ?_) (fun h53 => absurd rfl h53)
          refine v_aload_n dX12_wordStep_60 rfl ?_
          refine v_ldcS (k := 15) (tx := "alike") dX12_wordStep_61 rfl (List.mem_of_getElem? (i := 10) rfl) (by decide) ?_
          refine v_scV [_] (c12_tookT G M0 M hS hT h (t := 15) (by decide) ⟨h0, k15⟩) k12_took dX12_wordStep_63 l12_125 (by first | exact hS'.1 _ _ rfl | assumption) (by decide) rfl (Nat.le_of_ble_eq_true rfl) (Nat.le_of_ble_eq_true rfl) ?_
          intro M2 hM2
          refine v_if_eq 73 dX12_wordStep_66 (by decide) (fun h66 => absurd h66 (by decide)) (fun h66 => ?_)
          refine v_sipush 301 dX12_wordStep_69 (by decide) ?_
          refine v_iret dX12_wordStep_72 rfl ?_
          exact ⟨rfl, hM2⟩
        · rw [if_neg k15, if_neg k15]
          by_cases k16 : kd Z R.2.2.1 = 16
          · rw [if_pos k16, if_pos k16]
            refine v_aload_n dX12_wordStep_0 rfl ?_
            refine v_ldcS (k := 12) (tx := "m") dX12_wordStep_1 rfl (List.mem_of_getElem? (i := 7) rfl) (by decide) ?_
            refine v_cV [_] (c12_tookF G M0 M hS hT h (t := 12) (by decide) (fun z => k12 z.2)) k12_took dX12_wordStep_3 l12_125 (by first | exact hS'.1 _ _ rfl | assumption) (by decide) rfl (Nat.le_of_ble_eq_true rfl) (Nat.le_of_ble_eq_true rfl) ?_
            refine v_if_eq 26 dX12_wordStep_6 (by decide) (fun h6 => ?_) (fun h6 => absurd rfl h6)
            refine v_aload_n dX12_wordStep_26 rfl ?_
            refine v_ldcS (k := 13) (tx := "has") dX12_wordStep_27 rfl (List.mem_of_getElem? (i := 8) rfl) (by decide) ?_
            refine v_cV [_] (c12_tookF G M0 M hS hT h (t := 13) (by decide) (fun z => k13 z.2)) k12_took dX12_wordStep_29 l12_125 (by first | exact hS'.1 _ _ rfl | assumption) (by decide) rfl (Nat.le_of_ble_eq_true rfl) (Nat.le_of_ble_eq_true rfl) ?_
            refine v_if_eq 47 dX12_wordStep_32 (by decide) (fun h32 => ?_) (fun h32 => absurd rfl h32)
            refine v_aload_n dX12_wordStep_47 rfl ?_
            refine v_ldcS (k := 14) (tx := "sum") dX12_wordStep_48 rfl (List.mem_of_getElem? (i := 9) rfl) (by decide) ?_
            refine v_cV [_] (c12_tookF G M0 M hS hT h (t := 14) (by decide) (fun z => k14 z.2)) k12_took dX12_wordStep_50 l12_125 (by first | exact hS'.1 _ _ rfl | assumption) (by decide) rfl (Nat.le_of_ble_eq_true rfl) (Nat.le_of_ble_eq_true rfl) ?_
            refine v_if_eq 60 dX12_wordStep_53 (by decide) (fun h53 => ?_) (fun h53 => absurd rfl h53)
            refine v_aload_n dX12_wordStep_60 rfl ?_
            refine v_ldcS (k := 15) (tx := "alike") dX12_wordStep_61 rfl (List.mem_of_getElem? (i := 10) rfl) (by decide) ?_
            refine v_cV [_] (c12_tookF G M0 M hS hT h (t := 15) (by decide) (fun z => k15 z.2)) k12_took dX12_wordStep_63 l12_125 (by first | exact hS'.1 _ _ rfl | assumption) (by decide) rfl (Nat.le_of_ble_eq_true rfl) (Nat.le_of_ble_eq_true rfl) ?_
            refine v_if_eq 73 dX12_wordStep_66 (by decide) (fun h66 => ?_) (fun h66 => absurd rfl h66)
            refine v_aload_n dX12_wordStep_73 rfl ?_
            refine v_ldcS (k := 16) (tx := "number") dX12_wordStep_74 rfl (List.mem_of_getElem? (i := 11) rfl) (by decide) ?_
            refine v_scV [_] (c12_tookT G M0 M hS hT h (t := 16) (by decide) ⟨h0, k16⟩) k12_took dX12_wordStep_76 l12_125 (by first | exact hS'.1 _ _ rfl | assumption) (by decide) rfl (Nat.le_of_ble_eq_true rfl) (Nat.le_of_ble_eq_true rfl) ?_
            intro M2 hM2
            refine v_if_eq 88 dX12_wordStep_79 (by decide) (fun h79 => absurd h79 (by decide)) (fun h79 => ?_)
            refine v_sipush 302 dX12_wordStep_82 (by decide) ?_
            refine v_goto 89 dX12_wordStep_85 (by decide) ?_
            refine v_iret dX12_wordStep_89 rfl ?_
            exact ⟨rfl, hM2⟩
          · rw [if_neg k16, if_neg k16]
            refine v_aload_n dX12_wordStep_0 rfl ?_
            refine v_ldcS (k := 12) (tx := "m") dX12_wordStep_1 rfl (List.mem_of_getElem? (i := 7) rfl) (by decide) ?_
            refine v_cV [_] (c12_tookF G M0 M hS hT h (t := 12) (by decide) (fun z => k12 z.2)) k12_took dX12_wordStep_3 l12_125 (by first | exact hS'.1 _ _ rfl | assumption) (by decide) rfl (Nat.le_of_ble_eq_true rfl) (Nat.le_of_ble_eq_true rfl) ?_
            refine v_if_eq 26 dX12_wordStep_6 (by decide) (fun h6 => ?_) (fun h6 => absurd rfl h6)
            refine v_aload_n dX12_wordStep_26 rfl ?_
            refine v_ldcS (k := 13) (tx := "has") dX12_wordStep_27 rfl (List.mem_of_getElem? (i := 8) rfl) (by decide) ?_
            refine v_cV [_] (c12_tookF G M0 M hS hT h (t := 13) (by decide) (fun z => k13 z.2)) k12_took dX12_wordStep_29 l12_125 (by first | exact hS'.1 _ _ rfl | assumption) (by decide) rfl (Nat.le_of_ble_eq_true rfl) (Nat.le_of_ble_eq_true rfl) ?_
            refine v_if_eq 47 dX12_wordStep_32 (by decide) (fun h32 => ?_) (fun h32 => absurd rfl h32)
            refine v_aload_n dX12_wordStep_47 rfl ?_
            refine v_ldcS (k := 14) (tx := "sum") dX12_wordStep_48 rfl (List.mem_of_getElem? (i := 9) rfl) (by decide) ?_
            refine v_cV [_] (c12_tookF G M0 M hS hT h (t := 14) (by decide) (fun z => k14 z.2)) k12_took dX12_wordStep_50 l12_125 (by first | exact hS'.1 _ _ rfl | assumption) (by decide) rfl (Nat.le_of_ble_eq_true rfl) (Nat.le_of_ble_eq_true rfl) ?_
            refine v_if_eq 60 dX12_wordStep_53 (by decide) (fun h53 => ?_) (fun h53 => absurd rfl h53)
            refine v_aload_n dX12_wordStep_60 rfl ?_
            refine v_ldcS (k := 15) (tx := "alike") dX12_wordStep_61 rfl (List.mem_of_getElem? (i := 10) rfl) (by decide) ?_
            refine v_cV [_] (c12_tookF G M0 M hS hT h (t := 15) (by decide) (fun z => k15 z.2)) k12_took dX12_wordStep_63 l12_125 (by first | exact hS'.1 _ _ rfl | assumption) (by decide) rfl (Nat.le_of_ble_eq_true rfl) (Nat.le_of_ble_eq_true rfl) ?_
            refine v_if_eq 73 dX12_wordStep_66 (by decide) (fun h66 => ?_) (fun h66 => absurd rfl h66)
            refine v_aload_n dX12_wordStep_73 rfl ?_
            refine v_ldcS (k := 16) (tx := "number") dX12_wordStep_74 rfl (List.mem_of_getElem? (i := 11) rfl) (by decide) ?_
            refine v_cV [_] (c12_tookF G M0 M hS hT h (t := 16) (by decide) (fun z => k16 z.2)) k12_took dX12_wordStep_76 l12_125 (by first | exact hS'.1 _ _ rfl | assumption) (by decide) rfl (Nat.le_of_ble_eq_true rfl) (Nat.le_of_ble_eq_true rfl) ?_
            refine v_if_eq 88 dX12_wordStep_79 (by decide) (fun h79 => ?_) (fun h79 => absurd rfl h79)
            refine v_iconst (-1) dX12_wordStep_88 (by decide) ?_
            refine v_iret dX12_wordStep_89 rfl ?_
            exact ⟨rfl, h⟩
/-- with a fault nothing is read -/
theorem c12_atB (M : mM) {D0 : Nat} {Z : (Nat → Nat) × Nat} {d : Nat} {R : RSt} (hS : Sh M0) (h : PS M0 Z d R M) (hb : R.1 ≠ 0) : Ct G Y12_readAtom D0 0 0 [.ref 230] M (Rv none M) NX := by
  have hS' := hS.sm h.1
  refine Ct.of k12_readAtom.1 (Nat.le_of_ble_eq_true rfl) ?_
  refine v_aload_n dX12_readAtom_0 rfl ?_
  refine v_getI 12 12 dX12_readAtom_1 f12_103 (by first | exact hS'.1 _ _ rfl | assumption) (by decide) ?_
  refine v_if_eq 8 dX12_readAtom_4 (by decide) (fun h4 => absurd h4 (h.bad.2 hb)) (fun h4 => ?_)
  refine v_vret dX12_readAtom_7 rfl ?_
  exact ⟨rfl, rfl⟩
theorem c12_teB (M : mM) {D0 : Nat} {Z : (Nat → Nat) × Nat} {d : Nat} {R : RSt} (hS : Sh M0) (h : PS M0 Z d R M) (hb : R.1 ≠ 0) : Ct G Y12_readTerm (D0 + 1) 0 0 [.ref 230] M (Rv none M) NX := by
  have hS' := hS.sm h.1
  refine Ct.of k12_readTerm.1 (Nat.le_of_ble_eq_true rfl) ?_
  refine v_aload_n dX12_readTerm_0 rfl ?_
  refine v_cVv [] (c12_atB (D0 := D0) G M0 M hS h hb) k12_readAtom dX12_readTerm_1 l12_172 (by first | exact hS'.1 _ _ rfl | assumption) (by decide) rfl (by omega) (Nat.le_of_ble_eq_true rfl) ?_
  refine v_aload_n dX12_readTerm_4 rfl ?_
  refine v_bipush 42 dX12_readTerm_5 (by decide) ?_
  refine v_cV [_] (c12_sgF G M0 M hS h (k := 21) (by decide) (by decide) (fun z => hb z.1)) k12_isSign dX12_readTerm_7 l12_157 (by first | exact hS'.1 _ _ rfl | assumption) (by decide) rfl (by omega) (Nat.le_of_ble_eq_true rfl) ?_
  refine v_if_eq 30 dX12_readTerm_10 (by decide) (fun h10 => ?_) (fun h10 => absurd rfl h10)
  refine v_vret dX12_readTerm_30 rfl ?_
  exact ⟨rfl, rfl⟩
theorem c12_suB (M : mM) {D0 : Nat} {Z : (Nat → Nat) × Nat} {d : Nat} {R : RSt} (hS : Sh M0) (h : PS M0 Z d R M) (hb : R.1 ≠ 0) : Ct G Y12_readSum (D0 + 2) 0 0 [.ref 230] M (Rv none M) NX := by
  have hS' := hS.sm h.1
  refine Ct.of k12_readSum.1 (Nat.le_of_ble_eq_true rfl) ?_
  refine v_aload_n dX12_readSum_0 rfl ?_
  refine v_cVv [] (c12_teB (D0 := D0) G M0 M hS h hb) k12_readTerm dX12_readSum_1 l12_169 (by first | exact hS'.1 _ _ rfl | assumption) (by decide) rfl (by omega) (Nat.le_of_ble_eq_true rfl) ?_
  refine v_aload_n dX12_readSum_4 rfl ?_
  refine v_bipush 43 dX12_readSum_5 (by decide) ?_
  refine v_cV [_] (c12_sgF G M0 M hS h (k := 19) (by decide) (by decide) (fun z => hb z.1)) k12_isSign dX12_readSum_7 l12_157 (by first | exact hS'.1 _ _ rfl | assumption) (by decide) rfl (by omega) (Nat.le_of_ble_eq_true rfl) ?_
  refine v_if_ne 22 dX12_readSum_10 (by decide) (fun h10 => absurd rfl h10) (fun h10 => ?_)
  refine v_aload_n dX12_readSum_13 rfl ?_
  refine v_bipush 45 dX12_readSum_14 (by decide) ?_
  refine v_cV [_] (c12_sgF G M0 M hS h (k := 20) (by decide) (by decide) (fun z => hb z.1)) k12_isSign dX12_readSum_16 l12_157 (by first | exact hS'.1 _ _ rfl | assumption) (by decide) rfl (by omega) (Nat.le_of_ble_eq_true rfl) ?_
  refine v_if_eq 55 dX12_readSum_19 (by decide) (fun h19 => ?_) (fun h19 => absurd rfl h19)
  refine v_vret dX12_readSum_55 rfl ?_
  exact ⟨rfl, rfl⟩
end PC
