/-! ===== the reference: twins, idle, changing, parts, nearest, differ, common ===== -/
theorem bset_p {p : Nat → Bool} {n : Nat} (hn : n < 31) (h : p n = true) : nI (bset n p) ||| ((1 : Int32) <<< (nI n &&& 31)) = nI (bset (n + 1) p) := by
  have := bset_step p hn
  rw [if_pos h, ← shl1 (by omega)] at this
  exact this
theorem bset_n {p : Nat → Bool} {n : Nat} (hn : n < 31) (h : p n = false) : nI (bset n p) ||| (0 : Int32) = nI (bset (n + 1) p) := by
  have := bset_step p hn
  rw [h] at this
  exact this
theorem cnt_pos {p : Nat → Bool} {n : Nat} (hn : n < 2 ^ 31) : nI (cnt n p) ≤ 0 ↔ cnt n p = 0 := by
  have := cnt_le p n
  rw [show (0 : Int32) = nI 0 from rfl, nI_leI (by omega) (by omega)]
  omega
def twP (K : Nat → Int32) (c : Nat) : Bool := (kn K 93).testBit c && decide (likN K c ≠ 0)
def idP (K : Nat → Int32) (w : Nat) : Bool := decide (bset (kn K 2) (inbP K w) = 0) || decide (bset (kn K 2) (inbP K w) = kn K 93)
def chP (K : Nat → Int32) (c : Nat) : Bool := decide (trN K false c ≠ trN K true c)
/-- the first of those that are ok with the least g -/
def fmF (ok : Nat → Bool) (g : Nat → Int32) : Nat → Int32 × Int32
  | 0 => (-1, 0)
  | c + 1 => if ok c = true ∧ ((fmF ok g c).1 = -1 ∨ g c < (fmF ok g c).2) then (nI c, g c) else fmF ok g c
def ptG (K : Nat → Int32) (w : Nat) : Int32 := if nI (pcn (bset (kn K 2) (inbP K w))) < nI (pcn (kn K 93)) - nI (pcn (bset (kn K 2) (inbP K w))) then nI (pcn (kn K 93)) - nI (pcn (bset (kn K 2) (inbP K w))) else nI (pcn (bset (kn K 2) (inbP K w)))
def nrO (K : Nat → Int32) (c d : Nat) : Bool := decide (d ≠ c) && (kn K 93).testBit d
def nrG (K : Nat → Int32) (c d : Nat) : Int32 := nI (pcn (trH K c ^^^ trH K d))
def cmA (K : Nat → Int32) (S : Nat) : Nat → Nat
  | 0 => 2 ^ kn K 3 - 1
  | c + 1 => if S.testBit c = true then cmA K S c &&& trH K c else cmA K S c
def cmS (K : Nat → Int32) (S : Nat) : Nat → Nat
  | 0 => 0
  | c + 1 => if S.testBit c = true then cmS K S c ||| trH K c else cmS K S c
def tCm (K : Nat → Int32) (x : Int32) : Int32 := if 0 < x ∧ x &&& (K 93 ^^^ (-1)) = 0 then 0 else 1
theorem inb_lt {K : Nat → Int32} (hP : WP K) (p : Nat → Bool) : bset (kn K 2) p < 16384 := Nat.lt_of_lt_of_le (bset_lt _ _) (show 2 ^ kn K 2 ≤ 2 ^ 14 from Nat.pow_le_pow_right (by omega) hP.2.1.2)
theorem cmS_lt {K : Nat → Int32} (hP : WP K) (S : Nat) : ∀ c, cmS K S c < 1024 := by
  intro c
  induction c with
  | zero => exact (show (0 : Nat) < 1024 by decide)
  | succ c ih =>
    rw [cmS]
    split
    · exact Nat.or_lt_two_pow (n := 10) ih (trN_lt hP _ _)
    · exact ih
section RR
variable (G : mG) (M : mM)
theorem l12_twins (hS : Sh M) (hP : WP (gI M 231)) (hI : inOK (gI M 231)) (hH : HH M (gI M 231)) : ∀ i c, c + i = kn (gI M 231) 2 → V G Y12_twins 7 0 0 (Rv (some (.int (nI (bset (kn (gI M 231) 2) (twP (gI M 231)))))) M) NX 13 [some (.ref 230), some (.int (nI (bset c (twP (gI M 231))))), some (.int (nI c))] [] M := by
  have h14 := hP.2.1.2
  intro i
  induction i with
  | zero =>
    intro c hc
    obtain rfl : c = kn (gI M 231) 2 := by omega
    refine v_iload_n dX12_twins_13 rfl ?_
    refine v_aload_n dX12_twins_14 rfl ?_
    refine v_cV [] (c12_chestsN G M hS hP) k12_chests dX12_twins_15 l12_245 (by first | exact hS.1 _ _ rfl | exact hS'.1 _ _ rfl | assumption) (by decide) rfl (Nat.le_of_ble_eq_true rfl) (Nat.le_of_ble_eq_true rfl) ?_
    refine v_icmp_ge 53 dX12_twins_18 (by decide) (fun h18 => ?_) (fun h18 => ?_)
    · refine v_iload_n dX12_twins_53 rfl ?_
      refine v_iret dX12_twins_54 rfl ?_
      exact ⟨rfl, rfl⟩
    · (exfalso; (try simp (disch := omega) only [nI_leI, nI_ltI, nI_eq, nI0, bI_z, bI_lez, Decidable.not_not] at h18); omega)
  | succ i ih =>
    intro c hc
    have hn := ih (c + 1) (by omega)
    have hcp : nI (likN (gI M 231) c) ≤ 0 ↔ likN (gI M 231) c = 0 := cnt_pos (by omega)
    refine v_iload_n dX12_twins_13 rfl ?_
    refine v_aload_n dX12_twins_14 rfl ?_
    refine v_cV [] (c12_chestsN G M hS hP) k12_chests dX12_twins_15 l12_245 (by first | exact hS.1 _ _ rfl | exact hS'.1 _ _ rfl | assumption) (by decide) rfl (Nat.le_of_ble_eq_true rfl) (Nat.le_of_ble_eq_true rfl) ?_
    refine v_icmp_ge 53 dX12_twins_18 (by decide) (fun h18 => ?_) (fun h18 => ?_)
    · (exfalso; (try simp (disch := omega) only [nI_leI, nI_ltI, nI_eq, nI0, bI_z, bI_lez, Decidable.not_not] at h18); omega)
    · refine v_iload_n dX12_twins_21 rfl ?_
      refine v_aload_n dX12_twins_22 rfl ?_
      refine v_iload_n dX12_twins_23 rfl ?_
      refine v_cV [_] (c12_isInN G M hS hP hI (by omega)) k12_isIn dX12_twins_24 l12_250 (by first | exact hS.1 _ _ rfl | exact hS'.1 _ _ rfl | assumption) (by decide) rfl (Nat.le_of_ble_eq_true rfl) (Nat.le_of_ble_eq_true rfl) ?_
      refine v_if_eq 44 dX12_twins_27 (by decide) (fun h27 => ?_) (fun h27 => ?_)
      · refine v_iconst 0 dX12_twins_44 (by decide) ?_
        refine v_ior dX12_twins_45 ?_
        refine v_istore_n dX12_twins_46 rfl (by decide) ?_
        refine v_iinc 1 dX12_twins_47 rfl (by decide) rfl (by decide) ?_
        refine v_goto 13 dX12_twins_50 (by decide) ?_
        (rw [nI_1]; (try simp (disch := omega) only [nI_leI, nI_ltI, nI_eq, nI0, bI_z, bI_lez, Decidable.not_not] at h18 h27); (try rw [hcp] at h35); first | (rw [bset_p (p := twP (gI M 231)) (by omega) (by simp [twP, h18, h27])]; exact hn) | (rw [bset_n (p := twP (gI M 231)) (by omega) (by simp [twP, h18, h27])]; exact hn))
      · refine v_aload_n dX12_twins_30 rfl ?_
        refine v_iload_n dX12_twins_31 rfl ?_
        refine v_cV [_] (c12_likeIt G M hS hP hI hH (by omega)) k12_likeIt dX12_twins_32 l12_309 (by first | exact hS.1 _ _ rfl | exact hS'.1 _ _ rfl | assumption) (by decide) rfl (Nat.le_of_ble_eq_true rfl) (Nat.le_of_ble_eq_true rfl) ?_
        refine v_if_le 44 dX12_twins_35 (by decide) (fun h35 => ?_) (fun h35 => ?_)
        · refine v_iconst 0 dX12_twins_44 (by decide) ?_
          refine v_ior dX12_twins_45 ?_
          refine v_istore_n dX12_twins_46 rfl (by decide) ?_
          refine v_iinc 1 dX12_twins_47 rfl (by decide) rfl (by decide) ?_
          refine v_goto 13 dX12_twins_50 (by decide) ?_
          (rw [nI_1]; (try simp (disch := omega) only [nI_leI, nI_ltI, nI_eq, nI0, bI_z, bI_lez, Decidable.not_not] at h18 h27 h35); (try rw [hcp] at h35); first | (rw [bset_p (p := twP (gI M 231)) (by omega) (by simp [twP, h18, h27, h35])]; exact hn) | (rw [bset_n (p := twP (gI M 231)) (by omega) (by simp [twP, h18, h27, h35])]; exact hn))
        · refine v_iconst 1 dX12_twins_38 (by decide) ?_
          refine v_iload_n dX12_twins_39 rfl ?_
          refine v_ishl dX12_twins_40 ?_
          refine v_goto 45 dX12_twins_41 (by decide) ?_
          refine v_ior dX12_twins_45 ?_
          refine v_istore_n dX12_twins_46 rfl (by decide) ?_
          refine v_iinc 1 dX12_twins_47 rfl (by decide) rfl (by decide) ?_
          refine v_goto 13 dX12_twins_50 (by decide) ?_
          (rw [nI_1]; (try simp (disch := omega) only [nI_leI, nI_ltI, nI_eq, nI0, bI_z, bI_lez, Decidable.not_not] at h18 h27 h35); (try rw [hcp] at h35); first | (rw [bset_p (p := twP (gI M 231)) (by omega) (by simp [twP, h18, h27, h35])]; exact hn) | (rw [bset_n (p := twP (gI M 231)) (by omega) (by simp [twP, h18, h27, h35])]; exact hn))
theorem c12_twins (hS : Sh M) (hQ : WQ (gI M 231)) : Ct G Y12_twins 7 0 0 [.ref 230] M (Rs (some (.int (nI (bset (kn (gI M 231) 2) (twP (gI M 231)))))) (Pq M 0)) NX := by
  obtain ⟨hP, hI, hU⟩ := hQ
  refine Ct.of k12_twins.1 (Nat.le_of_ble_eq_true rfl) ?_
  refine v_aload_n dX12_twins_0 rfl ?_
  refine v_iconst 0 dX12_twins_1 (by decide) ?_
  refine v_putI 12 4 dX12_twins_2 f12_68 (by first | exact hS.1 _ _ rfl | exact hS'.1 _ _ rfl | assumption) (by decide) ?_
  refine v_aload_n dX12_twins_5 rfl ?_
  -- at 6: .invokevirtual 306
  have e1 : gI (sI M 230 4 0) 231 = gI M 231 := gI_sr _ _ (by decide)
  refine v_scVv [] (c12_laysHold G (sI M 230 4 0) hS (by rw [e1]; exact hP)) k12_laysHold dX12_twins_6 l12_306 (hS.1 _ _ rfl) (by decide) rfl (Nat.le_of_ble_eq_true rfl) (Nat.le_of_ble_eq_true rfl) (fun M2 hM2 => ?_)
  have hS' := Sh.sm (M := sI M 230 4 0) hS hM2.1
  have e2 : gI M2 231 = gI M 231 := (hM2.1.K (fun _ => rfl)).trans e1
  have hH := hM2.2
  rw [e1, ← e2] at hH
  have hpq := Pq.of hM2.1
  rw [← e2] at hP hI hU ⊢
  refine v_iconst 0 dX12_twins_9 (by decide) ?_
  refine v_istore_n dX12_twins_10 rfl (by decide) ?_
  refine v_iconst 0 dX12_twins_11 (by decide) ?_
  refine v_istore_n dX12_twins_12 rfl (by decide) ?_
  -- at 13: .iload_n 2
  refine V.post (l12_twins G M2 hS' hP hI hH (kn (gI M2 231) 2) 0 (by omega)) (fun v M3 h => ⟨h.1, by rw [h.2]; exact hpq⟩) (fun _ _ h => h)
theorem l12_changing (hS : Sh M) (hP : WP (gI M 231)) (hH : HH M (gI M 231)) : ∀ i c, c + i = kn (gI M 231) 2 → V G Y12_changing 7 0 0 (Rv (some (.int (nI (bset (kn (gI M 231) 2) (chP (gI M 231)))))) M) NX 13 [some (.ref 230), some (.int (nI (bset c (chP (gI M 231))))), some (.int (nI c))] [] M := by
  have h14 := hP.2.1.2
  intro i
  induction i with
  | zero =>
    intro c hc
    obtain rfl : c = kn (gI M 231) 2 := by omega
    refine v_iload_n dX12_changing_13 rfl ?_
    refine v_aload_n dX12_changing_14 rfl ?_
    refine v_cV [] (c12_chestsN G M hS hP) k12_chests dX12_changing_15 l12_245 (by first | exact hS.1 _ _ rfl | exact hS'.1 _ _ rfl | assumption) (by decide) rfl (Nat.le_of_ble_eq_true rfl) (Nat.le_of_ble_eq_true rfl) ?_
    refine v_icmp_ge 52 dX12_changing_18 (by decide) (fun h18 => ?_) (fun h18 => ?_)
    · refine v_iload_n dX12_changing_52 rfl ?_
      refine v_iret dX12_changing_53 rfl ?_
      exact ⟨rfl, rfl⟩
    · (exfalso; (try simp (disch := omega) only [nI_leI, nI_ltI, nI_eq, nI0, bI_z, bI_lez, Decidable.not_not] at h18); omega)
  | succ i ih =>
    intro c hc
    have hn := ih (c + 1) (by omega)
    have hh := hH c (by omega)
    have t1 := trN_lt hP false c
    have t2 := trN_lt hP true c
    refine v_iload_n dX12_changing_13 rfl ?_
    refine v_aload_n dX12_changing_14 rfl ?_
    refine v_cV [] (c12_chestsN G M hS hP) k12_chests dX12_changing_15 l12_245 (by first | exact hS.1 _ _ rfl | exact hS'.1 _ _ rfl | assumption) (by decide) rfl (Nat.le_of_ble_eq_true rfl) (Nat.le_of_ble_eq_true rfl) ?_
    refine v_icmp_ge 52 dX12_changing_18 (by decide) (fun h18 => ?_) (fun h18 => ?_)
    · (exfalso; (try simp (disch := omega) only [nI_leI, nI_ltI, nI_eq, nI0, bI_z, bI_lez, Decidable.not_not] at h18); omega)
    · refine v_iload_n dX12_changing_21 rfl ?_
      refine v_aload_n dX12_changing_22 rfl ?_
      refine v_getR 12 21 _ dX12_changing_23 f12_39 (by first | exact hS.1 _ _ rfl | exact hS'.1 _ _ rfl | assumption) (by decide) (by first | exact hS.2 _ _ _ rfl | exact hS'.2 _ _ _ rfl | assumption) ?_
      refine v_iload_n dX12_changing_26 rfl ?_
      refine v_ialdN (c) dX12_changing_27 (by first | exact hS.1 _ _ rfl | exact hS'.1 _ _ rfl | assumption) (by simp only [n_lit, pk_mul, nI_add]) ⟨by omega, by omega⟩ ?_
      rw [hh.1]
      refine v_aload_n dX12_changing_28 rfl ?_
      refine v_getR 12 22 _ dX12_changing_29 f12_42 (by first | exact hS.1 _ _ rfl | exact hS'.1 _ _ rfl | assumption) (by decide) (by first | exact hS.2 _ _ _ rfl | exact hS'.2 _ _ _ rfl | assumption) ?_
      refine v_iload_n dX12_changing_32 rfl ?_
      refine v_ialdN (c) dX12_changing_33 (by first | exact hS.1 _ _ rfl | exact hS'.1 _ _ rfl | assumption) (by simp only [n_lit, pk_mul, nI_add]) ⟨by omega, by omega⟩ ?_
      rw [hh.2.1]
      refine v_icmp_ne 41 dX12_changing_34 (by decide) (fun h34 => ?_) (fun h34 => ?_)
      · refine v_iconst 1 dX12_changing_41 (by decide) ?_
        refine v_iload_n dX12_changing_42 rfl ?_
        refine v_ishl dX12_changing_43 ?_
        refine v_ior dX12_changing_44 ?_
        refine v_istore_n dX12_changing_45 rfl (by decide) ?_
        refine v_iinc 1 dX12_changing_46 rfl (by decide) rfl (by decide) ?_
        refine v_goto 13 dX12_changing_49 (by decide) ?_
        (rw [nI_1]; (try simp (disch := omega) only [nI_leI, nI_ltI, nI_eq, nI0, bI_z, bI_lez, Decidable.not_not] at h18 h34); first | (rw [bset_p (p := chP (gI M 231)) (by omega) (by simp [chP, h18, h34])]; exact hn) | (rw [bset_n (p := chP (gI M 231)) (by omega) (by simp [chP, h18, h34])]; exact hn))
      · refine v_iconst 0 dX12_changing_37 (by decide) ?_
        refine v_goto 44 dX12_changing_38 (by decide) ?_
        refine v_ior dX12_changing_44 ?_
        refine v_istore_n dX12_changing_45 rfl (by decide) ?_
        refine v_iinc 1 dX12_changing_46 rfl (by decide) rfl (by decide) ?_
        refine v_goto 13 dX12_changing_49 (by decide) ?_
        (rw [nI_1]; (try simp (disch := omega) only [nI_leI, nI_ltI, nI_eq, nI0, bI_z, bI_lez, Decidable.not_not] at h18 h34); first | (rw [bset_p (p := chP (gI M 231)) (by omega) (by simp [chP, h18, h34])]; exact hn) | (rw [bset_n (p := chP (gI M 231)) (by omega) (by simp [chP, h18, h34])]; exact hn))
theorem c12_changing (hS : Sh M) (hQ : WQ (gI M 231)) : Ct G Y12_changing 7 0 0 [.ref 230] M (Rs (some (.int (nI (bset (kn (gI M 231) 2) (chP (gI M 231)))))) (Pq M 0)) NX := by
  obtain ⟨hP, hI, hU⟩ := hQ
  refine Ct.of k12_changing.1 (Nat.le_of_ble_eq_true rfl) ?_
  refine v_aload_n dX12_changing_0 rfl ?_
  refine v_iconst 0 dX12_changing_1 (by decide) ?_
  refine v_putI 12 4 dX12_changing_2 f12_68 (by first | exact hS.1 _ _ rfl | exact hS'.1 _ _ rfl | assumption) (by decide) ?_
  refine v_aload_n dX12_changing_5 rfl ?_
  -- at 6: .invokevirtual 306
  have e1 : gI (sI M 230 4 0) 231 = gI M 231 := gI_sr _ _ (by decide)
  refine v_scVv [] (c12_laysHold G (sI M 230 4 0) hS (by rw [e1]; exact hP)) k12_laysHold dX12_changing_6 l12_306 (hS.1 _ _ rfl) (by decide) rfl (Nat.le_of_ble_eq_true rfl) (Nat.le_of_ble_eq_true rfl) (fun M2 hM2 => ?_)
  have hS' := Sh.sm (M := sI M 230 4 0) hS hM2.1
  have e2 : gI M2 231 = gI M 231 := (hM2.1.K (fun _ => rfl)).trans e1
  have hH := hM2.2
  rw [e1, ← e2] at hH
  have hpq := Pq.of hM2.1
  rw [← e2] at hP hI hU ⊢
  refine v_iconst 0 dX12_changing_9 (by decide) ?_
  refine v_istore_n dX12_changing_10 rfl (by decide) ?_
  refine v_iconst 0 dX12_changing_11 (by decide) ?_
  refine v_istore_n dX12_changing_12 rfl (by decide) ?_
  -- at 13: .iload_n 2
  refine V.post (l12_changing G M2 hS' hP hH (kn (gI M2 231) 2) 0 (by omega)) (fun v M3 h => ⟨h.1, by rw [h.2]; exact hpq⟩) (fun _ _ h => h)
theorem l12_idle (hS : Sh M) (hP : WP (gI M 231)) (hI : inOK (gI M 231)) (hH : HH M (gI M 231)) : ∀ i w, w + i = kn (gI M 231) 3 → V G Y12_idle 7 0 0 (Rv (some (.int (nI (bset (kn (gI M 231) 3) (idP (gI M 231)))))) M) NX 13 [some (.ref 230), some (.int (nI (bset w (idP (gI M 231))))), some (.int (nI w))] [] M := by
  have h10 := hP.2.2.1.2
  have hin := in_lt hP hI
  intro i
  induction i with
  | zero =>
    intro w hw
    obtain rfl : w = kn (gI M 231) 3 := by omega
    refine v_iload_n dX12_idle_13 rfl ?_
    refine v_aload_n dX12_idle_14 rfl ?_
    refine v_cV [] (c12_wordsN G M hS hP) k12_words dX12_idle_15 l12_242 (by first | exact hS.1 _ _ rfl | exact hS'.1 _ _ rfl | assumption) (by decide) rfl (Nat.le_of_ble_eq_true rfl) (Nat.le_of_ble_eq_true rfl) ?_
    refine v_icmp_ge 60 dX12_idle_18 (by decide) (fun h18 => ?_) (fun h18 => ?_)
    · refine v_iload_n dX12_idle_60 rfl ?_
      refine v_iret dX12_idle_61 rfl ?_
      exact ⟨rfl, rfl⟩
    · (exfalso; (try simp (disch := omega) only [nI_leI, nI_ltI, nI_eq, nI0, bI_z, bI_lez, Decidable.not_not] at h18); omega)
  | succ i ih =>
    intro w hw
    have hn := ih (w + 1) (by omega)
    have hb := inb_lt hP (inbP (gI M 231) w)
    refine v_iload_n dX12_idle_13 rfl ?_
    refine v_aload_n dX12_idle_14 rfl ?_
    refine v_cV [] (c12_wordsN G M hS hP) k12_words dX12_idle_15 l12_242 (by first | exact hS.1 _ _ rfl | exact hS'.1 _ _ rfl | assumption) (by decide) rfl (Nat.le_of_ble_eq_true rfl) (Nat.le_of_ble_eq_true rfl) ?_
    refine v_icmp_ge 60 dX12_idle_18 (by decide) (fun h18 => ?_) (fun h18 => ?_)
    · (exfalso; (try simp (disch := omega) only [nI_leI, nI_ltI, nI_eq, nI0, bI_z, bI_lez, Decidable.not_not] at h18); omega)
    · refine v_iload_n dX12_idle_21 rfl ?_
      refine v_aload_n dX12_idle_22 rfl ?_
      refine v_iload_n dX12_idle_23 rfl ?_
      refine v_cV [_] (c12_inBy G M hS hP hI hH (by omega)) k12_inBy dX12_idle_24 l12_317 (by first | exact hS.1 _ _ rfl | exact hS'.1 _ _ rfl | assumption) (by decide) rfl (Nat.le_of_ble_eq_true rfl) (Nat.le_of_ble_eq_true rfl) ?_
      refine v_if_eq 45 dX12_idle_27 (by decide) (fun h27 => ?_) (fun h27 => ?_)
      · refine v_iconst 1 dX12_idle_45 (by decide) ?_
        refine v_iload_n dX12_idle_46 rfl ?_
        refine v_ishl dX12_idle_47 ?_
        refine v_goto 52 dX12_idle_48 (by decide) ?_
        refine v_ior dX12_idle_52 ?_
        refine v_istore_n dX12_idle_53 rfl (by decide) ?_
        refine v_iinc 1 dX12_idle_54 rfl (by decide) rfl (by decide) ?_
        refine v_goto 13 dX12_idle_57 (by decide) ?_
        (rw [nI_1]; (try simp (disch := omega) only [nI_leI, nI_ltI, nI_eq, nI0, bI_z, bI_lez, Decidable.not_not] at h18 h27); first | (rw [bset_p (p := idP (gI M 231)) (by omega) (by simp [idP, h18, h27])]; exact hn) | (rw [bset_n (p := idP (gI M 231)) (by omega) (by simp [idP, h18, h27])]; exact hn))
      · refine v_aload_n dX12_idle_30 rfl ?_
        refine v_iload_n dX12_idle_31 rfl ?_
        refine v_cV [_] (c12_inBy G M hS hP hI hH (by omega)) k12_inBy dX12_idle_32 l12_317 (by first | exact hS.1 _ _ rfl | exact hS'.1 _ _ rfl | assumption) (by decide) rfl (Nat.le_of_ble_eq_true rfl) (Nat.le_of_ble_eq_true rfl) ?_
        refine v_aload_n dX12_idle_35 rfl ?_
        refine v_getR 12 0 _ dX12_idle_36 f12_9 (by first | exact hS.1 _ _ rfl | exact hS'.1 _ _ rfl | assumption) (by decide) (by first | exact hS.2 _ _ _ rfl | exact hS'.2 _ _ _ rfl | assumption) ?_
        refine v_bipush 93 dX12_idle_39 (by decide) ?_
        refine v_ialdN 93 dX12_idle_41 (by first | exact hS.1 _ _ rfl | exact hS'.1 _ _ rfl | assumption) rfl (by decide) ?_
        rw [hI.1]
        refine v_icmp_ne 51 dX12_idle_42 (by decide) (fun h42 => ?_) (fun h42 => ?_)
        · refine v_iconst 0 dX12_idle_51 (by decide) ?_
          refine v_ior dX12_idle_52 ?_
          refine v_istore_n dX12_idle_53 rfl (by decide) ?_
          refine v_iinc 1 dX12_idle_54 rfl (by decide) rfl (by decide) ?_
          refine v_goto 13 dX12_idle_57 (by decide) ?_
          (rw [nI_1]; (try simp (disch := omega) only [nI_leI, nI_ltI, nI_eq, nI0, bI_z, bI_lez, Decidable.not_not] at h18 h27 h42); first | (rw [bset_p (p := idP (gI M 231)) (by omega) (by simp [idP, h18, h27, h42])]; exact hn) | (rw [bset_n (p := idP (gI M 231)) (by omega) (by simp [idP, h18, h27, h42])]; exact hn))
        · refine v_iconst 1 dX12_idle_45 (by decide) ?_
          refine v_iload_n dX12_idle_46 rfl ?_
          refine v_ishl dX12_idle_47 ?_
          refine v_goto 52 dX12_idle_48 (by decide) ?_
          refine v_ior dX12_idle_52 ?_
          refine v_istore_n dX12_idle_53 rfl (by decide) ?_
          refine v_iinc 1 dX12_idle_54 rfl (by decide) rfl (by decide) ?_
          refine v_goto 13 dX12_idle_57 (by decide) ?_
          (rw [nI_1]; (try simp (disch := omega) only [nI_leI, nI_ltI, nI_eq, nI0, bI_z, bI_lez, Decidable.not_not] at h18 h27 h42); first | (rw [bset_p (p := idP (gI M 231)) (by omega) (by simp [idP, h18, h27, h42])]; exact hn) | (rw [bset_n (p := idP (gI M 231)) (by omega) (by simp [idP, h18, h27, h42])]; exact hn))
theorem c12_idle (hS : Sh M) (hQ : WQ (gI M 231)) : Ct G Y12_idle 7 0 0 [.ref 230] M (Rs (some (.int (nI (bset (kn (gI M 231) 3) (idP (gI M 231)))))) (Pq M 0)) NX := by
  obtain ⟨hP, hI, hU⟩ := hQ
  refine Ct.of k12_idle.1 (Nat.le_of_ble_eq_true rfl) ?_
  refine v_aload_n dX12_idle_0 rfl ?_
  refine v_iconst 0 dX12_idle_1 (by decide) ?_
  refine v_putI 12 4 dX12_idle_2 f12_68 (by first | exact hS.1 _ _ rfl | exact hS'.1 _ _ rfl | assumption) (by decide) ?_
  refine v_aload_n dX12_idle_5 rfl ?_
  -- at 6: .invokevirtual 306
  have e1 : gI (sI M 230 4 0) 231 = gI M 231 := gI_sr _ _ (by decide)
  refine v_scVv [] (c12_laysHold G (sI M 230 4 0) hS (by rw [e1]; exact hP)) k12_laysHold dX12_idle_6 l12_306 (hS.1 _ _ rfl) (by decide) rfl (Nat.le_of_ble_eq_true rfl) (Nat.le_of_ble_eq_true rfl) (fun M2 hM2 => ?_)
  have hS' := Sh.sm (M := sI M 230 4 0) hS hM2.1
  have e2 : gI M2 231 = gI M 231 := (hM2.1.K (fun _ => rfl)).trans e1
  have hH := hM2.2
  rw [e1, ← e2] at hH
  have hpq := Pq.of hM2.1
  rw [← e2] at hP hI hU ⊢
  refine v_iconst 0 dX12_idle_9 (by decide) ?_
  refine v_istore_n dX12_idle_10 rfl (by decide) ?_
  refine v_iconst 0 dX12_idle_11 (by decide) ?_
  refine v_istore_n dX12_idle_12 rfl (by decide) ?_
  -- at 13: .iload_n 2
  refine V.post (l12_idle G M2 hS' hP hI hH (kn (gI M2 231) 3) 0 (by omega)) (fun v M3 h => ⟨h.1, by rw [h.2]; exact hpq⟩) (fun _ _ h => h)
theorem fmF_p {ok : Nat → Bool} {g : Nat → Int32} {c : Nat} (h : ok c = true) (h2 : (fmF ok g c).1 = -1 ∨ g c < (fmF ok g c).2) : (fmF ok g (c + 1)).1 = nI c ∧ (fmF ok g (c + 1)).2 = g c := by
  rw [fmF, if_pos ⟨h, h2⟩]
  exact ⟨rfl, rfl⟩
theorem fmF_n {ok : Nat → Bool} {g : Nat → Int32} {c : Nat} (h : ¬ (ok c = true ∧ ((fmF ok g c).1 = -1 ∨ g c < (fmF ok g c).2))) : (fmF ok g (c + 1)).1 = (fmF ok g c).1 ∧ (fmF ok g (c + 1)).2 = (fmF ok g c).2 := by
  rw [fmF, if_neg h]
  exact ⟨rfl, rfl⟩
theorem nr_1 {K : Nat → Int32} {c d : Nat} (h : d = c) : (fmF (nrO K c) (nrG K c) (d + 1)).1 = (fmF (nrO K c) (nrG K c) d).1 ∧ (fmF (nrO K c) (nrG K c) (d + 1)).2 = (fmF (nrO K c) (nrG K c) d).2 := fmF_n (fun z => by simp [nrO, h] at z)
theorem nr_2 {K : Nat → Int32} {c d : Nat} (h : ¬ (kn K 93).testBit d = true) : (fmF (nrO K c) (nrG K c) (d + 1)).1 = (fmF (nrO K c) (nrG K c) d).1 ∧ (fmF (nrO K c) (nrG K c) (d + 1)).2 = (fmF (nrO K c) (nrG K c) d).2 := fmF_n (fun z => by simp [nrO, h] at z)
theorem nr_o {K : Nat → Int32} {c d : Nat} (h : ¬ d = c) (h2 : (kn K 93).testBit d = true) : nrO K c d = true := by simp [nrO, h, h2]
theorem l12_parts (hS : Sh M) (hP : WP (gI M 231)) (hI : inOK (gI M 231)) (hH : HH M (gI M 231)) : ∀ i w (o1 o2 : Option Value), w + i = kn (gI M 231) 3 → V G Y12_parts 7 0 0 (Rv (some (.int (fmF (fun _ => true) (ptG (gI M 231)) (kn (gI M 231) 3)).1)) M) NX 27 [some (.ref 230), some (.int (nI (pcn (kn (gI M 231) 93)))), some (.int (fmF (fun _ => true) (ptG (gI M 231)) w).1), some (.int (fmF (fun _ => true) (ptG (gI M 231)) w).2), some (.int (nI w)), o1, o2] [] M := by
  have h10 := hP.2.2.1.2
  intro i
  induction i with
  | zero =>
    intro w o1 o2 hw
    obtain rfl : w = kn (gI M 231) 3 := by omega
    refine v_iload dX12_parts_27 rfl ?_
    refine v_aload_n dX12_parts_29 rfl ?_
    refine v_cV [] (c12_wordsN G M hS hP) k12_words dX12_parts_30 l12_242 (by first | exact hS.1 _ _ rfl | exact hS'.1 _ _ rfl | assumption) (by decide) rfl (Nat.le_of_ble_eq_true rfl) (Nat.le_of_ble_eq_true rfl) ?_
    refine v_icmp_ge 84 dX12_parts_33 (by decide) (fun h33 => ?_) (fun h33 => ?_)
    · refine v_iload_n dX12_parts_84 rfl ?_
      refine v_iret dX12_parts_85 rfl ?_
      exact ⟨rfl, rfl⟩
    · (exfalso; (try simp (disch := omega) only [nI_leI, nI_ltI, nI_eq, nI0, bI_z, bI_lez, Decidable.not_not] at h33); omega)
  | succ i ih =>
    intro w o1 o2 hw
    have hb := inb_lt hP (inbP (gI M 231) w)
    have hn := ih (w + 1) (some (.int (nI (pcn (bset (kn (gI M 231) 2) (inbP (gI M 231) w)))))) (some (.int (ptG (gI M 231) w))) (by omega)
    refine v_iload dX12_parts_27 rfl ?_
    refine v_aload_n dX12_parts_29 rfl ?_
    refine v_cV [] (c12_wordsN G M hS hP) k12_words dX12_parts_30 l12_242 (by first | exact hS.1 _ _ rfl | exact hS'.1 _ _ rfl | assumption) (by decide) rfl (Nat.le_of_ble_eq_true rfl) (Nat.le_of_ble_eq_true rfl) ?_
    refine v_icmp_ge 84 dX12_parts_33 (by decide) (fun h33 => ?_) (fun h33 => ?_)
    · (exfalso; (try simp (disch := omega) only [nI_leI, nI_ltI, nI_eq, nI0, bI_z, bI_lez, Decidable.not_not] at h33); omega)
    · refine v_aload_n dX12_parts_36 rfl ?_
      refine v_iload dX12_parts_37 rfl ?_
      refine v_cV [_] (c12_inBy G M hS hP hI hH (by omega)) k12_inBy dX12_parts_39 l12_317 (by first | exact hS.1 _ _ rfl | exact hS'.1 _ _ rfl | assumption) (by decide) rfl (Nat.le_of_ble_eq_true rfl) (Nat.le_of_ble_eq_true rfl) ?_
      refine v_cS [_] (c12_size G M hb) k12_size dX12_parts_42 l12_330 rfl (Nat.le_of_ble_eq_true rfl) (Nat.le_of_ble_eq_true rfl) ?_
      refine v_istore dX12_parts_45 rfl (by decide) ?_
      refine v_iload dX12_parts_47 rfl ?_
      refine v_iload_n dX12_parts_49 rfl ?_
      refine v_iload dX12_parts_50 rfl ?_
      refine v_isub dX12_parts_52 ?_
      refine v_cS [_, _] (cJ_max G M _ _) kJ_max dX12_parts_53 l12_433 rfl (Nat.le_of_ble_eq_true rfl) (Nat.le_of_ble_eq_true rfl) ?_
      rw [show (if nI (pcn (bset (kn (gI M 231) 2) (inbP (gI M 231) w))) < nI (pcn (kn (gI M 231) 93)) - nI (pcn (bset (kn (gI M 231) 2) (inbP (gI M 231) w))) then nI (pcn (kn (gI M 231) 93)) - nI (pcn (bset (kn (gI M 231) 2) (inbP (gI M 231) w))) else nI (pcn (bset (kn (gI M 231) 2) (inbP (gI M 231) w)))) = ptG (gI M 231) w from rfl]
      refine v_istore dX12_parts_56 rfl (by decide) ?_
      refine v_iload_n dX12_parts_58 rfl ?_
      refine v_iconst (-1) dX12_parts_59 (by decide) ?_
      refine v_icmp_eq 72 dX12_parts_60 (by decide) (fun h60 => ?_) (fun h60 => ?_)
      · refine v_iload dX12_parts_72 rfl ?_
        refine v_istore_n dX12_parts_74 rfl (by decide) ?_
        refine v_iload dX12_parts_75 rfl ?_
        refine v_istore_n dX12_parts_77 rfl (by decide) ?_
        refine v_iinc 1 dX12_parts_78 rfl (by decide) rfl (by decide) ?_
        refine v_goto 27 dX12_parts_81 (by decide) ?_
        (rw [nI_1]; first | (have e := fmF_p (ok := fun _ => true) (g := ptG (gI M 231)) (c := w) rfl (Or.inl h60); rw [e.1, e.2] at hn; exact hn) | (have e := fmF_p (ok := fun _ => true) (g := ptG (gI M 231)) (c := w) rfl (Or.inr h66); rw [e.1, e.2] at hn; exact hn) | (have e := fmF_n (ok := fun _ => true) (g := ptG (gI M 231)) (c := w) (fun z => z.2.elim h60 h66); rw [e.1, e.2] at hn; exact hn))
      · refine v_iload dX12_parts_63 rfl ?_
        refine v_iload_n dX12_parts_65 rfl ?_
        refine v_icmp_lt 72 dX12_parts_66 (by decide) (fun h66 => ?_) (fun h66 => ?_)
        · refine v_iload dX12_parts_72 rfl ?_
          refine v_istore_n dX12_parts_74 rfl (by decide) ?_
          refine v_iload dX12_parts_75 rfl ?_
          refine v_istore_n dX12_parts_77 rfl (by decide) ?_
          refine v_iinc 1 dX12_parts_78 rfl (by decide) rfl (by decide) ?_
          refine v_goto 27 dX12_parts_81 (by decide) ?_
          (rw [nI_1]; first | (have e := fmF_p (ok := fun _ => true) (g := ptG (gI M 231)) (c := w) rfl (Or.inl h60); rw [e.1, e.2] at hn; exact hn) | (have e := fmF_p (ok := fun _ => true) (g := ptG (gI M 231)) (c := w) rfl (Or.inr h66); rw [e.1, e.2] at hn; exact hn) | (have e := fmF_n (ok := fun _ => true) (g := ptG (gI M 231)) (c := w) (fun z => z.2.elim h60 h66); rw [e.1, e.2] at hn; exact hn))
        · refine v_goto 78 dX12_parts_69 (by decide) ?_
          refine v_iinc 1 dX12_parts_78 rfl (by decide) rfl (by decide) ?_
          refine v_goto 27 dX12_parts_81 (by decide) ?_
          (rw [nI_1]; first | (have e := fmF_p (ok := fun _ => true) (g := ptG (gI M 231)) (c := w) rfl (Or.inl h60); rw [e.1, e.2] at hn; exact hn) | (have e := fmF_p (ok := fun _ => true) (g := ptG (gI M 231)) (c := w) rfl (Or.inr h66); rw [e.1, e.2] at hn; exact hn) | (have e := fmF_n (ok := fun _ => true) (g := ptG (gI M 231)) (c := w) (fun z => z.2.elim h60 h66); rw [e.1, e.2] at hn; exact hn))
theorem c12_parts (hS : Sh M) (hQ : WQ (gI M 231)) : Ct G Y12_parts 7 0 0 [.ref 230] M (Rs (some (.int (fmF (fun _ => true) (ptG (gI M 231)) (kn (gI M 231) 3)).1)) (Pq M 0)) NX := by
  obtain ⟨hP, hI, hU⟩ := hQ
  refine Ct.of k12_parts.1 (Nat.le_of_ble_eq_true rfl) ?_
  refine v_aload_n dX12_parts_0 rfl ?_
  refine v_iconst 0 dX12_parts_1 (by decide) ?_
  refine v_putI 12 4 dX12_parts_2 f12_68 (by first | exact hS.1 _ _ rfl | exact hS'.1 _ _ rfl | assumption) (by decide) ?_
  refine v_aload_n dX12_parts_5 rfl ?_
  -- at 6: .invokevirtual 306
  have e1 : gI (sI M 230 4 0) 231 = gI M 231 := gI_sr _ _ (by decide)
  refine v_scVv [] (c12_laysHold G (sI M 230 4 0) hS (by rw [e1]; exact hP)) k12_laysHold dX12_parts_6 l12_306 (hS.1 _ _ rfl) (by decide) rfl (Nat.le_of_ble_eq_true rfl) (Nat.le_of_ble_eq_true rfl) (fun M2 hM2 => ?_)
  have hS' := Sh.sm (M := sI M 230 4 0) hS hM2.1
  have e2 : gI M2 231 = gI M 231 := (hM2.1.K (fun _ => rfl)).trans e1
  have hH := hM2.2
  rw [e1, ← e2] at hH
  have hpq := Pq.of hM2.1
  rw [← e2] at hP hI hU ⊢
  have hin := in_lt hP hI
  refine v_aload_n dX12_parts_9 rfl ?_
  refine v_getR 12 0 _ dX12_parts_10 f12_9 (by first | exact hS.1 _ _ rfl | exact hS'.1 _ _ rfl | assumption) (by decide) (by first | exact hS.2 _ _ _ rfl | exact hS'.2 _ _ _ rfl | assumption) ?_
  refine v_bipush 93 dX12_parts_13 (by decide) ?_
  refine v_ialdN 93 dX12_parts_15 (by first | exact hS.1 _ _ rfl | exact hS'.1 _ _ rfl | assumption) rfl (by decide) ?_
  rw [hI.1]
  refine v_cS [_] (c12_size G M2 hin) k12_size dX12_parts_16 l12_330 rfl (Nat.le_of_ble_eq_true rfl) (Nat.le_of_ble_eq_true rfl) ?_
  refine v_istore_n dX12_parts_19 rfl (by decide) ?_
  refine v_iconst (-1) dX12_parts_20 (by decide) ?_
  refine v_istore_n dX12_parts_21 rfl (by decide) ?_
  refine v_iconst 0 dX12_parts_22 (by decide) ?_
  refine v_istore_n dX12_parts_23 rfl (by decide) ?_
  refine v_iconst 0 dX12_parts_24 (by decide) ?_
  refine v_istore dX12_parts_25 rfl (by decide) ?_
  skip
  refine v_pad (v_pad ?_)
  refine V.post (l12_parts G M2 hS' hP hI hH (kn (gI M2 231) 3) 0 none none (by omega)) (fun v M3 h => ⟨h.1, by rw [h.2]; exact hpq⟩) (fun _ _ h => h)
theorem l12_nearest (hS : Sh M) (hP : WP (gI M 231)) (hI : inOK (gI M 231)) (hH : HH M (gI M 231)) {c : Nat} (hc : c < kn (gI M 231) 2) : ∀ i d (o : Option Value), d + i = kn (gI M 231) 2 → V G Y12_nearest 7 0 0 (Rv (some (.int (fmF (nrO (gI M 231) c) (nrG (gI M 231) c) (kn (gI M 231) 2)).1)) M) NX 31 [some (.ref 230), some (.int (nI c)), some (.int (fmF (nrO (gI M 231) c) (nrG (gI M 231) c) d).1), some (.int (fmF (nrO (gI M 231) c) (nrG (gI M 231) c) d).2), some (.int (nI d)), o] [] M := by
  have h14 := hP.2.1.2
  intro i
  induction i with
  | zero =>
    intro d o hd
    obtain rfl : d = kn (gI M 231) 2 := by omega
    refine v_iload dX12_nearest_31 rfl ?_
    refine v_aload_n dX12_nearest_33 rfl ?_
    refine v_cV [] (c12_chestsN G M hS hP) k12_chests dX12_nearest_34 l12_245 (by first | exact hS.1 _ _ rfl | exact hS'.1 _ _ rfl | assumption) (by decide) rfl (Nat.le_of_ble_eq_true rfl) (Nat.le_of_ble_eq_true rfl) ?_
    refine v_icmp_ge 103 dX12_nearest_37 (by decide) (fun h37 => ?_) (fun h37 => ?_)
    · refine v_iload_n dX12_nearest_103 rfl ?_
      refine v_iret dX12_nearest_104 rfl ?_
      exact ⟨rfl, rfl⟩
    · (exfalso; (try simp (disch := omega) only [nI_leI, nI_ltI, nI_eq, nI0, bI_z, bI_lez, Decidable.not_not] at h37); omega)
  | succ i ih =>
    intro d o hd
    have e1 := hH.hold hP c hc
    have e2 := hH.hold hP d (by omega)
    have hx : trH (gI M 231) c ^^^ trH (gI M 231) d < 16384 := Nat.lt_of_lt_of_le (Nat.xor_lt_two_pow (n := 10) e1.2 e2.2) (by decide)
    have hn := fun o => ih (d + 1) o (by omega)
    refine v_iload dX12_nearest_31 rfl ?_
    refine v_aload_n dX12_nearest_33 rfl ?_
    refine v_cV [] (c12_chestsN G M hS hP) k12_chests dX12_nearest_34 l12_245 (by first | exact hS.1 _ _ rfl | exact hS'.1 _ _ rfl | assumption) (by decide) rfl (Nat.le_of_ble_eq_true rfl) (Nat.le_of_ble_eq_true rfl) ?_
    refine v_icmp_ge 103 dX12_nearest_37 (by decide) (fun h37 => ?_) (fun h37 => ?_)
    · (exfalso; (try simp (disch := omega) only [nI_leI, nI_ltI, nI_eq, nI0, bI_z, bI_lez, Decidable.not_not] at h37); omega)
    · refine v_iload dX12_nearest_40 rfl ?_
      refine v_iload_n dX12_nearest_42 rfl ?_
      refine v_icmp_eq 97 dX12_nearest_43 (by decide) (fun h43 => ?_) (fun h43 => ?_)
      · refine v_iinc 1 dX12_nearest_97 rfl (by decide) rfl (by decide) ?_
        refine v_goto 31 dX12_nearest_100 (by decide) ?_
        (rw [nI_1]; (try simp (disch := omega) only [nI_eq] at h43); (try simp (disch := omega) only [bI_z, Decidable.not_not] at h52); first | (have e := nr_1 (K := gI M 231) h43; rw [e.1, e.2] at hn; exact hn _) | (have e := nr_2 (K := gI M 231) (c := c) h52; rw [e.1, e.2] at hn; exact hn _) | (have e := fmF_p (ok := nrO (gI M 231) c) (g := nrG (gI M 231) c) (c := d) (nr_o h43 h52) (Or.inl h79); rw [e.1, e.2] at hn; exact hn _) | (have e := fmF_p (ok := nrO (gI M 231) c) (g := nrG (gI M 231) c) (c := d) (nr_o h43 h52) (Or.inr h85); rw [e.1, e.2] at hn; exact hn _) | (have e := fmF_n (ok := nrO (gI M 231) c) (g := nrG (gI M 231) c) (c := d) (fun z => z.2.elim h79 h85); rw [e.1, e.2] at hn; exact hn _))
      · refine v_aload_n dX12_nearest_46 rfl ?_
        refine v_iload dX12_nearest_47 rfl ?_
        refine v_cV [_] (c12_isInN G M hS hP hI (by omega)) k12_isIn dX12_nearest_49 l12_250 (by first | exact hS.1 _ _ rfl | exact hS'.1 _ _ rfl | assumption) (by decide) rfl (Nat.le_of_ble_eq_true rfl) (Nat.le_of_ble_eq_true rfl) ?_
        refine v_if_ne 58 dX12_nearest_52 (by decide) (fun h52 => ?_) (fun h52 => ?_)
        · refine v_aload_n dX12_nearest_58 rfl ?_
          refine v_getR 12 20 _ dX12_nearest_59 f12_36 (by first | exact hS.1 _ _ rfl | exact hS'.1 _ _ rfl | assumption) (by decide) (by first | exact hS.2 _ _ _ rfl | exact hS'.2 _ _ _ rfl | assumption) ?_
          refine v_iload_n dX12_nearest_62 rfl ?_
          refine v_ialdN (c) dX12_nearest_63 (by first | exact hS.1 _ _ rfl | exact hS'.1 _ _ rfl | assumption) (by simp only [n_lit, pk_mul, nI_add]) ⟨by omega, by omega⟩ ?_
          rw [e1.1]
          refine v_aload_n dX12_nearest_64 rfl ?_
          refine v_getR 12 20 _ dX12_nearest_65 f12_36 (by first | exact hS.1 _ _ rfl | exact hS'.1 _ _ rfl | assumption) (by decide) (by first | exact hS.2 _ _ _ rfl | exact hS'.2 _ _ _ rfl | assumption) ?_
          refine v_iload dX12_nearest_68 rfl ?_
          refine v_ialdN (d) dX12_nearest_70 (by first | exact hS.1 _ _ rfl | exact hS'.1 _ _ rfl | assumption) (by simp only [n_lit, pk_mul, nI_add]) ⟨by omega, by omega⟩ ?_
          rw [e2.1]
          refine v_ixor dX12_nearest_71 ?_
          rw [nIxor]
          refine v_cS [_] (c12_size G M hx) k12_size dX12_nearest_72 l12_330 rfl (Nat.le_of_ble_eq_true rfl) (Nat.le_of_ble_eq_true rfl) ?_
          refine v_istore dX12_nearest_75 rfl (by decide) ?_
          refine v_iload_n dX12_nearest_77 rfl ?_
          refine v_iconst (-1) dX12_nearest_78 (by decide) ?_
          refine v_icmp_eq 91 dX12_nearest_79 (by decide) (fun h79 => ?_) (fun h79 => ?_)
          · refine v_iload dX12_nearest_91 rfl ?_
            refine v_istore_n dX12_nearest_93 rfl (by decide) ?_
            refine v_iload dX12_nearest_94 rfl ?_
            refine v_istore_n dX12_nearest_96 rfl (by decide) ?_
            refine v_iinc 1 dX12_nearest_97 rfl (by decide) rfl (by decide) ?_
            refine v_goto 31 dX12_nearest_100 (by decide) ?_
            (rw [nI_1]; (try simp (disch := omega) only [nI_eq] at h43); (try simp (disch := omega) only [bI_z, Decidable.not_not] at h52); first | (have e := nr_1 (K := gI M 231) h43; rw [e.1, e.2] at hn; exact hn _) | (have e := nr_2 (K := gI M 231) (c := c) h52; rw [e.1, e.2] at hn; exact hn _) | (have e := fmF_p (ok := nrO (gI M 231) c) (g := nrG (gI M 231) c) (c := d) (nr_o h43 h52) (Or.inl h79); rw [e.1, e.2] at hn; exact hn _) | (have e := fmF_p (ok := nrO (gI M 231) c) (g := nrG (gI M 231) c) (c := d) (nr_o h43 h52) (Or.inr h85); rw [e.1, e.2] at hn; exact hn _) | (have e := fmF_n (ok := nrO (gI M 231) c) (g := nrG (gI M 231) c) (c := d) (fun z => z.2.elim h79 h85); rw [e.1, e.2] at hn; exact hn _))
          · refine v_iload dX12_nearest_82 rfl ?_
            refine v_iload_n dX12_nearest_84 rfl ?_
            refine v_icmp_lt 91 dX12_nearest_85 (by decide) (fun h85 => ?_) (fun h85 => ?_)
            · refine v_iload dX12_nearest_91 rfl ?_
              refine v_istore_n dX12_nearest_93 rfl (by decide) ?_
              refine v_iload dX12_nearest_94 rfl ?_
              refine v_istore_n dX12_nearest_96 rfl (by decide) ?_
              refine v_iinc 1 dX12_nearest_97 rfl (by decide) rfl (by decide) ?_
              refine v_goto 31 dX12_nearest_100 (by decide) ?_
              (rw [nI_1]; (try simp (disch := omega) only [nI_eq] at h43); (try simp (disch := omega) only [bI_z, Decidable.not_not] at h52); first | (have e := nr_1 (K := gI M 231) h43; rw [e.1, e.2] at hn; exact hn _) | (have e := nr_2 (K := gI M 231) (c := c) h52; rw [e.1, e.2] at hn; exact hn _) | (have e := fmF_p (ok := nrO (gI M 231) c) (g := nrG (gI M 231) c) (c := d) (nr_o h43 h52) (Or.inl h79); rw [e.1, e.2] at hn; exact hn _) | (have e := fmF_p (ok := nrO (gI M 231) c) (g := nrG (gI M 231) c) (c := d) (nr_o h43 h52) (Or.inr h85); rw [e.1, e.2] at hn; exact hn _) | (have e := fmF_n (ok := nrO (gI M 231) c) (g := nrG (gI M 231) c) (c := d) (fun z => z.2.elim h79 h85); rw [e.1, e.2] at hn; exact hn _))
            · refine v_goto 97 dX12_nearest_88 (by decide) ?_
              refine v_iinc 1 dX12_nearest_97 rfl (by decide) rfl (by decide) ?_
              refine v_goto 31 dX12_nearest_100 (by decide) ?_
              (rw [nI_1]; (try simp (disch := omega) only [nI_eq] at h43); (try simp (disch := omega) only [bI_z, Decidable.not_not] at h52); first | (have e := nr_1 (K := gI M 231) h43; rw [e.1, e.2] at hn; exact hn _) | (have e := nr_2 (K := gI M 231) (c := c) h52; rw [e.1, e.2] at hn; exact hn _) | (have e := fmF_p (ok := nrO (gI M 231) c) (g := nrG (gI M 231) c) (c := d) (nr_o h43 h52) (Or.inl h79); rw [e.1, e.2] at hn; exact hn _) | (have e := fmF_p (ok := nrO (gI M 231) c) (g := nrG (gI M 231) c) (c := d) (nr_o h43 h52) (Or.inr h85); rw [e.1, e.2] at hn; exact hn _) | (have e := fmF_n (ok := nrO (gI M 231) c) (g := nrG (gI M 231) c) (c := d) (fun z => z.2.elim h79 h85); rw [e.1, e.2] at hn; exact hn _))
        · refine v_goto 97 dX12_nearest_55 (by decide) ?_
          refine v_iinc 1 dX12_nearest_97 rfl (by decide) rfl (by decide) ?_
          refine v_goto 31 dX12_nearest_100 (by decide) ?_
          (rw [nI_1]; (try simp (disch := omega) only [nI_eq] at h43); (try simp (disch := omega) only [bI_z, Decidable.not_not] at h52); first | (have e := nr_1 (K := gI M 231) h43; rw [e.1, e.2] at hn; exact hn _) | (have e := nr_2 (K := gI M 231) (c := c) h52; rw [e.1, e.2] at hn; exact hn _) | (have e := fmF_p (ok := nrO (gI M 231) c) (g := nrG (gI M 231) c) (c := d) (nr_o h43 h52) (Or.inl h79); rw [e.1, e.2] at hn; exact hn _) | (have e := fmF_p (ok := nrO (gI M 231) c) (g := nrG (gI M 231) c) (c := d) (nr_o h43 h52) (Or.inr h85); rw [e.1, e.2] at hn; exact hn _) | (have e := fmF_n (ok := nrO (gI M 231) c) (g := nrG (gI M 231) c) (c := d) (fun z => z.2.elim h79 h85); rw [e.1, e.2] at hn; exact hn _))
def tIn (K : Nat → Int32) (c : Int32) : Int32 := if inR (kn K 2) c = true then 0 else 1
theorem c12_nearest (hS : Sh M) (hQ : WQ (gI M 231)) (c : Int32) : Ct G Y12_nearest 7 0 0 [.ref 230, .int c] M (Rs (some (.int (if inR (kn (gI M 231) 2) c = true then (fmF (nrO (gI M 231) c.toNatClampNeg) (nrG (gI M 231) c.toNatClampNeg) (kn (gI M 231) 2)).1 else 0))) (Pq M (tIn (gI M 231) c))) NX := by
  obtain ⟨hP, hI, hU⟩ := hQ
  have e1 : gI (sI M 230 4 0) 231 = gI M 231 := gI_sr _ _ (by decide)
  have hcon := c12_isChestN G (sI M 230 4 0) hS (by rw [e1]; exact hP) c
  rw [e1] at hcon
  refine Ct.of k12_nearest.1 (Nat.le_of_ble_eq_true rfl) ?_
  by_cases hd : inR (kn (gI M 231) 2) c = true
  · rw [bI_t hd] at hcon
    rw [if_pos hd, tIn, if_pos hd]
    obtain ⟨j, hj, rfl, hj2⟩ := inR_of hd
    rw [nI_clamp hj2]
    refine v_aload_n dX12_nearest_0 rfl ?_
    refine v_iconst 0 dX12_nearest_1 (by decide) ?_
    refine v_putI 12 4 dX12_nearest_2 f12_68 (by first | exact hS.1 _ _ rfl | exact hS'.1 _ _ rfl | assumption) (by decide) ?_
    refine v_aload_n dX12_nearest_5 rfl ?_
    refine v_iload_n dX12_nearest_6 rfl ?_
    refine v_i2l dX12_nearest_7 ?_
    refine v_cV [_] (hcon) k12_isChest dX12_nearest_8 l12_297 (by first | exact hS.1 _ _ rfl | exact hS'.1 _ _ rfl | assumption) (by decide) rfl (Nat.le_of_ble_eq_true rfl) (Nat.le_of_ble_eq_true rfl) ?_
    refine v_if_ne 20 dX12_nearest_11 (by decide) (fun h11 => ?_) (fun h11 => absurd (by decide) h11)
    refine v_aload_n dX12_nearest_20 rfl ?_
    skip
    have e1 : gI (sI M 230 4 0) 231 = gI M 231 := gI_sr _ _ (by decide)
    refine v_scVv [] (c12_laysHold G (sI M 230 4 0) hS (by rw [e1]; exact hP)) k12_laysHold dX12_nearest_21 l12_306 (hS.1 _ _ rfl) (by decide) rfl (Nat.le_of_ble_eq_true rfl) (Nat.le_of_ble_eq_true rfl) (fun M2 hM2 => ?_)
    have hS' := Sh.sm (M := sI M 230 4 0) hS hM2.1
    have e2 : gI M2 231 = gI M 231 := (hM2.1.K (fun _ => rfl)).trans e1
    have hH := hM2.2
    rw [e1, ← e2] at hH
    have hpq := Pq.of hM2.1
    rw [← e2] at hP hI hU ⊢
    rw [← e2] at hj
    refine v_iconst (-1) dX12_nearest_24 (by decide) ?_
    refine v_istore_n dX12_nearest_25 rfl (by decide) ?_
    refine v_iconst 0 dX12_nearest_26 (by decide) ?_
    refine v_istore_n dX12_nearest_27 rfl (by decide) ?_
    refine v_iconst 0 dX12_nearest_28 (by decide) ?_
    refine v_istore dX12_nearest_29 rfl (by decide) ?_
    -- at 31: .iload 4
    refine v_pad ?_
    refine V.post (l12_nearest G M2 hS' hP hI hH hj (kn (gI M2 231) 2) 0 none (by omega)) (fun v M3 h => ⟨h.1, by rw [h.2]; exact hpq⟩) (fun _ _ h => h)
  · rw [bI_f hd] at hcon
    rw [if_neg hd, tIn, if_neg hd]
    refine v_aload_n dX12_nearest_0 rfl ?_
    refine v_iconst 0 dX12_nearest_1 (by decide) ?_
    refine v_putI 12 4 dX12_nearest_2 f12_68 (by first | exact hS.1 _ _ rfl | exact hS'.1 _ _ rfl | assumption) (by decide) ?_
    refine v_aload_n dX12_nearest_5 rfl ?_
    refine v_iload_n dX12_nearest_6 rfl ?_
    refine v_i2l dX12_nearest_7 ?_
    refine v_cV [_] (hcon) k12_isChest dX12_nearest_8 l12_297 (by first | exact hS.1 _ _ rfl | exact hS'.1 _ _ rfl | assumption) (by decide) rfl (Nat.le_of_ble_eq_true rfl) (Nat.le_of_ble_eq_true rfl) ?_
    refine v_if_ne 20 dX12_nearest_11 (by decide) (fun h11 => absurd rfl h11) (fun h11 => ?_)
    refine v_aload_n dX12_nearest_14 rfl ?_
    refine v_iconst 1 dX12_nearest_15 (by decide) ?_
    refine v_cV [_] (c12_fails G (sI M 230 4 0) hS _) k12_fails dX12_nearest_16 l12_224 (by first | exact hS.1 _ _ rfl | exact hS'.1 _ _ rfl | assumption) (by decide) rfl (Nat.le_of_ble_eq_true rfl) (Nat.le_of_ble_eq_true rfl) ?_
    refine v_iret dX12_nearest_19 rfl ?_
    exact ⟨rfl, Pq.st2⟩
end RR
