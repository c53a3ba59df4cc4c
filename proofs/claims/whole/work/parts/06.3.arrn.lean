/-! ===== arrays by natural places; the JDK's methods ===== -/
def bI (p : Prop) [Decidable p] : Int32 := if p then 1 else 0
theorem bI_t {p : Prop} [Decidable p] (h : p) : bI p = 1 := if_pos h
theorem bI_f {p : Prop} [Decidable p] (h : ¬ p) : bI p = 0 := if_neg h
theorem bI_nb (p : Prop) [Decidable p] : narrow .boolean (.int (bI p)) = .int (bI p) := by unfold bI; split <;> rfl
theorem lg_lt {a b : Int64} : lg_cmp a b < 0 ↔ a < b := by
  have h := lg_cmp_ge a b
  rw [← Int32.not_le, h, Int64.not_le]
theorem lg_gt {a b : Int64} : 0 < lg_cmp a b ↔ b < a := by
  unfold lg_cmp
  by_cases h : a > b
  · simp [h]
  · by_cases h2 : a = b <;> simp [h, h2]
theorem n_lit (n : Nat) : (OfNat.ofNat n : Int32) = nI n := rfl
section VN
variable {G : mG} {y : mY} {D kc ks : Nat} {Q : Option Value → mM → Prop} {X : String → mM → Prop} {pc : Nat} {ls : List (Option Value)} {st : List Value} {M : mM}
theorem v_ialdN {q n : Nat} {i : Int32} (j : Nat) (d : decode (yb y) pc = .ok (.iaload, 1)) (hT : gT M q = .inr (0, n)) (hi : i = nI j) (hj : j < n ∧ n < 2 ^ 31) (kk : V G y D kc ks Q X (pc + 1) ls (.int (gI M q j) :: st) M) : V G y D kc ks Q X pc ls (.int i :: .ref q :: st) M := by
  subst hi
  refine v_iald d hT (vp_in_nI hj.1 hj.2) ?_
  rw [nI_clamp (by omega)]
  exact kk
theorem v_laldN {q n : Nat} {i : Int32} (j : Nat) (d : decode (yb y) pc = .ok (.laload, 1)) (hT : gT M q = .inr (1, n)) (hi : i = nI j) (hj : j < n ∧ n < 2 ^ 31) (kk : V G y D kc ks Q X (pc + 1) ls (.long (gJ M q j) :: st) M) : V G y D kc ks Q X pc ls (.int i :: .ref q :: st) M := by
  subst hi
  refine v_lald d hT (vp_in_nI hj.1 hj.2) ?_
  rw [nI_clamp (by omega)]
  exact kk
theorem v_baldN {q n : Nat} {i : Int32} (j : Nat) (d : decode (yb y) pc = .ok (.baload, 1)) (hT : gT M q = .inr (2, n)) (hi : i = nI j) (hj : j < n ∧ n < 2 ^ 31) (kk : V G y D kc ks Q X (pc + 1) ls (.int (gI M q j) :: st) M) : V G y D kc ks Q X pc ls (.int i :: .ref q :: st) M := by
  subst hi
  refine v_bald d hT (vp_in_nI hj.1 hj.2) ?_
  rw [nI_clamp (by omega)]
  exact kk
theorem v_zaldN {q n : Nat} {i : Int32} (j : Nat) (d : decode (yb y) pc = .ok (.baload, 1)) (hT : gT M q = .inr (3, n)) (hi : i = nI j) (hj : j < n ∧ n < 2 ^ 31) (kk : V G y D kc ks Q X (pc + 1) ls (.int (gI M q j) :: st) M) : V G y D kc ks Q X pc ls (.int i :: .ref q :: st) M := by
  subst hi
  refine v_zald d hT (vp_in_nI hj.1 hj.2) ?_
  rw [nI_clamp (by omega)]
  exact kk
theorem v_iastN {q n : Nat} {i x : Int32} (j : Nat) (d : decode (yb y) pc = .ok (.iastore, 1)) (hT : gT M q = .inr (0, n)) (hi : i = nI j) (hj : j < n ∧ n < 2 ^ 31) (kk : V G y D kc ks Q X (pc + 1) ls st (sI M q j x)) : V G y D kc ks Q X pc ls (.int x :: .int i :: .ref q :: st) M := by
  subst hi
  refine v_iast d hT (vp_in_nI hj.1 hj.2) ?_
  rw [nI_clamp (by omega)]
  exact kk
theorem v_lastN {q n : Nat} {i : Int32} {x : Int64} (j : Nat) (d : decode (yb y) pc = .ok (.lastore, 1)) (hT : gT M q = .inr (1, n)) (hi : i = nI j) (hj : j < n ∧ n < 2 ^ 31) (kk : V G y D kc ks Q X (pc + 1) ls st (sJ M q j x)) : V G y D kc ks Q X pc ls (.long x :: .int i :: .ref q :: st) M := by
  subst hi
  refine v_last d hT (vp_in_nI hj.1 hj.2) ?_
  rw [nI_clamp (by omega)]
  exact kk
theorem v_bastN {q n : Nat} {i x : Int32} (j : Nat) (d : decode (yb y) pc = .ok (.bastore, 1)) (hT : gT M q = .inr (2, n)) (hi : i = nI j) (hj : j < n ∧ n < 2 ^ 31) (kk : V G y D kc ks Q X (pc + 1) ls st (sI M q j x.toInt8.toInt32)) : V G y D kc ks Q X pc ls (.int x :: .int i :: .ref q :: st) M := by
  subst hi
  refine v_bast d hT (vp_in_nI hj.1 hj.2) ?_
  rw [nI_clamp (by omega)]
  exact kk
end VN
def ush (a b : Int32) : Int32 := (a.toUInt32 >>> (b.toUInt32 &&& Int32.toUInt32 31)).toInt32
def bc1 (x : Int32) : Int32 := x - (ush x 1 &&& 1431655765)
def bc2 (x : Int32) : Int32 := (x &&& 858993459) + (ush x 2 &&& 858993459)
def bc3 (x : Int32) : Int32 := (x + ush x 4) &&& 252645135
def bc4 (x : Int32) : Int32 := x + ush x 8
def bc5 (x : Int32) : Int32 := x + ush x 16
def bcI (x : Int32) : Int32 := bc5 (bc4 (bc3 (bc2 (bc1 x)))) &&& 63
set_option maxRecDepth 100000 in
theorem bc_tab : (List.range 16384).all (fun S => decide (bcI (nI S) = nI (pcn S))) = true := by decide +kernel
theorem bcI_n {S : Nat} (h : S < 16384) : bcI (nI S) = nI (pcn S) := of_decide_eq_true (List.all_eq_true.mp bc_tab S (List.mem_range.mpr h))
section JD
variable (G : mG) (M : mM)
theorem cJ_max (a b : Int32) : Ct G YJ_max 0 0 0 [.int a, .int b] M (Rv (some (.int (if a < b then b else a))) M) NX := by
  refine Ct.of kJ_max.1 (Nat.le_of_ble_eq_true rfl) ?_
  refine v_iload_n dJ_max_0 rfl ?_
  refine v_iload_n dJ_max_1 rfl ?_
  refine v_icmp_lt 9 dJ_max_2 (by decide) (fun h2 => ?_) (fun h2 => ?_)
  · refine v_iload_n dJ_max_9 rfl ?_
    refine v_iret dJ_max_10 rfl ?_
    refine ⟨?_, rfl⟩; simp [h2]
  · refine v_iload_n dJ_max_5 rfl ?_
    refine v_goto 10 dJ_max_6 (by decide) ?_
    refine v_iret dJ_max_10 rfl ?_
    refine ⟨?_, rfl⟩; simp [h2]
theorem cJ_min (a b : Int32) : Ct G YJ_min 0 0 0 [.int a, .int b] M (Rv (some (.int (if b < a then b else a))) M) NX := by
  refine Ct.of kJ_min.1 (Nat.le_of_ble_eq_true rfl) ?_
  refine v_iload_n dJ_min_0 rfl ?_
  refine v_iload_n dJ_min_1 rfl ?_
  refine v_icmp_gt 9 dJ_min_2 (by decide) (fun h2 => ?_) (fun h2 => ?_)
  · refine v_iload_n dJ_min_9 rfl ?_
    refine v_iret dJ_min_10 rfl ?_
    refine ⟨?_, rfl⟩; simp [h2]
  · refine v_iload_n dJ_min_5 rfl ?_
    refine v_goto 10 dJ_min_6 (by decide) ?_
    refine v_iret dJ_min_10 rfl ?_
    refine ⟨?_, rfl⟩; simp [h2]
theorem cJ_maxl (a b : Int64) : Ct G YJ_maxl 0 0 0 [.long a, .long b] M (Rv (some (.long (if a < b then b else a))) M) NX := by
  refine Ct.of kJ_maxl.1 (Nat.le_of_ble_eq_true rfl) ?_
  refine v_lload_n dJ_maxl_0 rfl ?_
  refine v_lload_n dJ_maxl_1 rfl ?_
  refine v_lcmp dJ_maxl_2 ?_
  refine v_if_lt 10 dJ_maxl_3 (by decide) (fun h3 => ?_) (fun h3 => ?_)
  · refine v_lload_n dJ_maxl_10 rfl ?_
    refine v_lret dJ_maxl_11 rfl ?_
    refine ⟨?_, rfl⟩; rw [lg_lt] at h3; simp [h3]
  · refine v_lload_n dJ_maxl_6 rfl ?_
    refine v_goto 11 dJ_maxl_7 (by decide) ?_
    refine v_lret dJ_maxl_11 rfl ?_
    refine ⟨?_, rfl⟩; rw [lg_lt] at h3; simp [h3]
theorem cJ_minl (a b : Int64) : Ct G YJ_minl 0 0 0 [.long a, .long b] M (Rv (some (.long (if b < a then b else a))) M) NX := by
  refine Ct.of kJ_minl.1 (Nat.le_of_ble_eq_true rfl) ?_
  refine v_lload_n dJ_minl_0 rfl ?_
  refine v_lload_n dJ_minl_1 rfl ?_
  refine v_lcmp dJ_minl_2 ?_
  refine v_if_gt 10 dJ_minl_3 (by decide) (fun h3 => ?_) (fun h3 => ?_)
  · refine v_lload_n dJ_minl_10 rfl ?_
    refine v_lret dJ_minl_11 rfl ?_
    refine ⟨?_, rfl⟩; rw [lg_gt] at h3; simp [h3]
  · refine v_lload_n dJ_minl_6 rfl ?_
    refine v_goto 11 dJ_minl_7 (by decide) ?_
    refine v_lret dJ_minl_11 rfl ?_
    refine ⟨?_, rfl⟩; rw [lg_gt] at h3; simp [h3]
theorem cJ_bitCount (x : Int32) : Ct G YJ_bitCount 0 0 0 [.int x] M (Rv (some (.int (bcI x))) M) NX := by
  refine Ct.of kJ_bitCount.1 (Nat.le_of_ble_eq_true rfl) ?_
  refine v_iload_n dJ_bitCount_0 rfl ?_
  refine v_iload_n dJ_bitCount_1 rfl ?_
  refine v_iconst 1 dJ_bitCount_2 (by decide) ?_
  refine v_iushr dJ_bitCount_3 ?_
  refine v_ldcw 1431655765 dJ_bitCount_4 KJ_265 ?_
  refine v_iand dJ_bitCount_7 ?_
  refine v_isub dJ_bitCount_8 ?_
  refine v_istore_n dJ_bitCount_9 rfl (by decide) ?_
  refine v_iload_n dJ_bitCount_10 rfl ?_
  refine v_ldcw 858993459 dJ_bitCount_11 KJ_266 ?_
  refine v_iand dJ_bitCount_14 ?_
  refine v_iload_n dJ_bitCount_15 rfl ?_
  refine v_iconst 2 dJ_bitCount_16 (by decide) ?_
  refine v_iushr dJ_bitCount_17 ?_
  refine v_ldcw 858993459 dJ_bitCount_18 KJ_266 ?_
  refine v_iand dJ_bitCount_21 ?_
  refine v_iadd dJ_bitCount_22 ?_
  refine v_istore_n dJ_bitCount_23 rfl (by decide) ?_
  refine v_iload_n dJ_bitCount_24 rfl ?_
  refine v_iload_n dJ_bitCount_25 rfl ?_
  refine v_iconst 4 dJ_bitCount_26 (by decide) ?_
  refine v_iushr dJ_bitCount_27 ?_
  refine v_iadd dJ_bitCount_28 ?_
  refine v_ldcw 252645135 dJ_bitCount_29 KJ_267 ?_
  refine v_iand dJ_bitCount_32 ?_
  refine v_istore_n dJ_bitCount_33 rfl (by decide) ?_
  refine v_iload_n dJ_bitCount_34 rfl ?_
  refine v_iload_n dJ_bitCount_35 rfl ?_
  refine v_bipush 8 dJ_bitCount_36 (by decide) ?_
  refine v_iushr dJ_bitCount_38 ?_
  refine v_iadd dJ_bitCount_39 ?_
  refine v_istore_n dJ_bitCount_40 rfl (by decide) ?_
  refine v_iload_n dJ_bitCount_41 rfl ?_
  refine v_iload_n dJ_bitCount_42 rfl ?_
  refine v_bipush 16 dJ_bitCount_43 (by decide) ?_
  refine v_iushr dJ_bitCount_45 ?_
  refine v_iadd dJ_bitCount_46 ?_
  refine v_istore_n dJ_bitCount_47 rfl (by decide) ?_
  refine v_iload_n dJ_bitCount_48 rfl ?_
  refine v_bipush 63 dJ_bitCount_49 (by decide) ?_
  refine v_iand dJ_bitCount_51 ?_
  refine v_iret dJ_bitCount_52 rfl ?_
  exact ⟨rfl, rfl⟩
/-- an array all one number, up to n -/
def flI (M : mM) (q n : Nat) (v : Int32) : mM := (M.1, M.2.1, (fun a b => if a = q ∧ b < n then v else M.2.2.1 a b), M.2.2.2)
def flJ (M : mM) (q n : Nat) (v : Int64) : mM := (M.1, M.2.1, M.2.2.1, (fun a b => if a = q ∧ b < n then v else M.2.2.2.1 a b), M.2.2.2.2)
theorem flI_0 (M : mM) (q : Nat) (v : Int32) : flI M q 0 v = M := by
  obtain ⟨z, T, I, J, R⟩ := M
  simp [flI]
theorem flJ_0 (M : mM) (q : Nat) (v : Int64) : flJ M q 0 v = M := by
  obtain ⟨z, T, I, J, R⟩ := M
  simp [flJ]
theorem flI_s (M : mM) (q n : Nat) (v : Int32) : sI (flI M q n v) q n v = flI M q (n + 1) v := by
  obtain ⟨z, T, I, J, R⟩ := M
  simp only [flI, sI]
  congr 3
  funext a b
  simp only [up2]
  by_cases ha : a = q
  · by_cases hb : b = n
    · simp [ha, hb]
    · have : (b < n + 1) ↔ b < n := by omega
      simp [ha, hb, this]
  · simp [ha]
theorem flJ_s (M : mM) (q n : Nat) (v : Int64) : sJ (flJ M q n v) q n v = flJ M q (n + 1) v := by
  obtain ⟨z, T, I, J, R⟩ := M
  simp only [flJ, sJ]
  congr 4
  funext a b
  simp only [up2]
  by_cases ha : a = q
  · by_cases hb : b = n
    · simp [ha, hb]
    · have : (b < n + 1) ↔ b < n := by omega
      simp [ha, hb, this]
  · simp [ha]
theorem lJ_fill {q n : Nat} (v : Int32) (hT : gT M q = .inr (0, n)) (hn : n < 2 ^ 31) : ∀ j i, i + j = n → V G YJ_fill 0 0 0 (Rv none (flI M q n v)) NX 5 [some (.ref q), some (.int v), some (.int (nI i)), some (.int (nI n))] [] (flI M q i v) := by
  intro j
  induction j with
  | zero =>
    intro i hi
    obtain rfl : i = n := by omega
    refine v_iload_n dJ_fill_5 rfl ?_
    refine v_iload_n dJ_fill_6 rfl ?_
    -- at 7: .if_icmp .ge 13
    refine v_icmp_ge 20 dJ_fill_7 (by decide) (fun hc => ?_) (fun hc => ?_)
    · refine v_vret dJ_fill_20 rfl ⟨rfl, rfl⟩
    · exact absurd (nI_le (Nat.le_refl _) (by omega)) hc
  | succ j ih =>
    intro i hi
    refine v_iload_n dJ_fill_5 rfl ?_
    refine v_iload_n dJ_fill_6 rfl ?_
    -- at 7: .if_icmp .ge 13
    refine v_icmp_ge 20 dJ_fill_7 (by decide) (fun hc => ?_) (fun hc => ?_)
    · exact absurd ((nI_leI (by omega) (by omega)).mp hc) (by omega)
    · refine v_aload_n dJ_fill_10 rfl ?_
      refine v_iload_n dJ_fill_11 rfl ?_
      refine v_iload_n dJ_fill_12 rfl ?_
      -- at 13: .iastore
      refine v_iastN i dJ_fill_13 hT rfl ⟨by omega, hn⟩ ?_
      rw [flI_s]
      refine v_iinc 1 dJ_fill_14 rfl (by decide) rfl (by decide) ?_
      refine v_goto 5 dJ_fill_17 (by decide) ?_
      -- at 5: .iload_n 2
      rw [nI_1]
      exact ih (i + 1) (by omega)
theorem cJ_fill {q n : Nat} (v : Int32) (hT : gT M q = .inr (0, n)) (hn : n < 2 ^ 31) : Ct G YJ_fill 0 0 0 [.ref q, .int v] M (Rv none (flI M q n v)) NX := by
  refine Ct.of kJ_fill.1 (Nat.le_of_ble_eq_true rfl) ?_
  refine v_iconst 0 dJ_fill_0 (by decide) ?_
  refine v_istore_n dJ_fill_1 rfl (by decide) ?_
  refine v_aload_n dJ_fill_2 rfl ?_
  refine v_alen dJ_fill_3 hT (by decide) ?_
  refine v_istore_n dJ_fill_4 rfl (by decide) ?_
  -- at 5: .iload_n 2
  have := lJ_fill G M v hT hn n 0 (by omega)
  rw [flI_0] at this
  exact this
theorem lJ_fillJ {q n : Nat} (v : Int64) (hT : gT M q = .inr (1, n)) (hn : n < 2 ^ 31) : ∀ j i, i + j = n → V G YJ_fillJ 0 0 0 (Rv none (flJ M q n v)) NX 6 [some (.ref q), some (.long v), none, some (.int (nI i)), some (.int (nI n))] [] (flJ M q i v) := by
  intro j
  induction j with
  | zero =>
    intro i hi
    obtain rfl : i = n := by omega
    refine v_iload_n dJ_fillJ_6 rfl ?_
    refine v_iload dJ_fillJ_7 rfl ?_
    -- at 9: .if_icmp .ge 13
    refine v_icmp_ge 22 dJ_fillJ_9 (by decide) (fun hc => ?_) (fun hc => ?_)
    · refine v_vret dJ_fillJ_22 rfl ⟨rfl, rfl⟩
    · exact absurd (nI_le (Nat.le_refl _) (by omega)) hc
  | succ j ih =>
    intro i hi
    refine v_iload_n dJ_fillJ_6 rfl ?_
    refine v_iload dJ_fillJ_7 rfl ?_
    -- at 9: .if_icmp .ge 13
    refine v_icmp_ge 22 dJ_fillJ_9 (by decide) (fun hc => ?_) (fun hc => ?_)
    · exact absurd ((nI_leI (by omega) (by omega)).mp hc) (by omega)
    · refine v_aload_n dJ_fillJ_12 rfl ?_
      refine v_iload_n dJ_fillJ_13 rfl ?_
      refine v_lload_n dJ_fillJ_14 rfl ?_
      -- at 15: .lastore
      refine v_lastN i dJ_fillJ_15 hT rfl ⟨by omega, hn⟩ ?_
      rw [flJ_s]
      refine v_iinc 1 dJ_fillJ_16 rfl (by decide) rfl (by decide) ?_
      refine v_goto 6 dJ_fillJ_19 (by decide) ?_
      -- at 6: .iload_n 3
      rw [nI_1]
      exact ih (i + 1) (by omega)
theorem cJ_fillJ {q n : Nat} (v : Int64) (hT : gT M q = .inr (1, n)) (hn : n < 2 ^ 31) : Ct G YJ_fillJ 0 0 0 [.ref q, .long v] M (Rv none (flJ M q n v)) NX := by
  refine Ct.of kJ_fillJ.1 (Nat.le_of_ble_eq_true rfl) ?_
  refine v_iconst 0 dJ_fillJ_0 (by decide) ?_
  refine v_istore_n dJ_fillJ_1 rfl (by decide) ?_
  refine v_aload_n dJ_fillJ_2 rfl ?_
  refine v_alen dJ_fillJ_3 hT (by decide) ?_
  refine v_istore dJ_fillJ_4 rfl (by decide) ?_
  -- at 6: .iload_n 3
  have := lJ_fillJ G M v hT hn n 0 (by omega)
  rw [flJ_0] at this
  exact this
end JD
