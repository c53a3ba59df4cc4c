/-! ===== the law's loop (written by wip/whole/gen_loop.py) ===== -/
theorem x63 (x : Int32) : x &&& 63 = nI (x.toBitVec.toNat % 64) := pk_and x 6 (by decide)
theorem lp_go {i N : Nat} (hi : i ≤ 6000) (hN : N ≤ 3072) (h : ¬ nI N - 6 < nI i) : i + 6 ≤ N := by
  apply Classical.byContradiction
  intro hc
  apply h
  by_cases h6 : 6 ≤ N
  · rw [show (6 : Int32) = nI 6 by decide, nSub h6]
    exact nI_lt (by omega) (by omega)
  · obtain rfl | rfl | rfl | rfl | rfl | rfl : N = 0 ∨ N = 1 ∨ N = 2 ∨ N = 3 ∨ N = 4 ∨ N = 5 := by omega
    all_goals exact Int32.lt_of_lt_of_le (b := 0) (by decide) (Int32.not_lt.mp (nI_pos (by omega)))
section LOOP
variable (G : mG) {X : String → mM → Prop}
theorem law_at {M : mM} {kc ks : Nat} {i : Nat} (hi : i + 6 ≤ ad G 1000) (hN : ad G 1000 ≤ 3072) (hL : LI M) (kk : ∀ M2, LI M2 → V G YL_law 60 kc ks Q1 X 2773 (LW i) [] M2) : V G YL_law 60 (kc + 75) (ks + 1023) Q1 X 33 (LW i) [] M := by
  refine v_aload_n dL_law_33 rfl ?_
  refine v_iload dL_law_34 rfl ?_
  refine v_ialdC (q := 34) (f := fun j => Int32.ofNat (ad G (2000 + j))) dL_law_36 (fun s h => sc_T G s h) (vp_in_nI (by omega) (by omega)) ?_
  refine v_bipush 63 dL_law_37 (by decide) ?_
  refine v_iand dL_law_39 ?_
  rw [x63]
  generalize hj : (Int32.ofNat (ad G (2000 + (nI i).toNatClampNeg))).toBitVec.toNat % 64 = j
  have hj64 : j < 64 := by rw [← hj]; exact Nat.mod_lt _ (by decide)
  by_cases h0 : j = 0
  · subst h0
    exact v_tableIn 248 dL_law_40 (by decide) (by decide) rfl (by decide) (law_0 G hi hN hL kk)
  by_cases h1 : j = 1
  · subst h1
    exact v_tableIn 321 dL_law_40 (by decide) (by decide) rfl (by decide) (law_1 G hi hN hL kk)
  by_cases h2 : j = 2
  · subst h2
    exact v_tableIn 377 dL_law_40 (by decide) (by decide) rfl (by decide) (law_2 G hi hN hL kk)
  by_cases h3 : j = 3
  · subst h3
    exact v_tableIn 402 dL_law_40 (by decide) (by decide) rfl (by decide) (law_3 G hi hN hL kk)
  by_cases h4 : j = 4
  · subst h4
    exact v_tableIn 498 dL_law_40 (by decide) (by decide) rfl (by decide) (law_4 G hi hN hL kk)
  by_cases h5 : j = 5
  · subst h5
    exact v_tableIn 566 dL_law_40 (by decide) (by decide) rfl (by decide) (law_5 G hi hN hL kk)
  by_cases h6 : j = 6
  · subst h6
    exact v_tableIn 634 dL_law_40 (by decide) (by decide) rfl (by decide) (law_6 G hi hN hL kk)
  by_cases h7 : j = 7
  · subst h7
    exact v_tableIn 737 dL_law_40 (by decide) (by decide) rfl (by decide) (law_7 G hi hN hL kk)
  by_cases h8 : j = 8
  · subst h8
    exact v_tableIn 793 dL_law_40 (by decide) (by decide) rfl (by decide) (law_8 G hi hN hL kk)
  by_cases h9 : j = 9
  · subst h9
    exact v_tableIn 849 dL_law_40 (by decide) (by decide) rfl (by decide) (law_9 G hi hN hL kk)
  by_cases h10 : j = 10
  · subst h10
    exact v_tableIn 905 dL_law_40 (by decide) (by decide) rfl (by decide) (law_10 G hi hN hL kk)
  by_cases h11 : j = 11
  · subst h11
    exact v_tableIn 961 dL_law_40 (by decide) (by decide) rfl (by decide) (law_11 G hi hN hL kk)
  by_cases h12 : j = 12
  · subst h12
    exact v_tableIn 1017 dL_law_40 (by decide) (by decide) rfl (by decide) (law_12 G hi hN hL kk)
  by_cases h13 : j = 13
  · subst h13
    exact v_tableIn 1073 dL_law_40 (by decide) (by decide) rfl (by decide) (law_13 G hi hN hL kk)
  by_cases h14 : j = 14
  · subst h14
    exact v_tableIn 1129 dL_law_40 (by decide) (by decide) rfl (by decide) (law_14 G hi hN hL kk)
  by_cases h15 : j = 15
  · subst h15
    exact v_tableIn 1142 dL_law_40 (by decide) (by decide) rfl (by decide) (law_15 G hi hN hL kk)
  by_cases h16 : j = 16
  · subst h16
    exact v_tableIn 1198 dL_law_40 (by decide) (by decide) rfl (by decide) (law_16 G hi hN hL kk)
  by_cases h17 : j = 17
  · subst h17
    exact v_tableIn 1254 dL_law_40 (by decide) (by decide) rfl (by decide) (law_17 G hi hN hL kk)
  by_cases h18 : j = 18
  · subst h18
    exact v_tableIn 1310 dL_law_40 (by decide) (by decide) rfl (by decide) (law_18 G hi hN hL kk)
  by_cases h19 : j = 19
  · subst h19
    exact v_tableIn 1378 dL_law_40 (by decide) (by decide) rfl (by decide) (law_19 G hi hN hL kk)
  by_cases h20 : j = 20
  · subst h20
    exact v_tableIn 1422 dL_law_40 (by decide) (by decide) rfl (by decide) (law_20 G hi hN hL kk)
  by_cases h21 : j = 21
  · subst h21
    exact v_tableIn 1435 dL_law_40 (by decide) (by decide) rfl (by decide) (law_21 G hi hN hL kk)
  by_cases h22 : j = 22
  · subst h22
    exact v_tableIn 1491 dL_law_40 (by decide) (by decide) rfl (by decide) (law_22 G hi hN hL kk)
  by_cases h23 : j = 23
  · subst h23
    exact v_tableIn 1571 dL_law_40 (by decide) (by decide) rfl (by decide) (law_23 G hi hN hL kk)
  by_cases h24 : j = 24
  · subst h24
    exact v_tableIn 1627 dL_law_40 (by decide) (by decide) rfl (by decide) (law_24 G hi hN hL kk)
  by_cases h25 : j = 25
  · subst h25
    exact v_tableIn 1695 dL_law_40 (by decide) (by decide) rfl (by decide) (law_25 G hi hN hL kk)
  by_cases h26 : j = 26
  · subst h26
    exact v_tableIn 1708 dL_law_40 (by decide) (by decide) rfl (by decide) (law_26 G hi hN hL kk)
  by_cases h27 : j = 27
  · subst h27
    exact v_tableIn 1764 dL_law_40 (by decide) (by decide) rfl (by decide) (law_27 G hi hN hL kk)
  by_cases h28 : j = 28
  · subst h28
    exact v_tableIn 1832 dL_law_40 (by decide) (by decide) rfl (by decide) (law_28 G hi hN hL kk)
  by_cases h29 : j = 29
  · subst h29
    exact v_tableIn 1888 dL_law_40 (by decide) (by decide) rfl (by decide) (law_29 G hi hN hL kk)
  by_cases h30 : j = 30
  · subst h30
    exact v_tableIn 1956 dL_law_40 (by decide) (by decide) rfl (by decide) (law_30 G hi hN hL kk)
  by_cases h31 : j = 31
  · subst h31
    exact v_tableIn 2024 dL_law_40 (by decide) (by decide) rfl (by decide) (law_31 G hi hN hL kk)
  by_cases h32 : j = 32
  · subst h32
    exact v_tableIn 2037 dL_law_40 (by decide) (by decide) rfl (by decide) (law_32 G hi hN hL kk)
  by_cases h33 : j = 33
  · subst h33
    exact v_tableIn 2093 dL_law_40 (by decide) (by decide) rfl (by decide) (law_33 G hi hN hL kk)
  by_cases h34 : j = 34
  · subst h34
    exact v_tableIn 2161 dL_law_40 (by decide) (by decide) rfl (by decide) (law_34 G hi hN hL kk)
  by_cases h35 : j = 35
  · subst h35
    exact v_tableIn 2174 dL_law_40 (by decide) (by decide) rfl (by decide) (law_35 G hi hN hL kk)
  by_cases h36 : j = 36
  · subst h36
    exact v_tableIn 2187 dL_law_40 (by decide) (by decide) rfl (by decide) (law_36 G hi hN hL kk)
  by_cases h37 : j = 37
  · subst h37
    exact v_tableIn 2200 dL_law_40 (by decide) (by decide) rfl (by decide) (law_37 G hi hN hL kk)
  by_cases h38 : j = 38
  · subst h38
    exact v_tableIn 2256 dL_law_40 (by decide) (by decide) rfl (by decide) (law_38 G hi hN hL kk)
  by_cases h39 : j = 39
  · subst h39
    exact v_tableIn 2324 dL_law_40 (by decide) (by decide) rfl (by decide) (law_39 G hi hN hL kk)
  by_cases h40 : j = 40
  · subst h40
    exact v_tableIn 2380 dL_law_40 (by decide) (by decide) rfl (by decide) (law_40 G hi hN hL kk)
  by_cases h41 : j = 41
  · subst h41
    exact v_tableIn 2393 dL_law_40 (by decide) (by decide) rfl (by decide) (law_41 G hi hN hL kk)
  by_cases h42 : j = 42
  · subst h42
    exact v_tableIn 2449 dL_law_40 (by decide) (by decide) rfl (by decide) (law_42 G hi hN hL kk)
  by_cases h43 : j = 43
  · subst h43
    exact v_tableIn 2509 dL_law_40 (by decide) (by decide) rfl (by decide) (law_43 G hi hN hL kk)
  by_cases h44 : j = 44
  · subst h44
    exact v_tableIn 2620 dL_law_40 (by decide) (by decide) rfl (by decide) (law_44 G hi hN hL kk)
  by_cases h45 : j = 45
  · subst h45
    exact v_tableIn 2676 dL_law_40 (by decide) (by decide) rfl (by decide) (law_45 G hi hN hL kk)
  by_cases h46 : j = 46
  · subst h46
    exact v_tableIn 2712 dL_law_40 (by decide) (by decide) rfl (by decide) (law_46 G hi hN hL kk)
  by_cases h47 : j = 47
  · subst h47
    exact v_tableIn 2748 dL_law_40 (by decide) (by decide) rfl (by decide) (law_47 G hi hN hL kk)
  refine v_tableOut 2773 dL_law_40 (Or.inr ?_) (by decide) ((kk M hL).up (by omega) (by omega))
  rw [nI_toInt (by omega)]
  omega
theorem law_loop (hN : ad G 1000 ≤ 3072) : ∀ n i M, ad G 1000 ≤ i + 6 * n → i ≤ 6000 → LI M → V G YL_law 60 (75 * n) (1023 * n) Q1 X 23 (LW i) [] M := by
  intro n
  induction n with
  | zero =>
    intro i M h1 h2 hL
    refine v_iload dL_law_23 rfl ?_
    refine v_aload_n dL_law_25 rfl ?_
    refine v_alenC (q := 34) (ty := .int) (f := fun j => .int (Int32.ofNat (ad G (2000 + j)))) dL_law_26 (fun s h => sc_T G s h) ?_
    refine v_bipush 6 dL_law_27 (by decide) ?_
    refine v_isub dL_law_29 ?_
    refine v_icmp_gt 2779 dL_law_30 (by decide) (fun _ => ?_) (fun h => absurd (lp_go h2 hN h) (by omega))
    refine v_iconst 1 dL_law_2779 (by decide) ?_
    exact v_zret dL_law_2780 rfl rfl rfl
  | succ n ih =>
    intro i M h1 h2 hL
    refine v_iload dL_law_23 rfl ?_
    refine v_aload_n dL_law_25 rfl ?_
    refine v_alenC (q := 34) (ty := .int) (f := fun j => .int (Int32.ofNat (ad G (2000 + j)))) dL_law_26 (fun s h => sc_T G s h) ?_
    refine v_bipush 6 dL_law_27 (by decide) ?_
    refine v_isub dL_law_29 ?_
    refine v_icmp_gt 2779 dL_law_30 (by decide) (fun _ => ?_) (fun h => ?_)
    · refine v_iconst 1 dL_law_2779 (by decide) ?_
      exact v_zret dL_law_2780 rfl rfl rfl
    · have hi := lp_go h2 hN h
      refine V.up (kc := 75 * n + 75) (ks := 1023 * n + 1023) (law_at G hi hN hL (fun M2 hL2 => ?_)) (by omega) (by omega)
      have e : nI i + 6 = nI (i + 6) := by rw [show (6 : Int32) = nI 6 by decide, nI_add]
      have k := ih (i + 6) M2 (by omega) (by omega) hL2
      unfold LW at k ⊢
      rw [← e] at k
      refine v_iinc 6 dL_law_2773 rfl (by decide) rfl (by decide) ?_
      exact v_goto 23 dL_law_2776 (by decide) k
end LOOP
