/-! ===== constructors (written by wip/whole/gen_init.py) ===== -/
section INI2
variable (G : mG) (M : mM)
def lt9 : List (Nat × (Nat ⊕ (Nat × Nat))) := ((4, .inr (2, 0)) :: ((3, .inr (0, 901)) :: ((2, .inr (0, 901)) :: ((1, .inr (4, 901)) :: []))))
def lr9 : List (Nat × Nat × Nat) := ((0, 3, 4) :: ((0, 2, 3) :: ((0, 1, 2) :: ((0, 0, 1) :: []))))
def mz9 : List Nat := (4 :: (3 :: (2 :: (1 :: []))))
def fn9 : Nat → Int32 := (fun _ => 0)
theorem c9_ini {p : Nat} (hp : gz M = p) : Ct G Y9_init 1 4 2703 [.ref p] (nw M (.inl 9)) (Rs none (fun M' => NwO 9 p 5 lt9 lr9 mz9 fn9 M M')) NX := by
  refine Ct.of k9_init.1 (Nat.le_of_ble_eq_true rfl) ?_
  have h := NwO.start hp 9
  generalize nw M (.inl 9) = M1 at h ⊢
  refine v_aload_n dX9_init_0 rfl ?_
  refine v_objInit dX9_init_1 ⟨l9_3, oI⟩ (Nat.le_of_ble_eq_true rfl) (Nat.le_of_ble_eq_true rfl) ?_
  refine v_aload_n dX9_init_4 rfl ?_
  refine v_sipush 901 dX9_init_5 (by decide) ?_
  refine v_anew (kc := 3) (ks := 1802) (t := 4) (N := 901) dX9_init_8 (by decide) c9_9 ⟨by decide, rfl, by decide⟩ ?_
  rw [h.1]
  have h := h.arr (.inr (4, 901))
  refine v_putR 9 0 dX9_init_11 f9_11 h.own (by decide) (by decide) ?_
  have h := h.put0 0 1 (by decide)
  generalize sR (nw M1 (.inr (4, 901))) p 0 (some (p + 1)) = M2 at h ⊢
  refine v_aload_n dX9_init_14 rfl ?_
  refine v_sipush 901 dX9_init_15 (by decide) ?_
  refine v_newa (kc := 2) (ks := 901) (t := 0) (N := 901) dX9_init_18 ⟨rfl, by decide⟩ A_0 ⟨by decide, rfl, by decide⟩ ?_
  rw [h.1]
  have h := h.arr (.inr (0, 901))
  refine v_putR 9 1 dX9_init_20 f9_17 h.own (by decide) (by decide) ?_
  have h := h.put0 1 2 (by decide)
  generalize sR (nw M2 (.inr (0, 901))) p 1 (some (p + 2)) = M3 at h ⊢
  refine v_aload_n dX9_init_23 rfl ?_
  refine v_sipush 901 dX9_init_24 (by decide) ?_
  refine v_newa (kc := 1) (ks := 0) (t := 0) (N := 901) dX9_init_27 ⟨rfl, by decide⟩ A_0 ⟨by decide, rfl, by decide⟩ ?_
  rw [h.1]
  have h := h.arr (.inr (0, 901))
  refine v_putR 9 2 dX9_init_29 f9_21 h.own (by decide) (by decide) ?_
  have h := h.put0 2 3 (by decide)
  generalize sR (nw M3 (.inr (0, 901))) p 2 (some (p + 3)) = M4 at h ⊢
  refine v_aload_n dX9_init_32 rfl ?_
  refine v_iconst 0 dX9_init_33 (by decide) ?_
  refine v_newa (kc := 0) (ks := 0) (t := 2) (N := 0) dX9_init_34 ⟨rfl, by decide⟩ A_2 ⟨by decide, rfl, by decide⟩ ?_
  rw [h.1]
  have h := h.arr (.inr (2, 0))
  refine v_putR 9 3 dX9_init_36 f9_24 h.own (by decide) (by decide) ?_
  have h := h.put0 3 4 (by decide)
  generalize sR (nw M4 (.inr (2, 0))) p 3 (some (p + 4)) = M5 at h ⊢
  refine v_aload_n dX9_init_39 rfl ?_
  refine v_gets (v := .ref 32) dX9_init_40 g9_28 (kT_z G (i := 32) (by decide) rfl) ?_
  refine v_putR 9 8 dX9_init_43 f9_32 h.own (by decide) (by decide) ?_
  have h := h.putX 8 (some 32) (by decide)
  generalize sR M5 p 8 (some 32) = M6 at h ⊢
  refine v_vret dX9_init_46 rfl ?_
  exact ⟨rfl, h⟩
def lt3 : List (Nat × (Nat ⊕ (Nat × Nat))) := ((ltP).map (fun e => (6 + e.1, e.2)) ++ (6, .inl 4) :: ((lt9).map (fun e => (1 + e.1, e.2)) ++ (1, .inl 9) :: []))
def lr3 : List (Nat × Nat × Nat) := ((0, 2, 6) :: ((lrP).map (fun e => (6 + e.1, e.2.1, 6 + e.2.2)) ++ ((0, 0, 1) :: ((lr9).map (fun e => (1 + e.1, e.2.1, 1 + e.2.2)) ++ []))))
def mz3 : List Nat := (([]).map (fun e => 6 + e) ++ ((mz9).map (fun e => 1 + e) ++ []))
def fn3 : Nat → Int32 := (uK (fun _ => 0) 4 (-1))
theorem c3_ini {p : Nat} (hp : gz M = p) : Ct G Y3_init 2 12 2836 [.ref p] (nw M (.inl 3)) (Rs none (fun M' => NwO 3 p 13 lt3 lr3 mz3 fn3 M M')) NX := by
  refine Ct.of k3_init.1 (Nat.le_of_ble_eq_true rfl) ?_
  have h := NwO.start hp 3
  generalize nw M (.inl 3) = M1 at h ⊢
  refine v_aload_n dX3_init_0 rfl ?_
  refine v_objInit dX3_init_1 ⟨l3_3, oI⟩ (Nat.le_of_ble_eq_true rfl) (Nat.le_of_ble_eq_true rfl) ?_
  refine v_aload_n dX3_init_4 rfl ?_
  refine v_new (kc := 11) (ks := 2825) 9 dX3_init_5 (by decide) ⟨c3_9, I_9, N_9⟩ ?_
  rw [h.1]
  refine v_dup dX3_init_8 rfl ?_
  refine v_scIN (kc := 7) (ks := 122) [] (c9_ini G M1 (p := p + 1) h.1) k9_init dX3_init_9 n3_11 rfl (Nat.le_of_ble_eq_true rfl) (Nat.le_of_ble_eq_true rfl) ?_
  intro M2 h2
  have h := h.sub h2
  clear h2
  refine v_putR 3 0 dX3_init_12 f3_12 h.own (by decide) (by decide) ?_
  have h := h.put0 0 1 (by decide)
  generalize sR M2 p 0 (some (p + 1)) = M3 at h ⊢
  refine v_aload_n dX3_init_15 rfl ?_
  refine v_new (kc := 6) (ks := 105) 4 dX3_init_16 (by decide) ⟨c3_18, I_4, N_4⟩ ?_
  rw [h.1]
  refine v_dup dX3_init_19 rfl ?_
  refine v_scIN (kc := 0) (ks := 0) [] (c4_ini G M3 (p := p + 6) h.1) k4_init dX3_init_20 n3_20 rfl (Nat.le_of_ble_eq_true rfl) (Nat.le_of_ble_eq_true rfl) ?_
  intro M4 h2
  have h := h.sub h2
  clear h2
  refine v_putR 3 2 dX3_init_23 f3_21 h.own (by decide) (by decide) ?_
  have h := h.put0 2 6 (by decide)
  generalize sR M4 p 2 (some (p + 6)) = M5 at h ⊢
  refine v_aload_n dX3_init_26 rfl ?_
  refine v_iconst (-1) dX3_init_27 (by decide) ?_
  refine v_putI 3 4 dX3_init_28 f3_25 h.own (by decide) ?_
  have h := h.si 4 (-1) (by decide)
  generalize sI M5 p 4 (-1) = M6 at h ⊢
  refine v_vret dX3_init_31 rfl ?_
  exact ⟨rfl, h⟩
def lt5 : List (Nat × (Nat ⊕ (Nat × Nat))) := ((2, .inr (0, 40)) :: ((1, .inr (0, 6)) :: []))
def lr5 : List (Nat × Nat × Nat) := ((0, 1, 2) :: ((0, 0, 1) :: []))
def mz5 : List Nat := (2 :: (1 :: []))
def fn5 : Nat → Int32 := (fun _ => 0)
theorem c5_ini {p : Nat} (hp : gz M = p) : Ct G Y5_init 1 2 46 [.ref p] (nw M (.inl 5)) (Rs none (fun M' => NwO 5 p 3 lt5 lr5 mz5 fn5 M M')) NX := by
  refine Ct.of k5_init.1 (Nat.le_of_ble_eq_true rfl) ?_
  have h := NwO.start hp 5
  generalize nw M (.inl 5) = M1 at h ⊢
  refine v_aload_n dX5_init_0 rfl ?_
  refine v_objInit dX5_init_1 ⟨l5_5, oI⟩ (Nat.le_of_ble_eq_true rfl) (Nat.le_of_ble_eq_true rfl) ?_
  refine v_aload_n dX5_init_4 rfl ?_
  refine v_bipush 6 dX5_init_5 (by decide) ?_
  refine v_newa (kc := 1) (ks := 40) (t := 0) (N := 6) dX5_init_7 ⟨rfl, by decide⟩ A_0 ⟨by decide, rfl, by decide⟩ ?_
  rw [h.1]
  have h := h.arr (.inr (0, 6))
  refine v_putR 5 0 dX5_init_9 f5_11 h.own (by decide) (by decide) ?_
  have h := h.put0 0 1 (by decide)
  generalize sR (nw M1 (.inr (0, 6))) p 0 (some (p + 1)) = M2 at h ⊢
  refine v_aload_n dX5_init_12 rfl ?_
  refine v_bipush 40 dX5_init_13 (by decide) ?_
  refine v_newa (kc := 0) (ks := 0) (t := 0) (N := 40) dX5_init_15 ⟨rfl, by decide⟩ A_0 ⟨by decide, rfl, by decide⟩ ?_
  rw [h.1]
  have h := h.arr (.inr (0, 40))
  refine v_putR 5 1 dX5_init_17 f5_15 h.own (by decide) (by decide) ?_
  have h := h.put0 1 2 (by decide)
  generalize sR (nw M2 (.inr (0, 40))) p 1 (some (p + 2)) = M3 at h ⊢
  refine v_vret dX5_init_20 rfl ?_
  exact ⟨rfl, h⟩
def lt1 : List (Nat × (Nat ⊕ (Nat × Nat))) := ((3, .inr (0, 10)) :: ((2, .inr (0, 10)) :: ((1, .inr (1, 1024)) :: [])))
def lr1 : List (Nat × Nat × Nat) := ((0, 2, 3) :: ((0, 1, 2) :: ((0, 0, 1) :: [])))
def mz1 : List Nat := (3 :: (2 :: (1 :: [])))
def fn1 : Nat → Int32 := (fun _ => 0)
theorem c1_ini {p : Nat} (hp : gz M = p) : Ct G Y1_init 1 3 1044 [.ref p] (nw M (.inl 1)) (Rs none (fun M' => NwO 1 p 4 lt1 lr1 mz1 fn1 M M')) NX := by
  refine Ct.of k1_init.1 (Nat.le_of_ble_eq_true rfl) ?_
  have h := NwO.start hp 1
  generalize nw M (.inl 1) = M1 at h ⊢
  refine v_aload_n dX1_init_0 rfl ?_
  refine v_objInit dX1_init_1 ⟨l1_3, oI⟩ (Nat.le_of_ble_eq_true rfl) (Nat.le_of_ble_eq_true rfl) ?_
  refine v_aload_n dX1_init_4 rfl ?_
  refine v_sipush 1024 dX1_init_5 (by decide) ?_
  refine v_newa (kc := 2) (ks := 20) (t := 1) (N := 1024) dX1_init_8 ⟨rfl, by decide⟩ A_1 ⟨by decide, rfl, by decide⟩ ?_
  rw [h.1]
  have h := h.arr (.inr (1, 1024))
  refine v_putR 1 0 dX1_init_10 f1_9 h.own (by decide) (by decide) ?_
  have h := h.put0 0 1 (by decide)
  generalize sR (nw M1 (.inr (1, 1024))) p 0 (some (p + 1)) = M2 at h ⊢
  refine v_aload_n dX1_init_13 rfl ?_
  refine v_bipush 10 dX1_init_14 (by decide) ?_
  refine v_newa (kc := 1) (ks := 10) (t := 0) (N := 10) dX1_init_16 ⟨rfl, by decide⟩ A_0 ⟨by decide, rfl, by decide⟩ ?_
  rw [h.1]
  have h := h.arr (.inr (0, 10))
  refine v_putR 1 1 dX1_init_18 f1_15 h.own (by decide) (by decide) ?_
  have h := h.put0 1 2 (by decide)
  generalize sR (nw M2 (.inr (0, 10))) p 1 (some (p + 2)) = M3 at h ⊢
  refine v_aload_n dX1_init_21 rfl ?_
  refine v_bipush 10 dX1_init_22 (by decide) ?_
  refine v_newa (kc := 0) (ks := 0) (t := 0) (N := 10) dX1_init_24 ⟨rfl, by decide⟩ A_0 ⟨by decide, rfl, by decide⟩ ?_
  rw [h.1]
  have h := h.arr (.inr (0, 10))
  refine v_putR 1 2 dX1_init_26 f1_19 h.own (by decide) (by decide) ?_
  have h := h.put0 2 3 (by decide)
  generalize sR (nw M3 (.inr (0, 10))) p 2 (some (p + 3)) = M4 at h ⊢
  refine v_vret dX1_init_29 rfl ?_
  exact ⟨rfl, h⟩
def lt0 : List (Nat × (Nat ⊕ (Nat × Nat))) := ((3, .inr (0, 91)) :: ((2, .inr (0, 10)) :: ((1, .inr (1, 1024)) :: [])))
def lr0 : List (Nat × Nat × Nat) := ((0, 2, 3) :: ((0, 1, 2) :: ((0, 0, 1) :: [])))
def mz0 : List Nat := (3 :: (2 :: (1 :: [])))
def fn0 : Nat → Int32 := (fun _ => 0)
theorem c0_ini {p : Nat} (hp : gz M = p) : Ct G Y0_init 1 3 1125 [.ref p] (nw M (.inl 0)) (Rs none (fun M' => NwO 0 p 4 lt0 lr0 mz0 fn0 M M')) NX := by
  refine Ct.of k0_init.1 (Nat.le_of_ble_eq_true rfl) ?_
  have h := NwO.start hp 0
  generalize nw M (.inl 0) = M1 at h ⊢
  refine v_aload_n dX0_init_0 rfl ?_
  refine v_objInit dX0_init_1 ⟨l0_5, oI⟩ (Nat.le_of_ble_eq_true rfl) (Nat.le_of_ble_eq_true rfl) ?_
  refine v_aload_n dX0_init_4 rfl ?_
  refine v_sipush 1024 dX0_init_5 (by decide) ?_
  refine v_newa (kc := 2) (ks := 101) (t := 1) (N := 1024) dX0_init_8 ⟨rfl, by decide⟩ A_1 ⟨by decide, rfl, by decide⟩ ?_
  rw [h.1]
  have h := h.arr (.inr (1, 1024))
  refine v_putR 0 0 dX0_init_10 f0_11 h.own (by decide) (by decide) ?_
  have h := h.put0 0 1 (by decide)
  generalize sR (nw M1 (.inr (1, 1024))) p 0 (some (p + 1)) = M2 at h ⊢
  refine v_aload_n dX0_init_13 rfl ?_
  refine v_bipush 10 dX0_init_14 (by decide) ?_
  refine v_newa (kc := 1) (ks := 91) (t := 0) (N := 10) dX0_init_16 ⟨rfl, by decide⟩ A_0 ⟨by decide, rfl, by decide⟩ ?_
  rw [h.1]
  have h := h.arr (.inr (0, 10))
  refine v_putR 0 1 dX0_init_18 f0_15 h.own (by decide) (by decide) ?_
  have h := h.put0 1 2 (by decide)
  generalize sR (nw M2 (.inr (0, 10))) p 1 (some (p + 2)) = M3 at h ⊢
  refine v_aload_n dX0_init_21 rfl ?_
  refine v_bipush 91 dX0_init_22 (by decide) ?_
  refine v_newa (kc := 0) (ks := 0) (t := 0) (N := 91) dX0_init_24 ⟨rfl, by decide⟩ A_0 ⟨by decide, rfl, by decide⟩ ?_
  rw [h.1]
  have h := h.arr (.inr (0, 91))
  refine v_putR 0 2 dX0_init_26 f0_19 h.own (by decide) (by decide) ?_
  have h := h.put0 2 3 (by decide)
  generalize sR (nw M3 (.inr (0, 91))) p 2 (some (p + 3)) = M4 at h ⊢
  refine v_vret dX0_init_29 rfl ?_
  exact ⟨rfl, h⟩
def lt2 : List (Nat × (Nat ⊕ (Nat × Nat))) := ((ltP).map (fun e => (6 + e.1, e.2)) ++ (6, .inl 4) :: ((5, .inr (0, 10)) :: ((4, .inr (0, 6)) :: ((lt5).map (fun e => (1 + e.1, e.2)) ++ (1, .inl 5) :: []))))
def lr2 : List (Nat × Nat × Nat) := ((0, 3, 6) :: ((lrP).map (fun e => (6 + e.1, e.2.1, 6 + e.2.2)) ++ ((0, 2, 5) :: ((0, 1, 4) :: ((0, 0, 1) :: ((lr5).map (fun e => (1 + e.1, e.2.1, 1 + e.2.2)) ++ []))))))
def mz2 : List Nat := (([]).map (fun e => 6 + e) ++ (5 :: (4 :: ((mz5).map (fun e => 1 + e) ++ []))))
def fn2 : Nat → Int32 := (fun _ => 0)
theorem c2_ini {p : Nat} (hp : gz M = p) : Ct G Y2_init 2 12 188 [.ref p] (nw M (.inl 2)) (Rs none (fun M' => NwO 2 p 13 lt2 lr2 mz2 fn2 M M')) NX := by
  refine Ct.of k2_init.1 (Nat.le_of_ble_eq_true rfl) ?_
  have h := NwO.start hp 2
  generalize nw M (.inl 2) = M1 at h ⊢
  refine v_aload_n dX2_init_0 rfl ?_
  refine v_objInit dX2_init_1 ⟨l2_3, oI⟩ (Nat.le_of_ble_eq_true rfl) (Nat.le_of_ble_eq_true rfl) ?_
  refine v_aload_n dX2_init_4 rfl ?_
  refine v_new (kc := 11) (ks := 184) 5 dX2_init_5 (by decide) ⟨c2_9, I_5, N_5⟩ ?_
  rw [h.1]
  refine v_dup dX2_init_8 rfl ?_
  refine v_scIN (kc := 9) (ks := 138) [] (c5_ini G M1 (p := p + 1) h.1) k5_init dX2_init_9 n2_11 rfl (Nat.le_of_ble_eq_true rfl) (Nat.le_of_ble_eq_true rfl) ?_
  intro M2 h2
  have h := h.sub h2
  clear h2
  refine v_putR 2 0 dX2_init_12 f2_12 h.own (by decide) (by decide) ?_
  have h := h.put0 0 1 (by decide)
  generalize sR M2 p 0 (some (p + 1)) = M3 at h ⊢
  refine v_aload_n dX2_init_15 rfl ?_
  refine v_bipush 6 dX2_init_16 (by decide) ?_
  refine v_newa (kc := 8) (ks := 132) (t := 0) (N := 6) dX2_init_18 ⟨rfl, by decide⟩ A_0 ⟨by decide, rfl, by decide⟩ ?_
  rw [h.1]
  have h := h.arr (.inr (0, 6))
  refine v_putR 2 1 dX2_init_20 f2_18 h.own (by decide) (by decide) ?_
  have h := h.put0 1 4 (by decide)
  generalize sR (nw M3 (.inr (0, 6))) p 1 (some (p + 4)) = M4 at h ⊢
  refine v_aload_n dX2_init_23 rfl ?_
  refine v_bipush 10 dX2_init_24 (by decide) ?_
  refine v_newa (kc := 7) (ks := 122) (t := 0) (N := 10) dX2_init_26 ⟨rfl, by decide⟩ A_0 ⟨by decide, rfl, by decide⟩ ?_
  rw [h.1]
  have h := h.arr (.inr (0, 10))
  refine v_putR 2 2 dX2_init_28 f2_22 h.own (by decide) (by decide) ?_
  have h := h.put0 2 5 (by decide)
  generalize sR (nw M4 (.inr (0, 10))) p 2 (some (p + 5)) = M5 at h ⊢
  refine v_aload_n dX2_init_31 rfl ?_
  refine v_new (kc := 6) (ks := 105) 4 dX2_init_32 (by decide) ⟨c2_25, I_4, N_4⟩ ?_
  rw [h.1]
  refine v_dup dX2_init_35 rfl ?_
  refine v_scIN (kc := 0) (ks := 0) [] (c4_ini G M5 (p := p + 6) h.1) k4_init dX2_init_36 n2_27 rfl (Nat.le_of_ble_eq_true rfl) (Nat.le_of_ble_eq_true rfl) ?_
  intro M6 h2
  have h := h.sub h2
  clear h2
  refine v_putR 2 3 dX2_init_39 f2_28 h.own (by decide) (by decide) ?_
  have h := h.put0 3 6 (by decide)
  generalize sR M6 p 3 (some (p + 6)) = M7 at h ⊢
  refine v_vret dX2_init_42 rfl ?_
  exact ⟨rfl, h⟩
def lt10 : List (Nat × (Nat ⊕ (Nat × Nat))) := ((1, .inr (1, 30)) :: [])
def lr10 : List (Nat × Nat × Nat) := ((0, 2, 1) :: [])
def mz10 : List Nat := (1 :: [])
def fn10 : Nat → Int32 := (uK (fun _ => 0) 0 1)
theorem c10_ini {p : Nat} (hp : gz M = p) : Ct G Y10_init 1 1 30 [.ref p] (nw M (.inl 10)) (Rs none (fun M' => NwO 10 p 2 lt10 lr10 mz10 fn10 M M')) NX := by
  refine Ct.of k10_init.1 (Nat.le_of_ble_eq_true rfl) ?_
  have h := NwO.start hp 10
  generalize nw M (.inl 10) = M1 at h ⊢
  refine v_aload_n dX10_init_0 rfl ?_
  refine v_objInit dX10_init_1 ⟨l10_3, oI⟩ (Nat.le_of_ble_eq_true rfl) (Nat.le_of_ble_eq_true rfl) ?_
  refine v_aload_n dX10_init_4 rfl ?_
  refine v_iconst 1 dX10_init_5 (by decide) ?_
  refine v_putZ 10 0 dX10_init_6 f10_9 h.own (by decide) (by decide) ?_
  have h := h.si 0 1 (by decide)
  generalize sI M1 p 0 1 = M2 at h ⊢
  refine v_aload_n dX10_init_9 rfl ?_
  refine v_bipush 30 dX10_init_10 (by decide) ?_
  refine v_newa (kc := 0) (ks := 0) (t := 1) (N := 30) dX10_init_12 ⟨rfl, by decide⟩ A_1 ⟨by decide, rfl, by decide⟩ ?_
  rw [h.1]
  have h := h.arr (.inr (1, 30))
  refine v_putR 10 2 dX10_init_14 f10_15 h.own (by decide) (by decide) ?_
  have h := h.put0 2 1 (by decide)
  generalize sR (nw M2 (.inr (1, 30))) p 2 (some (p + 1)) = M3 at h ⊢
  refine v_vret dX10_init_17 rfl ?_
  exact ⟨rfl, h⟩
end INI2
