/-! ===== the class: Reckoner ===== -/
section C5
variable (G : mG) (M : mM)
theorem l5_someLooks {r nm : Nat} {f : Nat → Int32} {num : Int32} (hk : RkSh M r) (hd : RkD M r nm f num) (h6 : nm ≤ 6) (x : Int32) : ∀ i m, m + i = nm → anF f x m = false → V G Y5_someLooks 0 0 0 (Rv (some (.int (bI (anF f x nm = true)))) M) NX 2 [some (.ref r), some (.int x), some (.int (nI m))] [] M := by
  obtain ⟨k1, k2, k3, k4, k5⟩ := hk
  obtain ⟨d1, d2, d3⟩ := hd
  intro i
  induction i with
  | zero =>
    intro m hm ha
    obtain rfl : m = nm := by omega
    refine v_iload_n dX5_someLooks_2 rfl ?_
    refine v_aload_n dX5_someLooks_3 rfl ?_
    refine v_getI 5 2 dX5_someLooks_4 f5_30 (by assumption) (by decide) ?_
    rw [d1]
    refine v_icmp_ge 28 dX5_someLooks_7 (by decide) (fun h7 => ?_) (fun h7 => absurd (nI_le (Nat.le_refl _) (by omega)) h7)
    refine v_iconst 0 dX5_someLooks_28 (by decide) ?_
    refine v_iret dX5_someLooks_29 rfl ?_
    exact ⟨by rw [ha]; rfl, rfl⟩
  | succ i ih =>
    intro m hm ha
    have e := anF_mono (f := f) (x := x) (m := m + 1)
    refine v_iload_n dX5_someLooks_2 rfl ?_
    refine v_aload_n dX5_someLooks_3 rfl ?_
    refine v_getI 5 2 dX5_someLooks_4 f5_30 (by assumption) (by decide) ?_
    rw [d1]
    refine v_icmp_ge 28 dX5_someLooks_7 (by decide) (fun h7 => absurd ((nI_leI (by omega) (by omega)).mp h7) (by omega)) (fun h7 => ?_)
    refine v_aload_n dX5_someLooks_10 rfl ?_
    refine v_getR 5 0 _ dX5_someLooks_11 f5_11 (by assumption) (by decide) (by assumption) ?_
    refine v_iload_n dX5_someLooks_14 rfl ?_
    refine v_ialdN (m) dX5_someLooks_15 (by assumption) (by simp only [n_lit, pk_mul, nI_add]) ⟨by omega, by omega⟩ ?_
    rw [d3 m (by omega)]
    refine v_iload_n dX5_someLooks_16 rfl ?_
    refine v_icmp_ne 22 dX5_someLooks_17 (by decide) (fun h17 => ?_) (fun h17 => ?_)
    · refine v_iinc 1 dX5_someLooks_22 rfl (by decide) rfl (by decide) ?_
      refine v_goto 2 dX5_someLooks_25 (by decide) ?_
      (rw [nI_1]; exact ih (m + 1) (by omega) (by rw [anF, ha, decide_eq_false h17]; rfl))
    · refine v_iconst 1 dX5_someLooks_20 (by decide) ?_
      refine v_iret dX5_someLooks_21 rfl ?_
      (have hz := e (by rw [anF, decide_eq_true (Decidable.not_not.mp h17), Bool.or_true]) i; rw [show m + 1 + i = nm by omega] at hz; exact ⟨by rw [hz]; rfl, rfl⟩)
theorem c5_someLooks {r nm : Nat} {f : Nat → Int32} {num : Int32} (hk : RkSh M r) (hd : RkD M r nm f num) (h6 : nm ≤ 6) (x : Int32) : Ct G Y5_someLooks 0 0 0 [.ref r, .int x] M (Rv (some (.int (bI (anF f x nm = true)))) M) NX := by
  refine Ct.of k5_someLooks.1 (Nat.le_of_ble_eq_true rfl) ?_
  refine v_iconst 0 dX5_someLooks_0 (by decide) ?_
  refine v_istore_n dX5_someLooks_1 rfl (by decide) ?_
  -- at 2: .iload_n 2
  exact l5_someLooks G M hk hd h6 x nm 0 (by omega) rfl
theorem l5_sumOfLooks {r nm : Nat} {f : Nat → Int32} {num : Int32} (hk : RkSh M r) (hd : RkD M r nm f num) (h6 : nm ≤ 6) : ∀ i m, m + i = nm → V G Y5_sumOfLooks 0 0 0 (Rv (some (.int (plF f 300 nm))) M) NX 4 [some (.ref r), some (.int (plF f 300 m)), some (.int (nI m))] [] M := by
  obtain ⟨k1, k2, k3, k4, k5⟩ := hk
  obtain ⟨d1, d2, d3⟩ := hd
  intro i
  induction i with
  | zero =>
    intro m hm
    obtain rfl : m = nm := by omega
    refine v_iload_n dX5_sumOfLooks_4 rfl ?_
    refine v_aload_n dX5_sumOfLooks_5 rfl ?_
    refine v_getI 5 2 dX5_sumOfLooks_6 f5_30 (by assumption) (by decide) ?_
    rw [d1]
    refine v_icmp_ge 27 dX5_sumOfLooks_9 (by decide) (fun h9 => ?_) (fun h9 => absurd (nI_le (Nat.le_refl _) (by omega)) h9)
    refine v_iload_n dX5_sumOfLooks_27 rfl ?_
    refine v_iret dX5_sumOfLooks_28 rfl ?_
    exact ⟨rfl, rfl⟩
  | succ i ih =>
    intro m hm
    refine v_iload_n dX5_sumOfLooks_4 rfl ?_
    refine v_aload_n dX5_sumOfLooks_5 rfl ?_
    refine v_getI 5 2 dX5_sumOfLooks_6 f5_30 (by assumption) (by decide) ?_
    rw [d1]
    refine v_icmp_ge 27 dX5_sumOfLooks_9 (by decide) (fun h9 => absurd ((nI_leI (by omega) (by omega)).mp h9) (by omega)) (fun h9 => ?_)
    refine v_iload_n dX5_sumOfLooks_12 rfl ?_
    refine v_aload_n dX5_sumOfLooks_13 rfl ?_
    refine v_getR 5 0 _ dX5_sumOfLooks_14 f5_11 (by assumption) (by decide) (by assumption) ?_
    refine v_iload_n dX5_sumOfLooks_17 rfl ?_
    refine v_ialdN (m) dX5_sumOfLooks_18 (by assumption) (by simp only [n_lit, pk_mul, nI_add]) ⟨by omega, by omega⟩ ?_
    rw [d3 m (by omega)]
    refine v_iadd dX5_sumOfLooks_19 ?_
    refine v_istore_n dX5_sumOfLooks_20 rfl (by decide) ?_
    refine v_iinc 1 dX5_sumOfLooks_21 rfl (by decide) rfl (by decide) ?_
    refine v_goto 4 dX5_sumOfLooks_24 (by decide) ?_
    (rw [nI_1]; exact ih (m + 1) (by omega))
theorem c5_sumOfLooks {r nm : Nat} {f : Nat → Int32} {num : Int32} (hk : RkSh M r) (hd : RkD M r nm f num) (h6 : nm ≤ 6) : Ct G Y5_sumOfLooks 0 0 0 [.ref r] M (Rv (some (.int (plF f 300 nm))) M) NX := by
  refine Ct.of k5_sumOfLooks.1 (Nat.le_of_ble_eq_true rfl) ?_
  refine v_iconst 0 dX5_sumOfLooks_0 (by decide) ?_
  refine v_istore_n dX5_sumOfLooks_1 rfl (by decide) ?_
  refine v_iconst 0 dX5_sumOfLooks_2 (by decide) ?_
  refine v_istore_n dX5_sumOfLooks_3 rfl (by decide) ?_
  -- at 4: .iload_n 2
  exact l5_sumOfLooks G M hk hd h6 nm 0 (by omega)
theorem l5_pairsAlike1 {r nm : Nat} {f : Nat → Int32} {num : Int32} (hk : RkSh M r) (hd : RkD M r nm f num) (h6 : nm ≤ 6) {m : Nat} (hm : m < nm) {Q : Option Value → mM → Prop} (n0 : Int32) (kk : V G Y5_pairsAlike 0 0 0 Q NX 43 [some (.ref r), some (.int (n0 + alk f m m)), some (.int (nI m)), some (.int (nI m))] [] M) : ∀ i k, k + i = m → V G Y5_pairsAlike 0 0 0 Q NX 14 [some (.ref r), some (.int (n0 + alk f m k)), some (.int (nI m)), some (.int (nI k))] [] M := by
  obtain ⟨k1, k2, k3, k4, k5⟩ := hk
  obtain ⟨d1, d2, d3⟩ := hd
  intro i
  induction i with
  | zero =>
    intro k hk
    obtain rfl : k = m := by omega
    refine v_iload_n dX5_pairsAlike_14 rfl ?_
    refine v_iload_n dX5_pairsAlike_15 rfl ?_
    refine v_icmp_ge 43 dX5_pairsAlike_16 (by decide) (fun h16 => ?_) (fun h16 => absurd (nI_le (Nat.le_refl _) (by omega)) h16)
    exact kk
  | succ i ih =>
    intro k hk
    have hn := ih (k + 1) (by omega)
    rw [show alk f m (k + 1) = alk f m k + bI (f k = f m) from rfl, ← Int32.add_assoc] at hn
    refine v_iload_n dX5_pairsAlike_14 rfl ?_
    refine v_iload_n dX5_pairsAlike_15 rfl ?_
    refine v_icmp_ge 43 dX5_pairsAlike_16 (by decide) (fun h16 => absurd ((nI_leI (by omega) (by omega)).mp h16) (by omega)) (fun h16 => ?_)
    refine v_aload_n dX5_pairsAlike_19 rfl ?_
    refine v_getR 5 0 _ dX5_pairsAlike_20 f5_11 (by assumption) (by decide) (by assumption) ?_
    refine v_iload_n dX5_pairsAlike_23 rfl ?_
    refine v_ialdN (m) dX5_pairsAlike_24 (by assumption) (by simp only [n_lit, pk_mul, nI_add]) ⟨by omega, by omega⟩ ?_
    rw [d3 m hm]
    refine v_aload_n dX5_pairsAlike_25 rfl ?_
    refine v_getR 5 0 _ dX5_pairsAlike_26 f5_11 (by assumption) (by decide) (by assumption) ?_
    refine v_iload_n dX5_pairsAlike_29 rfl ?_
    refine v_ialdN (k) dX5_pairsAlike_30 (by assumption) (by simp only [n_lit, pk_mul, nI_add]) ⟨by omega, by omega⟩ ?_
    rw [d3 k (by omega)]
    refine v_icmp_ne 37 dX5_pairsAlike_31 (by decide) (fun h31 => ?_) (fun h31 => ?_)
    · refine v_iinc 1 dX5_pairsAlike_37 rfl (by decide) rfl (by decide) ?_
      refine v_goto 14 dX5_pairsAlike_40 (by decide) ?_
      (rw [nI_1]; first | (rw [bI_t (Decidable.not_not.mp h31).symm] at hn; exact hn) | (rw [bI_f (fun z => h31 z.symm), Int32.add_zero] at hn; exact hn))
    · refine v_iinc 1 dX5_pairsAlike_34 rfl (by decide) rfl (by decide) ?_
      refine v_iinc 1 dX5_pairsAlike_37 rfl (by decide) rfl (by decide) ?_
      refine v_goto 14 dX5_pairsAlike_40 (by decide) ?_
      (rw [nI_1]; first | (rw [bI_t (Decidable.not_not.mp h31).symm] at hn; exact hn) | (rw [bI_f (fun z => h31 z.symm), Int32.add_zero] at hn; exact hn))
theorem l5_pairsAlike {r nm : Nat} {f : Nat → Int32} {num : Int32} (hk : RkSh M r) (hd : RkD M r nm f num) (h6 : nm ≤ 6) : ∀ i m (o : Option Value), m + i = nm → V G Y5_pairsAlike 0 0 0 (Rv (some (.int (plF f 301 nm))) M) NX 4 [some (.ref r), some (.int (plF f 301 m)), some (.int (nI m)), o] [] M := by
  have hk0 := hk
  have hd0 := hd
  obtain ⟨k1, k2, k3, k4, k5⟩ := hk
  obtain ⟨d1, d2, d3⟩ := hd
  intro i
  induction i with
  | zero =>
    intro m o hm
    obtain rfl : m = nm := by omega
    refine v_iload_n dX5_pairsAlike_4 rfl ?_
    refine v_aload_n dX5_pairsAlike_5 rfl ?_
    refine v_getI 5 2 dX5_pairsAlike_6 f5_30 (by assumption) (by decide) ?_
    rw [d1]
    refine v_icmp_ge 49 dX5_pairsAlike_9 (by decide) (fun h9 => ?_) (fun h9 => absurd (nI_le (Nat.le_refl _) (by omega)) h9)
    refine v_iload_n dX5_pairsAlike_49 rfl ?_
    refine v_iret dX5_pairsAlike_50 rfl ?_
    exact ⟨rfl, rfl⟩
  | succ i ih =>
    intro m o hm
    have kk : V G Y5_pairsAlike 0 0 0 (Rv (some (.int (plF f 301 nm))) M) NX 43 [some (.ref r), some (.int (plF f 301 m + alk f m m)), some (.int (nI m)), some (.int (nI m))] [] M := by
      rw [← plF_alk]
      refine v_iinc 1 dX5_pairsAlike_43 rfl (by decide) rfl (by decide) ?_
      refine v_goto 4 dX5_pairsAlike_46 (by decide) ?_
      (rw [nI_1]; exact ih (m + 1) _ (by omega))
    have l := l5_pairsAlike1 G M hk0 hd0 h6 (m := m) (by omega) (Q := Rv (some (.int (plF f 301 nm))) M) (plF f 301 m) kk m 0 (by omega)
    rw [show alk f m 0 = 0 from rfl, Int32.add_zero] at l
    refine v_iload_n dX5_pairsAlike_4 rfl ?_
    refine v_aload_n dX5_pairsAlike_5 rfl ?_
    refine v_getI 5 2 dX5_pairsAlike_6 f5_30 (by assumption) (by decide) ?_
    rw [d1]
    refine v_icmp_ge 49 dX5_pairsAlike_9 (by decide) (fun h9 => absurd ((nI_leI (by omega) (by omega)).mp h9) (by omega)) (fun h9 => ?_)
    refine v_iconst 0 dX5_pairsAlike_12 (by decide) ?_
    refine v_istore_n dX5_pairsAlike_13 rfl (by decide) ?_
    exact l
theorem c5_pairsAlike {r nm : Nat} {f : Nat → Int32} {num : Int32} (hk : RkSh M r) (hd : RkD M r nm f num) (h6 : nm ≤ 6) (h1 : 1 ≤ nm) : Ct G Y5_pairsAlike 0 0 0 [.ref r] M (Rv (some (.int (plF f 301 nm))) M) NX := by
  refine Ct.of k5_pairsAlike.1 (Nat.le_of_ble_eq_true rfl) ?_
  refine v_iconst 0 dX5_pairsAlike_0 (by decide) ?_
  refine v_istore_n dX5_pairsAlike_1 rfl (by decide) ?_
  refine v_iconst 1 dX5_pairsAlike_2 (by decide) ?_
  refine v_istore_n dX5_pairsAlike_3 rfl (by decide) ?_
  -- at 4: .iload_n 2
  refine v_pad ?_
  exact l5_pairsAlike G M hk hd h6 (nm - 1) 1 none (by omega)
theorem c5_atom {r nm : Nat} {f : Nat → Int32} {num : Int32} (hk : RkSh M r) (hd : RkD M r nm f num) (h6 : nm ≤ 6) (h1 : 1 ≤ nm) {s : Nat} (hs : okP nm s) : Ct G Y5_atom 1 0 0 [.ref r, .int (nI (encS s / 1024)), .int (nI (encS s % 1024))] M (Rv (some (.int (plN nm f num s))) M) NX := by
  have hk0 := hk
  have hd0 := hd
  obtain ⟨k1, k2, k3, k4, k5⟩ := hk
  obtain ⟨d1, d2, d3⟩ := hd
  refine Ct.of k5_atom.1 (Nat.le_of_ble_eq_true rfl) ?_
  refine v_iload_n dX5_atom_0 rfl ?_
  -- at 1: .tableswitch 70 0 4 #[35, 37, 54, 60, 65]
  unfold okP at hs
  by_cases c1 : 1000 ≤ s
  · rw [show encS s = s - 1000 from if_pos c1, show (s - 1000) / 1024 = 0 by omega, show (s - 1000) % 1024 = s - 1000 by omega, plN, if_pos c1]
    refine v_tableIn 36 dX5_atom_1 (by decide) (by decide) rfl (by decide) ?_
    refine v_iload_n dX5_atom_36 rfl ?_
    refine v_iret dX5_atom_37 rfl ?_
    exact ⟨rfl, rfl⟩
  by_cases c2 : s < 200
  · obtain ⟨m, hm, rfl⟩ : ∃ m, m < nm ∧ s = 100 + m := ⟨s - 100, by omega, by omega⟩
    have e : encS (100 + m) = 1024 + m := by
      unfold encS
      rw [if_neg (by omega), if_neg (by omega), if_neg (by omega), if_neg (by omega), if_neg (by omega), if_neg (by omega), if_neg (by omega), if_neg (by omega), if_neg (by omega), if_neg (by omega), if_pos (by omega)]
      omega
    rw [e, show (1024 + m) / 1024 = 1 by omega, show (1024 + m) % 1024 = m by omega, plN, if_neg c1, if_pos c2, Nat.add_sub_cancel_left]
    refine v_tableIn 38 dX5_atom_1 (by decide) (by decide) rfl (by decide) ?_
    refine v_iload_n dX5_atom_38 rfl ?_
    refine v_bipush 6 dX5_atom_39 (by decide) ?_
    refine v_icmp_ge 53 dX5_atom_41 (by decide) (fun h41 => absurd ((nI_leI (a := 6) (by decide) (by omega)).mp h41) (by omega)) (fun h41 => ?_)
    refine v_aload_n dX5_atom_44 rfl ?_
    refine v_getR 5 0 _ dX5_atom_45 f5_11 (by assumption) (by decide) (by assumption) ?_
    refine v_iload_n dX5_atom_48 rfl ?_
    refine v_ialdN (m) dX5_atom_49 (by assumption) (by simp only [n_lit, pk_mul, nI_add]) ⟨by omega, by omega⟩ ?_
    rw [d3 m hm]
    refine v_goto 54 dX5_atom_50 (by decide) ?_
    refine v_iret dX5_atom_54 rfl ?_
    exact ⟨rfl, rfl⟩
  by_cases c3 : s < 300
  · have e : encS s = 2048 + (s - 200) := by
      unfold encS
      rw [if_neg (by omega), if_neg (by omega), if_neg (by omega), if_neg (by omega), if_neg (by omega), if_neg (by omega), if_neg (by omega), if_neg (by omega), if_neg (by omega), if_neg (by omega), if_neg (by omega), if_pos (by omega)]
    rw [e, show (2048 + (s - 200)) / 1024 = 2 by omega, show (2048 + (s - 200)) % 1024 = s - 200 by omega, plN, if_neg c1, if_neg c2, if_neg (by omega), plF_any (by omega)]
    refine v_tableIn 55 dX5_atom_1 (by decide) (by decide) rfl (by decide) ?_
    refine v_aload_n dX5_atom_55 rfl ?_
    refine v_iload_n dX5_atom_56 rfl ?_
    refine v_cV [_] (c5_someLooks G M hk0 hd0 h6 _) k5_someLooks dX5_atom_57 l5_57 (by assumption) (by decide) rfl (Nat.le_of_ble_eq_true rfl) (Nat.le_of_ble_eq_true rfl) ?_
    refine v_iret dX5_atom_60 rfl ?_
    exact ⟨rfl, rfl⟩
  obtain rfl | rfl | rfl : s = 300 ∨ s = 301 ∨ s = 302 := by omega
  · rw [show encS 300 / 1024 = 3 from rfl, show encS 300 % 1024 = 0 from rfl, show plN nm f num 300 = plF f 300 nm from rfl]
    refine v_tableIn 61 dX5_atom_1 (by decide) (by decide) rfl (by decide) ?_
    refine v_aload_n dX5_atom_61 rfl ?_
    refine v_cV [] (c5_sumOfLooks G M hk0 hd0 h6) k5_sumOfLooks dX5_atom_62 l5_61 (by assumption) (by decide) rfl (Nat.le_of_ble_eq_true rfl) (Nat.le_of_ble_eq_true rfl) ?_
    refine v_iret dX5_atom_65 rfl ?_
    exact ⟨rfl, rfl⟩
  · rw [show encS 301 / 1024 = 4 from rfl, show encS 301 % 1024 = 0 from rfl, show plN nm f num 301 = plF f 301 nm from rfl]
    refine v_tableIn 66 dX5_atom_1 (by decide) (by decide) rfl (by decide) ?_
    refine v_aload_n dX5_atom_66 rfl ?_
    refine v_cV [] (c5_pairsAlike G M hk0 hd0 h6 h1) k5_pairsAlike dX5_atom_67 l5_65 (by assumption) (by decide) rfl (Nat.le_of_ble_eq_true rfl) (Nat.le_of_ble_eq_true rfl) ?_
    refine v_iret dX5_atom_70 rfl ?_
    exact ⟨rfl, rfl⟩
  · rw [show encS 302 / 1024 = 5 from rfl, show encS 302 % 1024 = 0 from rfl, show plN nm f num 302 = num from rfl]
    refine v_tableOut 71 dX5_atom_1 (by decide) (by decide) ?_
    refine v_aload_n dX5_atom_71 rfl ?_
    refine v_getI 5 3 dX5_atom_72 f5_31 (by assumption) (by decide) ?_
    rw [d2]
    refine v_iret dX5_atom_75 rfl ?_
    exact ⟨rfl, rfl⟩
theorem c5_kept (v : Int64) : Ct G Y5_kept 0 0 0 [.long v] M (Rv (some (.int (bd v))) M) NX := by
  have e1 : (1000000 : Int64).toInt32 = 1000000 := by decide
  have e2 : (-1000000 : Int64).toInt32 = -1000000 := by decide
  refine Ct.of k5_kept.1 (Nat.le_of_ble_eq_true rfl) ?_
  have f1 : (1000000 : Int64) < v → bd v = 1000000 := by
    intro h
    unfold bd
    rw [if_neg (fun z => Int64.lt_irrefl (Int64.lt_trans h z)), if_pos (by decide), e1]
  have f2 : ¬ (1000000 : Int64) < v → v < -1000000 → bd v = -1000000 := by
    intro h h2
    unfold bd
    have h3 : v < 1000000 := Int64.lt_trans h2 (by decide)
    rw [if_pos h3, if_neg (fun z => Int64.lt_irrefl (Int64.lt_trans h2 z)), e2]
  have f3 : ¬ (1000000 : Int64) < v → ¬ v < -1000000 → bd v = v.toInt32 := by
    intro h h2
    unfold bd
    by_cases h3 : v < 1000000
    · rw [if_pos h3]
      by_cases h4 : (-1000000 : Int64) < v
      · rw [if_pos h4]
      · rw [if_neg h4, Int64.le_antisymm (Int64.not_lt.mp h4) (Int64.not_lt.mp h2)]
    · rw [if_neg h3, if_pos (by decide), Int64.le_antisymm (Int64.not_lt.mp h) (Int64.not_lt.mp h3)]
  refine v_lload_n dX5_kept_0 rfl ?_
  refine v_ldc2 1000000 dX5_kept_1 K5_72 ?_
  refine v_lcmp dX5_kept_4 ?_
  refine v_if_le 13 dX5_kept_5 (by decide) (fun h5 => ?_) (fun h5 => ?_)
  · refine v_lload_n dX5_kept_13 rfl ?_
    refine v_ldc2 (-1000000) dX5_kept_14 K5_75 ?_
    refine v_lcmp dX5_kept_17 ?_
    refine v_if_ge 26 dX5_kept_18 (by decide) (fun h18 => ?_) (fun h18 => ?_)
    · refine v_lload_n dX5_kept_26 rfl ?_
      refine v_l2i dX5_kept_27 ?_
      refine v_iret dX5_kept_28 rfl ?_
      first | exact ⟨by rw [f1 (Int64.not_le.mp (fun z => h5 (lg_le.mpr z)))], rfl⟩ | exact ⟨by rw [f2 (Int64.not_lt.mpr (lg_le.mp h5)) (lg_lt.mp (Int32.not_le.mp h18))], rfl⟩ | exact ⟨by rw [f3 (Int64.not_lt.mpr (lg_le.mp h5)) (fun z => absurd (lg_lt.mpr z) (Int32.not_lt.mpr h18))], rfl⟩
    · refine v_ldc (-1000000) dX5_kept_21 K5_77 ?_
      refine v_goto 28 dX5_kept_23 (by decide) ?_
      refine v_iret dX5_kept_28 rfl ?_
      first | exact ⟨by rw [f1 (Int64.not_le.mp (fun z => h5 (lg_le.mpr z)))], rfl⟩ | exact ⟨by rw [f2 (Int64.not_lt.mpr (lg_le.mp h5)) (lg_lt.mp (Int32.not_le.mp h18))], rfl⟩ | exact ⟨by rw [f3 (Int64.not_lt.mpr (lg_le.mp h5)) (fun z => absurd (lg_lt.mpr z) (Int32.not_lt.mpr h18))], rfl⟩
  · refine v_ldc 1000000 dX5_kept_8 K5_74 ?_
    refine v_goto 28 dX5_kept_10 (by decide) ?_
    refine v_iret dX5_kept_28 rfl ?_
    first | exact ⟨by rw [f1 (Int64.not_le.mp (fun z => h5 (lg_le.mpr z)))], rfl⟩ | exact ⟨by rw [f2 (Int64.not_lt.mpr (lg_le.mp h5)) (lg_lt.mp (Int32.not_le.mp h18))], rfl⟩ | exact ⟨by rw [f3 (Int64.not_lt.mpr (lg_le.mp h5)) (fun z => absurd (lg_lt.mpr z) (Int32.not_lt.mpr h18))], rfl⟩
end C5
