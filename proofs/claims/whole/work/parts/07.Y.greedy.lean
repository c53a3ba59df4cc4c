/-! ===== the reference: greedy ===== -/
theorem nI_dif {a b : Nat} (ha : a < 2 ^ 30) (hb : b < 2 ^ 30) : (nI a - nI b < 0 ↔ a < b) ∧ (nI a - nI b = 0 ↔ a = b) := by
  have h := pk_sub_toInt ha hb
  have z : (0 : Int32).toInt = 0 := by decide
  constructor
  · rw [Int32.lt_iff_toInt_lt, h, z]; omega
  · rw [← Int32.toInt_inj, h, z]; omega
def fitK (K : Nat → Int32) (d : Nat) : Nat := fitN (kn K 2) (kn K 93) (trH K) d
def grT (K : Nat → Int32) (c d w : Nat) : Nat := d ||| dsc K c (2 ^ w)
def grF (K : Nat → Int32) (c d : Nat) : Nat → Option Nat
  | 0 => none
  | w + 1 => match grF K c d w with
    | none => if pcn (fitK K (grT K c d w)) < pcn (fitK K d) then some (grT K c d w) else none
    | some b => if pcn (fitK K (grT K c d w)) < pcn (fitK K b) ∨ (pcn (fitK K (grT K c d w)) = pcn (fitK K b) ∧ costN K (grT K c d w) < costN K b) then some (grT K c d w) else some b
def grO (K : Nat → Int32) (c : Nat) : Nat → Nat → Int32
  | 0, _ => -1
  | f + 1, d => if fitK K d = 2 ^ c then nI d else match grF K c d (kn K 3) with
    | none => -1
    | some b => grO K c f b
theorem grT_lt {K : Nat → Int32} (c : Nat) {d w : Nat} (hd : d < 1048576) (hw : w < 10) : grT K c d w < 1048576 := Nat.or_lt_two_pow (n := 20) hd (dsc_lt K c (show 2 ^ w < 2 ^ 10 from Nat.pow_lt_pow_right (by omega) hw))
theorem grF_ok {K : Nat → Int32} {c d : Nat} (hd : d < 1048576) : ∀ w b, w ≤ 10 → grF K c d w = some b → b < 1048576 ∧ pcn (fitK K b) < pcn (fitK K d) := by
  intro w
  induction w with
  | zero => intro b _ h; cases h
  | succ w ih =>
    intro b hw h
    simp only [grF] at h
    split at h
    · split at h
      · cases h; exact ⟨grT_lt c hd (by omega), by assumption⟩
      · cases h
    · rename_i b0 hb0
      have i0 := ih b0 (by omega) hb0
      split at h
      · cases h; exact ⟨grT_lt c hd (by omega), by omega⟩
      · cases h; exact i0
theorem gr_0t {K : Nat → Int32} {c d w : Nat} (h : grF K c d w = none) (h2 : pcn (fitK K (grT K c d w)) < pcn (fitK K d)) : grF K c d (w + 1) = some (grT K c d w) := by
  simp only [grF, h]; exact if_pos h2
theorem gr_0f {K : Nat → Int32} {c d w : Nat} (h : grF K c d w = none) (h2 : ¬ pcn (fitK K (grT K c d w)) < pcn (fitK K d)) : grF K c d (w + 1) = none := by
  simp only [grF, h]; exact if_neg h2
theorem gr_1t {K : Nat → Int32} {c d w b : Nat} (h : grF K c d w = some b) (h2 : pcn (fitK K (grT K c d w)) < pcn (fitK K b) ∨ (pcn (fitK K (grT K c d w)) = pcn (fitK K b) ∧ costN K (grT K c d w) < costN K b)) : grF K c d (w + 1) = some (grT K c d w) := by
  simp only [grF, h]; exact if_pos h2
theorem gr_1f {K : Nat → Int32} {c d w b : Nat} (h : grF K c d w = some b) (h2 : ¬ (pcn (fitK K (grT K c d w)) < pcn (fitK K b) ∨ (pcn (fitK K (grT K c d w)) = pcn (fitK K b) ∧ costN K (grT K c d w) < costN K b))) : grF K c d (w + 1) = some b := by
  simp only [grF, h]; exact if_neg h2
section RY
variable (G : mG) (M : mM)
theorem l12_greedy1 (hS : Sh M) (hP : WP (gI M 231)) (hI : inOK (gI M 231)) (hU : usOK (gI M 231)) (hH : HH M (gI M 231)) {c d : Nat} (hc : c < kn (gI M 231) 2) (hd : d < 1048576) {Q : Option Value → mM → Prop}
    (kk : ∀ o5 o6, V G Y12_greedy 7 0 0 Q NX 141 [some (.ref 230), some (.int (nI c)), some (.int (nI d)), some (.int (encO (grF (gI M 231) c d (kn (gI M 231) 3)))), some (.int (nI (kn (gI M 231) 3))), o5, o6] [] M) : ∀ i w (o5 o6 : Option Value), w + i = kn (gI M 231) 3 → V G Y12_greedy 7 0 0 Q NX 44 [some (.ref 230), some (.int (nI c)), some (.int (nI d)), some (.int (encO (grF (gI M 231) c d w))), some (.int (nI w)), o5, o6] [] M := by
  have h10 := hP.2.2.1.2
  have h14 := hP.2.1.2
  intro i
  induction i with
  | zero =>
    intro w o5 o6 hw
    obtain rfl : w = kn (gI M 231) 3 := by omega
    refine v_iload dX12_greedy_44 rfl ?_
    refine v_aload_n dX12_greedy_46 rfl ?_
    refine v_cV [] (c12_wordsN G M hS hP) k12_words dX12_greedy_47 l12_242 (by first | exact hS.1 _ _ rfl | exact hS'.1 _ _ rfl | assumption) (by decide) rfl (Nat.le_of_ble_eq_true rfl) (Nat.le_of_ble_eq_true rfl) ?_
    refine v_icmp_ge 141 dX12_greedy_50 (by decide) (fun h50 => ?_) (fun h50 => absurd (nI_le (Nat.le_refl _) (by omega)) h50)
    exact kk _ _
  | succ i ih =>
    intro w o5 o6 hw
    have hn := fun o5 o6 => ih (w + 1) o5 o6 (by omega)
    have hw2 : 2 ^ w < 1024 := show 2 ^ w < 2 ^ 10 from Nat.pow_lt_pow_right (by omega) (by omega)
    have ht := grT_lt (K := gI M 231) c hd (show w < 10 by omega)
    have et : nI d ||| nI ((2 ^ w &&& trH (gI M 231) c) ||| dif (2 ^ w) (trH (gI M 231) c) * 1024) = nI (grT (gI M 231) c d w) := nIor _ _
    have f1 := fitN_lt (I := kn (gI M 231) 93) h14 (trH (gI M 231)) (grT (gI M 231) c d w)
    have f2 := fitN_lt (I := kn (gI M 231) 93) h14 (trH (gI M 231)) d
    have p1 := pcn_le (fitK (gI M 231) (grT (gI M 231) c d w))
    have p2 := pcn_le (fitK (gI M 231) d)
    have c1 := costN_le hP (grT (gI M 231) c d w)
    have d1 := nI_dif (a := pcn (fitK (gI M 231) (grT (gI M 231) c d w))) (b := pcn (fitK (gI M 231) d)) (by omega) (by omega)
    cases hb : grF (gI M 231) c d w with
    | none =>
      rw [show encO none = (-1 : Int32) from rfl]
      refine v_iload dX12_greedy_44 rfl ?_
      refine v_aload_n dX12_greedy_46 rfl ?_
      refine v_cV [] (c12_wordsN G M hS hP) k12_words dX12_greedy_47 l12_242 (by first | exact hS.1 _ _ rfl | exact hS'.1 _ _ rfl | assumption) (by decide) rfl (Nat.le_of_ble_eq_true rfl) (Nat.le_of_ble_eq_true rfl) ?_
      refine v_icmp_ge 141 dX12_greedy_50 (by decide) (fun h50 => absurd ((nI_leI (by omega) (by omega)).mp h50) (by omega)) (fun h50 => ?_)
      refine v_iload_n dX12_greedy_53 rfl ?_
      refine v_aload_n dX12_greedy_54 rfl ?_
      refine v_iload_n dX12_greedy_55 rfl ?_
      refine v_iconst 1 dX12_greedy_56 (by decide) ?_
      refine v_iload dX12_greedy_57 rfl ?_
      refine v_ishl dX12_greedy_59 ?_
      rw [shl1 (by omega)]
      refine v_cV [_, _] (c12_described G M hS hP hH hc hw2) k12_described dX12_greedy_60 l12_343 (by first | exact hS.1 _ _ rfl | exact hS'.1 _ _ rfl | assumption) (by decide) rfl (Nat.le_of_ble_eq_true rfl) (Nat.le_of_ble_eq_true rfl) ?_
      refine v_ior dX12_greedy_63 ?_
      rw [et]
      refine v_istore dX12_greedy_64 rfl (by decide) ?_
      refine v_aload_n dX12_greedy_66 rfl ?_
      refine v_iload dX12_greedy_67 rfl ?_
      refine v_aload_n dX12_greedy_69 rfl ?_
      refine v_getR 12 20 _ dX12_greedy_70 f12_36 (by first | exact hS.1 _ _ rfl | exact hS'.1 _ _ rfl | assumption) (by decide) (by first | exact hS.2 _ _ _ rfl | exact hS'.2 _ _ _ rfl | assumption) ?_
      refine v_cV [_, _] (c12_fitsOf G M hS hP hI (hS.1 238 _ rfl) (hH.hold hP) ht) k12_fitsOf dX12_greedy_73 l12_326 (by first | exact hS.1 _ _ rfl | exact hS'.1 _ _ rfl | assumption) (by decide) rfl (Nat.le_of_ble_eq_true rfl) (Nat.le_of_ble_eq_true rfl) ?_
      refine v_cS [_] (c12_size G M f1) k12_size dX12_greedy_76 l12_330 rfl (Nat.le_of_ble_eq_true rfl) (Nat.le_of_ble_eq_true rfl) ?_
      refine v_aload_n dX12_greedy_79 rfl ?_
      refine v_iload_n dX12_greedy_80 rfl ?_
      refine v_iconst (-1) dX12_greedy_81 (by decide) ?_
      refine v_icmp_ne 89 dX12_greedy_82 (by decide) (fun h82 => absurd rfl h82) (fun h82 => ?_)
      refine v_iload_n dX12_greedy_85 rfl ?_
      refine v_goto 90 dX12_greedy_86 (by decide) ?_
      refine v_aload_n dX12_greedy_90 rfl ?_
      refine v_getR 12 20 _ dX12_greedy_91 f12_36 (by first | exact hS.1 _ _ rfl | exact hS'.1 _ _ rfl | assumption) (by decide) (by first | exact hS.2 _ _ _ rfl | exact hS'.2 _ _ _ rfl | assumption) ?_
      refine v_cV [_, _] (c12_fitsOf G M hS hP hI (hS.1 238 _ rfl) (hH.hold hP) hd) k12_fitsOf dX12_greedy_94 l12_326 (by first | exact hS.1 _ _ rfl | exact hS'.1 _ _ rfl | assumption) (by decide) rfl (Nat.le_of_ble_eq_true rfl) (Nat.le_of_ble_eq_true rfl) ?_
      refine v_cS [_] (c12_size G M f2) k12_size dX12_greedy_97 l12_330 rfl (Nat.le_of_ble_eq_true rfl) (Nat.le_of_ble_eq_true rfl) ?_
      refine v_isub dX12_greedy_100 ?_
      refine v_istore dX12_greedy_101 rfl (by decide) ?_
      refine v_iload dX12_greedy_103 rfl ?_
      refine v_if_lt 132 dX12_greedy_105 (by decide) (fun h105 => ?_) (fun h105 => ?_)
      · refine v_iload dX12_greedy_132 rfl ?_
        refine v_istore_n dX12_greedy_134 rfl (by decide) ?_
        refine v_iinc 1 dX12_greedy_135 rfl (by decide) rfl (by decide) ?_
        refine v_goto 44 dX12_greedy_138 (by decide) ?_
        (rw [nI_1]; first | (rw [gr_0t hb (d1.1.mp h105)] at hn; exact hn _ _) | (rw [gr_0f hb (fun z => h105 (d1.1.mpr z))] at hn; exact hn _ _))
      · refine v_iload dX12_greedy_108 rfl ?_
        refine v_if_ne 135 dX12_greedy_110 (by decide) (fun h110 => ?_) (fun h110 => ?_)
        · refine v_iinc 1 dX12_greedy_135 rfl (by decide) rfl (by decide) ?_
          refine v_goto 44 dX12_greedy_138 (by decide) ?_
          (rw [nI_1]; first | (rw [gr_0t hb (d1.1.mp h105)] at hn; exact hn _ _) | (rw [gr_0f hb (fun z => h105 (d1.1.mpr z))] at hn; exact hn _ _))
        · refine v_iload_n dX12_greedy_113 rfl ?_
          refine v_iconst (-1) dX12_greedy_114 (by decide) ?_
          refine v_icmp_eq 135 dX12_greedy_115 (by decide) (fun h115 => ?_) (fun h115 => absurd rfl h115)
          refine v_iinc 1 dX12_greedy_135 rfl (by decide) rfl (by decide) ?_
          refine v_goto 44 dX12_greedy_138 (by decide) ?_
          (rw [nI_1]; first | (rw [gr_0t hb (d1.1.mp h105)] at hn; exact hn _ _) | (rw [gr_0f hb (fun z => h105 (d1.1.mpr z))] at hn; exact hn _ _))
    | some b =>
      have hbo := grF_ok hd w b (by omega) hb
      have f3 := fitN_lt (I := kn (gI M 231) 93) h14 (trH (gI M 231)) b
      have p3 := pcn_le (fitK (gI M 231) b)
      have c3 := costN_le hP b
      have d2 := nI_dif (a := pcn (fitK (gI M 231) (grT (gI M 231) c d w))) (b := pcn (fitK (gI M 231) b)) (by omega) (by omega)
      rw [show encO (some b) = nI b from rfl]
      refine v_iload dX12_greedy_44 rfl ?_
      refine v_aload_n dX12_greedy_46 rfl ?_
      refine v_cV [] (c12_wordsN G M hS hP) k12_words dX12_greedy_47 l12_242 (by first | exact hS.1 _ _ rfl | exact hS'.1 _ _ rfl | assumption) (by decide) rfl (Nat.le_of_ble_eq_true rfl) (Nat.le_of_ble_eq_true rfl) ?_
      refine v_icmp_ge 141 dX12_greedy_50 (by decide) (fun h50 => absurd ((nI_leI (by omega) (by omega)).mp h50) (by omega)) (fun h50 => ?_)
      refine v_iload_n dX12_greedy_53 rfl ?_
      refine v_aload_n dX12_greedy_54 rfl ?_
      refine v_iload_n dX12_greedy_55 rfl ?_
      refine v_iconst 1 dX12_greedy_56 (by decide) ?_
      refine v_iload dX12_greedy_57 rfl ?_
      refine v_ishl dX12_greedy_59 ?_
      rw [shl1 (by omega)]
      refine v_cV [_, _] (c12_described G M hS hP hH hc hw2) k12_described dX12_greedy_60 l12_343 (by first | exact hS.1 _ _ rfl | exact hS'.1 _ _ rfl | assumption) (by decide) rfl (Nat.le_of_ble_eq_true rfl) (Nat.le_of_ble_eq_true rfl) ?_
      refine v_ior dX12_greedy_63 ?_
      rw [et]
      refine v_istore dX12_greedy_64 rfl (by decide) ?_
      refine v_aload_n dX12_greedy_66 rfl ?_
      refine v_iload dX12_greedy_67 rfl ?_
      refine v_aload_n dX12_greedy_69 rfl ?_
      refine v_getR 12 20 _ dX12_greedy_70 f12_36 (by first | exact hS.1 _ _ rfl | exact hS'.1 _ _ rfl | assumption) (by decide) (by first | exact hS.2 _ _ _ rfl | exact hS'.2 _ _ _ rfl | assumption) ?_
      refine v_cV [_, _] (c12_fitsOf G M hS hP hI (hS.1 238 _ rfl) (hH.hold hP) ht) k12_fitsOf dX12_greedy_73 l12_326 (by first | exact hS.1 _ _ rfl | exact hS'.1 _ _ rfl | assumption) (by decide) rfl (Nat.le_of_ble_eq_true rfl) (Nat.le_of_ble_eq_true rfl) ?_
      refine v_cS [_] (c12_size G M f1) k12_size dX12_greedy_76 l12_330 rfl (Nat.le_of_ble_eq_true rfl) (Nat.le_of_ble_eq_true rfl) ?_
      refine v_aload_n dX12_greedy_79 rfl ?_
      refine v_iload_n dX12_greedy_80 rfl ?_
      refine v_iconst (-1) dX12_greedy_81 (by decide) ?_
      refine v_icmp_ne 89 dX12_greedy_82 (by decide) (fun h82 => ?_) (fun h82 => absurd (Decidable.not_not.mp h82) (nI_m1 (by omega)))
      refine v_iload_n dX12_greedy_89 rfl ?_
      refine v_aload_n dX12_greedy_90 rfl ?_
      refine v_getR 12 20 _ dX12_greedy_91 f12_36 (by first | exact hS.1 _ _ rfl | exact hS'.1 _ _ rfl | assumption) (by decide) (by first | exact hS.2 _ _ _ rfl | exact hS'.2 _ _ _ rfl | assumption) ?_
      refine v_cV [_, _] (c12_fitsOf G M hS hP hI (hS.1 238 _ rfl) (hH.hold hP) hbo.1) k12_fitsOf dX12_greedy_94 l12_326 (by first | exact hS.1 _ _ rfl | exact hS'.1 _ _ rfl | assumption) (by decide) rfl (Nat.le_of_ble_eq_true rfl) (Nat.le_of_ble_eq_true rfl) ?_
      refine v_cS [_] (c12_size G M f3) k12_size dX12_greedy_97 l12_330 rfl (Nat.le_of_ble_eq_true rfl) (Nat.le_of_ble_eq_true rfl) ?_
      refine v_isub dX12_greedy_100 ?_
      refine v_istore dX12_greedy_101 rfl (by decide) ?_
      refine v_iload dX12_greedy_103 rfl ?_
      refine v_if_lt 132 dX12_greedy_105 (by decide) (fun h105 => ?_) (fun h105 => ?_)
      · refine v_iload dX12_greedy_132 rfl ?_
        refine v_istore_n dX12_greedy_134 rfl (by decide) ?_
        refine v_iinc 1 dX12_greedy_135 rfl (by decide) rfl (by decide) ?_
        refine v_goto 44 dX12_greedy_138 (by decide) ?_
        (rw [nI_1]; first | (rw [gr_1t hb (Or.inl (d2.1.mp h105))] at hn; exact hn _ _) | (rw [gr_1t hb (Or.inr ⟨d2.2.mp (Decidable.not_not.mp h110), Nat.not_le.mp (fun z => h129 (nI_le z (by omega)))⟩)] at hn; exact hn _ _) | (rw [gr_1f hb (fun z => z.elim (fun y => h105 (d2.1.mpr y)) (fun y => h110 (d2.2.mpr y.1)))] at hn; exact hn _ _) | (rw [gr_1f hb (fun z => z.elim (fun y => h105 (d2.1.mpr y)) (fun y => absurd ((nI_leI (by omega) (by omega)).mp h129) (Nat.not_le.mpr y.2)))] at hn; exact hn _ _))
      · refine v_iload dX12_greedy_108 rfl ?_
        refine v_if_ne 135 dX12_greedy_110 (by decide) (fun h110 => ?_) (fun h110 => ?_)
        · refine v_iinc 1 dX12_greedy_135 rfl (by decide) rfl (by decide) ?_
          refine v_goto 44 dX12_greedy_138 (by decide) ?_
          (rw [nI_1]; first | (rw [gr_1t hb (Or.inl (d2.1.mp h105))] at hn; exact hn _ _) | (rw [gr_1t hb (Or.inr ⟨d2.2.mp (Decidable.not_not.mp h110), Nat.not_le.mp (fun z => h129 (nI_le z (by omega)))⟩)] at hn; exact hn _ _) | (rw [gr_1f hb (fun z => z.elim (fun y => h105 (d2.1.mpr y)) (fun y => h110 (d2.2.mpr y.1)))] at hn; exact hn _ _) | (rw [gr_1f hb (fun z => z.elim (fun y => h105 (d2.1.mpr y)) (fun y => absurd ((nI_leI (by omega) (by omega)).mp h129) (Nat.not_le.mpr y.2)))] at hn; exact hn _ _))
        · refine v_iload_n dX12_greedy_113 rfl ?_
          refine v_iconst (-1) dX12_greedy_114 (by decide) ?_
          refine v_icmp_eq 135 dX12_greedy_115 (by decide) (fun h115 => absurd h115 (nI_m1 (by omega))) (fun h115 => ?_)
          refine v_aload_n dX12_greedy_118 rfl ?_
          refine v_iload dX12_greedy_119 rfl ?_
          refine v_cV [_] (c12_costOf G M hS hP hU ht) k12_costOf dX12_greedy_121 l12_339 (by first | exact hS.1 _ _ rfl | exact hS'.1 _ _ rfl | assumption) (by decide) rfl (Nat.le_of_ble_eq_true rfl) (Nat.le_of_ble_eq_true rfl) ?_
          refine v_aload_n dX12_greedy_124 rfl ?_
          refine v_iload_n dX12_greedy_125 rfl ?_
          refine v_cV [_] (c12_costOf G M hS hP hU hbo.1) k12_costOf dX12_greedy_126 l12_339 (by first | exact hS.1 _ _ rfl | exact hS'.1 _ _ rfl | assumption) (by decide) rfl (Nat.le_of_ble_eq_true rfl) (Nat.le_of_ble_eq_true rfl) ?_
          refine v_icmp_ge 135 dX12_greedy_129 (by decide) (fun h129 => ?_) (fun h129 => ?_)
          · refine v_iinc 1 dX12_greedy_135 rfl (by decide) rfl (by decide) ?_
            refine v_goto 44 dX12_greedy_138 (by decide) ?_
            (rw [nI_1]; first | (rw [gr_1t hb (Or.inl (d2.1.mp h105))] at hn; exact hn _ _) | (rw [gr_1t hb (Or.inr ⟨d2.2.mp (Decidable.not_not.mp h110), Nat.not_le.mp (fun z => h129 (nI_le z (by omega)))⟩)] at hn; exact hn _ _) | (rw [gr_1f hb (fun z => z.elim (fun y => h105 (d2.1.mpr y)) (fun y => h110 (d2.2.mpr y.1)))] at hn; exact hn _ _) | (rw [gr_1f hb (fun z => z.elim (fun y => h105 (d2.1.mpr y)) (fun y => absurd ((nI_leI (by omega) (by omega)).mp h129) (Nat.not_le.mpr y.2)))] at hn; exact hn _ _))
          · refine v_iload dX12_greedy_132 rfl ?_
            refine v_istore_n dX12_greedy_134 rfl (by decide) ?_
            refine v_iinc 1 dX12_greedy_135 rfl (by decide) rfl (by decide) ?_
            refine v_goto 44 dX12_greedy_138 (by decide) ?_
            (rw [nI_1]; first | (rw [gr_1t hb (Or.inl (d2.1.mp h105))] at hn; exact hn _ _) | (rw [gr_1t hb (Or.inr ⟨d2.2.mp (Decidable.not_not.mp h110), Nat.not_le.mp (fun z => h129 (nI_le z (by omega)))⟩)] at hn; exact hn _ _) | (rw [gr_1f hb (fun z => z.elim (fun y => h105 (d2.1.mpr y)) (fun y => h110 (d2.2.mpr y.1)))] at hn; exact hn _ _) | (rw [gr_1f hb (fun z => z.elim (fun y => h105 (d2.1.mpr y)) (fun y => absurd ((nI_leI (by omega) (by omega)).mp h129) (Nat.not_le.mpr y.2)))] at hn; exact hn _ _))
theorem l12_greedy (hS : Sh M) (hP : WP (gI M 231)) (hI : inOK (gI M 231)) (hU : usOK (gI M 231)) (hH : HH M (gI M 231)) {c : Nat} (hc : c < kn (gI M 231) 2) : ∀ f d (o3 o4 o5 o6 : Option Value), d < 1048576 → pcn (fitK (gI M 231) d) < f → V G Y12_greedy 7 0 0 (Rv (some (.int (grO (gI M 231) c f d))) M) NX 24 [some (.ref 230), some (.int (nI c)), some (.int (nI d)), o3, o4, o5, o6] [] M := by
  have h10 := hP.2.2.1.2
  have h14 := hP.2.1.2
  intro f
  induction f with
  | zero => intro d o3 o4 o5 o6 hd h; omega
  | succ f ih =>
    intro d o3 o4 o5 o6 hd h
    have f2 := fitN_lt (I := kn (gI M 231) 93) h14 (trH (gI M 231)) d
    have c2 := two_pow_lt (c := c) (by omega)
    by_cases he : fitN (kn (gI M 231) 2) (kn (gI M 231) 93) (trH (gI M 231)) d = 2 ^ c
    · rw [grO, if_pos (show fitK (gI M 231) d = 2 ^ c from he)]
      refine v_aload_n dX12_greedy_24 rfl ?_
      refine v_iload_n dX12_greedy_25 rfl ?_
      refine v_aload_n dX12_greedy_26 rfl ?_
      refine v_getR 12 20 _ dX12_greedy_27 f12_36 (by first | exact hS.1 _ _ rfl | exact hS'.1 _ _ rfl | assumption) (by decide) (by first | exact hS.2 _ _ _ rfl | exact hS'.2 _ _ _ rfl | assumption) ?_
      refine v_cV [_, _] (c12_fitsOf G M hS hP hI (hS.1 238 _ rfl) (hH.hold hP) hd) k12_fitsOf dX12_greedy_30 l12_326 (by first | exact hS.1 _ _ rfl | exact hS'.1 _ _ rfl | assumption) (by decide) rfl (Nat.le_of_ble_eq_true rfl) (Nat.le_of_ble_eq_true rfl) ?_
      refine v_iconst 1 dX12_greedy_33 (by decide) ?_
      refine v_iload_n dX12_greedy_34 rfl ?_
      refine v_ishl dX12_greedy_35 ?_
      rw [shl1 (by omega)]
      refine v_icmp_eq 153 dX12_greedy_36 (by decide) (fun h36 => ?_) (fun h36 => absurd (by rw [he]) h36)
      refine v_iload_n dX12_greedy_153 rfl ?_
      refine v_iret dX12_greedy_154 rfl ?_
      exact ⟨rfl, rfl⟩
    · rw [grO, if_neg (show ¬ fitK (gI M 231) d = 2 ^ c from he)]
      refine v_aload_n dX12_greedy_24 rfl ?_
      refine v_iload_n dX12_greedy_25 rfl ?_
      refine v_aload_n dX12_greedy_26 rfl ?_
      refine v_getR 12 20 _ dX12_greedy_27 f12_36 (by first | exact hS.1 _ _ rfl | exact hS'.1 _ _ rfl | assumption) (by decide) (by first | exact hS.2 _ _ _ rfl | exact hS'.2 _ _ _ rfl | assumption) ?_
      refine v_cV [_, _] (c12_fitsOf G M hS hP hI (hS.1 238 _ rfl) (hH.hold hP) hd) k12_fitsOf dX12_greedy_30 l12_326 (by first | exact hS.1 _ _ rfl | exact hS'.1 _ _ rfl | assumption) (by decide) rfl (Nat.le_of_ble_eq_true rfl) (Nat.le_of_ble_eq_true rfl) ?_
      refine v_iconst 1 dX12_greedy_33 (by decide) ?_
      refine v_iload_n dX12_greedy_34 rfl ?_
      refine v_ishl dX12_greedy_35 ?_
      rw [shl1 (by omega)]
      refine v_icmp_eq 153 dX12_greedy_36 (by decide) (fun h36 => absurd ((nI_eq (by omega) (by omega)).mp h36) he) (fun h36 => ?_)
      refine v_iconst (-1) dX12_greedy_39 (by decide) ?_
      refine v_istore_n dX12_greedy_40 rfl (by decide) ?_
      refine v_iconst 0 dX12_greedy_41 (by decide) ?_
      refine v_istore dX12_greedy_42 rfl (by decide) ?_
      skip
      refine l12_greedy1 G M hS hP hI hU hH hc hd (fun o5 o6 => ?_) (kn (gI M 231) 3) 0 _ _ (by omega)
      cases hb : grF (gI M 231) c d (kn (gI M 231) 3) with
      | none =>
        refine v_iload_n dX12_greedy_141 rfl ?_
        refine v_iconst (-1) dX12_greedy_142 (by decide) ?_
        refine v_icmp_ne 148 dX12_greedy_143 (by decide) (fun h143 => absurd rfl h143) (fun h143 => ?_)
        refine v_iconst (-1) dX12_greedy_146 (by decide) ?_
        refine v_iret dX12_greedy_147 rfl ?_
        exact ⟨rfl, rfl⟩
      | some b =>
        have hbo := grF_ok hd _ b h10 hb
        rw [show encO (some b) = nI b from rfl]
        refine v_iload_n dX12_greedy_141 rfl ?_
        refine v_iconst (-1) dX12_greedy_142 (by decide) ?_
        refine v_icmp_ne 148 dX12_greedy_143 (by decide) (fun h143 => ?_) (fun h143 => absurd (Decidable.not_not.mp h143) (nI_m1 (by omega)))
        refine v_iload_n dX12_greedy_148 rfl ?_
        refine v_istore_n dX12_greedy_149 rfl (by decide) ?_
        refine v_goto 24 dX12_greedy_150 (by decide) ?_
        exact ih b _ _ _ _ hbo.1 (by omega)
theorem c12_greedy (hS : Sh M) (hQ : WQ (gI M 231)) (c : Int32) : Ct G Y12_greedy 7 0 0 [.ref 230, .int c] M (Rs (some (.int (if chF (gI M 231) c = 0 then grO (gI M 231) c.toNatClampNeg 16 0 else 0))) (Pq M (chF (gI M 231) c))) NX := by
  obtain ⟨hP, hI, hU⟩ := hQ
  refine Ct.of k12_greedy.1 (Nat.le_of_ble_eq_true rfl) ?_
  by_cases h0 : chF (gI M 231) c = 0
  · obtain ⟨j, hj, rfl, hj2, hj3⟩ := chF_ok (K := gI M 231) (c := c) (by rw [h0]; decide)
    have h14 := hP.2.1.2
    rw [h0, if_pos rfl, nI_clamp (by omega)]
    refine v_aload_n dX12_greedy_0 rfl ?_
    refine v_aload_n dX12_greedy_1 rfl ?_
    refine v_iload_n dX12_greedy_2 rfl ?_
    refine v_cV [_] (c12_chestFault G M hS hP hI _) k12_chestFault dX12_greedy_3 l12_346 (by first | exact hS.1 _ _ rfl | exact hS'.1 _ _ rfl | assumption) (by decide) rfl (Nat.le_of_ble_eq_true rfl) (Nat.le_of_ble_eq_true rfl) ?_
    rw [h0]
    refine v_putI 12 4 dX12_greedy_6 f12_68 (by first | exact hS.1 _ _ rfl | exact hS'.1 _ _ rfl | assumption) (by decide) ?_
    refine v_aload_n dX12_greedy_9 rfl ?_
    refine v_getI 12 4 dX12_greedy_10 f12_68 (by first | exact hS.1 _ _ rfl | exact hS'.1 _ _ rfl | assumption) (by decide) ?_
    rw [gI_ss]
    refine v_if_le 18 dX12_greedy_13 (by decide) (fun h13 => ?_) (fun h13 => absurd (by decide) h13)
    refine v_aload_n dX12_greedy_18 rfl ?_
    skip
    have e1 : gI (sI M 230 4 0) 231 = gI M 231 := gI_sr _ _ (by decide)
    refine v_scVv [] (c12_laysHold G (sI M 230 4 0) hS (by rw [e1]; exact hP)) k12_laysHold dX12_greedy_19 l12_306 (hS.1 _ _ rfl) (by decide) rfl (Nat.le_of_ble_eq_true rfl) (Nat.le_of_ble_eq_true rfl) (fun M2 hM2 => ?_)
    have hS' := Sh.sm (M := sI M 230 4 0) hS hM2.1
    have e2 : gI M2 231 = gI M 231 := (hM2.1.K (fun _ => rfl)).trans e1
    have hH := hM2.2
    rw [e1, ← e2] at hH
    have hpq := Pq.of hM2.1
    rw [← e2] at hP hI hU ⊢
    rw [← e2] at hj
    refine v_iconst 0 dX12_greedy_22 (by decide) ?_
    refine v_istore_n dX12_greedy_23 rfl (by decide) ?_
    -- at 24: .aload_n 0
    refine v_pad (v_pad (v_pad (v_pad ?_)))
    have hz := pcn_le (fitK (gI M2 231) 0)
    refine V.post (l12_greedy G M2 hS' hP hI hU hH hj 16 0 none none none none (by decide) (by omega)) (fun v M3 h => ⟨h.1, by rw [h.2]; exact hpq⟩) (fun _ _ h => h)
  · have hp : ¬ chF (gI M 231) c ≤ 0 := by
      unfold chF at h0 ⊢
      split
      · rename_i h1
        rw [if_pos h1] at h0
        split
        · rename_i h2; rw [if_pos h2] at h0; exact absurd rfl h0
        · decide
      · decide
    rw [if_neg h0]
    refine v_aload_n dX12_greedy_0 rfl ?_
    refine v_aload_n dX12_greedy_1 rfl ?_
    refine v_iload_n dX12_greedy_2 rfl ?_
    refine v_cV [_] (c12_chestFault G M hS hP hI c) k12_chestFault dX12_greedy_3 l12_346 (by first | exact hS.1 _ _ rfl | exact hS'.1 _ _ rfl | assumption) (by decide) rfl (Nat.le_of_ble_eq_true rfl) (Nat.le_of_ble_eq_true rfl) ?_
    refine v_putI 12 4 dX12_greedy_6 f12_68 (by first | exact hS.1 _ _ rfl | exact hS'.1 _ _ rfl | assumption) (by decide) ?_
    refine v_aload_n dX12_greedy_9 rfl ?_
    refine v_getI 12 4 dX12_greedy_10 f12_68 (by first | exact hS.1 _ _ rfl | exact hS'.1 _ _ rfl | assumption) (by decide) ?_
    rw [gI_ss]
    refine v_if_le 18 dX12_greedy_13 (by decide) (fun h13 => absurd h13 hp) (fun h13 => ?_)
    refine v_iconst 0 dX12_greedy_16 (by decide) ?_
    refine v_iret dX12_greedy_17 rfl ?_
    exact ⟨rfl, Pq.st⟩
end RY
