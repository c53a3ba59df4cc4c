/-! ===== the class: Reckoner, words ===== -/
theorem i64_lt {a b : Int32} : a.toInt64 < b.toInt64 ↔ a < b := by
  rw [Int64.lt_iff_toInt_lt, Int32.lt_iff_toInt_lt, Int32.toInt_toInt64, Int32.toInt_toInt64]
theorem i64_eq {a b : Int32} : a.toInt64 = b.toInt64 ↔ a = b := by
  rw [← Int64.toInt_inj, ← Int32.toInt_inj, Int32.toInt_toInt64, Int32.toInt_toInt64]
theorem vk_len : ∀ {t : List Bool} {s : List Int32}, vk t s → s.length = t.length := by
  intro t
  induction t with
  | nil => intro s h; cases s with
    | nil => rfl
    | cons a r => exact h.elim
  | cons b t ih => intro s h; cases s with
    | nil => exact h.elim
    | cons a r => simp [ih h.2]
/-- what an operation finds stacked -/
theorem chs_op {nm s : Nat} {t t' : List Bool} {st : List Int32} (h : chs nm s t = some t') (hv : vk t st) (hn : ¬ okPb nm s = true) (h1 : 10 ≤ s) (h2 : s ≤ 17) : ∃ a b r, st = b :: a :: r ∧ (16 ≤ s → (a = 0 ∨ a = 1) ∧ (b = 0 ∨ b = 1)) := by
  unfold chs at h
  rw [if_neg hn, if_neg (by omega)] at h
  split at h
  · split at h
    · match st, hv with
      | b :: a :: st', hv => exact ⟨a, b, st', rfl, fun _ => by omega⟩
    · cases h
  · split at h
    · split at h
      · match st, hv with
        | b :: a :: st', hv => exact ⟨a, b, st', rfl, fun _ => by omega⟩
      · cases h
    · split at h
      · split at h
        · match st, hv with
          | b :: a :: st', hv => exact ⟨a, b, st', rfl, fun _ => ⟨hv.2.1 rfl, hv.1 rfl⟩⟩
        · cases h
      · cases h
theorem opC_7 {s : Nat} (h : 10 ≤ s) (h2 : s ≤ 17) : 7 ≤ opC s := by
  obtain rfl | rfl | rfl | rfl | rfl | rfl | rfl | rfl : s = 10 ∨ s = 11 ∨ s = 12 ∨ s = 13 ∨ s = 14 ∨ s = 15 ∨ s = 16 ∨ s = 17 := by omega
  all_goals decide
section C5b
variable (G : mG) (M : mM)
theorem c5_join {s : Nat} (h1 : 10 ≤ s) (h2 : s ≤ 17) (a b : Int32) (hv : 16 ≤ s → (a = 0 ∨ a = 1) ∧ (b = 0 ∨ b = 1)) : Ct G Y5_join 1 0 0 [.int (nI (opC s)), .int a, .int b] M (Rv (some (.int (dnN s a.toInt64 b.toInt64))) M) NX := by
  refine Ct.of k5_join.1 (Nat.le_of_ble_eq_true rfl) ?_
  refine v_iload_n dX5_join_0 rfl ?_
  -- at 1: .tableswitch 102 7 13 #[43, 47, 51, 62, 73, 84, 93]
  obtain rfl | rfl | rfl | rfl | rfl | rfl | rfl | rfl : s = 10 ∨ s = 11 ∨ s = 12 ∨ s = 13 ∨ s = 14 ∨ s = 15 ∨ s = 16 ∨ s = 17 := by omega
  · refine v_tableIn 85 dX5_join_1 (by decide) (by decide) rfl (by decide) ?_
    refine v_iload_n dX5_join_85 rfl ?_
    refine v_i2l dX5_join_86 ?_
    refine v_iload_n dX5_join_87 rfl ?_
    refine v_i2l dX5_join_88 ?_
    refine v_ladd dX5_join_89 ?_
    refine v_cS [_] (c5_kept G M _) k5_kept dX5_join_90 l5_68 rfl (Nat.le_of_ble_eq_true rfl) (Nat.le_of_ble_eq_true rfl) ?_
    refine v_iret dX5_join_93 rfl ?_
    exact ⟨rfl, rfl⟩
  · refine v_tableIn 94 dX5_join_1 (by decide) (by decide) rfl (by decide) ?_
    refine v_iload_n dX5_join_94 rfl ?_
    refine v_i2l dX5_join_95 ?_
    refine v_iload_n dX5_join_96 rfl ?_
    refine v_i2l dX5_join_97 ?_
    refine v_lsub dX5_join_98 ?_
    refine v_cS [_] (c5_kept G M _) k5_kept dX5_join_99 l5_68 rfl (Nat.le_of_ble_eq_true rfl) (Nat.le_of_ble_eq_true rfl) ?_
    refine v_iret dX5_join_102 rfl ?_
    exact ⟨rfl, rfl⟩
  · refine v_tableOut 103 dX5_join_1 (by decide) (by decide) ?_
    refine v_iload_n dX5_join_103 rfl ?_
    refine v_i2l dX5_join_104 ?_
    refine v_iload_n dX5_join_105 rfl ?_
    refine v_i2l dX5_join_106 ?_
    refine v_lmul dX5_join_107 ?_
    refine v_cS [_] (c5_kept G M _) k5_kept dX5_join_108 l5_68 rfl (Nat.le_of_ble_eq_true rfl) (Nat.le_of_ble_eq_true rfl) ?_
    refine v_iret dX5_join_111 rfl ?_
    exact ⟨rfl, rfl⟩
  · refine v_tableIn 52 dX5_join_1 (by decide) (by decide) rfl (by decide) ?_
    refine v_iload_n dX5_join_52 rfl ?_
    refine v_iload_n dX5_join_53 rfl ?_
    refine v_icmp_ne 61 dX5_join_54 (by decide) (fun h54 => ?_) (fun h54 => ?_)
    · refine v_iconst 0 dX5_join_61 (by decide) ?_
      refine v_iret dX5_join_62 rfl ?_
      first | exact ⟨by rw [show dnN 13 a.toInt64 b.toInt64 = bI (a.toInt64 = b.toInt64) from rfl, bI_f (fun z => h54 (i64_eq.mp z))], rfl⟩ | exact ⟨by rw [show dnN 13 a.toInt64 b.toInt64 = bI (a.toInt64 = b.toInt64) from rfl, bI_t (i64_eq.mpr (Decidable.not_not.mp h54))], rfl⟩
    · refine v_iconst 1 dX5_join_57 (by decide) ?_
      refine v_goto 62 dX5_join_58 (by decide) ?_
      refine v_iret dX5_join_62 rfl ?_
      first | exact ⟨by rw [show dnN 13 a.toInt64 b.toInt64 = bI (a.toInt64 = b.toInt64) from rfl, bI_f (fun z => h54 (i64_eq.mp z))], rfl⟩ | exact ⟨by rw [show dnN 13 a.toInt64 b.toInt64 = bI (a.toInt64 = b.toInt64) from rfl, bI_t (i64_eq.mpr (Decidable.not_not.mp h54))], rfl⟩
  · refine v_tableIn 63 dX5_join_1 (by decide) (by decide) rfl (by decide) ?_
    refine v_iload_n dX5_join_63 rfl ?_
    refine v_iload_n dX5_join_64 rfl ?_
    refine v_icmp_ge 72 dX5_join_65 (by decide) (fun h65 => ?_) (fun h65 => ?_)
    · refine v_iconst 0 dX5_join_72 (by decide) ?_
      refine v_iret dX5_join_73 rfl ?_
      first | exact ⟨by rw [show dnN 14 a.toInt64 b.toInt64 = bI (a.toInt64 < b.toInt64) from rfl, bI_f (fun z => absurd (i64_lt.mp z) (Int32.not_lt.mpr h65))], rfl⟩ | exact ⟨by rw [show dnN 14 a.toInt64 b.toInt64 = bI (a.toInt64 < b.toInt64) from rfl, bI_t (i64_lt.mpr (Int32.not_le.mp h65))], rfl⟩
    · refine v_iconst 1 dX5_join_68 (by decide) ?_
      refine v_goto 73 dX5_join_69 (by decide) ?_
      refine v_iret dX5_join_73 rfl ?_
      first | exact ⟨by rw [show dnN 14 a.toInt64 b.toInt64 = bI (a.toInt64 < b.toInt64) from rfl, bI_f (fun z => absurd (i64_lt.mp z) (Int32.not_lt.mpr h65))], rfl⟩ | exact ⟨by rw [show dnN 14 a.toInt64 b.toInt64 = bI (a.toInt64 < b.toInt64) from rfl, bI_t (i64_lt.mpr (Int32.not_le.mp h65))], rfl⟩
  · refine v_tableIn 74 dX5_join_1 (by decide) (by decide) rfl (by decide) ?_
    refine v_iload_n dX5_join_74 rfl ?_
    refine v_iload_n dX5_join_75 rfl ?_
    refine v_icmp_le 83 dX5_join_76 (by decide) (fun h76 => ?_) (fun h76 => ?_)
    · refine v_iconst 0 dX5_join_83 (by decide) ?_
      refine v_iret dX5_join_84 rfl ?_
      first | exact ⟨by rw [show dnN 15 a.toInt64 b.toInt64 = bI (b.toInt64 < a.toInt64) from rfl, bI_f (fun z => absurd (i64_lt.mp z) (Int32.not_lt.mpr h76))], rfl⟩ | exact ⟨by rw [show dnN 15 a.toInt64 b.toInt64 = bI (b.toInt64 < a.toInt64) from rfl, bI_t (i64_lt.mpr (Int32.not_le.mp h76))], rfl⟩
    · refine v_iconst 1 dX5_join_79 (by decide) ?_
      refine v_goto 84 dX5_join_80 (by decide) ?_
      refine v_iret dX5_join_84 rfl ?_
      first | exact ⟨by rw [show dnN 15 a.toInt64 b.toInt64 = bI (b.toInt64 < a.toInt64) from rfl, bI_f (fun z => absurd (i64_lt.mp z) (Int32.not_lt.mpr h76))], rfl⟩ | exact ⟨by rw [show dnN 15 a.toInt64 b.toInt64 = bI (b.toInt64 < a.toInt64) from rfl, bI_t (i64_lt.mpr (Int32.not_le.mp h76))], rfl⟩
  · refine v_tableIn 44 dX5_join_1 (by decide) (by decide) rfl (by decide) ?_
    obtain ⟨ha, hb⟩ := hv (by decide)
    refine v_iload_n dX5_join_44 rfl ?_
    refine v_iload_n dX5_join_45 rfl ?_
    refine v_iand dX5_join_46 ?_
    refine v_iret dX5_join_47 rfl ?_
    (refine ⟨?_, rfl⟩; rcases ha with rfl | rfl <;> rcases hb with rfl | rfl <;> decide)
  · refine v_tableIn 48 dX5_join_1 (by decide) (by decide) rfl (by decide) ?_
    obtain ⟨ha, hb⟩ := hv (by decide)
    refine v_iload_n dX5_join_48 rfl ?_
    refine v_iload_n dX5_join_49 rfl ?_
    refine v_ior dX5_join_50 ?_
    refine v_iret dX5_join_51 rfl ?_
    (refine ⟨?_, rfl⟩; rcases ha with rfl | rfl <;> rcases hb with rfl | rfl <;> decide)
theorem RkD.mv {M M' : mM} {r nm : Nat} {f : Nat → Int32} {num : Int32} (h : RkD M r nm f num) (e : ∀ q, q = r ∨ q = r + 1 → gI M' q = gI M q) : RkD M' r nm f num := by
  unfold RkD at h ⊢
  rw [e r (Or.inl rfl), e (r + 1) (Or.inr rfl)]
  exact h
theorem l5_isTrue {r p cd n nm w b : Nat} {K : Nat → Int32} {f : Nat → Int32} {num : Int32} (hk : RkSh M r) (hdd : RkD M r nm f num) (h6 : nm ≤ 6) (h1 : 1 ≤ nm) (hp : PlSh M p cd n) (hr : ∀ q, (p ≤ q ∧ q ≤ p + 6) ∨ q = cd → q ≠ r + 2) (hb : b ≤ n)
    (hK : ∀ k, k < b → gI M cd k = nI (encS (kn K (1155 + k))) ∧ kn K (1155 + k) < 2000) :
    ∀ c k st t (o : Option Value) M', k + c = b → chk K nm c k t = some [true] → vk t st → t.length ≤ 40 → stk (gI M' (r + 2)) st → Sm (Wst r) M M' →
      V G Y5_isTrue 2 0 0 (Rs (some (.int (bI (hd (evs K nm f num c k st) = 1)))) (Sm (Wst r) M)) NX 28 [some (.ref r), some (.ref p), some (.int (nI w)), some (.int (nI b)), some (.int (nI st.length)), some (.int (nI k)), o] [] M' := by
  have hn31 : n < 2 ^ 31 := hp.2.2.2.2.2.2.2.2.2.2.2.2.2
  intro c
  induction c with
  | zero =>
    intro k st t o M' hk' hc hv h40 hs hM
    obtain ⟨k1, k2, k3, k4, k5⟩ := hk.mv hM.2.1 hM.2.2.2.1
    obtain rfl : k = b := by omega
    simp only [chk, Option.some.injEq] at hc
    subst hc
    obtain ⟨a, rfl⟩ : ∃ a, st = [a] := by
      match st, hv with
      | [a], _ => exact ⟨a, rfl⟩
    have h2 := hv.1 rfl
    have ea : gI M' (r + 2) 0 = a := hs.1
    have e0 : hd (evs K nm f num 0 k [a]) = a := rfl
    rw [e0]
    refine v_iload dX5_isTrue_28 rfl ?_
    refine v_iload_n dX5_isTrue_30 rfl ?_
    refine v_icmp_ge 169 dX5_isTrue_31 (by decide) (fun h31 => ?_) (fun h31 => absurd (nI_le (Nat.le_refl _) (by omega)) h31)
    refine v_aload_n dX5_isTrue_169 rfl ?_
    refine v_getR 5 1 _ dX5_isTrue_170 f5_15 (by assumption) (by decide) (by assumption) ?_
    refine v_iconst 0 dX5_isTrue_173 (by decide) ?_
    refine v_ialdN 0 dX5_isTrue_174 (by assumption) rfl (by decide) ?_
    rw [ea]
    refine v_if_eq 182 dX5_isTrue_175 (by decide) (fun h175 => ?_) (fun h175 => ?_)
    · refine v_iconst 0 dX5_isTrue_182 (by decide) ?_
      refine v_zret dX5_isTrue_183 rfl (by first | rfl | exact bI_nb _ | assumption) ?_
      (refine ⟨?_, hM⟩; rcases h2 with rfl | rfl <;> first | rfl | exact absurd rfl h175 | exact absurd h175 (by decide))
    · refine v_iconst 1 dX5_isTrue_178 (by decide) ?_
      refine v_goto 183 dX5_isTrue_179 (by decide) ?_
      refine v_zret dX5_isTrue_183 rfl (by first | rfl | exact bI_nb _ | assumption) ?_
      (refine ⟨?_, hM⟩; rcases h2 with rfl | rfl <;> first | rfl | exact absurd rfl h175 | exact absurd h175 (by decide))
  | succ c ih =>
    intro k st t o M' hk' hc hv h40 hs hM
    have hk2 := hk.mv hM.2.1 hM.2.2.2.1
    obtain ⟨k1, k2, k3, k4, k5⟩ := hk2
    have hd2 : RkD M' r nm f num := hdd.mv (fun q hq => hM.row (Wst_o (by omega)))
    have hpp : PlSh M' p cd n := by unfold PlSh at hp ⊢; rw [hM.2.1, hM.2.2.2.1]; exact hp
    obtain ⟨p1, p2, p3, p4, p5, p6, p7, p8, p9, p10, p11, p12, p13, p14⟩ := hpp
    have ecd : gI M' cd k = nI (encS (kn K (1155 + k))) := by rw [hM.row (Wst_o (hr cd (Or.inr rfl)))]; exact (hK k (by omega)).1
    simp only [chk] at hc
    obtain ⟨t', ht', hc'⟩ := Option.bind_eq_some_iff.mp hc
    have hv' := vk_step (f := f) (num := num) ht' hv
    have hln := vk_len hv
    have hln' := vk_len hv'
    rw [show evs K nm f num (c + 1) k st = evs K nm f num c (k + 1) (stpS nm f num (kn K (1155 + k)) st) from rfl]
    have hs2k := (hK k (by omega)).2
    obtain ⟨s, es⟩ : ∃ s, s = kn K (1155 + k) := ⟨_, rfl⟩
    rw [← es] at ht' hv' hln' ecd hs2k ⊢
    have hlen := chs_len ht'
    have hn := fun M2 h1 h2 => ih (k + 1) (stpS nm f num s st) t' (some (.int (nI (encS s / 1024)))) M2 (by omega) hc' hv' (by omega) h1 h2
    rcases hlen with ⟨hok, hl40, hl'⟩ | ⟨rfl, hno, hl1, hl'⟩ | ⟨h10, h17, hno, hl2, hl'⟩
    · have hen := encS_p hok h6
      have e1 : stpS nm f num s st = plN nm f num s :: st := by unfold stpS; exact if_pos (by unfold okP at hok; omega)
      rw [e1] at hn ⊢
      have hst : stk (gI (sI M' (r + 2) st.length (plN nm f num s)) (r + 2)) (plN nm f num s :: st) := ⟨gI_ss _ _ _ _, stk_up hs (fun i hi => gI_sk _ _ (by omega))⟩
      have hn2 := hn _ hst (hM.st _ (by unfold Wst; exact Nat.beq_refl _))
      refine v_iload dX5_isTrue_28 rfl ?_
      refine v_iload_n dX5_isTrue_30 rfl ?_
      refine v_icmp_ge 169 dX5_isTrue_31 (by decide) (fun h31 => absurd ((nI_leI (by omega) (by omega)).mp h31) (by omega)) (fun h31 => ?_)
      refine v_aload_n dX5_isTrue_34 rfl ?_
      refine v_getR 4 14 _ dX5_isTrue_35 f5_47 (by assumption) (by decide) (by assumption) ?_
      refine v_iload dX5_isTrue_38 rfl ?_
      refine v_ialdN (k) dX5_isTrue_40 (by assumption) (by simp only [n_lit, pk_mul, nI_add]) ⟨by omega, by omega⟩ ?_
      rw [ecd]
      refine v_bipush 10 dX5_isTrue_41 (by decide) ?_
      refine v_ishr dX5_isTrue_43 ?_
      rw [shr10 (by omega)]
      refine v_istore dX5_isTrue_44 rfl (by decide) ?_
      refine v_iload dX5_isTrue_46 rfl ?_
      refine v_iconst 5 dX5_isTrue_48 (by decide) ?_
      refine v_icmp_gt 89 dX5_isTrue_49 (by decide) (fun h49 => absurd ((nI_ltI (a := 5) (by decide) (by omega)).mp h49) (by omega)) (fun h49 => ?_)
      refine v_iload dX5_isTrue_52 rfl ?_
      refine v_bipush 40 dX5_isTrue_54 (by decide) ?_
      refine v_icmp_ge 163 dX5_isTrue_56 (by decide) (fun h56 => absurd ((nI_leI (a := 40) (by decide) (by omega)).mp h56) (by omega)) (fun h56 => ?_)
      refine v_aload_n dX5_isTrue_59 rfl ?_
      refine v_getR 5 1 _ dX5_isTrue_60 f5_15 (by assumption) (by decide) (by assumption) ?_
      refine v_iload dX5_isTrue_63 rfl ?_
      refine v_aload_n dX5_isTrue_65 rfl ?_
      refine v_iload dX5_isTrue_66 rfl ?_
      refine v_aload_n dX5_isTrue_68 rfl ?_
      refine v_getR 4 14 _ dX5_isTrue_69 f5_47 (by assumption) (by decide) (by assumption) ?_
      refine v_iload dX5_isTrue_72 rfl ?_
      refine v_ialdN (k) dX5_isTrue_74 (by assumption) (by simp only [n_lit, pk_mul, nI_add]) ⟨by omega, by omega⟩ ?_
      rw [ecd]
      refine v_sipush 1023 dX5_isTrue_75 (by decide) ?_
      refine v_iand dX5_isTrue_78 ?_
      rw [and1023 (by omega)]
      refine v_cV [_, _] (c5_atom G M' ⟨k1, k2, k3, k4, k5⟩ hd2 h6 h1 hok) k5_atom dX5_isTrue_79 l5_50 (by assumption) (by decide) rfl (Nat.le_of_ble_eq_true rfl) (Nat.le_of_ble_eq_true rfl) ?_
      refine v_iastN (st.length) dX5_isTrue_82 (by assumption) (by simp only [n_lit, pk_mul, nI_add]) ⟨by omega, by omega⟩ ?_
      refine v_iinc 1 dX5_isTrue_83 rfl (by decide) rfl (by decide) ?_
      refine v_goto 163 dX5_isTrue_86 (by decide) ?_
      refine v_iinc 1 dX5_isTrue_163 rfl (by decide) rfl (by decide) ?_
      refine v_goto 28 dX5_isTrue_166 (by decide) ?_
      (rw [nI_1, nI_1]; exact hn2)
    · obtain ⟨a, r', rfl⟩ : ∃ a r', st = a :: r' := by
        match st, hln with
        | a :: r', _ => exact ⟨a, r', rfl⟩
        | [], h => exact absurd h (by simp; omega)
      have e1 : stpS nm f num 18 (a :: r') = (1 - a) :: r' := rfl
      rw [e1] at hn ⊢
      have ea : gI M' (r + 2) r'.length = a := hs.1
      have hl9 : (a :: r').length = r'.length + 1 := rfl
      rw [hl9] at hln ⊢
      have e6 : nI (r'.length + 1) - 1 = nI r'.length := nI_pred _
      have hst : stk (gI (sI M' (r + 2) r'.length (1 - a)) (r + 2)) ((1 - a) :: r') := ⟨gI_ss _ _ _ _, stk_up hs.2 (fun i hi => gI_sk _ _ (by omega))⟩
      have hn2 := hn _ hst (hM.st _ (by unfold Wst; exact Nat.beq_refl _))
      rw [show encS 18 = 6144 from rfl] at ecd hn2
      refine v_iload dX5_isTrue_28 rfl ?_
      refine v_iload_n dX5_isTrue_30 rfl ?_
      refine v_icmp_ge 169 dX5_isTrue_31 (by decide) (fun h31 => absurd ((nI_leI (by omega) (by omega)).mp h31) (by omega)) (fun h31 => ?_)
      refine v_aload_n dX5_isTrue_34 rfl ?_
      refine v_getR 4 14 _ dX5_isTrue_35 f5_47 (by assumption) (by decide) (by assumption) ?_
      refine v_iload dX5_isTrue_38 rfl ?_
      refine v_ialdN (k) dX5_isTrue_40 (by assumption) (by simp only [n_lit, pk_mul, nI_add]) ⟨by omega, by omega⟩ ?_
      rw [ecd]
      refine v_bipush 10 dX5_isTrue_41 (by decide) ?_
      refine v_ishr dX5_isTrue_43 ?_
      rw [shr10 (by decide)]
      refine v_istore dX5_isTrue_44 rfl (by decide) ?_
      refine v_iload dX5_isTrue_46 rfl ?_
      refine v_iconst 5 dX5_isTrue_48 (by decide) ?_
      refine v_icmp_gt 89 dX5_isTrue_49 (by decide) (fun h49 => ?_) (fun h49 => absurd (by decide) h49)
      refine v_iload dX5_isTrue_89 rfl ?_
      refine v_bipush 6 dX5_isTrue_91 (by decide) ?_
      refine v_icmp_ne 124 dX5_isTrue_93 (by decide) (fun h93 => absurd rfl h93) (fun h93 => ?_)
      refine v_iload dX5_isTrue_96 rfl ?_
      refine v_if_le 163 dX5_isTrue_98 (by decide) (fun h98 => absurd h98 (nI_nle (by omega) (by omega))) (fun h98 => ?_)
      refine v_aload_n dX5_isTrue_101 rfl ?_
      refine v_getR 5 1 _ dX5_isTrue_102 f5_15 (by assumption) (by decide) (by assumption) ?_
      refine v_iload dX5_isTrue_105 rfl ?_
      refine v_iconst 1 dX5_isTrue_107 (by decide) ?_
      refine v_isub dX5_isTrue_108 ?_
      rw [e6]
      refine v_iconst 1 dX5_isTrue_109 (by decide) ?_
      refine v_aload_n dX5_isTrue_110 rfl ?_
      refine v_getR 5 1 _ dX5_isTrue_111 f5_15 (by assumption) (by decide) (by assumption) ?_
      refine v_iload dX5_isTrue_114 rfl ?_
      refine v_iconst 1 dX5_isTrue_116 (by decide) ?_
      refine v_isub dX5_isTrue_117 ?_
      rw [e6]
      refine v_ialdN (r'.length) dX5_isTrue_118 (by assumption) (by simp only [n_lit, pk_mul, nI_add]) ⟨by omega, by omega⟩ ?_
      rw [ea]
      refine v_isub dX5_isTrue_119 ?_
      refine v_iastN (r'.length) dX5_isTrue_120 (by assumption) (by simp only [n_lit, pk_mul, nI_add]) ⟨by omega, by omega⟩ ?_
      refine v_goto 163 dX5_isTrue_121 (by decide) ?_
      refine v_iinc 1 dX5_isTrue_163 rfl (by decide) rfl (by decide) ?_
      refine v_goto 28 dX5_isTrue_166 (by decide) ?_
      (rw [nI_1]; exact hn2)
    · obtain ⟨a, b', r', rfl, hab⟩ := chs_op ht' hv hno h10 h17
      obtain ⟨eo, eo2, eo3⟩ := encS_o (s := s) ⟨h10, by omega⟩
      have eo4 := opC_7 h10 h17
      have e1 : stpS nm f num s (b' :: a :: r') = dnN s a.toInt64 b'.toInt64 :: r' := by
        unfold stpS
        rw [if_neg (by omega), if_neg (by omega)]
      rw [e1] at hn ⊢
      have ea : gI M' (r + 2) r'.length = a := hs.2.1
      have eb : gI M' (r + 2) (r'.length + 1) = b' := hs.1
      have hl9 : (b' :: a :: r').length = r'.length + 2 := rfl
      rw [hl9] at hln ⊢
      have e6 : nI (r'.length + 1) - 1 = nI r'.length := nI_pred _
      have e7 : nI (r'.length + 2) + (-1) = nI (r'.length + 1) := pk_m1 _
      have hst : stk (gI (sI M' (r + 2) r'.length (dnN s a.toInt64 b'.toInt64)) (r + 2)) (dnN s a.toInt64 b'.toInt64 :: r') := ⟨gI_ss _ _ _ _, stk_up hs.2.2 (fun i hi => gI_sk _ _ (by omega))⟩
      have hn2 := hn _ hst (hM.st _ (by unfold Wst; exact Nat.beq_refl _))
      have ed : encS s / 1024 = opC s := by omega
      rw [ed] at hn2
      refine v_iload dX5_isTrue_28 rfl ?_
      refine v_iload_n dX5_isTrue_30 rfl ?_
      refine v_icmp_ge 169 dX5_isTrue_31 (by decide) (fun h31 => absurd ((nI_leI (by omega) (by omega)).mp h31) (by omega)) (fun h31 => ?_)
      refine v_aload_n dX5_isTrue_34 rfl ?_
      refine v_getR 4 14 _ dX5_isTrue_35 f5_47 (by assumption) (by decide) (by assumption) ?_
      refine v_iload dX5_isTrue_38 rfl ?_
      refine v_ialdN (k) dX5_isTrue_40 (by assumption) (by simp only [n_lit, pk_mul, nI_add]) ⟨by omega, by omega⟩ ?_
      rw [ecd]
      refine v_bipush 10 dX5_isTrue_41 (by decide) ?_
      refine v_ishr dX5_isTrue_43 ?_
      rw [shr10 (by omega), ed]
      refine v_istore dX5_isTrue_44 rfl (by decide) ?_
      refine v_iload dX5_isTrue_46 rfl ?_
      refine v_iconst 5 dX5_isTrue_48 (by decide) ?_
      refine v_icmp_gt 89 dX5_isTrue_49 (by decide) (fun h49 => ?_) (fun h49 => absurd (nI_lt (a := 5) (by omega) (by omega)) h49)
      refine v_iload dX5_isTrue_89 rfl ?_
      refine v_bipush 6 dX5_isTrue_91 (by decide) ?_
      refine v_icmp_ne 124 dX5_isTrue_93 (by decide) (fun h93 => ?_) (fun h93 => absurd (Decidable.not_not.mp h93) (fun z => absurd ((nI_eq (b := 6) (by omega) (by decide)).mp z) (by omega)))
      refine v_iload dX5_isTrue_124 rfl ?_
      refine v_iconst 1 dX5_isTrue_126 (by decide) ?_
      refine v_icmp_le 163 dX5_isTrue_127 (by decide) (fun h127 => absurd ((nI_leI (b := 1) (by omega) (by decide)).mp h127) (by omega)) (fun h127 => ?_)
      refine v_iinc (-1) dX5_isTrue_130 rfl (by decide) rfl (by decide) ?_
      rw [e7]
      refine v_aload_n dX5_isTrue_133 rfl ?_
      refine v_getR 5 1 _ dX5_isTrue_134 f5_15 (by assumption) (by decide) (by assumption) ?_
      refine v_iload dX5_isTrue_137 rfl ?_
      refine v_iconst 1 dX5_isTrue_139 (by decide) ?_
      refine v_isub dX5_isTrue_140 ?_
      rw [e6]
      refine v_iload dX5_isTrue_141 rfl ?_
      refine v_aload_n dX5_isTrue_143 rfl ?_
      refine v_getR 5 1 _ dX5_isTrue_144 f5_15 (by assumption) (by decide) (by assumption) ?_
      refine v_iload dX5_isTrue_147 rfl ?_
      refine v_iconst 1 dX5_isTrue_149 (by decide) ?_
      refine v_isub dX5_isTrue_150 ?_
      rw [e6]
      refine v_ialdN (r'.length) dX5_isTrue_151 (by assumption) (by simp only [n_lit, pk_mul, nI_add]) ⟨by omega, by omega⟩ ?_
      rw [ea]
      refine v_aload_n dX5_isTrue_152 rfl ?_
      refine v_getR 5 1 _ dX5_isTrue_153 f5_15 (by assumption) (by decide) (by assumption) ?_
      refine v_iload dX5_isTrue_156 rfl ?_
      refine v_ialdN (r'.length + 1) dX5_isTrue_158 (by assumption) (by simp only [n_lit, pk_mul, nI_add]) ⟨by omega, by omega⟩ ?_
      rw [eb]
      refine v_cS [_, _, _] (c5_join G M' h10 h17 a b' hab) k5_join dX5_isTrue_159 l5_53 rfl (Nat.le_of_ble_eq_true rfl) (Nat.le_of_ble_eq_true rfl) ?_
      refine v_iastN (r'.length) dX5_isTrue_162 (by assumption) (by simp only [n_lit, pk_mul, nI_add]) ⟨by omega, by omega⟩ ?_
      refine v_iinc 1 dX5_isTrue_163 rfl (by decide) rfl (by decide) ?_
      refine v_goto 28 dX5_isTrue_166 (by decide) ?_
      (rw [nI_1]; exact hn2)
end C5b
