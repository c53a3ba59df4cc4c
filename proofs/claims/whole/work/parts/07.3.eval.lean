section R3
variable (G : mG) (M : mM)
theorem c12_done_10 (a b : Int64) : Ct G Y12_done 2 0 0 [.int 10, .long a, .long b] M (Rv (some (.int (dnN 10 a b))) M) NX := by
  refine Ct.of k12_done.1 (Nat.le_of_ble_eq_true rfl) ?_
  refine v_iload_n dX12_done_0 rfl ?_
  -- at 1: .tableswitch 114 10 16 #[43, 50, 57, 64, 76, 88, 100]
  refine v_tableIn 44 dX12_done_1 (by decide) (by decide) rfl (by decide) ?_
  refine v_lload_n dX12_done_44 rfl ?_
  refine v_lload_n dX12_done_45 rfl ?_
  refine v_ladd dX12_done_46 ?_
  refine v_cS [_] (c12_bound _ _ _) k12_bound dX12_done_47 l12_269 rfl (Nat.le_of_ble_eq_true rfl) (Nat.le_of_ble_eq_true rfl) ?_
  refine v_iret dX12_done_50 rfl ?_
  exact ⟨rfl, rfl⟩
theorem c12_done_11 (a b : Int64) : Ct G Y12_done 2 0 0 [.int 11, .long a, .long b] M (Rv (some (.int (dnN 11 a b))) M) NX := by
  refine Ct.of k12_done.1 (Nat.le_of_ble_eq_true rfl) ?_
  refine v_iload_n dX12_done_0 rfl ?_
  -- at 1: .tableswitch 114 10 16 #[43, 50, 57, 64, 76, 88, 100]
  refine v_tableIn 51 dX12_done_1 (by decide) (by decide) rfl (by decide) ?_
  refine v_lload_n dX12_done_51 rfl ?_
  refine v_lload_n dX12_done_52 rfl ?_
  refine v_lsub dX12_done_53 ?_
  refine v_cS [_] (c12_bound _ _ _) k12_bound dX12_done_54 l12_269 rfl (Nat.le_of_ble_eq_true rfl) (Nat.le_of_ble_eq_true rfl) ?_
  refine v_iret dX12_done_57 rfl ?_
  exact ⟨rfl, rfl⟩
theorem c12_done_12 (a b : Int64) : Ct G Y12_done 2 0 0 [.int 12, .long a, .long b] M (Rv (some (.int (dnN 12 a b))) M) NX := by
  refine Ct.of k12_done.1 (Nat.le_of_ble_eq_true rfl) ?_
  refine v_iload_n dX12_done_0 rfl ?_
  -- at 1: .tableswitch 114 10 16 #[43, 50, 57, 64, 76, 88, 100]
  refine v_tableIn 58 dX12_done_1 (by decide) (by decide) rfl (by decide) ?_
  refine v_lload_n dX12_done_58 rfl ?_
  refine v_lload_n dX12_done_59 rfl ?_
  refine v_lmul dX12_done_60 ?_
  refine v_cS [_] (c12_bound _ _ _) k12_bound dX12_done_61 l12_269 rfl (Nat.le_of_ble_eq_true rfl) (Nat.le_of_ble_eq_true rfl) ?_
  refine v_iret dX12_done_64 rfl ?_
  exact ⟨rfl, rfl⟩
theorem c12_done_13 (a b : Int64) : Ct G Y12_done 2 0 0 [.int 13, .long a, .long b] M (Rv (some (.int (dnN 13 a b))) M) NX := by
  refine Ct.of k12_done.1 (Nat.le_of_ble_eq_true rfl) ?_
  refine v_iload_n dX12_done_0 rfl ?_
  -- at 1: .tableswitch 114 10 16 #[43, 50, 57, 64, 76, 88, 100]
  refine v_tableIn 65 dX12_done_1 (by decide) (by decide) rfl (by decide) ?_
  refine v_lload_n dX12_done_65 rfl ?_
  refine v_lload_n dX12_done_66 rfl ?_
  refine v_lcmp dX12_done_67 ?_
  refine v_if_ne 75 dX12_done_68 (by decide) (fun h68 => ?_) (fun h68 => ?_)
  · refine v_iconst 0 dX12_done_75 (by decide) ?_
    refine v_iret dX12_done_76 rfl ?_
    refine ⟨?_, rfl⟩; rw [lg_eq] at h68; simp_all [dnN, bI]
  · refine v_iconst 1 dX12_done_71 (by decide) ?_
    refine v_goto 76 dX12_done_72 (by decide) ?_
    refine v_iret dX12_done_76 rfl ?_
    refine ⟨?_, rfl⟩; rw [lg_eq] at h68; simp_all [dnN, bI]
theorem c12_done_14 (a b : Int64) : Ct G Y12_done 2 0 0 [.int 14, .long a, .long b] M (Rv (some (.int (dnN 14 a b))) M) NX := by
  refine Ct.of k12_done.1 (Nat.le_of_ble_eq_true rfl) ?_
  refine v_iload_n dX12_done_0 rfl ?_
  -- at 1: .tableswitch 114 10 16 #[43, 50, 57, 64, 76, 88, 100]
  refine v_tableIn 77 dX12_done_1 (by decide) (by decide) rfl (by decide) ?_
  refine v_lload_n dX12_done_77 rfl ?_
  refine v_lload_n dX12_done_78 rfl ?_
  refine v_lcmp dX12_done_79 ?_
  refine v_if_ge 87 dX12_done_80 (by decide) (fun h80 => ?_) (fun h80 => ?_)
  · refine v_iconst 0 dX12_done_87 (by decide) ?_
    refine v_iret dX12_done_88 rfl ?_
    refine ⟨?_, rfl⟩; rw [lg_cmp_ge, ← Int64.not_lt] at h80; simp_all [dnN, bI]
  · refine v_iconst 1 dX12_done_83 (by decide) ?_
    refine v_goto 88 dX12_done_84 (by decide) ?_
    refine v_iret dX12_done_88 rfl ?_
    refine ⟨?_, rfl⟩; rw [lg_cmp_ge, ← Int64.not_lt] at h80; simp_all [dnN, bI]
theorem c12_done_15 (a b : Int64) : Ct G Y12_done 2 0 0 [.int 15, .long a, .long b] M (Rv (some (.int (dnN 15 a b))) M) NX := by
  refine Ct.of k12_done.1 (Nat.le_of_ble_eq_true rfl) ?_
  refine v_iload_n dX12_done_0 rfl ?_
  -- at 1: .tableswitch 114 10 16 #[43, 50, 57, 64, 76, 88, 100]
  refine v_tableIn 89 dX12_done_1 (by decide) (by decide) rfl (by decide) ?_
  refine v_lload_n dX12_done_89 rfl ?_
  refine v_lload_n dX12_done_90 rfl ?_
  refine v_lcmp dX12_done_91 ?_
  refine v_if_le 99 dX12_done_92 (by decide) (fun h92 => ?_) (fun h92 => ?_)
  · refine v_iconst 0 dX12_done_99 (by decide) ?_
    refine v_iret dX12_done_100 rfl ?_
    refine ⟨?_, rfl⟩; rw [lg_le, ← Int64.not_lt] at h92; simp_all [dnN, bI]
  · refine v_iconst 1 dX12_done_95 (by decide) ?_
    refine v_goto 100 dX12_done_96 (by decide) ?_
    refine v_iret dX12_done_100 rfl ?_
    refine ⟨?_, rfl⟩; rw [lg_le, ← Int64.not_lt] at h92; simp_all [dnN, bI]
theorem c12_done_16 (a b : Int64) : Ct G Y12_done 2 0 0 [.int 16, .long a, .long b] M (Rv (some (.int (dnN 16 a b))) M) NX := by
  refine Ct.of k12_done.1 (Nat.le_of_ble_eq_true rfl) ?_
  refine v_iload_n dX12_done_0 rfl ?_
  -- at 1: .tableswitch 114 10 16 #[43, 50, 57, 64, 76, 88, 100]
  refine v_tableIn 101 dX12_done_1 (by decide) (by decide) rfl (by decide) ?_
  refine v_lload_n dX12_done_101 rfl ?_
  refine v_lload_n dX12_done_102 rfl ?_
  refine v_ladd dX12_done_103 ?_
  refine v_lconst 1 dX12_done_104 (by decide) ?_
  refine v_lcmp dX12_done_105 ?_
  refine v_if_le 113 dX12_done_106 (by decide) (fun h106 => ?_) (fun h106 => ?_)
  · refine v_iconst 0 dX12_done_113 (by decide) ?_
    refine v_iret dX12_done_114 rfl ?_
    refine ⟨?_, rfl⟩; rw [lg_le, ← Int64.not_lt] at h106; simp_all [dnN, bI]
  · refine v_iconst 1 dX12_done_109 (by decide) ?_
    refine v_goto 114 dX12_done_110 (by decide) ?_
    refine v_iret dX12_done_114 rfl ?_
    refine ⟨?_, rfl⟩; rw [lg_le, ← Int64.not_lt] at h106; simp_all [dnN, bI]
theorem c12_done_17 (a b : Int64) : Ct G Y12_done 2 0 0 [.int 17, .long a, .long b] M (Rv (some (.int (dnN 17 a b))) M) NX := by
  refine Ct.of k12_done.1 (Nat.le_of_ble_eq_true rfl) ?_
  refine v_iload_n dX12_done_0 rfl ?_
  -- at 1: .tableswitch 114 10 16 #[43, 50, 57, 64, 76, 88, 100]
  refine v_tableOut 115 dX12_done_1 (by decide) (by decide) ?_
  refine v_lload_n dX12_done_115 rfl ?_
  refine v_lload_n dX12_done_116 rfl ?_
  refine v_ladd dX12_done_117 ?_
  refine v_lconst 0 dX12_done_118 (by decide) ?_
  refine v_lcmp dX12_done_119 ?_
  refine v_if_le 127 dX12_done_120 (by decide) (fun h120 => ?_) (fun h120 => ?_)
  · refine v_iconst 0 dX12_done_127 (by decide) ?_
    refine v_iret dX12_done_128 rfl ?_
    refine ⟨?_, rfl⟩; rw [lg_le, ← Int64.not_lt] at h120; simp_all [dnN, bI]
  · refine v_iconst 1 dX12_done_123 (by decide) ?_
    refine v_goto 128 dX12_done_124 (by decide) ?_
    refine v_iret dX12_done_128 rfl ?_
    refine ⟨?_, rfl⟩; rw [lg_le, ← Int64.not_lt] at h120; simp_all [dnN, bI]
theorem c12_done {s : Nat} (h1 : 10 ≤ s) (h2 : s ≤ 17) (a b : Int64) : Ct G Y12_done 2 0 0 [.int (nI s), .long a, .long b] M (Rv (some (.int (dnN s a b))) M) NX := by
  rcases (show s = 10 ∨ s = 11 ∨ s = 12 ∨ s = 13 ∨ s = 14 ∨ s = 15 ∨ s = 16 ∨ s = 17 by omega) with h | h | h | h | h | h | h | h <;> subst h
  · exact c12_done_10 G M a b
  · exact c12_done_11 G M a b
  · exact c12_done_12 G M a b
  · exact c12_done_13 G M a b
  · exact c12_done_14 G M a b
  · exact c12_done_15 G M a b
  · exact c12_done_16 G M a b
  · exact c12_done_17 G M a b
/-- a plain step: a number, a mark, all of them, the chest's own number -/
def plN (nm : Nat) (seen : Nat → Int32) (num : Int32) (s : Nat) : Int32 :=
  if 1000 ≤ s then nI (s - 1000) else if s < 200 then seen (s - 100) else if s = 302 then num else plF seen (nI s) nm
def okP (nm s : Nat) : Prop := (1000 ≤ s ∧ s ≤ 1999) ∨ (100 ≤ s ∧ s < 100 + nm) ∨ (200 ≤ s ∧ s ≤ 209) ∨ s = 300 ∨ s = 301 ∨ s = 302
/-- the inner loop: how many marks ahead of m are as m, for step 301 -/
theorem l12_plain2 {Q : Option Value → mM → Prop} (hS : Sh M) {m : Nat} (hm : m < 6) (n0 : Int32)
    (kk : V G Y12_plain 0 0 0 Q NX 150 [some (.ref 230), some (.int 301), some (.int (n0 + alk (gI M 236) m m)), some (.int (nI m)), some (.int (nI m))] [] M) :
    ∀ i j, j + i = m → V G Y12_plain 0 0 0 Q NX 107 [some (.ref 230), some (.int 301), some (.int (n0 + alk (gI M 236) m j)), some (.int (nI m)), some (.int (nI j))] [] M := by
  intro i
  induction i with
  | zero =>
    intro j hj
    obtain rfl : j = m := by omega
    refine v_iload dX12_plain_107 rfl ?_
    refine v_iload_n dX12_plain_109 rfl ?_
    -- at 110: .if_icmp .ge 40
    refine v_icmp_ge 150 dX12_plain_110 (by decide) (fun hc => ?_) (fun hc => ?_)
    · exact kk
    · exact absurd (nI_le (Nat.le_refl _) (by omega)) hc
  | succ i ih =>
    intro j hj
    have hn : V G Y12_plain 0 0 0 Q NX 107 [some (.ref 230), some (.int 301), some (.int (n0 + alk (gI M 236) m j + bI (gI M 236 j = gI M 236 m))), some (.int (nI m)), some (.int (nI (j + 1)))] [] M := by
      have := ih (j + 1) (by omega)
      rw [show alk (gI M 236) m (j + 1) = alk (gI M 236) m j + bI (gI M 236 j = gI M 236 m) from rfl, ← Int32.add_assoc] at this
      exact this
    refine v_iload dX12_plain_107 rfl ?_
    refine v_iload_n dX12_plain_109 rfl ?_
    -- at 110: .if_icmp .ge 40
    refine v_icmp_ge 150 dX12_plain_110 (by decide) (fun hc => ?_) (fun hc => ?_)
    · exact absurd ((nI_leI (by omega) (by omega)).mp hc) (by omega)
    · refine v_iload_n dX12_plain_113 rfl ?_
      refine v_sipush 301 dX12_plain_114 (by decide) ?_
      -- at 117: .if_icmp .ne 33
      refine v_icmp_ne 150 dX12_plain_117 (by decide) (fun h117 => ?_) (fun h117 => ?_)
      · exact absurd rfl h117
      · refine v_iload_n dX12_plain_120 rfl ?_
        refine v_aload_n dX12_plain_121 rfl ?_
        refine v_getR 12 17 _ dX12_plain_122 f12_30 (by first | exact hS.1 _ _ rfl | exact hS'.1 _ _ rfl | assumption) (by decide) (by first | exact hS.2 _ _ _ rfl | exact hS'.2 _ _ _ rfl | assumption) ?_
        refine v_iload dX12_plain_125 rfl ?_
        refine v_ialdN (j) dX12_plain_127 (by first | exact hS.1 _ _ rfl | exact hS'.1 _ _ rfl | assumption) (by simp only [n_lit, pk_mul, nI_add]) ⟨by omega, by omega⟩ ?_
        refine v_aload_n dX12_plain_128 rfl ?_
        refine v_getR 12 17 _ dX12_plain_129 f12_30 (by first | exact hS.1 _ _ rfl | exact hS'.1 _ _ rfl | assumption) (by decide) (by first | exact hS.2 _ _ _ rfl | exact hS'.2 _ _ _ rfl | assumption) ?_
        refine v_iload_n dX12_plain_132 rfl ?_
        refine v_ialdN (m) dX12_plain_133 (by first | exact hS.1 _ _ rfl | exact hS'.1 _ _ rfl | assumption) (by simp only [n_lit, pk_mul, nI_add]) ⟨by omega, by omega⟩ ?_
        refine v_icmp_ne 141 dX12_plain_134 (by decide) (fun h134 => ?_) (fun h134 => ?_)
        · refine v_iconst 0 dX12_plain_141 (by decide) ?_
          refine v_iadd dX12_plain_142 ?_
          refine v_istore_n dX12_plain_143 rfl (by decide) ?_
          refine v_iinc 1 dX12_plain_144 rfl (by decide) rfl (by decide) ?_
          refine v_goto 107 dX12_plain_147 (by decide) ?_
          (rw [nI_1]; first | (rw [bI_t (Decidable.not_not.mp h134)] at hn; exact hn) | (rw [bI_f h134] at hn; exact hn))
        · refine v_iconst 1 dX12_plain_137 (by decide) ?_
          refine v_goto 142 dX12_plain_138 (by decide) ?_
          refine v_iadd dX12_plain_142 ?_
          refine v_istore_n dX12_plain_143 rfl (by decide) ?_
          refine v_iinc 1 dX12_plain_144 rfl (by decide) rfl (by decide) ?_
          refine v_goto 107 dX12_plain_147 (by decide) ?_
          (rw [nI_1]; first | (rw [bI_t (Decidable.not_not.mp h134)] at hn; exact hn) | (rw [bI_f h134] at hn; exact hn))
/-- the inner loop does nothing for other steps -/
theorem l12_plain0 {Q : Option Value → mM → Prop} {s m : Nat} (hs : s < 2000 ∧ s ≠ 301) (n : Int32)
    (kk : V G Y12_plain 0 0 0 Q NX 46 [some (.ref 230), some (.int (nI s)), some (.int n), some (.int (nI (m + 1))), some (.int 0)] [] M) :
    V G Y12_plain 0 0 0 Q NX 107 [some (.ref 230), some (.int (nI s)), some (.int n), some (.int (nI m)), some (.int 0)] [] M := by
  have e1 : ¬ nI s = 301 := fun z => hs.2 ((nI_eq (a := s) (b := 301) (by omega) (by omega)).mp z)
  refine v_iload dX12_plain_107 rfl ?_
  refine v_iload_n dX12_plain_109 rfl ?_
  refine v_icmp_ge 150 dX12_plain_110 (by decide) (fun h110 => ?_) (fun h110 => ?_)
  · refine v_iinc 1 dX12_plain_150 rfl (by decide) rfl (by decide) ?_
    refine v_goto 46 dX12_plain_153 (by decide) ?_
    (rw [nI_1]; exact kk)
  · refine v_iload_n dX12_plain_113 rfl ?_
    refine v_sipush 301 dX12_plain_114 (by decide) ?_
    refine v_icmp_ne 150 dX12_plain_117 (by decide) (fun h117 => ?_) (fun h117 => ?_)
    · refine v_iinc 1 dX12_plain_150 rfl (by decide) rfl (by decide) ?_
      refine v_goto 46 dX12_plain_153 (by decide) ?_
      (rw [nI_1]; exact kk)
    · exact absurd e1 h117
theorem l12_plain (hS : Sh M) {nm : Nat} (hm : gI M 231 1 = nI nm) (h6 : nm ≤ 6) {s : Nat} (hs : (200 ≤ s ∧ s ≤ 209) ∨ s = 300 ∨ s = 301) : ∀ i m o, m + i = nm → V G Y12_plain 0 0 0 (Rv (some (.int (plF (gI M 236) (nI s) nm))) M) NX 46 [some (.ref 230), some (.int (nI s)), some (.int (plF (gI M 236) (nI s) m)), some (.int (nI m)), o] [] M := by
  intro i
  induction i with
  | zero =>
    intro m o hi
    obtain rfl : m = nm := by omega
    refine v_iload_n dX12_plain_46 rfl ?_
    refine v_aload_n dX12_plain_47 rfl ?_
    refine v_getR 12 0 _ dX12_plain_48 f12_9 (by first | exact hS.1 _ _ rfl | exact hS'.1 _ _ rfl | assumption) (by decide) (by first | exact hS.2 _ _ _ rfl | exact hS'.2 _ _ _ rfl | assumption) ?_
    refine v_iconst 1 dX12_plain_51 (by decide) ?_
    refine v_ialdN 1 dX12_plain_52 (by first | exact hS.1 _ _ rfl | exact hS'.1 _ _ rfl | assumption) rfl (by decide) ?_
    -- at 53: .if_icmp .ge 103
    rw [hm]
    refine v_icmp_ge 156 dX12_plain_53 (by decide) (fun hc => ?_) (fun hc => ?_)
    · refine v_iload_n dX12_plain_156 rfl ?_
      -- at 157: .ireturn
      refine v_iret dX12_plain_157 rfl ⟨rfl, rfl⟩
    · exact absurd (nI_le (Nat.le_refl _) (by omega)) hc
  | succ i ih =>
    intro m o hi
    have hn := fun o => ih (m + 1) o (by omega)
    rw [show plF (gI M 236) (nI s) (m + 1) = pst (gI M 236) (nI s) m (plF (gI M 236) (nI s) m) from rfl] at hn
    refine v_iload_n dX12_plain_46 rfl ?_
    refine v_aload_n dX12_plain_47 rfl ?_
    refine v_getR 12 0 _ dX12_plain_48 f12_9 (by first | exact hS.1 _ _ rfl | exact hS'.1 _ _ rfl | assumption) (by decide) (by first | exact hS.2 _ _ _ rfl | exact hS'.2 _ _ _ rfl | assumption) ?_
    refine v_iconst 1 dX12_plain_51 (by decide) ?_
    refine v_ialdN 1 dX12_plain_52 (by first | exact hS.1 _ _ rfl | exact hS'.1 _ _ rfl | assumption) rfl (by decide) ?_
    -- at 53: .if_icmp .ge 103
    rw [hm]
    refine v_icmp_ge 156 dX12_plain_53 (by decide) (fun hc => ?_) (fun hc => ?_)
    · exact absurd ((nI_leI (by omega) (by omega)).mp hc) (by omega)
    rcases hs with hs | hs | hs
    · have e3 : nI s < 300 := (nI_ltI (a := s) (b := 300) (by omega) (by omega)).mpr (by omega)
      have hn2 := hn (some (.int 0))
      rw [pst, if_pos e3] at hn2
      refine v_iload_n dX12_plain_56 rfl ?_
      refine v_sipush 300 dX12_plain_57 (by decide) ?_
      -- at 60: .if_icmp .ge 28
      refine v_icmp_ge 88 dX12_plain_60 (by decide) (fun h60 => ?_) (fun h60 => ?_)
      · exact absurd e3 (Int32.not_lt.mpr h60)
      · refine v_iload_n dX12_plain_63 rfl ?_
        refine v_aload_n dX12_plain_64 rfl ?_
        refine v_getR 12 17 _ dX12_plain_65 f12_30 (by first | exact hS.1 _ _ rfl | exact hS'.1 _ _ rfl | assumption) (by decide) (by first | exact hS.2 _ _ _ rfl | exact hS'.2 _ _ _ rfl | assumption) ?_
        refine v_iload_n dX12_plain_68 rfl ?_
        refine v_ialdN (m) dX12_plain_69 (by first | exact hS.1 _ _ rfl | exact hS'.1 _ _ rfl | assumption) (by simp only [n_lit, pk_mul, nI_add]) ⟨by omega, by omega⟩ ?_
        refine v_iload_n dX12_plain_70 rfl ?_
        refine v_sipush 200 dX12_plain_71 (by decide) ?_
        refine v_isub dX12_plain_74 ?_
        refine v_icmp_ne 82 dX12_plain_75 (by decide) (fun h75 => ?_) (fun h75 => ?_)
        · refine v_iconst 0 dX12_plain_82 (by decide) ?_
          refine v_ior dX12_plain_83 ?_
          refine v_istore_n dX12_plain_84 rfl (by decide) ?_
          refine v_goto 104 dX12_plain_85 (by decide) ?_
          refine v_iconst 0 dX12_plain_104 (by decide) ?_
          refine v_istore dX12_plain_105 rfl (by decide) ?_
          exact l12_plain0 G M ⟨by omega, by omega⟩ _ (by first | (rw [bI_t (Decidable.not_not.mp h75)] at hn2; exact hn2) | (rw [bI_f h75] at hn2; exact hn2))
        · refine v_iconst 1 dX12_plain_78 (by decide) ?_
          refine v_goto 83 dX12_plain_79 (by decide) ?_
          refine v_ior dX12_plain_83 ?_
          refine v_istore_n dX12_plain_84 rfl (by decide) ?_
          refine v_goto 104 dX12_plain_85 (by decide) ?_
          refine v_iconst 0 dX12_plain_104 (by decide) ?_
          refine v_istore dX12_plain_105 rfl (by decide) ?_
          exact l12_plain0 G M ⟨by omega, by omega⟩ _ (by first | (rw [bI_t (Decidable.not_not.mp h75)] at hn2; exact hn2) | (rw [bI_f h75] at hn2; exact hn2))
    · subst hs
      have hn2 := hn (some (.int 0))
      rw [pst, if_neg (show ¬ nI 300 < 300 by decide), if_pos (show nI 300 = 300 from rfl)] at hn2
      refine v_iload_n dX12_plain_56 rfl ?_
      refine v_sipush 300 dX12_plain_57 (by decide) ?_
      -- at 60: .if_icmp .ge 28
      refine v_icmp_ge 88 dX12_plain_60 (by decide) (fun h60 => ?_) (fun h60 => ?_)
      · refine v_iload_n dX12_plain_88 rfl ?_
        refine v_sipush 300 dX12_plain_89 (by decide) ?_
        -- at 92: .if_icmp .ne 12
        refine v_icmp_ne 104 dX12_plain_92 (by decide) (fun h92 => ?_) (fun h92 => ?_)
        · exact absurd rfl h92
        · refine v_iload_n dX12_plain_95 rfl ?_
          refine v_aload_n dX12_plain_96 rfl ?_
          refine v_getR 12 17 _ dX12_plain_97 f12_30 (by first | exact hS.1 _ _ rfl | exact hS'.1 _ _ rfl | assumption) (by decide) (by first | exact hS.2 _ _ _ rfl | exact hS'.2 _ _ _ rfl | assumption) ?_
          refine v_iload_n dX12_plain_100 rfl ?_
          refine v_ialdN (m) dX12_plain_101 (by first | exact hS.1 _ _ rfl | exact hS'.1 _ _ rfl | assumption) (by simp only [n_lit, pk_mul, nI_add]) ⟨by omega, by omega⟩ ?_
          refine v_iadd dX12_plain_102 ?_
          refine v_istore_n dX12_plain_103 rfl (by decide) ?_
          refine v_iconst 0 dX12_plain_104 (by decide) ?_
          refine v_istore dX12_plain_105 rfl (by decide) ?_
          exact l12_plain0 G M ⟨by omega, by omega⟩ _ hn2
      · exact absurd (by decide) h60
    · subst hs
      have hn2 := hn (some (.int (nI m)))
      rw [pst, if_neg (show ¬ nI 301 < 300 by decide), if_neg (show ¬ nI 301 = 300 by decide), if_pos (show nI 301 = 301 from rfl)] at hn2
      refine v_iload_n dX12_plain_56 rfl ?_
      refine v_sipush 300 dX12_plain_57 (by decide) ?_
      -- at 60: .if_icmp .ge 28
      refine v_icmp_ge 88 dX12_plain_60 (by decide) (fun h60 => ?_) (fun h60 => ?_)
      · refine v_iload_n dX12_plain_88 rfl ?_
        refine v_sipush 300 dX12_plain_89 (by decide) ?_
        -- at 92: .if_icmp .ne 12
        refine v_icmp_ne 104 dX12_plain_92 (by decide) (fun h92 => ?_) (fun h92 => ?_)
        · refine v_iconst 0 dX12_plain_104 (by decide) ?_
          refine v_istore dX12_plain_105 rfl (by decide) ?_
          -- at 107: .iload 4
          have hk : V G Y12_plain 0 0 0 (Rv (some (.int (plF (gI M 236) (nI 301) nm))) M) NX 150 [some (.ref 230), some (.int 301), some (.int (plF (gI M 236) (nI 301) m + alk (gI M 236) m m)), some (.int (nI m)), some (.int (nI m))] [] M := by
            refine v_iinc 1 dX12_plain_150 rfl (by decide) rfl (by decide) ?_
            refine v_goto 46 dX12_plain_153 (by decide) ?_
            -- at 46: .iload_n 3
            rw [nI_1]
            exact hn2
          have := l12_plain2 G M hS (by omega) _ hk m 0 (by omega)
          rw [show alk (gI M 236) m 0 = 0 from rfl, Int32.add_zero] at this
          exact this
        · exact absurd (show ¬ nI 301 = 300 by decide) h92
      · exact absurd (by decide) h60
theorem c12_plain (hS : Sh M) {nm : Nat} (hm : gI M 231 1 = nI nm) (h6 : nm ≤ 6) {s : Nat} (hs : okP nm s) : Ct G Y12_plain 0 0 0 [.ref 230, .int (nI s)] M (Rv (some (.int (plN nm (gI M 236) (gI M 230 19) s))) M) NX := by
  refine Ct.of k12_plain.1 (Nat.le_of_ble_eq_true rfl) ?_
  refine v_iload_n dX12_plain_0 rfl ?_
  refine v_sipush 1000 dX12_plain_1 (by decide) ?_
  -- at 4: .if_icmp .lt 9
  refine v_icmp_lt 13 dX12_plain_4 (by decide) (fun h4 => ?_) (fun h4 => ?_)
  · have h4' : s < 1000 := (nI_ltI (a := s) (b := 1000) (by unfold okP at hs; omega) (by omega)).mp h4
    refine v_iload_n dX12_plain_13 rfl ?_
    refine v_sipush 200 dX12_plain_14 (by decide) ?_
    -- at 17: .if_icmp .ge 13
    refine v_icmp_ge 30 dX12_plain_17 (by decide) (fun h17 => ?_) (fun h17 => ?_)
    · have h17' : 200 ≤ s := (nI_leI (a := 200) (b := s) (by omega) (by omega)).mp h17
      refine v_iload_n dX12_plain_30 rfl ?_
      refine v_sipush 302 dX12_plain_31 (by decide) ?_
      -- at 34: .if_icmp .ne 8
      refine v_icmp_ne 42 dX12_plain_34 (by decide) (fun h34 => ?_) (fun h34 => ?_)
      · have h34' : s ≠ 302 := fun z => h34 (by rw [z]; rfl)
        refine v_iconst 0 dX12_plain_42 (by decide) ?_
        refine v_istore_n dX12_plain_43 rfl (by decide) ?_
        refine v_iconst 0 dX12_plain_44 (by decide) ?_
        refine v_istore_n dX12_plain_45 rfl (by decide) ?_
        -- at 46: .iload_n 3
        refine v_pad ?_
        have := l12_plain G M hS hm h6 (s := s) (by unfold okP at hs; omega) nm 0 none (by omega)
        rw [show plN nm (gI M 236) (gI M 230 19) s = plF (gI M 236) (nI s) nm by unfold plN; rw [if_neg (by omega), if_neg (by omega), if_neg h34']]
        exact this
      · have h34' : s = 302 := (nI_eq (a := s) (b := 302) (by omega) (by omega)).mp (Decidable.not_not.mp h34)
        subst h34'
        refine v_aload_n dX12_plain_37 rfl ?_
        refine v_getI 12 19 dX12_plain_38 f12_273 (by first | exact hS.1 _ _ rfl | exact hS'.1 _ _ rfl | assumption) (by decide) ?_
        -- at 41: .ireturn
        refine v_iret dX12_plain_41 rfl ⟨rfl, rfl⟩
    · have h17' : s < 200 := (nI_ltI (a := s) (b := 200) (by omega) (by omega)).mp (Int32.not_le.mp h17)
      refine v_aload_n dX12_plain_20 rfl ?_
      refine v_getR 12 17 _ dX12_plain_21 f12_30 (by first | exact hS.1 _ _ rfl | exact hS'.1 _ _ rfl | assumption) (by decide) (by first | exact hS.2 _ _ _ rfl | exact hS'.2 _ _ _ rfl | assumption) ?_
      refine v_iload_n dX12_plain_24 rfl ?_
      refine v_bipush 100 dX12_plain_25 (by decide) ?_
      refine v_isub dX12_plain_27 ?_
      -- at 28: .iaload
      rw [show nI s - 100 = nI (s - 100) from pk_sub (a := s) (b := 100) (by unfold okP at hs; omega)]
      refine v_ialdN (s - 100) dX12_plain_28 (hS.1 _ _ rfl) rfl ⟨by unfold okP at hs; omega, by omega⟩ ?_
      refine v_iret dX12_plain_29 rfl ⟨by rw [plN, if_neg (by omega), if_pos h17'], rfl⟩
  · have h4' : 1000 ≤ s := (nI_leI (a := 1000) (b := s) (by omega) (by unfold okP at hs; omega)).mp (Int32.not_lt.mp h4)
    refine v_iload_n dX12_plain_7 rfl ?_
    refine v_sipush 1000 dX12_plain_8 (by decide) ?_
    refine v_isub dX12_plain_11 ?_
    -- at 12: .ireturn
    refine v_iret dX12_plain_12 rfl ⟨by rw [plN, if_pos h4', show nI s - 1000 = nI (s - 1000) from pk_sub (a := s) (b := 1000) h4'], rfl⟩
end R3
