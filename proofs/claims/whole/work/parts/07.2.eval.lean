/-! ===== the reference: marks as they look, the steps of words ===== -/
def lby (K : Nat → Int32) (m v : Int32) : Nat → Nat → Int32
  | 0, _ => v
  | n + 1, k => if K (120 + 3 * k) = m ∧ K (120 + 3 * k + 1) = v then K (120 + 3 * k + 2) else lby K m v n (k + 1)
/-- what MARK m of CHEST c looks -/
def lkv (K : Nat → Int32) (nl : Nat) (lamp : Bool) (c m : Nat) : Int32 := if lamp then lby K (nI m) (K (9 + 6 * c + m)) nl 0 else K (9 + 6 * c + m)
def bd (v : Int64) : Int32 := (if (-1000000 : Int64) < (if v < 1000000 then v else 1000000) then (if v < 1000000 then v else 1000000) else (-1000000)).toInt32
def dnN (s : Nat) (a b : Int64) : Int32 := match s with
  | 10 => bd (a + b)
  | 11 => bd (a - b)
  | 12 => bd (a * b)
  | 13 => bI (a = b)
  | 14 => bI (a < b)
  | 15 => bI (b < a)
  | 16 => bI (1 < a + b)
  | _ => bI (0 < a + b)
def alk (seen : Nat → Int32) (m : Nat) : Nat → Int32
  | 0 => 0
  | j + 1 => alk seen m j + bI (seen j = seen m)
def pst (seen : Nat → Int32) (step : Int32) (m : Nat) (n : Int32) : Int32 :=
  if step < 300 then n ||| bI (seen m = step - 200) else if step = 300 then n + seen m else if step = 301 then n + alk seen m m else n
def plF (seen : Nat → Int32) (step : Int32) : Nat → Int32
  | 0 => 0
  | m + 1 => pst seen step m (plF seen step m)
theorem lg_eq {a b : Int64} : lg_cmp a b = 0 ↔ a = b := by
  unfold lg_cmp
  by_cases h : a > b
  · have : a ≠ b := fun e => by rw [e] at h; exact Int64.lt_irrefl h
    simp [h, this]
  · by_cases h2 : a = b <;> simp [h, h2]
theorem lg_le {a b : Int64} : lg_cmp a b ≤ 0 ↔ a ≤ b := by
  rw [← Int32.not_lt, lg_gt, Int64.not_lt]
section R2
variable (G : mG) (M : mM)
theorem l12_looksBy (hS : Sh M) {nl : Nat} (hl : gI M 231 4 = nI nl) (h8 : nl ≤ 8) (m v : Int32) : ∀ n k, k + n = nl → V G Y12_looksBy 0 0 0 (Rv (some (.int (lby (gI M 231) m v n k))) M) NX 2 [some (.ref 230), some (.int m), some (.int v), some (.int (nI k))] [] M := by
  intro n
  induction n with
  | zero =>
    intro k hk
    obtain rfl : k = nl := by omega
    refine v_iload_n dX12_looksBy_2 rfl ?_
    refine v_aload_n dX12_looksBy_3 rfl ?_
    refine v_getR 12 0 _ dX12_looksBy_4 f12_9 (by first | exact hS.1 _ _ rfl | exact hS'.1 _ _ rfl | assumption) (by decide) (by first | exact hS.2 _ _ _ rfl | exact hS'.2 _ _ _ rfl | assumption) ?_
    refine v_iconst 4 dX12_looksBy_7 (by decide) ?_
    refine v_ialdN 4 dX12_looksBy_8 (by first | exact hS.1 _ _ rfl | exact hS'.1 _ _ rfl | assumption) rfl (by decide) ?_
    -- at 9: .if_icmp .ge 55
    rw [hl]
    refine v_icmp_ge 64 dX12_looksBy_9 (by decide) (fun hc => ?_) (fun hc => ?_)
    · refine v_iload_n dX12_looksBy_64 rfl ?_
      -- at 65: .ireturn
      refine v_iret dX12_looksBy_65 rfl ⟨rfl, rfl⟩
    · exact absurd (nI_le (Nat.le_refl _) (by omega)) hc
  | succ n ih =>
    intro k hk
    refine v_iload_n dX12_looksBy_2 rfl ?_
    refine v_aload_n dX12_looksBy_3 rfl ?_
    refine v_getR 12 0 _ dX12_looksBy_4 f12_9 (by first | exact hS.1 _ _ rfl | exact hS'.1 _ _ rfl | assumption) (by decide) (by first | exact hS.2 _ _ _ rfl | exact hS'.2 _ _ _ rfl | assumption) ?_
    refine v_iconst 4 dX12_looksBy_7 (by decide) ?_
    refine v_ialdN 4 dX12_looksBy_8 (by first | exact hS.1 _ _ rfl | exact hS'.1 _ _ rfl | assumption) rfl (by decide) ?_
    -- at 9: .if_icmp .ge 55
    rw [hl]
    refine v_icmp_ge 64 dX12_looksBy_9 (by decide) (fun hc => ?_) (fun hc => ?_)
    · exact absurd ((nI_leI (by omega) (by omega)).mp hc) (by omega)
    · refine v_aload_n dX12_looksBy_12 rfl ?_
      refine v_getR 12 0 _ dX12_looksBy_13 f12_9 (by first | exact hS.1 _ _ rfl | exact hS'.1 _ _ rfl | assumption) (by decide) (by first | exact hS.2 _ _ _ rfl | exact hS'.2 _ _ _ rfl | assumption) ?_
      refine v_bipush 120 dX12_looksBy_16 (by decide) ?_
      refine v_iconst 3 dX12_looksBy_18 (by decide) ?_
      refine v_iload_n dX12_looksBy_19 rfl ?_
      refine v_imul dX12_looksBy_20 ?_
      refine v_iadd dX12_looksBy_21 ?_
      refine v_ialdN (120 + 3 * k) dX12_looksBy_22 (by first | exact hS.1 _ _ rfl | exact hS'.1 _ _ rfl | assumption) (by simp only [n_lit, pk_mul, nI_add]) ⟨by omega, by omega⟩ ?_
      refine v_iload_n dX12_looksBy_23 rfl ?_
      refine v_icmp_ne 58 dX12_looksBy_24 (by decide) (fun h24 => ?_) (fun h24 => ?_)
      · refine v_iinc 1 dX12_looksBy_58 rfl (by decide) rfl (by decide) ?_
        refine v_goto 2 dX12_looksBy_61 (by decide) ?_
        (rw [nI_1, show lby (gI M 231) m v (n + 1) k = lby (gI M 231) m v n (k + 1) from if_neg (by first | exact fun z => h24 z.1 | exact fun z => h41 z.2)]; exact ih (k + 1) (by omega))
      · refine v_aload_n dX12_looksBy_27 rfl ?_
        refine v_getR 12 0 _ dX12_looksBy_28 f12_9 (by first | exact hS.1 _ _ rfl | exact hS'.1 _ _ rfl | assumption) (by decide) (by first | exact hS.2 _ _ _ rfl | exact hS'.2 _ _ _ rfl | assumption) ?_
        refine v_bipush 120 dX12_looksBy_31 (by decide) ?_
        refine v_iconst 3 dX12_looksBy_33 (by decide) ?_
        refine v_iload_n dX12_looksBy_34 rfl ?_
        refine v_imul dX12_looksBy_35 ?_
        refine v_iadd dX12_looksBy_36 ?_
        refine v_iconst 1 dX12_looksBy_37 (by decide) ?_
        refine v_iadd dX12_looksBy_38 ?_
        refine v_ialdN (120 + 3 * k + 1) dX12_looksBy_39 (by first | exact hS.1 _ _ rfl | exact hS'.1 _ _ rfl | assumption) (by simp only [n_lit, pk_mul, nI_add]) ⟨by omega, by omega⟩ ?_
        refine v_iload_n dX12_looksBy_40 rfl ?_
        refine v_icmp_ne 58 dX12_looksBy_41 (by decide) (fun h41 => ?_) (fun h41 => ?_)
        · refine v_iinc 1 dX12_looksBy_58 rfl (by decide) rfl (by decide) ?_
          refine v_goto 2 dX12_looksBy_61 (by decide) ?_
          (rw [nI_1, show lby (gI M 231) m v (n + 1) k = lby (gI M 231) m v n (k + 1) from if_neg (by first | exact fun z => h24 z.1 | exact fun z => h41 z.2)]; exact ih (k + 1) (by omega))
        · refine v_aload_n dX12_looksBy_44 rfl ?_
          refine v_getR 12 0 _ dX12_looksBy_45 f12_9 (by first | exact hS.1 _ _ rfl | exact hS'.1 _ _ rfl | assumption) (by decide) (by first | exact hS.2 _ _ _ rfl | exact hS'.2 _ _ _ rfl | assumption) ?_
          refine v_bipush 120 dX12_looksBy_48 (by decide) ?_
          refine v_iconst 3 dX12_looksBy_50 (by decide) ?_
          refine v_iload_n dX12_looksBy_51 rfl ?_
          refine v_imul dX12_looksBy_52 ?_
          refine v_iadd dX12_looksBy_53 ?_
          refine v_iconst 2 dX12_looksBy_54 (by decide) ?_
          refine v_iadd dX12_looksBy_55 ?_
          refine v_ialdN (120 + 3 * k + 2) dX12_looksBy_56 (by first | exact hS.1 _ _ rfl | exact hS'.1 _ _ rfl | assumption) (by simp only [n_lit, pk_mul, nI_add]) ⟨by omega, by omega⟩ ?_
          refine v_iret dX12_looksBy_57 rfl ?_
          exact ⟨by rw [lby, if_pos ⟨Decidable.not_not.mp h24, Decidable.not_not.mp h41⟩], rfl⟩
theorem c12_looksBy (hS : Sh M) {nl : Nat} (hl : gI M 231 4 = nI nl) (h8 : nl ≤ 8) (m v : Int32) : Ct G Y12_looksBy 0 0 0 [.ref 230, .int m, .int v] M (Rv (some (.int (lby (gI M 231) m v nl 0))) M) NX := by
  refine Ct.of k12_looksBy.1 (Nat.le_of_ble_eq_true rfl) ?_
  refine v_iconst 0 dX12_looksBy_0 (by decide) ?_
  refine v_istore_n dX12_looksBy_1 rfl (by decide) ?_
  -- at 2: .iload_n 3
  exact l12_looksBy G M hS hl h8 m v nl 0 (by omega)
theorem c12_look (hS : Sh M) {nl : Nat} (hl : gI M 231 4 = nI nl) (h8 : nl ≤ 8) {c m : Nat} (hc : c < 14) (hm : m < 6) (lamp : Bool) : Ct G Y12_look 1 0 0 [.ref 230, .int (nI c), .int (nI m), .int (bI (lamp = true))] M (Rv (some (.int (lkv (gI M 231) nl lamp c m))) M) NX := by
  refine Ct.of k12_look.1 (Nat.le_of_ble_eq_true rfl) ?_
  refine v_aload_n dX12_look_0 rfl ?_
  refine v_getR 12 0 _ dX12_look_1 f12_9 (by first | exact hS.1 _ _ rfl | exact hS'.1 _ _ rfl | assumption) (by decide) (by first | exact hS.2 _ _ _ rfl | exact hS'.2 _ _ _ rfl | assumption) ?_
  refine v_bipush 9 dX12_look_4 (by decide) ?_
  refine v_bipush 6 dX12_look_6 (by decide) ?_
  refine v_iload_n dX12_look_8 rfl ?_
  refine v_imul dX12_look_9 ?_
  refine v_iadd dX12_look_10 ?_
  refine v_iload_n dX12_look_11 rfl ?_
  refine v_iadd dX12_look_12 ?_
  refine v_ialdN (9 + 6 * c + m) dX12_look_13 (by first | exact hS.1 _ _ rfl | exact hS'.1 _ _ rfl | assumption) (by simp only [n_lit, pk_mul, nI_add]) ⟨by omega, by omega⟩ ?_
  refine v_istore dX12_look_14 rfl (by decide) ?_
  refine v_iload_n dX12_look_16 rfl ?_
  refine v_if_eq 30 dX12_look_17 (by decide) (fun h17 => ?_) (fun h17 => ?_)
  · refine v_iload dX12_look_30 rfl ?_
    refine v_iret dX12_look_32 rfl ?_
    cases lamp <;> first | exact ⟨rfl, rfl⟩ | exact absurd h17 (by decide)
  · refine v_aload_n dX12_look_20 rfl ?_
    refine v_iload_n dX12_look_21 rfl ?_
    refine v_iload dX12_look_22 rfl ?_
    refine v_cV [_, _] (c12_looksBy _ _ hS hl h8 _ _) k12_looksBy dX12_look_24 l12_253 (by first | exact hS.1 _ _ rfl | exact hS'.1 _ _ rfl | assumption) (by decide) rfl (Nat.le_of_ble_eq_true rfl) (Nat.le_of_ble_eq_true rfl) ?_
    refine v_goto 32 dX12_look_27 (by decide) ?_
    refine v_iret dX12_look_32 rfl ?_
    cases lamp <;> first | exact ⟨rfl, rfl⟩ | exact absurd h17 (by decide)
theorem c12_bound (v : Int64) : Ct G Y12_bound 1 0 0 [.long v] M (Rv (some (.int (bd v))) M) NX := by
  refine Ct.of k12_bound.1 (Nat.le_of_ble_eq_true rfl) ?_
  refine v_ldc2 (-1000000) dX12_bound_0 K12_256 ?_
  refine v_ldc2 1000000 dX12_bound_3 K12_258 ?_
  refine v_lload_n dX12_bound_6 rfl ?_
  refine v_cS [_, _] (cJ_minl _ _ _ _) kJ_minl dX12_bound_7 l12_260 rfl (Nat.le_of_ble_eq_true rfl) (Nat.le_of_ble_eq_true rfl) ?_
  refine v_cS [_, _] (cJ_maxl _ _ _ _) kJ_maxl dX12_bound_10 l12_266 rfl (Nat.le_of_ble_eq_true rfl) (Nat.le_of_ble_eq_true rfl) ?_
  refine v_l2i dX12_bound_13 ?_
  refine v_iret dX12_bound_14 rfl ?_
  exact ⟨rfl, rfl⟩
end R2
