/-! ===== the reference: a word's steps ===== -/
def kn (K : Nat → Int32) (i : Nat) : Nat := (K i).toNatClampNeg
def stk (f : Nat → Int32) : List Int32 → Prop
  | [] => True
  | a :: r => f r.length = a ∧ stk f r
theorem stk_up {f g : Nat → Int32} : ∀ {s : List Int32}, stk f s → (∀ i, i < s.length → g i = f i) → stk g s := by
  intro s
  induction s with
  | nil => intro _ _; trivial
  | cons a r ih =>
    intro h hg
    exact ⟨(hg r.length (by simp)).trans h.1, ih h.2 (fun i hi => hg i (by simp; omega))⟩
def stpS (nm : Nat) (seen : Nat → Int32) (num : Int32) (s : Nat) (st : List Int32) : List Int32 :=
  if 100 ≤ s then plN nm seen num s :: st else if s = 18 then (match st with
    | a :: r => (1 - a) :: r
    | [] => []) else (match st with
    | b :: a :: r => dnN s a.toInt64 b.toInt64 :: r
    | _ => [])
def evs (K : Nat → Int32) (nm : Nat) (seen : Nat → Int32) (num : Int32) : Nat → Nat → List Int32 → List Int32
  | 0, _, s => s
  | c + 1, k, s => evs K nm seen num c (k + 1) (stpS nm seen num (kn K (1155 + k)) s)
def hd (s : List Int32) : Int32 := match s with
  | a :: _ => a
  | [] => 0
def okPb (nm s : Nat) : Bool := (Nat.ble 1000 s && Nat.ble s 1999) || (Nat.ble 100 s && Nat.blt s (100 + nm)) || (Nat.ble 200 s && Nat.ble s 209) || Nat.beq s 300 || Nat.beq s 301 || Nat.beq s 302
theorem okPb_ok {nm s : Nat} (h : okPb nm s = true) : okP nm s := by
  simp only [okPb, Bool.or_eq_true, Bool.and_eq_true, Nat.ble_eq, Nat.blt_eq, Nat.beq_eq] at h
  unfold okP
  omega
/-- a step over the kinds of what is stacked (true: a truth), at most forty deep -/
def chs (nm s : Nat) (t : List Bool) : Option (List Bool) :=
  if okPb nm s = true then (if t.length < 40 then some (false :: t) else none)
  else if s = 18 then (match t with
    | true :: r => some (true :: r)
    | _ => none)
  else if 10 ≤ s ∧ s ≤ 12 then (match t with
    | false :: false :: r => some (false :: r)
    | _ => none)
  else if 13 ≤ s ∧ s ≤ 15 then (match t with
    | false :: false :: r => some (true :: r)
    | _ => none)
  else if 16 ≤ s ∧ s ≤ 17 then (match t with
    | true :: true :: r => some (true :: r)
    | _ => none)
  else none
def chk (K : Nat → Int32) (nm : Nat) : Nat → Nat → List Bool → Option (List Bool)
  | 0, _, t => some t
  | c + 1, k, t => (chs nm (kn K (1155 + k)) t).bind (chk K nm c (k + 1))
/-- what a good step does to the stack's height -/
theorem chs_len {nm s : Nat} {t t' : List Bool} (h : chs nm s t = some t') : (okP nm s ∧ t.length < 40 ∧ t'.length = t.length + 1) ∨ (s = 18 ∧ ¬ okPb nm s = true ∧ 1 ≤ t.length ∧ t'.length = t.length) ∨ (10 ≤ s ∧ s ≤ 17 ∧ ¬ okPb nm s = true ∧ 2 ≤ t.length ∧ t'.length + 1 = t.length) := by
  unfold chs at h
  split at h
  · rename_i h0
    split at h
    · cases h
      exact Or.inl ⟨okPb_ok h0, by assumption, by simp⟩
    · cases h
  · rename_i h0
    split at h
    · split at h
      · cases h
        exact Or.inr (Or.inl ⟨by assumption, h0, by simp, by simp⟩)
      · cases h
    · split at h
      · split at h
        · cases h
          exact Or.inr (Or.inr ⟨by omega, by omega, h0, by simp, by simp⟩)
        · cases h
      · split at h
        · split at h
          · cases h
            exact Or.inr (Or.inr ⟨by omega, by omega, h0, by simp, by simp⟩)
          · cases h
        · split at h
          · split at h
            · cases h
              exact Or.inr (Or.inr ⟨by omega, by omega, h0, by simp, by simp⟩)
            · cases h
          · cases h
def W237 (q _k : Nat) : Bool := Nat.beq q 237
section R4
variable (G : mG) (M : mM)
theorem l12_holdsNow (hS : Sh M) {nm : Nat} (hm : gI M 231 1 = nI nm) (h6 : nm ≤ 6) {w b : Nat} (hw : w < 10) (hb : gI M 231 (144 + w + 1) = nI b) (h965 : b ≤ 965) (hK : ∀ k, k < 965 → gI M 231 (1155 + k) = nI (kn (gI M 231) (1155 + k)) ∧ kn (gI M 231) (1155 + k) < 2000) :
    ∀ c k st t (o : Option Value) M', k + c = b → chk (gI M 231) nm c k t = some [true] → st.length = t.length → t.length ≤ 40 → stk (gI M' 237) st → Sm W237 M M' →
      V G Y12_holdsNow 3 0 0 (Rs (some (.int (bI (hd (evs (gI M 231) nm (gI M 236) (gI M 230 19) c k st) = 1)))) (Sm W237 M)) NX 13 [some (.ref 230), some (.int (nI w)), some (.int (nI st.length)), some (.int (nI k)), o] [] M' := by
  intro c
  induction c with
  | zero =>
    intro k st t o M' hk hc hl h40 hs hM
    have hS' := hS.sm hM
    have e1 : gI M' 231 (144 + w + 1) = nI b := (hM.2.2.2.2 _ _ rfl).trans hb
    obtain rfl : k = b := by omega
    refine v_iload_n dX12_holdsNow_13 rfl ?_
    refine v_aload_n dX12_holdsNow_14 rfl ?_
    refine v_getR 12 0 _ dX12_holdsNow_15 f12_9 (hS'.1 _ _ rfl) (by decide) (hS'.2 _ _ _ rfl) ?_
    refine v_sipush 144 dX12_holdsNow_18 (by decide) ?_
    refine v_iload_n dX12_holdsNow_21 rfl ?_
    refine v_iadd dX12_holdsNow_22 ?_
    refine v_iconst 1 dX12_holdsNow_23 (by decide) ?_
    refine v_iadd dX12_holdsNow_24 ?_
    refine v_ialdN (144 + w + 1) dX12_holdsNow_25 (hS'.1 _ _ rfl) (by simp only [n_lit, pk_mul, nI_add]) ⟨by omega, by omega⟩ ?_
    -- at 26: .if_icmp .ge 106
    rw [e1]
    refine v_icmp_ge 132 dX12_holdsNow_26 (by decide) (fun hc2 => ?_) (fun hc2 => ?_)
    · simp only [chk, Option.some.injEq] at hc
      subst hc
      obtain ⟨a, rfl⟩ : ∃ a, st = [a] := by
        match st, hl with
        | [a], _ => exact ⟨a, rfl⟩
      refine v_aload_n dX12_holdsNow_132 rfl ?_
      refine v_getR 12 18 _ dX12_holdsNow_133 f12_33 (hS'.1 _ _ rfl) (by decide) (hS'.2 _ _ _ rfl) ?_
      refine v_iconst 0 dX12_holdsNow_136 (by decide) ?_
      refine v_ialdN 0 dX12_holdsNow_137 (hS'.1 _ _ rfl) rfl (by decide) ?_
      refine v_iconst 1 dX12_holdsNow_138 (by decide) ?_
      -- at 139: .if_icmp .ne 7
      rw [show gI M' 237 0 = a from hs.1]
      refine v_icmp_ne 146 dX12_holdsNow_139 (by decide) (fun h139 => ?_) (fun h139 => ?_)
      · refine v_iconst 0 dX12_holdsNow_146 (by decide) ?_
        -- at 147: .ireturn
        refine v_zret dX12_holdsNow_147 rfl (by first | rfl | exact bI_nb _ | assumption) ⟨by rw [show hd (evs (gI M 231) nm (gI M 236) (gI M 230 19) 0 k [a]) = a from rfl, bI_f h139], hM⟩
      · refine v_iconst 1 dX12_holdsNow_142 (by decide) ?_
        refine v_goto 147 dX12_holdsNow_143 (by decide) ?_
        -- at 147: .ireturn
        refine v_zret dX12_holdsNow_147 rfl (by first | rfl | exact bI_nb _ | assumption) ⟨by rw [show hd (evs (gI M 231) nm (gI M 236) (gI M 230 19) 0 k [a]) = a from rfl, bI_t (Decidable.not_not.mp h139)], hM⟩
    · exact absurd (nI_le (Nat.le_refl _) (by omega)) hc2
  | succ c ih =>
    intro k st t o M' hk hc hl h40 hs hM
    have hS' := hS.sm hM
    have e1 : gI M' 231 (144 + w + 1) = nI b := (hM.2.2.2.2 _ _ rfl).trans hb
    have e2 : gI M' 231 (1155 + k) = nI (kn (gI M 231) (1155 + k)) := (hM.2.2.2.2 _ _ rfl).trans (hK k (by omega)).1
    have h2k := (hK k (by omega)).2
    have em : gI M' 231 1 = nI nm := (hM.2.2.2.2 _ _ rfl).trans hm
    have es : gI M' 236 = gI M 236 := by funext j; exact hM.2.2.2.2 _ _ rfl
    have en : gI M' 230 19 = gI M 230 19 := hM.2.2.2.2 _ _ rfl
    simp only [chk] at hc
    obtain ⟨t', ht', hc'⟩ := Option.bind_eq_some_iff.mp hc
    rw [show evs (gI M 231) nm (gI M 236) (gI M 230 19) (c + 1) k st = evs (gI M 231) nm (gI M 236) (gI M 230 19) c (k + 1) (stpS nm (gI M 236) (gI M 230 19) (kn (gI M 231) (1155 + k)) st) from rfl]
    obtain ⟨s, hs0⟩ : ∃ s, s = kn (gI M 231) (1155 + k) := ⟨_, rfl⟩
    rw [← hs0] at e2 h2k ht' ⊢
    refine v_iload_n dX12_holdsNow_13 rfl ?_
    refine v_aload_n dX12_holdsNow_14 rfl ?_
    refine v_getR 12 0 _ dX12_holdsNow_15 f12_9 (hS'.1 _ _ rfl) (by decide) (hS'.2 _ _ _ rfl) ?_
    refine v_sipush 144 dX12_holdsNow_18 (by decide) ?_
    refine v_iload_n dX12_holdsNow_21 rfl ?_
    refine v_iadd dX12_holdsNow_22 ?_
    refine v_iconst 1 dX12_holdsNow_23 (by decide) ?_
    refine v_iadd dX12_holdsNow_24 ?_
    refine v_ialdN (144 + w + 1) dX12_holdsNow_25 (hS'.1 _ _ rfl) (by simp only [n_lit, pk_mul, nI_add]) ⟨by omega, by omega⟩ ?_
    -- at 26: .if_icmp .ge 106
    rw [e1]
    refine v_icmp_ge 132 dX12_holdsNow_26 (by decide) (fun hc2 => ?_) (fun hc2 => ?_)
    · exact absurd ((nI_leI (by omega) (by omega)).mp hc2) (by omega)
    refine v_aload_n dX12_holdsNow_29 rfl ?_
    refine v_getR 12 0 _ dX12_holdsNow_30 f12_9 (hS'.1 _ _ rfl) (by decide) (hS'.2 _ _ _ rfl) ?_
    refine v_sipush 1155 dX12_holdsNow_33 (by decide) ?_
    refine v_iload_n dX12_holdsNow_36 rfl ?_
    refine v_iadd dX12_holdsNow_37 ?_
    refine v_ialdN (1155 + k) dX12_holdsNow_38 (hS'.1 _ _ rfl) (by simp only [n_lit, pk_mul, nI_add]) ⟨by omega, by omega⟩ ?_
    -- at 39: .istore 4
    rw [e2]
    refine v_istore dX12_holdsNow_39 rfl (by decide) ?_
    refine v_iload dX12_holdsNow_41 rfl ?_
    refine v_bipush 100 dX12_holdsNow_43 (by decide) ?_
    -- at 45: .if_icmp .lt 21
    rcases chs_len ht' with ⟨p1, p2, p3⟩ | ⟨p1, p2, p3, p4⟩ | ⟨p1, p2, p3, p4, p5⟩
    · have h100 : 100 ≤ s := by unfold okP at p1; omega
      rw [show stpS nm (gI M 236) (gI M 230 19) s st = plN nm (gI M 236) (gI M 230 19) s :: st from if_pos h100]
      refine v_icmp_lt 66 dX12_holdsNow_45 (by decide) (fun h45 => ?_) (fun h45 => ?_)
      · exact absurd ((nI_ltI (a := s) (b := 100) (by omega) (by omega)).mp h45) (by omega)
      · refine v_aload_n dX12_holdsNow_48 rfl ?_
        refine v_getR 12 18 _ dX12_holdsNow_49 f12_33 (hS'.1 _ _ rfl) (by decide) (hS'.2 _ _ _ rfl) ?_
        refine v_iload_n dX12_holdsNow_52 rfl ?_
        refine v_aload_n dX12_holdsNow_53 rfl ?_
        refine v_iload dX12_holdsNow_54 rfl ?_
        -- at 56: .invokevirtual 276
        refine v_cV [_] (c12_plain G M' hS' em h6 p1) k12_plain dX12_holdsNow_56 l12_276 (by first | exact hS.1 _ _ rfl | exact hS'.1 _ _ rfl | assumption) (by decide) rfl (Nat.le_of_ble_eq_true rfl) (Nat.le_of_ble_eq_true rfl) ?_
        rw [es, en]
        refine v_iastN st.length dX12_holdsNow_59 (hS'.1 _ _ rfl) rfl ⟨by omega, by omega⟩ ?_
        refine v_iinc 1 dX12_holdsNow_60 rfl (by decide) rfl (by decide) ?_
        refine v_goto 126 dX12_holdsNow_63 (by decide) ?_
        refine v_iinc 1 dX12_holdsNow_126 rfl (by decide) rfl (by decide) ?_
        refine v_goto 13 dX12_holdsNow_129 (by decide) ?_
        -- at 13: .iload_n 3
        rw [nI_1, nI_1]
        refine ih (k + 1) (plN nm (gI M 236) (gI M 230 19) s :: st) t' _ _ (by omega) hc' (by simp; omega) (by omega) ⟨gI_ss _ _ _ _, stk_up hs (fun i hi => gI_sk _ _ (by omega))⟩ (hM.st _ rfl)
    · subst p1
      match st, hl, hs with
      | a :: r, hl, hs =>
        rw [show stpS nm (gI M 236) (gI M 230 19) 18 (a :: r) = (1 - a) :: r from rfl]
        refine v_icmp_lt 66 dX12_holdsNow_45 (by decide) (fun h45 => ?_) (fun h45 => ?_)
        · refine v_iload dX12_holdsNow_66 rfl ?_
          refine v_bipush 18 dX12_holdsNow_68 (by decide) ?_
          -- at 70: .if_icmp .ne 24
          refine v_icmp_ne 94 dX12_holdsNow_70 (by decide) (fun h70 => ?_) (fun h70 => ?_)
          · exact absurd rfl h70
          · rw [show nI (a :: r).length = nI (r.length + 1) from rfl]
            refine v_aload_n dX12_holdsNow_73 rfl ?_
            refine v_getR 12 18 _ dX12_holdsNow_74 f12_33 (hS'.1 _ _ rfl) (by decide) (hS'.2 _ _ _ rfl) ?_
            refine v_iload_n dX12_holdsNow_77 rfl ?_
            refine v_iconst 1 dX12_holdsNow_78 (by decide) ?_
            refine v_isub dX12_holdsNow_79 ?_
            refine v_iconst 1 dX12_holdsNow_80 (by decide) ?_
            refine v_aload_n dX12_holdsNow_81 rfl ?_
            refine v_getR 12 18 _ dX12_holdsNow_82 f12_33 (hS'.1 _ _ rfl) (by decide) (hS'.2 _ _ _ rfl) ?_
            refine v_iload_n dX12_holdsNow_85 rfl ?_
            refine v_iconst 1 dX12_holdsNow_86 (by decide) ?_
            refine v_isub dX12_holdsNow_87 ?_
            -- at 88: .iaload
            rw [nI_pred]
            refine v_ialdN r.length dX12_holdsNow_88 (hS'.1 _ _ rfl) rfl ⟨by simp at hl; omega, by omega⟩ ?_
            rw [show gI M' 237 r.length = a from hs.1]
            refine v_isub dX12_holdsNow_89 ?_
            -- at 90: .iastore
            refine v_iastN r.length dX12_holdsNow_90 (hS'.1 _ _ rfl) rfl ⟨by simp at hl; omega, by omega⟩ ?_
            refine v_goto 126 dX12_holdsNow_91 (by decide) ?_
            refine v_iinc 1 dX12_holdsNow_126 rfl (by decide) rfl (by decide) ?_
            refine v_goto 13 dX12_holdsNow_129 (by decide) ?_
            -- at 13: .iload_n 3
            rw [nI_1]
            refine ih (k + 1) ((1 - a) :: r) t' _ _ (by omega) hc' (by simp at hl ⊢; omega) (by omega) ⟨gI_ss _ _ _ _, stk_up hs.2 (fun i hi => gI_sk _ _ (by omega))⟩ (hM.st _ rfl)
        · exact absurd (show nI 18 < 100 by decide) h45
      | [], hl, hs => simp at hl; omega
    · match st, hl, hs with
      | b2 :: a :: r, hl, hs =>
        rw [show stpS nm (gI M 236) (gI M 230 19) s (b2 :: a :: r) = dnN s a.toInt64 b2.toInt64 :: r by unfold stpS; rw [if_neg (by omega), if_neg (fun z => by subst z; omega)]]
        refine v_icmp_lt 66 dX12_holdsNow_45 (by decide) (fun h45 => ?_) (fun h45 => ?_)
        · refine v_iload dX12_holdsNow_66 rfl ?_
          refine v_bipush 18 dX12_holdsNow_68 (by decide) ?_
          -- at 70: .if_icmp .ne 24
          refine v_icmp_ne 94 dX12_holdsNow_70 (by decide) (fun h70 => ?_) (fun h70 => ?_)
          · rw [show nI (b2 :: a :: r).length = nI (r.length + 1 + 1) from rfl]
            refine v_iinc (-1) dX12_holdsNow_94 rfl (by decide) rfl (by decide) ?_
            -- at 97: .aload_n 0
            rw [pk_m1]
            refine v_aload_n dX12_holdsNow_97 rfl ?_
            refine v_getR 12 18 _ dX12_holdsNow_98 f12_33 (hS'.1 _ _ rfl) (by decide) (hS'.2 _ _ _ rfl) ?_
            refine v_iload_n dX12_holdsNow_101 rfl ?_
            refine v_iconst 1 dX12_holdsNow_102 (by decide) ?_
            refine v_isub dX12_holdsNow_103 ?_
            refine v_iload dX12_holdsNow_104 rfl ?_
            refine v_aload_n dX12_holdsNow_106 rfl ?_
            refine v_getR 12 18 _ dX12_holdsNow_107 f12_33 (hS'.1 _ _ rfl) (by decide) (hS'.2 _ _ _ rfl) ?_
            refine v_iload_n dX12_holdsNow_110 rfl ?_
            refine v_iconst 1 dX12_holdsNow_111 (by decide) ?_
            refine v_isub dX12_holdsNow_112 ?_
            -- at 113: .iaload
            rw [nI_pred]
            refine v_ialdN r.length dX12_holdsNow_113 (hS'.1 _ _ rfl) rfl ⟨by simp at hl; omega, by omega⟩ ?_
            rw [show gI M' 237 r.length = a from hs.2.1]
            refine v_i2l dX12_holdsNow_114 ?_
            refine v_aload_n dX12_holdsNow_115 rfl ?_
            refine v_getR 12 18 _ dX12_holdsNow_116 f12_33 (hS'.1 _ _ rfl) (by decide) (hS'.2 _ _ _ rfl) ?_
            refine v_iload_n dX12_holdsNow_119 rfl ?_
            -- at 120: .iaload
            refine v_ialdN (r.length + 1) dX12_holdsNow_120 (hS'.1 _ _ rfl) rfl ⟨by simp at hl; omega, by omega⟩ ?_
            rw [show gI M' 237 (r.length + 1) = b2 from hs.1]
            refine v_i2l dX12_holdsNow_121 ?_
            -- at 122: .invokestatic 279
            refine v_cS [_, _, _] (c12_done G M' p1 p2 _ _) k12_done dX12_holdsNow_122 l12_279 rfl (Nat.le_of_ble_eq_true rfl) (Nat.le_of_ble_eq_true rfl) ?_
            refine v_iastN r.length dX12_holdsNow_125 (hS'.1 _ _ rfl) rfl ⟨by simp at hl; omega, by omega⟩ ?_
            refine v_iinc 1 dX12_holdsNow_126 rfl (by decide) rfl (by decide) ?_
            refine v_goto 13 dX12_holdsNow_129 (by decide) ?_
            -- at 13: .iload_n 3
            rw [nI_1]
            refine ih (k + 1) (dnN s a.toInt64 b2.toInt64 :: r) t' _ _ (by omega) hc' (by simp at hl ⊢; omega) (by omega) ⟨gI_ss _ _ _ _, stk_up hs.2.2 (fun i hi => gI_sk _ _ (by omega))⟩ (hM.st _ rfl)
          · exact absurd ((nI_eq (a := s) (b := 18) (by omega) (by omega)).mp (Decidable.not_not.mp h70)) (by omega)
        · exact absurd ((nI_ltI (a := s) (b := 100) (by omega) (by omega)).mpr (by omega)) h45
      | [a], hl, hs => simp at hl; omega
      | [], hl, hs => simp at hl; omega
end R4
