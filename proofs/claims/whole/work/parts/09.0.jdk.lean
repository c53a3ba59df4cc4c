/-! ===== the JDK's methods: arraycopy, trailing and leading zeros, floorMod ===== -/
def cpM (M : mM) (q1 q0 n : Nat) : mM := (M.1, M.2.1, (fun a b => if a = q1 ∧ b < n then M.2.2.1 q0 b else M.2.2.1 a b), M.2.2.2)
theorem gI_cpM (M : mM) (q1 q0 n : Nat) : gI (cpM M q1 q0 n) = fun a b => if a = q1 ∧ b < n then gI M q0 b else gI M a b := rfl
theorem cpM_in (M : mM) {q1 q0 n b : Nat} (h : b < n) : gI (cpM M q1 q0 n) q1 b = gI M q0 b := if_pos ⟨rfl, h⟩
theorem cpM_o (M : mM) {q1 q0 n a : Nat} (h : a ≠ q1) : gI (cpM M q1 q0 n) a = gI M a := by funext b; exact if_neg (fun z => h z.1)
theorem cpM_sm {W : Nat → Nat → Bool} {M0 M : mM} (h : Sm W M0 M) {q1 q0 n : Nat} (w : ∀ k, k < n → W q1 k = true) : Sm W M0 (cpM M q1 q0 n) := ⟨h.1, h.2.1, h.2.2.1, h.2.2.2.1, fun a b z => by
  rw [gI_cpM]
  by_cases e : a = q1 ∧ b < n
  · rw [e.1, w b e.2] at z; cases z
  · simp only [e, if_false]; exact h.2.2.2.2 a b z⟩
theorem aw_ac : Cond.native arraycopyName ∈ aw ∧ Cond.static arraycopyName ∈ aw ∧ Cond.initialized "java/lang/System" ∈ aw := ⟨aw_w (List.mem_of_getElem? (i := 637) (by decide +kernel)) rfl, aw_w (List.mem_of_getElem? (i := 636) (by decide +kernel)) rfl, aw_w (List.mem_of_getElem? (i := 151) (by decide +kernel)) rfl⟩
theorem l7_37 : Cond.methodLink RX7 37 arraycopyName ∈ aw := aw_w (List.mem_of_getElem? (i := 635) (by decide +kernel)) rfl
theorem l2_55 : Cond.methodLink RX2 55 arraycopyName ∈ aw := aw_w (List.mem_of_getElem? (i := 1496) (by decide +kernel)) rfl
section VX
variable {G : mG} {y : mY} {D kc ks : Nat} {Q : Option Value → mM → Prop} {X : String → mM → Prop} {pc : Nat} {ls : List (Option Value)} {st : List Value} {M : mM}
theorem v_copyI {q0 q1 n0 n1 idx : Nat} {x : Int32} (n : Nat) (d : decode (yb y) pc = .ok (.invokestatic idx, 3)) (hw : Cond.methodLink (yy y).cls idx arraycopyName ∈ aw) (hT0 : gT M q0 = .inr (0, n0)) (hT1 : gT M q1 = .inr (0, n1)) (hx : x = nI n) (hn : n ≤ n0 ∧ n ≤ n1 ∧ n < 2 ^ 31) (hD : 1 ≤ D) (hst : (st.map fun v => v.category).sum ≤ 8) (kk : V G y D kc ks Q X (pc + 3) ls st (cpM M q1 q0 n)) : V G y D kc ks Q X pc ls (.int x :: .int 0 :: .ref q1 :: .int 0 :: .ref q0 :: st) M := by
  subst hx
  intro p l e s m args below meth cd H locs cells slots mc ms lr E hl hR hf hc hs
  obtain ⟨g1, g2, hc0⟩ := hR.arr hT0 (by omega)
  obtain ⟨g1', g2', hc1⟩ := hR.arr hT1 (by omega)
  have hK := E.2.2.2.2.2.2.2.1.1
  have nn : ∀ z : Int32, ¬ z < 0 → z.toInt = (z.toNatClampNeg : Int) := by
    intro z hz
    have hz0 : (0 : Int) ≤ z.toInt := by
      have := Int32.not_lt.mp hz
      simpa using Int32.le_iff_toInt_le.mp this
    show z.toInt = ((z.toInt.toNat : Nat) : Int)
    omega
  have h1 : ¬ (0 : Int32) < 0 := by decide
  have h3 : ¬ nI n < 0 := nI_pos hn.2.2
  have ecl : (nI n).toNatClampNeg = n := nI_clamp hn.2.2
  have e0 : (0 : Int32).toNatClampNeg = 0 := by decide
  obtain ⟨-, k0, hk0, cm0, hkk0⟩ := (hK.2 0 _ (rfl : (tys G)[0]? = some (G.2.2.1 0, eT 0))).1 n0 (fun j => .int (gI M q0 j))
  obtain ⟨-, k1, hk1, cm1, hkk1⟩ := (hK.2 0 _ (rfl : (tys G)[0]? = some (G.2.2.1 0, eT 0))).1 n1 (fun j => .int (gI M q1 j))
  intro T hT XX
  obtain ⟨vm', X', step⟩ := XX.arraycopy E.1 E.2.2.2.2.1 (E.2.2.2.2.2.1 _ hw) (E.2.2.2.2.2.1 _ aw_ac.1) (E.2.2.2.2.2.1 _ aw_ac.2.1) (E.2.2.2.2.2.1 _ aw_ac.2.2) (src := al G q0) (dst := al G q1) (cs := arrV (G.2.2.1 0) n0 (fun j => .int (gI M q0 j))) (cd := arrV (G.2.2.1 0) n1 (fun j => .int (gI M q1 j))) (srcPos := 0) (destPos := 0) (n := nI n) (by rw [hT]; exact hc0) (by rw [hT]; exact hc1)
    (fun _ h => by cases h) (fun _ h => by cases h) (fun h => by cases h) (fun h => by cases h) hk0 hk1 hkk0 hkk1 (by simp [refKind, eT]) h1 h1 h3
    (by rw [nn 0 h1, nn (nI n) h3, ecl, e0, arrV_size]; omega)
    (by rw [nn 0 h1, nn (nI n) h3, ecl, e0, arrV_size]; omega)
    (fun vm₁ _ i hi => by
      rw [ecl] at hi
      have e : (arrV (G.2.2.1 0) n0 (fun j => Value.int (gI M q0 j))).slots.getD ((0 : Int32).toNatClampNeg + i) .null = .int (gI M q0 ((0 : Int32).toNatClampNeg + i)) := by
        rw [Array.getD_eq_getD_getElem?, arrV_read _ _ (by rw [e0]; omega)]
        rfl
      refine ⟨?_, ?_⟩
      · rw [e]
        rfl
      · rw [e]
        exact trivial)
    (g := F0 m pc lr (.int (nI n) :: .int 0 :: .ref (al G q1) :: .int 0 :: .ref (al G q0) :: st.map (aV G))) rfl (hl.1.trans E.2.2.2.1.symm) (rest := st.map (aV G)) rfl (by rw [E.2.1]; exact d) hD (by
      rw [cat_map]
      have : nativeFrameWords "java/lang/System" "arraycopy" 5 + 11 ≤ 50 := by decide
      show 2 * 0 + _ + _ ≤ 64 * D
      omega)
  have e1 : copied (arrV (G.2.2.1 0) n0 (fun j => Value.int (gI M q0 j))) (arrV (G.2.2.1 0) n1 (fun j => Value.int (gI M q1 j))) 0 0 (nI n) = arrV (G.2.2.1 0) n1 (fun j => .int (va_cpy (gI M q0) (gI M q1) 0 0 n j)) := by
    have := va_copied (fun z => Value.int z) (G.2.2.1 0) (G.2.2.1 0) (n0 := n0) (n1 := n1) (sp := 0) (dp := 0) (n := n) (gI M q0) (gI M q1) (by omega)
    rw [← this]
    show _ = _
    unfold copied
    rw [ecl, e0]
  rw [e1] at X' step
  have hlt : al G q1 < H.size := (Array.getElem?_eq_some_iff.mp hc1).1
  have hheap : ((T.setVm vm').setCell (al G q1) (arrV (G.2.2.1 0) n1 (fun j => .int (va_cpy (gI M q0) (gI M q1) 0 0 n j)))).heap = H.setIfInBounds (al G q1) (arrV (G.2.2.1 0) n1 (fun j => .int (va_cpy (gI M q0) (gI M q1) 0 0 n j))) := by rw [← hT]; rfl
  have oq : ∀ q : Nat, q ≠ al G q1 → (H.setIfInBounds (al G q1) (arrV (G.2.2.1 0) n1 (fun j => .int (va_cpy (gI M q0) (gI M q1) 0 0 n j))))[q]? = H[q]? := fun q hq => by simp [Array.getElem?_setIfInBounds, Ne.symm hq]
  have hR' : Rl G (cpM M q1 q0 n) (H.setIfInBounds (al G q1) (arrV (G.2.2.1 0) n1 (fun j => .int (va_cpy (gI M q0) (gI M q1) 0 0 n j)))) := by
    refine hR.store g1' rfl rfl (by simp) oq (fun r hr => cpM_o M hr) (fun _ _ => rfl) (fun _ _ => rfl) ?_
    unfold cok
    rw [show gT (cpM M q1 q0 n) q1 = .inr (0, n1) from hT1]
    simp only
    intro _
    rw [Array.getElem?_setIfInBounds, if_pos rfl, if_pos hlt]
    congr 2
    funext j
    show _ = Value.int (gI (cpM M q1 q0 n) q1 j)
    rw [gI_cpM]
    unfold va_cpy
    congr 1
    by_cases hj : j < n
    · rw [if_pos ⟨by omega, by omega⟩]; simp [hj]
    · rw [if_neg (by omega)]; simp [hj]
  have fin := fun locs1 hf' => kk p l e s m args below meth cd _ locs1 cells slots mc ms lr E hl hR' hf' hc hs
  obtain ⟨t, a1, b1⟩ := fin _ (fun z hz => by
    rcases List.mem_append.mp hz with h | h
    · exact hf z h
    · obtain ⟨w, -, hw⟩ := List.mem_map.mp h
      rw [← hw]
      exact fr_al g1') _ hheap X'
  exact ⟨t, step t a1, b1⟩
end VX
/-- trailing zeros, step by step -/
def nz1 (x n : Int32) : Int32 := n + ush x 1
def nz2 (x n : Int32) : Int32 := if 4 < x then nz1 (ush x 2) (n + 2) else nz1 x n
def nz3 (x n : Int32) : Int32 := if 16 < x then nz2 (ush x 4) (n + 4) else nz2 x n
def nz4 (x n : Int32) : Int32 := if 256 < x then nz3 (ush x 8) (n + 8) else nz3 x n
def nz5 (x n : Int32) : Int32 := if 65536 < x then nz4 (ush x 16) (n + 16) else nz4 x n
def ntzI (a : Int32) : Int32 := if 0 < ((a ^^^ (-1)) &&& (a - 1)) then nz5 ((a ^^^ (-1)) &&& (a - 1)) 1 else ((a ^^^ (-1)) &&& (a - 1)) &&& 32
def lz1 (x n : Int32) : Int32 := n - ush x 1
def lz2 (x n : Int32) : Int32 := if 4 ≤ x then lz1 (ush x 2) (n + (-2)) else lz1 x n
def lz3 (x n : Int32) : Int32 := if 16 ≤ x then lz2 (ush x 4) (n + (-4)) else lz2 x n
def lz4 (x n : Int32) : Int32 := if 256 ≤ x then lz3 (ush x 8) (n + (-8)) else lz3 x n
def lz5 (x n : Int32) : Int32 := if 65536 ≤ x then lz4 (ush x 16) (n + (-16)) else lz4 x n
section JZ
variable (G : mG) (M : mM)
theorem l_nz1 (x n : Int32) : V G YJ_ntz 0 0 0 (Rv (some (.int (nz1 x n))) M) NX 74 [some (.int x), some (.int n)] [] M := by
  refine v_iload_n dJ_ntz_74 rfl ?_
  refine v_iload_n dJ_ntz_75 rfl ?_
  refine v_iconst 1 dJ_ntz_76 (by decide) ?_
  refine v_iushr dJ_ntz_77 ?_
  refine v_iadd dJ_ntz_78 ?_
  refine v_iret dJ_ntz_79 rfl ?_
  exact ⟨rfl, rfl⟩
theorem l_nz2 (x n : Int32) : V G YJ_ntz 0 0 0 (Rv (some (.int (nz2 x n))) M) NX 62 [some (.int x), some (.int n)] [] M := by
  unfold nz2
  refine v_iload_n dJ_ntz_62 rfl ?_
  refine v_iconst 4 dJ_ntz_63 (by decide) ?_
  refine v_icmp_le 74 dJ_ntz_64 (by decide) (fun h64 => ?_) (fun h64 => ?_)
  · first | (rw [if_pos (Int32.not_le.mp h64)]; exact l_nz1 G M _ _) | (rw [if_neg (Int32.not_lt.mpr h64)]; exact l_nz1 G M _ _)
  · refine v_iinc 2 dJ_ntz_67 rfl (by decide) rfl (by decide) ?_
    refine v_iload_n dJ_ntz_70 rfl ?_
    refine v_iconst 2 dJ_ntz_71 (by decide) ?_
    refine v_iushr dJ_ntz_72 ?_
    refine v_istore_n dJ_ntz_73 rfl (by decide) ?_
    first | (rw [if_pos (Int32.not_le.mp h64)]; exact l_nz1 G M _ _) | (rw [if_neg (Int32.not_lt.mpr h64)]; exact l_nz1 G M _ _)
theorem l_nz3 (x n : Int32) : V G YJ_ntz 0 0 0 (Rv (some (.int (nz3 x n))) M) NX 49 [some (.int x), some (.int n)] [] M := by
  unfold nz3
  refine v_iload_n dJ_ntz_49 rfl ?_
  refine v_bipush 16 dJ_ntz_50 (by decide) ?_
  refine v_icmp_le 62 dJ_ntz_52 (by decide) (fun h52 => ?_) (fun h52 => ?_)
  · first | (rw [if_pos (Int32.not_le.mp h52)]; exact l_nz2 G M _ _) | (rw [if_neg (Int32.not_lt.mpr h52)]; exact l_nz2 G M _ _)
  · refine v_iinc 4 dJ_ntz_55 rfl (by decide) rfl (by decide) ?_
    refine v_iload_n dJ_ntz_58 rfl ?_
    refine v_iconst 4 dJ_ntz_59 (by decide) ?_
    refine v_iushr dJ_ntz_60 ?_
    refine v_istore_n dJ_ntz_61 rfl (by decide) ?_
    first | (rw [if_pos (Int32.not_le.mp h52)]; exact l_nz2 G M _ _) | (rw [if_neg (Int32.not_lt.mpr h52)]; exact l_nz2 G M _ _)
theorem l_nz4 (x n : Int32) : V G YJ_ntz 0 0 0 (Rv (some (.int (nz4 x n))) M) NX 34 [some (.int x), some (.int n)] [] M := by
  unfold nz4
  refine v_iload_n dJ_ntz_34 rfl ?_
  refine v_sipush 256 dJ_ntz_35 (by decide) ?_
  refine v_icmp_le 49 dJ_ntz_38 (by decide) (fun h38 => ?_) (fun h38 => ?_)
  · first | (rw [if_pos (Int32.not_le.mp h38)]; exact l_nz3 G M _ _) | (rw [if_neg (Int32.not_lt.mpr h38)]; exact l_nz3 G M _ _)
  · refine v_iinc 8 dJ_ntz_41 rfl (by decide) rfl (by decide) ?_
    refine v_iload_n dJ_ntz_44 rfl ?_
    refine v_bipush 8 dJ_ntz_45 (by decide) ?_
    refine v_iushr dJ_ntz_47 ?_
    refine v_istore_n dJ_ntz_48 rfl (by decide) ?_
    first | (rw [if_pos (Int32.not_le.mp h38)]; exact l_nz3 G M _ _) | (rw [if_neg (Int32.not_lt.mpr h38)]; exact l_nz3 G M _ _)
theorem l_nz5 (x n : Int32) : V G YJ_ntz 0 0 0 (Rv (some (.int (nz5 x n))) M) NX 19 [some (.int x), some (.int n)] [] M := by
  unfold nz5
  refine v_iload_n dJ_ntz_19 rfl ?_
  refine v_ldcw 65536 dJ_ntz_20 KJ_264 ?_
  refine v_icmp_le 34 dJ_ntz_23 (by decide) (fun h23 => ?_) (fun h23 => ?_)
  · first | (rw [if_pos (Int32.not_le.mp h23)]; exact l_nz4 G M _ _) | (rw [if_neg (Int32.not_lt.mpr h23)]; exact l_nz4 G M _ _)
  · refine v_iinc 16 dJ_ntz_26 rfl (by decide) rfl (by decide) ?_
    refine v_iload_n dJ_ntz_29 rfl ?_
    refine v_bipush 16 dJ_ntz_30 (by decide) ?_
    refine v_iushr dJ_ntz_32 ?_
    refine v_istore_n dJ_ntz_33 rfl (by decide) ?_
    first | (rw [if_pos (Int32.not_le.mp h23)]; exact l_nz4 G M _ _) | (rw [if_neg (Int32.not_lt.mpr h23)]; exact l_nz4 G M _ _)
theorem cJ_ntz (a : Int32) : Ct G YJ_ntz 0 0 0 [.int a] M (Rv (some (.int (ntzI a))) M) NX := by
  refine Ct.of kJ_ntz.1 (Nat.le_of_ble_eq_true rfl) ?_
  unfold ntzI
  refine v_iload_n dJ_ntz_0 rfl ?_
  refine v_iconst (-1) dJ_ntz_1 (by decide) ?_
  refine v_ixor dJ_ntz_2 ?_
  refine v_iload_n dJ_ntz_3 rfl ?_
  refine v_iconst 1 dJ_ntz_4 (by decide) ?_
  refine v_isub dJ_ntz_5 ?_
  refine v_iand dJ_ntz_6 ?_
  refine v_istore_n dJ_ntz_7 rfl (by decide) ?_
  refine v_iload_n dJ_ntz_8 rfl ?_
  refine v_if_gt 17 dJ_ntz_9 (by decide) (fun h9 => ?_) (fun h9 => ?_)
  · refine v_iconst 1 dJ_ntz_17 (by decide) ?_
    refine v_istore_n dJ_ntz_18 rfl (by decide) ?_
    (rw [if_pos h9]; exact l_nz5 G M _ _)
  · refine v_iload_n dJ_ntz_12 rfl ?_
    refine v_bipush 32 dJ_ntz_13 (by decide) ?_
    refine v_iand dJ_ntz_15 ?_
    refine v_iret dJ_ntz_16 rfl ?_
    exact ⟨by rw [if_neg h9], rfl⟩
theorem l_lz1 (x n : Int32) : V G YJ_nlz 0 0 0 (Rv (some (.int (lz1 x n))) M) NX 73 [some (.int x), some (.int n)] [] M := by
  refine v_iload_n dJ_nlz_73 rfl ?_
  refine v_iload_n dJ_nlz_74 rfl ?_
  refine v_iconst 1 dJ_nlz_75 (by decide) ?_
  refine v_iushr dJ_nlz_76 ?_
  refine v_isub dJ_nlz_77 ?_
  refine v_iret dJ_nlz_78 rfl ?_
  exact ⟨rfl, rfl⟩
theorem l_lz2 (x n : Int32) : V G YJ_nlz 0 0 0 (Rv (some (.int (lz2 x n))) M) NX 61 [some (.int x), some (.int n)] [] M := by
  unfold lz2
  refine v_iload_n dJ_nlz_61 rfl ?_
  refine v_iconst 4 dJ_nlz_62 (by decide) ?_
  refine v_icmp_lt 73 dJ_nlz_63 (by decide) (fun h63 => ?_) (fun h63 => ?_)
  · first | (rw [if_pos (Int32.not_lt.mp h63)]; exact l_lz1 G M _ _) | (rw [if_neg (Int32.not_le.mpr h63)]; exact l_lz1 G M _ _)
  · refine v_iinc (-2) dJ_nlz_66 rfl (by decide) rfl (by decide) ?_
    refine v_iload_n dJ_nlz_69 rfl ?_
    refine v_iconst 2 dJ_nlz_70 (by decide) ?_
    refine v_iushr dJ_nlz_71 ?_
    refine v_istore_n dJ_nlz_72 rfl (by decide) ?_
    first | (rw [if_pos (Int32.not_lt.mp h63)]; exact l_lz1 G M _ _) | (rw [if_neg (Int32.not_le.mpr h63)]; exact l_lz1 G M _ _)
theorem l_lz3 (x n : Int32) : V G YJ_nlz 0 0 0 (Rv (some (.int (lz3 x n))) M) NX 48 [some (.int x), some (.int n)] [] M := by
  unfold lz3
  refine v_iload_n dJ_nlz_48 rfl ?_
  refine v_bipush 16 dJ_nlz_49 (by decide) ?_
  refine v_icmp_lt 61 dJ_nlz_51 (by decide) (fun h51 => ?_) (fun h51 => ?_)
  · first | (rw [if_pos (Int32.not_lt.mp h51)]; exact l_lz2 G M _ _) | (rw [if_neg (Int32.not_le.mpr h51)]; exact l_lz2 G M _ _)
  · refine v_iinc (-4) dJ_nlz_54 rfl (by decide) rfl (by decide) ?_
    refine v_iload_n dJ_nlz_57 rfl ?_
    refine v_iconst 4 dJ_nlz_58 (by decide) ?_
    refine v_iushr dJ_nlz_59 ?_
    refine v_istore_n dJ_nlz_60 rfl (by decide) ?_
    first | (rw [if_pos (Int32.not_lt.mp h51)]; exact l_lz2 G M _ _) | (rw [if_neg (Int32.not_le.mpr h51)]; exact l_lz2 G M _ _)
theorem l_lz4 (x n : Int32) : V G YJ_nlz 0 0 0 (Rv (some (.int (lz4 x n))) M) NX 33 [some (.int x), some (.int n)] [] M := by
  unfold lz4
  refine v_iload_n dJ_nlz_33 rfl ?_
  refine v_sipush 256 dJ_nlz_34 (by decide) ?_
  refine v_icmp_lt 48 dJ_nlz_37 (by decide) (fun h37 => ?_) (fun h37 => ?_)
  · first | (rw [if_pos (Int32.not_lt.mp h37)]; exact l_lz3 G M _ _) | (rw [if_neg (Int32.not_le.mpr h37)]; exact l_lz3 G M _ _)
  · refine v_iinc (-8) dJ_nlz_40 rfl (by decide) rfl (by decide) ?_
    refine v_iload_n dJ_nlz_43 rfl ?_
    refine v_bipush 8 dJ_nlz_44 (by decide) ?_
    refine v_iushr dJ_nlz_46 ?_
    refine v_istore_n dJ_nlz_47 rfl (by decide) ?_
    first | (rw [if_pos (Int32.not_lt.mp h37)]; exact l_lz3 G M _ _) | (rw [if_neg (Int32.not_le.mpr h37)]; exact l_lz3 G M _ _)
theorem l_lz5 (x n : Int32) : V G YJ_nlz 0 0 0 (Rv (some (.int (lz5 x n))) M) NX 18 [some (.int x), some (.int n)] [] M := by
  unfold lz5
  refine v_iload_n dJ_nlz_18 rfl ?_
  refine v_ldcw 65536 dJ_nlz_19 KJ_264 ?_
  refine v_icmp_lt 33 dJ_nlz_22 (by decide) (fun h22 => ?_) (fun h22 => ?_)
  · first | (rw [if_pos (Int32.not_lt.mp h22)]; exact l_lz4 G M _ _) | (rw [if_neg (Int32.not_le.mpr h22)]; exact l_lz4 G M _ _)
  · refine v_iinc (-16) dJ_nlz_25 rfl (by decide) rfl (by decide) ?_
    refine v_iload_n dJ_nlz_28 rfl ?_
    refine v_bipush 16 dJ_nlz_29 (by decide) ?_
    refine v_iushr dJ_nlz_31 ?_
    refine v_istore_n dJ_nlz_32 rfl (by decide) ?_
    first | (rw [if_pos (Int32.not_lt.mp h22)]; exact l_lz4 G M _ _) | (rw [if_neg (Int32.not_le.mpr h22)]; exact l_lz4 G M _ _)
theorem cJ_nlz (a : Int32) (ha : 0 < a) : Ct G YJ_nlz 0 0 0 [.int a] M (Rv (some (.int (lz5 a 31))) M) NX := by
  refine Ct.of kJ_nlz.1 (Nat.le_of_ble_eq_true rfl) ?_
  refine v_iload_n dJ_nlz_0 rfl ?_
  refine v_if_gt 15 dJ_nlz_1 (by decide) (fun h1 => ?_) (fun h1 => absurd ha h1)
  refine v_bipush 31 dJ_nlz_15 (by decide) ?_
  refine v_istore_n dJ_nlz_17 rfl (by decide) ?_
  exact l_lz5 G M _ _
end JZ
def ntzN (S : Nat) : Nat := frm (fun i => S.testBit i) 14 0
set_option maxRecDepth 100000 in
theorem nz_tab : (List.range 16384).all (fun S => Nat.beq S 0 || decide (ntzI (nI S) = nI (ntzN S))) = true := by decide +kernel
theorem ntz_n {S : Nat} (h : S < 16384) (h0 : S ≠ 0) : ntzI (nI S) = nI (ntzN S) := by
  have := List.all_eq_true.mp nz_tab S (List.mem_range.mpr h)
  rw [Bool.or_eq_true] at this
  rcases this with h1 | h1
  · exact absurd (Nat.eq_of_beq_eq_true h1) h0
  · exact of_decide_eq_true h1
theorem lz_tab : ∀ n, n < 14 → 0 < n → lz5 (nI n) 31 = nI (31 - Nat.log2 n) := by decide +kernel
