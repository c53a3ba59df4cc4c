theorem ofNat_bv (x : Int32) : Int32.ofNat x.toBitVec.toNat = x := by
  apply Int32.toBitVec_inj.mp
  show BitVec.ofNat 32 x.toBitVec.toNat = x.toBitVec
  simp
theorem OF_inj {o n d : String} {v w : Value} {t : Nat} {A : Nat → Prop} {U : State} {H : Heap} (h : va_OF o n d v t A U H) (g : va_OF o n d w t A U H) : v = w := by
  obtain ⟨cf, k, i, f, cell, h1, -, h3, -, h5, -⟩ := h
  obtain ⟨cf', k', i', f', cell', g1, -, g3, -, g5, -⟩ := g
  rw [h1] at g1
  cases g1
  rw [h3] at g3
  cases g3
  rw [h5] at g5
  exact Option.some.inj g5
section WLD
variable {s : State} {b : Nat}
theorem wd_cls {args : Array Value} (ht : ∀ w ∈ aw, w.before args s = true) : ∃ (dC : Nat → ClassId) (dI : Nat → Nat → Nat), ∀ (c : Nat) (q : vw_C), vwCl[c]? = some q → u_Kn s q.1 q.2.1 q.2.2 (dC c) (dI c) := by
  have h : ∀ c : Nat, ∃ z : ClassId × (Nat → Nat), ∀ q, vwCl[c]? = some q → u_Kn s q.1 q.2.1 q.2.2 z.1 z.2 := by
    intro c
    by_cases hc : c < 13
    · obtain ⟨e, hin, -, -⟩ := cls_ok c hc
      have hI : ∃ n, Cond.instantiable (cR c) n ∈ aw := by
        rcases (show c = 0 ∨ c = 1 ∨ c = 2 ∨ c = 3 ∨ c = 4 ∨ c = 5 ∨ c = 6 ∨ c = 7 ∨ c = 8 ∨ c = 9 ∨ c = 10 ∨ c = 11 ∨ c = 12 by omega) with h | h | h | h | h | h | h | h | h | h | h | h | h <;> subst h
        · exact ⟨_, I_0⟩
        · exact ⟨_, I_1⟩
        · exact ⟨_, I_2⟩
        · exact ⟨_, I_3⟩
        · exact ⟨_, I_4⟩
        · exact ⟨_, I_5⟩
        · exact ⟨_, I_6⟩
        · exact ⟨_, I_7⟩
        · exact ⟨_, I_8⟩
        · exact ⟨_, I_9⟩
        · exact ⟨_, I_10⟩
        · exact ⟨_, I_11⟩
        · exact ⟨_, I_12⟩
      obtain ⟨n, hI⟩ := hI
      obtain ⟨cC, iS, hK⟩ := u_known (C := cR c) (T := fN c) (N := cN c) ht hin (ht _ hI)
      exact ⟨(cC, iS), fun q hq => by rw [e] at hq; cases hq; exact hK⟩
    · exact ⟨(0, fun _ => 0), fun q hq => absurd (show c < 13 from (List.getElem?_eq_some_iff.mp hq).1) hc⟩
  obtain ⟨f, hf⟩ := Classical.axiomOfChoice h
  exact ⟨fun c => (f c).1, fun c => (f c).2, hf⟩
theorem wd_arr {args : Array Value} (ht : ∀ w ∈ aw, w.before args s = true) (hts : ∀ w ∈ lw_tbl, w.before args s = true) : ∃ aC : Nat → ClassId, ∀ t, t < 8 → ArrOfT s (aC t) (eT t) ∧ va_RA s (aC t) (eT t) := by
  have h : ∀ t : Nat, ∃ cA : ClassId, t < 8 → ArrOfT s cA (eT t) ∧ va_RA s cA (eT t) := by
    intro t
    by_cases h8 : t < 8
    · rcases (show t = 0 ∨ t = 1 ∨ t = 2 ∨ t = 3 ∨ t = 4 ∨ t = 5 ∨ t = 6 ∨ t = 7 by omega) with h | h | h | h | h | h | h | h <;> subst h
      · obtain ⟨c, k, comp, h1, h2, h3⟩ := Cond.arrayClass_spec (ht _ A_0)
        exact ⟨c, fun _ => ⟨fun n z => ⟨(fun k h => by cases h), k, h2, comp, h3⟩, h1⟩⟩
      · obtain ⟨c, k, comp, h1, h2, h3⟩ := Cond.arrayClass_spec (ht _ A_1)
        exact ⟨c, fun _ => ⟨fun n z => ⟨(fun k h => by cases h), k, h2, comp, h3⟩, h1⟩⟩
      · obtain ⟨c, k, comp, h1, h2, h3⟩ := Cond.arrayClass_spec (ht _ A_2)
        exact ⟨c, fun _ => ⟨fun n z => ⟨(fun k h => by cases h), k, h2, comp, h3⟩, h1⟩⟩
      · obtain ⟨c, k, comp, h1, h2, h3⟩ := Cond.arrayClass_spec (ht _ A_3)
        exact ⟨c, fun _ => ⟨fun n z => ⟨(fun k h => by cases h), k, h2, comp, h3⟩, h1⟩⟩
      · obtain ⟨comp, c, k, h1, h2, h3, h4, h5⟩ := Cond.arrayOver_spec (hts _ g_a4)
        exact ⟨c, fun _ => ⟨fun n z => ⟨(fun k h => by cases h), k, h3, comp, h4⟩, k, comp, h3, h4, h1, h5⟩⟩
      · obtain ⟨comp, c, k, h1, h2, h3, h4, h5⟩ := Cond.arrayOver_spec (hts _ g_a5)
        exact ⟨c, fun _ => ⟨fun n z => ⟨(fun k h => by cases h), k, h3, comp, h4⟩, k, comp, h3, h4, h1, h5⟩⟩
      · obtain ⟨comp, c, k, h1, h2, h3, h4, h5⟩ := Cond.arrayOver_spec (hts _ g_a6)
        exact ⟨c, fun _ => ⟨fun n z => ⟨(fun k h => by cases h), k, h3, comp, h4⟩, k, comp, h3, h4, h1, h5⟩⟩
      · obtain ⟨comp, c, k, h1, h2, h3, h4, h5⟩ := Cond.arrayOver_spec (hts _ g_a7)
        exact ⟨c, fun _ => ⟨fun n z => ⟨(fun k h => by cases h), k, h3, comp, h4⟩, k, comp, h3, h4, h1, h5⟩⟩
    · exact ⟨0, fun h => absurd h h8⟩
  exact Classical.axiomOfChoice h
/-- the map of the constants -/
def adM (f : Nat → Nat) (aAll b fa fl L : Nat) (g h : Nat → Nat) (xs : Nat → Int32) (q : Nat) : Nat :=
  if q < 33 then f q else if q = 33 then aAll else if q = 34 then b else if q = 35 then fa else if q < 40 then 0 else if q < 70 then g (q - 40) else if q < 100 then h (q - 70) else if q = 1000 then L else if q = 1001 then fl else (xs (q - 2000)).toBitVec.toNat
theorem world {L : Nat} {xs : Nat → Int32} (hts : ∀ w ∈ lw_tbl, w.before #[Value.ref b] s = true) (hg : (Jvm.Cond.and given_1 narrow_1).before #[Value.ref b] s = true) (hX : va_X b L xs s s.heap) (hb : b < s.heap.size) (hL : L ≤ 3072) :
    ∃ G : mG, KK G s ∧ G.2.2.2.1 = s.heap ∧ ad G 34 = b ∧ ad G 1000 = L := by
  have hF : ∀ w ∈ FL, w.before #[Value.ref b] s = true := flat_of_before _ hg
  have ht : ∀ w ∈ aw, w.before #[Value.ref b] s = true := fun w hw => hts w (List.mem_filter.mp hw).1
  obtain ⟨dC, dI, hC⟩ := wd_cls ht
  obtain ⟨aC, hAr⟩ := wd_arr ht hts
  have htk : ∃ f : Nat → Nat, ∀ i, i < 33 → (tkT i).eval #[Value.ref b] s none [] s = some (.ref (f i)) := by
    refine Classical.axiomOfChoice (r := fun i a => i < 33 → (tkT i).eval #[Value.ref b] s none [] s = some (.ref a)) (fun i => ?_)
    by_cases hi : i < 33
    · obtain ⟨a, _, _, _, e, _⟩ := Cond.exactly_spec (hF _ (f_tok i hi))
      exact ⟨a, fun _ => e⟩
    · exact ⟨0, fun h => absurd h hi⟩
  obtain ⟨f, hf⟩ := htk
  have hA0 : ∀ a : Nat, a < s.heap.size → ¬ (fun q : Nat => s.heap.size ≤ q) a := fun a h => Nat.not_le.mpr h
  have hsx : ∃ g : Nat → Nat, ∀ k, k < 30 → (sxT k).eval #[Value.ref b] s none [] s = some (.ref (g k)) := by
    refine Classical.axiomOfChoice (r := fun k a => k < 30 → (sxT k).eval #[Value.ref b] s none [] s = some (.ref a)) (fun k => ?_)
    by_cases hk : k < 30
    · obtain ⟨a, _, _, _, e, _⟩ := Cond.exactly_spec (hF _ (f_sx k hk))
      exact ⟨a, fun _ => e⟩
    · exact ⟨0, fun h => absurd h hk⟩
  obtain ⟨g, hgk⟩ := hsx
  have hsv : ∃ h : Nat → Nat, ∀ k, k < 30 → (sxV k).eval #[Value.ref b] s none [] s = some (.ref (h k)) ∧ va_T .byte (h k) (stX.getD k []).length (fun j => .int ((stX.getD k []).getD j 0)) (fun q : Nat => s.heap.size ≤ q) s s.heap := by
    refine Classical.axiomOfChoice (r := fun k a => k < 30 → (sxV k).eval #[Value.ref b] s none [] s = some (.ref a) ∧ va_T .byte a (stX.getD k []).length (fun j => .int ((stX.getD k []).getD j 0)) (fun q : Nat => s.heap.size ≤ q) s s.heap) (fun k => ?_)
    by_cases hk : k < 30
    · obtain ⟨t, e1, e2⟩ := va_Tof (tm := sxV k) (ty := .byte) (N := (stX.getD k []).length) (f := fun j => .int ((stX.getD k []).getD j 0)) ((by decide +kernel : ∀ k, k < 30 → (stX.getD k []).length < 2 ^ 31) k hk) (hF _ (f_va k hk)) (va_eqt (hF _ (f_le k hk))) (fun j hj => va_eqt (hF _ (f_el k hk j hj))) hA0
      exact ⟨t, fun _ => ⟨e1, e2⟩⟩
    · exact ⟨0, fun h => absurd h hk⟩
  obtain ⟨h, hh⟩ := hsv
  obtain ⟨aAll, hall, hallT⟩ := va_Tof (tm := allT) (ty := .object RX8) (N := 33) (f := fun j => .ref (f j)) (by decide) (hF _ f_al.1) (va_eqt (hF _ f_al.2)) (fun j hj => va_eqv (hF _ (f_ae j hj)) (hf j hj)) hA0
  obtain ⟨fv0, hfm, hfr⟩ := Cond.isRef_spec (hF _ f_fm)
  obtain ⟨fa, fl, hfv⟩ : ∃ fa fl : Nat, fv0 = if fl = 0 then .null else .ref fa := by
    cases fv0 with
    | null => exact ⟨0, 0, rfl⟩
    | ref a => exact ⟨a, 1, rfl⟩
    | int _ => cases hfr
    | long _ => cases hfr
    | float _ => cases hfr
    | double _ => cases hfr
    | retAddr _ => cases hfr
  subst hfv
  obtain ⟨G, hGe⟩ : ∃ G : mG, G = (dC, dI, aC, s.heap, adM f aAll b fa fl L g h xs) := ⟨_, rfl⟩
  have eH : G.2.2.2.1 = s.heap := by rw [hGe]
  have efr : fr G = fun q : Nat => s.heap.size ≤ q := by rw [hGe]; rfl
  have ad0 : ∀ i, i < 33 → ad G i = f i := fun i hi => by rw [hGe]; exact if_pos hi
  have ad33 : ad G 33 = aAll := by rw [hGe]; rfl
  have ad34 : ad G 34 = b := by rw [hGe]; rfl
  have ad35 : ad G 35 = fa := by rw [hGe]; rfl
  have ad40 : ∀ k, k < 30 → ad G (40 + k) = g k := fun k hk => by
    rw [hGe]
    show adM f aAll b fa fl L g h xs (40 + k) = g k
    unfold adM
    rw [if_neg (by omega), if_neg (by omega), if_neg (by omega), if_neg (by omega), if_neg (by omega), if_pos (by omega), Nat.add_sub_cancel_left]
  have ad70 : ∀ k, k < 30 → ad G (70 + k) = h k := fun k hk => by
    rw [hGe]
    show adM f aAll b fa fl L g h xs (70 + k) = h k
    unfold adM
    rw [if_neg (by omega), if_neg (by omega), if_neg (by omega), if_neg (by omega), if_neg (by omega), if_neg (by omega), if_pos (by omega), Nat.add_sub_cancel_left]
  have ad1000 : ad G 1000 = L := by rw [hGe]; rfl
  have ad1001 : ad G 1001 = fl := by rw [hGe]; rfl
  have ad2000 : ∀ j, ad G (2000 + j) = (xs j).toBitVec.toNat := fun j => by
    rw [hGe]
    show adM f aAll b fa fl L g h xs (2000 + j) = _
    unfold adM
    rw [if_neg (by omega), if_neg (by omega), if_neg (by omega), if_neg (by omega), if_neg (by omega), if_neg (by omega), if_neg (by omega), if_neg (by omega), if_neg (by omega), Nat.add_sub_cancel_left]
  have eC : G.1 = dC ∧ G.2.1 = dI ∧ G.2.2.1 = aC := by rw [hGe]; exact ⟨rfl, rfl, rfl⟩
  clear hGe
  have efm : aV G (fmV G) = if fl = 0 then .null else .ref fa := by
    unfold fmV
    rw [ad1001]
    by_cases h0 : fl = 0
    · rw [if_pos h0, if_pos h0]; rfl
    · rw [if_neg h0, if_neg h0]
      show Value.ref (al G 35) = .ref fa
      rw [show al G 35 = ad G 35 from rfl, ad35]
  refine ⟨G, ⟨⟨fun c q hq => ?_, fun k q hq => ?_⟩, ⟨?_, ?_, va_AO.of (hts _ g_a4), va_AO.of (hts _ g_a5), va_AO.of (hts _ g_a6), va_AO.of (hts _ g_a7), ?_, ?_, ⟨?_, ?_⟩, ⟨⟨?_, ?_, ?_⟩, ?_⟩, ?_, ?_⟩, ⟨fun w hw => ?_, fun z hz => ?_, fun z hz => ?_⟩⟩, eH, ad34, ad1000⟩
  · show u_Kn s q.1 q.2.1 q.2.2 (G.1 c) (G.2.1 c)
    rw [eC.1, eC.2.1]
    exact hC c q hq
  · have hk8 : k < 8 := (List.getElem?_eq_some_iff.mp hq).1
    rcases (show k = 0 ∨ k = 1 ∨ k = 2 ∨ k = 3 ∨ k = 4 ∨ k = 5 ∨ k = 6 ∨ k = 7 by omega) with h | h | h | h | h | h | h | h <;> subst h <;> cases hq <;> rw [eC.2.2] <;> exact hAr _ (by omega)
  · rw [efr, eH]; exact vx_Zqof (hts _ g_us) (hts _ g_it) (hF _ f_us) hA0
  · rw [efr, eH]; exact vx_Zqof (hts _ g_ss) (hts _ g_it) (hF _ f_ss) hA0
  · intro i hi
    have hm : Nat.min i 29 < 30 := Nat.lt_of_le_of_lt (Nat.min_le_right _ _) (by omega)
    rw [efr, eH, ad0 i hi, ad40 _ hm]
    exact ⟨va_Zof (hts _ (g_tk i hi)) (ht _ N_8) (hf i hi) hA0, va_Oof (hF _ (f_tok i hi)) (hf i hi) hA0, vk_OFof (hf i hi) (va_eqv (hF _ (f_txt i hi)) (hgk _ hm)) hA0⟩
  · intro k hk
    rw [efr, eH, ad40 k hk, ad70 k hk]
    exact ⟨va_Oof (hF _ (f_sx k hk)) (hgk k hk) hA0, vk_OFof (hgk k hk) (va_eqt (hF _ (f_co k hk))) hA0, vk_OFof (hgk k hk) (hh k hk).1 hA0, (hh k hk).2⟩
  · rw [efr, eH, ad33]
    exact va_Zof (hts _ g_al) (ht _ N_8) hall hA0
  · rw [efr, eH, ad33]
    obtain ⟨cell, c1, c2, c3, c4, c5, c6, c7⟩ := hallT
    exact ⟨cell, c1, c2, c3, c4, c5, fun j hj => (c6 j hj).trans (by show some (Value.ref (f j)) = some (Value.ref (ad G j)); rw [ad0 j hj]), c7⟩
  · rw [efr, eH]
    exact va_Zof (hts _ g_cs) (hts _ g_is) (va_eqi (hF _ f_cs)) hA0
  · rw [efr, eH, efm]
    exact va_Zof (hts _ g_fm) (hts _ g_ip) hfm hA0
  · exact fun x hx y hy hn => va_Nc.of (hF _ (f_nc x hx y hy hn))
  · rw [efr, eH, ad34, ad1000]
    obtain ⟨scr, c1, c2, c3, c4, c5⟩ := hX
    exact ⟨scr, c1, c2, c3, by omega, by rw [c4], fun j hj => (c5 j hj).trans (by show some (Value.int (xs j)) = some (Value.int (Int32.ofNat (ad G (2000 + j)))); rw [ad2000, ofNat_bv]), Nat.not_le.mpr hb⟩
  · intro i j hi hj e
    rw [ad0 i hi, ad0 j hj] at e
    have oi := vk_OFof (hf i hi) (va_eqt (hF _ (f_ord i hi))) hA0
    have oj := vk_OFof (hf j hj) (va_eqt (hF _ (f_ord j hj))) hA0
    rw [e] at oi
    have := OF_inj oi oj
    have h2 : nI i = nI j := by injection this
    have h3 := congrArg Int32.toNatClampNeg h2
    rw [nI_clamp (by omega), nI_clamp (by omega)] at h3
    exact h3
  · rw [ad1000]; exact hL
  · exact va_tabs (isOw_tab (List.mem_filter.mp hw).2) rfl (hts w (List.mem_filter.mp hw).1)
  · obtain ⟨a, _, _, _, e, _⟩ := Cond.exactly_spec (hF _ (f_xt z hz))
    exact ⟨a, vk_R.of (hts _ (g_xt z hz)) e⟩
  · rw [ad40 _ (f_ms z hz).2]
    exact vk_R.of (hts _ (g_ms z hz)) (va_eqv (hF _ (f_ms z hz).1) (hgk _ (f_ms z hz).2))
end WLD
