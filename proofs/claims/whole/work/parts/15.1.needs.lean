/-! ===== the class LeastWords: what calls need ===== -/
theorem kAW {ik : Nat} {cls : String} (h : ([Cond.classLink RX11 ik cls, Cond.initialized cls].all (fun w => goodWord w && lw_tbl.any (fun x => decide (x = w)))) = true) : Cond.classLink RX11 ik cls ∈ aw ∧ Cond.initialized cls ∈ aw := by
  have h := List.all_eq_true.mp h
  have g : ∀ w, w = Cond.classLink RX11 ik cls ∨ w = Cond.initialized cls → w ∈ aw := by
    intro w hw
    have h1 := h w (by simpa using hw)
    rw [Bool.and_eq_true, List.any_eq_true] at h1
    obtain ⟨h2, x, hx, e⟩ := h1
    have e := of_decide_eq_true e
    subst e
    exact List.mem_filter.mpr ⟨hx, h2⟩
  exact ⟨g _ (Or.inl rfl), g _ (Or.inr rfl)⟩
theorem at_iaek : Cond.classLink RX11 84 iaE ∈ aw ∧ Cond.initialized iaE ∈ aw := kAW (by decide +kernel)
theorem at_isek : Cond.classLink RX11 310 isE ∈ aw ∧ Cond.initialized isE ∈ aw := kAW (by decide +kernel)
theorem at_iook : Cond.classLink RX11 376 ioE ∈ aw ∧ Cond.initialized ioE ∈ aw := kAW (by decide +kernel)
theorem inR_mkL {n : Nat} {x : Int32} (h0 : ¬ x < 0) (h : x ≤ nI n) (hn : n < 2 ^ 30) : inR (n + 1) x = true := by
  obtain ⟨j, hj, rfl⟩ := nI_of h0
  unfold inR
  rw [nI_clamp hj]
  exact decide_eq_true ⟨h0, by have := (nI_leI hj (by omega)).mp h; omega⟩
section N1
variable (G : mG) (M : mM)
theorem c11_needChest {K : Nat → Int32} (h : MR M K) {c : Int32} (hc : inR (kn K 2) c = true) : Ct G Y11_needChest 8 0 0 [.ref 100, .int c] M (Rv none M) NX := by
  obtain ⟨hS, hW, -, -, p, cd, n, rd, l1, hp0, hp, hrd, hpa⟩ := h
  obtain ⟨w1, w2⟩ := hW.p.2.1
  obtain ⟨j, hj, rfl, hj2⟩ := inR_of hc
  refine Ct.of k11_needChest.1 (Nat.le_of_ble_eq_true rfl) ?_
  refine v_iload_n dX11_needChest_0 rfl ?_
  refine v_if_lt 18 dX11_needChest_1 (by decide) (fun h1 => absurd h1 (nI_pos hj2)) (fun h1 => ?_)
  refine v_iload_n dX11_needChest_4 rfl ?_
  refine v_aload_n dX11_needChest_5 rfl ?_
  refine v_getR 11 6 _ dX11_needChest_6 f11_34 (by first | exact hS.1 _ _ rfl | assumption) (by decide) (by first | exact hS.2 _ _ _ rfl | assumption) ?_
  refine v_getR 6 0 _ dX11_needChest_9 f11_130 (by first | exact hS.1 _ _ rfl | assumption) (by decide) (by first | exact hS.2 _ _ _ rfl | assumption) ?_
  refine v_getI 4 2 dX11_needChest_12 f11_208 hp.1.1 (by decide) ?_
  rw [hp.2.1.2.2.1, w1]
  refine v_icmp_lt 29 dX11_needChest_15 (by decide) (fun h15 => ?_) (fun h15 => absurd (nI_lt hj (by omega)) h15)
  refine v_vret dX11_needChest_29 rfl ?_
  exact ⟨rfl, rfl⟩
theorem c11_needChestF {K : Nat → Int32} (h : MR M K) {c : Int32} (hc : ¬ inR (kn K 2) c = true) : Ct G Y11_needChest 8 1 6 [.ref 100, .int c] M (fun _ _ => False) (Tg nsE M) := by
  obtain ⟨hS, hW, -, -, p, cd, n, rd, l1, hp0, hp, hrd, hpa⟩ := h
  obtain ⟨w1, w2⟩ := hW.p.2.1
  refine Ct.of k11_needChest.1 (Nat.le_of_ble_eq_true rfl) ?_
  refine v_iload_n dX11_needChest_0 rfl ?_
  refine v_if_lt 18 dX11_needChest_1 (by decide) (fun h1 => ?_) (fun h1 => ?_)
  · exact v_throwN (text := "no such chest") rfl (by decide +kernel) dX11_needChest_18 dX11_needChest_21 dX11_needChest_22 dX11_needChest_25 dX11_needChest_28 (by decide) (by decide) Tg.mk
  · refine v_iload_n dX11_needChest_4 rfl ?_
    refine v_aload_n dX11_needChest_5 rfl ?_
    refine v_getR 11 6 _ dX11_needChest_6 f11_34 (by first | exact hS.1 _ _ rfl | assumption) (by decide) (by first | exact hS.2 _ _ _ rfl | assumption) ?_
    refine v_getR 6 0 _ dX11_needChest_9 f11_130 (by first | exact hS.1 _ _ rfl | assumption) (by decide) (by first | exact hS.2 _ _ _ rfl | assumption) ?_
    refine v_getI 4 2 dX11_needChest_12 f11_208 hp.1.1 (by decide) ?_
    rw [hp.2.1.2.2.1, w1]
    refine v_icmp_lt 29 dX11_needChest_15 (by decide) (fun h15 => absurd (inR_mk h1 h15 (by omega)) hc) (fun h15 => ?_)
    exact v_throwN (text := "no such chest") rfl (by decide +kernel) dX11_needChest_18 dX11_needChest_21 dX11_needChest_22 dX11_needChest_25 dX11_needChest_28 (by decide) (by decide) Tg.mk
theorem c11_needMark {K : Nat → Int32} (h : MR M K) {c : Int32} (hc : inR (kn K 1) c = true) : Ct G Y11_needMark 8 0 0 [.ref 100, .int c] M (Rv none M) NX := by
  obtain ⟨hS, hW, -, -, p, cd, n, rd, l1, hp0, hp, hrd, hpa⟩ := h
  have w1 := hW.p.1.1
  have w2 := hW.p.1.2.2
  obtain ⟨j, hj, rfl, hj2⟩ := inR_of hc
  refine Ct.of k11_needMark.1 (Nat.le_of_ble_eq_true rfl) ?_
  refine v_iload_n dX11_needMark_0 rfl ?_
  refine v_if_lt 18 dX11_needMark_1 (by decide) (fun h1 => absurd h1 (nI_pos hj2)) (fun h1 => ?_)
  refine v_iload_n dX11_needMark_4 rfl ?_
  refine v_aload_n dX11_needMark_5 rfl ?_
  refine v_getR 11 6 _ dX11_needMark_6 f11_34 (by first | exact hS.1 _ _ rfl | assumption) (by decide) (by first | exact hS.2 _ _ _ rfl | assumption) ?_
  refine v_getR 6 0 _ dX11_needMark_9 f11_130 (by first | exact hS.1 _ _ rfl | assumption) (by decide) (by first | exact hS.2 _ _ _ rfl | assumption) ?_
  refine v_getI 4 1 dX11_needMark_12 f11_297 hp.1.1 (by decide) ?_
  rw [hp.2.1.2.1, w1]
  refine v_icmp_lt 29 dX11_needMark_15 (by decide) (fun h15 => ?_) (fun h15 => absurd (nI_lt hj (by omega)) h15)
  refine v_vret dX11_needMark_29 rfl ?_
  exact ⟨rfl, rfl⟩
theorem c11_needMarkF {K : Nat → Int32} (h : MR M K) {c : Int32} (hc : ¬ inR (kn K 1) c = true) : Ct G Y11_needMark 8 1 6 [.ref 100, .int c] M (fun _ _ => False) (Tg nsE M) := by
  obtain ⟨hS, hW, -, -, p, cd, n, rd, l1, hp0, hp, hrd, hpa⟩ := h
  have w1 := hW.p.1.1
  have w2 := hW.p.1.2.2
  refine Ct.of k11_needMark.1 (Nat.le_of_ble_eq_true rfl) ?_
  refine v_iload_n dX11_needMark_0 rfl ?_
  refine v_if_lt 18 dX11_needMark_1 (by decide) (fun h1 => ?_) (fun h1 => ?_)
  · exact v_throwN (text := "no such mark") rfl (by decide +kernel) dX11_needMark_18 dX11_needMark_21 dX11_needMark_22 dX11_needMark_25 dX11_needMark_28 (by decide) (by decide) Tg.mk
  · refine v_iload_n dX11_needMark_4 rfl ?_
    refine v_aload_n dX11_needMark_5 rfl ?_
    refine v_getR 11 6 _ dX11_needMark_6 f11_34 (by first | exact hS.1 _ _ rfl | assumption) (by decide) (by first | exact hS.2 _ _ _ rfl | assumption) ?_
    refine v_getR 6 0 _ dX11_needMark_9 f11_130 (by first | exact hS.1 _ _ rfl | assumption) (by decide) (by first | exact hS.2 _ _ _ rfl | assumption) ?_
    refine v_getI 4 1 dX11_needMark_12 f11_297 hp.1.1 (by decide) ?_
    rw [hp.2.1.2.1, w1]
    refine v_icmp_lt 29 dX11_needMark_15 (by decide) (fun h15 => absurd (inR_mk h1 h15 (by omega)) hc) (fun h15 => ?_)
    exact v_throwN (text := "no such mark") rfl (by decide +kernel) dX11_needMark_18 dX11_needMark_21 dX11_needMark_22 dX11_needMark_25 dX11_needMark_28 (by decide) (by decide) Tg.mk
theorem c11_needWord {K : Nat → Int32} (h : MR M K) {c : Int32} (hc : inR (kn K 3) c = true) : Ct G Y11_needWord 8 0 0 [.ref 100, .int c] M (Rv none M) NX := by
  obtain ⟨hS, hW, -, -, p, cd, n, rd, l1, hp0, hp, hrd, hpa⟩ := h
  obtain ⟨w1, w2⟩ := hW.p.2.2.1
  obtain ⟨j, hj, rfl, hj2⟩ := inR_of hc
  refine Ct.of k11_needWord.1 (Nat.le_of_ble_eq_true rfl) ?_
  refine v_iload_n dX11_needWord_0 rfl ?_
  refine v_if_lt 18 dX11_needWord_1 (by decide) (fun h1 => absurd h1 (nI_pos hj2)) (fun h1 => ?_)
  refine v_iload_n dX11_needWord_4 rfl ?_
  refine v_aload_n dX11_needWord_5 rfl ?_
  refine v_getR 11 6 _ dX11_needWord_6 f11_34 (by first | exact hS.1 _ _ rfl | assumption) (by decide) (by first | exact hS.2 _ _ _ rfl | assumption) ?_
  refine v_getR 6 0 _ dX11_needWord_9 f11_130 (by first | exact hS.1 _ _ rfl | assumption) (by decide) (by first | exact hS.2 _ _ _ rfl | assumption) ?_
  refine v_getI 4 4 dX11_needWord_12 f11_352 hp.1.1 (by decide) ?_
  rw [hp.2.1.2.2.2.1, w1]
  refine v_icmp_lt 29 dX11_needWord_15 (by decide) (fun h15 => ?_) (fun h15 => absurd (nI_lt hj (by omega)) h15)
  refine v_vret dX11_needWord_29 rfl ?_
  exact ⟨rfl, rfl⟩
theorem c11_needWordF {K : Nat → Int32} (h : MR M K) {c : Int32} (hc : ¬ inR (kn K 3) c = true) : Ct G Y11_needWord 8 1 6 [.ref 100, .int c] M (fun _ _ => False) (Tg nsE M) := by
  obtain ⟨hS, hW, -, -, p, cd, n, rd, l1, hp0, hp, hrd, hpa⟩ := h
  obtain ⟨w1, w2⟩ := hW.p.2.2.1
  refine Ct.of k11_needWord.1 (Nat.le_of_ble_eq_true rfl) ?_
  refine v_iload_n dX11_needWord_0 rfl ?_
  refine v_if_lt 18 dX11_needWord_1 (by decide) (fun h1 => ?_) (fun h1 => ?_)
  · exact v_throwN (text := "no such word") rfl (by decide +kernel) dX11_needWord_18 dX11_needWord_21 dX11_needWord_22 dX11_needWord_25 dX11_needWord_28 (by decide) (by decide) Tg.mk
  · refine v_iload_n dX11_needWord_4 rfl ?_
    refine v_aload_n dX11_needWord_5 rfl ?_
    refine v_getR 11 6 _ dX11_needWord_6 f11_34 (by first | exact hS.1 _ _ rfl | assumption) (by decide) (by first | exact hS.2 _ _ _ rfl | assumption) ?_
    refine v_getR 6 0 _ dX11_needWord_9 f11_130 (by first | exact hS.1 _ _ rfl | assumption) (by decide) (by first | exact hS.2 _ _ _ rfl | assumption) ?_
    refine v_getI 4 4 dX11_needWord_12 f11_352 hp.1.1 (by decide) ?_
    rw [hp.2.1.2.2.2.1, w1]
    refine v_icmp_lt 29 dX11_needWord_15 (by decide) (fun h15 => absurd (inR_mk h1 h15 (by omega)) hc) (fun h15 => ?_)
    exact v_throwN (text := "no such word") rfl (by decide +kernel) dX11_needWord_18 dX11_needWord_21 dX11_needWord_22 dX11_needWord_25 dX11_needWord_28 (by decide) (by decide) Tg.mk
theorem c11_needPerson {K : Nat → Int32} (h : MR M K) {c : Int32} (hc : inR (kn K 6) c = true) : Ct G Y11_needPerson 8 0 0 [.ref 100, .int c] M (Rv none M) NX := by
  obtain ⟨hS, hW, -, -, p, cd, n, rd, l1, hp0, hp, hrd, hpa⟩ := h
  have w1 := hW.p.2.2.2.2.2.1.1
  have w2 := hW.p.2.2.2.2.2.1.2.2
  obtain ⟨j, hj, rfl, hj2⟩ := inR_of hc
  refine Ct.of k11_needPerson.1 (Nat.le_of_ble_eq_true rfl) ?_
  refine v_iload_n dX11_needPerson_0 rfl ?_
  refine v_if_lt 18 dX11_needPerson_1 (by decide) (fun h1 => absurd h1 (nI_pos hj2)) (fun h1 => ?_)
  refine v_iload_n dX11_needPerson_4 rfl ?_
  refine v_aload_n dX11_needPerson_5 rfl ?_
  refine v_getR 11 6 _ dX11_needPerson_6 f11_34 (by first | exact hS.1 _ _ rfl | assumption) (by decide) (by first | exact hS.2 _ _ _ rfl | assumption) ?_
  refine v_getR 6 0 _ dX11_needPerson_9 f11_130 (by first | exact hS.1 _ _ rfl | assumption) (by decide) (by first | exact hS.2 _ _ _ rfl | assumption) ?_
  refine v_getI 4 8 dX11_needPerson_12 f11_393 hp.1.1 (by decide) ?_
  rw [hp.2.1.2.2.2.2.2.2, w1]
  refine v_icmp_lt 29 dX11_needPerson_15 (by decide) (fun h15 => ?_) (fun h15 => absurd (nI_lt hj (by omega)) h15)
  refine v_vret dX11_needPerson_29 rfl ?_
  exact ⟨rfl, rfl⟩
theorem c11_needPersonF {K : Nat → Int32} (h : MR M K) {c : Int32} (hc : ¬ inR (kn K 6) c = true) : Ct G Y11_needPerson 8 1 6 [.ref 100, .int c] M (fun _ _ => False) (Tg nsE M) := by
  obtain ⟨hS, hW, -, -, p, cd, n, rd, l1, hp0, hp, hrd, hpa⟩ := h
  have w1 := hW.p.2.2.2.2.2.1.1
  have w2 := hW.p.2.2.2.2.2.1.2.2
  refine Ct.of k11_needPerson.1 (Nat.le_of_ble_eq_true rfl) ?_
  refine v_iload_n dX11_needPerson_0 rfl ?_
  refine v_if_lt 18 dX11_needPerson_1 (by decide) (fun h1 => ?_) (fun h1 => ?_)
  · exact v_throwN (text := "no such person") rfl (by decide +kernel) dX11_needPerson_18 dX11_needPerson_21 dX11_needPerson_22 dX11_needPerson_25 dX11_needPerson_28 (by decide) (by decide) Tg.mk
  · refine v_iload_n dX11_needPerson_4 rfl ?_
    refine v_aload_n dX11_needPerson_5 rfl ?_
    refine v_getR 11 6 _ dX11_needPerson_6 f11_34 (by first | exact hS.1 _ _ rfl | assumption) (by decide) (by first | exact hS.2 _ _ _ rfl | assumption) ?_
    refine v_getR 6 0 _ dX11_needPerson_9 f11_130 (by first | exact hS.1 _ _ rfl | assumption) (by decide) (by first | exact hS.2 _ _ _ rfl | assumption) ?_
    refine v_getI 4 8 dX11_needPerson_12 f11_393 hp.1.1 (by decide) ?_
    rw [hp.2.1.2.2.2.2.2.2, w1]
    refine v_icmp_lt 29 dX11_needPerson_15 (by decide) (fun h15 => absurd (inR_mk h1 h15 (by omega)) hc) (fun h15 => ?_)
    exact v_throwN (text := "no such person") rfl (by decide +kernel) dX11_needPerson_18 dX11_needPerson_21 dX11_needPerson_22 dX11_needPerson_25 dX11_needPerson_28 (by decide) (by decide) Tg.mk
theorem c11_needWhat {n : Nat} (hn : n < 30) {c : Int32} (hc : inR (n + 1) c = true) : Ct G Y11_needWhat 8 0 0 [.ref 100, .int c, .int (nI n)] M (Rv none M) NX := by
  obtain ⟨j, hj, rfl, hj2⟩ := inR_of hc
  refine Ct.of k11_needWhat.1 (Nat.le_of_ble_eq_true rfl) ?_
  refine v_iload_n dX11_needWhat_0 rfl ?_
  refine v_if_lt 9 dX11_needWhat_1 (by decide) (fun h1 => absurd h1 (nI_pos hj2)) (fun h1 => ?_)
  refine v_iload_n dX11_needWhat_4 rfl ?_
  refine v_iload_n dX11_needWhat_5 rfl ?_
  refine v_icmp_le 20 dX11_needWhat_6 (by decide) (fun h6 => ?_) (fun h6 => absurd (nI_le (by omega) (by omega)) h6)
  refine v_vret dX11_needWhat_20 rfl ?_
  exact ⟨rfl, rfl⟩
theorem c11_needWhatF {n : Nat} (hn : n < 30) {c : Int32} (hc : ¬ inR (n + 1) c = true) : Ct G Y11_needWhat 8 1 6 [.ref 100, .int c, .int (nI n)] M (fun _ _ => False) (Tg iaE M) := by
  refine Ct.of k11_needWhat.1 (Nat.le_of_ble_eq_true rfl) ?_
  refine v_iload_n dX11_needWhat_0 rfl ?_
  refine v_if_lt 9 dX11_needWhat_1 (by decide) (fun h1 => ?_) (fun h1 => ?_)
  · exact v_throwW (cls := iaE) (text := "no such question") rfl (by decide +kernel) at_iaek (by decide +kernel) at_iae dX11_needWhat_9 dX11_needWhat_12 dX11_needWhat_13 dX11_needWhat_16 dX11_needWhat_19 (by decide) (by decide) Tg.mk
  · refine v_iload_n dX11_needWhat_4 rfl ?_
    refine v_iload_n dX11_needWhat_5 rfl ?_
    refine v_icmp_le 20 dX11_needWhat_6 (by decide) (fun h6 => absurd (inR_mkL h1 h6 (by omega)) hc) (fun h6 => ?_)
    exact v_throwW (cls := iaE) (text := "no such question") rfl (by decide +kernel) at_iaek (by decide +kernel) at_iae dX11_needWhat_9 dX11_needWhat_12 dX11_needWhat_13 dX11_needWhat_16 dX11_needWhat_19 (by decide) (by decide) Tg.mk
theorem c11_needTray {c : Int32} (hc : inR 4 c = true) : Ct G Y11_needTray 8 0 0 [.ref 100, .int c] M (Rv none M) NX := by
  obtain ⟨j, hj, rfl, hj2⟩ := inR_of hc
  refine Ct.of k11_needTray.1 (Nat.le_of_ble_eq_true rfl) ?_
  refine v_iload_n dX11_needTray_0 rfl ?_
  refine v_if_lt 9 dX11_needTray_1 (by decide) (fun h1 => absurd h1 (nI_pos hj2)) (fun h1 => ?_)
  refine v_iload_n dX11_needTray_4 rfl ?_
  refine v_iconst 4 dX11_needTray_5 (by decide) ?_
  refine v_icmp_lt 20 dX11_needTray_6 (by decide) (fun h6 => ?_) (fun h6 => absurd (nI_lt (b := 4) hj (by decide)) h6)
  refine v_vret dX11_needTray_20 rfl ?_
  exact ⟨rfl, rfl⟩
theorem c11_needTrayF {c : Int32} (hc : ¬ inR 4 c = true) : Ct G Y11_needTray 8 1 6 [.ref 100, .int c] M (fun _ _ => False) (Tg nsE M) := by
  refine Ct.of k11_needTray.1 (Nat.le_of_ble_eq_true rfl) ?_
  refine v_iload_n dX11_needTray_0 rfl ?_
  refine v_if_lt 9 dX11_needTray_1 (by decide) (fun h1 => ?_) (fun h1 => ?_)
  · exact v_throwN (text := "no such tray") rfl (by decide +kernel) dX11_needTray_9 dX11_needTray_12 dX11_needTray_13 dX11_needTray_16 dX11_needTray_19 (by decide) (by decide) Tg.mk
  · refine v_iload_n dX11_needTray_4 rfl ?_
    refine v_iconst 4 dX11_needTray_5 (by decide) ?_
    refine v_icmp_lt 20 dX11_needTray_6 (by decide) (fun h6 => absurd (inR_mk (n := 4) h1 h6 (by decide)) hc) (fun h6 => ?_)
    exact v_throwN (text := "no such tray") rfl (by decide +kernel) dX11_needTray_9 dX11_needTray_12 dX11_needTray_13 dX11_needTray_16 dX11_needTray_19 (by decide) (by decide) Tg.mk
theorem c11_needImage {c : Int32} (hc : inR 3 c = true) : Ct G Y11_needImage 8 0 0 [.ref 100, .int c] M (Rv none M) NX := by
  obtain ⟨j, hj, rfl, hj2⟩ := inR_of hc
  refine Ct.of k11_needImage.1 (Nat.le_of_ble_eq_true rfl) ?_
  refine v_iload_n dX11_needImage_0 rfl ?_
  refine v_if_lt 9 dX11_needImage_1 (by decide) (fun h1 => absurd h1 (nI_pos hj2)) (fun h1 => ?_)
  refine v_iload_n dX11_needImage_4 rfl ?_
  refine v_iconst 3 dX11_needImage_5 (by decide) ?_
  refine v_icmp_lt 20 dX11_needImage_6 (by decide) (fun h6 => ?_) (fun h6 => absurd (nI_lt (b := 3) hj (by decide)) h6)
  refine v_vret dX11_needImage_20 rfl ?_
  exact ⟨rfl, rfl⟩
theorem c11_needImageF {c : Int32} (hc : ¬ inR 3 c = true) : Ct G Y11_needImage 8 1 6 [.ref 100, .int c] M (fun _ _ => False) (Tg nsE M) := by
  refine Ct.of k11_needImage.1 (Nat.le_of_ble_eq_true rfl) ?_
  refine v_iload_n dX11_needImage_0 rfl ?_
  refine v_if_lt 9 dX11_needImage_1 (by decide) (fun h1 => ?_) (fun h1 => ?_)
  · exact v_throwN (text := "no such image") rfl (by decide +kernel) dX11_needImage_9 dX11_needImage_12 dX11_needImage_13 dX11_needImage_16 dX11_needImage_19 (by decide) (by decide) Tg.mk
  · refine v_iload_n dX11_needImage_4 rfl ?_
    refine v_iconst 3 dX11_needImage_5 (by decide) ?_
    refine v_icmp_lt 20 dX11_needImage_6 (by decide) (fun h6 => absurd (inR_mk (n := 3) h1 h6 (by decide)) hc) (fun h6 => ?_)
    exact v_throwN (text := "no such image") rfl (by decide +kernel) dX11_needImage_9 dX11_needImage_12 dX11_needImage_13 dX11_needImage_16 dX11_needImage_19 (by decide) (by decide) Tg.mk
theorem c11_needStake {K : Nat → Int32} (h : MR M K) (hc : ¬ K 96 = -1) : Ct G Y11_needStake 8 0 0 [.ref 100] M (Rv none M) NX := by
  have hs := h.sd
  obtain ⟨hS, hW, -, -, p, cd, n, rd, l1, hp0, hp, hrd, hpa⟩ := h
  refine Ct.of k11_needStake.1 (Nat.le_of_ble_eq_true rfl) ?_
  refine v_aload_n dX11_needStake_0 rfl ?_
  refine v_getR 11 6 _ dX11_needStake_1 f11_34 (by first | exact hS.1 _ _ rfl | assumption) (by decide) (by first | exact hS.2 _ _ _ rfl | assumption) ?_
  refine v_getR 6 1 _ dX11_needStake_4 f11_119 (by first | exact hS.1 _ _ rfl | assumption) (by decide) (by first | exact hS.2 _ _ _ rfl | assumption) ?_
  refine v_getI 7 6 dX11_needStake_7 f11_228 (by first | exact hS.1 _ _ rfl | assumption) (by decide) ?_
  rw [hs.2.2.2.2.1]
  refine v_iconst (-1) dX11_needStake_10 (by decide) ?_
  refine v_icmp_ne 25 dX11_needStake_11 (by decide) (fun h11 => ?_) (fun h11 => absurd (Decidable.not_not.mp h11) hc)
  refine v_vret dX11_needStake_25 rfl ?_
  exact ⟨rfl, rfl⟩
theorem c11_needStakeF {K : Nat → Int32} (h : MR M K) (hc : K 96 = -1) : Ct G Y11_needStake 8 1 6 [.ref 100] M (fun _ _ => False) (Tg isE M) := by
  have hs := h.sd
  obtain ⟨hS, hW, -, -, p, cd, n, rd, l1, hp0, hp, hrd, hpa⟩ := h
  refine Ct.of k11_needStake.1 (Nat.le_of_ble_eq_true rfl) ?_
  refine v_aload_n dX11_needStake_0 rfl ?_
  refine v_getR 11 6 _ dX11_needStake_1 f11_34 (by first | exact hS.1 _ _ rfl | assumption) (by decide) (by first | exact hS.2 _ _ _ rfl | assumption) ?_
  refine v_getR 6 1 _ dX11_needStake_4 f11_119 (by first | exact hS.1 _ _ rfl | assumption) (by decide) (by first | exact hS.2 _ _ _ rfl | assumption) ?_
  refine v_getI 7 6 dX11_needStake_7 f11_228 (by first | exact hS.1 _ _ rfl | assumption) (by decide) ?_
  rw [hs.2.2.2.2.1]
  refine v_iconst (-1) dX11_needStake_10 (by decide) ?_
  refine v_icmp_ne 25 dX11_needStake_11 (by decide) (fun h11 => absurd hc h11) (fun h11 => ?_)
  exact v_throwW (cls := isE) (text := "there is no stake") rfl (by decide +kernel) at_isek (by decide +kernel) at_ise dX11_needStake_14 dX11_needStake_17 dX11_needStake_18 dX11_needStake_21 dX11_needStake_24 (by decide) (by decide) Tg.mk
theorem c11_needChestIn {K : Nat → Int32} (h : MR M K) {j : Nat} (hj : j < kn K 2) (hb : (kn K 93).testBit j = true) : Ct G Y11_needChestIn 9 0 0 [.ref 100, .int (nI j)] M (Rv none M) NX := by
  have hs := h.sd
  have h14 := h.2.1.p.2.1.2
  have hn := c11_needChest G M h (c := nI j) (inR_mk (nI_pos (by omega)) (nI_lt hj (by omega)) (by omega))
  obtain ⟨hS, hW, -, -, p, cd, n, rd, l1, hp0, hp, hrd, hpa⟩ := h
  have hi := c7_isIn G M hs hW (c := j) (by omega)
  rw [bI_t hb] at hi
  refine Ct.of k11_needChestIn.1 (Nat.le_of_ble_eq_true rfl) ?_
  refine v_aload_n dX11_needChestIn_0 rfl ?_
  refine v_iload_n dX11_needChestIn_1 rfl ?_
  refine v_cVv [_] (hn) k11_needChest dX11_needChestIn_2 l11_113 (by first | exact hS.1 _ _ rfl | assumption) (by decide) rfl (Nat.le_of_ble_eq_true rfl) (Nat.le_of_ble_eq_true rfl) ?_
  refine v_aload_n dX11_needChestIn_5 rfl ?_
  refine v_getR 11 6 _ dX11_needChestIn_6 f11_34 (by first | exact hS.1 _ _ rfl | assumption) (by decide) (by first | exact hS.2 _ _ _ rfl | assumption) ?_
  refine v_getR 6 1 _ dX11_needChestIn_9 f11_119 (by first | exact hS.1 _ _ rfl | assumption) (by decide) (by first | exact hS.2 _ _ _ rfl | assumption) ?_
  refine v_iload_n dX11_needChestIn_12 rfl ?_
  refine v_cV [_] (hi) k7_isIn dX11_needChestIn_13 l11_141 (by first | exact hS.1 _ _ rfl | assumption) (by decide) rfl (Nat.le_of_ble_eq_true rfl) (Nat.le_of_ble_eq_true rfl) ?_
  refine v_if_ne 30 dX11_needChestIn_16 (by decide) (fun h16 => ?_) (fun h16 => absurd (show ¬ (1 : Int32) = 0 by decide) h16)
  refine v_vret dX11_needChestIn_30 rfl ?_
  exact ⟨rfl, rfl⟩
/-- which throws: no such chest; or it isn't in the hall -/
theorem c11_needChestInF {K : Nat → Int32} (h : MR M K) {c : Int32} (hc : ¬ chF K c = 0) : Ct G Y11_needChestIn 9 1 6 [.ref 100, .int c] M (fun _ _ => False) (fun E M' => (chF K c = 1 ∧ Tg nsE M E M') ∨ (chF K c = 2 ∧ Tg isE M E M')) := by
  have hs := h.sd
  have h14 := h.2.1.p.2.1.2
  have h0 := h
  obtain ⟨hS, hW, -, -, p, cd, n, rd, l1, hp0, hp, hrd, hpa⟩ := h
  refine Ct.of k11_needChestIn.1 (Nat.le_of_ble_eq_true rfl) ?_
  by_cases hr : inR (kn K 2) c = true
  · obtain ⟨j, hj, rfl, hj2⟩ := inR_of hr
    have hb : ¬ (kn K 93).testBit j = true := fun z => hc (by rw [chF, if_pos hr, nI_clamp hj2, if_pos z])
    have h2 : chF K (nI j) = 2 := by rw [chF, if_pos hr, nI_clamp hj2, if_neg hb]
    have hn := c11_needChest G M h0 hr
    have hi := c7_isIn G M hs hW (c := j) (by omega)
    rw [bI_f hb] at hi
    refine v_aload_n dX11_needChestIn_0 rfl ?_
    refine v_iload_n dX11_needChestIn_1 rfl ?_
    refine v_cVv [_] (hn) k11_needChest dX11_needChestIn_2 l11_113 (by first | exact hS.1 _ _ rfl | assumption) (by decide) rfl (Nat.le_of_ble_eq_true rfl) (Nat.le_of_ble_eq_true rfl) ?_
    refine v_aload_n dX11_needChestIn_5 rfl ?_
    refine v_getR 11 6 _ dX11_needChestIn_6 f11_34 (by first | exact hS.1 _ _ rfl | assumption) (by decide) (by first | exact hS.2 _ _ _ rfl | assumption) ?_
    refine v_getR 6 1 _ dX11_needChestIn_9 f11_119 (by first | exact hS.1 _ _ rfl | assumption) (by decide) (by first | exact hS.2 _ _ _ rfl | assumption) ?_
    refine v_iload_n dX11_needChestIn_12 rfl ?_
    refine v_cV [_] (hi) k7_isIn dX11_needChestIn_13 l11_141 (by first | exact hS.1 _ _ rfl | assumption) (by decide) rfl (Nat.le_of_ble_eq_true rfl) (Nat.le_of_ble_eq_true rfl) ?_
    refine v_if_ne 30 dX11_needChestIn_16 (by decide) (fun h16 => absurd rfl h16) (fun h16 => ?_)
    exact V.post (v_throwW (cls := isE) (text := "the chest isn't in the hall") rfl (by decide +kernel) at_isek (by decide +kernel) at_ise dX11_needChestIn_19 dX11_needChestIn_22 dX11_needChestIn_23 dX11_needChestIn_26 dX11_needChestIn_29 (by decide) (by decide) Tg.mk : V G Y11_needChestIn 9 1 6 (fun _ _ => False) (Tg isE M) 19 _ _ M) (fun _ _ h => h) (fun E M' he => Or.inr ⟨h2, he⟩)
  · have h1 : chF K c = 1 := by rw [chF, if_neg hr]
    refine v_aload_n dX11_needChestIn_0 rfl ?_
    refine v_iload_n dX11_needChestIn_1 rfl ?_
    refine v_callV [_] (c11_needChestF G M h0 hr) k11_needChest dX11_needChestIn_2 l11_113 (by first | exact hS.1 _ _ rfl | assumption) (by decide) rfl (Nat.le_of_ble_eq_true rfl) (Nat.le_of_ble_eq_true rfl) (fun _ _ h => h.elim) (fun E M9 he => ?_)
    exact Or.inl ⟨h1, he⟩
theorem needD {nw : Nat} (h10 : nw ≤ 10) {d : Int32} : isDI nw d = true ↔ ((d &&& 1023) ||| ush d 10) &&& (nI (2 ^ nw - 1) ^^^ (-1)) = 0 ∧ (d &&& 1023) &&& ush d 10 = 0 := by
  have e1 : d &&& 1023 = nI (d.toBitVec.toNat % 1024) := pk_and d 10 (by decide)
  have e2 : ush d 10 = nI (d.toBitVec.toNat / 1024) := by
    apply i32_ext
    apply BitVec.eq_of_toNat_eq
    rw [nI_bv, BitVec.toNat_ofNat]
    have h1 : (ush d 10).toBitVec.toNat = d.toBitVec.toNat / 2 ^ 10 := pk_ushr d 10 10 (by decide)
    rw [h1]
    have := d.toBitVec.isLt
    omega
  have hlt := d.toBitVec.isLt
  have hp : 2 ^ nw ≤ 1024 := Nat.pow_le_pow_right (n := 2) (by decide) h10
  rw [e1, e2, nIor, andnot, nIand, nI0 (Nat.lt_of_le_of_lt (Nat.and_le_left) (by omega))]
  have hor : d.toBitVec.toNat % 1024 ||| d.toBitVec.toNat / 1024 < 2 ^ 22 := Nat.or_lt_two_pow (by omega) (by omega)
  rw [nI0 (Nat.lt_of_lt_of_le (dif_le _ _ (n := 22) hor) (by decide)), dif_low]
  unfold isDI
  constructor
  · intro hd
    rw [Bool.and_eq_true, decide_eq_true_eq] at hd
    obtain ⟨j, hj, rfl⟩ := nI_of hd.1
    rw [nI_clamp hj] at hd
    have hd2 := of_decide_eq_true hd.2
    rw [pk_tn (by omega)]
    exact ⟨hd2.2.2, hd2.2.1⟩
  · intro hd
    have hq : d.toBitVec.toNat / 1024 < 1024 := by
      have : d.toBitVec.toNat / 1024 ≤ d.toBitVec.toNat % 1024 ||| d.toBitVec.toNat / 1024 := Nat.right_le_or
      omega
    have hn : ¬ d < 0 := by
      intro z
      have : (d.toInt) < 0 := by simpa using Int32.lt_iff_toInt_lt.mp z
      rw [← Int32.toInt_toBitVec, BitVec.toInt_eq_toNat_cond] at this
      split at this <;> omega
    obtain ⟨j, hj, rfl⟩ := nI_of hn
    rw [Bool.and_eq_true, decide_eq_true_eq, nI_clamp hj]
    rw [pk_tn (by omega)] at hd hq
    exact ⟨hn, decide_eq_true ⟨by omega, hd.2, hd.1⟩⟩
theorem c11_needDescription {K : Nat → Int32} (h : MR M K) {d : Int32} (hd : isDI (kn K 3) d = true) : Ct G Y11_needDescription 8 0 0 [.ref 100, .int d] M (Rv none M) NX := by
  obtain ⟨hS, hW, -, -, p, cd, n, rd, l1, hp0, hp, hrd, hpa⟩ := h
  obtain ⟨q1, q2⟩ := (needD hW.p.2.2.1.2).mp hd
  refine Ct.of k11_needDescription.1 (Nat.le_of_ble_eq_true rfl) ?_
  refine v_iload_n dX11_needDescription_0 rfl ?_
  refine v_sipush 1023 dX11_needDescription_1 (by decide) ?_
  refine v_iand dX11_needDescription_4 ?_
  refine v_istore_n dX11_needDescription_5 rfl (by decide) ?_
  refine v_iload_n dX11_needDescription_6 rfl ?_
  refine v_bipush 10 dX11_needDescription_7 (by decide) ?_
  refine v_iushr dX11_needDescription_9 ?_
  refine v_istore_n dX11_needDescription_10 rfl (by decide) ?_
  refine v_iload_n dX11_needDescription_11 rfl ?_
  refine v_iload_n dX11_needDescription_12 rfl ?_
  refine v_ior dX11_needDescription_13 ?_
  refine v_aload_n dX11_needDescription_14 rfl ?_
  refine v_getR 11 6 _ dX11_needDescription_15 f11_34 (by first | exact hS.1 _ _ rfl | assumption) (by decide) (by first | exact hS.2 _ _ _ rfl | assumption) ?_
  refine v_getR 6 0 _ dX11_needDescription_18 f11_130 (by first | exact hS.1 _ _ rfl | assumption) (by decide) (by first | exact hS.2 _ _ _ rfl | assumption) ?_
  refine v_cV [] (c4_allWords G M hp hW.p) k4_allWords dX11_needDescription_21 l11_362 hp.1.1 (by decide) rfl (Nat.le_of_ble_eq_true rfl) (Nat.le_of_ble_eq_true rfl) ?_
  refine v_iconst (-1) dX11_needDescription_24 (by decide) ?_
  refine v_ixor dX11_needDescription_25 ?_
  refine v_iand dX11_needDescription_26 ?_
  refine v_if_ne 36 dX11_needDescription_27 (by decide) (fun h27 => absurd q1 h27) (fun h27 => ?_)
  refine v_iload_n dX11_needDescription_30 rfl ?_
  refine v_iload_n dX11_needDescription_31 rfl ?_
  refine v_iand dX11_needDescription_32 ?_
  refine v_if_eq 47 dX11_needDescription_33 (by decide) (fun h33 => ?_) (fun h33 => absurd q2 h33)
  refine v_vret dX11_needDescription_47 rfl ?_
  exact ⟨rfl, rfl⟩
theorem c11_needDescriptionF {K : Nat → Int32} (h : MR M K) {d : Int32} (hd : ¬ isDI (kn K 3) d = true) : Ct G Y11_needDescription 8 1 6 [.ref 100, .int d] M (fun _ _ => False) (Tg iaE M) := by
  obtain ⟨hS, hW, -, -, p, cd, n, rd, l1, hp0, hp, hrd, hpa⟩ := h
  refine Ct.of k11_needDescription.1 (Nat.le_of_ble_eq_true rfl) ?_
  refine v_iload_n dX11_needDescription_0 rfl ?_
  refine v_sipush 1023 dX11_needDescription_1 (by decide) ?_
  refine v_iand dX11_needDescription_4 ?_
  refine v_istore_n dX11_needDescription_5 rfl (by decide) ?_
  refine v_iload_n dX11_needDescription_6 rfl ?_
  refine v_bipush 10 dX11_needDescription_7 (by decide) ?_
  refine v_iushr dX11_needDescription_9 ?_
  refine v_istore_n dX11_needDescription_10 rfl (by decide) ?_
  refine v_iload_n dX11_needDescription_11 rfl ?_
  refine v_iload_n dX11_needDescription_12 rfl ?_
  refine v_ior dX11_needDescription_13 ?_
  refine v_aload_n dX11_needDescription_14 rfl ?_
  refine v_getR 11 6 _ dX11_needDescription_15 f11_34 (by first | exact hS.1 _ _ rfl | assumption) (by decide) (by first | exact hS.2 _ _ _ rfl | assumption) ?_
  refine v_getR 6 0 _ dX11_needDescription_18 f11_130 (by first | exact hS.1 _ _ rfl | assumption) (by decide) (by first | exact hS.2 _ _ _ rfl | assumption) ?_
  refine v_cV [] (c4_allWords G M hp hW.p) k4_allWords dX11_needDescription_21 l11_362 hp.1.1 (by decide) rfl (Nat.le_of_ble_eq_true rfl) (Nat.le_of_ble_eq_true rfl) ?_
  refine v_iconst (-1) dX11_needDescription_24 (by decide) ?_
  refine v_ixor dX11_needDescription_25 ?_
  refine v_iand dX11_needDescription_26 ?_
  refine v_if_ne 36 dX11_needDescription_27 (by decide) (fun h27 => ?_) (fun h27 => ?_)
  · exact v_throwW (cls := iaE) (text := "no description") rfl (by decide +kernel) at_iaek (by decide +kernel) at_iae dX11_needDescription_36 dX11_needDescription_39 dX11_needDescription_40 dX11_needDescription_43 dX11_needDescription_46 (by decide) (by decide) Tg.mk
  · refine v_iload_n dX11_needDescription_30 rfl ?_
    refine v_iload_n dX11_needDescription_31 rfl ?_
    refine v_iand dX11_needDescription_32 ?_
    refine v_if_eq 47 dX11_needDescription_33 (by decide) (fun h33 => absurd ((needD hW.p.2.2.1.2).mpr ⟨Decidable.not_not.mp h27, h33⟩) hd) (fun h33 => ?_)
    exact v_throwW (cls := iaE) (text := "no description") rfl (by decide +kernel) at_iaek (by decide +kernel) at_iae dX11_needDescription_36 dX11_needDescription_39 dX11_needDescription_40 dX11_needDescription_43 dX11_needDescription_46 (by decide) (by decide) Tg.mk
end N1
