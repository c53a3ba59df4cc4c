/-! ===== the law's wrappers, each with its handlers (written by wip/whole/gen_w.py) ===== -/
theorem cl_ia : Cond.classLink RL 13 iaE ∈ aw := aw_w (List.mem_of_getElem? (i := 732) (by decide +kernel)) rfl
theorem cl_ns : Cond.classLink RL 19 nsE ∈ aw := aw_w (List.mem_of_getElem? (i := 1105) (by decide +kernel)) rfl
theorem cl_is : Cond.classLink RL 44 isE ∈ aw := aw_w (List.mem_of_getElem? (i := 1205) (by decide +kernel)) rfl
theorem cl_io : Cond.classLink RL 125 ioE ∈ aw := aw_w (List.mem_of_getElem? (i := 1559) (by decide +kernel)) rfl
theorem ow_ia : Cond.castable iaE iaE ∈ ow := List.mem_filter.mpr ⟨List.mem_of_getElem? (i := 739) (by decide +kernel), rfl⟩
theorem ow_ns : Cond.castable nsE nsE ∈ ow := List.mem_filter.mpr ⟨List.mem_of_getElem? (i := 1116) (by decide +kernel), rfl⟩
theorem ow_is : Cond.castable isE isE ∈ ow := List.mem_filter.mpr ⟨List.mem_of_getElem? (i := 1216) (by decide +kernel), rfl⟩
theorem ow_io : Cond.castable ioE ioE ∈ ow := List.mem_filter.mpr ⟨List.mem_of_getElem? (i := 1566) (by decide +kernel), rfl⟩
theorem ex_ia : iaE ∈ exL := by decide +kernel
theorem ex_ns : nsE ∈ exL := by decide +kernel
theorem ex_is : isE ∈ exL := by decide +kernel
theorem ex_io : ioE ∈ exL := by decide +kernel
theorem z_clamp : (0 : Int32).toNatClampNeg = 0 := by decide
section WRAPS
variable (G : mG) {M : mM}
theorem kL_asking : mOKw YL_asking [(0, 9, 12, 13)] 3 := ⟨aw_w (List.mem_of_getElem? (i := 1449) (by decide +kernel)) rfl, N_L, by decide +kernel, ⟨by decide +kernel, by decide +kernel, by decide +kernel⟩, by decide, aw_w (List.mem_of_getElem? (i := 1448) (by decide +kernel)) rfl⟩
theorem ca_asking_0p : ∀ z ∈ ([] : List ExceptionTableEntry), z.catchType ≠ 0 ∧ ∃ n2 : String, Cond.classLink (yy YL_asking).cls z.catchType n2 ∈ aw ∧ iaE ∈ exL ∧ n2 ∈ exL ∧ iaE ≠ n2 := by intro z h; cases h
theorem ca_asking_0 : CatchAt YL_asking [(0, 9, 12, 13)] 4 iaE 12 3 13 := ⟨[], ⟨0, 9, 12, 13⟩, [], iaE, rfl, ca_asking_0p, by decide, by decide, cl_ia, ow_ia, rfl, by decide, Or.inl ⟨3, rfl, dL_asking_12, rfl⟩⟩
theorem w_asking {D mc ms : Nat} (a1 : Int32) {Q2 : Option Value → mM → Prop} {X2 : String → mM → Prop} {Q : Int32 → mM → Prop} (hM : Ct G Y11_asking D mc ms [.ref 100, .int a1] M Q2 X2) (hT : gT M 100 = .inl 11) (hq : ∀ a M1, Q2 a M1 → ∃ r : Int32, a = some (.int r) ∧ gT M1 247 = .inr (1, 1) ∧ Q 0 (sJ M1 247 0 r.toInt64)) (hx : ∀ E M1, X2 E M1 → ∃ t, (t, E) ∈ ([(1, iaE)] : List (Int32 × String)) ∧ Q t M1) : CtW G YL_asking [(0, 9, 12, 13)] (D + 1) mc ms [.ref 100, .int a1, .ref 247] M (fun a M1 => ∃ t, a = some (.int t) ∧ Q t M1) := by
  refine CtW.of kL_asking (Nat.le_of_ble_eq_true rfl) ?_
  refine h_pad ?_
  refine h_aload_n dL_asking_0 rfl ?_
  refine h_iconst 0 dL_asking_1 (by decide) ?_
  refine h_aload_n dL_asking_2 rfl ?_
  refine h_iload_n dL_asking_3 rfl ?_
  refine VH.up (kc := 0 + mc) (ks := 0 + ms) (h_callV (mc2 := mc) (ms2 := ms) (D2 := D) [.int a1] hM k11_asking dL_asking_4 lL_99 hT ⟨by decide, rfl⟩ rfl (Nat.le_refl _) (by decide) (fun v M1 q => ?_) (fun E M1 q => ?_)) (by omega) (by omega)
  · obtain ⟨r, rfl, h247, hQ⟩ := hq _ _ q
    refine h_i2l dL_asking_7 ?_
    refine h_last dL_asking_8 h247 (vp_in_iff.mpr (by decide)) ?_
    rw [z_clamp]
    refine h_goto 15 dL_asking_9 (by decide) ?_
    exact h_iconst 0 dL_asking_15 (by decide) (h_iret dL_asking_16 rfl ⟨0, rfl, hQ⟩)
  · obtain ⟨t, hm, hQ⟩ := hx _ _ q
    simp only [List.mem_cons, List.not_mem_nil, or_false, Prod.mk.injEq] at hm
    obtain ⟨rfl, rfl⟩ := hm
    exact ⟨12, 3, 13, ca_asking_0, rfl, h_iconst 1 dL_asking_13 (by decide) (h_iret dL_asking_14 rfl ⟨1, rfl, hQ⟩)⟩
theorem kL_blind : mOKw YL_blind [(0, 9, 12, 19), (0, 9, 15, 44)] 3 := ⟨aw_w (List.mem_of_getElem? (i := 1236) (by decide +kernel)) rfl, N_L, by decide +kernel, ⟨by decide +kernel, by decide +kernel, by decide +kernel⟩, by decide, aw_w (List.mem_of_getElem? (i := 1235) (by decide +kernel)) rfl⟩
theorem ca_blind_0p : ∀ z ∈ ([] : List ExceptionTableEntry), z.catchType ≠ 0 ∧ ∃ n2 : String, Cond.classLink (yy YL_blind).cls z.catchType n2 ∈ aw ∧ nsE ∈ exL ∧ n2 ∈ exL ∧ nsE ≠ n2 := by intro z h; cases h
theorem ca_blind_0 : CatchAt YL_blind [(0, 9, 12, 19), (0, 9, 15, 44)] 4 nsE 12 3 13 := ⟨[], ⟨0, 9, 12, 19⟩, [⟨0, 9, 15, 44⟩], nsE, rfl, ca_blind_0p, by decide, by decide, cl_ns, ow_ns, rfl, by decide, Or.inl ⟨3, rfl, dL_blind_12, rfl⟩⟩
theorem ca_blind_1p : ∀ z ∈ ([⟨0, 9, 12, 19⟩] : List ExceptionTableEntry), z.catchType ≠ 0 ∧ ∃ n2 : String, Cond.classLink (yy YL_blind).cls z.catchType n2 ∈ aw ∧ isE ∈ exL ∧ n2 ∈ exL ∧ isE ≠ n2 := by
  intro z h
  rcases List.mem_cons.mp h with rfl | h
  · exact ⟨by decide, nsE, cl_ns, ex_is, ex_ns, by decide +kernel⟩
  cases h
theorem ca_blind_1 : CatchAt YL_blind [(0, 9, 12, 19), (0, 9, 15, 44)] 4 isE 15 3 16 := ⟨[⟨0, 9, 12, 19⟩], ⟨0, 9, 15, 44⟩, [], isE, rfl, ca_blind_1p, by decide, by decide, cl_is, ow_is, rfl, by decide, Or.inl ⟨3, rfl, dL_blind_15, rfl⟩⟩
theorem w_blind {D mc ms : Nat} (a1 : Int32) {Q2 : Option Value → mM → Prop} {X2 : String → mM → Prop} {Q : Int32 → mM → Prop} (hM : Ct G Y11_blind D mc ms [.ref 100, .int a1] M Q2 X2) (hT : gT M 100 = .inl 11) (hq : ∀ a M1, Q2 a M1 → ∃ r : Int32, a = some (.int r) ∧ gT M1 247 = .inr (1, 1) ∧ Q 0 (sJ M1 247 0 r.toInt64)) (hx : ∀ E M1, X2 E M1 → ∃ t, (t, E) ∈ ([(1, nsE), (2, isE)] : List (Int32 × String)) ∧ Q t M1) : CtW G YL_blind [(0, 9, 12, 19), (0, 9, 15, 44)] (D + 1) mc ms [.ref 100, .int a1, .ref 247] M (fun a M1 => ∃ t, a = some (.int t) ∧ Q t M1) := by
  refine CtW.of kL_blind (Nat.le_of_ble_eq_true rfl) ?_
  refine h_pad ?_
  refine h_aload_n dL_blind_0 rfl ?_
  refine h_iconst 0 dL_blind_1 (by decide) ?_
  refine h_aload_n dL_blind_2 rfl ?_
  refine h_iload_n dL_blind_3 rfl ?_
  refine VH.up (kc := 0 + mc) (ks := 0 + ms) (h_callV (mc2 := mc) (ms2 := ms) (D2 := D) [.int a1] hM k11_blind dL_blind_4 lL_46 hT ⟨by decide, rfl⟩ rfl (Nat.le_refl _) (by decide) (fun v M1 q => ?_) (fun E M1 q => ?_)) (by omega) (by omega)
  · obtain ⟨r, rfl, h247, hQ⟩ := hq _ _ q
    refine h_i2l dL_blind_7 ?_
    refine h_last dL_blind_8 h247 (vp_in_iff.mpr (by decide)) ?_
    rw [z_clamp]
    refine h_goto 18 dL_blind_9 (by decide) ?_
    exact h_iconst 0 dL_blind_18 (by decide) (h_iret dL_blind_19 rfl ⟨0, rfl, hQ⟩)
  · obtain ⟨t, hm, hQ⟩ := hx _ _ q
    simp only [List.mem_cons, List.not_mem_nil, or_false, Prod.mk.injEq] at hm
    rcases hm with ⟨rfl, rfl⟩ | ⟨rfl, rfl⟩
    · exact ⟨12, 3, 13, ca_blind_0, rfl, h_iconst 1 dL_blind_13 (by decide) (h_iret dL_blind_14 rfl ⟨1, rfl, hQ⟩)⟩
    · exact ⟨15, 3, 16, ca_blind_1, rfl, h_iconst 2 dL_blind_16 (by decide) (h_iret dL_blind_17 rfl ⟨2, rfl, hQ⟩)⟩
theorem kL_carry : mOKw YL_carry [(0, 9, 12, 19)] 3 := ⟨aw_w (List.mem_of_getElem? (i := 1319) (by decide +kernel)) rfl, N_L, by decide +kernel, ⟨by decide +kernel, by decide +kernel, by decide +kernel⟩, by decide, aw_w (List.mem_of_getElem? (i := 1318) (by decide +kernel)) rfl⟩
theorem ca_carry_0p : ∀ z ∈ ([] : List ExceptionTableEntry), z.catchType ≠ 0 ∧ ∃ n2 : String, Cond.classLink (yy YL_carry).cls z.catchType n2 ∈ aw ∧ nsE ∈ exL ∧ n2 ∈ exL ∧ nsE ≠ n2 := by intro z h; cases h
theorem ca_carry_0 : CatchAt YL_carry [(0, 9, 12, 19)] 4 nsE 12 3 13 := ⟨[], ⟨0, 9, 12, 19⟩, [], nsE, rfl, ca_carry_0p, by decide, by decide, cl_ns, ow_ns, rfl, by decide, Or.inl ⟨3, rfl, dL_carry_12, rfl⟩⟩
theorem w_carry {D mc ms : Nat} (a1 : Int32) {Q2 : Option Value → mM → Prop} {X2 : String → mM → Prop} {Q : Int32 → mM → Prop} (hM : Ct G Y11_carry D mc ms [.ref 100, .int a1] M Q2 X2) (hT : gT M 100 = .inl 11) (hq : ∀ a M1, Q2 a M1 → ∃ r : Int32, a = some (.int r) ∧ gT M1 247 = .inr (1, 1) ∧ Q 0 (sJ M1 247 0 r.toInt64)) (hx : ∀ E M1, X2 E M1 → ∃ t, (t, E) ∈ ([(1, nsE)] : List (Int32 × String)) ∧ Q t M1) : CtW G YL_carry [(0, 9, 12, 19)] (D + 1) mc ms [.ref 100, .int a1, .ref 247] M (fun a M1 => ∃ t, a = some (.int t) ∧ Q t M1) := by
  refine CtW.of kL_carry (Nat.le_of_ble_eq_true rfl) ?_
  refine h_pad ?_
  refine h_aload_n dL_carry_0 rfl ?_
  refine h_iconst 0 dL_carry_1 (by decide) ?_
  refine h_aload_n dL_carry_2 rfl ?_
  refine h_iload_n dL_carry_3 rfl ?_
  refine VH.up (kc := 0 + mc) (ks := 0 + ms) (h_callV (mc2 := mc) (ms2 := ms) (D2 := D) [.int a1] hM k11_carry dL_carry_4 lL_71 hT ⟨by decide, rfl⟩ rfl (Nat.le_refl _) (by decide) (fun v M1 q => ?_) (fun E M1 q => ?_)) (by omega) (by omega)
  · obtain ⟨r, rfl, h247, hQ⟩ := hq _ _ q
    refine h_i2l dL_carry_7 ?_
    refine h_last dL_carry_8 h247 (vp_in_iff.mpr (by decide)) ?_
    rw [z_clamp]
    refine h_goto 15 dL_carry_9 (by decide) ?_
    exact h_iconst 0 dL_carry_15 (by decide) (h_iret dL_carry_16 rfl ⟨0, rfl, hQ⟩)
  · obtain ⟨t, hm, hQ⟩ := hx _ _ q
    simp only [List.mem_cons, List.not_mem_nil, or_false, Prod.mk.injEq] at hm
    obtain ⟨rfl, rfl⟩ := hm
    exact ⟨12, 3, 13, ca_carry_0, rfl, h_iconst 1 dL_carry_13 (by decide) (h_iret dL_carry_14 rfl ⟨1, rfl, hQ⟩)⟩
theorem kL_change : mOKw YL_change [(0, 12, 15, 19), (0, 12, 19, 13)] 5 := ⟨aw_w (List.mem_of_getElem? (i := 1330) (by decide +kernel)) rfl, N_L, by decide +kernel, ⟨by decide +kernel, by decide +kernel, by decide +kernel⟩, by decide, aw_w (List.mem_of_getElem? (i := 1329) (by decide +kernel)) rfl⟩
theorem ca_change_0p : ∀ z ∈ ([] : List ExceptionTableEntry), z.catchType ≠ 0 ∧ ∃ n2 : String, Cond.classLink (yy YL_change).cls z.catchType n2 ∈ aw ∧ nsE ∈ exL ∧ n2 ∈ exL ∧ nsE ≠ n2 := by intro z h; cases h
theorem ca_change_0 : CatchAt YL_change [(0, 12, 15, 19), (0, 12, 19, 13)] 7 nsE 15 5 17 := ⟨[], ⟨0, 12, 15, 19⟩, [⟨0, 12, 19, 13⟩], nsE, rfl, ca_change_0p, by decide, by decide, cl_ns, ow_ns, rfl, by decide, Or.inr ⟨dL_change_15, rfl⟩⟩
theorem ca_change_1p : ∀ z ∈ ([⟨0, 12, 15, 19⟩] : List ExceptionTableEntry), z.catchType ≠ 0 ∧ ∃ n2 : String, Cond.classLink (yy YL_change).cls z.catchType n2 ∈ aw ∧ iaE ∈ exL ∧ n2 ∈ exL ∧ iaE ≠ n2 := by
  intro z h
  rcases List.mem_cons.mp h with rfl | h
  · exact ⟨by decide, nsE, cl_ns, ex_ia, ex_ns, by decide +kernel⟩
  cases h
theorem ca_change_1 : CatchAt YL_change [(0, 12, 15, 19), (0, 12, 19, 13)] 7 iaE 19 5 21 := ⟨[⟨0, 12, 15, 19⟩], ⟨0, 12, 19, 13⟩, [], iaE, rfl, ca_change_1p, by decide, by decide, cl_ia, ow_ia, rfl, by decide, Or.inr ⟨dL_change_19, rfl⟩⟩
theorem w_change {D mc ms : Nat} (a1 : Int32) (a2 : Int32) (a3 : Int32) {Q2 : Option Value → mM → Prop} {X2 : String → mM → Prop} {Q : Int32 → mM → Prop} (hM : Ct G Y11_change D mc ms [.ref 100, .int a1, .int a2, .int a3] M Q2 X2) (hT : gT M 100 = .inl 11) (hq : ∀ a M1, Q2 a M1 → ∃ r : Int32, a = some (.int r) ∧ gT M1 247 = .inr (1, 1) ∧ Q 0 (sJ M1 247 0 r.toInt64)) (hx : ∀ E M1, X2 E M1 → ∃ t, (t, E) ∈ ([(1, nsE), (2, iaE)] : List (Int32 × String)) ∧ Q t M1) : CtW G YL_change [(0, 12, 15, 19), (0, 12, 19, 13)] (D + 1) mc ms [.ref 100, .int a1, .int a2, .int a3, .ref 247] M (fun a M1 => ∃ t, a = some (.int t) ∧ Q t M1) := by
  refine CtW.of kL_change (Nat.le_of_ble_eq_true rfl) ?_
  refine h_pad ?_
  refine h_aload dL_change_0 rfl ?_
  refine h_iconst 0 dL_change_2 (by decide) ?_
  refine h_aload_n dL_change_3 rfl ?_
  refine h_iload_n dL_change_4 rfl ?_
  refine h_iload_n dL_change_5 rfl ?_
  refine h_iload_n dL_change_6 rfl ?_
  refine VH.up (kc := 0 + mc) (ks := 0 + ms) (h_callV (mc2 := mc) (ms2 := ms) (D2 := D) [.int a1, .int a2, .int a3] hM k11_change dL_change_7 lL_74 hT ⟨by decide, rfl⟩ rfl (Nat.le_refl _) (by decide) (fun v M1 q => ?_) (fun E M1 q => ?_)) (by omega) (by omega)
  · obtain ⟨r, rfl, h247, hQ⟩ := hq _ _ q
    refine h_i2l dL_change_10 ?_
    refine h_last dL_change_11 h247 (vp_in_iff.mpr (by decide)) ?_
    rw [z_clamp]
    refine h_goto 23 dL_change_12 (by decide) ?_
    exact h_iconst 0 dL_change_23 (by decide) (h_iret dL_change_24 rfl ⟨0, rfl, hQ⟩)
  · obtain ⟨t, hm, hQ⟩ := hx _ _ q
    simp only [List.mem_cons, List.not_mem_nil, or_false, Prod.mk.injEq] at hm
    rcases hm with ⟨rfl, rfl⟩ | ⟨rfl, rfl⟩
    · exact ⟨15, 5, 17, ca_change_0, rfl, h_iconst 1 dL_change_17 (by decide) (h_iret dL_change_18 rfl ⟨1, rfl, hQ⟩)⟩
    · exact ⟨19, 5, 21, ca_change_1, rfl, h_iconst 2 dL_change_21 (by decide) (h_iret dL_change_22 rfl ⟨2, rfl, hQ⟩)⟩
theorem kL_chest : mOKw YL_chest [(0, 10, 13, 19), (0, 10, 17, 13)] 4 := ⟨aw_w (List.mem_of_getElem? (i := 1142) (by decide +kernel)) rfl, N_L, by decide +kernel, ⟨by decide +kernel, by decide +kernel, by decide +kernel⟩, by decide, aw_w (List.mem_of_getElem? (i := 1141) (by decide +kernel)) rfl⟩
theorem ca_chest_0p : ∀ z ∈ ([] : List ExceptionTableEntry), z.catchType ≠ 0 ∧ ∃ n2 : String, Cond.classLink (yy YL_chest).cls z.catchType n2 ∈ aw ∧ nsE ∈ exL ∧ n2 ∈ exL ∧ nsE ≠ n2 := by intro z h; cases h
theorem ca_chest_0 : CatchAt YL_chest [(0, 10, 13, 19), (0, 10, 17, 13)] 5 nsE 13 4 15 := ⟨[], ⟨0, 10, 13, 19⟩, [⟨0, 10, 17, 13⟩], nsE, rfl, ca_chest_0p, by decide, by decide, cl_ns, ow_ns, rfl, by decide, Or.inr ⟨dL_chest_13, rfl⟩⟩
theorem ca_chest_1p : ∀ z ∈ ([⟨0, 10, 13, 19⟩] : List ExceptionTableEntry), z.catchType ≠ 0 ∧ ∃ n2 : String, Cond.classLink (yy YL_chest).cls z.catchType n2 ∈ aw ∧ iaE ∈ exL ∧ n2 ∈ exL ∧ iaE ≠ n2 := by
  intro z h
  rcases List.mem_cons.mp h with rfl | h
  · exact ⟨by decide, nsE, cl_ns, ex_ia, ex_ns, by decide +kernel⟩
  cases h
theorem ca_chest_1 : CatchAt YL_chest [(0, 10, 13, 19), (0, 10, 17, 13)] 5 iaE 17 4 19 := ⟨[⟨0, 10, 13, 19⟩], ⟨0, 10, 17, 13⟩, [], iaE, rfl, ca_chest_1p, by decide, by decide, cl_ia, ow_ia, rfl, by decide, Or.inr ⟨dL_chest_17, rfl⟩⟩
theorem w_chest {D mc ms : Nat} (a1 : Int32) (a2 : Int32) {Q2 : Option Value → mM → Prop} {X2 : String → mM → Prop} {Q : Int32 → mM → Prop} (hM : Ct G Y11_chest D mc ms [.ref 100, .int a1, .int a2] M Q2 X2) (hT : gT M 100 = .inl 11) (hq : ∀ a M1, Q2 a M1 → ∃ r : Int32, a = some (.int r) ∧ gT M1 247 = .inr (1, 1) ∧ Q 0 (sJ M1 247 0 r.toInt64)) (hx : ∀ E M1, X2 E M1 → ∃ t, (t, E) ∈ ([(1, nsE), (2, iaE)] : List (Int32 × String)) ∧ Q t M1) : CtW G YL_chest [(0, 10, 13, 19), (0, 10, 17, 13)] (D + 1) mc ms [.ref 100, .int a1, .int a2, .ref 247] M (fun a M1 => ∃ t, a = some (.int t) ∧ Q t M1) := by
  refine CtW.of kL_chest (Nat.le_of_ble_eq_true rfl) ?_
  refine h_pad ?_
  refine h_aload_n dL_chest_0 rfl ?_
  refine h_iconst 0 dL_chest_1 (by decide) ?_
  refine h_aload_n dL_chest_2 rfl ?_
  refine h_iload_n dL_chest_3 rfl ?_
  refine h_iload_n dL_chest_4 rfl ?_
  refine VH.up (kc := 0 + mc) (ks := 0 + ms) (h_callV (mc2 := mc) (ms2 := ms) (D2 := D) [.int a1, .int a2] hM k11_chest dL_chest_5 lL_21 hT ⟨by decide, rfl⟩ rfl (Nat.le_refl _) (by decide) (fun v M1 q => ?_) (fun E M1 q => ?_)) (by omega) (by omega)
  · obtain ⟨r, rfl, h247, hQ⟩ := hq _ _ q
    refine h_i2l dL_chest_8 ?_
    refine h_last dL_chest_9 h247 (vp_in_iff.mpr (by decide)) ?_
    rw [z_clamp]
    refine h_goto 21 dL_chest_10 (by decide) ?_
    exact h_iconst 0 dL_chest_21 (by decide) (h_iret dL_chest_22 rfl ⟨0, rfl, hQ⟩)
  · obtain ⟨t, hm, hQ⟩ := hx _ _ q
    simp only [List.mem_cons, List.not_mem_nil, or_false, Prod.mk.injEq] at hm
    rcases hm with ⟨rfl, rfl⟩ | ⟨rfl, rfl⟩
    · exact ⟨13, 4, 15, ca_chest_0, rfl, h_iconst 1 dL_chest_15 (by decide) (h_iret dL_chest_16 rfl ⟨1, rfl, hQ⟩)⟩
    · exact ⟨17, 4, 19, ca_chest_1, rfl, h_iconst 2 dL_chest_19 (by decide) (h_iret dL_chest_20 rfl ⟨2, rfl, hQ⟩)⟩
theorem kL_claim : mOKw YL_claim [(0, 10, 13, 19), (0, 10, 17, 44), (0, 10, 21, 13)] 4 := ⟨aw_w (List.mem_of_getElem? (i := 1286) (by decide +kernel)) rfl, N_L, by decide +kernel, ⟨by decide +kernel, by decide +kernel, by decide +kernel⟩, by decide, aw_w (List.mem_of_getElem? (i := 1285) (by decide +kernel)) rfl⟩
theorem ca_claim_0p : ∀ z ∈ ([] : List ExceptionTableEntry), z.catchType ≠ 0 ∧ ∃ n2 : String, Cond.classLink (yy YL_claim).cls z.catchType n2 ∈ aw ∧ nsE ∈ exL ∧ n2 ∈ exL ∧ nsE ≠ n2 := by intro z h; cases h
theorem ca_claim_0 : CatchAt YL_claim [(0, 10, 13, 19), (0, 10, 17, 44), (0, 10, 21, 13)] 5 nsE 13 4 15 := ⟨[], ⟨0, 10, 13, 19⟩, [⟨0, 10, 17, 44⟩, ⟨0, 10, 21, 13⟩], nsE, rfl, ca_claim_0p, by decide, by decide, cl_ns, ow_ns, rfl, by decide, Or.inr ⟨dL_claim_13, rfl⟩⟩
theorem ca_claim_1p : ∀ z ∈ ([⟨0, 10, 13, 19⟩] : List ExceptionTableEntry), z.catchType ≠ 0 ∧ ∃ n2 : String, Cond.classLink (yy YL_claim).cls z.catchType n2 ∈ aw ∧ isE ∈ exL ∧ n2 ∈ exL ∧ isE ≠ n2 := by
  intro z h
  rcases List.mem_cons.mp h with rfl | h
  · exact ⟨by decide, nsE, cl_ns, ex_is, ex_ns, by decide +kernel⟩
  cases h
theorem ca_claim_1 : CatchAt YL_claim [(0, 10, 13, 19), (0, 10, 17, 44), (0, 10, 21, 13)] 5 isE 17 4 19 := ⟨[⟨0, 10, 13, 19⟩], ⟨0, 10, 17, 44⟩, [⟨0, 10, 21, 13⟩], isE, rfl, ca_claim_1p, by decide, by decide, cl_is, ow_is, rfl, by decide, Or.inr ⟨dL_claim_17, rfl⟩⟩
theorem ca_claim_2p : ∀ z ∈ ([⟨0, 10, 13, 19⟩, ⟨0, 10, 17, 44⟩] : List ExceptionTableEntry), z.catchType ≠ 0 ∧ ∃ n2 : String, Cond.classLink (yy YL_claim).cls z.catchType n2 ∈ aw ∧ iaE ∈ exL ∧ n2 ∈ exL ∧ iaE ≠ n2 := by
  intro z h
  rcases List.mem_cons.mp h with rfl | h
  · exact ⟨by decide, nsE, cl_ns, ex_ia, ex_ns, by decide +kernel⟩
  rcases List.mem_cons.mp h with rfl | h
  · exact ⟨by decide, isE, cl_is, ex_ia, ex_is, by decide +kernel⟩
  cases h
theorem ca_claim_2 : CatchAt YL_claim [(0, 10, 13, 19), (0, 10, 17, 44), (0, 10, 21, 13)] 5 iaE 21 4 23 := ⟨[⟨0, 10, 13, 19⟩, ⟨0, 10, 17, 44⟩], ⟨0, 10, 21, 13⟩, [], iaE, rfl, ca_claim_2p, by decide, by decide, cl_ia, ow_ia, rfl, by decide, Or.inr ⟨dL_claim_21, rfl⟩⟩
theorem w_claim {D mc ms : Nat} (a1 : Int32) (a2 : Int32) {Q2 : Option Value → mM → Prop} {X2 : String → mM → Prop} {Q : Int32 → mM → Prop} (hM : Ct G Y11_claim D mc ms [.ref 100, .int a1, .int a2] M Q2 X2) (hT : gT M 100 = .inl 11) (hq : ∀ a M1, Q2 a M1 → ∃ r : Int32, a = some (.int r) ∧ gT M1 247 = .inr (1, 1) ∧ Q 0 (sJ M1 247 0 r.toInt64)) (hx : ∀ E M1, X2 E M1 → ∃ t, (t, E) ∈ ([(1, nsE), (2, isE), (3, iaE)] : List (Int32 × String)) ∧ Q t M1) : CtW G YL_claim [(0, 10, 13, 19), (0, 10, 17, 44), (0, 10, 21, 13)] (D + 1) mc ms [.ref 100, .int a1, .int a2, .ref 247] M (fun a M1 => ∃ t, a = some (.int t) ∧ Q t M1) := by
  refine CtW.of kL_claim (Nat.le_of_ble_eq_true rfl) ?_
  refine h_pad ?_
  refine h_aload_n dL_claim_0 rfl ?_
  refine h_iconst 0 dL_claim_1 (by decide) ?_
  refine h_aload_n dL_claim_2 rfl ?_
  refine h_iload_n dL_claim_3 rfl ?_
  refine h_iload_n dL_claim_4 rfl ?_
  refine VH.up (kc := 0 + mc) (ks := 0 + ms) (h_callV (mc2 := mc) (ms2 := ms) (D2 := D) [.int a1, .int a2] hM k11_claim dL_claim_5 lL_64 hT ⟨by decide, rfl⟩ rfl (Nat.le_refl _) (by decide) (fun v M1 q => ?_) (fun E M1 q => ?_)) (by omega) (by omega)
  · obtain ⟨r, rfl, h247, hQ⟩ := hq _ _ q
    refine h_i2l dL_claim_8 ?_
    refine h_last dL_claim_9 h247 (vp_in_iff.mpr (by decide)) ?_
    rw [z_clamp]
    refine h_goto 25 dL_claim_10 (by decide) ?_
    exact h_iconst 0 dL_claim_25 (by decide) (h_iret dL_claim_26 rfl ⟨0, rfl, hQ⟩)
  · obtain ⟨t, hm, hQ⟩ := hx _ _ q
    simp only [List.mem_cons, List.not_mem_nil, or_false, Prod.mk.injEq] at hm
    rcases hm with ⟨rfl, rfl⟩ | ⟨rfl, rfl⟩ | ⟨rfl, rfl⟩
    · exact ⟨13, 4, 15, ca_claim_0, rfl, h_iconst 1 dL_claim_15 (by decide) (h_iret dL_claim_16 rfl ⟨1, rfl, hQ⟩)⟩
    · exact ⟨17, 4, 19, ca_claim_1, rfl, h_iconst 2 dL_claim_19 (by decide) (h_iret dL_claim_20 rfl ⟨2, rfl, hQ⟩)⟩
    · exact ⟨21, 4, 23, ca_claim_2, rfl, h_iconst 3 dL_claim_23 (by decide) (h_iret dL_claim_24 rfl ⟨3, rfl, hQ⟩)⟩
theorem kL_common : mOKw YL_common [(0, 9, 12, 13)] 3 := ⟨aw_w (List.mem_of_getElem? (i := 1522) (by decide +kernel)) rfl, N_L, by decide +kernel, ⟨by decide +kernel, by decide +kernel, by decide +kernel⟩, by decide, aw_w (List.mem_of_getElem? (i := 1521) (by decide +kernel)) rfl⟩
theorem ca_common_0p : ∀ z ∈ ([] : List ExceptionTableEntry), z.catchType ≠ 0 ∧ ∃ n2 : String, Cond.classLink (yy YL_common).cls z.catchType n2 ∈ aw ∧ iaE ∈ exL ∧ n2 ∈ exL ∧ iaE ≠ n2 := by intro z h; cases h
theorem ca_common_0 : CatchAt YL_common [(0, 9, 12, 13)] 4 iaE 12 3 13 := ⟨[], ⟨0, 9, 12, 13⟩, [], iaE, rfl, ca_common_0p, by decide, by decide, cl_ia, ow_ia, rfl, by decide, Or.inl ⟨3, rfl, dL_common_12, rfl⟩⟩
theorem w_common {D mc ms : Nat} (a1 : Int32) {Q2 : Option Value → mM → Prop} {X2 : String → mM → Prop} {Q : Int32 → mM → Prop} (hM : Ct G Y11_common D mc ms [.ref 100, .int a1] M Q2 X2) (hT : gT M 100 = .inl 11) (hq : ∀ a M1, Q2 a M1 → ∃ r : Int32, a = some (.int r) ∧ gT M1 247 = .inr (1, 1) ∧ Q 0 (sJ M1 247 0 r.toInt64)) (hx : ∀ E M1, X2 E M1 → ∃ t, (t, E) ∈ ([(1, iaE)] : List (Int32 × String)) ∧ Q t M1) : CtW G YL_common [(0, 9, 12, 13)] (D + 1) mc ms [.ref 100, .int a1, .ref 247] M (fun a M1 => ∃ t, a = some (.int t) ∧ Q t M1) := by
  refine CtW.of kL_common (Nat.le_of_ble_eq_true rfl) ?_
  refine h_pad ?_
  refine h_aload_n dL_common_0 rfl ?_
  refine h_iconst 0 dL_common_1 (by decide) ?_
  refine h_aload_n dL_common_2 rfl ?_
  refine h_iload_n dL_common_3 rfl ?_
  refine VH.up (kc := 0 + mc) (ks := 0 + ms) (h_callV (mc2 := mc) (ms2 := ms) (D2 := D) [.int a1] hM k11_common dL_common_4 lL_111 hT ⟨by decide, rfl⟩ rfl (Nat.le_refl _) (by decide) (fun v M1 q => ?_) (fun E M1 q => ?_)) (by omega) (by omega)
  · obtain ⟨r, rfl, h247, hQ⟩ := hq _ _ q
    refine h_i2l dL_common_7 ?_
    refine h_last dL_common_8 h247 (vp_in_iff.mpr (by decide)) ?_
    rw [z_clamp]
    refine h_goto 15 dL_common_9 (by decide) ?_
    exact h_iconst 0 dL_common_15 (by decide) (h_iret dL_common_16 rfl ⟨0, rfl, hQ⟩)
  · obtain ⟨t, hm, hQ⟩ := hx _ _ q
    simp only [List.mem_cons, List.not_mem_nil, or_false, Prod.mk.injEq] at hm
    obtain ⟨rfl, rfl⟩ := hm
    exact ⟨12, 3, 13, ca_common_0, rfl, h_iconst 1 dL_common_13 (by decide) (h_iret dL_common_14 rfl ⟨1, rfl, hQ⟩)⟩
theorem kL_copy : mOKw YL_copy [(0, 9, 12, 19), (0, 9, 15, 44)] 3 := ⟨aw_w (List.mem_of_getElem? (i := 1586) (by decide +kernel)) rfl, N_L, by decide +kernel, ⟨by decide +kernel, by decide +kernel, by decide +kernel⟩, by decide, aw_w (List.mem_of_getElem? (i := 1585) (by decide +kernel)) rfl⟩
theorem ca_copy_0p : ∀ z ∈ ([] : List ExceptionTableEntry), z.catchType ≠ 0 ∧ ∃ n2 : String, Cond.classLink (yy YL_copy).cls z.catchType n2 ∈ aw ∧ nsE ∈ exL ∧ n2 ∈ exL ∧ nsE ≠ n2 := by intro z h; cases h
theorem ca_copy_0 : CatchAt YL_copy [(0, 9, 12, 19), (0, 9, 15, 44)] 4 nsE 12 3 13 := ⟨[], ⟨0, 9, 12, 19⟩, [⟨0, 9, 15, 44⟩], nsE, rfl, ca_copy_0p, by decide, by decide, cl_ns, ow_ns, rfl, by decide, Or.inl ⟨3, rfl, dL_copy_12, rfl⟩⟩
theorem ca_copy_1p : ∀ z ∈ ([⟨0, 9, 12, 19⟩] : List ExceptionTableEntry), z.catchType ≠ 0 ∧ ∃ n2 : String, Cond.classLink (yy YL_copy).cls z.catchType n2 ∈ aw ∧ isE ∈ exL ∧ n2 ∈ exL ∧ isE ≠ n2 := by
  intro z h
  rcases List.mem_cons.mp h with rfl | h
  · exact ⟨by decide, nsE, cl_ns, ex_is, ex_ns, by decide +kernel⟩
  cases h
theorem ca_copy_1 : CatchAt YL_copy [(0, 9, 12, 19), (0, 9, 15, 44)] 4 isE 15 3 16 := ⟨[⟨0, 9, 12, 19⟩], ⟨0, 9, 15, 44⟩, [], isE, rfl, ca_copy_1p, by decide, by decide, cl_is, ow_is, rfl, by decide, Or.inl ⟨3, rfl, dL_copy_15, rfl⟩⟩
theorem w_copy {D mc ms : Nat} (a1 : Int32) {Q2 : Option Value → mM → Prop} {X2 : String → mM → Prop} {Q : Int32 → mM → Prop} (hM : Ct G Y11_copy D mc ms [.ref 100, .int a1] M Q2 X2) (hT : gT M 100 = .inl 11) (hq : ∀ a M1, Q2 a M1 → ∃ r : Int32, a = some (.int r) ∧ gT M1 247 = .inr (1, 1) ∧ Q 0 (sJ M1 247 0 r.toInt64)) (hx : ∀ E M1, X2 E M1 → ∃ t, (t, E) ∈ ([(1, nsE), (2, isE)] : List (Int32 × String)) ∧ Q t M1) : CtW G YL_copy [(0, 9, 12, 19), (0, 9, 15, 44)] (D + 1) mc ms [.ref 100, .int a1, .ref 247] M (fun a M1 => ∃ t, a = some (.int t) ∧ Q t M1) := by
  refine CtW.of kL_copy (Nat.le_of_ble_eq_true rfl) ?_
  refine h_pad ?_
  refine h_aload_n dL_copy_0 rfl ?_
  refine h_iconst 0 dL_copy_1 (by decide) ?_
  refine h_aload_n dL_copy_2 rfl ?_
  refine h_iload_n dL_copy_3 rfl ?_
  refine VH.up (kc := 0 + mc) (ks := 0 + ms) (h_callV (mc2 := mc) (ms2 := ms) (D2 := D) [.int a1] hM k11_copy dL_copy_4 lL_127 hT ⟨by decide, rfl⟩ rfl (Nat.le_refl _) (by decide) (fun v M1 q => ?_) (fun E M1 q => ?_)) (by omega) (by omega)
  · obtain ⟨r, rfl, h247, hQ⟩ := hq _ _ q
    refine h_i2l dL_copy_7 ?_
    refine h_last dL_copy_8 h247 (vp_in_iff.mpr (by decide)) ?_
    rw [z_clamp]
    refine h_goto 18 dL_copy_9 (by decide) ?_
    exact h_iconst 0 dL_copy_18 (by decide) (h_iret dL_copy_19 rfl ⟨0, rfl, hQ⟩)
  · obtain ⟨t, hm, hQ⟩ := hx _ _ q
    simp only [List.mem_cons, List.not_mem_nil, or_false, Prod.mk.injEq] at hm
    rcases hm with ⟨rfl, rfl⟩ | ⟨rfl, rfl⟩
    · exact ⟨12, 3, 13, ca_copy_0, rfl, h_iconst 1 dL_copy_13 (by decide) (h_iret dL_copy_14 rfl ⟨1, rfl, hQ⟩)⟩
    · exact ⟨15, 3, 16, ca_copy_1, rfl, h_iconst 2 dL_copy_16 (by decide) (h_iret dL_copy_17 rfl ⟨2, rfl, hQ⟩)⟩
theorem kL_cost : mOKw YL_cost [(0, 9, 12, 13)] 3 := ⟨aw_w (List.mem_of_getElem? (i := 1196) (by decide +kernel)) rfl, N_L, by decide +kernel, ⟨by decide +kernel, by decide +kernel, by decide +kernel⟩, by decide, aw_w (List.mem_of_getElem? (i := 1195) (by decide +kernel)) rfl⟩
theorem ca_cost_0p : ∀ z ∈ ([] : List ExceptionTableEntry), z.catchType ≠ 0 ∧ ∃ n2 : String, Cond.classLink (yy YL_cost).cls z.catchType n2 ∈ aw ∧ iaE ∈ exL ∧ n2 ∈ exL ∧ iaE ≠ n2 := by intro z h; cases h
theorem ca_cost_0 : CatchAt YL_cost [(0, 9, 12, 13)] 4 iaE 12 3 13 := ⟨[], ⟨0, 9, 12, 13⟩, [], iaE, rfl, ca_cost_0p, by decide, by decide, cl_ia, ow_ia, rfl, by decide, Or.inl ⟨3, rfl, dL_cost_12, rfl⟩⟩
theorem w_cost {D mc ms : Nat} (a1 : Int32) {Q2 : Option Value → mM → Prop} {X2 : String → mM → Prop} {Q : Int32 → mM → Prop} (hM : Ct G Y11_cost D mc ms [.ref 100, .int a1] M Q2 X2) (hT : gT M 100 = .inl 11) (hq : ∀ a M1, Q2 a M1 → ∃ r : Int32, a = some (.int r) ∧ gT M1 247 = .inr (1, 1) ∧ Q 0 (sJ M1 247 0 r.toInt64)) (hx : ∀ E M1, X2 E M1 → ∃ t, (t, E) ∈ ([(1, iaE)] : List (Int32 × String)) ∧ Q t M1) : CtW G YL_cost [(0, 9, 12, 13)] (D + 1) mc ms [.ref 100, .int a1, .ref 247] M (fun a M1 => ∃ t, a = some (.int t) ∧ Q t M1) := by
  refine CtW.of kL_cost (Nat.le_of_ble_eq_true rfl) ?_
  refine h_pad ?_
  refine h_aload_n dL_cost_0 rfl ?_
  refine h_iconst 0 dL_cost_1 (by decide) ?_
  refine h_aload_n dL_cost_2 rfl ?_
  refine h_iload_n dL_cost_3 rfl ?_
  refine VH.up (kc := 0 + mc) (ks := 0 + ms) (h_callV (mc2 := mc) (ms2 := ms) (D2 := D) [.int a1] hM k11_cost dL_cost_4 lL_38 hT ⟨by decide, rfl⟩ rfl (Nat.le_refl _) (by decide) (fun v M1 q => ?_) (fun E M1 q => ?_)) (by omega) (by omega)
  · obtain ⟨r, rfl, h247, hQ⟩ := hq _ _ q
    refine h_i2l dL_cost_7 ?_
    refine h_last dL_cost_8 h247 (vp_in_iff.mpr (by decide)) ?_
    rw [z_clamp]
    refine h_goto 15 dL_cost_9 (by decide) ?_
    exact h_iconst 0 dL_cost_15 (by decide) (h_iret dL_cost_16 rfl ⟨0, rfl, hQ⟩)
  · obtain ⟨t, hm, hQ⟩ := hx _ _ q
    simp only [List.mem_cons, List.not_mem_nil, or_false, Prod.mk.injEq] at hm
    obtain ⟨rfl, rfl⟩ := hm
    exact ⟨12, 3, 13, ca_cost_0, rfl, h_iconst 1 dL_cost_13 (by decide) (h_iret dL_cost_14 rfl ⟨1, rfl, hQ⟩)⟩
theorem kL_differ : mOKw YL_differ [(0, 10, 13, 19)] 4 := ⟨aw_w (List.mem_of_getElem? (i := 1515) (by decide +kernel)) rfl, N_L, by decide +kernel, ⟨by decide +kernel, by decide +kernel, by decide +kernel⟩, by decide, aw_w (List.mem_of_getElem? (i := 1514) (by decide +kernel)) rfl⟩
theorem ca_differ_0p : ∀ z ∈ ([] : List ExceptionTableEntry), z.catchType ≠ 0 ∧ ∃ n2 : String, Cond.classLink (yy YL_differ).cls z.catchType n2 ∈ aw ∧ nsE ∈ exL ∧ n2 ∈ exL ∧ nsE ≠ n2 := by intro z h; cases h
theorem ca_differ_0 : CatchAt YL_differ [(0, 10, 13, 19)] 5 nsE 13 4 15 := ⟨[], ⟨0, 10, 13, 19⟩, [], nsE, rfl, ca_differ_0p, by decide, by decide, cl_ns, ow_ns, rfl, by decide, Or.inr ⟨dL_differ_13, rfl⟩⟩
theorem w_differ {D mc ms : Nat} (a1 : Int32) (a2 : Int32) {Q2 : Option Value → mM → Prop} {X2 : String → mM → Prop} {Q : Int32 → mM → Prop} (hM : Ct G Y11_differ D mc ms [.ref 100, .int a1, .int a2] M Q2 X2) (hT : gT M 100 = .inl 11) (hq : ∀ a M1, Q2 a M1 → ∃ r : Int32, a = some (.int r) ∧ gT M1 247 = .inr (1, 1) ∧ Q 0 (sJ M1 247 0 r.toInt64)) (hx : ∀ E M1, X2 E M1 → ∃ t, (t, E) ∈ ([(1, nsE)] : List (Int32 × String)) ∧ Q t M1) : CtW G YL_differ [(0, 10, 13, 19)] (D + 1) mc ms [.ref 100, .int a1, .int a2, .ref 247] M (fun a M1 => ∃ t, a = some (.int t) ∧ Q t M1) := by
  refine CtW.of kL_differ (Nat.le_of_ble_eq_true rfl) ?_
  refine h_pad ?_
  refine h_aload_n dL_differ_0 rfl ?_
  refine h_iconst 0 dL_differ_1 (by decide) ?_
  refine h_aload_n dL_differ_2 rfl ?_
  refine h_iload_n dL_differ_3 rfl ?_
  refine h_iload_n dL_differ_4 rfl ?_
  refine VH.up (kc := 0 + mc) (ks := 0 + ms) (h_callV (mc2 := mc) (ms2 := ms) (D2 := D) [.int a1, .int a2] hM k11_differ dL_differ_5 lL_108 hT ⟨by decide, rfl⟩ rfl (Nat.le_refl _) (by decide) (fun v M1 q => ?_) (fun E M1 q => ?_)) (by omega) (by omega)
  · obtain ⟨r, rfl, h247, hQ⟩ := hq _ _ q
    refine h_i2l dL_differ_8 ?_
    refine h_last dL_differ_9 h247 (vp_in_iff.mpr (by decide)) ?_
    rw [z_clamp]
    refine h_goto 17 dL_differ_10 (by decide) ?_
    exact h_iconst 0 dL_differ_17 (by decide) (h_iret dL_differ_18 rfl ⟨0, rfl, hQ⟩)
  · obtain ⟨t, hm, hQ⟩ := hx _ _ q
    simp only [List.mem_cons, List.not_mem_nil, or_false, Prod.mk.injEq] at hm
    obtain ⟨rfl, rfl⟩ := hm
    exact ⟨13, 4, 15, ca_differ_0, rfl, h_iconst 1 dL_differ_15 (by decide) (h_iret dL_differ_16 rfl ⟨1, rfl, hQ⟩)⟩
theorem kL_fits : mOKw YL_fits [(0, 9, 12, 13)] 3 := ⟨aw_w (List.mem_of_getElem? (i := 1174) (by decide +kernel)) rfl, N_L, by decide +kernel, ⟨by decide +kernel, by decide +kernel, by decide +kernel⟩, by decide, aw_w (List.mem_of_getElem? (i := 1173) (by decide +kernel)) rfl⟩
theorem ca_fits_0p : ∀ z ∈ ([] : List ExceptionTableEntry), z.catchType ≠ 0 ∧ ∃ n2 : String, Cond.classLink (yy YL_fits).cls z.catchType n2 ∈ aw ∧ iaE ∈ exL ∧ n2 ∈ exL ∧ iaE ≠ n2 := by intro z h; cases h
theorem ca_fits_0 : CatchAt YL_fits [(0, 9, 12, 13)] 4 iaE 12 3 13 := ⟨[], ⟨0, 9, 12, 13⟩, [], iaE, rfl, ca_fits_0p, by decide, by decide, cl_ia, ow_ia, rfl, by decide, Or.inl ⟨3, rfl, dL_fits_12, rfl⟩⟩
theorem w_fits {D mc ms : Nat} (a1 : Int32) {Q2 : Option Value → mM → Prop} {X2 : String → mM → Prop} {Q : Int32 → mM → Prop} (hM : Ct G Y11_fits D mc ms [.ref 100, .int a1] M Q2 X2) (hT : gT M 100 = .inl 11) (hq : ∀ a M1, Q2 a M1 → ∃ r : Int32, a = some (.int r) ∧ gT M1 247 = .inr (1, 1) ∧ Q 0 (sJ M1 247 0 r.toInt64)) (hx : ∀ E M1, X2 E M1 → ∃ t, (t, E) ∈ ([(1, iaE)] : List (Int32 × String)) ∧ Q t M1) : CtW G YL_fits [(0, 9, 12, 13)] (D + 1) mc ms [.ref 100, .int a1, .ref 247] M (fun a M1 => ∃ t, a = some (.int t) ∧ Q t M1) := by
  refine CtW.of kL_fits (Nat.le_of_ble_eq_true rfl) ?_
  refine h_pad ?_
  refine h_aload_n dL_fits_0 rfl ?_
  refine h_iconst 0 dL_fits_1 (by decide) ?_
  refine h_aload_n dL_fits_2 rfl ?_
  refine h_iload_n dL_fits_3 rfl ?_
  refine VH.up (kc := 0 + mc) (ks := 0 + ms) (h_callV (mc2 := mc) (ms2 := ms) (D2 := D) [.int a1] hM k11_fits dL_fits_4 lL_32 hT ⟨by decide, rfl⟩ rfl (Nat.le_refl _) (by decide) (fun v M1 q => ?_) (fun E M1 q => ?_)) (by omega) (by omega)
  · obtain ⟨r, rfl, h247, hQ⟩ := hq _ _ q
    refine h_i2l dL_fits_7 ?_
    refine h_last dL_fits_8 h247 (vp_in_iff.mpr (by decide)) ?_
    rw [z_clamp]
    refine h_goto 15 dL_fits_9 (by decide) ?_
    exact h_iconst 0 dL_fits_15 (by decide) (h_iret dL_fits_16 rfl ⟨0, rfl, hQ⟩)
  · obtain ⟨t, hm, hQ⟩ := hx _ _ q
    simp only [List.mem_cons, List.not_mem_nil, or_false, Prod.mk.injEq] at hm
    obtain ⟨rfl, rfl⟩ := hm
    exact ⟨12, 3, 13, ca_fits_0, rfl, h_iconst 1 dL_fits_13 (by decide) (h_iret dL_fits_14 rfl ⟨1, rfl, hQ⟩)⟩
theorem kL_fresh : mOKw YL_fresh [(0, 10, 13, 19), (0, 10, 17, 13)] 4 := ⟨aw_w (List.mem_of_getElem? (i := 1485) (by decide +kernel)) rfl, N_L, by decide +kernel, ⟨by decide +kernel, by decide +kernel, by decide +kernel⟩, by decide, aw_w (List.mem_of_getElem? (i := 1484) (by decide +kernel)) rfl⟩
theorem ca_fresh_0p : ∀ z ∈ ([] : List ExceptionTableEntry), z.catchType ≠ 0 ∧ ∃ n2 : String, Cond.classLink (yy YL_fresh).cls z.catchType n2 ∈ aw ∧ nsE ∈ exL ∧ n2 ∈ exL ∧ nsE ≠ n2 := by intro z h; cases h
theorem ca_fresh_0 : CatchAt YL_fresh [(0, 10, 13, 19), (0, 10, 17, 13)] 5 nsE 13 4 15 := ⟨[], ⟨0, 10, 13, 19⟩, [⟨0, 10, 17, 13⟩], nsE, rfl, ca_fresh_0p, by decide, by decide, cl_ns, ow_ns, rfl, by decide, Or.inr ⟨dL_fresh_13, rfl⟩⟩
theorem ca_fresh_1p : ∀ z ∈ ([⟨0, 10, 13, 19⟩] : List ExceptionTableEntry), z.catchType ≠ 0 ∧ ∃ n2 : String, Cond.classLink (yy YL_fresh).cls z.catchType n2 ∈ aw ∧ iaE ∈ exL ∧ n2 ∈ exL ∧ iaE ≠ n2 := by
  intro z h
  rcases List.mem_cons.mp h with rfl | h
  · exact ⟨by decide, nsE, cl_ns, ex_ia, ex_ns, by decide +kernel⟩
  cases h
theorem ca_fresh_1 : CatchAt YL_fresh [(0, 10, 13, 19), (0, 10, 17, 13)] 5 iaE 17 4 19 := ⟨[⟨0, 10, 13, 19⟩], ⟨0, 10, 17, 13⟩, [], iaE, rfl, ca_fresh_1p, by decide, by decide, cl_ia, ow_ia, rfl, by decide, Or.inr ⟨dL_fresh_17, rfl⟩⟩
theorem w_fresh {D mc ms : Nat} (a1 : Int32) (a2 : Int32) {Q2 : Option Value → mM → Prop} {X2 : String → mM → Prop} {Q : Int32 → mM → Prop} (hM : Ct G Y11_fresh D mc ms [.ref 100, .int a1, .int a2] M Q2 X2) (hT : gT M 100 = .inl 11) (hq : ∀ a M1, Q2 a M1 → ∃ r : Int32, a = some (.int r) ∧ gT M1 247 = .inr (1, 1) ∧ Q 0 (sJ M1 247 0 r.toInt64)) (hx : ∀ E M1, X2 E M1 → ∃ t, (t, E) ∈ ([(1, nsE), (2, iaE)] : List (Int32 × String)) ∧ Q t M1) : CtW G YL_fresh [(0, 10, 13, 19), (0, 10, 17, 13)] (D + 1) mc ms [.ref 100, .int a1, .int a2, .ref 247] M (fun a M1 => ∃ t, a = some (.int t) ∧ Q t M1) := by
  refine CtW.of kL_fresh (Nat.le_of_ble_eq_true rfl) ?_
  refine h_pad ?_
  refine h_aload_n dL_fresh_0 rfl ?_
  refine h_iconst 0 dL_fresh_1 (by decide) ?_
  refine h_aload_n dL_fresh_2 rfl ?_
  refine h_iload_n dL_fresh_3 rfl ?_
  refine h_iload_n dL_fresh_4 rfl ?_
  refine VH.up (kc := 0 + mc) (ks := 0 + ms) (h_callV (mc2 := mc) (ms2 := ms) (D2 := D) [.int a1, .int a2] hM k11_fresh dL_fresh_5 lL_102 hT ⟨by decide, rfl⟩ rfl (Nat.le_refl _) (by decide) (fun v M1 q => ?_) (fun E M1 q => ?_)) (by omega) (by omega)
  · obtain ⟨r, rfl, h247, hQ⟩ := hq _ _ q
    refine h_i2l dL_fresh_8 ?_
    refine h_last dL_fresh_9 h247 (vp_in_iff.mpr (by decide)) ?_
    rw [z_clamp]
    refine h_goto 21 dL_fresh_10 (by decide) ?_
    exact h_iconst 0 dL_fresh_21 (by decide) (h_iret dL_fresh_22 rfl ⟨0, rfl, hQ⟩)
  · obtain ⟨t, hm, hQ⟩ := hx _ _ q
    simp only [List.mem_cons, List.not_mem_nil, or_false, Prod.mk.injEq] at hm
    rcases hm with ⟨rfl, rfl⟩ | ⟨rfl, rfl⟩
    · exact ⟨13, 4, 15, ca_fresh_0, rfl, h_iconst 1 dL_fresh_15 (by decide) (h_iret dL_fresh_16 rfl ⟨1, rfl, hQ⟩)⟩
    · exact ⟨17, 4, 19, ca_fresh_1, rfl, h_iconst 2 dL_fresh_19 (by decide) (h_iret dL_fresh_20 rfl ⟨2, rfl, hQ⟩)⟩
theorem kL_greedy : mOKw YL_greedy [(0, 9, 12, 19), (0, 9, 15, 44)] 3 := ⟨aw_w (List.mem_of_getElem? (i := 1530) (by decide +kernel)) rfl, N_L, by decide +kernel, ⟨by decide +kernel, by decide +kernel, by decide +kernel⟩, by decide, aw_w (List.mem_of_getElem? (i := 1529) (by decide +kernel)) rfl⟩
theorem ca_greedy_0p : ∀ z ∈ ([] : List ExceptionTableEntry), z.catchType ≠ 0 ∧ ∃ n2 : String, Cond.classLink (yy YL_greedy).cls z.catchType n2 ∈ aw ∧ nsE ∈ exL ∧ n2 ∈ exL ∧ nsE ≠ n2 := by intro z h; cases h
theorem ca_greedy_0 : CatchAt YL_greedy [(0, 9, 12, 19), (0, 9, 15, 44)] 4 nsE 12 3 13 := ⟨[], ⟨0, 9, 12, 19⟩, [⟨0, 9, 15, 44⟩], nsE, rfl, ca_greedy_0p, by decide, by decide, cl_ns, ow_ns, rfl, by decide, Or.inl ⟨3, rfl, dL_greedy_12, rfl⟩⟩
theorem ca_greedy_1p : ∀ z ∈ ([⟨0, 9, 12, 19⟩] : List ExceptionTableEntry), z.catchType ≠ 0 ∧ ∃ n2 : String, Cond.classLink (yy YL_greedy).cls z.catchType n2 ∈ aw ∧ isE ∈ exL ∧ n2 ∈ exL ∧ isE ≠ n2 := by
  intro z h
  rcases List.mem_cons.mp h with rfl | h
  · exact ⟨by decide, nsE, cl_ns, ex_is, ex_ns, by decide +kernel⟩
  cases h
theorem ca_greedy_1 : CatchAt YL_greedy [(0, 9, 12, 19), (0, 9, 15, 44)] 4 isE 15 3 16 := ⟨[⟨0, 9, 12, 19⟩], ⟨0, 9, 15, 44⟩, [], isE, rfl, ca_greedy_1p, by decide, by decide, cl_is, ow_is, rfl, by decide, Or.inl ⟨3, rfl, dL_greedy_15, rfl⟩⟩
theorem w_greedy {D mc ms : Nat} (a1 : Int32) {Q2 : Option Value → mM → Prop} {X2 : String → mM → Prop} {Q : Int32 → mM → Prop} (hM : Ct G Y11_greedy D mc ms [.ref 100, .int a1] M Q2 X2) (hT : gT M 100 = .inl 11) (hq : ∀ a M1, Q2 a M1 → ∃ r : Int32, a = some (.int r) ∧ gT M1 247 = .inr (1, 1) ∧ Q 0 (sJ M1 247 0 r.toInt64)) (hx : ∀ E M1, X2 E M1 → ∃ t, (t, E) ∈ ([(1, nsE), (2, isE)] : List (Int32 × String)) ∧ Q t M1) : CtW G YL_greedy [(0, 9, 12, 19), (0, 9, 15, 44)] (D + 1) mc ms [.ref 100, .int a1, .ref 247] M (fun a M1 => ∃ t, a = some (.int t) ∧ Q t M1) := by
  refine CtW.of kL_greedy (Nat.le_of_ble_eq_true rfl) ?_
  refine h_pad ?_
  refine h_aload_n dL_greedy_0 rfl ?_
  refine h_iconst 0 dL_greedy_1 (by decide) ?_
  refine h_aload_n dL_greedy_2 rfl ?_
  refine h_iload_n dL_greedy_3 rfl ?_
  refine VH.up (kc := 0 + mc) (ks := 0 + ms) (h_callV (mc2 := mc) (ms2 := ms) (D2 := D) [.int a1] hM k11_greedy dL_greedy_4 lL_114 hT ⟨by decide, rfl⟩ rfl (Nat.le_refl _) (by decide) (fun v M1 q => ?_) (fun E M1 q => ?_)) (by omega) (by omega)
  · obtain ⟨r, rfl, h247, hQ⟩ := hq _ _ q
    refine h_i2l dL_greedy_7 ?_
    refine h_last dL_greedy_8 h247 (vp_in_iff.mpr (by decide)) ?_
    rw [z_clamp]
    refine h_goto 18 dL_greedy_9 (by decide) ?_
    exact h_iconst 0 dL_greedy_18 (by decide) (h_iret dL_greedy_19 rfl ⟨0, rfl, hQ⟩)
  · obtain ⟨t, hm, hQ⟩ := hx _ _ q
    simp only [List.mem_cons, List.not_mem_nil, or_false, Prod.mk.injEq] at hm
    rcases hm with ⟨rfl, rfl⟩ | ⟨rfl, rfl⟩
    · exact ⟨12, 3, 13, ca_greedy_0, rfl, h_iconst 1 dL_greedy_13 (by decide) (h_iret dL_greedy_14 rfl ⟨1, rfl, hQ⟩)⟩
    · exact ⟨15, 3, 16, ca_greedy_1, rfl, h_iconst 2 dL_greedy_16 (by decide) (h_iret dL_greedy_17 rfl ⟨2, rfl, hQ⟩)⟩
theorem kL_hall : mOKw YL_hall [(0, 9, 12, 13)] 3 := ⟨aw_w (List.mem_of_getElem? (i := 731) (by decide +kernel)) rfl, N_L, by decide +kernel, ⟨by decide +kernel, by decide +kernel, by decide +kernel⟩, by decide, aw_w (List.mem_of_getElem? (i := 730) (by decide +kernel)) rfl⟩
theorem ca_hall_0p : ∀ z ∈ ([] : List ExceptionTableEntry), z.catchType ≠ 0 ∧ ∃ n2 : String, Cond.classLink (yy YL_hall).cls z.catchType n2 ∈ aw ∧ iaE ∈ exL ∧ n2 ∈ exL ∧ iaE ≠ n2 := by intro z h; cases h
theorem ca_hall_0 : CatchAt YL_hall [(0, 9, 12, 13)] 4 iaE 12 3 13 := ⟨[], ⟨0, 9, 12, 13⟩, [], iaE, rfl, ca_hall_0p, by decide, by decide, cl_ia, ow_ia, rfl, by decide, Or.inl ⟨3, rfl, dL_hall_12, rfl⟩⟩
theorem w_hall {D mc ms : Nat} (a1 : Int32) {Q2 : Option Value → mM → Prop} {X2 : String → mM → Prop} {Q : Int32 → mM → Prop} (hM : Ct G Y11_hall D mc ms [.ref 100, .int a1] M Q2 X2) (hT : gT M 100 = .inl 11) (hq : ∀ a M1, Q2 a M1 → ∃ r : Int32, a = some (.int r) ∧ gT M1 247 = .inr (1, 1) ∧ Q 0 (sJ M1 247 0 r.toInt64)) (hx : ∀ E M1, X2 E M1 → ∃ t, (t, E) ∈ ([(1, iaE)] : List (Int32 × String)) ∧ Q t M1) : CtW G YL_hall [(0, 9, 12, 13)] (D + 1) mc ms [.ref 100, .int a1, .ref 247] M (fun a M1 => ∃ t, a = some (.int t) ∧ Q t M1) := by
  refine CtW.of kL_hall (Nat.le_of_ble_eq_true rfl) ?_
  refine h_pad ?_
  refine h_aload_n dL_hall_0 rfl ?_
  refine h_iconst 0 dL_hall_1 (by decide) ?_
  refine h_aload_n dL_hall_2 rfl ?_
  refine h_iload_n dL_hall_3 rfl ?_
  refine VH.up (kc := 0 + mc) (ks := 0 + ms) (h_callV (mc2 := mc) (ms2 := ms) (D2 := D) [.int a1] hM k11_hall dL_hall_4 lL_7 hT ⟨by decide, rfl⟩ rfl (Nat.le_refl _) (by decide) (fun v M1 q => ?_) (fun E M1 q => ?_)) (by omega) (by omega)
  · obtain ⟨r, rfl, h247, hQ⟩ := hq _ _ q
    refine h_i2l dL_hall_7 ?_
    refine h_last dL_hall_8 h247 (vp_in_iff.mpr (by decide)) ?_
    rw [z_clamp]
    refine h_goto 15 dL_hall_9 (by decide) ?_
    exact h_iconst 0 dL_hall_15 (by decide) (h_iret dL_hall_16 rfl ⟨0, rfl, hQ⟩)
  · obtain ⟨t, hm, hQ⟩ := hx _ _ q
    simp only [List.mem_cons, List.not_mem_nil, or_false, Prod.mk.injEq] at hm
    obtain ⟨rfl, rfl⟩ := hm
    exact ⟨12, 3, 13, ca_hall_0, rfl, h_iconst 1 dL_hall_13 (by decide) (h_iret dL_hall_14 rfl ⟨1, rfl, hQ⟩)⟩
theorem kL_hardened : mOKw YL_hardened [(0, 10, 13, 19), (0, 10, 17, 44), (0, 10, 21, 13)] 4 := ⟨aw_w (List.mem_of_getElem? (i := 1426) (by decide +kernel)) rfl, N_L, by decide +kernel, ⟨by decide +kernel, by decide +kernel, by decide +kernel⟩, by decide, aw_w (List.mem_of_getElem? (i := 1425) (by decide +kernel)) rfl⟩
theorem ca_hardened_0p : ∀ z ∈ ([] : List ExceptionTableEntry), z.catchType ≠ 0 ∧ ∃ n2 : String, Cond.classLink (yy YL_hardened).cls z.catchType n2 ∈ aw ∧ nsE ∈ exL ∧ n2 ∈ exL ∧ nsE ≠ n2 := by intro z h; cases h
theorem ca_hardened_0 : CatchAt YL_hardened [(0, 10, 13, 19), (0, 10, 17, 44), (0, 10, 21, 13)] 5 nsE 13 4 15 := ⟨[], ⟨0, 10, 13, 19⟩, [⟨0, 10, 17, 44⟩, ⟨0, 10, 21, 13⟩], nsE, rfl, ca_hardened_0p, by decide, by decide, cl_ns, ow_ns, rfl, by decide, Or.inr ⟨dL_hardened_13, rfl⟩⟩
theorem ca_hardened_1p : ∀ z ∈ ([⟨0, 10, 13, 19⟩] : List ExceptionTableEntry), z.catchType ≠ 0 ∧ ∃ n2 : String, Cond.classLink (yy YL_hardened).cls z.catchType n2 ∈ aw ∧ isE ∈ exL ∧ n2 ∈ exL ∧ isE ≠ n2 := by
  intro z h
  rcases List.mem_cons.mp h with rfl | h
  · exact ⟨by decide, nsE, cl_ns, ex_is, ex_ns, by decide +kernel⟩
  cases h
theorem ca_hardened_1 : CatchAt YL_hardened [(0, 10, 13, 19), (0, 10, 17, 44), (0, 10, 21, 13)] 5 isE 17 4 19 := ⟨[⟨0, 10, 13, 19⟩], ⟨0, 10, 17, 44⟩, [⟨0, 10, 21, 13⟩], isE, rfl, ca_hardened_1p, by decide, by decide, cl_is, ow_is, rfl, by decide, Or.inr ⟨dL_hardened_17, rfl⟩⟩
theorem ca_hardened_2p : ∀ z ∈ ([⟨0, 10, 13, 19⟩, ⟨0, 10, 17, 44⟩] : List ExceptionTableEntry), z.catchType ≠ 0 ∧ ∃ n2 : String, Cond.classLink (yy YL_hardened).cls z.catchType n2 ∈ aw ∧ iaE ∈ exL ∧ n2 ∈ exL ∧ iaE ≠ n2 := by
  intro z h
  rcases List.mem_cons.mp h with rfl | h
  · exact ⟨by decide, nsE, cl_ns, ex_ia, ex_ns, by decide +kernel⟩
  rcases List.mem_cons.mp h with rfl | h
  · exact ⟨by decide, isE, cl_is, ex_ia, ex_is, by decide +kernel⟩
  cases h
theorem ca_hardened_2 : CatchAt YL_hardened [(0, 10, 13, 19), (0, 10, 17, 44), (0, 10, 21, 13)] 5 iaE 21 4 23 := ⟨[⟨0, 10, 13, 19⟩, ⟨0, 10, 17, 44⟩], ⟨0, 10, 21, 13⟩, [], iaE, rfl, ca_hardened_2p, by decide, by decide, cl_ia, ow_ia, rfl, by decide, Or.inr ⟨dL_hardened_21, rfl⟩⟩
theorem w_hardened {D mc ms : Nat} (a1 : Int32) (a2 : Int32) {Q2 : Option Value → mM → Prop} {X2 : String → mM → Prop} {Q : Int32 → mM → Prop} (hM : Ct G Y11_hardened D mc ms [.ref 100, .int a1, .int a2] M Q2 X2) (hT : gT M 100 = .inl 11) (hq : ∀ a M1, Q2 a M1 → ∃ r : Int32, a = some (.int r) ∧ gT M1 247 = .inr (1, 1) ∧ Q 0 (sJ M1 247 0 r.toInt64)) (hx : ∀ E M1, X2 E M1 → ∃ t, (t, E) ∈ ([(1, nsE), (2, isE), (3, iaE)] : List (Int32 × String)) ∧ Q t M1) : CtW G YL_hardened [(0, 10, 13, 19), (0, 10, 17, 44), (0, 10, 21, 13)] (D + 1) mc ms [.ref 100, .int a1, .int a2, .ref 247] M (fun a M1 => ∃ t, a = some (.int t) ∧ Q t M1) := by
  refine CtW.of kL_hardened (Nat.le_of_ble_eq_true rfl) ?_
  refine h_pad ?_
  refine h_aload_n dL_hardened_0 rfl ?_
  refine h_iconst 0 dL_hardened_1 (by decide) ?_
  refine h_aload_n dL_hardened_2 rfl ?_
  refine h_iload_n dL_hardened_3 rfl ?_
  refine h_iload_n dL_hardened_4 rfl ?_
  refine VH.up (kc := 0 + mc) (ks := 0 + ms) (h_callV (mc2 := mc) (ms2 := ms) (D2 := D) [.int a1, .int a2] hM k11_hardened dL_hardened_5 lL_96 hT ⟨by decide, rfl⟩ rfl (Nat.le_refl _) (by decide) (fun v M1 q => ?_) (fun E M1 q => ?_)) (by omega) (by omega)
  · obtain ⟨r, rfl, h247, hQ⟩ := hq _ _ q
    refine h_i2l dL_hardened_8 ?_
    refine h_last dL_hardened_9 h247 (vp_in_iff.mpr (by decide)) ?_
    rw [z_clamp]
    refine h_goto 25 dL_hardened_10 (by decide) ?_
    exact h_iconst 0 dL_hardened_25 (by decide) (h_iret dL_hardened_26 rfl ⟨0, rfl, hQ⟩)
  · obtain ⟨t, hm, hQ⟩ := hx _ _ q
    simp only [List.mem_cons, List.not_mem_nil, or_false, Prod.mk.injEq] at hm
    rcases hm with ⟨rfl, rfl⟩ | ⟨rfl, rfl⟩ | ⟨rfl, rfl⟩
    · exact ⟨13, 4, 15, ca_hardened_0, rfl, h_iconst 1 dL_hardened_15 (by decide) (h_iret dL_hardened_16 rfl ⟨1, rfl, hQ⟩)⟩
    · exact ⟨17, 4, 19, ca_hardened_1, rfl, h_iconst 2 dL_hardened_19 (by decide) (h_iret dL_hardened_20 rfl ⟨2, rfl, hQ⟩)⟩
    · exact ⟨21, 4, 23, ca_hardened_2, rfl, h_iconst 3 dL_hardened_23 (by decide) (h_iret dL_hardened_24 rfl ⟨3, rfl, hQ⟩)⟩
theorem kL_holds : mOKw YL_holds [(0, 19, 22, 19)] 5 := ⟨aw_w (List.mem_of_getElem? (i := 1167) (by decide +kernel)) rfl, N_L, by decide +kernel, ⟨by decide +kernel, by decide +kernel, by decide +kernel⟩, by decide, aw_w (List.mem_of_getElem? (i := 1166) (by decide +kernel)) rfl⟩
theorem ca_holds_0p : ∀ z ∈ ([] : List ExceptionTableEntry), z.catchType ≠ 0 ∧ ∃ n2 : String, Cond.classLink (yy YL_holds).cls z.catchType n2 ∈ aw ∧ nsE ∈ exL ∧ n2 ∈ exL ∧ nsE ≠ n2 := by intro z h; cases h
theorem ca_holds_0 : CatchAt YL_holds [(0, 19, 22, 19)] 7 nsE 22 5 24 := ⟨[], ⟨0, 19, 22, 19⟩, [], nsE, rfl, ca_holds_0p, by decide, by decide, cl_ns, ow_ns, rfl, by decide, Or.inr ⟨dL_holds_22, rfl⟩⟩
theorem w_holds {D mc ms : Nat} (a1 : Int32) (a2 : Int32) (a3 : Int32) {Q2 : Option Value → mM → Prop} {X2 : String → mM → Prop} {Q : Int32 → mM → Prop} (hM : Ct G Y11_holds D mc ms [.ref 100, .int a1, .int a2, .int a3] M Q2 X2) (hT : gT M 100 = .inl 11) (hq : ∀ a M1, Q2 a M1 → ∃ r : Int32, a = some (.int r) ∧ gT M1 247 = .inr (1, 1) ∧ Q 0 (sJ M1 247 0 (if r = 0 then 0 else 1))) (hx : ∀ E M1, X2 E M1 → ∃ t, (t, E) ∈ ([(1, nsE)] : List (Int32 × String)) ∧ Q t M1) : CtW G YL_holds [(0, 19, 22, 19)] (D + 1) mc ms [.ref 100, .int a1, .int a2, .int a3, .ref 247] M (fun a M1 => ∃ t, a = some (.int t) ∧ Q t M1) := by
  refine CtW.of kL_holds (Nat.le_of_ble_eq_true rfl) ?_
  refine h_pad ?_
  refine h_aload dL_holds_0 rfl ?_
  refine h_iconst 0 dL_holds_2 (by decide) ?_
  refine h_aload_n dL_holds_3 rfl ?_
  refine h_iload_n dL_holds_4 rfl ?_
  refine h_iload_n dL_holds_5 rfl ?_
  refine h_iload_n dL_holds_6 rfl ?_
  refine VH.up (kc := 0 + mc) (ks := 0 + ms) (h_callV (mc2 := mc) (ms2 := ms) (D2 := D) [.int a1, .int a2, .int a3] hM k11_holds dL_holds_7 lL_28 hT ⟨by decide, rfl⟩ rfl (Nat.le_refl _) (by decide) (fun v M1 q => ?_) (fun E M1 q => ?_)) (by omega) (by omega)
  · obtain ⟨r, rfl, h247, hQ⟩ := hq _ _ q
    refine h_if_eq 17 dL_holds_10 (by decide) (fun e => ?_) (fun e => ?_)
    · rw [if_pos e] at hQ
      refine h_lconst 0 dL_holds_17 (by decide) ?_
      refine h_last dL_holds_18 h247 (vp_in_iff.mpr (by decide)) ?_
      rw [z_clamp]
      refine h_goto 26 dL_holds_19 (by decide) ?_
      exact h_iconst 0 dL_holds_26 (by decide) (h_iret dL_holds_27 rfl ⟨0, rfl, hQ⟩)
    · rw [if_neg e] at hQ
      refine h_lconst 1 dL_holds_13 (by decide) ?_
      refine h_goto 18 dL_holds_14 (by decide) ?_
      refine h_last dL_holds_18 h247 (vp_in_iff.mpr (by decide)) ?_
      rw [z_clamp]
      refine h_goto 26 dL_holds_19 (by decide) ?_
      exact h_iconst 0 dL_holds_26 (by decide) (h_iret dL_holds_27 rfl ⟨0, rfl, hQ⟩)
  · obtain ⟨t, hm, hQ⟩ := hx _ _ q
    simp only [List.mem_cons, List.not_mem_nil, or_false, Prod.mk.injEq] at hm
    obtain ⟨rfl, rfl⟩ := hm
    exact ⟨22, 5, 24, ca_holds_0, rfl, h_iconst 1 dL_holds_24 (by decide) (h_iret dL_holds_25 rfl ⟨1, rfl, hQ⟩)⟩
theorem kL_image : mOKw YL_image [(0, 5, 8, 19)] 2 := ⟨aw_w (List.mem_of_getElem? (i := 1593) (by decide +kernel)) rfl, N_L, by decide +kernel, ⟨by decide +kernel, by decide +kernel, by decide +kernel⟩, by decide, aw_w (List.mem_of_getElem? (i := 1592) (by decide +kernel)) rfl⟩
theorem ca_image_0p : ∀ z ∈ ([] : List ExceptionTableEntry), z.catchType ≠ 0 ∧ ∃ n2 : String, Cond.classLink (yy YL_image).cls z.catchType n2 ∈ aw ∧ nsE ∈ exL ∧ n2 ∈ exL ∧ nsE ≠ n2 := by intro z h; cases h
theorem ca_image_0 : CatchAt YL_image [(0, 5, 8, 19)] 2 nsE 8 2 9 := ⟨[], ⟨0, 5, 8, 19⟩, [], nsE, rfl, ca_image_0p, by decide, by decide, cl_ns, ow_ns, rfl, by decide, Or.inl ⟨2, rfl, dL_image_8, rfl⟩⟩
theorem w_image {D mc ms : Nat} (a1 : Int32) {Q2 : Option Value → mM → Prop} {X2 : String → mM → Prop} {Q : Int32 → mM → Prop} (hM : Ct G Y11_image D mc ms [.ref 100, .int a1] M Q2 X2) (hT : gT M 100 = .inl 11) (hq : ∀ a M1, Q2 a M1 → a = none ∧ Q 0 M1) (hx : ∀ E M1, X2 E M1 → ∃ t, (t, E) ∈ ([(1, nsE)] : List (Int32 × String)) ∧ Q t M1) : CtW G YL_image [(0, 5, 8, 19)] (D + 1) mc ms [.ref 100, .int a1] M (fun a M1 => ∃ t, a = some (.int t) ∧ Q t M1) := by
  refine CtW.of kL_image (Nat.le_of_ble_eq_true rfl) ?_
  refine h_pad ?_
  refine h_aload_n dL_image_0 rfl ?_
  refine h_iload_n dL_image_1 rfl ?_
  refine VH.up (kc := 0 + mc) (ks := 0 + ms) (h_callV (mc2 := mc) (ms2 := ms) (D2 := D) [.int a1] hM k11_image dL_image_2 lL_130 hT ⟨by decide, rfl⟩ rfl (Nat.le_refl _) (by decide) (fun v M1 q => ?_) (fun E M1 q => ?_)) (by omega) (by omega)
  · obtain ⟨rfl, hQ⟩ := hq _ _ q
    refine h_goto 11 dL_image_5 (by decide) ?_
    exact h_iconst 0 dL_image_11 (by decide) (h_iret dL_image_12 rfl ⟨0, rfl, hQ⟩)
  · obtain ⟨t, hm, hQ⟩ := hx _ _ q
    simp only [List.mem_cons, List.not_mem_nil, or_false, Prod.mk.injEq] at hm
    obtain ⟨rfl, rfl⟩ := hm
    exact ⟨8, 2, 9, ca_image_0, rfl, h_iconst 1 dL_image_9 (by decide) (h_iret dL_image_10 rfl ⟨1, rfl, hQ⟩)⟩
theorem kL_judge : mOKw YL_judge [(0, 10, 13, 19), (0, 10, 17, 44), (0, 10, 21, 13)] 4 := ⟨aw_w (List.mem_of_getElem? (i := 1373) (by decide +kernel)) rfl, N_L, by decide +kernel, ⟨by decide +kernel, by decide +kernel, by decide +kernel⟩, by decide, aw_w (List.mem_of_getElem? (i := 1372) (by decide +kernel)) rfl⟩
theorem ca_judge_0p : ∀ z ∈ ([] : List ExceptionTableEntry), z.catchType ≠ 0 ∧ ∃ n2 : String, Cond.classLink (yy YL_judge).cls z.catchType n2 ∈ aw ∧ nsE ∈ exL ∧ n2 ∈ exL ∧ nsE ≠ n2 := by intro z h; cases h
theorem ca_judge_0 : CatchAt YL_judge [(0, 10, 13, 19), (0, 10, 17, 44), (0, 10, 21, 13)] 5 nsE 13 4 15 := ⟨[], ⟨0, 10, 13, 19⟩, [⟨0, 10, 17, 44⟩, ⟨0, 10, 21, 13⟩], nsE, rfl, ca_judge_0p, by decide, by decide, cl_ns, ow_ns, rfl, by decide, Or.inr ⟨dL_judge_13, rfl⟩⟩
theorem ca_judge_1p : ∀ z ∈ ([⟨0, 10, 13, 19⟩] : List ExceptionTableEntry), z.catchType ≠ 0 ∧ ∃ n2 : String, Cond.classLink (yy YL_judge).cls z.catchType n2 ∈ aw ∧ isE ∈ exL ∧ n2 ∈ exL ∧ isE ≠ n2 := by
  intro z h
  rcases List.mem_cons.mp h with rfl | h
  · exact ⟨by decide, nsE, cl_ns, ex_is, ex_ns, by decide +kernel⟩
  cases h
theorem ca_judge_1 : CatchAt YL_judge [(0, 10, 13, 19), (0, 10, 17, 44), (0, 10, 21, 13)] 5 isE 17 4 19 := ⟨[⟨0, 10, 13, 19⟩], ⟨0, 10, 17, 44⟩, [⟨0, 10, 21, 13⟩], isE, rfl, ca_judge_1p, by decide, by decide, cl_is, ow_is, rfl, by decide, Or.inr ⟨dL_judge_17, rfl⟩⟩
theorem ca_judge_2p : ∀ z ∈ ([⟨0, 10, 13, 19⟩, ⟨0, 10, 17, 44⟩] : List ExceptionTableEntry), z.catchType ≠ 0 ∧ ∃ n2 : String, Cond.classLink (yy YL_judge).cls z.catchType n2 ∈ aw ∧ iaE ∈ exL ∧ n2 ∈ exL ∧ iaE ≠ n2 := by
  intro z h
  rcases List.mem_cons.mp h with rfl | h
  · exact ⟨by decide, nsE, cl_ns, ex_ia, ex_ns, by decide +kernel⟩
  rcases List.mem_cons.mp h with rfl | h
  · exact ⟨by decide, isE, cl_is, ex_ia, ex_is, by decide +kernel⟩
  cases h
theorem ca_judge_2 : CatchAt YL_judge [(0, 10, 13, 19), (0, 10, 17, 44), (0, 10, 21, 13)] 5 iaE 21 4 23 := ⟨[⟨0, 10, 13, 19⟩, ⟨0, 10, 17, 44⟩], ⟨0, 10, 21, 13⟩, [], iaE, rfl, ca_judge_2p, by decide, by decide, cl_ia, ow_ia, rfl, by decide, Or.inr ⟨dL_judge_21, rfl⟩⟩
theorem w_judge {D mc ms : Nat} (a1 : Int32) (a2 : Int32) {Q2 : Option Value → mM → Prop} {X2 : String → mM → Prop} {Q : Int32 → mM → Prop} (hM : Ct G Y11_judge D mc ms [.ref 100, .int a1, .int a2] M Q2 X2) (hT : gT M 100 = .inl 11) (hq : ∀ a M1, Q2 a M1 → ∃ r : Int32, a = some (.int r) ∧ gT M1 247 = .inr (1, 1) ∧ Q 0 (sJ M1 247 0 r.toInt64)) (hx : ∀ E M1, X2 E M1 → ∃ t, (t, E) ∈ ([(1, nsE), (2, isE), (3, iaE)] : List (Int32 × String)) ∧ Q t M1) : CtW G YL_judge [(0, 10, 13, 19), (0, 10, 17, 44), (0, 10, 21, 13)] (D + 1) mc ms [.ref 100, .int a1, .int a2, .ref 247] M (fun a M1 => ∃ t, a = some (.int t) ∧ Q t M1) := by
  refine CtW.of kL_judge (Nat.le_of_ble_eq_true rfl) ?_
  refine h_pad ?_
  refine h_aload_n dL_judge_0 rfl ?_
  refine h_iconst 0 dL_judge_1 (by decide) ?_
  refine h_aload_n dL_judge_2 rfl ?_
  refine h_iload_n dL_judge_3 rfl ?_
  refine h_iload_n dL_judge_4 rfl ?_
  refine VH.up (kc := 0 + mc) (ks := 0 + ms) (h_callV (mc2 := mc) (ms2 := ms) (D2 := D) [.int a1, .int a2] hM k11_judge dL_judge_5 lL_87 hT ⟨by decide, rfl⟩ rfl (Nat.le_refl _) (by decide) (fun v M1 q => ?_) (fun E M1 q => ?_)) (by omega) (by omega)
  · obtain ⟨r, rfl, h247, hQ⟩ := hq _ _ q
    refine h_i2l dL_judge_8 ?_
    refine h_last dL_judge_9 h247 (vp_in_iff.mpr (by decide)) ?_
    rw [z_clamp]
    refine h_goto 25 dL_judge_10 (by decide) ?_
    exact h_iconst 0 dL_judge_25 (by decide) (h_iret dL_judge_26 rfl ⟨0, rfl, hQ⟩)
  · obtain ⟨t, hm, hQ⟩ := hx _ _ q
    simp only [List.mem_cons, List.not_mem_nil, or_false, Prod.mk.injEq] at hm
    rcases hm with ⟨rfl, rfl⟩ | ⟨rfl, rfl⟩ | ⟨rfl, rfl⟩
    · exact ⟨13, 4, 15, ca_judge_0, rfl, h_iconst 1 dL_judge_15 (by decide) (h_iret dL_judge_16 rfl ⟨1, rfl, hQ⟩)⟩
    · exact ⟨17, 4, 19, ca_judge_1, rfl, h_iconst 2 dL_judge_19 (by decide) (h_iret dL_judge_20 rfl ⟨2, rfl, hQ⟩)⟩
    · exact ⟨21, 4, 23, ca_judge_2, rfl, h_iconst 3 dL_judge_23 (by decide) (h_iret dL_judge_24 rfl ⟨3, rfl, hQ⟩)⟩
theorem kL_least : mOKw YL_least [(0, 9, 12, 19), (0, 9, 15, 44)] 3 := ⟨aw_w (List.mem_of_getElem? (i := 1204) (by decide +kernel)) rfl, N_L, by decide +kernel, ⟨by decide +kernel, by decide +kernel, by decide +kernel⟩, by decide, aw_w (List.mem_of_getElem? (i := 1203) (by decide +kernel)) rfl⟩
theorem ca_least_0p : ∀ z ∈ ([] : List ExceptionTableEntry), z.catchType ≠ 0 ∧ ∃ n2 : String, Cond.classLink (yy YL_least).cls z.catchType n2 ∈ aw ∧ nsE ∈ exL ∧ n2 ∈ exL ∧ nsE ≠ n2 := by intro z h; cases h
theorem ca_least_0 : CatchAt YL_least [(0, 9, 12, 19), (0, 9, 15, 44)] 4 nsE 12 3 13 := ⟨[], ⟨0, 9, 12, 19⟩, [⟨0, 9, 15, 44⟩], nsE, rfl, ca_least_0p, by decide, by decide, cl_ns, ow_ns, rfl, by decide, Or.inl ⟨3, rfl, dL_least_12, rfl⟩⟩
theorem ca_least_1p : ∀ z ∈ ([⟨0, 9, 12, 19⟩] : List ExceptionTableEntry), z.catchType ≠ 0 ∧ ∃ n2 : String, Cond.classLink (yy YL_least).cls z.catchType n2 ∈ aw ∧ isE ∈ exL ∧ n2 ∈ exL ∧ isE ≠ n2 := by
  intro z h
  rcases List.mem_cons.mp h with rfl | h
  · exact ⟨by decide, nsE, cl_ns, ex_is, ex_ns, by decide +kernel⟩
  cases h
theorem ca_least_1 : CatchAt YL_least [(0, 9, 12, 19), (0, 9, 15, 44)] 4 isE 15 3 16 := ⟨[⟨0, 9, 12, 19⟩], ⟨0, 9, 15, 44⟩, [], isE, rfl, ca_least_1p, by decide, by decide, cl_is, ow_is, rfl, by decide, Or.inl ⟨3, rfl, dL_least_15, rfl⟩⟩
theorem w_least {D mc ms : Nat} (a1 : Int32) {Q2 : Option Value → mM → Prop} {X2 : String → mM → Prop} {Q : Int32 → mM → Prop} (hM : Ct G Y11_least D mc ms [.ref 100, .int a1] M Q2 X2) (hT : gT M 100 = .inl 11) (hq : ∀ a M1, Q2 a M1 → ∃ r : Int32, a = some (.int r) ∧ gT M1 247 = .inr (1, 1) ∧ Q 0 (sJ M1 247 0 r.toInt64)) (hx : ∀ E M1, X2 E M1 → ∃ t, (t, E) ∈ ([(1, nsE), (2, isE)] : List (Int32 × String)) ∧ Q t M1) : CtW G YL_least [(0, 9, 12, 19), (0, 9, 15, 44)] (D + 1) mc ms [.ref 100, .int a1, .ref 247] M (fun a M1 => ∃ t, a = some (.int t) ∧ Q t M1) := by
  refine CtW.of kL_least (Nat.le_of_ble_eq_true rfl) ?_
  refine h_pad ?_
  refine h_aload_n dL_least_0 rfl ?_
  refine h_iconst 0 dL_least_1 (by decide) ?_
  refine h_aload_n dL_least_2 rfl ?_
  refine h_iload_n dL_least_3 rfl ?_
  refine VH.up (kc := 0 + mc) (ks := 0 + ms) (h_callV (mc2 := mc) (ms2 := ms) (D2 := D) [.int a1] hM k11_least dL_least_4 lL_41 hT ⟨by decide, rfl⟩ rfl (Nat.le_refl _) (by decide) (fun v M1 q => ?_) (fun E M1 q => ?_)) (by omega) (by omega)
  · obtain ⟨r, rfl, h247, hQ⟩ := hq _ _ q
    refine h_i2l dL_least_7 ?_
    refine h_last dL_least_8 h247 (vp_in_iff.mpr (by decide)) ?_
    rw [z_clamp]
    refine h_goto 18 dL_least_9 (by decide) ?_
    exact h_iconst 0 dL_least_18 (by decide) (h_iret dL_least_19 rfl ⟨0, rfl, hQ⟩)
  · obtain ⟨t, hm, hQ⟩ := hx _ _ q
    simp only [List.mem_cons, List.not_mem_nil, or_false, Prod.mk.injEq] at hm
    rcases hm with ⟨rfl, rfl⟩ | ⟨rfl, rfl⟩
    · exact ⟨12, 3, 13, ca_least_0, rfl, h_iconst 1 dL_least_13 (by decide) (h_iret dL_least_14 rfl ⟨1, rfl, hQ⟩)⟩
    · exact ⟨15, 3, 16, ca_least_1, rfl, h_iconst 2 dL_least_16 (by decide) (h_iret dL_least_17 rfl ⟨2, rfl, hQ⟩)⟩
theorem kL_mark : mOKw YL_mark [(0, 12, 15, 19)] 5 := ⟨aw_w (List.mem_of_getElem? (i := 1104) (by decide +kernel)) rfl, N_L, by decide +kernel, ⟨by decide +kernel, by decide +kernel, by decide +kernel⟩, by decide, aw_w (List.mem_of_getElem? (i := 1103) (by decide +kernel)) rfl⟩
theorem ca_mark_0p : ∀ z ∈ ([] : List ExceptionTableEntry), z.catchType ≠ 0 ∧ ∃ n2 : String, Cond.classLink (yy YL_mark).cls z.catchType n2 ∈ aw ∧ nsE ∈ exL ∧ n2 ∈ exL ∧ nsE ≠ n2 := by intro z h; cases h
theorem ca_mark_0 : CatchAt YL_mark [(0, 12, 15, 19)] 7 nsE 15 5 17 := ⟨[], ⟨0, 12, 15, 19⟩, [], nsE, rfl, ca_mark_0p, by decide, by decide, cl_ns, ow_ns, rfl, by decide, Or.inr ⟨dL_mark_15, rfl⟩⟩
theorem w_mark {D mc ms : Nat} (a1 : Int32) (a2 : Int32) (a3 : Int32) {Q2 : Option Value → mM → Prop} {X2 : String → mM → Prop} {Q : Int32 → mM → Prop} (hM : Ct G Y11_mark D mc ms [.ref 100, .int a1, .int a2, .int a3] M Q2 X2) (hT : gT M 100 = .inl 11) (hq : ∀ a M1, Q2 a M1 → ∃ r : Int32, a = some (.int r) ∧ gT M1 247 = .inr (1, 1) ∧ Q 0 (sJ M1 247 0 r.toInt64)) (hx : ∀ E M1, X2 E M1 → ∃ t, (t, E) ∈ ([(1, nsE)] : List (Int32 × String)) ∧ Q t M1) : CtW G YL_mark [(0, 12, 15, 19)] (D + 1) mc ms [.ref 100, .int a1, .int a2, .int a3, .ref 247] M (fun a M1 => ∃ t, a = some (.int t) ∧ Q t M1) := by
  refine CtW.of kL_mark (Nat.le_of_ble_eq_true rfl) ?_
  refine h_pad ?_
  refine h_aload dL_mark_0 rfl ?_
  refine h_iconst 0 dL_mark_2 (by decide) ?_
  refine h_aload_n dL_mark_3 rfl ?_
  refine h_iload_n dL_mark_4 rfl ?_
  refine h_iload_n dL_mark_5 rfl ?_
  refine h_iload_n dL_mark_6 rfl ?_
  refine VH.up (kc := 0 + mc) (ks := 0 + ms) (h_callV (mc2 := mc) (ms2 := ms) (D2 := D) [.int a1, .int a2, .int a3] hM k11_mark dL_mark_7 lL_15 hT ⟨by decide, rfl⟩ rfl (Nat.le_refl _) (by decide) (fun v M1 q => ?_) (fun E M1 q => ?_)) (by omega) (by omega)
  · obtain ⟨r, rfl, h247, hQ⟩ := hq _ _ q
    refine h_i2l dL_mark_10 ?_
    refine h_last dL_mark_11 h247 (vp_in_iff.mpr (by decide)) ?_
    rw [z_clamp]
    refine h_goto 19 dL_mark_12 (by decide) ?_
    exact h_iconst 0 dL_mark_19 (by decide) (h_iret dL_mark_20 rfl ⟨0, rfl, hQ⟩)
  · obtain ⟨t, hm, hQ⟩ := hx _ _ q
    simp only [List.mem_cons, List.not_mem_nil, or_false, Prod.mk.injEq] at hm
    obtain ⟨rfl, rfl⟩ := hm
    exact ⟨15, 5, 17, ca_mark_0, rfl, h_iconst 1 dL_mark_17 (by decide) (h_iret dL_mark_18 rfl ⟨1, rfl, hQ⟩)⟩
theorem kL_nearest : mOKw YL_nearest [(0, 9, 12, 19)] 3 := ⟨aw_w (List.mem_of_getElem? (i := 1508) (by decide +kernel)) rfl, N_L, by decide +kernel, ⟨by decide +kernel, by decide +kernel, by decide +kernel⟩, by decide, aw_w (List.mem_of_getElem? (i := 1507) (by decide +kernel)) rfl⟩
theorem ca_nearest_0p : ∀ z ∈ ([] : List ExceptionTableEntry), z.catchType ≠ 0 ∧ ∃ n2 : String, Cond.classLink (yy YL_nearest).cls z.catchType n2 ∈ aw ∧ nsE ∈ exL ∧ n2 ∈ exL ∧ nsE ≠ n2 := by intro z h; cases h
theorem ca_nearest_0 : CatchAt YL_nearest [(0, 9, 12, 19)] 4 nsE 12 3 13 := ⟨[], ⟨0, 9, 12, 19⟩, [], nsE, rfl, ca_nearest_0p, by decide, by decide, cl_ns, ow_ns, rfl, by decide, Or.inl ⟨3, rfl, dL_nearest_12, rfl⟩⟩
theorem w_nearest {D mc ms : Nat} (a1 : Int32) {Q2 : Option Value → mM → Prop} {X2 : String → mM → Prop} {Q : Int32 → mM → Prop} (hM : Ct G Y11_nearest D mc ms [.ref 100, .int a1] M Q2 X2) (hT : gT M 100 = .inl 11) (hq : ∀ a M1, Q2 a M1 → ∃ r : Int32, a = some (.int r) ∧ gT M1 247 = .inr (1, 1) ∧ Q 0 (sJ M1 247 0 r.toInt64)) (hx : ∀ E M1, X2 E M1 → ∃ t, (t, E) ∈ ([(1, nsE)] : List (Int32 × String)) ∧ Q t M1) : CtW G YL_nearest [(0, 9, 12, 19)] (D + 1) mc ms [.ref 100, .int a1, .ref 247] M (fun a M1 => ∃ t, a = some (.int t) ∧ Q t M1) := by
  refine CtW.of kL_nearest (Nat.le_of_ble_eq_true rfl) ?_
  refine h_pad ?_
  refine h_aload_n dL_nearest_0 rfl ?_
  refine h_iconst 0 dL_nearest_1 (by decide) ?_
  refine h_aload_n dL_nearest_2 rfl ?_
  refine h_iload_n dL_nearest_3 rfl ?_
  refine VH.up (kc := 0 + mc) (ks := 0 + ms) (h_callV (mc2 := mc) (ms2 := ms) (D2 := D) [.int a1] hM k11_nearest dL_nearest_4 lL_105 hT ⟨by decide, rfl⟩ rfl (Nat.le_refl _) (by decide) (fun v M1 q => ?_) (fun E M1 q => ?_)) (by omega) (by omega)
  · obtain ⟨r, rfl, h247, hQ⟩ := hq _ _ q
    refine h_i2l dL_nearest_7 ?_
    refine h_last dL_nearest_8 h247 (vp_in_iff.mpr (by decide)) ?_
    rw [z_clamp]
    refine h_goto 15 dL_nearest_9 (by decide) ?_
    exact h_iconst 0 dL_nearest_15 (by decide) (h_iret dL_nearest_16 rfl ⟨0, rfl, hQ⟩)
  · obtain ⟨t, hm, hQ⟩ := hx _ _ q
    simp only [List.mem_cons, List.not_mem_nil, or_false, Prod.mk.injEq] at hm
    obtain ⟨rfl, rfl⟩ := hm
    exact ⟨12, 3, 13, ca_nearest_0, rfl, h_iconst 1 dL_nearest_13 (by decide) (h_iret dL_nearest_14 rfl ⟨1, rfl, hQ⟩)⟩
theorem kL_night : mOKw YL_night [(0, 10, 13, 13), (0, 10, 17, 44)] 4 := ⟨aw_w (List.mem_of_getElem? (i := 1413) (by decide +kernel)) rfl, N_L, by decide +kernel, ⟨by decide +kernel, by decide +kernel, by decide +kernel⟩, by decide, aw_w (List.mem_of_getElem? (i := 1412) (by decide +kernel)) rfl⟩
theorem ca_night_0p : ∀ z ∈ ([] : List ExceptionTableEntry), z.catchType ≠ 0 ∧ ∃ n2 : String, Cond.classLink (yy YL_night).cls z.catchType n2 ∈ aw ∧ iaE ∈ exL ∧ n2 ∈ exL ∧ iaE ≠ n2 := by intro z h; cases h
theorem ca_night_0 : CatchAt YL_night [(0, 10, 13, 13), (0, 10, 17, 44)] 5 iaE 13 4 15 := ⟨[], ⟨0, 10, 13, 13⟩, [⟨0, 10, 17, 44⟩], iaE, rfl, ca_night_0p, by decide, by decide, cl_ia, ow_ia, rfl, by decide, Or.inr ⟨dL_night_13, rfl⟩⟩
theorem ca_night_1p : ∀ z ∈ ([⟨0, 10, 13, 13⟩] : List ExceptionTableEntry), z.catchType ≠ 0 ∧ ∃ n2 : String, Cond.classLink (yy YL_night).cls z.catchType n2 ∈ aw ∧ isE ∈ exL ∧ n2 ∈ exL ∧ isE ≠ n2 := by
  intro z h
  rcases List.mem_cons.mp h with rfl | h
  · exact ⟨by decide, iaE, cl_ia, ex_is, ex_ia, by decide +kernel⟩
  cases h
theorem ca_night_1 : CatchAt YL_night [(0, 10, 13, 13), (0, 10, 17, 44)] 5 isE 17 4 19 := ⟨[⟨0, 10, 13, 13⟩], ⟨0, 10, 17, 44⟩, [], isE, rfl, ca_night_1p, by decide, by decide, cl_is, ow_is, rfl, by decide, Or.inr ⟨dL_night_17, rfl⟩⟩
theorem w_night {D mc ms : Nat} (a1 : Int32) (a2 : Int32) {Q2 : Option Value → mM → Prop} {X2 : String → mM → Prop} {Q : Int32 → mM → Prop} (hM : Ct G Y11_night D mc ms [.ref 100, .int a1, .int a2] M Q2 X2) (hT : gT M 100 = .inl 11) (hq : ∀ a M1, Q2 a M1 → ∃ r : Int32, a = some (.int r) ∧ gT M1 247 = .inr (1, 1) ∧ Q 0 (sJ M1 247 0 r.toInt64)) (hx : ∀ E M1, X2 E M1 → ∃ t, (t, E) ∈ ([(1, iaE), (2, isE)] : List (Int32 × String)) ∧ Q t M1) : CtW G YL_night [(0, 10, 13, 13), (0, 10, 17, 44)] (D + 1) mc ms [.ref 100, .int a1, .int a2, .ref 247] M (fun a M1 => ∃ t, a = some (.int t) ∧ Q t M1) := by
  refine CtW.of kL_night (Nat.le_of_ble_eq_true rfl) ?_
  refine h_pad ?_
  refine h_aload_n dL_night_0 rfl ?_
  refine h_iconst 0 dL_night_1 (by decide) ?_
  refine h_aload_n dL_night_2 rfl ?_
  refine h_iload_n dL_night_3 rfl ?_
  refine h_iload_n dL_night_4 rfl ?_
  refine VH.up (kc := 0 + mc) (ks := 0 + ms) (h_callV (mc2 := mc) (ms2 := ms) (D2 := D) [.int a1, .int a2] hM k11_night dL_night_5 lL_93 hT ⟨by decide, rfl⟩ rfl (Nat.le_refl _) (by decide) (fun v M1 q => ?_) (fun E M1 q => ?_)) (by omega) (by omega)
  · obtain ⟨r, rfl, h247, hQ⟩ := hq _ _ q
    refine h_i2l dL_night_8 ?_
    refine h_last dL_night_9 h247 (vp_in_iff.mpr (by decide)) ?_
    rw [z_clamp]
    refine h_goto 21 dL_night_10 (by decide) ?_
    exact h_iconst 0 dL_night_21 (by decide) (h_iret dL_night_22 rfl ⟨0, rfl, hQ⟩)
  · obtain ⟨t, hm, hQ⟩ := hx _ _ q
    simp only [List.mem_cons, List.not_mem_nil, or_false, Prod.mk.injEq] at hm
    rcases hm with ⟨rfl, rfl⟩ | ⟨rfl, rfl⟩
    · exact ⟨13, 4, 15, ca_night_0, rfl, h_iconst 1 dL_night_15 (by decide) (h_iret dL_night_16 rfl ⟨1, rfl, hQ⟩)⟩
    · exact ⟨17, 4, 19, ca_night_1, rfl, h_iconst 2 dL_night_19 (by decide) (h_iret dL_night_20 rfl ⟨2, rfl, hQ⟩)⟩
theorem kL_perform : mOKw YL_perform [(0, 9, 12, 19), (0, 9, 15, 44)] 3 := ⟨aw_w (List.mem_of_getElem? (i := 1406) (by decide +kernel)) rfl, N_L, by decide +kernel, ⟨by decide +kernel, by decide +kernel, by decide +kernel⟩, by decide, aw_w (List.mem_of_getElem? (i := 1405) (by decide +kernel)) rfl⟩
theorem ca_perform_0p : ∀ z ∈ ([] : List ExceptionTableEntry), z.catchType ≠ 0 ∧ ∃ n2 : String, Cond.classLink (yy YL_perform).cls z.catchType n2 ∈ aw ∧ nsE ∈ exL ∧ n2 ∈ exL ∧ nsE ≠ n2 := by intro z h; cases h
theorem ca_perform_0 : CatchAt YL_perform [(0, 9, 12, 19), (0, 9, 15, 44)] 4 nsE 12 3 13 := ⟨[], ⟨0, 9, 12, 19⟩, [⟨0, 9, 15, 44⟩], nsE, rfl, ca_perform_0p, by decide, by decide, cl_ns, ow_ns, rfl, by decide, Or.inl ⟨3, rfl, dL_perform_12, rfl⟩⟩
theorem ca_perform_1p : ∀ z ∈ ([⟨0, 9, 12, 19⟩] : List ExceptionTableEntry), z.catchType ≠ 0 ∧ ∃ n2 : String, Cond.classLink (yy YL_perform).cls z.catchType n2 ∈ aw ∧ isE ∈ exL ∧ n2 ∈ exL ∧ isE ≠ n2 := by
  intro z h
  rcases List.mem_cons.mp h with rfl | h
  · exact ⟨by decide, nsE, cl_ns, ex_is, ex_ns, by decide +kernel⟩
  cases h
theorem ca_perform_1 : CatchAt YL_perform [(0, 9, 12, 19), (0, 9, 15, 44)] 4 isE 15 3 16 := ⟨[⟨0, 9, 12, 19⟩], ⟨0, 9, 15, 44⟩, [], isE, rfl, ca_perform_1p, by decide, by decide, cl_is, ow_is, rfl, by decide, Or.inl ⟨3, rfl, dL_perform_15, rfl⟩⟩
theorem w_perform {D mc ms : Nat} (a1 : Int32) {Q2 : Option Value → mM → Prop} {X2 : String → mM → Prop} {Q : Int32 → mM → Prop} (hM : Ct G Y11_perform D mc ms [.ref 100, .int a1] M Q2 X2) (hT : gT M 100 = .inl 11) (hq : ∀ a M1, Q2 a M1 → ∃ r : Int32, a = some (.int r) ∧ gT M1 247 = .inr (1, 1) ∧ Q 0 (sJ M1 247 0 r.toInt64)) (hx : ∀ E M1, X2 E M1 → ∃ t, (t, E) ∈ ([(1, nsE), (2, isE)] : List (Int32 × String)) ∧ Q t M1) : CtW G YL_perform [(0, 9, 12, 19), (0, 9, 15, 44)] (D + 1) mc ms [.ref 100, .int a1, .ref 247] M (fun a M1 => ∃ t, a = some (.int t) ∧ Q t M1) := by
  refine CtW.of kL_perform (Nat.le_of_ble_eq_true rfl) ?_
  refine h_pad ?_
  refine h_aload_n dL_perform_0 rfl ?_
  refine h_iconst 0 dL_perform_1 (by decide) ?_
  refine h_aload_n dL_perform_2 rfl ?_
  refine h_iload_n dL_perform_3 rfl ?_
  refine VH.up (kc := 0 + mc) (ks := 0 + ms) (h_callV (mc2 := mc) (ms2 := ms) (D2 := D) [.int a1] hM k11_perform dL_perform_4 lL_90 hT ⟨by decide, rfl⟩ rfl (Nat.le_refl _) (by decide) (fun v M1 q => ?_) (fun E M1 q => ?_)) (by omega) (by omega)
  · obtain ⟨r, rfl, h247, hQ⟩ := hq _ _ q
    refine h_i2l dL_perform_7 ?_
    refine h_last dL_perform_8 h247 (vp_in_iff.mpr (by decide)) ?_
    rw [z_clamp]
    refine h_goto 18 dL_perform_9 (by decide) ?_
    exact h_iconst 0 dL_perform_18 (by decide) (h_iret dL_perform_19 rfl ⟨0, rfl, hQ⟩)
  · obtain ⟨t, hm, hQ⟩ := hx _ _ q
    simp only [List.mem_cons, List.not_mem_nil, or_false, Prod.mk.injEq] at hm
    rcases hm with ⟨rfl, rfl⟩ | ⟨rfl, rfl⟩
    · exact ⟨12, 3, 13, ca_perform_0, rfl, h_iconst 1 dL_perform_13 (by decide) (h_iret dL_perform_14 rfl ⟨1, rfl, hQ⟩)⟩
    · exact ⟨15, 3, 16, ca_perform_1, rfl, h_iconst 2 dL_perform_16 (by decide) (h_iret dL_perform_17 rfl ⟨2, rfl, hQ⟩)⟩
theorem kL_person : mOKw YL_person [(0, 10, 13, 19), (0, 10, 17, 13)] 4 := ⟨aw_w (List.mem_of_getElem? (i := 1351) (by decide +kernel)) rfl, N_L, by decide +kernel, ⟨by decide +kernel, by decide +kernel, by decide +kernel⟩, by decide, aw_w (List.mem_of_getElem? (i := 1350) (by decide +kernel)) rfl⟩
theorem ca_person_0p : ∀ z ∈ ([] : List ExceptionTableEntry), z.catchType ≠ 0 ∧ ∃ n2 : String, Cond.classLink (yy YL_person).cls z.catchType n2 ∈ aw ∧ nsE ∈ exL ∧ n2 ∈ exL ∧ nsE ≠ n2 := by intro z h; cases h
theorem ca_person_0 : CatchAt YL_person [(0, 10, 13, 19), (0, 10, 17, 13)] 5 nsE 13 4 15 := ⟨[], ⟨0, 10, 13, 19⟩, [⟨0, 10, 17, 13⟩], nsE, rfl, ca_person_0p, by decide, by decide, cl_ns, ow_ns, rfl, by decide, Or.inr ⟨dL_person_13, rfl⟩⟩
theorem ca_person_1p : ∀ z ∈ ([⟨0, 10, 13, 19⟩] : List ExceptionTableEntry), z.catchType ≠ 0 ∧ ∃ n2 : String, Cond.classLink (yy YL_person).cls z.catchType n2 ∈ aw ∧ iaE ∈ exL ∧ n2 ∈ exL ∧ iaE ≠ n2 := by
  intro z h
  rcases List.mem_cons.mp h with rfl | h
  · exact ⟨by decide, nsE, cl_ns, ex_ia, ex_ns, by decide +kernel⟩
  cases h
theorem ca_person_1 : CatchAt YL_person [(0, 10, 13, 19), (0, 10, 17, 13)] 5 iaE 17 4 19 := ⟨[⟨0, 10, 13, 19⟩], ⟨0, 10, 17, 13⟩, [], iaE, rfl, ca_person_1p, by decide, by decide, cl_ia, ow_ia, rfl, by decide, Or.inr ⟨dL_person_17, rfl⟩⟩
theorem w_person {D mc ms : Nat} (a1 : Int32) (a2 : Int32) {Q2 : Option Value → mM → Prop} {X2 : String → mM → Prop} {Q : Int32 → mM → Prop} (hM : Ct G Y11_person D mc ms [.ref 100, .int a1, .int a2] M Q2 X2) (hT : gT M 100 = .inl 11) (hq : ∀ a M1, Q2 a M1 → ∃ r : Int32, a = some (.int r) ∧ gT M1 247 = .inr (1, 1) ∧ Q 0 (sJ M1 247 0 r.toInt64)) (hx : ∀ E M1, X2 E M1 → ∃ t, (t, E) ∈ ([(1, nsE), (2, iaE)] : List (Int32 × String)) ∧ Q t M1) : CtW G YL_person [(0, 10, 13, 19), (0, 10, 17, 13)] (D + 1) mc ms [.ref 100, .int a1, .int a2, .ref 247] M (fun a M1 => ∃ t, a = some (.int t) ∧ Q t M1) := by
  refine CtW.of kL_person (Nat.le_of_ble_eq_true rfl) ?_
  refine h_pad ?_
  refine h_aload_n dL_person_0 rfl ?_
  refine h_iconst 0 dL_person_1 (by decide) ?_
  refine h_aload_n dL_person_2 rfl ?_
  refine h_iload_n dL_person_3 rfl ?_
  refine h_iload_n dL_person_4 rfl ?_
  refine VH.up (kc := 0 + mc) (ks := 0 + ms) (h_callV (mc2 := mc) (ms2 := ms) (D2 := D) [.int a1, .int a2] hM k11_person dL_person_5 lL_81 hT ⟨by decide, rfl⟩ rfl (Nat.le_refl _) (by decide) (fun v M1 q => ?_) (fun E M1 q => ?_)) (by omega) (by omega)
  · obtain ⟨r, rfl, h247, hQ⟩ := hq _ _ q
    refine h_i2l dL_person_8 ?_
    refine h_last dL_person_9 h247 (vp_in_iff.mpr (by decide)) ?_
    rw [z_clamp]
    refine h_goto 21 dL_person_10 (by decide) ?_
    exact h_iconst 0 dL_person_21 (by decide) (h_iret dL_person_22 rfl ⟨0, rfl, hQ⟩)
  · obtain ⟨t, hm, hQ⟩ := hx _ _ q
    simp only [List.mem_cons, List.not_mem_nil, or_false, Prod.mk.injEq] at hm
    rcases hm with ⟨rfl, rfl⟩ | ⟨rfl, rfl⟩
    · exact ⟨13, 4, 15, ca_person_0, rfl, h_iconst 1 dL_person_15 (by decide) (h_iret dL_person_16 rfl ⟨1, rfl, hQ⟩)⟩
    · exact ⟨17, 4, 19, ca_person_1, rfl, h_iconst 2 dL_person_19 (by decide) (h_iret dL_person_20 rfl ⟨2, rfl, hQ⟩)⟩
theorem kL_price : mOKw YL_price [(0, 9, 12, 19), (0, 9, 15, 44)] 3 := ⟨aw_w (List.mem_of_getElem? (i := 1254) (by decide +kernel)) rfl, N_L, by decide +kernel, ⟨by decide +kernel, by decide +kernel, by decide +kernel⟩, by decide, aw_w (List.mem_of_getElem? (i := 1253) (by decide +kernel)) rfl⟩
theorem ca_price_0p : ∀ z ∈ ([] : List ExceptionTableEntry), z.catchType ≠ 0 ∧ ∃ n2 : String, Cond.classLink (yy YL_price).cls z.catchType n2 ∈ aw ∧ nsE ∈ exL ∧ n2 ∈ exL ∧ nsE ≠ n2 := by intro z h; cases h
theorem ca_price_0 : CatchAt YL_price [(0, 9, 12, 19), (0, 9, 15, 44)] 4 nsE 12 3 13 := ⟨[], ⟨0, 9, 12, 19⟩, [⟨0, 9, 15, 44⟩], nsE, rfl, ca_price_0p, by decide, by decide, cl_ns, ow_ns, rfl, by decide, Or.inl ⟨3, rfl, dL_price_12, rfl⟩⟩
theorem ca_price_1p : ∀ z ∈ ([⟨0, 9, 12, 19⟩] : List ExceptionTableEntry), z.catchType ≠ 0 ∧ ∃ n2 : String, Cond.classLink (yy YL_price).cls z.catchType n2 ∈ aw ∧ isE ∈ exL ∧ n2 ∈ exL ∧ isE ≠ n2 := by
  intro z h
  rcases List.mem_cons.mp h with rfl | h
  · exact ⟨by decide, nsE, cl_ns, ex_is, ex_ns, by decide +kernel⟩
  cases h
theorem ca_price_1 : CatchAt YL_price [(0, 9, 12, 19), (0, 9, 15, 44)] 4 isE 15 3 16 := ⟨[⟨0, 9, 12, 19⟩], ⟨0, 9, 15, 44⟩, [], isE, rfl, ca_price_1p, by decide, by decide, cl_is, ow_is, rfl, by decide, Or.inl ⟨3, rfl, dL_price_15, rfl⟩⟩
theorem w_price {D mc ms : Nat} (a1 : Int32) {Q2 : Option Value → mM → Prop} {X2 : String → mM → Prop} {Q : Int32 → mM → Prop} (hM : Ct G Y11_price D mc ms [.ref 100, .int a1] M Q2 X2) (hT : gT M 100 = .inl 11) (hq : ∀ a M1, Q2 a M1 → ∃ r : Int32, a = some (.int r) ∧ gT M1 247 = .inr (1, 1) ∧ Q 0 (sJ M1 247 0 r.toInt64)) (hx : ∀ E M1, X2 E M1 → ∃ t, (t, E) ∈ ([(1, nsE), (2, isE)] : List (Int32 × String)) ∧ Q t M1) : CtW G YL_price [(0, 9, 12, 19), (0, 9, 15, 44)] (D + 1) mc ms [.ref 100, .int a1, .ref 247] M (fun a M1 => ∃ t, a = some (.int t) ∧ Q t M1) := by
  refine CtW.of kL_price (Nat.le_of_ble_eq_true rfl) ?_
  refine h_pad ?_
  refine h_aload_n dL_price_0 rfl ?_
  refine h_iconst 0 dL_price_1 (by decide) ?_
  refine h_aload_n dL_price_2 rfl ?_
  refine h_iload_n dL_price_3 rfl ?_
  refine VH.up (kc := 0 + mc) (ks := 0 + ms) (h_callV (mc2 := mc) (ms2 := ms) (D2 := D) [.int a1] hM k11_price dL_price_4 lL_52 hT ⟨by decide, rfl⟩ rfl (Nat.le_refl _) (by decide) (fun v M1 q => ?_) (fun E M1 q => ?_)) (by omega) (by omega)
  · obtain ⟨r, rfl, h247, hQ⟩ := hq _ _ q
    refine h_i2l dL_price_7 ?_
    refine h_last dL_price_8 h247 (vp_in_iff.mpr (by decide)) ?_
    rw [z_clamp]
    refine h_goto 18 dL_price_9 (by decide) ?_
    exact h_iconst 0 dL_price_18 (by decide) (h_iret dL_price_19 rfl ⟨0, rfl, hQ⟩)
  · obtain ⟨t, hm, hQ⟩ := hx _ _ q
    simp only [List.mem_cons, List.not_mem_nil, or_false, Prod.mk.injEq] at hm
    rcases hm with ⟨rfl, rfl⟩ | ⟨rfl, rfl⟩
    · exact ⟨12, 3, 13, ca_price_0, rfl, h_iconst 1 dL_price_13 (by decide) (h_iret dL_price_14 rfl ⟨1, rfl, hQ⟩)⟩
    · exact ⟨15, 3, 16, ca_price_1, rfl, h_iconst 2 dL_price_16 (by decide) (h_iret dL_price_17 rfl ⟨2, rfl, hQ⟩)⟩
theorem kL_rank : mOKw YL_rank [(0, 9, 12, 13)] 3 := ⟨aw_w (List.mem_of_getElem? (i := 1272) (by decide +kernel)) rfl, N_L, by decide +kernel, ⟨by decide +kernel, by decide +kernel, by decide +kernel⟩, by decide, aw_w (List.mem_of_getElem? (i := 1271) (by decide +kernel)) rfl⟩
theorem ca_rank_0p : ∀ z ∈ ([] : List ExceptionTableEntry), z.catchType ≠ 0 ∧ ∃ n2 : String, Cond.classLink (yy YL_rank).cls z.catchType n2 ∈ aw ∧ iaE ∈ exL ∧ n2 ∈ exL ∧ iaE ≠ n2 := by intro z h; cases h
theorem ca_rank_0 : CatchAt YL_rank [(0, 9, 12, 13)] 4 iaE 12 3 13 := ⟨[], ⟨0, 9, 12, 13⟩, [], iaE, rfl, ca_rank_0p, by decide, by decide, cl_ia, ow_ia, rfl, by decide, Or.inl ⟨3, rfl, dL_rank_12, rfl⟩⟩
theorem w_rank {D mc ms : Nat} (a1 : Int32) {Q2 : Option Value → mM → Prop} {X2 : String → mM → Prop} {Q : Int32 → mM → Prop} (hM : Ct G Y11_rank D mc ms [.ref 100, .int a1] M Q2 X2) (hT : gT M 100 = .inl 11) (hq : ∀ a M1, Q2 a M1 → ∃ r : Int32, a = some (.int r) ∧ gT M1 247 = .inr (1, 1) ∧ Q 0 (sJ M1 247 0 r.toInt64)) (hx : ∀ E M1, X2 E M1 → ∃ t, (t, E) ∈ ([(1, iaE)] : List (Int32 × String)) ∧ Q t M1) : CtW G YL_rank [(0, 9, 12, 13)] (D + 1) mc ms [.ref 100, .int a1, .ref 247] M (fun a M1 => ∃ t, a = some (.int t) ∧ Q t M1) := by
  refine CtW.of kL_rank (Nat.le_of_ble_eq_true rfl) ?_
  refine h_pad ?_
  refine h_aload_n dL_rank_0 rfl ?_
  refine h_iconst 0 dL_rank_1 (by decide) ?_
  refine h_aload_n dL_rank_2 rfl ?_
  refine h_iload_n dL_rank_3 rfl ?_
  refine VH.up (kc := 0 + mc) (ks := 0 + ms) (h_callV (mc2 := mc) (ms2 := ms) (D2 := D) [.int a1] hM k11_rank dL_rank_4 lL_58 hT ⟨by decide, rfl⟩ rfl (Nat.le_refl _) (by decide) (fun v M1 q => ?_) (fun E M1 q => ?_)) (by omega) (by omega)
  · obtain ⟨r, rfl, h247, hQ⟩ := hq _ _ q
    refine h_i2l dL_rank_7 ?_
    refine h_last dL_rank_8 h247 (vp_in_iff.mpr (by decide)) ?_
    rw [z_clamp]
    refine h_goto 15 dL_rank_9 (by decide) ?_
    exact h_iconst 0 dL_rank_15 (by decide) (h_iret dL_rank_16 rfl ⟨0, rfl, hQ⟩)
  · obtain ⟨t, hm, hQ⟩ := hx _ _ q
    simp only [List.mem_cons, List.not_mem_nil, or_false, Prod.mk.injEq] at hm
    obtain ⟨rfl, rfl⟩ := hm
    exact ⟨12, 3, 13, ca_rank_0, rfl, h_iconst 1 dL_rank_13 (by decide) (h_iret dL_rank_14 rfl ⟨1, rfl, hQ⟩)⟩
theorem kL_restore : mOKw YL_restore [(0, 5, 8, 19), (0, 5, 11, 44)] 2 := ⟨aw_w (List.mem_of_getElem? (i := 1609) (by decide +kernel)) rfl, N_L, by decide +kernel, ⟨by decide +kernel, by decide +kernel, by decide +kernel⟩, by decide, aw_w (List.mem_of_getElem? (i := 1608) (by decide +kernel)) rfl⟩
theorem ca_restore_0p : ∀ z ∈ ([] : List ExceptionTableEntry), z.catchType ≠ 0 ∧ ∃ n2 : String, Cond.classLink (yy YL_restore).cls z.catchType n2 ∈ aw ∧ nsE ∈ exL ∧ n2 ∈ exL ∧ nsE ≠ n2 := by intro z h; cases h
theorem ca_restore_0 : CatchAt YL_restore [(0, 5, 8, 19), (0, 5, 11, 44)] 2 nsE 8 2 9 := ⟨[], ⟨0, 5, 8, 19⟩, [⟨0, 5, 11, 44⟩], nsE, rfl, ca_restore_0p, by decide, by decide, cl_ns, ow_ns, rfl, by decide, Or.inl ⟨2, rfl, dL_restore_8, rfl⟩⟩
theorem ca_restore_1p : ∀ z ∈ ([⟨0, 5, 8, 19⟩] : List ExceptionTableEntry), z.catchType ≠ 0 ∧ ∃ n2 : String, Cond.classLink (yy YL_restore).cls z.catchType n2 ∈ aw ∧ isE ∈ exL ∧ n2 ∈ exL ∧ isE ≠ n2 := by
  intro z h
  rcases List.mem_cons.mp h with rfl | h
  · exact ⟨by decide, nsE, cl_ns, ex_is, ex_ns, by decide +kernel⟩
  cases h
theorem ca_restore_1 : CatchAt YL_restore [(0, 5, 8, 19), (0, 5, 11, 44)] 2 isE 11 2 12 := ⟨[⟨0, 5, 8, 19⟩], ⟨0, 5, 11, 44⟩, [], isE, rfl, ca_restore_1p, by decide, by decide, cl_is, ow_is, rfl, by decide, Or.inl ⟨2, rfl, dL_restore_11, rfl⟩⟩
theorem w_restore {D mc ms : Nat} (a1 : Int32) {Q2 : Option Value → mM → Prop} {X2 : String → mM → Prop} {Q : Int32 → mM → Prop} (hM : Ct G Y11_restore D mc ms [.ref 100, .int a1] M Q2 X2) (hT : gT M 100 = .inl 11) (hq : ∀ a M1, Q2 a M1 → a = none ∧ Q 0 M1) (hx : ∀ E M1, X2 E M1 → ∃ t, (t, E) ∈ ([(1, nsE), (2, isE)] : List (Int32 × String)) ∧ Q t M1) : CtW G YL_restore [(0, 5, 8, 19), (0, 5, 11, 44)] (D + 1) mc ms [.ref 100, .int a1] M (fun a M1 => ∃ t, a = some (.int t) ∧ Q t M1) := by
  refine CtW.of kL_restore (Nat.le_of_ble_eq_true rfl) ?_
  refine h_pad ?_
  refine h_aload_n dL_restore_0 rfl ?_
  refine h_iload_n dL_restore_1 rfl ?_
  refine VH.up (kc := 0 + mc) (ks := 0 + ms) (h_callV (mc2 := mc) (ms2 := ms) (D2 := D) [.int a1] hM k11_restore dL_restore_2 lL_134 hT ⟨by decide, rfl⟩ rfl (Nat.le_refl _) (by decide) (fun v M1 q => ?_) (fun E M1 q => ?_)) (by omega) (by omega)
  · obtain ⟨rfl, hQ⟩ := hq _ _ q
    refine h_goto 14 dL_restore_5 (by decide) ?_
    exact h_iconst 0 dL_restore_14 (by decide) (h_iret dL_restore_15 rfl ⟨0, rfl, hQ⟩)
  · obtain ⟨t, hm, hQ⟩ := hx _ _ q
    simp only [List.mem_cons, List.not_mem_nil, or_false, Prod.mk.injEq] at hm
    rcases hm with ⟨rfl, rfl⟩ | ⟨rfl, rfl⟩
    · exact ⟨8, 2, 9, ca_restore_0, rfl, h_iconst 1 dL_restore_9 (by decide) (h_iret dL_restore_10 rfl ⟨1, rfl, hQ⟩)⟩
    · exact ⟨11, 2, 12, ca_restore_1, rfl, h_iconst 2 dL_restore_12 (by decide) (h_iret dL_restore_13 rfl ⟨2, rfl, hQ⟩)⟩
theorem kL_settle : mOKw YL_settle [(0, 8, 11, 44)] 2 := ⟨aw_w (List.mem_of_getElem? (i := 1303) (by decide +kernel)) rfl, N_L, by decide +kernel, ⟨by decide +kernel, by decide +kernel, by decide +kernel⟩, by decide, aw_w (List.mem_of_getElem? (i := 1302) (by decide +kernel)) rfl⟩
theorem ca_settle_0p : ∀ z ∈ ([] : List ExceptionTableEntry), z.catchType ≠ 0 ∧ ∃ n2 : String, Cond.classLink (yy YL_settle).cls z.catchType n2 ∈ aw ∧ isE ∈ exL ∧ n2 ∈ exL ∧ isE ≠ n2 := by intro z h; cases h
theorem ca_settle_0 : CatchAt YL_settle [(0, 8, 11, 44)] 3 isE 11 2 12 := ⟨[], ⟨0, 8, 11, 44⟩, [], isE, rfl, ca_settle_0p, by decide, by decide, cl_is, ow_is, rfl, by decide, Or.inl ⟨2, rfl, dL_settle_11, rfl⟩⟩
theorem w_settle {D mc ms : Nat}  {Q2 : Option Value → mM → Prop} {X2 : String → mM → Prop} {Q : Int32 → mM → Prop} (hM : Ct G Y11_settle D mc ms [.ref 100] M Q2 X2) (hT : gT M 100 = .inl 11) (hq : ∀ a M1, Q2 a M1 → ∃ r : Int32, a = some (.int r) ∧ gT M1 247 = .inr (1, 1) ∧ Q 0 (sJ M1 247 0 r.toInt64)) (hx : ∀ E M1, X2 E M1 → ∃ t, (t, E) ∈ ([(1, isE)] : List (Int32 × String)) ∧ Q t M1) : CtW G YL_settle [(0, 8, 11, 44)] (D + 1) mc ms [.ref 100, .ref 247] M (fun a M1 => ∃ t, a = some (.int t) ∧ Q t M1) := by
  refine CtW.of kL_settle (Nat.le_of_ble_eq_true rfl) ?_
  refine h_pad ?_
  refine h_aload_n dL_settle_0 rfl ?_
  refine h_iconst 0 dL_settle_1 (by decide) ?_
  refine h_aload_n dL_settle_2 rfl ?_
  refine VH.up (kc := 0 + mc) (ks := 0 + ms) (h_callV (mc2 := mc) (ms2 := ms) (D2 := D) [] hM k11_settle dL_settle_3 lL_67 hT ⟨by decide, rfl⟩ rfl (Nat.le_refl _) (by decide) (fun v M1 q => ?_) (fun E M1 q => ?_)) (by omega) (by omega)
  · obtain ⟨r, rfl, h247, hQ⟩ := hq _ _ q
    refine h_i2l dL_settle_6 ?_
    refine h_last dL_settle_7 h247 (vp_in_iff.mpr (by decide)) ?_
    rw [z_clamp]
    refine h_goto 14 dL_settle_8 (by decide) ?_
    exact h_iconst 0 dL_settle_14 (by decide) (h_iret dL_settle_15 rfl ⟨0, rfl, hQ⟩)
  · obtain ⟨t, hm, hQ⟩ := hx _ _ q
    simp only [List.mem_cons, List.not_mem_nil, or_false, Prod.mk.injEq] at hm
    obtain ⟨rfl, rfl⟩ := hm
    exact ⟨11, 2, 12, ca_settle_0, rfl, h_iconst 1 dL_settle_12 (by decide) (h_iret dL_settle_13 rfl ⟨1, rfl, hQ⟩)⟩
theorem kL_shorter : mOKw YL_shorter [(0, 9, 12, 13)] 3 := ⟨aw_w (List.mem_of_getElem? (i := 1279) (by decide +kernel)) rfl, N_L, by decide +kernel, ⟨by decide +kernel, by decide +kernel, by decide +kernel⟩, by decide, aw_w (List.mem_of_getElem? (i := 1278) (by decide +kernel)) rfl⟩
theorem ca_shorter_0p : ∀ z ∈ ([] : List ExceptionTableEntry), z.catchType ≠ 0 ∧ ∃ n2 : String, Cond.classLink (yy YL_shorter).cls z.catchType n2 ∈ aw ∧ iaE ∈ exL ∧ n2 ∈ exL ∧ iaE ≠ n2 := by intro z h; cases h
theorem ca_shorter_0 : CatchAt YL_shorter [(0, 9, 12, 13)] 4 iaE 12 3 13 := ⟨[], ⟨0, 9, 12, 13⟩, [], iaE, rfl, ca_shorter_0p, by decide, by decide, cl_ia, ow_ia, rfl, by decide, Or.inl ⟨3, rfl, dL_shorter_12, rfl⟩⟩
theorem w_shorter {D mc ms : Nat} (a1 : Int32) {Q2 : Option Value → mM → Prop} {X2 : String → mM → Prop} {Q : Int32 → mM → Prop} (hM : Ct G Y11_shorter D mc ms [.ref 100, .int a1] M Q2 X2) (hT : gT M 100 = .inl 11) (hq : ∀ a M1, Q2 a M1 → ∃ r : Int32, a = some (.int r) ∧ gT M1 247 = .inr (1, 1) ∧ Q 0 (sJ M1 247 0 r.toInt64)) (hx : ∀ E M1, X2 E M1 → ∃ t, (t, E) ∈ ([(1, iaE)] : List (Int32 × String)) ∧ Q t M1) : CtW G YL_shorter [(0, 9, 12, 13)] (D + 1) mc ms [.ref 100, .int a1, .ref 247] M (fun a M1 => ∃ t, a = some (.int t) ∧ Q t M1) := by
  refine CtW.of kL_shorter (Nat.le_of_ble_eq_true rfl) ?_
  refine h_pad ?_
  refine h_aload_n dL_shorter_0 rfl ?_
  refine h_iconst 0 dL_shorter_1 (by decide) ?_
  refine h_aload_n dL_shorter_2 rfl ?_
  refine h_iload_n dL_shorter_3 rfl ?_
  refine VH.up (kc := 0 + mc) (ks := 0 + ms) (h_callV (mc2 := mc) (ms2 := ms) (D2 := D) [.int a1] hM k11_shorter dL_shorter_4 lL_61 hT ⟨by decide, rfl⟩ rfl (Nat.le_refl _) (by decide) (fun v M1 q => ?_) (fun E M1 q => ?_)) (by omega) (by omega)
  · obtain ⟨r, rfl, h247, hQ⟩ := hq _ _ q
    refine h_i2l dL_shorter_7 ?_
    refine h_last dL_shorter_8 h247 (vp_in_iff.mpr (by decide)) ?_
    rw [z_clamp]
    refine h_goto 15 dL_shorter_9 (by decide) ?_
    exact h_iconst 0 dL_shorter_15 (by decide) (h_iret dL_shorter_16 rfl ⟨0, rfl, hQ⟩)
  · obtain ⟨t, hm, hQ⟩ := hx _ _ q
    simp only [List.mem_cons, List.not_mem_nil, or_false, Prod.mk.injEq] at hm
    obtain ⟨rfl, rfl⟩ := hm
    exact ⟨12, 3, 13, ca_shorter_0, rfl, h_iconst 1 dL_shorter_13 (by decide) (h_iret dL_shorter_14 rfl ⟨1, rfl, hQ⟩)⟩
theorem kL_stake : mOKw YL_stake [(0, 9, 12, 19), (0, 9, 15, 44)] 3 := ⟨aw_w (List.mem_of_getElem? (i := 1343) (by decide +kernel)) rfl, N_L, by decide +kernel, ⟨by decide +kernel, by decide +kernel, by decide +kernel⟩, by decide, aw_w (List.mem_of_getElem? (i := 1342) (by decide +kernel)) rfl⟩
theorem ca_stake_0p : ∀ z ∈ ([] : List ExceptionTableEntry), z.catchType ≠ 0 ∧ ∃ n2 : String, Cond.classLink (yy YL_stake).cls z.catchType n2 ∈ aw ∧ nsE ∈ exL ∧ n2 ∈ exL ∧ nsE ≠ n2 := by intro z h; cases h
theorem ca_stake_0 : CatchAt YL_stake [(0, 9, 12, 19), (0, 9, 15, 44)] 4 nsE 12 3 13 := ⟨[], ⟨0, 9, 12, 19⟩, [⟨0, 9, 15, 44⟩], nsE, rfl, ca_stake_0p, by decide, by decide, cl_ns, ow_ns, rfl, by decide, Or.inl ⟨3, rfl, dL_stake_12, rfl⟩⟩
theorem ca_stake_1p : ∀ z ∈ ([⟨0, 9, 12, 19⟩] : List ExceptionTableEntry), z.catchType ≠ 0 ∧ ∃ n2 : String, Cond.classLink (yy YL_stake).cls z.catchType n2 ∈ aw ∧ isE ∈ exL ∧ n2 ∈ exL ∧ isE ≠ n2 := by
  intro z h
  rcases List.mem_cons.mp h with rfl | h
  · exact ⟨by decide, nsE, cl_ns, ex_is, ex_ns, by decide +kernel⟩
  cases h
theorem ca_stake_1 : CatchAt YL_stake [(0, 9, 12, 19), (0, 9, 15, 44)] 4 isE 15 3 16 := ⟨[⟨0, 9, 12, 19⟩], ⟨0, 9, 15, 44⟩, [], isE, rfl, ca_stake_1p, by decide, by decide, cl_is, ow_is, rfl, by decide, Or.inl ⟨3, rfl, dL_stake_15, rfl⟩⟩
theorem w_stake {D mc ms : Nat} (a1 : Int32) {Q2 : Option Value → mM → Prop} {X2 : String → mM → Prop} {Q : Int32 → mM → Prop} (hM : Ct G Y11_stake D mc ms [.ref 100, .int a1] M Q2 X2) (hT : gT M 100 = .inl 11) (hq : ∀ a M1, Q2 a M1 → ∃ r : Int32, a = some (.int r) ∧ gT M1 247 = .inr (1, 1) ∧ Q 0 (sJ M1 247 0 r.toInt64)) (hx : ∀ E M1, X2 E M1 → ∃ t, (t, E) ∈ ([(1, nsE), (2, isE)] : List (Int32 × String)) ∧ Q t M1) : CtW G YL_stake [(0, 9, 12, 19), (0, 9, 15, 44)] (D + 1) mc ms [.ref 100, .int a1, .ref 247] M (fun a M1 => ∃ t, a = some (.int t) ∧ Q t M1) := by
  refine CtW.of kL_stake (Nat.le_of_ble_eq_true rfl) ?_
  refine h_pad ?_
  refine h_aload_n dL_stake_0 rfl ?_
  refine h_iconst 0 dL_stake_1 (by decide) ?_
  refine h_aload_n dL_stake_2 rfl ?_
  refine h_iload_n dL_stake_3 rfl ?_
  refine VH.up (kc := 0 + mc) (ks := 0 + ms) (h_callV (mc2 := mc) (ms2 := ms) (D2 := D) [.int a1] hM k11_stake dL_stake_4 lL_78 hT ⟨by decide, rfl⟩ rfl (Nat.le_refl _) (by decide) (fun v M1 q => ?_) (fun E M1 q => ?_)) (by omega) (by omega)
  · obtain ⟨r, rfl, h247, hQ⟩ := hq _ _ q
    refine h_i2l dL_stake_7 ?_
    refine h_last dL_stake_8 h247 (vp_in_iff.mpr (by decide)) ?_
    rw [z_clamp]
    refine h_goto 18 dL_stake_9 (by decide) ?_
    exact h_iconst 0 dL_stake_18 (by decide) (h_iret dL_stake_19 rfl ⟨0, rfl, hQ⟩)
  · obtain ⟨t, hm, hQ⟩ := hx _ _ q
    simp only [List.mem_cons, List.not_mem_nil, or_false, Prod.mk.injEq] at hm
    rcases hm with ⟨rfl, rfl⟩ | ⟨rfl, rfl⟩
    · exact ⟨12, 3, 13, ca_stake_0, rfl, h_iconst 1 dL_stake_13 (by decide) (h_iret dL_stake_14 rfl ⟨1, rfl, hQ⟩)⟩
    · exact ⟨15, 3, 16, ca_stake_1, rfl, h_iconst 2 dL_stake_16 (by decide) (h_iret dL_stake_17 rfl ⟨2, rfl, hQ⟩)⟩
theorem kL_sure : mOKw YL_sure [(0, 9, 12, 19), (0, 9, 15, 44)] 3 := ⟨aw_w (List.mem_of_getElem? (i := 1243) (by decide +kernel)) rfl, N_L, by decide +kernel, ⟨by decide +kernel, by decide +kernel, by decide +kernel⟩, by decide, aw_w (List.mem_of_getElem? (i := 1242) (by decide +kernel)) rfl⟩
theorem ca_sure_0p : ∀ z ∈ ([] : List ExceptionTableEntry), z.catchType ≠ 0 ∧ ∃ n2 : String, Cond.classLink (yy YL_sure).cls z.catchType n2 ∈ aw ∧ nsE ∈ exL ∧ n2 ∈ exL ∧ nsE ≠ n2 := by intro z h; cases h
theorem ca_sure_0 : CatchAt YL_sure [(0, 9, 12, 19), (0, 9, 15, 44)] 4 nsE 12 3 13 := ⟨[], ⟨0, 9, 12, 19⟩, [⟨0, 9, 15, 44⟩], nsE, rfl, ca_sure_0p, by decide, by decide, cl_ns, ow_ns, rfl, by decide, Or.inl ⟨3, rfl, dL_sure_12, rfl⟩⟩
theorem ca_sure_1p : ∀ z ∈ ([⟨0, 9, 12, 19⟩] : List ExceptionTableEntry), z.catchType ≠ 0 ∧ ∃ n2 : String, Cond.classLink (yy YL_sure).cls z.catchType n2 ∈ aw ∧ isE ∈ exL ∧ n2 ∈ exL ∧ isE ≠ n2 := by
  intro z h
  rcases List.mem_cons.mp h with rfl | h
  · exact ⟨by decide, nsE, cl_ns, ex_is, ex_ns, by decide +kernel⟩
  cases h
theorem ca_sure_1 : CatchAt YL_sure [(0, 9, 12, 19), (0, 9, 15, 44)] 4 isE 15 3 16 := ⟨[⟨0, 9, 12, 19⟩], ⟨0, 9, 15, 44⟩, [], isE, rfl, ca_sure_1p, by decide, by decide, cl_is, ow_is, rfl, by decide, Or.inl ⟨3, rfl, dL_sure_15, rfl⟩⟩
theorem w_sure {D mc ms : Nat} (a1 : Int32) {Q2 : Option Value → mM → Prop} {X2 : String → mM → Prop} {Q : Int32 → mM → Prop} (hM : Ct G Y11_sure D mc ms [.ref 100, .int a1] M Q2 X2) (hT : gT M 100 = .inl 11) (hq : ∀ a M1, Q2 a M1 → ∃ r : Int32, a = some (.int r) ∧ gT M1 247 = .inr (1, 1) ∧ Q 0 (sJ M1 247 0 r.toInt64)) (hx : ∀ E M1, X2 E M1 → ∃ t, (t, E) ∈ ([(1, nsE), (2, isE)] : List (Int32 × String)) ∧ Q t M1) : CtW G YL_sure [(0, 9, 12, 19), (0, 9, 15, 44)] (D + 1) mc ms [.ref 100, .int a1, .ref 247] M (fun a M1 => ∃ t, a = some (.int t) ∧ Q t M1) := by
  refine CtW.of kL_sure (Nat.le_of_ble_eq_true rfl) ?_
  refine h_pad ?_
  refine h_aload_n dL_sure_0 rfl ?_
  refine h_iconst 0 dL_sure_1 (by decide) ?_
  refine h_aload_n dL_sure_2 rfl ?_
  refine h_iload_n dL_sure_3 rfl ?_
  refine VH.up (kc := 0 + mc) (ks := 0 + ms) (h_callV (mc2 := mc) (ms2 := ms) (D2 := D) [.int a1] hM k11_sure dL_sure_4 lL_49 hT ⟨by decide, rfl⟩ rfl (Nat.le_refl _) (by decide) (fun v M1 q => ?_) (fun E M1 q => ?_)) (by omega) (by omega)
  · obtain ⟨r, rfl, h247, hQ⟩ := hq _ _ q
    refine h_i2l dL_sure_7 ?_
    refine h_last dL_sure_8 h247 (vp_in_iff.mpr (by decide)) ?_
    rw [z_clamp]
    refine h_goto 18 dL_sure_9 (by decide) ?_
    exact h_iconst 0 dL_sure_18 (by decide) (h_iret dL_sure_19 rfl ⟨0, rfl, hQ⟩)
  · obtain ⟨t, hm, hQ⟩ := hx _ _ q
    simp only [List.mem_cons, List.not_mem_nil, or_false, Prod.mk.injEq] at hm
    rcases hm with ⟨rfl, rfl⟩ | ⟨rfl, rfl⟩
    · exact ⟨12, 3, 13, ca_sure_0, rfl, h_iconst 1 dL_sure_13 (by decide) (h_iret dL_sure_14 rfl ⟨1, rfl, hQ⟩)⟩
    · exact ⟨15, 3, 16, ca_sure_1, rfl, h_iconst 2 dL_sure_16 (by decide) (h_iret dL_sure_17 rfl ⟨2, rfl, hQ⟩)⟩
theorem kL_tells : mOKw YL_tells [(0, 9, 12, 13)] 3 := ⟨aw_w (List.mem_of_getElem? (i := 1188) (by decide +kernel)) rfl, N_L, by decide +kernel, ⟨by decide +kernel, by decide +kernel, by decide +kernel⟩, by decide, aw_w (List.mem_of_getElem? (i := 1187) (by decide +kernel)) rfl⟩
theorem ca_tells_0p : ∀ z ∈ ([] : List ExceptionTableEntry), z.catchType ≠ 0 ∧ ∃ n2 : String, Cond.classLink (yy YL_tells).cls z.catchType n2 ∈ aw ∧ iaE ∈ exL ∧ n2 ∈ exL ∧ iaE ≠ n2 := by intro z h; cases h
theorem ca_tells_0 : CatchAt YL_tells [(0, 9, 12, 13)] 4 iaE 12 3 13 := ⟨[], ⟨0, 9, 12, 13⟩, [], iaE, rfl, ca_tells_0p, by decide, by decide, cl_ia, ow_ia, rfl, by decide, Or.inl ⟨3, rfl, dL_tells_12, rfl⟩⟩
theorem w_tells {D mc ms : Nat} (a1 : Int32) {Q2 : Option Value → mM → Prop} {X2 : String → mM → Prop} {Q : Int32 → mM → Prop} (hM : Ct G Y11_tells D mc ms [.ref 100, .int a1] M Q2 X2) (hT : gT M 100 = .inl 11) (hq : ∀ a M1, Q2 a M1 → ∃ r : Int32, a = some (.int r) ∧ gT M1 247 = .inr (1, 1) ∧ Q 0 (sJ M1 247 0 r.toInt64)) (hx : ∀ E M1, X2 E M1 → ∃ t, (t, E) ∈ ([(1, iaE)] : List (Int32 × String)) ∧ Q t M1) : CtW G YL_tells [(0, 9, 12, 13)] (D + 1) mc ms [.ref 100, .int a1, .ref 247] M (fun a M1 => ∃ t, a = some (.int t) ∧ Q t M1) := by
  refine CtW.of kL_tells (Nat.le_of_ble_eq_true rfl) ?_
  refine h_pad ?_
  refine h_aload_n dL_tells_0 rfl ?_
  refine h_iconst 0 dL_tells_1 (by decide) ?_
  refine h_aload_n dL_tells_2 rfl ?_
  refine h_iload_n dL_tells_3 rfl ?_
  refine VH.up (kc := 0 + mc) (ks := 0 + ms) (h_callV (mc2 := mc) (ms2 := ms) (D2 := D) [.int a1] hM k11_tells dL_tells_4 lL_35 hT ⟨by decide, rfl⟩ rfl (Nat.le_refl _) (by decide) (fun v M1 q => ?_) (fun E M1 q => ?_)) (by omega) (by omega)
  · obtain ⟨r, rfl, h247, hQ⟩ := hq _ _ q
    refine h_i2l dL_tells_7 ?_
    refine h_last dL_tells_8 h247 (vp_in_iff.mpr (by decide)) ?_
    rw [z_clamp]
    refine h_goto 15 dL_tells_9 (by decide) ?_
    exact h_iconst 0 dL_tells_15 (by decide) (h_iret dL_tells_16 rfl ⟨0, rfl, hQ⟩)
  · obtain ⟨t, hm, hQ⟩ := hx _ _ q
    simp only [List.mem_cons, List.not_mem_nil, or_false, Prod.mk.injEq] at hm
    obtain ⟨rfl, rfl⟩ := hm
    exact ⟨12, 3, 13, ca_tells_0, rfl, h_iconst 1 dL_tells_13 (by decide) (h_iret dL_tells_14 rfl ⟨1, rfl, hQ⟩)⟩
theorem kL_tray : mOKw YL_tray [(0, 7, 10, 19), (0, 7, 14, 13)] 4 := ⟨aw_w (List.mem_of_getElem? (i := 1545) (by decide +kernel)) rfl, N_L, by decide +kernel, ⟨by decide +kernel, by decide +kernel, by decide +kernel⟩, by decide, aw_w (List.mem_of_getElem? (i := 1544) (by decide +kernel)) rfl⟩
theorem ca_tray_0p : ∀ z ∈ ([] : List ExceptionTableEntry), z.catchType ≠ 0 ∧ ∃ n2 : String, Cond.classLink (yy YL_tray).cls z.catchType n2 ∈ aw ∧ nsE ∈ exL ∧ n2 ∈ exL ∧ nsE ≠ n2 := by intro z h; cases h
theorem ca_tray_0 : CatchAt YL_tray [(0, 7, 10, 19), (0, 7, 14, 13)] 4 nsE 10 4 12 := ⟨[], ⟨0, 7, 10, 19⟩, [⟨0, 7, 14, 13⟩], nsE, rfl, ca_tray_0p, by decide, by decide, cl_ns, ow_ns, rfl, by decide, Or.inr ⟨dL_tray_10, rfl⟩⟩
theorem ca_tray_1p : ∀ z ∈ ([⟨0, 7, 10, 19⟩] : List ExceptionTableEntry), z.catchType ≠ 0 ∧ ∃ n2 : String, Cond.classLink (yy YL_tray).cls z.catchType n2 ∈ aw ∧ iaE ∈ exL ∧ n2 ∈ exL ∧ iaE ≠ n2 := by
  intro z h
  rcases List.mem_cons.mp h with rfl | h
  · exact ⟨by decide, nsE, cl_ns, ex_ia, ex_ns, by decide +kernel⟩
  cases h
theorem ca_tray_1 : CatchAt YL_tray [(0, 7, 10, 19), (0, 7, 14, 13)] 4 iaE 14 4 16 := ⟨[⟨0, 7, 10, 19⟩], ⟨0, 7, 14, 13⟩, [], iaE, rfl, ca_tray_1p, by decide, by decide, cl_ia, ow_ia, rfl, by decide, Or.inr ⟨dL_tray_14, rfl⟩⟩
theorem w_tray {D mc ms : Nat} (a1 : Int32) (a2 : Int32) (a3 : Int32) {Q2 : Option Value → mM → Prop} {X2 : String → mM → Prop} {Q : Int32 → mM → Prop} (hM : Ct G Y11_tray D mc ms [.ref 100, .int a1, .int a2, .int a3] M Q2 X2) (hT : gT M 100 = .inl 11) (hq : ∀ a M1, Q2 a M1 → a = none ∧ Q 0 M1) (hx : ∀ E M1, X2 E M1 → ∃ t, (t, E) ∈ ([(1, nsE), (2, iaE)] : List (Int32 × String)) ∧ Q t M1) : CtW G YL_tray [(0, 7, 10, 19), (0, 7, 14, 13)] (D + 1) mc ms [.ref 100, .int a1, .int a2, .int a3] M (fun a M1 => ∃ t, a = some (.int t) ∧ Q t M1) := by
  refine CtW.of kL_tray (Nat.le_of_ble_eq_true rfl) ?_
  refine h_pad ?_
  refine h_aload_n dL_tray_0 rfl ?_
  refine h_iload_n dL_tray_1 rfl ?_
  refine h_iload_n dL_tray_2 rfl ?_
  refine h_iload_n dL_tray_3 rfl ?_
  refine VH.up (kc := 0 + mc) (ks := 0 + ms) (h_callV (mc2 := mc) (ms2 := ms) (D2 := D) [.int a1, .int a2, .int a3] hM k11_tray dL_tray_4 lL_117 hT ⟨by decide, rfl⟩ rfl (Nat.le_refl _) (by decide) (fun v M1 q => ?_) (fun E M1 q => ?_)) (by omega) (by omega)
  · obtain ⟨rfl, hQ⟩ := hq _ _ q
    refine h_goto 18 dL_tray_7 (by decide) ?_
    exact h_iconst 0 dL_tray_18 (by decide) (h_iret dL_tray_19 rfl ⟨0, rfl, hQ⟩)
  · obtain ⟨t, hm, hQ⟩ := hx _ _ q
    simp only [List.mem_cons, List.not_mem_nil, or_false, Prod.mk.injEq] at hm
    rcases hm with ⟨rfl, rfl⟩ | ⟨rfl, rfl⟩
    · exact ⟨10, 4, 12, ca_tray_0, rfl, h_iconst 1 dL_tray_12 (by decide) (h_iret dL_tray_13 rfl ⟨1, rfl, hQ⟩)⟩
    · exact ⟨14, 4, 16, ca_tray_1, rfl, h_iconst 2 dL_tray_16 (by decide) (h_iret dL_tray_17 rfl ⟨2, rfl, hQ⟩)⟩
theorem kL_undo : mOKw YL_undo [(0, 9, 12, 13)] 3 := ⟨aw_w (List.mem_of_getElem? (i := 1358) (by decide +kernel)) rfl, N_L, by decide +kernel, ⟨by decide +kernel, by decide +kernel, by decide +kernel⟩, by decide, aw_w (List.mem_of_getElem? (i := 1357) (by decide +kernel)) rfl⟩
theorem ca_undo_0p : ∀ z ∈ ([] : List ExceptionTableEntry), z.catchType ≠ 0 ∧ ∃ n2 : String, Cond.classLink (yy YL_undo).cls z.catchType n2 ∈ aw ∧ iaE ∈ exL ∧ n2 ∈ exL ∧ iaE ≠ n2 := by intro z h; cases h
theorem ca_undo_0 : CatchAt YL_undo [(0, 9, 12, 13)] 4 iaE 12 3 13 := ⟨[], ⟨0, 9, 12, 13⟩, [], iaE, rfl, ca_undo_0p, by decide, by decide, cl_ia, ow_ia, rfl, by decide, Or.inl ⟨3, rfl, dL_undo_12, rfl⟩⟩
theorem w_undo {D mc ms : Nat} (a1 : Int32) {Q2 : Option Value → mM → Prop} {X2 : String → mM → Prop} {Q : Int32 → mM → Prop} (hM : Ct G Y11_undo D mc ms [.ref 100, .int a1] M Q2 X2) (hT : gT M 100 = .inl 11) (hq : ∀ a M1, Q2 a M1 → ∃ r : Int32, a = some (.int r) ∧ gT M1 247 = .inr (1, 1) ∧ Q 0 (sJ M1 247 0 r.toInt64)) (hx : ∀ E M1, X2 E M1 → ∃ t, (t, E) ∈ ([(1, iaE)] : List (Int32 × String)) ∧ Q t M1) : CtW G YL_undo [(0, 9, 12, 13)] (D + 1) mc ms [.ref 100, .int a1, .ref 247] M (fun a M1 => ∃ t, a = some (.int t) ∧ Q t M1) := by
  refine CtW.of kL_undo (Nat.le_of_ble_eq_true rfl) ?_
  refine h_pad ?_
  refine h_aload_n dL_undo_0 rfl ?_
  refine h_iconst 0 dL_undo_1 (by decide) ?_
  refine h_aload_n dL_undo_2 rfl ?_
  refine h_iload_n dL_undo_3 rfl ?_
  refine VH.up (kc := 0 + mc) (ks := 0 + ms) (h_callV (mc2 := mc) (ms2 := ms) (D2 := D) [.int a1] hM k11_undo dL_undo_4 lL_84 hT ⟨by decide, rfl⟩ rfl (Nat.le_refl _) (by decide) (fun v M1 q => ?_) (fun E M1 q => ?_)) (by omega) (by omega)
  · obtain ⟨r, rfl, h247, hQ⟩ := hq _ _ q
    refine h_i2l dL_undo_7 ?_
    refine h_last dL_undo_8 h247 (vp_in_iff.mpr (by decide)) ?_
    rw [z_clamp]
    refine h_goto 15 dL_undo_9 (by decide) ?_
    exact h_iconst 0 dL_undo_15 (by decide) (h_iret dL_undo_16 rfl ⟨0, rfl, hQ⟩)
  · obtain ⟨t, hm, hQ⟩ := hx _ _ q
    simp only [List.mem_cons, List.not_mem_nil, or_false, Prod.mk.injEq] at hm
    obtain ⟨rfl, rfl⟩ := hm
    exact ⟨12, 3, 13, ca_undo_0, rfl, h_iconst 1 dL_undo_13 (by decide) (h_iret dL_undo_14 rfl ⟨1, rfl, hQ⟩)⟩
theorem kL_ways : mOKw YL_ways [(0, 9, 12, 19), (0, 9, 15, 44)] 3 := ⟨aw_w (List.mem_of_getElem? (i := 1261) (by decide +kernel)) rfl, N_L, by decide +kernel, ⟨by decide +kernel, by decide +kernel, by decide +kernel⟩, by decide, aw_w (List.mem_of_getElem? (i := 1260) (by decide +kernel)) rfl⟩
theorem ca_ways_0p : ∀ z ∈ ([] : List ExceptionTableEntry), z.catchType ≠ 0 ∧ ∃ n2 : String, Cond.classLink (yy YL_ways).cls z.catchType n2 ∈ aw ∧ nsE ∈ exL ∧ n2 ∈ exL ∧ nsE ≠ n2 := by intro z h; cases h
theorem ca_ways_0 : CatchAt YL_ways [(0, 9, 12, 19), (0, 9, 15, 44)] 4 nsE 12 3 13 := ⟨[], ⟨0, 9, 12, 19⟩, [⟨0, 9, 15, 44⟩], nsE, rfl, ca_ways_0p, by decide, by decide, cl_ns, ow_ns, rfl, by decide, Or.inl ⟨3, rfl, dL_ways_12, rfl⟩⟩
theorem ca_ways_1p : ∀ z ∈ ([⟨0, 9, 12, 19⟩] : List ExceptionTableEntry), z.catchType ≠ 0 ∧ ∃ n2 : String, Cond.classLink (yy YL_ways).cls z.catchType n2 ∈ aw ∧ isE ∈ exL ∧ n2 ∈ exL ∧ isE ≠ n2 := by
  intro z h
  rcases List.mem_cons.mp h with rfl | h
  · exact ⟨by decide, nsE, cl_ns, ex_is, ex_ns, by decide +kernel⟩
  cases h
theorem ca_ways_1 : CatchAt YL_ways [(0, 9, 12, 19), (0, 9, 15, 44)] 4 isE 15 3 16 := ⟨[⟨0, 9, 12, 19⟩], ⟨0, 9, 15, 44⟩, [], isE, rfl, ca_ways_1p, by decide, by decide, cl_is, ow_is, rfl, by decide, Or.inl ⟨3, rfl, dL_ways_15, rfl⟩⟩
theorem w_ways {D mc ms : Nat} (a1 : Int32) {Q2 : Option Value → mM → Prop} {X2 : String → mM → Prop} {Q : Int32 → mM → Prop} (hM : Ct G Y11_ways D mc ms [.ref 100, .int a1] M Q2 X2) (hT : gT M 100 = .inl 11) (hq : ∀ a M1, Q2 a M1 → ∃ r : Int32, a = some (.int r) ∧ gT M1 247 = .inr (1, 1) ∧ Q 0 (sJ M1 247 0 r.toInt64)) (hx : ∀ E M1, X2 E M1 → ∃ t, (t, E) ∈ ([(1, nsE), (2, isE)] : List (Int32 × String)) ∧ Q t M1) : CtW G YL_ways [(0, 9, 12, 19), (0, 9, 15, 44)] (D + 1) mc ms [.ref 100, .int a1, .ref 247] M (fun a M1 => ∃ t, a = some (.int t) ∧ Q t M1) := by
  refine CtW.of kL_ways (Nat.le_of_ble_eq_true rfl) ?_
  refine h_pad ?_
  refine h_aload_n dL_ways_0 rfl ?_
  refine h_iconst 0 dL_ways_1 (by decide) ?_
  refine h_aload_n dL_ways_2 rfl ?_
  refine h_iload_n dL_ways_3 rfl ?_
  refine VH.up (kc := 0 + mc) (ks := 0 + ms) (h_callV (mc2 := mc) (ms2 := ms) (D2 := D) [.int a1] hM k11_ways dL_ways_4 lL_55 hT ⟨by decide, rfl⟩ rfl (Nat.le_refl _) (by decide) (fun v M1 q => ?_) (fun E M1 q => ?_)) (by omega) (by omega)
  · obtain ⟨r, rfl, h247, hQ⟩ := hq _ _ q
    refine h_i2l dL_ways_7 ?_
    refine h_last dL_ways_8 h247 (vp_in_iff.mpr (by decide)) ?_
    rw [z_clamp]
    refine h_goto 18 dL_ways_9 (by decide) ?_
    exact h_iconst 0 dL_ways_18 (by decide) (h_iret dL_ways_19 rfl ⟨0, rfl, hQ⟩)
  · obtain ⟨t, hm, hQ⟩ := hx _ _ q
    simp only [List.mem_cons, List.not_mem_nil, or_false, Prod.mk.injEq] at hm
    rcases hm with ⟨rfl, rfl⟩ | ⟨rfl, rfl⟩
    · exact ⟨12, 3, 13, ca_ways_0, rfl, h_iconst 1 dL_ways_13 (by decide) (h_iret dL_ways_14 rfl ⟨1, rfl, hQ⟩)⟩
    · exact ⟨15, 3, 16, ca_ways_1, rfl, h_iconst 2 dL_ways_16 (by decide) (h_iret dL_ways_17 rfl ⟨2, rfl, hQ⟩)⟩
theorem kL_word : mOKw YL_word [(0, 10, 13, 19), (0, 10, 17, 13)] 4 := ⟨aw_w (List.mem_of_getElem? (i := 1155) (by decide +kernel)) rfl, N_L, by decide +kernel, ⟨by decide +kernel, by decide +kernel, by decide +kernel⟩, by decide, aw_w (List.mem_of_getElem? (i := 1154) (by decide +kernel)) rfl⟩
theorem ca_word_0p : ∀ z ∈ ([] : List ExceptionTableEntry), z.catchType ≠ 0 ∧ ∃ n2 : String, Cond.classLink (yy YL_word).cls z.catchType n2 ∈ aw ∧ nsE ∈ exL ∧ n2 ∈ exL ∧ nsE ≠ n2 := by intro z h; cases h
theorem ca_word_0 : CatchAt YL_word [(0, 10, 13, 19), (0, 10, 17, 13)] 5 nsE 13 4 15 := ⟨[], ⟨0, 10, 13, 19⟩, [⟨0, 10, 17, 13⟩], nsE, rfl, ca_word_0p, by decide, by decide, cl_ns, ow_ns, rfl, by decide, Or.inr ⟨dL_word_13, rfl⟩⟩
theorem ca_word_1p : ∀ z ∈ ([⟨0, 10, 13, 19⟩] : List ExceptionTableEntry), z.catchType ≠ 0 ∧ ∃ n2 : String, Cond.classLink (yy YL_word).cls z.catchType n2 ∈ aw ∧ iaE ∈ exL ∧ n2 ∈ exL ∧ iaE ≠ n2 := by
  intro z h
  rcases List.mem_cons.mp h with rfl | h
  · exact ⟨by decide, nsE, cl_ns, ex_ia, ex_ns, by decide +kernel⟩
  cases h
theorem ca_word_1 : CatchAt YL_word [(0, 10, 13, 19), (0, 10, 17, 13)] 5 iaE 17 4 19 := ⟨[⟨0, 10, 13, 19⟩], ⟨0, 10, 17, 13⟩, [], iaE, rfl, ca_word_1p, by decide, by decide, cl_ia, ow_ia, rfl, by decide, Or.inr ⟨dL_word_17, rfl⟩⟩
theorem w_word {D mc ms : Nat} (a1 : Int32) (a2 : Int32) {Q2 : Option Value → mM → Prop} {X2 : String → mM → Prop} {Q : Int32 → mM → Prop} (hM : Ct G Y11_word D mc ms [.ref 100, .int a1, .int a2] M Q2 X2) (hT : gT M 100 = .inl 11) (hq : ∀ a M1, Q2 a M1 → ∃ r : Int32, a = some (.int r) ∧ gT M1 247 = .inr (1, 1) ∧ Q 0 (sJ M1 247 0 r.toInt64)) (hx : ∀ E M1, X2 E M1 → ∃ t, (t, E) ∈ ([(1, nsE), (2, iaE)] : List (Int32 × String)) ∧ Q t M1) : CtW G YL_word [(0, 10, 13, 19), (0, 10, 17, 13)] (D + 1) mc ms [.ref 100, .int a1, .int a2, .ref 247] M (fun a M1 => ∃ t, a = some (.int t) ∧ Q t M1) := by
  refine CtW.of kL_word (Nat.le_of_ble_eq_true rfl) ?_
  refine h_pad ?_
  refine h_aload_n dL_word_0 rfl ?_
  refine h_iconst 0 dL_word_1 (by decide) ?_
  refine h_aload_n dL_word_2 rfl ?_
  refine h_iload_n dL_word_3 rfl ?_
  refine h_iload_n dL_word_4 rfl ?_
  refine VH.up (kc := 0 + mc) (ks := 0 + ms) (h_callV (mc2 := mc) (ms2 := ms) (D2 := D) [.int a1, .int a2] hM k11_word dL_word_5 lL_25 hT ⟨by decide, rfl⟩ rfl (Nat.le_refl _) (by decide) (fun v M1 q => ?_) (fun E M1 q => ?_)) (by omega) (by omega)
  · obtain ⟨r, rfl, h247, hQ⟩ := hq _ _ q
    refine h_i2l dL_word_8 ?_
    refine h_last dL_word_9 h247 (vp_in_iff.mpr (by decide)) ?_
    rw [z_clamp]
    refine h_goto 21 dL_word_10 (by decide) ?_
    exact h_iconst 0 dL_word_21 (by decide) (h_iret dL_word_22 rfl ⟨0, rfl, hQ⟩)
  · obtain ⟨t, hm, hQ⟩ := hx _ _ q
    simp only [List.mem_cons, List.not_mem_nil, or_false, Prod.mk.injEq] at hm
    rcases hm with ⟨rfl, rfl⟩ | ⟨rfl, rfl⟩
    · exact ⟨13, 4, 15, ca_word_0, rfl, h_iconst 1 dL_word_15 (by decide) (h_iret dL_word_16 rfl ⟨1, rfl, hQ⟩)⟩
    · exact ⟨17, 4, 19, ca_word_1, rfl, h_iconst 2 dL_word_19 (by decide) (h_iret dL_word_20 rfl ⟨2, rfl, hQ⟩)⟩
theorem kL_write : mOKw YL_write [(0, 11, 14, 19), (0, 11, 18, 44), (0, 11, 22, 125)] 5 := ⟨aw_w (List.mem_of_getElem? (i := 1558) (by decide +kernel)) rfl, N_L, by decide +kernel, ⟨by decide +kernel, by decide +kernel, by decide +kernel⟩, by decide, aw_w (List.mem_of_getElem? (i := 1557) (by decide +kernel)) rfl⟩
theorem ca_write_0p : ∀ z ∈ ([] : List ExceptionTableEntry), z.catchType ≠ 0 ∧ ∃ n2 : String, Cond.classLink (yy YL_write).cls z.catchType n2 ∈ aw ∧ nsE ∈ exL ∧ n2 ∈ exL ∧ nsE ≠ n2 := by intro z h; cases h
theorem ca_write_0 : CatchAt YL_write [(0, 11, 14, 19), (0, 11, 18, 44), (0, 11, 22, 125)] 7 nsE 14 6 16 := ⟨[], ⟨0, 11, 14, 19⟩, [⟨0, 11, 18, 44⟩, ⟨0, 11, 22, 125⟩], nsE, rfl, ca_write_0p, by decide, by decide, cl_ns, ow_ns, rfl, by decide, Or.inr ⟨dL_write_14, rfl⟩⟩
theorem ca_write_1p : ∀ z ∈ ([⟨0, 11, 14, 19⟩] : List ExceptionTableEntry), z.catchType ≠ 0 ∧ ∃ n2 : String, Cond.classLink (yy YL_write).cls z.catchType n2 ∈ aw ∧ isE ∈ exL ∧ n2 ∈ exL ∧ isE ≠ n2 := by
  intro z h
  rcases List.mem_cons.mp h with rfl | h
  · exact ⟨by decide, nsE, cl_ns, ex_is, ex_ns, by decide +kernel⟩
  cases h
theorem ca_write_1 : CatchAt YL_write [(0, 11, 14, 19), (0, 11, 18, 44), (0, 11, 22, 125)] 7 isE 18 6 20 := ⟨[⟨0, 11, 14, 19⟩], ⟨0, 11, 18, 44⟩, [⟨0, 11, 22, 125⟩], isE, rfl, ca_write_1p, by decide, by decide, cl_is, ow_is, rfl, by decide, Or.inr ⟨dL_write_18, rfl⟩⟩
theorem ca_write_2p : ∀ z ∈ ([⟨0, 11, 14, 19⟩, ⟨0, 11, 18, 44⟩] : List ExceptionTableEntry), z.catchType ≠ 0 ∧ ∃ n2 : String, Cond.classLink (yy YL_write).cls z.catchType n2 ∈ aw ∧ ioE ∈ exL ∧ n2 ∈ exL ∧ ioE ≠ n2 := by
  intro z h
  rcases List.mem_cons.mp h with rfl | h
  · exact ⟨by decide, nsE, cl_ns, ex_io, ex_ns, by decide +kernel⟩
  rcases List.mem_cons.mp h with rfl | h
  · exact ⟨by decide, isE, cl_is, ex_io, ex_is, by decide +kernel⟩
  cases h
theorem ca_write_2 : CatchAt YL_write [(0, 11, 14, 19), (0, 11, 18, 44), (0, 11, 22, 125)] 7 ioE 22 6 24 := ⟨[⟨0, 11, 14, 19⟩, ⟨0, 11, 18, 44⟩], ⟨0, 11, 22, 125⟩, [], ioE, rfl, ca_write_2p, by decide, by decide, cl_io, ow_io, rfl, by decide, Or.inr ⟨dL_write_22, rfl⟩⟩
theorem w_write {D mc ms : Nat} (a1 : Int32) (a2 : Int32) (a3 : Int64) {Q2 : Option Value → mM → Prop} {X2 : String → mM → Prop} {Q : Int32 → mM → Prop} (hM : Ct G Y11_write D mc ms [.ref 100, .int a1, .int a2, .long a3] M Q2 X2) (hT : gT M 100 = .inl 11) (hq : ∀ a M1, Q2 a M1 → ∃ r : Int64, a = some (.long r) ∧ gT M1 247 = .inr (1, 1) ∧ Q 0 (sJ M1 247 0 r)) (hx : ∀ E M1, X2 E M1 → ∃ t, (t, E) ∈ ([(1, nsE), (2, isE), (3, ioE)] : List (Int32 × String)) ∧ Q t M1) : CtW G YL_write [(0, 11, 14, 19), (0, 11, 18, 44), (0, 11, 22, 125)] (D + 1) mc ms [.ref 100, .int a1, .int a2, .long a3, .ref 247] M (fun a M1 => ∃ t, a = some (.int t) ∧ Q t M1) := by
  refine CtW.of kL_write (Nat.le_of_ble_eq_true rfl) ?_
  refine h_pad ?_
  refine h_aload dL_write_0 rfl ?_
  refine h_iconst 0 dL_write_2 (by decide) ?_
  refine h_aload_n dL_write_3 rfl ?_
  refine h_iload_n dL_write_4 rfl ?_
  refine h_iload_n dL_write_5 rfl ?_
  refine h_lload_n dL_write_6 rfl ?_
  refine VH.up (kc := 0 + mc) (ks := 0 + ms) (h_callV (mc2 := mc) (ms2 := ms) (D2 := D) [.int a1, .int a2, .long a3] hM k11_write dL_write_7 lL_121 hT ⟨by decide, rfl⟩ rfl (Nat.le_refl _) (by decide) (fun v M1 q => ?_) (fun E M1 q => ?_)) (by omega) (by omega)
  · obtain ⟨r, rfl, h247, hQ⟩ := hq _ _ q
    refine h_last dL_write_10 h247 (vp_in_iff.mpr (by decide)) ?_
    rw [z_clamp]
    refine h_goto 26 dL_write_11 (by decide) ?_
    exact h_iconst 0 dL_write_26 (by decide) (h_iret dL_write_27 rfl ⟨0, rfl, hQ⟩)
  · obtain ⟨t, hm, hQ⟩ := hx _ _ q
    simp only [List.mem_cons, List.not_mem_nil, or_false, Prod.mk.injEq] at hm
    rcases hm with ⟨rfl, rfl⟩ | ⟨rfl, rfl⟩ | ⟨rfl, rfl⟩
    · exact ⟨14, 6, 16, ca_write_0, rfl, h_iconst 1 dL_write_16 (by decide) (h_iret dL_write_17 rfl ⟨1, rfl, hQ⟩)⟩
    · exact ⟨18, 6, 20, ca_write_1, rfl, h_iconst 2 dL_write_20 (by decide) (h_iret dL_write_21 rfl ⟨2, rfl, hQ⟩)⟩
    · exact ⟨22, 6, 24, ca_write_2, rfl, h_iconst 3 dL_write_24 (by decide) (h_iret dL_write_25 rfl ⟨3, rfl, hQ⟩)⟩
end WRAPS
