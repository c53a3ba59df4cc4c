/-! ===== the law from its entry ===== -/
theorem law_all (G : mG) {X : String → mM → Prop} (hN : ad G 1000 ≤ 3072) {M0 : mM} (hz : gz M0 = 100) : V G YL_law 60 38548 559248 Q1 X 0 [some (.ref 34)] [] M0 := by
  refine v_new (kc := 38547) (ks := 559235) 11 dL_law_0 (by decide) ⟨cL_8, I_11, N_11⟩ ?_
  rw [hz]
  refine v_dup dL_law_3 rfl ?_
  refine v_scI (kc := 38418) (ks := 552040) [] (c11_ini G M0 (p := 100) hz) k11_init dL_law_4 lL_137 rfl (Nat.le_of_ble_eq_true rfl) (Nat.le_of_ble_eq_true rfl) ?_
  rintro Ma ⟨hA, hsc, him, t0, t1, t2, t3⟩
  refine v_astore_n dL_law_7 rfl (by decide) ?_
  have za : gz Ma = 230 := hA.1
  refine v_new (kc := 38417) (ks := 552010) 12 dL_law_8 (by decide) ⟨cL_138, I_12, N_12⟩ ?_
  rw [za]
  refine v_dup dL_law_11 rfl ?_
  refine v_scI (kc := 38401) (ks := 523777) [] (c12_ini G Ma (p := 230) za) k12_init dL_law_12 lL_140 rfl (Nat.le_of_ble_eq_true rfl) (Nat.le_of_ble_eq_true rfl) ?_
  rintro Mb ⟨hB, hj, hk⟩
  refine v_astore_n dL_law_15 rfl (by decide) ?_
  have zb : gz Mb = 247 := hB.1
  refine v_iconst 1 dL_law_16 (by decide) ?_
  refine v_newa (kc := 38400) (ks := 523776) (t := 1) (N := 1) dL_law_17 ⟨rfl, by decide⟩ A_1 ⟨by decide, rfl, by decide⟩ ?_
  rw [zb]
  refine v_astore_n dL_law_19 rfl (by decide) ?_
  refine v_iconst 0 dL_law_20 (by decide) ?_
  refine v_istore dL_law_21 rfl (by decide) ?_
  exact law_loop G hN 512 0 _ (by omega) (by omega) (LI_start hA hsc him t0 t1 t2 t3 hB hj hk)
def M00 : mM := (100, fun _ => .inr (99, 0), fun _ _ => 0, fun _ _ => 0, fun _ _ => none)
theorem same_forget {s t : State} {L : List Loc} {k n k' n' : Nat} (h : s.sameButNew t L k n) (hL : ∀ q ∈ L, s.heap.size ≤ q.base) (hk : k ≤ k') (hn : n ≤ n') : s.sameButNew t [] k' n' := by
  obtain ⟨h1, h2, h3, h4, h5, h6⟩ := h
  refine ⟨h1, h2, by omega, h4, by omega, fun a c hc => ?_⟩
  obtain ⟨c', e1, e2, e3, e4⟩ := h6 a c hc
  refine ⟨c', e1, e2, e3, fun i _ => e4 i (fun hm => ?_)⟩
  have h7 := hL _ hm
  have h8 := (Array.getElem?_eq_some_iff.mp hc).1
  exact absurd (Nat.lt_of_lt_of_le h8 h7) (Nat.lt_irrefl _)
theorem room_small {s : State} {pl : Platform} (h : s.hasRoom pl room_1 = true) : s.hasRoom pl (rmd 60 601024 7293034) = true := by
  unfold State.hasRoom at h ⊢
  rw [Bool.and_eq_true, Bool.and_eq_true, Bool.and_eq_true, Bool.and_eq_true] at h ⊢
  obtain ⟨⟨⟨⟨h0, hB⟩, h7⟩, h8⟩, h9⟩ := h
  have g0 : s.localsInUse + 84000 + stackMargin ≤ realStackBytes / 8 := of_decide_eq_true h0
  obtain ⟨g1, g2, g3, g4, g5⟩ : s.frames.length + 2048 ≤ pl.maxFrames ∧ s.frames.length + 2048 ≤ (pl.stackLimits s.me).1 ∧ s.localsInUse + 84000 ≤ pl.maxStackSlots ∧ s.localsInUse + 84000 ≤ (pl.stackLimits s.me).2 ∧ s.me.stackBytes = 0 := of_decide_eq_true hB
  refine ⟨⟨⟨⟨decide_eq_true ?_, decide_eq_true ⟨?_, ?_, ?_, ?_, g5⟩⟩, h7⟩, h8⟩, h9⟩
  · show s.localsInUse + 3840 + stackMargin ≤ realStackBytes / 8
    omega
  · show s.frames.length + 60 ≤ pl.maxFrames
    omega
  · show s.frames.length + 60 ≤ (pl.stackLimits s.me).1
    omega
  · show s.localsInUse + 3840 ≤ pl.maxStackSlots
    omega
  · show s.localsInUse + 3840 ≤ (pl.stackLimits s.me).2
    omega
def R_law : String := "LeastWordsLaw"
def lw_P (b : Addr) (xs : List Int32) (args : Array Value) (s : State) : Prop := args = #[.ref b] ∧ s.IntsAt b xs ∧ xs.length ≤ 3072 ∧ (Jvm.Cond.and given_1 narrow_1).before args s = true
def lw_Q (_ : Array Value) (s : State) (o : Outcome) (t : State) : Prop := o = .returned (some (.int 1)) ∧ Framed s o t [] 601024 7293034
def lw_Z (below : List Frame) (a : Array Value) (s : State) : State → Prop := fun t => ∃ o, t.status = .running ∧ Ended t below o ∧ lw_Q a s o t
/-- the law's own end, with 1 on the stack, nothing written that was there before, its room as the claim has it -/
theorem lw_ret {p : Program} {l : Launch} {e : Env} {s : State} {m : MethodId} {below : List Frame} {meth : Method} {c : Code} {b : Nat} (hx : p.tables.exec = Jvm.exec) (hb : c.code = code) (hr : meth.sig.returnType = ret) (hlocks : meth.locks = false) {pc : Nat} {H : Heap} {ls : Array Slot} (hdg : decode code pc = .ok (.ireturn, 1)) : W p l e room_1 s m #[Value.ref b] below meth c H [] 601024 7293034 (lw_Z below #[Value.ref b] s) (F0 m pc ls [.int 1]) := by
  intro T hT X
  obtain ⟨fs, hret, hrun, hended, hW, hframe⟩ := X.leave (v := some (.int 1)) (hlocks := hlocks) (fun h => by rw [hr] at h; cases h)
  have hmeth' : T.vm.method? m = some meth := X.method'
  refine ⟨T.setFrames fs, ?_, .returned (some (.int 1)), hrun, hended, rfl, ⟨_, rfl⟩, hW, hframe⟩
  jvm_step X.here [X.here.top, hx, hb, hdg, hmeth', hr, ret, narrow_b1]
  (try refine ⟨rfl, ?_⟩); (try refine ⟨rfl, ?_⟩)
  first | (intro acts; rw [hret _ acts rfl rfl rfl]) | rw [hret _ _ rfl rfl rfl]
  exact Steps.refl _
/-- what holds at the law's entry: the machine, the code, the tables' words (any of lw_tbl by 'hts w (by decide +kernel)'), the script of L ints xs at the cell b, what the Statement gives of the start (any of its parts by flat_of_before) -/
def lw_At (p : Program) (s : State) (m : MethodId) (meth : Method) (c : Code) (b L : Nat) (xs : Nat → Int32) : Prop :=
  p.tables.exec = Jvm.exec ∧ c.code = code ∧ meth.sig.returnType = ret ∧ c.maxLocals = 8 ∧ s.vm.findClass R_law = some m.cls ∧ (∀ w ∈ lw_tbl, w.before #[Value.ref b] s = true) ∧ va_X b L xs s s.heap ∧ b < s.heap.size ∧ meth.locks = false ∧ (Jvm.Cond.and given_1 narrow_1).before #[Value.ref b] s = true ∧ (∀ x ∈ c.exceptionTable.toList, False) ∧ meth.name = (yy YL_law).name
theorem whole_start {p : Program} {e : Env} {s : State} {m : MethodId} {below : List Frame} {meth : Method} {c : Code} (l : Launch) (hflags : l.flags = flags0) {b L : Nat} {xs : Nat → Int32} (hL : L ≤ 3072) (C0 : lw_At p s m meth c b L xs) : W p l e room_1 s m #[Value.ref b] below meth c s.heap [] 0 0 (lw_Z below #[Value.ref b] s) (entryFrame m ([Value.ref b] : List Value).toArray 8) := by
  
  obtain ⟨hx, hb, hr, hml, hown, hts, hX, hbl, hlocks, hgv, hxt, hnm⟩ := C0
  obtain ⟨G, hK, hH, h34, hLn⟩ := world hts hgv hX hbl hL
  have eb : ([.ref b] : List Value) = ([.ref 34] : List Value).map (aV G) := by
    show [Value.ref b] = [Value.ref (al G 34)]
    rw [al_34, h34]
  have hz : b0 G = s.heap.size := by unfold b0; rw [hH]
  have hV := law_all G (X := NX) (by omega) (M0 := M00) rfl
  have hst : l.stackTraces = false := by rw [Launch.stackTraces, hflags]; decide +kernel
  have hR : Rl G M00 s.heap := by
    refine ⟨Nat.le_refl _, by rw [hz]; rfl, fun q hq => by rw [hH], fun q h1 h2 => absurd h2 (Nat.not_lt.mpr h1), fun q _ => rfl⟩
  have hle : (lg_sl (([.ref 34] : List Value).map (aV G))).length ≤ 8 := by rw [sl_len]; exact Nat.le_of_ble_eq_true rfl
  have hlv := lv_entry (([.ref 34] : List Value).map (aV G)) (n := 8) hle
  have ea : (#[Value.ref b] : Array Value) = (([.ref 34] : List Value).map (aV G)).toArray := by rw [← eb]
  rw [show entryFrame m ([Value.ref b] : List Value).toArray 8 = entryFrame m (([.ref 34] : List Value).map (aV G)).toArray 8 by rw [← eb], lg_entry_eq]
  intro T hT XX
  have X2 : Stand p l e (rmd 60 601024 7293034) s m #[Value.ref b] below meth c T [] 0 0 := ⟨XX.admits, XX.cas, XX.clock, XX.frames, room_small XX.room, XX.hears, XX.method, XX.code, XX.here, XX.tail, XX.warmed, XX.limits, XX.bytes, XX.same⟩
  obtain ⟨t, a1, o, b1, b2, b3⟩ := hV p l e s m #[Value.ref b] below meth c s.heap [] 0 0 601024 7293034 _ ⟨hx, hb, hr, hml, hown, fun w hw => hts w (List.mem_filter.mp hw).1, hlocks, hK, hst, hxt, by rw [hz]; exact Nat.le_refl _, fun q hq => by rw [hH], hnm⟩ (by
    unfold lk
    exact (lv_args_eL G [.ref 34] 0) ▸ hlv) hR (fun z hz => by cases hz) (by omega) (by omega) T hT X2
  refine ⟨t, a1, o, b1, b2, ?_⟩
  rcases b3 with ⟨⟨v, M', e1, e2, e3⟩, L1, hF, hL1⟩ | ⟨q, e1, En, ce, L1, ⟨M', e2, e3⟩, h3⟩
  · cases e2
    exact ⟨e1, hF.1, hF.2.1, same_forget hF.2.2 (fun q hq => by rw [← hz]; exact hL1 q hq) (Nat.le_refl _) (Nat.le_refl _)⟩
  · exact e2.elim
