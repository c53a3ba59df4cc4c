/-! ===== the class LeastWords: throwing NoSuchElementException, whose constructor links its super at entry 13 ===== -/
def rxN : ByteArray := ⟨#[0x2a, 0x2b, 0xb7, 0x00, 0x0d, 0xb1]⟩
theorem rxN_0 : decode rxN 0 = .ok (.aload_n 0, 1) := by decide +kernel
theorem rxN_1 : decode rxN 1 = .ok (.aload_n 1, 1) := by decide +kernel
theorem rxN_2 : decode rxN 2 = .ok (.invokespecial 13, 3) := by decide +kernel
theorem rxN_5 : decode rxN 5 = .ok (.return_, 1) := by decide +kernel
def nsE : String := "java/util/NoSuchElementException"
/-- the words of such a throw by the method of class own, constructor at entry ic -/
def zxW (own : String) (ic : Nat) : List Cond :=
  Bundle.throwableAtoms ++ Bundle.throwableSAtoms ++ (Bundle.passSAtoms nsE "java/lang/RuntimeException" 13 rxN ++ Bundle.chainSAtoms "java/lang/RuntimeException" ["java/lang/Exception"]) ++
  [.methodLink own ic (Bundle.initS nsE), .instantiable nsE 6, .castable nsE nsE, .selects nsE Bundle.tFill0 Bundle.tFill0, .selects nsE Bundle.tFill Bundle.tFill,
   .isRef (.static Bundle.tN "UNASSIGNED_STACK" Bundle.steD), .isRef (.static Bundle.tN "SUPPRESSED_SENTINEL" Bundle.listD), .fieldLink Bundle.tN 198 Bundle.tN "backtrace" "Ljava/lang/Object;", .lays Bundle.tN Bundle.tN "backtrace" "Ljava/lang/Object;", .lays nsE Bundle.tN "backtrace" "Ljava/lang/Object;",
   .lays nsE Bundle.tN "cause" "Ljava/lang/Throwable;", .lays nsE Bundle.tN "stackTrace" Bundle.steD, .lays nsE Bundle.tN "suppressedExceptions" Bundle.listD, .lays nsE Bundle.tN "detailMessage" "Ljava/lang/String;"]
section ZX
variable {p : Program} {l : Launch} {e : Env} {R : Room} {s : State} {m₀ : MethodId} {args : Array Value} {below : List Frame} {meth : Method} {c : Code} {W : State} {locs : List Loc} {cells slots : Nat}
set_option maxHeartbeats 1000000 in
theorem zx_ctor (X : Stand p l e R s m₀ args below meth c W locs cells slots) (hexec : p.tables.exec = Jvm.exec) (htr : e.platform.stackTraces = false) {own : String} {ic : Nat}
    (hown : s.vm.findClass own = some m₀.cls) (h : ∀ a ∈ zxW own ic, a.before args s = true)
    (hlocs : ∀ x ∈ locs, ∀ cell, s.heap[x.base]? = some cell → cell.vm.isStatics = false) {a : Addr} {cX : ClassId} {kX : Class} (hfoundX : s.vm.findClass nsE = some cX) (hkX : s.vm.classes[cX]? = some kX) (hcell : W.heap[a]? = some (freshCell cX kX)) (hnew : s.heap.size ≤ a)
    {msg : Value} (hmsg : msg.isRef = true) {g : JFrame} (hg : g.method = m₀) (hsize : g.locals.size = c.maxLocals) (hlocked : g.locked = none) (hentered : g.entered = []) {rest : List Value} (hstack : g.stack = msg :: .ref a :: .ref a :: rest)
    (hd6 : decode c.code g.pc = .ok (.invokespecial ic, 3)) (hd9 : decode c.code (g.pc + 3) = .ok (.athrow, 1)) (hout : ∀ x ∈ c.exceptionTable.toList, covers x (g.pc + 3) = false)
    (hRframes : 5 < R.frames) (hRlocals : 2 * g.monitorRoom + ((Value.ref a :: rest).map fun v => v.category).sum + (13 * 3 + 42) ≤ R.locals) (hlocks : meth.locks = false) :
    ∃ U : State, Steps p.tables e below (W.setTop g) U ∧ U.status = .running ∧ Ended U below (.threw a) ∧ s.WarmedH U.vm ∧ s.sameButNew ({ U with vm := s.vm } : State) locs cells slots ∧ ∃ ce, U.heap[a]? = some ce ∧ ce.cls = cX ∧ ce.vm = .none := by
  have howns : e.platform.frameOwnsMonitors = true := by rw [X.admits.platform]
  have hfin : e.platform.finalization = false := by rw [X.admits.platform]
  have hpl : e.platform.magicAccessors = ({} : Platform).magicAccessors := by rw [X.admits.platform]
  have w : ∀ x, x ∈ zxW own ic → x.holds args s none s [] = true := fun x hx => h x hx
  obtain ⟨T, Z0, L, -, Y⟩ := ThrowableC.of_atoms (args := args) howns hfin hpl (fun x hx => h x (by simp [zxW, hx]))
  obtain ⟨Z, N, LZ, LN, hnZ⟩ := Init0T.ofS_atoms (args := args) hpl L Y (fun x hx => h x (by simp [zxW, hx]))
  obtain ⟨P1, L1, hP1, hs1⟩ := PassC.ofS_atoms (args := args) (s := s) hpl (X := nsE) (Y := "java/lang/RuntimeException") (by decide +kernel) (by decide +kernel) rxN_0 rxN_1 rxN_2 rxN_5 (fun x hx => h x (by simp only [zxW, List.mem_append]; exact Or.inl (Or.inr (Or.inl hx))))
  obtain ⟨P', Ps', hlen', L', hL', hm', k1', k2'⟩ := Bundle.chainS (args := args) hpl hnZ ["java/lang/Exception"] "java/lang/RuntimeException" (by decide +kernel) (by decide +kernel) (fun x hx => h x (by simp only [zxW, List.mem_append]; exact Or.inl (Or.inr (Or.inr hx))))
  obtain ⟨Ps, ePs⟩ : ∃ Ps, Ps = P' :: Ps' := ⟨_, rfl⟩
  have hlen : Ps.length = 2 := by rw [ePs, List.length_cons, hlen']; rfl
  have hL : ∀ P ∈ Ps, P.LinksS e.platform s := by
    intro P hP
    rw [ePs] at hP
    rcases List.mem_cons.mp hP with rfl | hP
    · exact L'
    · exact hL' P hP
  have k1 : P1.sup = firstOf (Z.m T.toThrowableT) (Ps.map (·.toPassT)) := by rw [ePs]; exact Option.some.inj (hs1.symm.trans hm')
  have k2 : PassesOn (Z.m T.toThrowableT) (Ps.map (·.toPassT)) := by rw [ePs]; exact ⟨k1', k2'⟩
  have hf := findClass_of_methodNamed hP1
  cases Option.some.inj (hfoundX.symm.trans hf)
  obtain ⟨c1, kX', hc1, hk, hord, -, -, -⟩ := Cond.instantiable_spec (w (.instantiable nsE 6) (by simp [zxW]))
  cases Option.some.inj (hc1.symm.trans hf)
  cases Option.some.inj (hkX.symm.trans hk)
  have sel0 : selectMethod e.platform s.vm P1.m.cls T.fill0 = .method T.fill0 := by
    obtain ⟨c2, r2, m2, q1, q2, q3, q4, -⟩ := Cond.selects_spec (w (.selects nsE Bundle.tFill0 Bundle.tFill0) (by simp [zxW]))
    cases Option.some.inj (q1.symm.trans hf)
    cases Option.some.inj (q2.symm.trans (State.methodFound?_of_named Y.fill0 (by decide)))
    cases Option.some.inj (q3.symm.trans Y.fill0)
    rw [Launch.admits_selectMethod X.admits]; exact q4
  have selF : selectMethod e.platform s.vm P1.m.cls T.fill = .method T.fill := by
    obtain ⟨c2, r2, m2, q1, q2, q3, q4, -⟩ := Cond.selects_spec (w (.selects nsE Bundle.tFill Bundle.tFill) (by simp [zxW]))
    cases Option.some.inj (q1.symm.trans hf)
    cases Option.some.inj (q2.symm.trans (State.methodFound?_of_named Y.fill (by decide)))
    cases Option.some.inj (q3.symm.trans Y.fill)
    rw [Launch.admits_selectMethod X.admits]; exact q4
  obtain ⟨cs0, hcs0, hiss⟩ := Y.statics
  obtain ⟨u0, hu0⟩ := Cond.staticRefV Y.unassigned L.unassignedStatic L.statics hcs0 hiss (w (.isRef (.static Bundle.tN "UNASSIGNED_STACK" Bundle.steD)) (by simp [zxW]))
  obtain ⟨sen, hsen⟩ := Cond.staticRefV Y.sentinel L.sentinelStatic L.statics hcs0 hiss (w (.isRef (.static Bundle.tN "SUPPRESSED_SENTINEL" Bundle.listD)) (by simp [zxW]))
  obtain ⟨ci, i198, fB, hk1, hg1, ha1, hsB, -, hnB, htB, hffB⟩ := Cond.ownField (t := .object "java/lang/Object") Y.found L.cls (by decide +kernel) (w (.fieldLink Bundle.tN 198 Bundle.tN "backtrace" "Ljava/lang/Object;") (by simp [zxW])) (w (.lays Bundle.tN Bundle.tN "backtrace" "Ljava/lang/Object;") (by simp [zxW])) e.platform hpl
  obtain ⟨cs, hcs, heS, -, hkeep⟩ := X.same.2.2.2.2.2 T.aS cs0 hcs0
  have hcsW : W.heap[T.aS]? = some cs := hcs
  have hno : ∀ i, (⟨T.aS, i⟩ : Loc) ∉ locs := fun i hm => by
    have := hlocs _ hm cs0 hcs0
    rw [hiss] at this; cases this
  have hkn : cs.vm ≠ .unknown := by
    rw [heS]; intro hu
    rw [show cs0.vm = .unknown from hu] at hiss
    cases hiss
  have hne : T.aS ≠ a := Nat.ne_of_lt (Nat.lt_of_lt_of_le (Array.getElem?_eq_some_iff.mp hcs0).1 hnew)
  obtain ⟨iM, hffM⟩ := Y.msg
  obtain ⟨tyC, dC, hdC, nC⟩ := Cond.laysAt hf hk Y.cause (w (.lays nsE Bundle.tN "cause" "Ljava/lang/Throwable;") (by simp [zxW]))
  obtain ⟨tyS, dS, hdS, nS⟩ := Cond.laysAt hf hk Y.stack (w (.lays nsE Bundle.tN "stackTrace" Bundle.steD) (by simp [zxW]))
  obtain ⟨tyP, dP, hdP, nP⟩ := Cond.laysAt hf hk Y.supp (w (.lays nsE Bundle.tN "suppressedExceptions" Bundle.listD) (by simp [zxW]))
  obtain ⟨tyM, -, -, -⟩ := Cond.laysAt hf hk hffM (w (.lays nsE Bundle.tN "detailMessage" "Ljava/lang/String;") (by simp [zxW]))
  obtain ⟨tyB, dB, hdB, nB⟩ := Cond.laysAt hf hk hffB (w (.lays nsE Bundle.tN "backtrace" "Ljava/lang/Object;") (by simp [zxW]))
  have bC := Cond.laysApart hdB hdC nB nC (by rw [hnB, Y.causeName]; decide)
  have bS := Cond.laysApart hdB hdS nB nS (by rw [hnB, Y.stackName]; decide)
  have bP := Cond.laysApart hdB hdP nB nP (by rw [hnB, Y.suppName]; decide)
  have skip : SkipFacts T e.platform s (fun u => u) u0 ((preparedCellV T.toThrowableT (freshCell P1.m.cls kX) a u0 sen).withEntry W.cur) :=
    ⟨{ ci198 := ci, i198 := i198, fBack := fB }, ⟨hk1, hg1, ha1, hsB⟩, by
      have := fresh_default (c := P1.m.cls) tyB
      rw [htB] at this
      simpa [preparedCellV, Cell.setSlot, Cell.withEntry, Array.getElem?_setIfInBounds, bC, bS, bP, bC.symm, bS.symm, bP.symm, defaultValue] using this, fun _ _ => rfl⟩
  obtain ⟨tm, mC, cdC, kC, vm₁, hnC, -, -, -, -, -, -, -, hW₁, st1⟩ := Steps.initColdS (tb := p.tables) (e := e) (below := below) (s := s) (U := W) X.here hexec X.warmed hpl hown (t := Bundle.initS nsE) rfl rfl (by decide +kernel)
    (w (.methodLink own ic (Bundle.initS nsE)) (by simp [zxW])) (h (.instanceMethod (Bundle.initS nsE)) (by simp [zxW, Bundle.passSAtoms])) (bytes := rxN) (maxL := 2) (h (.code (Bundle.initS nsE) rxN 2 none) (by simp [zxW, Bundle.passSAtoms]))
    (f := g) hg (a := a) (msg := msg) (rest := .ref a :: rest) hstack hd6
  cases Option.some.inj (hnC.symm.trans hP1)
  obtain ⟨vm₂, X₂, st2⟩ := (X.noted hW₁).ctorMessageOffV hexec (g := { g with stack := .ref a :: rest }) hg hsize T L Z LZ N LN (P1 :: Ps)
    (fun P hP => by rcases List.mem_cons.mp hP with rfl | hP; exact L1; exact hL P hP) ⟨k1, k2⟩ (u0 := u0) (sen := sen) (self := a) hmsg (cell := freshCell P1.m.cls kX) (cellS := cs)
    hcell (fun _ => by simp) (by simp) rfl rfl sel0 selF hcsW hne hkn (by rw [hkeep _ (hno _)]; exact hu0) (by rw [hkeep _ (hno _)]; exact hsen)
    (Takes.of_laid hk hord tyC (by rw [Y.causeType]; rfl)) (Takes.of_laid hk hord tyS (by rw [Y.stackType]; exact fits_refV_array _ u0)) (Takes.of_laid hk hord tyP (by rw [Y.suppType]; exact fits_refV_object _ sen))
    (Takes.of_laid hk hord tyM (by rw [Y.msgType]; exact fits_refV_object _ ⟨msg, hmsg⟩)) Y.objLocals skip htr [] hd6
    (by simp only [List.length_cons, hlen]; omega) (by simp only [List.length_cons, hlen]; exact hRlocals)
  obtain ⟨hwalk, hrun, hend, hWU, hsame⟩ := X₂.athrowLeaves hexec (g := { g with stack := .ref a :: rest, pc := g.pc + 3 }) hg hlocked hentered hout (a := a) (rest := rest) rfl hd9
  have hlt : a < ((W.setVm vm₁).setVm vm₂).heap.size := (Array.getElem?_eq_some_iff.mp hcell).1
  have hU := heapAt_setCell_self (s := (W.setVm vm₁).setVm vm₂) (plainBareV T.toThrowableT (freshCell P1.m.cls kX) a u0 sen msg) hlt
  refine ⟨_, st1 _ (fun acts => ?_), hrun, hend, hWU, hsame.weaken (fun y hy hl2 => ?_) (Nat.le_refl _) (Nat.le_refl _), _, hU, rfl, rfl⟩
  · rw [doInvoke_state]
    exact st2 _ hwalk
  · rcases List.mem_append.mp hy with h1 | h1
    · exact h1
    · exfalso
      have hb : y.base = a := by
        simp only [List.mem_cons, List.not_mem_nil, or_false] at h1
        rcases h1 with rfl | rfl | rfl | rfl | rfl <;> rfl
      rw [hb] at hl2
      exact Nat.not_lt.mpr hnew hl2
end ZX
section ZY
variable {p : Program} {l : Launch} {e : Env} {R : Room} {s : State} {m : MethodId} {args : Array Value} {below : List Frame} {meth : Method} {c : Code} {H : Heap} {locs : List Loc} {cells slots : Nat} {ls : Array Slot} {rest : List Value}
variable {Qc : Array Value → State → Outcome → State → Prop} {XC : String → State → State → Prop} {free : Addr → Prop}
set_option maxHeartbeats 1000000 in
theorem zx_throwSW {cc : ByteArray} {pc : Nat} (hexec : p.tables.exec = Jvm.exec) (hb : c.code = cc) (hl : l.stackTraces = false) {own text : String} {ik is ic mc ms sa : Nat} {A : Nat → Prop}
    (hown : s.vm.findClass own = some m.cls) (hk : (Cond.classLink own ik nsE).before args s = true) (hini : (Cond.initialized nsE).before args s = true) (hstr : vk_R own is text sa s) (hat : ∀ w ∈ (zxW own ic).filter vx_no, w.before args s = true)
    (hgood : ∀ w ∈ Cond.classLink own ik nsE :: Cond.initialized nsE :: (zxW own ic).filter vx_no, vx_ot w = true)
    (hU : vx_Zq Bundle.tN "UNASSIGNED_STACK" Bundle.steD A s s.heap) (hN : vx_Zq Bundle.tN "SUPPRESSED_SENTINEL" Bundle.listD A s s.heap) (hS : va_S A s.heap H locs) (hsize : ls.size = c.maxLocals)
    (d0 : decode cc pc = .ok (.new ik, 3)) (d3 : decode cc (pc + 3) = .ok (.dup, 1)) (d4 : decode cc (pc + 4) = .ok (.ldc_w is, 3)) (d7 : decode cc (pc + 7) = .ok (.invokespecial ic, 3)) (d10 : decode cc (pc + 10) = .ok (.athrow, 1))
    (hout : ∀ x ∈ c.exceptionTable.toList, covers x (pc + 10) = false)
    (hRframes : 5 < R.frames) (hRlocals : (rest.map fun v => v.category).sum + (13 * 3 + 43) ≤ R.locals) (hRcells : cells + 1 ≤ R.cells) (hRslots : slots + 6 ≤ R.slots) (hlocks : meth.locks = false)
    (hx : ∀ t : State, s.vm.Alike t.vm → H.size ≤ t.heap.size → (∀ q : Nat, q < H.size → t.heap[q]? = H[q]?) → XC nsE s t)
    (hf : ∀ z ∈ locs, free z.base) (hc : cells + 1 ≤ mc) (hs : slots + 6 ≤ ms) :
    W p l e R s m args below meth c H locs cells slots (vx_MQ below Qc XC args s mc ms free) (F0 m pc ls rest) := by
  intro T hT X
  have htr : e.platform.stackTraces = false := (show e.platform.stackTraces = l.stackTraces by rw [X.admits.platform]).trans hl
  have Y := vx_rebase X (R' := { frames := R.frames, locals := R.locals, cells := 1, slots := 6 }) (Nat.le_refl _) (Nat.le_refl _) hRcells hRslots
  obtain ⟨s', hA⟩ : ∃ z, z = (T.setVm s.vm).setFrames (.invoking m args :: below) := ⟨_, rfl⟩
  rw [← hA] at Y
  have hvm : s'.vm = s.vm := by rw [hA]; rfl
  have hhp : s'.heap = H := by rw [hA]; exact hT
  have hW0 : s.WarmedH s'.vm := by rw [hvm]; exact State.WarmedH.refl s
  have hat' : ∀ w ∈ (zxW own ic).filter vx_no, w.before args s' = true := fun w hw => vx_ot_at hW0 hvm.symm (hgood w (List.mem_cons_of_mem _ (List.mem_cons_of_mem _ hw))) (hat w hw)
  have hk' : (Cond.classLink own ik nsE).before args s' = true := vx_ot_at hW0 hvm.symm (hgood _ List.mem_cons_self) hk
  have hini' : (Cond.initialized nsE).before args s' = true := vx_ot_at hW0 hvm.symm (hgood _ (List.mem_cons_of_mem _ List.mem_cons_self)) hini
  have hU' : vx_Zq Bundle.tN "UNASSIGNED_STACK" Bundle.steD A s' s'.heap := by rw [hhp]; exact vx_Zq.moved hW0.alike (hU.kept hS.2.1)
  have hN' : vx_Zq Bundle.tN "SUPPRESSED_SENTINEL" Bundle.listD A s' s'.heap := by rw [hhp]; exact vx_Zq.moved hW0.alike (hN.kept hS.2.1)
  have h : ∀ w ∈ zxW own ic, w.before args s' = true := vx_own hat' (vx_isRefq hU'.1) (vx_isRefq hN'.1) hU'.2.word hN'.2.word
  have hown' : s'.vm.findClass own = some m.cls := by rw [hvm]; exact hown
  have hins : (Cond.instantiable nsE 6).before args s' = true := h _ (by simp [zxW])
  obtain ⟨vm₁, cX, kX, hfX, hkX, -, -, X₁, st1⟩ := Y.newCold hexec (own := own) (C := nsE) (index := ik) (n := 6) hown' hk' hins hini'
    (g := F0 m pc ls rest) rfl (by rw [hb]; exact d0) (Nat.le_refl _) (Nat.le_refl _)
  generalize hT1 : (T.setVm vm₁).pushCell { cls := cX, slots := kX.instanceTypes.map defaultValue, vm := .none } = T1 at X₁ st1
  have hcat : (Value.ref T.heap.size).category = 1 := rfl
  have hcellA : T1.heap[T.heap.size]? = some (freshCell cX kX) := by rw [← hT1]; exact State.heap_pushCell_size _ _
  have d3' : decode c.code (pc + 3) = .ok (.dup, 1) := by rw [hb]; exact d3
  have d4' : decode c.code (pc + 4) = .ok (.ldc_w is, 3) := by rw [hb]; exact d4
  have hstr' : vk_R own is text sa s' := vk_R.warm hW0 hstr
  obtain ⟨U, hsteps, hrun, hend, hW, hsame, ce, hce, hOc, hOv⟩ := zx_ctor X₁ hexec htr (own := own) (ic := ic) hown' h (fun x hx => nomatch hx) hfX hkX hcellA (by rw [hhp, hT]; exact Nat.le_refl _) (msg := .ref sa) rfl
    (g := { method := m, pc := pc + 7, locals := ls, stack := .ref sa :: .ref T.heap.size :: .ref T.heap.size :: rest, locked := none }) rfl hsize rfl rfl (rest := rest) rfl
    (by rw [hb]; exact d7) (by rw [hb]; exact d10) hout hRframes (by simp only [List.map_cons, List.sum_cons, hcat]; show 2 * 0 + _ + _ ≤ R.locals; omega) hlocks
  obtain ⟨f1, f2⟩ := vx_frame hsame
  rw [hhp] at f1 f2
  have hWs : s.WarmedH U.vm := State.WarmedH.trans hW0 hW
  have hcl : s.vm.findClass nsE = some ce.cls := by rw [hOc, ← hvm]; exact hfX
  have hall : s.sameButNew ({ U with vm := s.vm } : State) locs mc ms := by
    subst hA
    obtain ⟨e1, e2⟩ := hsame
    rw [State.setFrames_setFrames] at e1
    have h2 : (T.setVm s.vm).sameButNew ({ U with vm := s.vm } : State) [] (0 + 1) (0 + 6) := ⟨e1, e2⟩
    have h3 := X.same.trans h2
    rw [List.append_nil] at h3
    exact h3.mono hc hs
  refine ⟨U, ?_, .threw T.heap.size, hrun, hend, Or.inr ⟨T.heap.size, rfl, nsE, ce, locs, hx U hWs.alike f1 (fun q hq => f2 q hq (fun z hz => nomatch hz)), hce, hOv, hcl, hWs, hall, hf⟩⟩
  refine st1 _ ?_
  show Steps p.tables e below (T1.setTop { method := m, pc := pc + 3, locals := ls, stack := .ref T.heap.size :: rest, locked := none }) _
  jvm_step X₁.here [X₁.here.top, hexec, d3', Value.category]
  exact X₁.ldcStringW hexec (own := own) (text := text) (index := is) (a := sa) hown' hstr'.1 hstr'.2
    (g := { method := m, pc := pc + 4, locals := ls, stack := .ref T.heap.size :: .ref T.heap.size :: rest, locked := none }) rfl d4' _ hsteps
end ZY
/-- the words stand in the tables -/
def atNK : Bool := ((zxW RX11 406).filter vx_no).all (fun w => (goodWord w || isOw w) && lw_tbl.any (fun x => decide (x = w))) && (Cond.classLink RX11 402 nsE :: Cond.initialized nsE :: (zxW RX11 406).filter vx_no).all (fun w => vx_ot w)
set_option maxRecDepth 1000000 in
theorem at_nse : atNK = true := by decide +kernel
theorem atN_in : (∀ w ∈ (zxW RX11 406).filter vx_no, w ∈ aw ∨ w ∈ ow) ∧ ∀ w ∈ Cond.classLink RX11 402 nsE :: Cond.initialized nsE :: (zxW RX11 406).filter vx_no, vx_ot w = true := by
  have h := at_nse
  unfold atNK at h
  rw [Bool.and_eq_true, List.all_eq_true, List.all_eq_true] at h
  refine ⟨fun w hw => ?_, h.2⟩
  have h1 := h.1 w hw
  rw [Bool.and_eq_true, List.any_eq_true, Bool.or_eq_true] at h1
  obtain ⟨h2, x, hx, e⟩ := h1
  have e := of_decide_eq_true e
  subst e
  rcases h2 with h2 | h2
  · exact Or.inl (List.mem_filter.mpr ⟨hx, h2⟩)
  · exact Or.inr (List.mem_filter.mpr ⟨hx, h2⟩)
theorem nseK : Cond.classLink RX11 402 nsE ∈ aw ∧ Cond.initialized nsE ∈ aw := by
  have h := List.all_eq_true.mp (show ([Cond.classLink RX11 402 nsE, Cond.initialized nsE].all (fun w => goodWord w && lw_tbl.any (fun x => decide (x = w)))) = true by decide +kernel)
  have g : ∀ w, w = Cond.classLink RX11 402 nsE ∨ w = Cond.initialized nsE → w ∈ aw := by
    intro w hw
    have h1 := h w (by simpa using hw)
    rw [Bool.and_eq_true, List.any_eq_true] at h1
    obtain ⟨h2, x, hx, e⟩ := h1
    have e := of_decide_eq_true e
    subst e
    exact List.mem_filter.mpr ⟨hx, h2⟩
  exact ⟨g _ (Or.inl rfl), g _ (Or.inr rfl)⟩
section VT
variable {G : mG} {y : mY} {D kc ks : Nat} {Q : Option Value → mM → Prop} {X : String → mM → Prop} {pc : Nat} {ls : List (Option Value)} {st : List Value} {M : mM}
theorem v_throwN {text : String} {is : Nat} (hy : (yy y).cls = RX11) (hx : (is, text) ∈ xtab)
    (d0 : decode (yb y) pc = .ok (.new 402, 3)) (d3 : decode (yb y) (pc + 3) = .ok (.dup, 1)) (d4 : decode (yb y) (pc + 4) = .ok (.ldc_w is, 3)) (d7 : decode (yb y) (pc + 7) = .ok (.invokespecial 406, 3)) (d10 : decode (yb y) (pc + 10) = .ok (.athrow, 1))
    (hD : 5 < D) (hst : (st.map fun v => v.category).sum ≤ 8) (kx : ∀ z, gz M ≤ z → X nsE (gapM M z)) : V G y D (kc + 1) (ks + 6) Q X pc ls st M := by
  intro p l e s m args below meth cd H locs cells slots mc ms lr E hl hR hf hc hs
  have hK := E.2.2.2.2.2.2.2.1
  obtain ⟨sa, hsa⟩ := hK.2.2.2.1 _ hx
  obtain ⟨hU, hN⟩ := hK.2.1.at E.2.2.2.2.2.2.2.2.2.2.2.1
  have hown : s.vm.findClass RX11 = some m.cls := hy ▸ E.2.2.2.2.1
  obtain ⟨hat, hgood⟩ := atN_in
  intro T hT XX
  have hsz : s.heap.size ≤ H.size := by rw [← hT]; exact (vx_frame XX.same).1
  refine (show W p l e (rmd D mc ms) s m args below meth cd H locs cells slots (vx_MQ below (qC G Q) (xC G X) args s mc ms (fr G)) (F0 m pc lr (st.map (aV G))) from ?_) T hT XX
  refine zx_throwSW (own := RX11) (text := text) (sa := sa) (A := fr G) E.1 E.2.1 E.2.2.2.2.2.2.2.2.1 hown (E.2.2.2.2.2.1 _ nseK.1) (E.2.2.2.2.2.1 _ nseK.2) hsa (fun w hw => ?_) hgood hU hN ⟨?_, fun q h1 h2 => ?_, hf⟩ (hl.1.trans E.2.2.2.1.symm) d0 d3 d4 d7 d10 (fun x hx => absurd hx (fun z => E.2.2.2.2.2.2.2.2.2.1 x z)) hD ?_ (by show cells + 1 ≤ mc; omega) (by show slots + 6 ≤ ms; omega) E.2.2.2.2.2.2.1 (fun t _ h1 h2 => ?_) hf (by omega) (by omega)
  · rcases hat w hw with h | h
    · exact E.2.2.2.2.2.1 _ h
    · exact va_Nw.use (isOw_tab (List.mem_filter.mp h).2) (hK.2.2.1 _ h)
  · exact hsz
  · have h3 : q < b0 G := Nat.not_le.mp h2
    rw [hR.2.2.1 q h3, E.2.2.2.2.2.2.2.2.2.2.2.1 q h3]
  · rw [cat_map]
    show _ ≤ 64 * D
    omega
  · obtain ⟨z, z1, z2⟩ := hR.gap h1 h2
    exact ⟨_, kx z z1, z2⟩
end VT
