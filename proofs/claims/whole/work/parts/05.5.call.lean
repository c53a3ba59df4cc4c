/-! ===== contracts, calls, throws ===== -/
def wy (y : mY) : List Cond := Cond.code (yy y) (yb y) (yn y) (yr y) :: aw
def Pcy (G : mG) (as : List Value) (M : mM) : Array Value → State → Prop := fun v U => v = (as.map (aV G)).toArray ∧ Rl G M U.heap ∧ KK G U
/-- from arguments as and memory M the method y comes to its end: Q, or X if it throws; at most mc cells of ms places are new; D calls deep -/
def Ct (G : mG) (y : mY) (D mc ms : Nat) (as : List Value) (M : mM) (Q : Option Value → mM → Prop) (X : String → mM → Prop) : Prop :=
  ∀ l : Launch, l.stackTraces = false → vx_Met l (yy y) (wy y) (rmd D mc ms) (Pcy G as M) (qC G Q) (xC G X) mc ms (fr G)
def eL (as : List Value) : List (Option Value) := match as with
  | [] => []
  | .long x :: t => some (.long x) :: none :: eL t
  | .double x :: t => some (.double x) :: none :: eL t
  | v :: t => some v :: eL t
theorem lv_args_eL (G : mG) : ∀ (as : List Value) (i : Nat), lv_args i (as.map (aV G)) = (lz i (eL as)).map (fun q => (q.1, aV G q.2)) := by
  intro as
  induction as with
  | nil => intro i; rfl
  | cons a t ih =>
    intro i
    cases a with
    | long x => simp only [List.map_cons, eL, lz]; rw [← ih (i + 1 + 1)]; rfl
    | double x => simp only [List.map_cons, eL, lz]; rw [← ih (i + 1 + 1)]; rfl
    | int x => simp only [List.map_cons, eL, lz]; rw [← ih (i + 1)]; rfl
    | float x => simp only [List.map_cons, eL, lz]; rw [← ih (i + 1)]; rfl
    | null => simp only [List.map_cons, eL, lz]; rw [← ih (i + 1)]; rfl
    | ref x => simp only [List.map_cons, eL, lz]; rw [← ih (i + 1)]; rfl
    | retAddr x => simp only [List.map_cons, eL, lz]; rw [← ih (i + 1)]; rfl
theorem sl_len (G : mG) : ∀ (as : List Value), (lg_sl (as.map (aV G))).length = (eL as).length := by
  intro as
  induction as with
  | nil => rfl
  | cons a t ih =>
    cases a <;> (simp [lg_sl, eL, aV, Value.category] at ih ⊢ <;> omega)
theorem aw_good {w : Cond} (h : w ∈ aw) : (w.onTables && w.keeps) = true ∨ ∃ ty, w = .arrayClass ty := good_of_word (List.mem_filter.mp h).2
theorem gin {ws : List Cond} (h : ∀ w ∈ ws, w ∈ aw) : GoodIn aw ws := fun w hw => ⟨h w hw, aw_good (h w hw)⟩
theorem wy_in {y : mY} {n : Nat} (h : mOK y n) : ∀ w ∈ wy y, w ∈ aw := by
  intro w hw
  rcases List.mem_cons.mp hw with h1 | h1
  · rw [h1]; exact h.1
  · exact h1
theorem vx_ofWF {l : Launch} {y : MethodName} {ws ws' : List Cond} {rm : Room} {Pc : Array Value → State → Prop} {Qc : Array Value → State → Outcome → State → Prop} {XC : String → State → State → Prop} {mc ms : Nat} {free : Addr → Prop} {cc : ByteArray} {maxL : Nat} {ret : Option FieldType}
    (hy : plainFor y = true) (hw : ws = Cond.code y cc maxL ret :: ws')
    (body : ∀ p e s m args below meth c s₁, BodyLoose p l y (headSpec ws rm) cc maxL ret e s m args below meth c s₁ → c.maxLocals = maxL → (∀ x ∈ c.exceptionTable.toList, False) → Pc args s →
      W p l e (headSpec ws rm).room s m args below meth c s.heap [] 0 0 (vx_MQ below Qc XC args s mc ms free) (entryFrame m args maxL)) : vx_Met l y ws rm Pc Qc XC mc ms free := by
  refine MetFree.of_bodySF (code := cc) (maxLocals := maxL) (ret := ret) hy ?_ ?_
  · intro args s m h hn
    obtain ⟨meth, c, h1, h2, h3, h4, h5, h6, -, -⟩ := Cond.code_spec hn (atoms_spec (ws := ws) h _ (by rw [hw]; exact List.mem_cons_self))
    exact ⟨meth, c, h1, h2, h3, h4, h5, h6⟩
  · intro p e s m args below meth c s₁ B hml hP _
    have hh0 : s₁.heap = s.heap := by rw [B.state]; rfl
    have ht : ∀ x ∈ c.exceptionTable.toList, False := by
      obtain ⟨meth9, c9, h1, h2, -, -, -, -, h7, -⟩ := Cond.code_spec B.named (atoms_spec (ws := ws) B.pre _ (by rw [hw]; exact List.mem_cons_self))
      cases Option.some.inj (h1.symm.trans B.method)
      cases Option.some.inj (h2.symm.trans (Stand.of_body B).code)
      intro x hx
      rw [Array.isEmpty_iff.mp h7] at hx
      cases hx
    obtain ⟨t, a1, o, b1, b2, b3⟩ := body p e s m args below meth c s₁ B hml ht hP s₁ hh0 (Stand.of_body B)
    exact ⟨t, o, a1, b1, b2, b3⟩
/-- a method's contract out of the walk of its body -/
theorem Ct.of {G : mG} {y : mY} {D mc ms n : Nat} {as : List Value} {M : mM} {Q : Option Value → mM → Prop} {X : String → mM → Prop} (hm : mOK y n) (hn : (eL as).length ≤ yn y) (h : V G y D mc ms Q X 0 (eL as) [] M) : Ct G y D mc ms as M Q X := by
  intro l hl
  refine vx_ofWF (cc := yb y) (maxL := yn y) (ret := yr y) (ws' := aw) hm.2.2.1 rfl ?_
  intro p e s m args below meth c s₁ B hml hxt hP
  obtain ⟨rfl, hR, hK⟩ := hP
  have hts : ∀ w ∈ wy y, w.before (as.map (aV G)).toArray s = true := atoms_spec (ws := wy y) B.pre
  have hle : (lg_sl (as.map (aV G))).length ≤ yn y := by rw [sl_len]; exact hn
  have hlv := lv_entry (as.map (aV G)) (n := yn y) hle
  rw [lg_entry_eq]
  have hname : meth.name = (yy y).name := (name_of_methodNamed B.named B.method).1
  refine h p l e s m _ below meth c s.heap [] 0 0 mc ms _ ⟨B.exec, B.bytes, B.returns, hml, findClass_of_methodNamed B.named, fun w hw => hts w (List.mem_cons_of_mem _ hw), B.notSynchronized, hK, hl, hxt, ?_, hR.2.2.1, hname⟩ ?_ hR (fun z hz => by cases hz) (by omega) (by omega)
  · have := hR.2.1; have := hR.1; omega
  · unfold lk
    rw [← lv_args_eL]
    exact hlv
section VC
variable {G : mG} {y : mY} {D kc ks : Nat} {Q : Option Value → mM → Prop} {X : String → mM → Prop} {pc : Nat} {ls : List (Option Value)} {st : List Value} {M : mM}
theorem cat_map (G : mG) (st : List Value) : ((st.map (aV G)).map fun v => v.category) = st.map fun v => v.category := by
  rw [List.map_map]; exact List.map_congr_left (fun v _ => aV_cat G v)
theorem Pcy.blind {as : List Value} : FrameBlind (Pcy G as M) := by
  intro a U g mk h
  exact ⟨h.1, h.2.1, h.2.2.same rfl⟩
theorem Pcy.at {as : List Value} {s : State} {H : Heap} (hR : Rl G M H) (hK : KK G s) : ∀ U : State, U.heap = H → s.WarmedH U.vm → Pcy G as M (as.map (aV G)).toArray U := by
  intro U hU hW
  exact ⟨rfl, by rw [hU]; exact hR, hK.moved hW⟩
/-- behind a call -/
theorem v_behind {mc2 ms2 : Nat} {Q2 : Option Value → mM → Prop} {X2 : String → mM → Prop} {a : Array Value} {stk : List Value}
    {p : Program} {l : Launch} {e : Env} {s : State} {m : MethodId} {args : Array Value} {below : List Frame} {meth : Method} {cd : Code} {H : Heap} {locs : List Loc} {cells slots mc ms : Nat} {lr : Array Slot}
    (hr : vx_Run p l e (rmd D mc ms) s m args below meth cd H locs cells slots mc2 ms2 (F0 m pc lr stk) (st.map (aV G)) (qC G Q2 a) (xC G X2) (fr G))
    (kk : ∀ v M', Q2 v M' → V G y D kc ks Q X (pc + 3) ls (v.toList ++ st) M') (kx : ∀ E M', X2 E M' → X E M')
    (E : Ev G y l p s m args meth cd) (hl : lk G (yn y) ls lr) (hf : ∀ z ∈ locs, fr G z.base) (hc : cells + (kc + mc2) ≤ mc) (hs : slots + (ks + ms2) ≤ ms) :
    W p l e (rmd D mc ms) s m args below meth cd H locs cells slots (vx_MQ below (qC G Q) (xC G X) args s mc ms (fr G)) (F0 m pc lr stk) := by
  intro T hT XX
  have hfl : ∀ L : List Loc, (∀ q ∈ L, fr G q.base) → ∀ z ∈ locs ++ L, fr G z.base := by
    intro L hL z hz
    rcases List.mem_append.mp hz with h | h
    · exact hf z h
    · exact hL z h
  rcases hr T hT XX with ⟨v, st₀, t, T', L, h0, X', hL, e1, e2, hq, go⟩ | ⟨q, st₀, t, T', L, En, ce, h0, X', hL, e1, e2, hx, hce, hv, hcl, go⟩
  · obtain ⟨v', M', hv', hQ, hR'⟩ := hq
    cases hv'
    have hw := kk v' M' hQ p l e s m args below meth cd T'.heap (locs ++ L) (cells + mc2) (slots + ms2) mc ms lr E hl (by rw [e1]; exact hR') (hfl L hL) (by omega) (by omega)
    obtain ⟨t2, a1, b1⟩ := hw T' rfl X'
    refine ⟨t2, go t2 ?_, b1⟩
    have : (Option.map (aV G) v').toList ++ st.map (aV G) = (v'.toList ++ st).map (aV G) := by cases v' <;> rfl
    rw [this]
    exact a1
  · obtain ⟨M', hX, hR'⟩ := hx
    have hw : vx_W p l e (rmd D mc ms) s m args below meth cd T'.heap (locs ++ L) (cells + mc2) (slots + ms2) (vx_MQ below (qC G Q) (xC G X) args s mc ms (fr G)) (F0 m pc lr (st.map (aV G))) q :=
      vx_out (E := En) (ce := ce) (fun x hx => absurd hx (fun z => E.2.2.2.2.2.2.2.2.2.1 x z)) E.2.2.2.2.2.2.1 (by rw [e1]; exact hce) hv hcl (fun t2 ht2 _ => ⟨M', kx _ _ hX, by rw [ht2, e1]; exact hR'⟩) (hfl L hL) (by omega) (by omega)
    obtain ⟨t2, a1, b1⟩ := hw T' rfl X'
    exact ⟨t2, go.trans a1, b1⟩
theorem v_callV {y2 : mY} {mc2 ms2 D2 n b c idx : Nat} (As : List Value) {Q2 : Option Value → mM → Prop} {X2 : String → mM → Prop} (hM : Ct G y2 D2 mc2 ms2 (.ref b :: As) M Q2 X2) (hm : mOKv y2 n)
    (d : decode (yb y) pc = .ok (.invokevirtual idx, 3)) (hw : Cond.methodLink (yy y).cls idx (yy y2) ∈ aw) (hT : gT M b = .inl c) (hc : c < 13 ∧ cR c = (yy y2).cls) (hn : As.length = n) (hD : D2 + 1 ≤ D) (hst : (st.map fun v => v.category).sum ≤ 8)
    (kk : ∀ v M', Q2 v M' → V G y D kc ks Q X (pc + 3) ls (v.toList ++ st) M') (kx : ∀ E M', X2 E M' → X E M') : V G y D (kc + mc2) (ks + ms2) Q X pc ls (As.reverse ++ .ref b :: st) M := by
  intro p l e s m args below meth cd H locs cells slots mc ms lr E hl hR hf hcc hss
  obtain ⟨g1, g2, cell, q1, q2, q3, q4⟩ := hR.obj hT hc.1
  have hcls := (E.2.2.2.2.2.2.2.1.1.1 c _ (cls_ok c hc.1).1).2
  refine v_behind (y := y) (vx_runV (own := (yy y).cls) (C := (yy y2).cls) (b := al G b) (As := As.map (aV G)) (rest := st.map (aV G)) (n := n) (Pc := Pcy G (.ref b :: As) M) ⟨E.1, E.2.1, E.2.2.2.1, E.2.2.2.2.1, E.2.2.2.2.2.1⟩ (hM l E.2.2.2.2.2.2.2.2.1)
    (cwV n E.2.2.2.2.2.1 (gin ?_) rfl rfl rfl ⟨rfl, hm.1.2.2.2.1.1, hm.1.2.2.2.1.2.1, hm.1.2.2.2.1.2.2⟩ ⟨hD, ?_⟩) ⟨Pcy.blind, ⟨cell, q1, by rw [q3]; rfl, by rw [q2, ← hc.2]; exact hcls.1⟩, Pcy.at hR E.2.2.2.2.2.2.2.1⟩ rfl (by rw [List.length_map]; exact hn) hl.1 ?_ ?_ d ⟨?_, ?_⟩) kk kx E hl hf hcc hss
  · intro w hw'
    simp only [wsV, List.cons_append, List.nil_append, List.mem_cons] at hw'
    rcases hw' with h | h | h | h | h
    · rw [h]; exact hw
    · rw [h]; exact hm.2.1
    · rw [h]; exact hm.2.2
    · rw [h]; exact hm.1.2.1
    · exact wy_in hm.1 w h
  · show 8 + (yn y2 + 11) + 64 * D2 ≤ 64 * D
    have := hm.1.2.2.2.2
    omega
  · show List.map (aV G) (As.reverse ++ .ref b :: st) = _
    simp [aV]
  · rw [cat_map]; exact lv_room (rest := []) (m := m) (pc := pc) (ls := lr) hst
  · show cells + mc2 ≤ mc; omega
  · show slots + ms2 ≤ ms; omega
/-- a private method of a nest mate -/
theorem v_callVN {y2 : mY} {host : String} {mc2 ms2 D2 n b c idx : Nat} (As : List Value) {Q2 : Option Value → mM → Prop} {X2 : String → mM → Prop} (hM : Ct G y2 D2 mc2 ms2 (.ref b :: As) M Q2 X2) (hm : mOKv y2 n)
    (d : decode (yb y) pc = .ok (.invokevirtual idx, 3)) (hw : Cond.methodLinkNest (yy y).cls idx (yy y2) host ∈ ow) (hT : gT M b = .inl c) (hc : c < 13 ∧ cR c = (yy y2).cls) (hn : As.length = n) (hD : D2 + 1 ≤ D) (hst : (st.map fun v => v.category).sum ≤ 8)
    (kk : ∀ v M', Q2 v M' → V G y D kc ks Q X (pc + 3) ls (v.toList ++ st) M') (kx : ∀ E M', X2 E M' → X E M') : V G y D (kc + mc2) (ks + ms2) Q X pc ls (As.reverse ++ .ref b :: st) M := by
  intro p l e s m args below meth cd H locs cells slots mc ms lr E hl hR hf hcc hss
  obtain ⟨g1, g2, cell, q1, q2, q3, q4⟩ := hR.obj hT hc.1
  have hcls := (E.2.2.2.2.2.2.2.1.1.1 c _ (cls_ok c hc.1).1).2
  refine v_behind (y := y) (vx_runVN (host := host) (own := (yy y).cls) (C := (yy y2).cls) (b := al G b) (As := As.map (aV G)) (rest := st.map (aV G)) (n := n) (Pc := Pcy G (.ref b :: As) M) ⟨E.1, E.2.1, E.2.2.2.1, E.2.2.2.2.1, E.2.2.2.2.2.1⟩ (hM l E.2.2.2.2.2.2.2.2.1)
    ⟨va_cnB n E.2.2.2.2.2.1 (gin (wy_in hm.1)) rfl rfl rfl ?_ (E.2.2.2.2.2.1 _ hm.1.2.1) ⟨hm.1.2.2.2.1.1, hm.1.2.2.2.1.2.1, hm.1.2.2.2.1.2.2⟩ ⟨hD, ?_⟩, E.2.2.2.2.2.1 _ hm.2.1, E.2.2.2.2.2.1 _ hm.2.2⟩ ⟨Pcy.blind, ⟨cell, q1, by rw [q3]; rfl, by rw [q2, ← hc.2]; exact hcls.1⟩, Pcy.at hR E.2.2.2.2.2.2.2.1⟩ rfl (by rw [List.length_map]; exact hn) hl.1 ?_ ?_ d ⟨?_, ?_⟩) kk kx E hl hf hcc hss
  · exact E.2.2.2.2.2.2.2.1.2.2.1 _ hw
  · show 8 + (yn y2 + 11) + 64 * D2 ≤ 64 * D
    have := hm.1.2.2.2.2
    omega
  · show List.map (aV G) (As.reverse ++ .ref b :: st) = _
    simp [aV]
  · rw [cat_map]; exact lv_room (rest := []) (m := m) (pc := pc) (ls := lr) hst
  · show cells + mc2 ≤ mc; omega
  · show slots + ms2 ≤ ms; omega
theorem v_callS {y2 : mY} {mc2 ms2 D2 n idx : Nat} (As : List Value) {Q2 : Option Value → mM → Prop} {X2 : String → mM → Prop} (hM : Ct G y2 D2 mc2 ms2 As M Q2 X2) (hm : mOKs y2 n)
    (d : decode (yb y) pc = .ok (.invokestatic idx, 3)) (hw : Cond.methodLink (yy y).cls idx (yy y2) ∈ aw) (hn : As.length = n) (hD : D2 + 1 ≤ D) (hst : (st.map fun v => v.category).sum ≤ 8)
    (kk : ∀ v M', Q2 v M' → V G y D kc ks Q X (pc + 3) ls (v.toList ++ st) M') (kx : ∀ E M', X2 E M' → X E M') : V G y D (kc + mc2) (ks + ms2) Q X pc ls (As.reverse ++ st) M := by
  intro p l e s m args below meth cd H locs cells slots mc ms lr E hl hR hf hcc hss
  refine v_behind (y := y) (vx_runS (own := (yy y).cls) (As := As.map (aV G)) (rest := st.map (aV G)) (n := n) (Pc := Pcy G As M) ⟨E.1, E.2.1, E.2.2.2.1, E.2.2.2.2.1, E.2.2.2.2.2.1⟩ (hM l E.2.2.2.2.2.2.2.2.1)
    (va_cwS n E.2.2.2.2.2.1 (gin ?_) rfl rfl rfl ⟨hm.1.2.2.2.1.1, hm.1.2.2.2.1.2.1, hm.1.2.2.2.1.2.2⟩ ⟨hD, ?_⟩) ⟨Pcy.blind, Pcy.at hR E.2.2.2.2.2.2.2.1⟩ rfl (by rw [List.length_map]; exact hn) hl.1 ?_ ?_ d ⟨?_, ?_⟩) kk kx E hl hf hcc hss
  · intro w hw'
    simp only [va_wsS, List.cons_append, List.nil_append, List.mem_cons] at hw'
    rcases hw' with h | h | h | h
    · rw [h]; exact hw
    · rw [h]; exact hm.2
    · rw [h]; exact hm.1.2.1
    · exact wy_in hm.1 w h
  · show 8 + (yn y2 + 11) + 64 * D2 ≤ 64 * D
    have := hm.1.2.2.2.2
    omega
  · show List.map (aV G) (As.reverse ++ st) = _
    simp
  · rw [cat_map]; exact lv_room (rest := []) (m := m) (pc := pc) (ls := lr) hst
  · show cells + mc2 ≤ mc; omega
  · show slots + ms2 ≤ ms; omega
theorem v_callI {y2 : mY} {mc2 ms2 D2 n b idx : Nat} (As : List Value) {Q2 : Option Value → mM → Prop} {X2 : String → mM → Prop} (hM : Ct G y2 D2 mc2 ms2 (.ref b :: As) M Q2 X2) (hm : mOKi y2 n)
    (d : decode (yb y) pc = .ok (.invokespecial idx, 3)) (hw : Cond.methodLink (yy y).cls idx (yy y2) ∈ aw) (hn : As.length = n) (hD : D2 + 1 ≤ D) (hst : (st.map fun v => v.category).sum ≤ 8)
    (kk : ∀ v M', Q2 v M' → V G y D kc ks Q X (pc + 3) ls (v.toList ++ st) M') (kx : ∀ E M', X2 E M' → X E M') : V G y D (kc + mc2) (ks + ms2) Q X pc ls (As.reverse ++ .ref b :: st) M := by
  intro p l e s m args below meth cd H locs cells slots mc ms lr E hl hR hf hcc hss
  refine v_behind (y := y) (vx_runI (own := (yy y).cls) (b := al G b) (As := As.map (aV G)) (rest := st.map (aV G)) (n := n) (Pc := Pcy G (.ref b :: As) M) ⟨E.1, E.2.1, E.2.2.2.1, E.2.2.2.2.1, E.2.2.2.2.2.1⟩ (hM l E.2.2.2.2.2.2.2.2.1)
    (cwI (bytes := yb y2) (maxL := yn y2) n E.2.2.2.2.2.1 (gin (wy_in hm.1)) (by unfold wy; rw [hm.2.2.2]) rfl rfl (E.2.2.2.2.2.1 _ hm.1.2.1) (E.2.2.2.2.2.1 _ hw) (E.2.2.2.2.2.1 _ hm.2.1) hm.2.2.1 ⟨hm.1.2.2.2.1.1, hm.1.2.2.2.1.2.1, hm.1.2.2.2.1.2.2⟩ ⟨hD, ?_⟩) ⟨Pcy.blind, Pcy.at hR E.2.2.2.2.2.2.2.1⟩ rfl (by rw [List.length_map]; exact hn) hl.1 ?_ ?_ d ⟨?_, ?_⟩) kk kx E hl hf hcc hss
  · show 8 + (yn y2 + 11) + 64 * D2 ≤ 64 * D
    have := hm.1.2.2.2.2
    omega
  · show List.map (aV G) (As.reverse ++ .ref b :: st) = _
    simp [aV]
  · rw [cat_map]; exact lv_room (rest := []) (m := m) (pc := pc) (ls := lr) hst
  · show cells + mc2 ≤ mc; omega
  · show slots + ms2 ≤ ms; omega
theorem v_callIN {y2 : mY} {host : String} {mc2 ms2 D2 n b idx : Nat} (As : List Value) {Q2 : Option Value → mM → Prop} {X2 : String → mM → Prop} (hM : Ct G y2 D2 mc2 ms2 (.ref b :: As) M Q2 X2) (hm : mOKi y2 n)
    (d : decode (yb y) pc = .ok (.invokespecial idx, 3)) (hw : Cond.methodLinkNest (yy y).cls idx (yy y2) host ∈ ow) (hn : As.length = n) (hD : D2 + 1 ≤ D) (hst : (st.map fun v => v.category).sum ≤ 8)
    (kk : ∀ v M', Q2 v M' → V G y D kc ks Q X (pc + 3) ls (v.toList ++ st) M') (kx : ∀ E M', X2 E M' → X E M') : V G y D (kc + mc2) (ks + ms2) Q X pc ls (As.reverse ++ .ref b :: st) M := by
  intro p l e s m args below meth cd H locs cells slots mc ms lr E hl hR hf hcc hss
  refine v_behind (y := y) (vx_runIN (host := host) (own := (yy y).cls) (b := al G b) (As := As.map (aV G)) (rest := st.map (aV G)) (n := n) (Pc := Pcy G (.ref b :: As) M) ⟨E.1, E.2.1, E.2.2.2.1, E.2.2.2.2.1, E.2.2.2.2.2.1⟩ (hM l E.2.2.2.2.2.2.2.2.1)
    ⟨va_cnB (bytes := yb y2) (maxL := yn y2) n E.2.2.2.2.2.1 (gin (wy_in hm.1)) (by unfold wy; rw [hm.2.2.2]) rfl rfl (E.2.2.2.2.2.2.2.1.2.2.1 _ hw) (E.2.2.2.2.2.1 _ hm.1.2.1) ⟨hm.1.2.2.2.1.1, hm.1.2.2.2.1.2.1, hm.1.2.2.2.1.2.2⟩ ⟨hD, ?_⟩, hm.2.2.1, E.2.2.2.2.2.1 _ hm.2.1⟩ ⟨Pcy.blind, Pcy.at hR E.2.2.2.2.2.2.2.1⟩ rfl (by rw [List.length_map]; exact hn) hl.1 ?_ ?_ d ⟨?_, ?_⟩) kk kx E hl hf hcc hss
  · show 8 + (yn y2 + 11) + 64 * D2 ≤ 64 * D
    have := hm.1.2.2.2.2
    omega
  · show List.map (aV G) (As.reverse ++ .ref b :: st) = _
    simp [aV]
  · rw [cat_map]; exact lv_room (rest := []) (m := m) (pc := pc) (ls := lr) hst
  · show cells + mc2 ≤ mc; omega
  · show slots + ms2 ≤ ms; omega
/-- memory behind cells that nobody uses -/
theorem Rl.gap {H H' : Heap} (h : Rl G M H) (hs : H.size ≤ H'.size) (ho : ∀ r, r < H.size → H'[r]? = H[r]?) : ∃ z, gz M ≤ z ∧ Rl G (gapM M z) H' := by
  obtain ⟨h0, h1, h2, h3, h4⟩ := h
  refine ⟨gz M + (H'.size - H.size), Nat.le_add_right _ _, by show 100 ≤ gz M + _; omega, by show H'.size + 100 = b0 G + (gz M + _); omega, fun r hr => ?_, fun r h5 h6 => ?_, fun r hr => ?_⟩
  · rw [ho r (by omega)]; exact h2 r hr
  · by_cases e : gz M ≤ r
    · unfold cok
      have : gT (gapM M (gz M + (H'.size - H.size))) r = .inr (99, 0) := if_pos e
      rw [this]
      simp
    · have h7 := h3 r h5 (by omega)
      have e2 : H'[al G r]? = H[al G r]? := ho _ (by rw [al_ge h5]; omega)
      have hT : gT (gapM M (gz M + (H'.size - H.size))) r = gT M r := if_neg e
      unfold cok at h7 ⊢
      rw [hT]
      cases hsh : gT M r with
      | inl c =>
        rw [hsh] at h7
        simp only at h7 ⊢
        intro hc13
        obtain ⟨cell, g1, g2⟩ := h7 hc13
        exact ⟨cell, by rw [e2]; exact g1, g2⟩
      | inr tn =>
        obtain ⟨t, n⟩ := tn
        rw [hsh] at h7
        simp only at h7 ⊢
        intro ht8
        rw [e2, h7 ht8]
        rfl
  · by_cases e : gz M ≤ r
    · exact if_pos e
    · refine (show gT (gapM M (gz M + (H'.size - H.size))) r = gT M r from if_neg e).trans (h4 r (Or.inl ?_))
      rcases hr with hr | hr
      · exact hr
      · have : gz M + (H'.size - H.size) ≤ r := hr
        omega
theorem ES.at {s : State} (h : ES G s) (hq : ∀ q, q < b0 G → s.heap[q]? = G.2.2.2.1[q]?) : vx_Zq Bundle.tN "UNASSIGNED_STACK" Bundle.steD (fr G) s s.heap ∧ vx_Zq Bundle.tN "SUPPRESSED_SENTINEL" Bundle.listD (fr G) s s.heap :=
  ⟨h.1.kept (fun a ha _ => hq a ha), h.2.1.kept (fun a ha _ => hq a ha)⟩
theorem v_throw {cls text : String} {names : List String} {ik is ic : Nat} (hy : (yy y).cls = RX11) (hcls : Bundle.fit cls = true) (hnames : ∀ n ∈ names, Bundle.fit n = true) (hk : Cond.classLink RX11 ik cls ∈ aw ∧ Cond.initialized cls ∈ aw) (hx : (is, text) ∈ xtab)
    (hat : ∀ w ∈ vx_atS RX11 ic cls names, w ∈ aw ∨ w ∈ ow) (hgood : ∀ w ∈ Cond.classLink RX11 ik cls :: Cond.initialized cls :: vx_atS RX11 ic cls names, vx_ot w = true)
    (d0 : decode (yb y) pc = .ok (.new ik, 3)) (d3 : decode (yb y) (pc + 3) = .ok (.dup, 1)) (d4 : decode (yb y) (pc + 4) = .ok (.ldc is, 2)) (d6 : decode (yb y) (pc + 6) = .ok (.invokespecial ic, 3)) (d9 : decode (yb y) (pc + 9) = .ok (.athrow, 1))
    (hD : names.length + 3 < D) (hst : (st.map fun v => v.category).sum ≤ 8) (kx : ∀ z, gz M ≤ z → X cls (gapM M z)) : V G y D (kc + 1) (ks + 6) Q X pc ls st M := by
  intro p l e s m args below meth cd H locs cells slots mc ms lr E hl hR hf hc hs
  have hK := E.2.2.2.2.2.2.2.1
  obtain ⟨sa, hsa⟩ := hK.2.2.2.1 _ hx
  obtain ⟨hU, hN⟩ := hK.2.1.at E.2.2.2.2.2.2.2.2.2.2.2.1
  have hown : s.vm.findClass RX11 = some m.cls := hy ▸ E.2.2.2.2.1
  intro T hT XX
  have hsz : s.heap.size ≤ H.size := by rw [← hT]; exact (vx_frame XX.same).1
  refine (show W p l e (rmd D mc ms) s m args below meth cd H locs cells slots (vx_MQ below (qC G Q) (xC G X) args s mc ms (fr G)) (F0 m pc lr (st.map (aV G))) from ?_) T hT XX
  refine vx_throwS (own := RX11) (cls := cls) (text := text) (names := names) (sa := sa) (A := fr G) E.1 E.2.1 E.2.2.2.2.2.2.2.2.1 hown hcls hnames (E.2.2.2.2.2.1 _ hk.1) (E.2.2.2.2.2.1 _ hk.2) hsa (fun w hw => ?_) hgood hU hN ⟨?_, fun q h1 h2 => ?_, hf⟩ (hl.1.trans E.2.2.2.1.symm) d0 d3 d4 d6 d9 (fun x hx => absurd hx (fun z => E.2.2.2.2.2.2.2.2.2.1 x z)) hD ?_ (by show cells + 1 ≤ mc; omega) (by show slots + 6 ≤ ms; omega) E.2.2.2.2.2.2.1 (fun t _ h1 h2 => ?_) hf (by omega) (by omega)
  · rcases hat w hw with h | h
    · exact E.2.2.2.2.2.1 _ h
    · exact va_Nw.use (isOw_tab (List.mem_filter.mp h).2) (hK.2.2.1 _ h)
  · exact hsz
  · have h3 : q < b0 G := Nat.not_le.mp h2
    rw [hR.2.2.1 q h3, E.2.2.2.2.2.2.2.2.2.2.2.1 q h3]
  · rw [cat_map]
    show _ ≤ 64 * D
    omega
  · obtain ⟨z, z1, z2⟩ := hR.gap h1 h2
    exact ⟨_, kx z z1, z2⟩
end VC
