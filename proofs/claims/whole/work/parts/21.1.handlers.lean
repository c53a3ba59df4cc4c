/-! ===== bodies with an exception table: the judgement VH ===== -/
def EvH (G : mG) (y : mY) (hh : List (Nat × Nat × Nat × Nat)) (l : Launch) (p : Program) (s : State) (m : MethodId) (args : Array Value) (meth : Method) (c : Code) : Prop :=
  p.tables.exec = Jvm.exec ∧ c.code = yb y ∧ meth.sig.returnType = yr y ∧ c.maxLocals = yn y ∧ s.vm.findClass (yy y).cls = some m.cls ∧ (∀ w ∈ aw, w.before args s = true) ∧ meth.locks = false ∧ KK G s ∧ l.stackTraces = false ∧ c.exceptionTable.toList = tableOf hh ∧ b0 G ≤ s.heap.size ∧ (∀ q, q < b0 G → s.heap[q]? = G.2.2.2.1[q]?) ∧ meth.name = (yy y).name
def VH (G : mG) (y : mY) (hh : List (Nat × Nat × Nat × Nat)) (D kc ks : Nat) (Q : Option Value → mM → Prop) (X : String → mM → Prop) (pc : Nat) (ls : List (Option Value)) (st : List Value) (M : mM) : Prop :=
  ∀ (p : Program) (l : Launch) (e : Env) (s : State) (m : MethodId) (args : Array Value) (below : List Frame) (meth : Method) (c : Code) (H : Heap) (locs : List Loc) (cells slots mc ms : Nat) (lr : Array Slot),
    EvH G y hh l p s m args meth c → lk G (yn y) ls lr → Rl G M H → (∀ z ∈ locs, fr G z.base) → cells + kc ≤ mc → slots + ks ≤ ms →
    W p l e (rmd D mc ms) s m args below meth c H locs cells slots (vx_MQ below (qC G Q) (xC G X) args s mc ms (fr G)) (F0 m pc lr (st.map (aV G)))
theorem lz_sub (v : Value) : ∀ (ls : List (Option Value)) (i k : Nat), ∀ q ∈ lz i (sL k none ls), q ∈ lz i (sL k (some v) ls) := by
  intro ls
  induction ls with
  | nil =>
    intro i k
    induction k generalizing i with
    | zero => intro q h; simp [sL, lz] at h
    | succ k ih => intro q h; exact ih (i + 1) q (by simpa [sL, lz] using h)
  | cons a t ih =>
    intro i k q h
    cases k with
    | zero =>
      simp only [sL, lz] at h ⊢
      exact List.mem_cons_of_mem _ h
    | succ k =>
      cases a with
      | none => exact ih (i + 1) k q (by simpa [sL, lz] using h)
      | some w =>
        simp only [sL, lz, List.mem_cons] at h ⊢
        rcases h with h | h
        · exact Or.inl h
        · exact Or.inr (ih (i + 1) k q h)
theorem lk_set0 {G : mG} {n : Nat} {ls : List (Option Value)} {lr : Array Slot} {k : Nat} {v : Value} (hk : lok k ls = true) (h : lv_has lr n ((k, v) :: ((lz 0 ls).map (fun q => (q.1, aV G q.2))).filter (fun q => !(q.1 == k) && !(q.1 + 1 == k && q.2.category == 2)))) : lk G n (sL k none ls) lr := by
  refine ⟨h.1, h.2.1, fun q hq => h.2.2 q ?_⟩
  obtain ⟨z, hz, rfl⟩ := List.mem_map.mp hq
  obtain ⟨_, hne⟩ := lz_set2 ls 0 k z hz
  rcases lz_set ls 0 k .null hk z (lz_sub _ ls 0 k z hz) with h1 | ⟨h1, h2, h3⟩
  · exact absurd (by rw [h1]) hne
  · refine List.mem_cons_of_mem _ (List.mem_filter.mpr ⟨List.mem_map.mpr ⟨z, h1, rfl⟩, ?_⟩)
    simp only [Nat.zero_add] at h2 h3
    simp only [aV_cat, Bool.and_eq_true, Bool.not_eq_true', beq_eq_false_iff_ne, Bool.and_eq_false_iff]
    refine ⟨h2, ?_⟩
    by_cases h4 : z.1 + 1 = k
    · right; exact fun h5 => h3 ⟨h4, h5⟩
    · left; exact h4
/-- what throws E at pc is caught at hpc, and put into local k -/
def CatchAt (y : mY) (hh : List (Nat × Nat × Nat × Nat)) (pc : Nat) (E : String) (hpc k npc : Nat) : Prop :=
  ∃ (pre : List ExceptionTableEntry) (x : ExceptionTableEntry) (suf : List ExceptionTableEntry) (nm : String), tableOf hh = pre ++ x :: suf ∧ (∀ z ∈ pre, z.catchType ≠ 0 ∧ ∃ n2 : String, Cond.classLink (yy y).cls z.catchType n2 ∈ aw ∧ E ∈ exL ∧ n2 ∈ exL ∧ E ≠ n2) ∧ covers x pc = true ∧ x.catchType ≠ 0 ∧
    Cond.classLink (yy y).cls x.catchType nm ∈ aw ∧ Cond.castable E nm ∈ ow ∧ x.handlerPc = hpc ∧ k < yn y ∧ ((∃ k' : Fin 4, (k' : Nat) = k ∧ decode (yb y) hpc = .ok (.astore_n k', 1) ∧ npc = hpc + 1) ∨ (decode (yb y) hpc = .ok (.astore k, 2) ∧ npc = hpc + 2))
section VHR
variable {G : mG} {y : mY} {hh : List (Nat × Nat × Nat × Nat)} {D kc ks : Nat} {Q : Option Value → mM → Prop} {X : String → mM → Prop} {pc : Nat} {ls : List (Option Value)} {st : List Value} {M : mM}
theorem VH.up {kc' ks' : Nat} (h : VH G y hh D kc ks Q X pc ls st M) (h1 : kc ≤ kc') (h2 : ks ≤ ks') : VH G y hh D kc' ks' Q X pc ls st M := by
  intro p l e s m args below meth c H locs cells slots mc ms lr E hl hR hf hc hs
  exact h p l e s m args below meth c H locs cells slots mc ms lr E hl hR hf (by omega) (by omega)
theorem h_pad (k : VH G y hh D kc ks Q X pc (ls ++ [none]) st M) : VH G y hh D kc ks Q X pc ls st M := by
  intro p l e s m args below meth c H locs cells slots mc ms lr E hl hR hf hc hs
  refine k p l e s m args below meth c H locs cells slots mc ms lr E ?_ hR hf hc hs
  unfold lk at hl ⊢
  rw [lz_pad]
  exact hl
theorem h_aload_n {k : Fin 4} {x : Nat} (d : decode (yb y) pc = .ok (.aload_n k, 1)) (h : lat (k : Nat) ls = some (.ref x)) (k : VH G y hh D kc ks Q X (pc + 1) ls (.ref x :: st) M) : VH G y hh D kc ks Q X pc ls (st) M := by
  intro p l e s m args below meth c H locs cells slots mc ms lr E hl hR hf hc hs
  exact lv_aload_n E.1 E.2.1 d rfl (lk_at hl h) (k p l e s m args below meth c H locs cells slots mc ms lr E hl hR hf hc hs)
theorem h_aload {k : Nat} {x : Nat} (d : decode (yb y) pc = .ok (.aload k, 2)) (h : lat k ls = some (.ref x)) (k : VH G y hh D kc ks Q X (pc + 2) ls (.ref x :: st) M) : VH G y hh D kc ks Q X pc ls (st) M := by
  intro p l e s m args below meth c H locs cells slots mc ms lr E hl hR hf hc hs
  exact lv_aload E.1 E.2.1 d (lk_at hl h) (k p l e s m args below meth c H locs cells slots mc ms lr E hl hR hf hc hs)
theorem h_iload_n {k : Fin 4} {x : Int32} (d : decode (yb y) pc = .ok (.iload_n k, 1)) (h : lat (k : Nat) ls = some (.int x)) (k : VH G y hh D kc ks Q X (pc + 1) ls (.int x :: st) M) : VH G y hh D kc ks Q X pc ls (st) M := by
  intro p l e s m args below meth c H locs cells slots mc ms lr E hl hR hf hc hs
  exact lv_iload_n E.1 E.2.1 d rfl (lk_at hl h) (k p l e s m args below meth c H locs cells slots mc ms lr E hl hR hf hc hs)
theorem h_iload {k : Nat} {x : Int32} (d : decode (yb y) pc = .ok (.iload k, 2)) (h : lat k ls = some (.int x)) (k : VH G y hh D kc ks Q X (pc + 2) ls (.int x :: st) M) : VH G y hh D kc ks Q X pc ls (st) M := by
  intro p l e s m args below meth c H locs cells slots mc ms lr E hl hR hf hc hs
  exact lv_iload E.1 E.2.1 d (lk_at hl h) (k p l e s m args below meth c H locs cells slots mc ms lr E hl hR hf hc hs)
theorem h_lload_n {k : Fin 4} {x : Int64} (d : decode (yb y) pc = .ok (.lload_n k, 1)) (h : lat (k : Nat) ls = some (.long x)) (k : VH G y hh D kc ks Q X (pc + 1) ls (.long x :: st) M) : VH G y hh D kc ks Q X pc ls (st) M := by
  intro p l e s m args below meth c H locs cells slots mc ms lr E hl hR hf hc hs
  exact lv_lload_n E.1 E.2.1 d rfl (lk_at hl h) (k p l e s m args below meth c H locs cells slots mc ms lr E hl hR hf hc hs)
theorem h_iconst {n : Int} (v : Int32) (d : decode (yb y) pc = .ok (.iconst n, 1)) (h : Int32.ofInt n = v) (k : VH G y hh D kc ks Q X (pc + 1) ls (.int v :: st) M) : VH G y hh D kc ks Q X pc ls (st) M := by
  intro p l e s m args below meth c H locs cells slots mc ms lr E hl hR hf hc hs
  exact lv_iconst E.1 E.2.1 d h (k p l e s m args below meth c H locs cells slots mc ms lr E hl hR hf hc hs)
theorem h_lconst {n : Fin 2} (v : Int64) (d : decode (yb y) pc = .ok (.lconst n, 1)) (h : Int64.ofNat (n : Nat) = v) (k : VH G y hh D kc ks Q X (pc + 1) ls (.long v :: st) M) : VH G y hh D kc ks Q X pc ls (st) M := by
  intro p l e s m args below meth c H locs cells slots mc ms lr E hl hR hf hc hs
  exact lv_lconst E.1 E.2.1 d h (k p l e s m args below meth c H locs cells slots mc ms lr E hl hR hf hc hs)
theorem h_i2l {a : Int32} (d : decode (yb y) pc = .ok (.i2l, 1)) (k : VH G y hh D kc ks Q X (pc + 1) ls (.long a.toInt64 :: st) M) : VH G y hh D kc ks Q X pc ls (.int a :: st) M := by
  intro p l e s m args below meth c H locs cells slots mc ms lr E hl hR hf hc hs
  exact lv_i2l E.1 E.2.1 d rfl (k p l e s m args below meth c H locs cells slots mc ms lr E hl hR hf hc hs)
theorem h_goto {off : Int} (tgt : Nat) (d : decode (yb y) pc = .ok (.goto off, 3)) (ht : (pc : Int) + off = (tgt : Int)) (k : VH G y hh D kc ks Q X tgt ls st M) : VH G y hh D kc ks Q X pc ls st M := by
  intro p l e s m args below meth c H locs cells slots mc ms lr E hl hR hf hc hs
  exact lv_goto E.1 E.2.1 d ht (k p l e s m args below meth c H locs cells slots mc ms lr E hl hR hf hc hs)
theorem h_iret {a : Int32} (d : decode (yb y) pc = .ok (.ireturn, 1)) (hr : yr y = some .int) (q : Q (some (.int a)) M) : VH G y hh D kc ks Q X pc ls [.int a] M := by
  intro p l e s m args below meth c H locs cells slots mc ms lr E hl hR hf hc hs
  exact vx_ret (W.widen (Nat.le_trans (Nat.le_add_right _ _) hc) (Nat.le_trans (Nat.le_add_right _ _) hs) (W.iret E.1 E.2.1 (E.2.2.1.trans hr) (fun t ht _ => ⟨some (.int a), M, rfl, q, by rw [ht]; exact hR⟩) hf d E.2.2.2.2.2.2.1))
theorem h_if_eq {a : Int32} {off : Int} (tgt : Nat) (d : decode (yb y) pc = .ok (.ifCond .eq off, 3)) (ht : (pc : Int) + off = (tgt : Int)) (kt : a = 0 → VH G y hh D kc ks Q X tgt ls st M) (kf : ¬ (a = 0) → VH G y hh D kc ks Q X (pc + 3) ls st M) : VH G y hh D kc ks Q X pc ls (.int a :: st) M := by
  intro p l e s m args below meth c H locs cells slots mc ms lr E hl hR hf hc hs
  first
  | exact lv_if_eq E.1 E.2.1 d ht (fun q => kt q p l e s m args below meth c H locs cells slots mc ms lr E hl hR hf hc hs) (fun q => kf q p l e s m args below meth c H locs cells slots mc ms lr E hl hR hf hc hs)
  | exact lv_if_eq E.1 E.2.1 d ht (fun q => kt q p l e s m args below meth c H locs cells slots mc ms lr E hl hR hf hc hs) (fun q => kf (fun z => z q) p l e s m args below meth c H locs cells slots mc ms lr E hl hR hf hc hs)
theorem h_last {q n : Nat} {i : Int32} {x : Int64} (d : decode (yb y) pc = .ok (.lastore, 1)) (hT : gT M q = .inr (1, n)) (hi : vp_in i n) (kk : VH G y hh D kc ks Q X (pc + 1) ls st (sJ M q i.toNatClampNeg x)) : VH G y hh D kc ks Q X pc ls (.long x :: .int i :: .ref q :: st) M := by
  intro p l e s m args below meth cd H locs cells slots mc ms lr E hl hR hf hc hs
  obtain ⟨g1, g2, g3⟩ := hR.arr hT (by omega)
  refine W.last (g := F0 m pc lr _) E.1 E.2.1 g3 (E.2.2.2.2.2.2.2.1.arr (by omega) _ _) (fun h => by cases h) (vp_in_c hi) rfl rfl d fun H' e1 e2 e3 => ?_
  exact kk p l e s m args below meth cd H' _ cells slots mc ms lr E hl (hR.store g1 rfl rfl e2 e3 (fun _ _ => rfl) (fun r hr => up2_row hr) (fun _ _ => rfl) (ar_put (by exact hT) e1 (by show Value.long (up2 _ _ _ _ _ _) = _; rw [up2_s]) (fun j hj => fv_sJ hj))) (fr_put hf g1) hc hs
/-- behind a call whose throws are caught here -/
theorem h_behind {mc2 ms2 : Nat} {Q2 : Option Value → mM → Prop} {X2 : String → mM → Prop} {a : Array Value} {stk : List Value}
    {p : Program} {l : Launch} {e : Env} {s : State} {m : MethodId} {args : Array Value} {below : List Frame} {meth : Method} {cd : Code} {H : Heap} {locs : List Loc} {cells slots mc ms : Nat} {lr : Array Slot}
    (hr : vx_Run p l e (rmd D mc ms) s m args below meth cd H locs cells slots mc2 ms2 (F0 m pc lr stk) (st.map (aV G)) (qC G Q2 a) (xC G X2) (fr G))
    (kk : ∀ v M', Q2 v M' → VH G y hh D kc ks Q X (pc + 3) ls (v.toList ++ st) M') (kx : ∀ E M', X2 E M' → ∃ hpc k npc, CatchAt y hh pc E hpc k npc ∧ lok k ls = true ∧ VH G y hh D kc ks Q X npc (sL k none ls) [] M')
    (E : EvH G y hh l p s m args meth cd) (hl : lk G (yn y) ls lr) (hf : ∀ z ∈ locs, fr G z.base) (hc : cells + (kc + mc2) ≤ mc) (hs : slots + (ks + ms2) ≤ ms) :
    W p l e (rmd D mc ms) s m args below meth cd H locs cells slots (vx_MQ below (qC G Q) (xC G X) args s mc ms (fr G)) (F0 m pc lr stk) := by
  intro T hT XX
  have hfl : ∀ L : List Loc, (∀ q ∈ L, fr G q.base) → ∀ z ∈ locs ++ L, fr G z.base := by
    intro L hL z hz
    rcases List.mem_append.mp hz with h | h
    · exact hf z h
    · exact hL z h
  rcases hr T hT XX with ⟨v, st₀, t, T', L, h0, X', hL, e1, e2, hq, go⟩ | ⟨q, st₀, t, T', L, En, ce, h0, X', hL, e1, e2, hx, hce, hv, hcl, go⟩
  · obtain ⟨v', M', hv', hQ, hR'⟩ := hq
    cases hv'
    have hw := kk v' M' hQ p l e s m args below meth cd T'.heap (locs ++ L) (cells + mc2) (slots + ms2) mc ms lr E hl (by rw [e1]; exact hR') (hfl L hL) (by omega) (by omega)
    obtain ⟨t2, a1, b1⟩ := hw T' rfl X'
    refine ⟨t2, go t2 ?_, b1⟩
    have : (Option.map (aV G) v').toList ++ st.map (aV G) = (v'.toList ++ st).map (aV G) := by cases v' <;> rfl
    rw [this]
    exact a1
  · obtain ⟨M', hX, hR'⟩ := hx
    obtain ⟨hpc, k, npc, ⟨pre, x, suf, nm, c1, c2, c3, c4, c5, c6, c7, c8, c9⟩, hlok, hk⟩ := kx _ _ hX
    have hK := E.2.2.2.2.2.2.2.1
    have hw : vx_W p l e (rmd D mc ms) s m args below meth cd T'.heap (locs ++ L) (cells + mc2) (slots + ms2) (vx_MQ below (qC G Q) (xC G X) args s mc ms (fr G)) (F0 m pc lr (st.map (aV G))) q := by
      refine vx_catch (own := (yy y).cls) (name := nm) E.2.2.2.2.1 pre x suf (E.2.2.2.2.2.2.2.2.2.1.trans c1) (fun z hz => Or.inr ?_) c3 c4 (E.2.2.2.2.2.1 _ c5) (va_Nw.use (isOw_tab (List.mem_filter.mp c6).2) (hK.2.2.1 _ c6)) (by rw [e1]; exact hce) hv hcl ?_
      · obtain ⟨d1, n2, d2, d3, d4, d5⟩ := c2 z hz
        exact ⟨d1, n2, E.2.2.2.2.2.1 _ d2, hK.2.1.2.2.2.2.2.2.2.2.2.1.1.2.2 _ d3 _ d4 d5⟩
      · rw [c7]
        rcases c9 with ⟨k', rfl, d, rfl⟩ | ⟨d, rfl⟩
        · exact lv_astore_n E.1 E.2.1 d rfl hl c8 rfl (fun lr hl => hk p l e s m args below meth cd T'.heap (locs ++ L) (cells + mc2) (slots + ms2) mc ms lr E (lk_set0 hlok hl) (by rw [e1]; exact hR') (hfl L hL) (by omega) (by omega))
        · exact lv_astore E.1 E.2.1 d hl c8 rfl (fun lr hl => hk p l e s m args below meth cd T'.heap (locs ++ L) (cells + mc2) (slots + ms2) mc ms lr E (lk_set0 hlok hl) (by rw [e1]; exact hR') (hfl L hL) (by omega) (by omega))
    obtain ⟨t2, a1, b1⟩ := hw T' rfl X'
    exact ⟨t2, go.trans a1, b1⟩
theorem h_callV {y2 : mY} {mc2 ms2 D2 n b c idx : Nat} (As : List Value) {Q2 : Option Value → mM → Prop} {X2 : String → mM → Prop} (hM : Ct G y2 D2 mc2 ms2 (.ref b :: As) M Q2 X2) (hm : mOKv y2 n)
    (d : decode (yb y) pc = .ok (.invokevirtual idx, 3)) (hw : Cond.methodLink (yy y).cls idx (yy y2) ∈ aw) (hT : gT M b = .inl c) (hc : c < 13 ∧ cR c = (yy y2).cls) (hn : As.length = n) (hD : D2 + 1 ≤ D) (hst : (st.map fun v => v.category).sum ≤ 8)
    (kk : ∀ v M', Q2 v M' → VH G y hh D kc ks Q X (pc + 3) ls (v.toList ++ st) M') (kx : ∀ E M', X2 E M' → ∃ hpc k npc, CatchAt y hh pc E hpc k npc ∧ lok k ls = true ∧ VH G y hh D kc ks Q X npc (sL k none ls) [] M') : VH G y hh D (kc + mc2) (ks + ms2) Q X pc ls (As.reverse ++ .ref b :: st) M := by
  intro p l e s m args below meth cd H locs cells slots mc ms lr E hl hR hf hcc hss
  obtain ⟨g1, g2, cell, q1, q2, q3, q4⟩ := hR.obj hT hc.1
  have hcls := (E.2.2.2.2.2.2.2.1.1.1 c _ (cls_ok c hc.1).1).2
  refine h_behind (y := y) (hh := hh) (vx_runV (own := (yy y).cls) (C := (yy y2).cls) (b := al G b) (As := As.map (aV G)) (rest := st.map (aV G)) (n := n) (Pc := Pcy G (.ref b :: As) M) ⟨E.1, E.2.1, E.2.2.2.1, E.2.2.2.2.1, E.2.2.2.2.2.1⟩ (hM l E.2.2.2.2.2.2.2.2.1)
    (cwV n E.2.2.2.2.2.1 (gin ?_) rfl rfl rfl ⟨rfl, hm.1.2.2.2.1.1, hm.1.2.2.2.1.2.1, hm.1.2.2.2.1.2.2⟩ ⟨hD, ?_⟩) ⟨Pcy.blind, ⟨cell, q1, by rw [q3]; rfl, by rw [q2, ← hc.2]; exact hcls.1⟩, Pcy.at hR E.2.2.2.2.2.2.2.1⟩ rfl (by rw [List.length_map]; exact hn) hl.1 ?_ ?_ d ⟨?_, ?_⟩) kk kx E hl hf hcc hss
  · intro w hw'
    simp only [wsV, List.cons_append, List.nil_append, List.mem_cons] at hw'
    rcases hw' with h | h | h | h | h
    · rw [h]; exact hw
    · rw [h]; exact hm.2.1
    · rw [h]; exact hm.2.2
    · rw [h]; exact hm.1.2.1
    · exact wy_in hm.1 w h
  · show 8 + (yn y2 + 11) + 64 * D2 ≤ 64 * D
    have := hm.1.2.2.2.2
    omega
  · show List.map (aV G) (As.reverse ++ .ref b :: st) = _
    simp [aV]
  · rw [cat_map]; exact lv_room (rest := []) (m := m) (pc := pc) (ls := lr) hst
  · show cells + mc2 ≤ mc; omega
  · show slots + ms2 ≤ ms; omega
end VHR
/-- such a method's contract -/
def wyW (y : mY) (hh : List (Nat × Nat × Nat × Nat)) : List Cond := Cond.codeWith (yy y) (yb y) (yn y) (yr y) hh :: aw
def CtW (G : mG) (y : mY) (hh : List (Nat × Nat × Nat × Nat)) (D mc ms : Nat) (as : List Value) (M : mM) (Q : Option Value → mM → Prop) : Prop :=
  ∀ l : Launch, l.stackTraces = false → vx_Met l (yy y) (wyW y hh) (rmd D mc ms) (Pcy G as M) (qC G Q) (xC G NX) mc ms (fr G)
def mOKw (y : mY) (hh : List (Nat × Nat × Nat × Nat)) (n : Nat) : Prop := Cond.codeWith (yy y) (yb y) (yn y) (yr y) hh ∈ aw ∧ Cond.initialized (yy y).cls ∈ aw ∧ plainFor (yy y) = true ∧ ((yy y).cls ≠ "java/lang/invoke/MethodHandle" ∧ (yy y).cls ≠ "java/lang/invoke/VarHandle" ∧ (parseMethodDescriptor (yy y).desc).map (fun d => d.parameters.length) = some n) ∧ yn y ≤ 45 ∧ Cond.static (yy y) ∈ aw
theorem CtW.of {G : mG} {y : mY} {hh : List (Nat × Nat × Nat × Nat)} {D mc ms n : Nat} {as : List Value} {M : mM} {Q : Option Value → mM → Prop} (hm : mOKw y hh n) (hn : (eL as).length ≤ yn y) (h : VH G y hh D mc ms Q NX 0 (eL as) [] M) : CtW G y hh D mc ms as M Q := by
  intro l hl
  refine MetFree.of_bodySF (code := yb y) (maxLocals := yn y) (ret := yr y) hm.2.2.1 ?_ ?_
  · intro args s m h hn
    obtain ⟨m9, meth, c, hn9, h1, h2, h3, h4, -, h6, h7, -⟩ := Cond.codeWith_spec (atoms_spec (ws := wyW y hh) h _ List.mem_cons_self)
    cases Option.some.inj (hn9.symm.trans hn)
    exact ⟨meth, c, h1, h2, h3, h4, h6, h7⟩
  · intro p e s m args below meth c s₁ B hml hP _
    have hh0 : s₁.heap = s.heap := by rw [B.state]; rfl
    have ht : c.exceptionTable.toList = tableOf hh := vx_table (x := yy y) B (atoms_spec (ws := wyW y hh) B.pre _ List.mem_cons_self)
    obtain ⟨rfl, hR, hK⟩ := hP
    have hts : ∀ w ∈ wyW y hh, w.before (as.map (aV G)).toArray s = true := atoms_spec (ws := wyW y hh) B.pre
    have hle : (lg_sl (as.map (aV G))).length ≤ yn y := by rw [sl_len]; exact hn
    have hlv := lv_entry (as.map (aV G)) (n := yn y) hle
    rw [lg_entry_eq]
    have hname : meth.name = (yy y).name := (name_of_methodNamed B.named B.method).1
    obtain ⟨t, a1, o, b1, b2, b3⟩ := h p l e s m _ below meth c s.heap [] 0 0 mc ms _ ⟨B.exec, B.bytes, B.returns, hml, findClass_of_methodNamed B.named, fun w hw => hts w (List.mem_cons_of_mem _ hw), B.notSynchronized, hK, hl, ht, by have := hR.2.1; have := hR.1; omega, hR.2.2.1, hname⟩ (by
      unfold lk
      rw [← lv_args_eL]
      exact hlv) hR (fun z hz => by cases hz) (by omega) (by omega) s₁ hh0 (Stand.of_body B)
    exact ⟨t, o, a1, b1, b2, b3⟩
section VHC
variable {G : mG} {y : mY} {D kc ks : Nat} {Q : Option Value → mM → Prop} {X : String → mM → Prop} {pc : Nat} {ls : List (Option Value)} {st : List Value} {M : mM}
/-- a call of such a method -/
theorem v_callW {y2 : mY} {hh : List (Nat × Nat × Nat × Nat)} {mc2 ms2 D2 n idx : Nat} (As : List Value) {Q2 : Option Value → mM → Prop} (hM : CtW G y2 hh D2 mc2 ms2 As M Q2) (hm : mOKw y2 hh n)
    (d : decode (yb y) pc = .ok (.invokestatic idx, 3)) (hw : Cond.methodLink (yy y).cls idx (yy y2) ∈ aw) (hn : As.length = n) (hD : D2 + 1 ≤ D) (hst : (st.map fun v => v.category).sum ≤ 8)
    (kk : ∀ v M', Q2 v M' → V G y D kc ks Q X (pc + 3) ls (v.toList ++ st) M') : V G y D (kc + mc2) (ks + ms2) Q X pc ls (As.reverse ++ st) M := by
  intro p l e s m args below meth cd H locs cells slots mc ms lr E hl hR hf hcc hss
  refine v_behind (y := y) (vx_runSX (own := (yy y).cls) (As := As.map (aV G)) (rest := st.map (aV G)) (n := n) (Pc := Pcy G As M) ⟨E.1, E.2.1, E.2.2.2.1, E.2.2.2.2.1, E.2.2.2.2.2.1⟩ (hM l E.2.2.2.2.2.2.2.2.1)
    (vx_cwSW n E.2.2.2.2.2.1 (gin ?_) rfl rfl rfl ⟨hm.2.2.2.1.1, hm.2.2.2.1.2.1, hm.2.2.2.1.2.2⟩ ⟨hD, ?_⟩) ⟨Pcy.blind, Pcy.at hR E.2.2.2.2.2.2.2.1⟩ rfl (by rw [List.length_map]; exact hn) hl.1 ?_ ?_ d ⟨?_, ?_⟩) kk (fun _ _ h => h.elim) E hl hf hcc hss
  · intro w hw'
    simp only [va_wsS, List.cons_append, List.nil_append, List.mem_cons] at hw'
    rcases hw' with h | h | h | h
    · rw [h]; exact hw
    · rw [h]; exact hm.2.2.2.2.2
    · rw [h]; exact hm.2.1
    · rcases List.mem_cons.mp h with h1 | h1
      · rw [h1]; exact hm.1
      · exact h1
  · show 8 + (yn y2 + 11) + 64 * D2 ≤ 64 * D
    have := hm.2.2.2.2.1
    omega
  · show List.map (aV G) (As.reverse ++ st) = _
    simp
  · rw [cat_map]; exact lv_room (rest := []) (m := m) (pc := pc) (ls := lr) hst
  · show cells + mc2 ≤ mc; omega
  · show slots + ms2 ≤ ms; omega
end VHC
