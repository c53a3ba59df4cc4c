/-! ===== the judgement V: from here the machine comes to the method's end as Q (returned) or X (thrown) say ===== -/
def tys (G : mG) : List (ClassId × FieldType) := [(G.2.2.1 0, eT 0), (G.2.2.1 1, eT 1), (G.2.2.1 2, eT 2), (G.2.2.1 3, eT 3), (G.2.2.1 4, eT 4), (G.2.2.1 5, eT 5), (G.2.2.1 6, eT 6), (G.2.2.1 7, eT 7)]
def fr (G : mG) : Addr → Prop := fun q => b0 G ≤ q
theorem isOw_warm {w : Cond} {s U : State} (h : isOw w = true) (hW : s.WarmedH U.vm) (hZ : va_Nw w s) : va_Nw w U := by
  cases w with
  | methodLinkNest a i x h => exact va_Nw.warmM hW hZ
  | fieldLinkNest a i b n d h => exact va_Nw.warmF hW hZ
  | castable a b => exact va_Nw.warmC hW hZ
  | declares x => exact va_Nw.warmD hW hZ
  | _ => simp [isOw] at h
theorem isOw_tab {w : Cond} (h : isOw w = true) : w.onTables = true := by
  cases w with
  | methodLinkNest a i x h => rfl
  | fieldLinkNest a i b n d h => rfl
  | castable a b => rfl
  | declares x => rfl
  | _ => simp [isOw] at h
/-- the texts of exceptions: entry, text -/
def xtab : List (Nat × String) := [(86, "the tape has not so many bytes"), (238, "a mark is 0 to 9"), (260, "not so many deeds can be undone"), (308, "a night has 1 to 30 times"), (312, "there are no chests"), (323, "more than 6 chests are out"), (325, "so hard is 1 to 99"), (340, "no such question"), (360, "no set of chests in the hall"), (371, "no such row"), (378, "the tray has no such place"), (391, "no such image was made"), (404, "no such chest"), (407, "the chest isn't in the hall"), (409, "no such mark"), (411, "no such word"), (413, "no such person"), (415, "there is no stake"), (417, "no description"), (419, "no such tray"), (424, "the tray is missing"), (426, "no such image")]
/-- the constants: cells 0 to 32 the tokens, 33 their row, 34 the script, 40 to 69 their texts, 70 to 99 these texts' bytes; places 1000, 2000 on of the map: the script's length and ints -/
def ad (G : mG) (q : Nat) : Nat := G.2.2.2.2 q
def tkN : List String := ["MARKS", "CHEST", "SPARE", "WORD", "SOUND", "COST", "LAMP", "HIRE", "PEOPLE", "OR", "AND", "NOT", "MARK", "HAS", "SUM", "ALIKE", "OWN_NUMBER", "SEMICOLON", "COLON", "PLUS", "MINUS", "TIMES", "OPEN_SUM", "CLOSE_SUM", "OPEN_TRUTH", "CLOSE_TRUTH", "EQUAL", "BELOW", "ABOVE", "NUMBER", "UNKNOWN", "BAD", "END"]
def stX : List (List Int32) := [[109, 97, 114, 107, 115], [99, 104, 101, 115, 116], [115, 112, 97, 114, 101], [119, 111, 114, 100], [115, 111, 117, 110, 100], [99, 111, 115, 116], [108, 97, 109, 112], [104, 105, 114, 101], [112, 101, 111, 112, 108, 101], [111, 114], [97, 110, 100], [110, 111, 116], [109], [104, 97, 115], [115, 117, 109], [97, 108, 105, 107, 101], [110, 117, 109, 98, 101, 114], [59], [58], [43], [45], [42], [40], [41], [91], [93], [61], [60], [62], []]
def mStr : List (Nat × String × Nat) := [(227, "marks", 0), (199, "chest", 1), (205, "spare", 2), (207, "word", 3), (195, "sound", 4), (197, "cost", 5), (152, "not", 11), (175, "m", 12), (181, "has", 13), (183, "sum", 14), (185, "alike", 15), (187, "number", 16), (150, "and", 10), (142, "or", 9), (212, "lamp", 6), (217, "hire", 7), (219, "people", 8)]
def ET (G : mG) (s : State) : Prop := ∀ i : Nat, i < 33 → va_Z RX8 (tkN.getD i "") "LLeastWords$Token;" (.ref (ad G i)) (fr G) s G.2.2.2.1 ∧ va_O RX8 (ad G i) (fr G) s G.2.2.2.1 ∧ va_OF RX8 "text" "Ljava/lang/String;" (.ref (ad G (40 + Nat.min i 29))) (ad G i) (fr G) s G.2.2.2.1
def EX (G : mG) (s : State) : Prop := ∀ k : Nat, k < 30 → va_O "java/lang/String" (ad G (40 + k)) (fr G) s G.2.2.2.1 ∧ va_OF "java/lang/String" "coder" "B" (.int 0) (ad G (40 + k)) (fr G) s G.2.2.2.1 ∧ va_OF "java/lang/String" "value" "[B" (.ref (ad G (70 + k))) (ad G (40 + k)) (fr G) s G.2.2.2.1 ∧ va_T .byte (ad G (70 + k)) (stX.getD k []).length (fun j => .int ((stX.getD k []).getD j 0)) (fr G) s G.2.2.2.1
def EA (G : mG) (s : State) : Prop := va_Z RX8 "ALL" "[LLeastWords$Token;" (.ref (ad G 33)) (fr G) s G.2.2.2.1 ∧ va_T (.object RX8) (ad G 33) 33 (fun j => .ref (ad G j)) (fr G) s G.2.2.2.1
/-- what the JDK's formatter of indices is: null, or an object at 35 -/
def fmV (G : mG) : Value := if ad G 1001 = 0 then .null else .ref 35
def exL : List String := ["java/util/NoSuchElementException", "java/lang/IllegalStateException", "java/lang/IllegalArgumentException", "java/lang/IndexOutOfBoundsException"]
def EI (G : mG) (s : State) : Prop := (va_Z "java/lang/String" "COMPACT_STRINGS" "Z" (.int 1) (fr G) s G.2.2.2.1 ∧ va_Z "jdk/internal/util/Preconditions" "SIOOBE_FORMATTER" "Ljava/util/function/BiFunction;" (aV G (fmV G)) (fr G) s G.2.2.2.1 ∧ ∀ a ∈ exL, ∀ b ∈ exL, a ≠ b → va_Nc a b s) ∧ va_T .int (ad G 34) (ad G 1000) (fun j => .int (Int32.ofNat (ad G (2000 + j)))) (fr G) s G.2.2.2.1
def EN (G : mG) (s : State) : Prop := ET G s ∧ EX G s ∧ EA G s ∧ EI G s ∧ (∀ i j : Nat, i < 33 → j < 33 → ad G i = ad G j → i = j) ∧ ad G 1000 ≤ 3072
theorem EN.moved {G : mG} {s U : State} (h : EN G s) (hv : s.vm.Alike U.vm) : EN G U :=
  ⟨fun i hi => ⟨va_Z.moved hv (h.1 i hi).1, va_O.moved hv (h.1 i hi).2.1, va_OF.moved hv (h.1 i hi).2.2⟩, fun k hk => ⟨va_O.moved hv (h.2.1 k hk).1, va_OF.moved hv (h.2.1 k hk).2.1, va_OF.moved hv (h.2.1 k hk).2.2.1, va_T.moved hv (h.2.1 k hk).2.2.2⟩, ⟨va_Z.moved hv h.2.2.1.1, va_T.moved hv h.2.2.1.2⟩, ⟨⟨va_Z.moved hv h.2.2.2.1.1.1, va_Z.moved hv h.2.2.2.1.1.2.1, fun a ha b hb hn => va_Nc.moved hv (h.2.2.2.1.1.2.2 a ha b hb hn)⟩, va_T.moved hv h.2.2.2.1.2⟩, h.2.2.2.2⟩
/-- facts of the constants -/
def ES (G : mG) (s : State) : Prop := vx_Zq Bundle.tN "UNASSIGNED_STACK" Bundle.steD (fr G) s G.2.2.2.1 ∧ vx_Zq Bundle.tN "SUPPRESSED_SENTINEL" Bundle.listD (fr G) s G.2.2.2.1 ∧ va_AO RX8 s ∧ va_AO RX7 s ∧ va_AO RX6 s ∧ va_AO RX10 s ∧ EN G s
def EW (G : mG) (s : State) : Prop := (∀ w ∈ ow, va_Nw w s) ∧ (∀ z ∈ xtab, ∃ a, vk_R RX11 z.1 z.2 a s) ∧ ∀ z ∈ mStr, vk_R RX12 z.1 z.2.1 (ad G (40 + z.2.2)) s
def KK (G : mG) (s : State) : Prop := va_K (G.1, G.2.1) vwCl (tys G) s ∧ ES G s ∧ EW G s
theorem ES.moved {G : mG} {s U : State} (h : ES G s) (hv : s.vm.Alike U.vm) : ES G U := ⟨h.1.moved hv, h.2.1.moved hv, h.2.2.1.moved hv, h.2.2.2.1.moved hv, h.2.2.2.2.1.moved hv, h.2.2.2.2.2.1.moved hv, h.2.2.2.2.2.2.moved hv⟩
theorem KK.moved {G : mG} {s U : State} (h : KK G s) (hW : s.WarmedH U.vm) : KK G U :=
  ⟨h.1.moved hW.alike, h.2.1.moved hW.alike, fun w hw => isOw_warm (List.mem_filter.mp hw).2 hW (h.2.2.1 w hw), fun z hz => (h.2.2.2.1 z hz).elim fun a ha => ⟨a, ha.warm hW⟩, fun z hz => (h.2.2.2.2 z hz).warm hW⟩
theorem KK.same {G : mG} {s U : State} (h : KK G s) (hv : s.vm = U.vm) : KK G U :=
  ⟨h.1.moved (hv ▸ Vm.Alike.refl s.vm), h.2.1.moved (hv ▸ Vm.Alike.refl s.vm), fun w hw => (h.2.2.1 w hw).same (isOw_tab (List.mem_filter.mp hw).2) hv, fun z hz => (h.2.2.2.1 z hz).elim fun a ha => ⟨a, ha.same hv.symm⟩, fun z hz => (h.2.2.2.2 z hz).same hv.symm⟩
def qC (G : mG) (Q : Option Value → mM → Prop) : Array Value → State → Outcome → State → Prop := fun _ _ o t => ∃ (v : Option Value) (M : mM), o = .returned (v.map (aV G)) ∧ Q v M ∧ Rl G M t.heap
def xC (G : mG) (X : String → mM → Prop) : String → State → State → Prop := fun E _ t => ∃ M : mM, X E M ∧ Rl G M t.heap
def rmd (d mc ms : Nat) : Room := { frames := d, cells := mc, slots := ms, locals := 64 * d }
def Ev (G : mG) (y : mY) (l : Launch) (p : Program) (s : State) (m : MethodId) (args : Array Value) (meth : Method) (c : Code) : Prop :=
  p.tables.exec = Jvm.exec ∧ c.code = yb y ∧ meth.sig.returnType = yr y ∧ c.maxLocals = yn y ∧ s.vm.findClass (yy y).cls = some m.cls ∧ (∀ w ∈ aw, w.before args s = true) ∧ meth.locks = false ∧ KK G s ∧ l.stackTraces = false ∧ (∀ x ∈ c.exceptionTable.toList, False) ∧ b0 G ≤ s.heap.size ∧ (∀ q, q < b0 G → s.heap[q]? = G.2.2.2.1[q]?) ∧ meth.name = (yy y).name
def V (G : mG) (y : mY) (D kc ks : Nat) (Q : Option Value → mM → Prop) (X : String → mM → Prop) (pc : Nat) (ls : List (Option Value)) (st : List Value) (M : mM) : Prop :=
  ∀ (p : Program) (l : Launch) (e : Env) (s : State) (m : MethodId) (args : Array Value) (below : List Frame) (meth : Method) (c : Code) (H : Heap) (locs : List Loc) (cells slots mc ms : Nat) (lr : Array Slot),
    Ev G y l p s m args meth c → lk G (yn y) ls lr → Rl G M H → (∀ z ∈ locs, fr G z.base) → cells + kc ≤ mc → slots + ks ≤ ms →
    W p l e (rmd D mc ms) s m args below meth c H locs cells slots (vx_MQ below (qC G Q) (xC G X) args s mc ms (fr G)) (F0 m pc lr (st.map (aV G)))
section VR
variable {G : mG} {y : mY} {D kc ks : Nat} {Q : Option Value → mM → Prop} {X : String → mM → Prop} {pc : Nat} {ls : List (Option Value)} {st : List Value} {M : mM}
theorem v_iadd {a b : Int32} (d : decode (yb y) pc = .ok (.iadd, 1)) (k : V G y D kc ks Q X (pc + 1) ls (.int (a + b) :: st) M) : V G y D kc ks Q X pc ls (.int b :: .int a :: st) M := by
  intro p l e s m args below meth c H locs cells slots mc ms lr E hl hR hf hc hs
  exact lv_iadd E.1 E.2.1 d (k p l e s m args below meth c H locs cells slots mc ms lr E hl hR hf hc hs)
theorem v_isub {a b : Int32} (d : decode (yb y) pc = .ok (.isub, 1)) (k : V G y D kc ks Q X (pc + 1) ls (.int (a - b) :: st) M) : V G y D kc ks Q X pc ls (.int b :: .int a :: st) M := by
  intro p l e s m args below meth c H locs cells slots mc ms lr E hl hR hf hc hs
  exact lv_isub E.1 E.2.1 d (k p l e s m args below meth c H locs cells slots mc ms lr E hl hR hf hc hs)
theorem v_imul {a b : Int32} (d : decode (yb y) pc = .ok (.imul, 1)) (k : V G y D kc ks Q X (pc + 1) ls (.int (a * b) :: st) M) : V G y D kc ks Q X pc ls (.int b :: .int a :: st) M := by
  intro p l e s m args below meth c H locs cells slots mc ms lr E hl hR hf hc hs
  exact lv_imul E.1 E.2.1 d (k p l e s m args below meth c H locs cells slots mc ms lr E hl hR hf hc hs)
theorem v_iand {a b : Int32} (d : decode (yb y) pc = .ok (.iand, 1)) (k : V G y D kc ks Q X (pc + 1) ls (.int (a &&& b) :: st) M) : V G y D kc ks Q X pc ls (.int b :: .int a :: st) M := by
  intro p l e s m args below meth c H locs cells slots mc ms lr E hl hR hf hc hs
  exact lv_iand E.1 E.2.1 d (k p l e s m args below meth c H locs cells slots mc ms lr E hl hR hf hc hs)
theorem v_ior {a b : Int32} (d : decode (yb y) pc = .ok (.ior, 1)) (k : V G y D kc ks Q X (pc + 1) ls (.int (a ||| b) :: st) M) : V G y D kc ks Q X pc ls (.int b :: .int a :: st) M := by
  intro p l e s m args below meth c H locs cells slots mc ms lr E hl hR hf hc hs
  exact lv_ior E.1 E.2.1 d (k p l e s m args below meth c H locs cells slots mc ms lr E hl hR hf hc hs)
theorem v_ixor {a b : Int32} (d : decode (yb y) pc = .ok (.ixor, 1)) (k : V G y D kc ks Q X (pc + 1) ls (.int (a ^^^ b) :: st) M) : V G y D kc ks Q X pc ls (.int b :: .int a :: st) M := by
  intro p l e s m args below meth c H locs cells slots mc ms lr E hl hR hf hc hs
  exact lv_ixor E.1 E.2.1 d (k p l e s m args below meth c H locs cells slots mc ms lr E hl hR hf hc hs)
theorem v_ishl {a b : Int32} (d : decode (yb y) pc = .ok (.ishl, 1)) (k : V G y D kc ks Q X (pc + 1) ls (.int (a <<< (b &&& 31)) :: st) M) : V G y D kc ks Q X pc ls (.int b :: .int a :: st) M := by
  intro p l e s m args below meth c H locs cells slots mc ms lr E hl hR hf hc hs
  exact lv_ishl E.1 E.2.1 d (k p l e s m args below meth c H locs cells slots mc ms lr E hl hR hf hc hs)
theorem v_ishr {a b : Int32} (d : decode (yb y) pc = .ok (.ishr, 1)) (k : V G y D kc ks Q X (pc + 1) ls (.int (a >>> (b &&& 31)) :: st) M) : V G y D kc ks Q X pc ls (.int b :: .int a :: st) M := by
  intro p l e s m args below meth c H locs cells slots mc ms lr E hl hR hf hc hs
  exact lv_ishr E.1 E.2.1 d (k p l e s m args below meth c H locs cells slots mc ms lr E hl hR hf hc hs)
theorem v_ladd {a b : Int64} (d : decode (yb y) pc = .ok (.ladd, 1)) (k : V G y D kc ks Q X (pc + 1) ls (.long (a + b) :: st) M) : V G y D kc ks Q X pc ls (.long b :: .long a :: st) M := by
  intro p l e s m args below meth c H locs cells slots mc ms lr E hl hR hf hc hs
  exact lv_ladd E.1 E.2.1 d (k p l e s m args below meth c H locs cells slots mc ms lr E hl hR hf hc hs)
theorem v_lsub {a b : Int64} (d : decode (yb y) pc = .ok (.lsub, 1)) (k : V G y D kc ks Q X (pc + 1) ls (.long (a - b) :: st) M) : V G y D kc ks Q X pc ls (.long b :: .long a :: st) M := by
  intro p l e s m args below meth c H locs cells slots mc ms lr E hl hR hf hc hs
  exact lv_lsub E.1 E.2.1 d (k p l e s m args below meth c H locs cells slots mc ms lr E hl hR hf hc hs)
theorem v_lmul {a b : Int64} (d : decode (yb y) pc = .ok (.lmul, 1)) (k : V G y D kc ks Q X (pc + 1) ls (.long (a * b) :: st) M) : V G y D kc ks Q X pc ls (.long b :: .long a :: st) M := by
  intro p l e s m args below meth c H locs cells slots mc ms lr E hl hR hf hc hs
  exact lv_lmul E.1 E.2.1 d (k p l e s m args below meth c H locs cells slots mc ms lr E hl hR hf hc hs)
theorem v_land {a b : Int64} (d : decode (yb y) pc = .ok (.land, 1)) (k : V G y D kc ks Q X (pc + 1) ls (.long (a &&& b) :: st) M) : V G y D kc ks Q X pc ls (.long b :: .long a :: st) M := by
  intro p l e s m args below meth c H locs cells slots mc ms lr E hl hR hf hc hs
  exact lv_land E.1 E.2.1 d (k p l e s m args below meth c H locs cells slots mc ms lr E hl hR hf hc hs)
theorem v_lor {a b : Int64} (d : decode (yb y) pc = .ok (.lor, 1)) (k : V G y D kc ks Q X (pc + 1) ls (.long (a ||| b) :: st) M) : V G y D kc ks Q X pc ls (.long b :: .long a :: st) M := by
  intro p l e s m args below meth c H locs cells slots mc ms lr E hl hR hf hc hs
  exact lv_lor E.1 E.2.1 d (k p l e s m args below meth c H locs cells slots mc ms lr E hl hR hf hc hs)
theorem v_idiv {a b : Int32} (d : decode (yb y) pc = .ok (.idiv, 1)) (h : ¬ b = 0) (k : V G y D kc ks Q X (pc + 1) ls (.int (a / b) :: st) M) : V G y D kc ks Q X pc ls (.int b :: .int a :: st) M := by
  intro p l e s m args below meth c H locs cells slots mc ms lr E hl hR hf hc hs
  exact lv_idiv E.1 E.2.1 d h (k p l e s m args below meth c H locs cells slots mc ms lr E hl hR hf hc hs)
theorem v_irem {a b : Int32} (d : decode (yb y) pc = .ok (.irem, 1)) (h : ¬ b = 0) (k : V G y D kc ks Q X (pc + 1) ls (.int (a - a / b * b) :: st) M) : V G y D kc ks Q X pc ls (.int b :: .int a :: st) M := by
  intro p l e s m args below meth c H locs cells slots mc ms lr E hl hR hf hc hs
  exact lv_irem E.1 E.2.1 d h (k p l e s m args below meth c H locs cells slots mc ms lr E hl hR hf hc hs)
theorem v_ldiv {a b : Int64} (d : decode (yb y) pc = .ok (.ldiv, 1)) (h : ¬ b = 0) (k : V G y D kc ks Q X (pc + 1) ls (.long (a / b) :: st) M) : V G y D kc ks Q X pc ls (.long b :: .long a :: st) M := by
  intro p l e s m args below meth c H locs cells slots mc ms lr E hl hR hf hc hs
  exact lv_ldiv E.1 E.2.1 d h (k p l e s m args below meth c H locs cells slots mc ms lr E hl hR hf hc hs)
theorem v_lrem {a b : Int64} (d : decode (yb y) pc = .ok (.lrem, 1)) (h : ¬ b = 0) (k : V G y D kc ks Q X (pc + 1) ls (.long (a - a / b * b) :: st) M) : V G y D kc ks Q X pc ls (.long b :: .long a :: st) M := by
  intro p l e s m args below meth c H locs cells slots mc ms lr E hl hR hf hc hs
  exact lv_lrem E.1 E.2.1 d h (k p l e s m args below meth c H locs cells slots mc ms lr E hl hR hf hc hs)
theorem v_iushr {a b : Int32} (d : decode (yb y) pc = .ok (.iushr, 1)) (k : V G y D kc ks Q X (pc + 1) ls (.int ((a.toUInt32 >>> (b.toUInt32 &&& Int32.toUInt32 31)).toInt32) :: st) M) : V G y D kc ks Q X pc ls (.int b :: .int a :: st) M := by
  intro p l e s m args below meth c H locs cells slots mc ms lr E hl hR hf hc hs
  exact lv_iushr E.1 E.2.1 d rfl (k p l e s m args below meth c H locs cells slots mc ms lr E hl hR hf hc hs)
theorem v_lshl {a : Int64} {b : Int32} (d : decode (yb y) pc = .ok (.lshl, 1)) (k : V G y D kc ks Q X (pc + 1) ls (.long (a <<< (b.toInt64 &&& 63)) :: st) M) : V G y D kc ks Q X pc ls (.int b :: .long a :: st) M := by
  intro p l e s m args below meth c H locs cells slots mc ms lr E hl hR hf hc hs
  exact lv_lshl E.1 E.2.1 d rfl (k p l e s m args below meth c H locs cells slots mc ms lr E hl hR hf hc hs)
theorem v_lshr {a : Int64} {b : Int32} (d : decode (yb y) pc = .ok (.lshr, 1)) (k : V G y D kc ks Q X (pc + 1) ls (.long (a >>> (b.toInt64 &&& 63)) :: st) M) : V G y D kc ks Q X pc ls (.int b :: .long a :: st) M := by
  intro p l e s m args below meth c H locs cells slots mc ms lr E hl hR hf hc hs
  exact lv_lshr E.1 E.2.1 d rfl (k p l e s m args below meth c H locs cells slots mc ms lr E hl hR hf hc hs)
theorem v_i2l {a : Int32} (d : decode (yb y) pc = .ok (.i2l, 1)) (k : V G y D kc ks Q X (pc + 1) ls (.long a.toInt64 :: st) M) : V G y D kc ks Q X pc ls (.int a :: st) M := by
  intro p l e s m args below meth c H locs cells slots mc ms lr E hl hR hf hc hs
  exact lv_i2l E.1 E.2.1 d rfl (k p l e s m args below meth c H locs cells slots mc ms lr E hl hR hf hc hs)
theorem v_l2i {a : Int64} (d : decode (yb y) pc = .ok (.l2i, 1)) (k : V G y D kc ks Q X (pc + 1) ls (.int a.toInt32 :: st) M) : V G y D kc ks Q X pc ls (.long a :: st) M := by
  intro p l e s m args below meth c H locs cells slots mc ms lr E hl hR hf hc hs
  exact lv_l2i E.1 E.2.1 d rfl (k p l e s m args below meth c H locs cells slots mc ms lr E hl hR hf hc hs)
theorem v_i2b {a : Int32} (d : decode (yb y) pc = .ok (.i2b, 1)) (k : V G y D kc ks Q X (pc + 1) ls (.int a.toInt8.toInt32 :: st) M) : V G y D kc ks Q X pc ls (.int a :: st) M := by
  intro p l e s m args below meth c H locs cells slots mc ms lr E hl hR hf hc hs
  exact lv_i2b E.1 E.2.1 d rfl (k p l e s m args below meth c H locs cells slots mc ms lr E hl hR hf hc hs)
theorem v_i2s {a : Int32} (d : decode (yb y) pc = .ok (.i2s, 1)) (k : V G y D kc ks Q X (pc + 1) ls (.int a.toInt16.toInt32 :: st) M) : V G y D kc ks Q X pc ls (.int a :: st) M := by
  intro p l e s m args below meth c H locs cells slots mc ms lr E hl hR hf hc hs
  exact lv_i2s E.1 E.2.1 d rfl (k p l e s m args below meth c H locs cells slots mc ms lr E hl hR hf hc hs)
theorem v_lcmp {a b : Int64} (d : decode (yb y) pc = .ok (.lcmp, 1)) (k : V G y D kc ks Q X (pc + 1) ls (.int (lg_cmp a b) :: st) M) : V G y D kc ks Q X pc ls (.long b :: .long a :: st) M := by
  intro p l e s m args below meth c H locs cells slots mc ms lr E hl hR hf hc hs
  exact W.lcmp E.1 E.2.1 d (k p l e s m args below meth c H locs cells slots mc ms lr E hl hR hf hc hs)
theorem v_dup {v : Value} (d : decode (yb y) pc = .ok (.dup, 1)) (h : v.category = 1) (k : V G y D kc ks Q X (pc + 1) ls (v :: v :: st) M) : V G y D kc ks Q X pc ls (v :: st) M := by
  intro p l e s m args below meth c H locs cells slots mc ms lr E hl hR hf hc hs
  exact lv_dup E.1 E.2.1 d ((aV_cat G v).trans h) (k p l e s m args below meth c H locs cells slots mc ms lr E hl hR hf hc hs)
theorem v_pop {v : Value} (d : decode (yb y) pc = .ok (.pop, 1)) (h : v.category = 1) (k : V G y D kc ks Q X (pc + 1) ls (st) M) : V G y D kc ks Q X pc ls (v :: st) M := by
  intro p l e s m args below meth c H locs cells slots mc ms lr E hl hR hf hc hs
  exact lv_pop E.1 E.2.1 d ((aV_cat G v).trans h) (k p l e s m args below meth c H locs cells slots mc ms lr E hl hR hf hc hs)
theorem v_dup2 {v w : Value} (d : decode (yb y) pc = .ok (.dup2, 1)) (h : v.category = 1) (h2 : w.category = 1) (k : V G y D kc ks Q X (pc + 1) ls (v :: w :: v :: w :: st) M) : V G y D kc ks Q X pc ls (v :: w :: st) M := by
  intro p l e s m args below meth c H locs cells slots mc ms lr E hl hR hf hc hs
  exact lv_dup2_11 E.1 E.2.1 d ((aV_cat G v).trans h) ((aV_cat G w).trans h2) (k p l e s m args below meth c H locs cells slots mc ms lr E hl hR hf hc hs)
theorem v_pop2 {v : Value} (d : decode (yb y) pc = .ok (.pop2, 1)) (h : v.category = 2) (k : V G y D kc ks Q X (pc + 1) ls (st) M) : V G y D kc ks Q X pc ls (v :: st) M := by
  intro p l e s m args below meth c H locs cells slots mc ms lr E hl hR hf hc hs
  exact lv_pop2_2 E.1 E.2.1 d ((aV_cat G v).trans h) (k p l e s m args below meth c H locs cells slots mc ms lr E hl hR hf hc hs)
theorem v_null (d : decode (yb y) pc = .ok (.aconst_null, 1)) (k : V G y D kc ks Q X (pc + 1) ls (.null :: st) M) : V G y D kc ks Q X pc ls (st) M := by
  intro p l e s m args below meth c H locs cells slots mc ms lr E hl hR hf hc hs
  exact lv_null E.1 E.2.1 d (k p l e s m args below meth c H locs cells slots mc ms lr E hl hR hf hc hs)
theorem v_iconst {n : Int} (v : Int32) (d : decode (yb y) pc = .ok (.iconst n, 1)) (h : Int32.ofInt n = v) (k : V G y D kc ks Q X (pc + 1) ls (.int v :: st) M) : V G y D kc ks Q X pc ls (st) M := by
  intro p l e s m args below meth c H locs cells slots mc ms lr E hl hR hf hc hs
  exact lv_iconst E.1 E.2.1 d h (k p l e s m args below meth c H locs cells slots mc ms lr E hl hR hf hc hs)
theorem v_bipush {n : Int} (v : Int32) (d : decode (yb y) pc = .ok (.bipush n, 2)) (h : (Int8.ofInt n).toInt32 = v) (k : V G y D kc ks Q X (pc + 2) ls (.int v :: st) M) : V G y D kc ks Q X pc ls (st) M := by
  intro p l e s m args below meth c H locs cells slots mc ms lr E hl hR hf hc hs
  exact lv_bipush E.1 E.2.1 d h (k p l e s m args below meth c H locs cells slots mc ms lr E hl hR hf hc hs)
theorem v_sipush {n : Int} (v : Int32) (d : decode (yb y) pc = .ok (.sipush n, 3)) (h : (Int16.ofInt n).toInt32 = v) (k : V G y D kc ks Q X (pc + 3) ls (.int v :: st) M) : V G y D kc ks Q X pc ls (st) M := by
  intro p l e s m args below meth c H locs cells slots mc ms lr E hl hR hf hc hs
  exact lv_sipush E.1 E.2.1 d h (k p l e s m args below meth c H locs cells slots mc ms lr E hl hR hf hc hs)
theorem v_lconst {n : Fin 2} (v : Int64) (d : decode (yb y) pc = .ok (.lconst n, 1)) (h : Int64.ofNat (n : Nat) = v) (k : V G y D kc ks Q X (pc + 1) ls (.long v :: st) M) : V G y D kc ks Q X pc ls (st) M := by
  intro p l e s m args below meth c H locs cells slots mc ms lr E hl hR hf hc hs
  exact lv_lconst E.1 E.2.1 d h (k p l e s m args below meth c H locs cells slots mc ms lr E hl hR hf hc hs)
theorem v_iload_n {k : Fin 4} {x : Int32} (d : decode (yb y) pc = .ok (.iload_n k, 1)) (h : lat (k : Nat) ls = some (.int x)) (k : V G y D kc ks Q X (pc + 1) ls (.int x :: st) M) : V G y D kc ks Q X pc ls (st) M := by
  intro p l e s m args below meth c H locs cells slots mc ms lr E hl hR hf hc hs
  exact lv_iload_n E.1 E.2.1 d rfl (lk_at hl h) (k p l e s m args below meth c H locs cells slots mc ms lr E hl hR hf hc hs)
theorem v_iload {k : Nat} {x : Int32} (d : decode (yb y) pc = .ok (.iload k, 2)) (h : lat k ls = some (.int x)) (k : V G y D kc ks Q X (pc + 2) ls (.int x :: st) M) : V G y D kc ks Q X pc ls (st) M := by
  intro p l e s m args below meth c H locs cells slots mc ms lr E hl hR hf hc hs
  exact lv_iload E.1 E.2.1 d (lk_at hl h) (k p l e s m args below meth c H locs cells slots mc ms lr E hl hR hf hc hs)
theorem v_lload_n {k : Fin 4} {x : Int64} (d : decode (yb y) pc = .ok (.lload_n k, 1)) (h : lat (k : Nat) ls = some (.long x)) (k : V G y D kc ks Q X (pc + 1) ls (.long x :: st) M) : V G y D kc ks Q X pc ls (st) M := by
  intro p l e s m args below meth c H locs cells slots mc ms lr E hl hR hf hc hs
  exact lv_lload_n E.1 E.2.1 d rfl (lk_at hl h) (k p l e s m args below meth c H locs cells slots mc ms lr E hl hR hf hc hs)
theorem v_lload {k : Nat} {x : Int64} (d : decode (yb y) pc = .ok (.lload k, 2)) (h : lat k ls = some (.long x)) (k : V G y D kc ks Q X (pc + 2) ls (.long x :: st) M) : V G y D kc ks Q X pc ls (st) M := by
  intro p l e s m args below meth c H locs cells slots mc ms lr E hl hR hf hc hs
  exact lv_lload E.1 E.2.1 d (lk_at hl h) (k p l e s m args below meth c H locs cells slots mc ms lr E hl hR hf hc hs)
theorem v_aload_n {k : Fin 4} {x : Nat} (d : decode (yb y) pc = .ok (.aload_n k, 1)) (h : lat (k : Nat) ls = some (.ref x)) (k : V G y D kc ks Q X (pc + 1) ls (.ref x :: st) M) : V G y D kc ks Q X pc ls (st) M := by
  intro p l e s m args below meth c H locs cells slots mc ms lr E hl hR hf hc hs
  exact lv_aload_n E.1 E.2.1 d rfl (lk_at hl h) (k p l e s m args below meth c H locs cells slots mc ms lr E hl hR hf hc hs)
theorem v_aload {k : Nat} {x : Nat} (d : decode (yb y) pc = .ok (.aload k, 2)) (h : lat k ls = some (.ref x)) (k : V G y D kc ks Q X (pc + 2) ls (.ref x :: st) M) : V G y D kc ks Q X pc ls (st) M := by
  intro p l e s m args below meth c H locs cells slots mc ms lr E hl hR hf hc hs
  exact lv_aload E.1 E.2.1 d (lk_at hl h) (k p l e s m args below meth c H locs cells slots mc ms lr E hl hR hf hc hs)
theorem v_aload_nN {k : Fin 4} (d : decode (yb y) pc = .ok (.aload_n k, 1)) (h : lat (k : Nat) ls = some .null) (k : V G y D kc ks Q X (pc + 1) ls (.null :: st) M) : V G y D kc ks Q X pc ls (st) M := by
  intro p l e s m args below meth c H locs cells slots mc ms lr E hl hR hf hc hs
  exact lv_aload_nN E.1 E.2.1 d rfl (lk_at hl h) (k p l e s m args below meth c H locs cells slots mc ms lr E hl hR hf hc hs)
theorem v_aloadN {k : Nat} (d : decode (yb y) pc = .ok (.aload k, 2)) (h : lat k ls = some .null) (k : V G y D kc ks Q X (pc + 2) ls (.null :: st) M) : V G y D kc ks Q X pc ls (st) M := by
  intro p l e s m args below meth c H locs cells slots mc ms lr E hl hR hf hc hs
  exact lv_aloadN E.1 E.2.1 d (lk_at hl h) (k p l e s m args below meth c H locs cells slots mc ms lr E hl hR hf hc hs)
theorem v_istore_n {k : Fin 4} {x : Int32} (d : decode (yb y) pc = .ok (.istore_n k, 1)) (h : lok (k : Nat) ls = true) (hn : (k : Nat) < yn y) (k : V G y D kc ks Q X (pc + 1) (sL (k : Nat) (some (.int x)) ls) (st) M) : V G y D kc ks Q X pc ls (.int x :: st) M := by
  intro p l e s m args below meth c H locs cells slots mc ms lr E hl hR hf hc hs
  exact lv_istore_n E.1 E.2.1 d rfl hl hn rfl (fun lr hl => k p l e s m args below meth c H locs cells slots mc ms lr E (lk_set1 h hl) hR hf hc hs)
theorem v_istore {k : Nat} {x : Int32} (d : decode (yb y) pc = .ok (.istore k, 2)) (h : lok k ls = true) (hn : k < yn y) (k : V G y D kc ks Q X (pc + 2) (sL k (some (.int x)) ls) (st) M) : V G y D kc ks Q X pc ls (.int x :: st) M := by
  intro p l e s m args below meth c H locs cells slots mc ms lr E hl hR hf hc hs
  exact lv_istore E.1 E.2.1 d hl hn rfl (fun lr hl => k p l e s m args below meth c H locs cells slots mc ms lr E (lk_set1 h hl) hR hf hc hs)
theorem v_astore_n {k : Fin 4} {x : Nat} (d : decode (yb y) pc = .ok (.astore_n k, 1)) (h : lok (k : Nat) ls = true) (hn : (k : Nat) < yn y) (k : V G y D kc ks Q X (pc + 1) (sL (k : Nat) (some (.ref x)) ls) (st) M) : V G y D kc ks Q X pc ls (.ref x :: st) M := by
  intro p l e s m args below meth c H locs cells slots mc ms lr E hl hR hf hc hs
  exact lv_astore_n E.1 E.2.1 d rfl hl hn rfl (fun lr hl => k p l e s m args below meth c H locs cells slots mc ms lr E (lk_set1 h hl) hR hf hc hs)
theorem v_astore {k : Nat} {x : Nat} (d : decode (yb y) pc = .ok (.astore k, 2)) (h : lok k ls = true) (hn : k < yn y) (k : V G y D kc ks Q X (pc + 2) (sL k (some (.ref x)) ls) (st) M) : V G y D kc ks Q X pc ls (.ref x :: st) M := by
  intro p l e s m args below meth c H locs cells slots mc ms lr E hl hR hf hc hs
  exact lv_astore E.1 E.2.1 d hl hn rfl (fun lr hl => k p l e s m args below meth c H locs cells slots mc ms lr E (lk_set1 h hl) hR hf hc hs)
theorem v_astore_nN {k : Fin 4} (d : decode (yb y) pc = .ok (.astore_n k, 1)) (h : lok (k : Nat) ls = true) (hn : (k : Nat) < yn y) (k : V G y D kc ks Q X (pc + 1) (sL (k : Nat) (some (.null)) ls) (st) M) : V G y D kc ks Q X pc ls (.null :: st) M := by
  intro p l e s m args below meth c H locs cells slots mc ms lr E hl hR hf hc hs
  exact lv_astore_nN E.1 E.2.1 d rfl hl hn rfl (fun lr hl => k p l e s m args below meth c H locs cells slots mc ms lr E (lk_set1 h hl) hR hf hc hs)
theorem v_astoreN {k : Nat} (d : decode (yb y) pc = .ok (.astore k, 2)) (h : lok k ls = true) (hn : k < yn y) (k : V G y D kc ks Q X (pc + 2) (sL k (some (.null)) ls) (st) M) : V G y D kc ks Q X pc ls (.null :: st) M := by
  intro p l e s m args below meth c H locs cells slots mc ms lr E hl hR hf hc hs
  exact lv_astoreN E.1 E.2.1 d hl hn rfl (fun lr hl => k p l e s m args below meth c H locs cells slots mc ms lr E (lk_set1 h hl) hR hf hc hs)
theorem v_lstore_n {k : Fin 4} {x : Int64} (d : decode (yb y) pc = .ok (.lstore_n k, 1)) (h : lok (k : Nat) ls = true) (hn : (k : Nat) + 1 < yn y) (k : V G y D kc ks Q X (pc + 1) (sL ((k : Nat) + 1) none (sL (k : Nat) (some (.long x)) ls)) (st) M) : V G y D kc ks Q X pc ls (.long x :: st) M := by
  intro p l e s m args below meth c H locs cells slots mc ms lr E hl hR hf hc hs
  exact lv_lstore_n E.1 E.2.1 d rfl hl hn rfl (fun lr hl => k p l e s m args below meth c H locs cells slots mc ms lr E (lk_set2 h hl) hR hf hc hs)
theorem v_lstore {k : Nat} {x : Int64} (d : decode (yb y) pc = .ok (.lstore k, 2)) (h : lok k ls = true) (hn : k + 1 < yn y) (k : V G y D kc ks Q X (pc + 2) (sL (k + 1) none (sL k (some (.long x)) ls)) (st) M) : V G y D kc ks Q X pc ls (.long x :: st) M := by
  intro p l e s m args below meth c H locs cells slots mc ms lr E hl hR hf hc hs
  exact lv_lstore E.1 E.2.1 d hl hn rfl (fun lr hl => k p l e s m args below meth c H locs cells slots mc ms lr E (lk_set2 h hl) hR hf hc hs)
theorem lz_idx {ls : List (Option Value)} {k : Nat} {v : Value} (h : lat k ls = some v) (G : mG) : ∃ i : Nat, ((lz 0 ls).map (fun q => (q.1, aV G q.2)))[i]? = some (k, aV G v) := by
  have h1 := lz_at ls 0 k v h
  rw [Nat.zero_add] at h1
  exact List.getElem?_of_mem (List.mem_map.mpr ⟨(k, v), h1, rfl⟩)
theorem v_iinc {k : Nat} {n : Int} {x : Int32} (v : Int32) (d : decode (yb y) pc = .ok (.iinc k n, 3)) (hx : lat k ls = some (.int x)) (hv : Int32.ofInt n = v) (h : lok k ls = true) (hn : k < yn y) (kk : V G y D kc ks Q X (pc + 3) (sL k (some (.int (x + v))) ls) st M) : V G y D kc ks Q X pc ls st M := by
  intro p l e s m args below meth c H locs cells slots mc ms lr E hl hR hf hc hs
  obtain ⟨i, hi⟩ := lz_idx hx G
  exact lv_iinc E.1 E.2.1 d hl hi (by rw [hv]) hn rfl (fun lr hl => kk p l e s m args below meth c H locs cells slots mc ms lr E (lk_set1 (v := .int (x + v)) h hl) hR hf hc hs)
theorem v_if_eq {a : Int32} {off : Int} (tgt : Nat) (d : decode (yb y) pc = .ok (.ifCond .eq off, 3)) (ht : (pc : Int) + off = (tgt : Int)) (kt : a = 0 → V G y D kc ks Q X tgt ls st M) (kf : ¬ (a = 0) → V G y D kc ks Q X (pc + 3) ls st M) : V G y D kc ks Q X pc ls (.int a :: st) M := by
  intro p l e s m args below meth c H locs cells slots mc ms lr E hl hR hf hc hs
  first
  | exact lv_if_eq E.1 E.2.1 d ht (fun q => kt q p l e s m args below meth c H locs cells slots mc ms lr E hl hR hf hc hs) (fun q => kf q p l e s m args below meth c H locs cells slots mc ms lr E hl hR hf hc hs)
  | exact lv_if_eq E.1 E.2.1 d ht (fun q => kt q p l e s m args below meth c H locs cells slots mc ms lr E hl hR hf hc hs) (fun q => kf (fun z => z q) p l e s m args below meth c H locs cells slots mc ms lr E hl hR hf hc hs)
theorem v_icmp_eq {a b : Int32} {off : Int} (tgt : Nat) (d : decode (yb y) pc = .ok (.if_icmp .eq off, 3)) (ht : (pc : Int) + off = (tgt : Int)) (kt : a = b → V G y D kc ks Q X tgt ls st M) (kf : ¬ (a = b) → V G y D kc ks Q X (pc + 3) ls st M) : V G y D kc ks Q X pc ls (.int b :: .int a :: st) M := by
  intro p l e s m args below meth c H locs cells slots mc ms lr E hl hR hf hc hs
  first
  | exact lv_icmp_eq E.1 E.2.1 d ht (fun q => kt q p l e s m args below meth c H locs cells slots mc ms lr E hl hR hf hc hs) (fun q => kf q p l e s m args below meth c H locs cells slots mc ms lr E hl hR hf hc hs)
  | exact lv_icmp_eq E.1 E.2.1 d ht (fun q => kt q p l e s m args below meth c H locs cells slots mc ms lr E hl hR hf hc hs) (fun q => kf (fun z => z q) p l e s m args below meth c H locs cells slots mc ms lr E hl hR hf hc hs)
theorem v_if_ne {a : Int32} {off : Int} (tgt : Nat) (d : decode (yb y) pc = .ok (.ifCond .ne off, 3)) (ht : (pc : Int) + off = (tgt : Int)) (kt : ¬ a = 0 → V G y D kc ks Q X tgt ls st M) (kf : ¬ (¬ a = 0) → V G y D kc ks Q X (pc + 3) ls st M) : V G y D kc ks Q X pc ls (.int a :: st) M := by
  intro p l e s m args below meth c H locs cells slots mc ms lr E hl hR hf hc hs
  first
  | exact lv_if_ne E.1 E.2.1 d ht (fun q => kt q p l e s m args below meth c H locs cells slots mc ms lr E hl hR hf hc hs) (fun q => kf q p l e s m args below meth c H locs cells slots mc ms lr E hl hR hf hc hs)
  | exact lv_if_ne E.1 E.2.1 d ht (fun q => kt q p l e s m args below meth c H locs cells slots mc ms lr E hl hR hf hc hs) (fun q => kf (fun z => z q) p l e s m args below meth c H locs cells slots mc ms lr E hl hR hf hc hs)
theorem v_icmp_ne {a b : Int32} {off : Int} (tgt : Nat) (d : decode (yb y) pc = .ok (.if_icmp .ne off, 3)) (ht : (pc : Int) + off = (tgt : Int)) (kt : ¬ a = b → V G y D kc ks Q X tgt ls st M) (kf : ¬ (¬ a = b) → V G y D kc ks Q X (pc + 3) ls st M) : V G y D kc ks Q X pc ls (.int b :: .int a :: st) M := by
  intro p l e s m args below meth c H locs cells slots mc ms lr E hl hR hf hc hs
  first
  | exact lv_icmp_ne E.1 E.2.1 d ht (fun q => kt q p l e s m args below meth c H locs cells slots mc ms lr E hl hR hf hc hs) (fun q => kf q p l e s m args below meth c H locs cells slots mc ms lr E hl hR hf hc hs)
  | exact lv_icmp_ne E.1 E.2.1 d ht (fun q => kt q p l e s m args below meth c H locs cells slots mc ms lr E hl hR hf hc hs) (fun q => kf (fun z => z q) p l e s m args below meth c H locs cells slots mc ms lr E hl hR hf hc hs)
theorem v_if_lt {a : Int32} {off : Int} (tgt : Nat) (d : decode (yb y) pc = .ok (.ifCond .lt off, 3)) (ht : (pc : Int) + off = (tgt : Int)) (kt : a < 0 → V G y D kc ks Q X tgt ls st M) (kf : ¬ (a < 0) → V G y D kc ks Q X (pc + 3) ls st M) : V G y D kc ks Q X pc ls (.int a :: st) M := by
  intro p l e s m args below meth c H locs cells slots mc ms lr E hl hR hf hc hs
  first
  | exact lv_if_lt E.1 E.2.1 d ht (fun q => kt q p l e s m args below meth c H locs cells slots mc ms lr E hl hR hf hc hs) (fun q => kf q p l e s m args below meth c H locs cells slots mc ms lr E hl hR hf hc hs)
  | exact lv_if_lt E.1 E.2.1 d ht (fun q => kt q p l e s m args below meth c H locs cells slots mc ms lr E hl hR hf hc hs) (fun q => kf (fun z => z q) p l e s m args below meth c H locs cells slots mc ms lr E hl hR hf hc hs)
theorem v_icmp_lt {a b : Int32} {off : Int} (tgt : Nat) (d : decode (yb y) pc = .ok (.if_icmp .lt off, 3)) (ht : (pc : Int) + off = (tgt : Int)) (kt : a < b → V G y D kc ks Q X tgt ls st M) (kf : ¬ (a < b) → V G y D kc ks Q X (pc + 3) ls st M) : V G y D kc ks Q X pc ls (.int b :: .int a :: st) M := by
  intro p l e s m args below meth c H locs cells slots mc ms lr E hl hR hf hc hs
  first
  | exact lv_icmp_lt E.1 E.2.1 d ht (fun q => kt q p l e s m args below meth c H locs cells slots mc ms lr E hl hR hf hc hs) (fun q => kf q p l e s m args below meth c H locs cells slots mc ms lr E hl hR hf hc hs)
  | exact lv_icmp_lt E.1 E.2.1 d ht (fun q => kt q p l e s m args below meth c H locs cells slots mc ms lr E hl hR hf hc hs) (fun q => kf (fun z => z q) p l e s m args below meth c H locs cells slots mc ms lr E hl hR hf hc hs)
theorem v_if_ge {a : Int32} {off : Int} (tgt : Nat) (d : decode (yb y) pc = .ok (.ifCond .ge off, 3)) (ht : (pc : Int) + off = (tgt : Int)) (kt : 0 ≤ a → V G y D kc ks Q X tgt ls st M) (kf : ¬ (0 ≤ a) → V G y D kc ks Q X (pc + 3) ls st M) : V G y D kc ks Q X pc ls (.int a :: st) M := by
  intro p l e s m args below meth c H locs cells slots mc ms lr E hl hR hf hc hs
  first
  | exact lv_if_ge E.1 E.2.1 d ht (fun q => kt q p l e s m args below meth c H locs cells slots mc ms lr E hl hR hf hc hs) (fun q => kf q p l e s m args below meth c H locs cells slots mc ms lr E hl hR hf hc hs)
  | exact lv_if_ge E.1 E.2.1 d ht (fun q => kt q p l e s m args below meth c H locs cells slots mc ms lr E hl hR hf hc hs) (fun q => kf (fun z => z q) p l e s m args below meth c H locs cells slots mc ms lr E hl hR hf hc hs)
theorem v_icmp_ge {a b : Int32} {off : Int} (tgt : Nat) (d : decode (yb y) pc = .ok (.if_icmp .ge off, 3)) (ht : (pc : Int) + off = (tgt : Int)) (kt : b ≤ a → V G y D kc ks Q X tgt ls st M) (kf : ¬ (b ≤ a) → V G y D kc ks Q X (pc + 3) ls st M) : V G y D kc ks Q X pc ls (.int b :: .int a :: st) M := by
  intro p l e s m args below meth c H locs cells slots mc ms lr E hl hR hf hc hs
  first
  | exact lv_icmp_ge E.1 E.2.1 d ht (fun q => kt q p l e s m args below meth c H locs cells slots mc ms lr E hl hR hf hc hs) (fun q => kf q p l e s m args below meth c H locs cells slots mc ms lr E hl hR hf hc hs)
  | exact lv_icmp_ge E.1 E.2.1 d ht (fun q => kt q p l e s m args below meth c H locs cells slots mc ms lr E hl hR hf hc hs) (fun q => kf (fun z => z q) p l e s m args below meth c H locs cells slots mc ms lr E hl hR hf hc hs)
theorem v_if_gt {a : Int32} {off : Int} (tgt : Nat) (d : decode (yb y) pc = .ok (.ifCond .gt off, 3)) (ht : (pc : Int) + off = (tgt : Int)) (kt : 0 < a → V G y D kc ks Q X tgt ls st M) (kf : ¬ (0 < a) → V G y D kc ks Q X (pc + 3) ls st M) : V G y D kc ks Q X pc ls (.int a :: st) M := by
  intro p l e s m args below meth c H locs cells slots mc ms lr E hl hR hf hc hs
  first
  | exact lv_if_gt E.1 E.2.1 d ht (fun q => kt q p l e s m args below meth c H locs cells slots mc ms lr E hl hR hf hc hs) (fun q => kf q p l e s m args below meth c H locs cells slots mc ms lr E hl hR hf hc hs)
  | exact lv_if_gt E.1 E.2.1 d ht (fun q => kt q p l e s m args below meth c H locs cells slots mc ms lr E hl hR hf hc hs) (fun q => kf (fun z => z q) p l e s m args below meth c H locs cells slots mc ms lr E hl hR hf hc hs)
theorem v_icmp_gt {a b : Int32} {off : Int} (tgt : Nat) (d : decode (yb y) pc = .ok (.if_icmp .gt off, 3)) (ht : (pc : Int) + off = (tgt : Int)) (kt : b < a → V G y D kc ks Q X tgt ls st M) (kf : ¬ (b < a) → V G y D kc ks Q X (pc + 3) ls st M) : V G y D kc ks Q X pc ls (.int b :: .int a :: st) M := by
  intro p l e s m args below meth c H locs cells slots mc ms lr E hl hR hf hc hs
  first
  | exact lv_icmp_gt E.1 E.2.1 d ht (fun q => kt q p l e s m args below meth c H locs cells slots mc ms lr E hl hR hf hc hs) (fun q => kf q p l e s m args below meth c H locs cells slots mc ms lr E hl hR hf hc hs)
  | exact lv_icmp_gt E.1 E.2.1 d ht (fun q => kt q p l e s m args below meth c H locs cells slots mc ms lr E hl hR hf hc hs) (fun q => kf (fun z => z q) p l e s m args below meth c H locs cells slots mc ms lr E hl hR hf hc hs)
theorem v_if_le {a : Int32} {off : Int} (tgt : Nat) (d : decode (yb y) pc = .ok (.ifCond .le off, 3)) (ht : (pc : Int) + off = (tgt : Int)) (kt : a ≤ 0 → V G y D kc ks Q X tgt ls st M) (kf : ¬ (a ≤ 0) → V G y D kc ks Q X (pc + 3) ls st M) : V G y D kc ks Q X pc ls (.int a :: st) M := by
  intro p l e s m args below meth c H locs cells slots mc ms lr E hl hR hf hc hs
  first
  | exact lv_if_le E.1 E.2.1 d ht (fun q => kt q p l e s m args below meth c H locs cells slots mc ms lr E hl hR hf hc hs) (fun q => kf q p l e s m args below meth c H locs cells slots mc ms lr E hl hR hf hc hs)
  | exact lv_if_le E.1 E.2.1 d ht (fun q => kt q p l e s m args below meth c H locs cells slots mc ms lr E hl hR hf hc hs) (fun q => kf (fun z => z q) p l e s m args below meth c H locs cells slots mc ms lr E hl hR hf hc hs)
theorem v_icmp_le {a b : Int32} {off : Int} (tgt : Nat) (d : decode (yb y) pc = .ok (.if_icmp .le off, 3)) (ht : (pc : Int) + off = (tgt : Int)) (kt : a ≤ b → V G y D kc ks Q X tgt ls st M) (kf : ¬ (a ≤ b) → V G y D kc ks Q X (pc + 3) ls st M) : V G y D kc ks Q X pc ls (.int b :: .int a :: st) M := by
  intro p l e s m args below meth c H locs cells slots mc ms lr E hl hR hf hc hs
  first
  | exact lv_icmp_le E.1 E.2.1 d ht (fun q => kt q p l e s m args below meth c H locs cells slots mc ms lr E hl hR hf hc hs) (fun q => kf q p l e s m args below meth c H locs cells slots mc ms lr E hl hR hf hc hs)
  | exact lv_icmp_le E.1 E.2.1 d ht (fun q => kt q p l e s m args below meth c H locs cells slots mc ms lr E hl hR hf hc hs) (fun q => kf (fun z => z q) p l e s m args below meth c H locs cells slots mc ms lr E hl hR hf hc hs)
theorem v_goto {off : Int} (tgt : Nat) (d : decode (yb y) pc = .ok (.goto off, 3)) (ht : (pc : Int) + off = (tgt : Int)) (k : V G y D kc ks Q X tgt ls st M) : V G y D kc ks Q X pc ls st M := by
  intro p l e s m args below meth c H locs cells slots mc ms lr E hl hR hf hc hs
  exact lv_goto E.1 E.2.1 d ht (k p l e s m args below meth c H locs cells slots mc ms lr E hl hR hf hc hs)
theorem v_ifnonnull {a : Nat} {off : Int} (tgt : Nat) (d : decode (yb y) pc = .ok (.ifnonnull off, 3)) (ht : (pc : Int) + off = (tgt : Int)) (k : V G y D kc ks Q X tgt ls st M) : V G y D kc ks Q X pc ls (.ref a :: st) M := by
  intro p l e s m args below meth c H locs cells slots mc ms lr E hl hR hf hc hs
  exact lv_ifnonnull E.1 E.2.1 d ht (k p l e s m args below meth c H locs cells slots mc ms lr E hl hR hf hc hs)
theorem v_ifnonnullN {off : Int} (d : decode (yb y) pc = .ok (.ifnonnull off, 3)) (k : V G y D kc ks Q X (pc + 3) ls st M) : V G y D kc ks Q X pc ls (.null :: st) M := by
  intro p l e s m args below meth c H locs cells slots mc ms lr E hl hR hf hc hs
  exact lv_ifnonnullN E.1 E.2.1 d (k p l e s m args below meth c H locs cells slots mc ms lr E hl hR hf hc hs)
theorem v_tableOut {dflt lo hi : Int} {offs : Array Int} {len : Nat} {x : Int32} (tgt : Nat) (d : decode (yb y) pc = .ok (.tableswitch dflt lo hi offs, len)) (h : x.toInt < lo ∨ hi < x.toInt) (ht : (pc : Int) + dflt = (tgt : Int)) (k : V G y D kc ks Q X tgt ls st M) : V G y D kc ks Q X pc ls (.int x :: st) M := by
  intro p l e s m args below meth c H locs cells slots mc ms lr E hl hR hf hc hs
  exact lv_tableOut E.1 E.2.1 d h ht (k p l e s m args below meth c H locs cells slots mc ms lr E hl hR hf hc hs)
theorem v_tableIn {dflt lo hi : Int} {offs : Array Int} {len : Nat} {x : Int32} {off : Int} (tgt : Nat) (d : decode (yb y) pc = .ok (.tableswitch dflt lo hi offs, len)) (h1 : ¬ x.toInt < lo) (h2 : ¬ hi < x.toInt) (ho : offs[(x.toInt - lo).toNat]? = some off) (ht : (pc : Int) + off = (tgt : Int)) (k : V G y D kc ks Q X tgt ls st M) : V G y D kc ks Q X pc ls (.int x :: st) M := by
  intro p l e s m args below meth c H locs cells slots mc ms lr E hl hR hf hc hs
  exact lv_tableIn E.1 E.2.1 d h1 h2 ho ht (k p l e s m args below meth c H locs cells slots mc ms lr E hl hR hf hc hs)
theorem v_ldc {n : Nat} (v : Int32) (d : decode (yb y) pc = .ok (.ldc n, 2)) (hw : Cond.constant (yy y).cls n v ∈ aw) (k : V G y D kc ks Q X (pc + 2) ls (.int v :: st) M) : V G y D kc ks Q X pc ls st M := by
  intro p l e s m args below meth c H locs cells slots mc ms lr E hl hR hf hc hs
  exact lv_ldc E.1 E.2.1 E.2.2.2.2.1 (E.2.2.2.2.2.1 _ hw) d (k p l e s m args below meth c H locs cells slots mc ms lr E hl hR hf hc hs)
theorem v_ldcw {n : Nat} (v : Int32) (d : decode (yb y) pc = .ok (.ldc_w n, 3)) (hw : Cond.constant (yy y).cls n v ∈ aw) (k : V G y D kc ks Q X (pc + 3) ls (.int v :: st) M) : V G y D kc ks Q X pc ls st M := by
  intro p l e s m args below meth c H locs cells slots mc ms lr E hl hR hf hc hs
  exact lv_ldcw E.1 E.2.1 E.2.2.2.2.1 (E.2.2.2.2.2.1 _ hw) d (k p l e s m args below meth c H locs cells slots mc ms lr E hl hR hf hc hs)
theorem v_ldc2 {n : Nat} (v : Int64) (d : decode (yb y) pc = .ok (.ldc2_w n, 3)) (hw : Cond.constantLong (yy y).cls n v ∈ aw) (k : V G y D kc ks Q X (pc + 3) ls (.long v :: st) M) : V G y D kc ks Q X pc ls st M := by
  intro p l e s m args below meth c H locs cells slots mc ms lr E hl hR hf hc hs
  exact lv_ldc2 E.1 E.2.1 E.2.2.2.2.1 (E.2.2.2.2.2.1 _ hw) d (k p l e s m args below meth c H locs cells slots mc ms lr E hl hR hf hc hs)
theorem v_iret {a : Int32} (d : decode (yb y) pc = .ok (.ireturn, 1)) (hr : yr y = some .int) (q : Q (some (.int a)) M) : V G y D kc ks Q X pc ls [.int a] M := by
  intro p l e s m args below meth c H locs cells slots mc ms lr E hl hR hf hc hs
  exact vx_ret (W.widen (Nat.le_trans (Nat.le_add_right _ _) hc) (Nat.le_trans (Nat.le_add_right _ _) hs) (W.iret E.1 E.2.1 (E.2.2.1.trans hr) (fun t ht _ => ⟨some (.int a), M, rfl, q, by rw [ht]; exact hR⟩) hf d E.2.2.2.2.2.2.1))
theorem v_lret {a : Int64} (d : decode (yb y) pc = .ok (.lreturn, 1)) (hr : yr y = some .long) (q : Q (some (.long a)) M) : V G y D kc ks Q X pc ls [.long a] M := by
  intro p l e s m args below meth c H locs cells slots mc ms lr E hl hR hf hc hs
  exact vx_ret (W.widen (Nat.le_trans (Nat.le_add_right _ _) hc) (Nat.le_trans (Nat.le_add_right _ _) hs) (W.lret E.1 E.2.1 (E.2.2.1.trans hr) (fun t ht _ => ⟨some (.long a), M, rfl, q, by rw [ht]; exact hR⟩) hf d E.2.2.2.2.2.2.1))
theorem v_vret (d : decode (yb y) pc = .ok (.return_, 1)) (hr : yr y = none) (q : Q (none) M) : V G y D kc ks Q X pc ls [] M := by
  intro p l e s m args below meth c H locs cells slots mc ms lr E hl hR hf hc hs
  exact vx_ret (W.widen (Nat.le_trans (Nat.le_add_right _ _) hc) (Nat.le_trans (Nat.le_add_right _ _) hs) (W.vret E.1 E.2.1 (E.2.2.1.trans hr) (fun t ht _ => ⟨none, M, rfl, q, by rw [ht]; exact hR⟩) hf d E.2.2.2.2.2.2.1))
theorem v_zret {a : Int32} (d : decode (yb y) pc = .ok (.ireturn, 1)) (hr : yr y = some .boolean) (h : narrow .boolean (.int a) = .int a) (q : Q (some (.int a)) M) : V G y D kc ks Q X pc ls [.int a] M := by
  intro p l e s m args below meth c H locs cells slots mc ms lr E hl hR hf hc hs
  exact vx_ret (W.widen (Nat.le_trans (Nat.le_add_right _ _) hc) (Nat.le_trans (Nat.le_add_right _ _) hs) (W.zret E.1 E.2.1 (E.2.2.1.trans hr) h (fun t ht _ => ⟨some (.int a), M, rfl, q, by rw [ht]; exact hR⟩) hf d E.2.2.2.2.2.2.1))
theorem v_aret {v : Value} {C : String} (d : decode (yb y) pc = .ok (.areturn, 1)) (hr : yr y = some (.object C)) (h : v = .null ∨ ∃ a, v = .ref a) (q : Q (some v) M) : V G y D kc ks Q X pc ls [v] M := by
  intro p l e s m args below meth c H locs cells slots mc ms lr E hl hR hf hc hs
  have h' : aV G v = .null ∨ ∃ a, aV G v = .ref a := by
    rcases h with h | ⟨a, h⟩
    · subst h; exact Or.inl rfl
    · subst h; exact Or.inr ⟨_, rfl⟩
  exact vx_ret (W.widen (Nat.le_trans (Nat.le_add_right _ _) hc) (Nat.le_trans (Nat.le_add_right _ _) hs) (W.aret E.1 E.2.1 (E.2.2.1.trans hr) (Or.inl ⟨C, rfl⟩) h' (fun t ht _ => ⟨some v, M, rfl, q, by rw [ht]; exact hR⟩) hf d E.2.2.2.2.2.2.1))
end VR
