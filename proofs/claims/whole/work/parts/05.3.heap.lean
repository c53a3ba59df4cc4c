/-! ===== fields and arrays ===== -/
theorem cls_ok : ∀ c, c < 13 → clsOK c := by
  intro c hc
  rcases (show c = 0 ∨ c = 1 ∨ c = 2 ∨ c = 3 ∨ c = 4 ∨ c = 5 ∨ c = 6 ∨ c = 7 ∨ c = 8 ∨ c = 9 ∨ c = 10 ∨ c = 11 ∨ c = 12 by omega) with h | h | h | h | h | h | h | h | h | h | h | h | h <;> subst h
  · exact ⟨rfl, i_X0, tyX0_ok, nmX0⟩
  · exact ⟨rfl, i_X1, tyX1_ok, nmX1⟩
  · exact ⟨rfl, i_X2, tyX2_ok, nmX2⟩
  · exact ⟨rfl, i_X3, tyX3_ok, nmX3⟩
  · exact ⟨rfl, i_X4, tyX4_ok, nmX4⟩
  · exact ⟨rfl, i_X5, tyX5_ok, nmX5⟩
  · exact ⟨rfl, i_X6, tyX6_ok, nmX6⟩
  · exact ⟨rfl, i_X7, tyX7_ok, nmX7⟩
  · exact ⟨rfl, i_X8, tyX8_ok, nmX8⟩
  · exact ⟨rfl, i_X9, tyX9_ok, nmX9⟩
  · exact ⟨rfl, i_X10, tyX10_ok, nmX10⟩
  · exact ⟨rfl, i_X11, tyX11_ok, nmX11⟩
  · exact ⟨rfl, i_X12, tyX12_ok, nmX12⟩
theorem Rl.obj {G : mG} {M : mM} {H : Heap} (h : Rl G M H) {q c : Nat} (hT : gT M q = .inl c) (hc : c < 13) : 100 ≤ q ∧ q < gz M ∧ t_OB (al G q) (G.1 c) (cN c) (G.2.1 c) H (fun k => fv G M (fT c k) q k) := by
  obtain ⟨h0, h1, h2, h3, h4⟩ := h
  by_cases hq : q < 100 ∨ gz M ≤ q
  · rw [h4 q hq] at hT; cases hT
  · have ha : 100 ≤ q := by omega
    have hb : q < gz M := by omega
    have := h3 q ha hb
    simp only [cok, hT] at this
    exact ⟨ha, hb, this hc⟩
theorem Rl.arr {G : mG} {M : mM} {H : Heap} (h : Rl G M H) {q t n : Nat} (hT : gT M q = .inr (t, n)) (ht : t < 8) : 100 ≤ q ∧ q < gz M ∧ H[al G q]? = some (arrV (G.2.2.1 t) n (fun j => fv G M (eT t) q j)) := by
  obtain ⟨h0, h1, h2, h3, h4⟩ := h
  by_cases hq : q < 100 ∨ gz M ≤ q
  · rw [h4 q hq] at hT; cases hT; omega
  · have ha : 100 ≤ q := by omega
    have hb : q < gz M := by omega
    have := h3 q ha hb
    simp only [cok, hT] at this
    exact ⟨ha, hb, this ht⟩
theorem al_ge {G : mG} {q : Nat} (h : 100 ≤ q) : al G q = b0 G + (q - 100) := by simp only [al]; rw [if_neg (by omega)]
theorem al_inj {G : mG} {q r : Nat} (h : 100 ≤ q) (h2 : 100 ≤ r) (e : al G q = al G r) : q = r := by
  rw [al_ge h, al_ge h2] at e; omega
/-- a store into one cell: all others stay -/
theorem Rl.store {G : mG} {M M' : mM} {H H' : Heap} (h : Rl G M H) {q : Nat} (hq : 100 ≤ q) (hz : gz M' = gz M) (hT : gT M' = gT M) (hs : H'.size = H.size) (ho : ∀ r, r ≠ al G q → H'[r]? = H[r]?) (hI : ∀ r, r ≠ q → gI M' r = gI M r) (hJ : ∀ r, r ≠ q → gJ M' r = gJ M r) (hR : ∀ r, r ≠ q → gR M' r = gR M r) (hc : cok G M' q H') : Rl G M' H' := by
  obtain ⟨h0, h1, h2, h3, h4⟩ := h
  refine ⟨by rw [hz]; exact h0, by rw [hz, hs]; exact h1, fun r hr => ?_, fun r h5 h6 => ?_, fun r hr => by rw [hT]; exact h4 r (by rw [hz] at hr; exact hr)⟩
  · rw [ho r (by rw [al_ge hq]; omega)]; exact h2 r hr
  · by_cases e : r = q
    · subst e; exact hc
    · rw [hz] at h6
      have h7 := h3 r h5 h6
      have e2 : H'[al G r]? = H[al G r]? := ho _ (fun z => e (al_inj h5 hq z))
      have e3 : ∀ ty k, fv G M' ty r k = fv G M ty r k := by
        intro ty k
        unfold fv
        rw [hI r e, hJ r e, hR r e]
      unfold cok at h7 ⊢
      rw [hT]
      cases hsh : gT M r with
      | inl c =>
        rw [hsh] at h7
        simp only at h7 ⊢
        intro hc13
        obtain ⟨cell, g1, g2⟩ := h7 hc13
        refine ⟨cell, by rw [e2]; exact g1, g2.1, g2.2.1, fun k hk => ?_⟩
        show cell.slots[G.2.1 c k]? = some (fv G M' (fT c k) r k)
        rw [e3]; exact g2.2.2 k hk
      | inr tn =>
        obtain ⟨t, n⟩ := tn
        rw [hsh] at h7
        simp only at h7 ⊢
        intro ht8
        rw [e2, h7 ht8]
        simp only [e3]
theorem fr_al {G : mG} {q : Nat} (h : 100 ≤ q) : fr G (al G q) := by rw [al_ge h]; exact Nat.le_add_right _ _
theorem fr_put {G : mG} {locs : List Loc} {q i : Nat} (hf : ∀ z ∈ locs, fr G z.base) (h : 100 ≤ q) : ∀ z ∈ locs ++ [⟨al G q, i⟩], fr G z.base := by
  intro z hz
  rcases List.mem_append.mp hz with h1 | h1
  · exact hf z h1
  · rw [List.mem_singleton.mp h1]; exact fr_al h
def isI (t : FieldType) : Bool := match t with
  | .int => true
  | .boolean => true
  | .byte => true
  | .short => true
  | .char => true
  | _ => false
def isO (t : FieldType) : Bool := match t with
  | .object _ => true
  | .array _ => true
  | _ => false
theorem fv_I {G : mG} {M : mM} {ty : FieldType} (h : isI ty = true) (q k : Nat) : fv G M ty q k = .int (gI M q k) := by
  cases ty <;> simp [isI] at h <;> rfl
theorem fv_O {G : mG} {M : mM} {ty : FieldType} (h : isO ty = true) (q k : Nat) : fv G M ty q k = va_rf ((gR M q k).map (al G)) := by
  cases ty <;> simp [isO] at h <;> rfl
section VH
variable {G : mG} {y : mY} {D kc ks : Nat} {Q : Option Value → mM → Prop} {X : String → mM → Prop} {pc : Nat} {ls : List (Option Value)} {st : List Value} {M : mM}
theorem v_getf {q c k idx : Nat} {v : Value} (d : decode (yb y) pc = .ok (.getfield idx, 3)) (hw : Cond.fieldLink (yy y).cls idx (fN c k).1 (fN c k).2.1 (fN c k).2.2.1 ∈ aw) (hT : gT M q = .inl c) (h13 : c < 13) (hk : k < cN c) (hv : aV G v = fv G M (fT c k) q k) (kk : V G y D kc ks Q X (pc + 3) ls (v :: st) M) : V G y D kc ks Q X pc ls (.ref q :: st) M := by
  intro p l e s m args below meth cd H locs cells slots mc ms lr E hl hR hf hc hs
  obtain ⟨g1, g2, cell, q1, q2, q3, q4⟩ := hR.obj hT h13
  obtain ⟨c1, c2, c3, c4⟩ := cls_ok c h13
  obtain ⟨hS, hfc, kC, hkC, hkind⟩ := E.2.2.2.2.2.2.2.1.1.1 c _ c1
  obtain ⟨cf, kf, fi, f, hi, hsl⟩ := hS k hk
  refine W.getf (g := F0 m pc lr _) E.1 E.2.1 E.2.2.2.2.1 (E.2.2.2.2.2.1 _ hw) hi (u_facts hfc hkC (u_lays E.2.2.2.2.2.1 c2 hk) hi).1 q1 (by rw [q3]; exact fun h => by cases h) (v := aV G v) ?_ rfl rfl d (kk p l e s m args below meth cd H locs cells slots mc ms lr E hl hR hf hc hs)
  rw [hsl, hv]
  exact q4 k hk
theorem v_getI {q idx : Nat} (c k : Nat) (d : decode (yb y) pc = .ok (.getfield idx, 3)) (hw : Cond.fieldLink (yy y).cls idx (fN c k).1 (fN c k).2.1 (fN c k).2.2.1 ∈ aw) (hT : gT M q = .inl c) (h : (c < 13 ∧ k < cN c) ∧ isI (fT c k) = true) (kk : V G y D kc ks Q X (pc + 3) ls (.int (gI M q k) :: st) M) : V G y D kc ks Q X pc ls (.ref q :: st) M :=
  v_getf (v := .int (gI M q k)) d hw hT h.1.1 h.1.2 (fv_I h.2 q k).symm kk
theorem v_getJ {q idx : Nat} (c k : Nat) (d : decode (yb y) pc = .ok (.getfield idx, 3)) (hw : Cond.fieldLink (yy y).cls idx (fN c k).1 (fN c k).2.1 (fN c k).2.2.1 ∈ aw) (hT : gT M q = .inl c) (h : (c < 13 ∧ k < cN c) ∧ fT c k = .long) (kk : V G y D kc ks Q X (pc + 3) ls (.long (gJ M q k) :: st) M) : V G y D kc ks Q X pc ls (.ref q :: st) M :=
  v_getf (v := .long (gJ M q k)) d hw hT h.1.1 h.1.2 (by rw [h.2]; rfl) kk
theorem v_getR {q idx : Nat} (c k a : Nat) (d : decode (yb y) pc = .ok (.getfield idx, 3)) (hw : Cond.fieldLink (yy y).cls idx (fN c k).1 (fN c k).2.1 (fN c k).2.2.1 ∈ aw) (hT : gT M q = .inl c) (h : (c < 13 ∧ k < cN c) ∧ isO (fT c k) = true) (hv : gR M q k = some a) (kk : V G y D kc ks Q X (pc + 3) ls (.ref a :: st) M) : V G y D kc ks Q X pc ls (.ref q :: st) M :=
  v_getf (v := .ref a) d hw hT h.1.1 h.1.2 (by rw [fv_O h.2, hv]; rfl) kk
theorem v_getRN {q idx : Nat} (c k : Nat) (d : decode (yb y) pc = .ok (.getfield idx, 3)) (hw : Cond.fieldLink (yy y).cls idx (fN c k).1 (fN c k).2.1 (fN c k).2.2.1 ∈ aw) (hT : gT M q = .inl c) (h : (c < 13 ∧ k < cN c) ∧ isO (fT c k) = true) (hv : gR M q k = none) (kk : V G y D kc ks Q X (pc + 3) ls (.null :: st) M) : V G y D kc ks Q X pc ls (.ref q :: st) M :=
  v_getf (v := .null) d hw hT h.1.1 h.1.2 (by rw [fv_O h.2, hv]; rfl) kk
/-- a field of a nest mate -/
theorem v_getRX {q idx : Nat} {host : String} (c k a : Nat) (d : decode (yb y) pc = .ok (.getfield idx, 3)) (hw : Cond.fieldLinkNest (yy y).cls idx (fN c k).1 (fN c k).2.1 (fN c k).2.2.1 host ∈ ow) (hT : gT M q = .inl c) (h : (c < 13 ∧ k < cN c) ∧ isO (fT c k) = true) (hv : gR M q k = some a) (kk : V G y D kc ks Q X (pc + 3) ls (.ref a :: st) M) : V G y D kc ks Q X pc ls (.ref q :: st) M := by
  intro p l e s m args below meth cd H locs cells slots mc ms lr E hl hR hf hc hs
  obtain ⟨g1, g2, cell, q1, q2, q3, q4⟩ := hR.obj hT h.1.1
  obtain ⟨c1, c2, c3, c4⟩ := cls_ok c h.1.1
  obtain ⟨hS, hfc, kC, hkC, hkind⟩ := E.2.2.2.2.2.2.2.1.1.1 c _ c1
  obtain ⟨cf, kf, fi, f, hi, hsl⟩ := hS k h.1.2
  refine va_Wgetf (g := F0 m pc lr _) E.1 E.2.1 E.2.2.2.2.1 (va_Nw.use rfl (E.2.2.2.2.2.2.2.1.2.2.1 _ hw)) hi (u_facts hfc hkC (u_lays E.2.2.2.2.2.1 c2 h.1.2) hi).1 q1 (by rw [q3]; exact fun h => by cases h) (v := .ref (al G a)) ?_ rfl rfl d (kk p l e s m args below meth cd H locs cells slots mc ms lr E hl hR hf hc hs)
  rw [hsl]
  have := q4 k h.1.2
  simp only [fv_O h.2, hv] at this
  exact this
/-- a new memory M' that differs in field k of the object q alone -/
theorem ob_put {G : mG} {M M' : mM} {q c k : Nat} {cell : Cell} {v : Value} {H' : Heap} (hT : gT M' q = .inl c) (hap : ∀ a b, a < cN c → b < cN c → a ≠ b → G.2.1 c a ≠ G.2.1 c b) (hk : k < cN c) (q2 : cell.cls = G.1 c) (q3 : cell.vm = .none) (q4 : ∀ j, j < cN c → cell.slots[G.2.1 c j]? = some (fv G M (fT c j) q j)) (e1 : H'[al G q]? = some (cell.setSlot (G.2.1 c k) v)) (hv : fv G M' (fT c k) q k = v) (ho : ∀ j, j ≠ k → fv G M' (fT c j) q j = fv G M (fT c j) q j) : cok G M' q H' := by
  unfold cok
  rw [hT]
  simp only
  intro _
  refine ⟨_, e1, q2, q3, fun j hj => ?_⟩
  rw [t_set q4 hap hk v j hj]
  unfold updV
  by_cases e : j = k
  · subst e; simp [hv]
  · simp [e, ho j e]
theorem v_putf {q c k idx : Nat} {v : Value} {M' : mM} (d : decode (yb y) pc = .ok (.putfield idx, 3)) (hw : Cond.fieldLink (yy y).cls idx (fN c k).1 (fN c k).2.1 (fN c k).2.2.1 ∈ aw) (hT : gT M q = .inl c) (h13 : c < 13) (hk : k < cN c)
    (hfin : (fN c k).2.2.2 = false ∨ ((fN c k).2.2.2 = true ∧ (yy y).name = "<init>" ∧ (fN c k).1 = (yy y).cls)) (hn : narrow (fT c k) (aV G v) = aV G v) (hfit : fits (fT c k) (aV G v) = true)
    (hz : gz M' = gz M) (hT' : gT M' = gT M) (hI : ∀ r, r ≠ q → gI M' r = gI M r) (hJ : ∀ r, r ≠ q → gJ M' r = gJ M r) (hRr : ∀ r, r ≠ q → gR M' r = gR M r) (hv : fv G M' (fT c k) q k = aV G v) (ho : ∀ j, j ≠ k → fv G M' (fT c j) q j = fv G M (fT c j) q j)
    (kk : V G y D kc ks Q X (pc + 3) ls st M') : V G y D kc ks Q X pc ls (v :: .ref q :: st) M := by
  intro p l e s m args below meth cd H locs cells slots mc ms lr E hl hR hf hc hs
  obtain ⟨g1, g2, cell, q1, q2, q3, q4⟩ := hR.obj hT h13
  obtain ⟨c1, c2, c3, c4⟩ := cls_ok c h13
  have hap := va_apart (own := (yy y).cls) E.2.2.2.2.2.1 c2 (fT c) c3 c4 E.2.2.2.2.2.2.2.1.1 c1
  obtain ⟨hS, hfc, kC, hkC, hkind⟩ := E.2.2.2.2.2.2.2.1.1.1 c _ c1
  obtain ⟨cf, kf, fi, f, hi, hsl⟩ := hS k hk
  have hst := (u_facts hfc hkC (u_lays E.2.2.2.2.2.1 c2 hk) hi).1
  have hlay := E.2.2.2.2.2.1 _ (c2 _ (u_in_lay hk))
  unfold u_lay at hlay
  have fin : ∀ H' : Heap, H'[al G q]? = some (cell.setSlot (G.2.1 c k) (aV G v)) → H'.size = H.size → (∀ r, r ≠ al G q → H'[r]? = H[r]?) → W p l e (rmd D mc ms) s m args below meth cd H' (locs ++ [⟨al G q, G.2.1 c k⟩]) cells slots (vx_MQ below (qC G Q) (xC G X) args s mc ms (fr G)) (F0 m (pc + 3) lr (st.map (aV G))) := by
    intro H' e1 e2 e3
    refine kk p l e s m args below meth cd H' _ cells slots mc ms lr E hl ?_ (fr_put hf g1) hc hs
    exact hR.store g1 hz hT' e2 e3 hI hJ hRr (ob_put (v := aV G v) (by rw [hT']; exact hT) hap hk q2 q3 q4 e1 hv ho)
  rcases hfin with hfin | ⟨hfin, hin2, hdecl⟩
  · rw [if_neg (by rw [hfin]; decide)] at hlay
    have h6 := u_store hfc hkC hkind hlay hi (c3 k hk) hn hfit
    refine W.putK (g := F0 m pc lr _) E.1 E.2.1 (f := f) ⟨E.2.2.2.2.1, E.2.2.2.2.2.1 _ hw, ⟨_, _, _, hi⟩, hst⟩ (by rw [q2]; exact h6) q1 q3 (by rw [hsl]; exact k2_hasslot (q4 k hk)) rfl rfl d fun H' e1 e2 e3 => ?_
    rw [hsl] at e1 ⊢
    exact fin H' e1 e2 e3
  · rw [if_pos hfin] at hlay
    have hcf : m.cls = cf := by
      obtain ⟨_, _, c', _, _, _, -, -, hf', -, -, -, hown2, -⟩ := Cond.laysFinal_spec hlay
      have e1 : c' = cf := by have := hi.symm.trans hf'; simp at this; exact this.1.symm
      rw [hdecl] at hown2
      rw [← e1]; exact Option.some.inj (E.2.2.2.2.1.symm.trans hown2)
    have h6 := u_fits hfc hkC hkind (Or.inr hlay) hi (c3 k hk) hn hfit
    refine W.putFinK (g := F0 m pc lr _) E.1 E.2.1 E.2.2.2.2.1 (E.2.2.2.2.2.1 _ hw) hi hst hcf (E.2.2.2.2.2.2.2.2.2.2.2.2.trans hin2) (by rw [q2]; exact h6) q1 q3 (by rw [hsl]; exact k2_hasslot (q4 k hk)) rfl rfl d fun H' e1 e2 e3 => ?_
    rw [hsl] at e1 ⊢
    exact fin H' e1 e2 e3
theorem up2_row {α : Type} {f : Nat → Nat → α} {q k : Nat} {v : α} {r : Nat} (h : r ≠ q) : up2 f q k v r = f r := by funext j; simp [up2, h]
theorem fv_sI {G : mG} {M : mM} {ty : FieldType} {q k j : Nat} {x : Int32} (h : j ≠ k) : fv G (sI M q k x) ty q j = fv G M ty q j := by
  cases ty <;> simp [fv, gI_sI, gJ_sI, gR_sI, up2, h]
theorem fv_sJ {G : mG} {M : mM} {ty : FieldType} {q k j : Nat} {x : Int64} (h : j ≠ k) : fv G (sJ M q k x) ty q j = fv G M ty q j := by
  cases ty <;> simp [fv, gI_sJ, gJ_sJ, gR_sJ, up2, h]
theorem fv_sR {G : mG} {M : mM} {ty : FieldType} {q k j : Nat} {x : Option Nat} (h : j ≠ k) : fv G (sR M q k x) ty q j = fv G M ty q j := by
  cases ty <;> simp [fv, gI_sR, gJ_sR, gR_sR, up2, h]
theorem v_putI {q idx : Nat} {x : Int32} (c k : Nat) (d : decode (yb y) pc = .ok (.putfield idx, 3)) (hw : Cond.fieldLink (yy y).cls idx (fN c k).1 (fN c k).2.1 (fN c k).2.2.1 ∈ aw) (hT : gT M q = .inl c) (h : (c < 13 ∧ k < cN c) ∧ fT c k = .int ∧ (fN c k).2.2.2 = false) (kk : V G y D kc ks Q X (pc + 3) ls st (sI M q k x)) : V G y D kc ks Q X pc ls (.int x :: .ref q :: st) M :=
  v_putf (v := .int x) (M' := sI M q k x) d hw hT h.1.1 h.1.2 (Or.inl h.2.2) (by rw [h.2.1]; rfl) (by rw [h.2.1]; rfl) rfl rfl (fun r hr => up2_row hr) (fun _ _ => rfl) (fun _ _ => rfl) (by rw [h.2.1]; show Value.int (up2 _ _ _ _ _ _) = _; rw [up2_s]; rfl) (fun j hj => fv_sI hj) kk
theorem v_putZ {q idx : Nat} {x : Int32} (c k : Nat) (d : decode (yb y) pc = .ok (.putfield idx, 3)) (hw : Cond.fieldLink (yy y).cls idx (fN c k).1 (fN c k).2.1 (fN c k).2.2.1 ∈ aw) (hT : gT M q = .inl c) (h : (c < 13 ∧ k < cN c) ∧ fT c k = .boolean ∧ (fN c k).2.2.2 = false) (hx : x = 0 ∨ x = 1) (kk : V G y D kc ks Q X (pc + 3) ls st (sI M q k x)) : V G y D kc ks Q X pc ls (.int x :: .ref q :: st) M :=
  v_putf (v := .int x) (M' := sI M q k x) d hw hT h.1.1 h.1.2 (Or.inl h.2.2) (by rw [h.2.1]; rcases hx with hx | hx <;> subst hx <;> rfl) (by rw [h.2.1]; rcases hx with hx | hx <;> subst hx <;> rfl) rfl rfl (fun r hr => up2_row hr) (fun _ _ => rfl) (fun _ _ => rfl) (by rw [h.2.1]; show Value.int (up2 _ _ _ _ _ _) = _; rw [up2_s]; rfl) (fun j hj => fv_sI hj) kk
theorem v_putJ {q idx : Nat} {x : Int64} (c k : Nat) (d : decode (yb y) pc = .ok (.putfield idx, 3)) (hw : Cond.fieldLink (yy y).cls idx (fN c k).1 (fN c k).2.1 (fN c k).2.2.1 ∈ aw) (hT : gT M q = .inl c) (h : (c < 13 ∧ k < cN c) ∧ fT c k = .long ∧ (fN c k).2.2.2 = false) (kk : V G y D kc ks Q X (pc + 3) ls st (sJ M q k x)) : V G y D kc ks Q X pc ls (.long x :: .ref q :: st) M :=
  v_putf (v := .long x) (M' := sJ M q k x) d hw hT h.1.1 h.1.2 (Or.inl h.2.2) (by rw [h.2.1]; rfl) (by rw [h.2.1]; rfl) rfl rfl (fun _ _ => rfl) (fun r hr => up2_row hr) (fun _ _ => rfl) (by rw [h.2.1]; show Value.long (up2 _ _ _ _ _ _) = _; rw [up2_s]; rfl) (fun j hj => fv_sJ hj) kk
theorem v_putR {q idx a : Nat} (c k : Nat) (d : decode (yb y) pc = .ok (.putfield idx, 3)) (hw : Cond.fieldLink (yy y).cls idx (fN c k).1 (fN c k).2.1 (fN c k).2.2.1 ∈ aw) (hT : gT M q = .inl c) (h : (c < 13 ∧ k < cN c) ∧ isO (fT c k) = true) (hfin : (fN c k).2.2.2 = false ∨ ((fN c k).2.2.2 = true ∧ (yy y).name = "<init>" ∧ (fN c k).1 = (yy y).cls)) (kk : V G y D kc ks Q X (pc + 3) ls st (sR M q k (some a))) : V G y D kc ks Q X pc ls (.ref a :: .ref q :: st) M := by
  have hh := h.2
  refine v_putf (v := .ref a) (M' := sR M q k (some a)) d hw hT h.1.1 h.1.2 hfin ?_ ?_ rfl rfl (fun _ _ => rfl) (fun _ _ => rfl) (fun r hr => up2_row hr) (by rw [fv_O hh, gR_sR, up2_s]; rfl) (fun j hj => fv_sR hj) kk
  · cases ht : fT c k <;> simp [ht, isO] at hh <;> rfl
  · cases ht : fT c k <;> simp [ht, isO] at hh <;> rfl
end VH
