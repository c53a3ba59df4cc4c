/-! ===== arrays, new cells ===== -/
theorem tys_at (G : mG) (t : Nat) (h : t < 8) : (tys G)[t]? = some (G.2.2.1 t, eT t) := by
  rcases (show t = 0 ∨ t = 1 ∨ t = 2 ∨ t = 3 ∨ t = 4 ∨ t = 5 ∨ t = 6 ∨ t = 7 by omega) with h | h | h | h | h | h | h | h <;> subst h <;> rfl
theorem KK.arr {G : mG} {s : State} (h : KK G s) {t : Nat} (ht : t < 8) (n : Nat) (z : Nat → Value) : s.isArrayOf (arrV (G.2.2.1 t) n z) (eT t) := (h.1.2 t _ (tys_at G t ht)).1 n z
theorem KK.ra {G : mG} {s : State} (h : KK G s) {t : Nat} (ht : t < 8) : va_RA s (G.2.2.1 t) (eT t) := (h.1.2 t _ (tys_at G t ht)).2
theorem vp_in_c {i : Int32} {n : Nat} (h : vp_in i n) {cA : ClassId} {z : Nat → Value} : ¬ (i < 0 ∨ (arrV cA n z).slots.size ≤ i.toNatClampNeg) := by rw [arrV_size]; exact h
theorem vp_in_lt {i : Int32} {n : Nat} (h : vp_in i n) : i.toNatClampNeg < n := Nat.not_le.mp fun q => h (Or.inr q)
theorem Rl.new {G : mG} {M : mM} {H H' : Heap} {sh : Nat ⊕ (Nat × Nat)} (h : Rl G M H) (hs : H'.size = H.size + 1) (ho : ∀ r, r < H.size → H'[r]? = H[r]?) (hc : cok G (nw M sh) (gz M) H') : Rl G (nw M sh) H' := by
  obtain ⟨h0, h1, h2, h3, h4⟩ := h
  have hz : gz (nw M sh) = gz M + 1 := rfl
  refine ⟨by rw [hz]; omega, by rw [hz, hs]; omega, fun r hr => ?_, fun r h5 h6 => ?_, fun r hr => ?_⟩
  · rw [ho r (by omega)]; exact h2 r hr
  · by_cases e : r = gz M
    · subst e; exact hc
    · rw [hz] at h6
      have h7 := h3 r h5 (by omega)
      have e2 : H'[al G r]? = H[al G r]? := ho _ (by rw [al_ge h5]; omega)
      have hT : gT (nw M sh) r = gT M r := if_neg e
      have e3 : ∀ ty k, fv G (nw M sh) ty r k = fv G M ty r k := by
        intro ty k
        have a1 : gI (nw M sh) r k = gI M r k := if_neg e
        have a2 : gJ (nw M sh) r k = gJ M r k := if_neg e
        have a3 : gR (nw M sh) r k = gR M r k := if_neg e
        unfold fv
        rw [a1, a2, a3]
      unfold cok at h7 ⊢
      rw [hT]
      cases hsh : gT M r with
      | inl c =>
        rw [hsh] at h7
        simp only at h7 ⊢
        intro hc13
        obtain ⟨cell, g1, g2⟩ := h7 hc13
        refine ⟨cell, by rw [e2]; exact g1, g2.1, g2.2.1, fun k hk => ?_⟩
        show cell.slots[G.2.1 c k]? = some (fv G (nw M sh) (fT c k) r k)
        rw [e3]; exact g2.2.2 k hk
      | inr tn =>
        obtain ⟨t, n⟩ := tn
        rw [hsh] at h7
        simp only at h7 ⊢
        intro ht8
        rw [e2, h7 ht8]
        simp only [e3]
  · show (if r = M.1 then sh else M.2.1 r) = _
    rw [hz] at hr
    rw [if_neg (by have : M.1 = gz M := rfl; omega)]
    exact h4 r (by omega)
theorem nw_T (M : mM) (sh : Nat ⊕ (Nat × Nat)) : gT (nw M sh) (gz M) = sh := by show (if gz M = M.1 then sh else _) = sh; exact if_pos rfl
theorem nw_To {M : mM} {sh : Nat ⊕ (Nat × Nat)} {q : Nat} (h : q ≠ gz M) : gT (nw M sh) q = gT M q := by show (if q = M.1 then sh else _) = _; exact if_neg h
theorem nw_I {M : mM} {sh : Nat ⊕ (Nat × Nat)} (q k : Nat) : gI (nw M sh) q k = if q = gz M then 0 else gI M q k := rfl
theorem nw_J {M : mM} {sh : Nat ⊕ (Nat × Nat)} (q k : Nat) : gJ (nw M sh) q k = if q = gz M then 0 else gJ M q k := rfl
theorem nw_R {M : mM} {sh : Nat ⊕ (Nat × Nat)} (q k : Nat) : gR (nw M sh) q k = if q = gz M then none else gR M q k := rfl
theorem nw_z (M : mM) (sh : Nat ⊕ (Nat × Nat)) : gz (nw M sh) = gz M + 1 := rfl
/-- a type that we have: its first value is what a new cell shows -/
def okT (t : FieldType) : Bool := match t with
  | .float => false
  | .double => false
  | _ => true
theorem fv_nw {G : mG} {M : mM} {sh : Nat ⊕ (Nat × Nat)} {ty : FieldType} (h : okT ty = true) (k : Nat) : fv G (nw M sh) ty (gz M) k = defaultValue ty := by
  have a1 : gI (nw M sh) (gz M) k = 0 := if_pos rfl
  have a2 : gJ (nw M sh) (gz M) k = 0 := if_pos rfl
  have a3 : gR (nw M sh) (gz M) k = none := if_pos rfl
  cases ty <;> simp [okT] at h <;> simp [fv, a1, a2, a3, defaultValue, va_rf]
theorem eT_ok (t : Nat) : okT (eT t) = true := by unfold eT; split <;> rfl
def clT (c : Nat) : Bool := (List.range (cN c)).all (fun k => okT (fT c k))
theorem clT_ok : ∀ c, c < 13 → ∀ k, k < cN c → okT (fT c k) = true := by
  have h : (List.range 13).all clT = true := by decide +kernel
  intro c hc k hk
  have h1 := List.all_eq_true.mp h c (List.mem_range.mpr hc)
  exact List.all_eq_true.mp h1 k (List.mem_range.mpr hk)
theorem al_gz {G : mG} {M : mM} {H : Heap} (h : Rl G M H) : al G (gz M) = H.size := by
  rw [al_ge h.1]; have := h.2.1; have := h.1; omega
section VA
variable {G : mG} {y : mY} {D kc ks : Nat} {Q : Option Value → mM → Prop} {X : String → mM → Prop} {pc : Nat} {ls : List (Option Value)} {st : List Value} {M : mM}
theorem v_iald {q n : Nat} {i : Int32} (d : decode (yb y) pc = .ok (.iaload, 1)) (hT : gT M q = .inr (0, n)) (hi : vp_in i n) (kk : V G y D kc ks Q X (pc + 1) ls (.int (gI M q i.toNatClampNeg) :: st) M) : V G y D kc ks Q X pc ls (.int i :: .ref q :: st) M := by
  intro p l e s m args below meth cd H locs cells slots mc ms lr E hl hR hf hc hs
  obtain ⟨g1, g2, g3⟩ := hR.arr hT (by omega)
  exact W.iald (g := F0 m pc lr _) E.1 E.2.1 g3 (E.2.2.2.2.2.2.2.1.arr (by omega) _ _) (fun h => by cases h) (vp_in_c hi) (arrV_read _ _ (vp_in_lt hi)) rfl rfl d (kk p l e s m args below meth cd H locs cells slots mc ms lr E hl hR hf hc hs)
theorem v_lald {q n : Nat} {i : Int32} (d : decode (yb y) pc = .ok (.laload, 1)) (hT : gT M q = .inr (1, n)) (hi : vp_in i n) (kk : V G y D kc ks Q X (pc + 1) ls (.long (gJ M q i.toNatClampNeg) :: st) M) : V G y D kc ks Q X pc ls (.int i :: .ref q :: st) M := by
  intro p l e s m args below meth cd H locs cells slots mc ms lr E hl hR hf hc hs
  obtain ⟨g1, g2, g3⟩ := hR.arr hT (by omega)
  exact W.lald (g := F0 m pc lr _) E.1 E.2.1 g3 (E.2.2.2.2.2.2.2.1.arr (by omega) _ _) (fun h => by cases h) (vp_in_c hi) (arrV_read _ _ (vp_in_lt hi)) rfl rfl d (kk p l e s m args below meth cd H locs cells slots mc ms lr E hl hR hf hc hs)
theorem v_bald {q n : Nat} {i : Int32} (d : decode (yb y) pc = .ok (.baload, 1)) (hT : gT M q = .inr (2, n)) (hi : vp_in i n) (kk : V G y D kc ks Q X (pc + 1) ls (.int (gI M q i.toNatClampNeg) :: st) M) : V G y D kc ks Q X pc ls (.int i :: .ref q :: st) M := by
  intro p l e s m args below meth cd H locs cells slots mc ms lr E hl hR hf hc hs
  obtain ⟨g1, g2, g3⟩ := hR.arr hT (by omega)
  exact W.bald (g := F0 m pc lr _) E.1 E.2.1 g3 (E.2.2.2.2.2.2.2.1.arr (by omega) _ _) (fun h => by cases h) (vp_in_c hi) (arrV_read _ _ (vp_in_lt hi)) rfl rfl d (kk p l e s m args below meth cd H locs cells slots mc ms lr E hl hR hf hc hs)
theorem v_zald {q n : Nat} {i : Int32} (d : decode (yb y) pc = .ok (.baload, 1)) (hT : gT M q = .inr (3, n)) (hi : vp_in i n) (kk : V G y D kc ks Q X (pc + 1) ls (.int (gI M q i.toNatClampNeg) :: st) M) : V G y D kc ks Q X pc ls (.int i :: .ref q :: st) M := by
  intro p l e s m args below meth cd H locs cells slots mc ms lr E hl hR hf hc hs
  obtain ⟨g1, g2, g3⟩ := hR.arr hT (by omega)
  exact W.zald (g := F0 m pc lr _) E.1 E.2.1 g3 (E.2.2.2.2.2.2.2.1.arr (by omega) _ _) (fun h => by cases h) (vp_in_c hi) (arrV_read _ _ (vp_in_lt hi)) rfl rfl d (kk p l e s m args below meth cd H locs cells slots mc ms lr E hl hR hf hc hs)
theorem eT_O {t : Nat} (h : 4 ≤ t) : ∃ C, eT t = .object C := by
  unfold eT; split <;> first | omega | exact ⟨_, rfl⟩
theorem v_aald {q t n : Nat} {i : Int32} (a : Nat) (d : decode (yb y) pc = .ok (.aaload, 1)) (hT : gT M q = .inr (t, n)) (ht : 4 ≤ t ∧ t < 8) (hi : vp_in i n) (hv : gR M q i.toNatClampNeg = some a) (kk : V G y D kc ks Q X (pc + 1) ls (.ref a :: st) M) : V G y D kc ks Q X pc ls (.int i :: .ref q :: st) M := by
  intro p l e s m args below meth cd H locs cells slots mc ms lr E hl hR hf hc hs
  obtain ⟨g1, g2, g3⟩ := hR.arr hT ht.2
  obtain ⟨C, hC⟩ := eT_O ht.1
  refine W.aald (g := F0 m pc lr _) (v := .ref (al G a)) E.1 E.2.1 g3 (E.2.2.2.2.2.2.2.1.arr ht.2 _ _) (by rw [hC]; rfl) (fun h => by cases h) (vp_in_c hi) ?_ rfl rfl d (kk p l e s m args below meth cd H locs cells slots mc ms lr E hl hR hf hc hs)
  rw [arrV_read _ _ (vp_in_lt hi), fv_O (by rw [hC]; rfl), hv]
  rfl
theorem v_aaldN {q t n : Nat} {i : Int32} (d : decode (yb y) pc = .ok (.aaload, 1)) (hT : gT M q = .inr (t, n)) (ht : 4 ≤ t ∧ t < 8) (hi : vp_in i n) (hv : gR M q i.toNatClampNeg = none) (kk : V G y D kc ks Q X (pc + 1) ls (.null :: st) M) : V G y D kc ks Q X pc ls (.int i :: .ref q :: st) M := by
  intro p l e s m args below meth cd H locs cells slots mc ms lr E hl hR hf hc hs
  obtain ⟨g1, g2, g3⟩ := hR.arr hT ht.2
  obtain ⟨C, hC⟩ := eT_O ht.1
  refine W.aald (g := F0 m pc lr _) (v := .null) E.1 E.2.1 g3 (E.2.2.2.2.2.2.2.1.arr ht.2 _ _) (by rw [hC]; rfl) (fun h => by cases h) (vp_in_c hi) ?_ rfl rfl d (kk p l e s m args below meth cd H locs cells slots mc ms lr E hl hR hf hc hs)
  rw [arrV_read _ _ (vp_in_lt hi), fv_O (by rw [hC]; rfl), hv]
  rfl
/-- the array's cell behind a store -/
theorem ar_put {G : mG} {M M' : mM} {q t n i : Nat} {v : Value} {H' : Heap} (hT : gT M' q = .inr (t, n)) (e1 : H'[al G q]? = some ((arrV (G.2.2.1 t) n (fun j => fv G M (eT t) q j)).setSlot i v)) (hv : fv G M' (eT t) q i = v) (ho : ∀ j, j ≠ i → fv G M' (eT t) q j = fv G M (eT t) q j) : cok G M' q H' := by
  unfold cok
  rw [hT]
  simp only
  intro _
  rw [e1, arrV_store]
  congr 2
  funext j
  unfold updV
  by_cases e : j = i
  · subst e; simp [hv]
  · simp [e, ho j e]
theorem v_iast {q n : Nat} {i x : Int32} (d : decode (yb y) pc = .ok (.iastore, 1)) (hT : gT M q = .inr (0, n)) (hi : vp_in i n) (kk : V G y D kc ks Q X (pc + 1) ls st (sI M q i.toNatClampNeg x)) : V G y D kc ks Q X pc ls (.int x :: .int i :: .ref q :: st) M := by
  intro p l e s m args below meth cd H locs cells slots mc ms lr E hl hR hf hc hs
  obtain ⟨g1, g2, g3⟩ := hR.arr hT (by omega)
  refine W.iast (g := F0 m pc lr _) E.1 E.2.1 g3 (E.2.2.2.2.2.2.2.1.arr (by omega) _ _) (fun h => by cases h) (vp_in_c hi) rfl rfl d fun H' e1 e2 e3 => ?_
  exact kk p l e s m args below meth cd H' _ cells slots mc ms lr E hl (hR.store g1 rfl rfl e2 e3 (fun r hr => up2_row hr) (fun _ _ => rfl) (fun _ _ => rfl) (ar_put (by exact hT) e1 (by show Value.int (up2 _ _ _ _ _ _) = _; rw [up2_s]) (fun j hj => fv_sI hj))) (fr_put hf g1) hc hs
theorem v_last {q n : Nat} {i : Int32} {x : Int64} (d : decode (yb y) pc = .ok (.lastore, 1)) (hT : gT M q = .inr (1, n)) (hi : vp_in i n) (kk : V G y D kc ks Q X (pc + 1) ls st (sJ M q i.toNatClampNeg x)) : V G y D kc ks Q X pc ls (.long x :: .int i :: .ref q :: st) M := by
  intro p l e s m args below meth cd H locs cells slots mc ms lr E hl hR hf hc hs
  obtain ⟨g1, g2, g3⟩ := hR.arr hT (by omega)
  refine W.last (g := F0 m pc lr _) E.1 E.2.1 g3 (E.2.2.2.2.2.2.2.1.arr (by omega) _ _) (fun h => by cases h) (vp_in_c hi) rfl rfl d fun H' e1 e2 e3 => ?_
  exact kk p l e s m args below meth cd H' _ cells slots mc ms lr E hl (hR.store g1 rfl rfl e2 e3 (fun _ _ => rfl) (fun r hr => up2_row hr) (fun _ _ => rfl) (ar_put (by exact hT) e1 (by show Value.long (up2 _ _ _ _ _ _) = _; rw [up2_s]) (fun j hj => fv_sJ hj))) (fr_put hf g1) hc hs
theorem v_bast {q n : Nat} {i x : Int32} (d : decode (yb y) pc = .ok (.bastore, 1)) (hT : gT M q = .inr (2, n)) (hi : vp_in i n) (kk : V G y D kc ks Q X (pc + 1) ls st (sI M q i.toNatClampNeg x.toInt8.toInt32)) : V G y D kc ks Q X pc ls (.int x :: .int i :: .ref q :: st) M := by
  intro p l e s m args below meth cd H locs cells slots mc ms lr E hl hR hf hc hs
  obtain ⟨g1, g2, g3⟩ := hR.arr hT (by omega)
  refine W.bast (g := F0 m pc lr _) E.1 E.2.1 g3 (E.2.2.2.2.2.2.2.1.arr (by omega) _ _) (fun h => by cases h) (vp_in_c hi) rfl rfl d fun H' e1 e2 e3 => ?_
  exact kk p l e s m args below meth cd H' _ cells slots mc ms lr E hl (hR.store g1 rfl rfl e2 e3 (fun r hr => up2_row hr) (fun _ _ => rfl) (fun _ _ => rfl) (ar_put (by exact hT) e1 (by show Value.int (up2 _ _ _ _ _ _) = _; rw [up2_s]; rfl) (fun j hj => fv_sI hj))) (fr_put hf g1) hc hs
theorem v_zast {q n : Nat} {i x : Int32} (d : decode (yb y) pc = .ok (.bastore, 1)) (hT : gT M q = .inr (3, n)) (hi : vp_in i n) (hx : narrow .boolean (.int x) = .int x) (kk : V G y D kc ks Q X (pc + 1) ls st (sI M q i.toNatClampNeg x)) : V G y D kc ks Q X pc ls (.int x :: .int i :: .ref q :: st) M := by
  intro p l e s m args below meth cd H locs cells slots mc ms lr E hl hR hf hc hs
  obtain ⟨g1, g2, g3⟩ := hR.arr hT (by omega)
  refine W.zast (g := F0 m pc lr _) E.1 E.2.1 g3 (E.2.2.2.2.2.2.2.1.arr (by omega) _ _) (fun h => by cases h) (vp_in_c hi) rfl rfl d fun H' e1 e2 e3 => ?_
  exact kk p l e s m args below meth cd H' _ cells slots mc ms lr E hl (hR.store g1 rfl rfl e2 e3 (fun r hr => up2_row hr) (fun _ _ => rfl) (fun _ _ => rfl) (ar_put (by exact hT) e1 (by rw [hx]; show Value.int (up2 _ _ _ _ _ _) = _; rw [up2_s]) (fun j hj => fv_sI hj))) (fr_put hf g1) hc hs
/-- the class of an array's elements -/
def eC (t : Nat) : Nat := match t with
  | 4 => 8
  | 5 => 7
  | 6 => 6
  | _ => 10
theorem eT_C {t : Nat} (h : 4 ≤ t ∧ t < 8) : eT t = .object (cR (eC t)) ∧ eC t < 13 := by
  rcases (show t = 4 ∨ t = 5 ∨ t = 6 ∨ t = 7 by omega) with h | h | h | h <;> subst h <;> exact ⟨rfl, by decide⟩
theorem v_aast {q t n a : Nat} {i : Int32} (d : decode (yb y) pc = .ok (.aastore, 1)) (hT : gT M q = .inr (t, n)) (ht : 4 ≤ t ∧ t < 8) (hi : vp_in i n) (hv : gT M a = .inl (eC t)) (kk : V G y D kc ks Q X (pc + 1) ls st (sR M q i.toNatClampNeg (some a))) : V G y D kc ks Q X pc ls (.ref a :: .int i :: .ref q :: st) M := by
  intro p l e s m args below meth cd H locs cells slots mc ms lr E hl hR hf hc hs
  obtain ⟨g1, g2, g3⟩ := hR.arr hT ht.2
  obtain ⟨hC, hc13⟩ := eT_C ht
  obtain ⟨-, -, cellV, v1, v2, v3, -⟩ := hR.obj hv hc13
  have hcls := (E.2.2.2.2.2.2.2.1.1.1 (eC t) _ (cls_ok _ hc13).1).2
  have hra := E.2.2.2.2.2.2.2.1.ra ht.2
  rw [hC] at hra
  obtain ⟨kA, comp, k1, k2, k3, -⟩ := hra
  have hcomp : comp = G.1 (eC t) := Option.some.inj (k3.symm.trans hcls.1)
  subst hcomp
  obtain ⟨kC, hkC, -⟩ := hcls.2
  have hlt := vp_in_lt hi
  refine W.aast (g := F0 m pc lr _) E.1 E.2.1 g3 (fun q h => by cases h) (fun h => by cases h) k1 k2 rfl hkC ⟨fun z => hi (Or.inl z), by rw [arrV_size]; exact hlt⟩ v1 (fun q h => by rw [v3] at h; cases h) (by rw [v2]; exact hkC) (by rw [v2]; exact va_assign hcls) rfl rfl d fun H' e1 e2 e3 => ?_
  exact kk p l e s m args below meth cd H' _ cells slots mc ms lr E hl (hR.store g1 rfl rfl e2 e3 (fun _ _ => rfl) (fun _ _ => rfl) (fun r hr => up2_row hr) (ar_put (by exact hT) e1 (by rw [fv_O (by rw [hC]; rfl), gR_sR, up2_s]; rfl) (fun j hj => fv_sR hj))) (fr_put hf g1) hc hs
theorem v_alen {q t n : Nat} (d : decode (yb y) pc = .ok (.arraylength, 1)) (hT : gT M q = .inr (t, n)) (ht : t < 8) (kk : V G y D kc ks Q X (pc + 1) ls (.int (nI n) :: st) M) : V G y D kc ks Q X pc ls (.ref q :: st) M := by
  intro p l e s m args below meth cd H locs cells slots mc ms lr E hl hR hf hc hs
  obtain ⟨g1, g2, g3⟩ := hR.arr hT ht
  exact W.alen (g := F0 m pc lr _) (n := nI n) E.1 E.2.1 g3 (E.2.2.2.2.2.2.2.1.arr ht _ _) (by rw [arrV_size]; rfl) rfl rfl d (kk p l e s m args below meth cd H locs cells slots mc ms lr E hl hR hf hc hs)
/-- a new array of numbers -/
theorem v_newa {t N : Nat} {x : Int32} {atype : ArrayType} (d : decode (yb y) pc = .ok (.newarray atype, 2)) (ha : newarray.typeOf atype = eT t ∧ t < 4) (hw : Cond.arrayClass (eT t) ∈ aw) (hx : ¬ x < 0 ∧ x.toNatClampNeg = N ∧ N ≤ 60000) (kk : V G y D kc ks Q X (pc + 2) ls (.ref (gz M) :: st) (nw M (.inr (t, N)))) : V G y D (kc + 1) (ks + N) Q X pc ls (.int x :: st) M := by
  intro p l e s m args below meth cd H locs cells slots mc ms lr E hl hR hf hc hs
  obtain ⟨h0, hN, h6⟩ := hx
  subst hN
  have hcb : ∀ ty, componentBytes ty ≤ 8 := by intro ty; cases ty <;> first | decide | simp [componentBytes]
  refine W.newa (g := F0 m pc lr _) E.1 E.2.1 (atype := atype) (by rw [ha.1]; exact E.2.2.2.2.2.1 _ hw) rfl d rfl h0 (Nat.le_trans (Nat.mul_le_mul h6 (hcb _)) (by decide)) (by show cells + 1 ≤ mc; omega) (by show slots + _ ≤ ms; omega) fun cA kA comp a1 a2 a3 => ?_
  have hra := E.2.2.2.2.2.2.2.1.ra (t := t) (by omega)
  have hcA : cA = G.2.2.1 t := by
    rw [ha.1] at a1
    have : s.vm.findClass ("[" ++ (eT t).toString) = some (G.2.2.1 t) := by
      rcases (show t = 0 ∨ t = 1 ∨ t = 2 ∨ t = 3 by omega) with h | h | h | h <;> subst h <;> exact hra
    exact Option.some.inj (a1.symm.trans this)
  have hsz := al_gz hR
  refine W.eq (g2 := F0 m (pc + 2) lr ((.ref (gz M) :: st : List Value).map (aV G))) (by show F0 m (pc + 2) lr (.ref H.size :: st.map (aV G)) = F0 m (pc + 2) lr (.ref (al G (gz M)) :: st.map (aV G)); rw [hsz]) ?_
  refine kk p l e s m args below meth cd _ locs (cells + 1) _ mc ms lr E hl (hR.new (sh := .inr (t, x.toNatClampNeg)) (by simp) (fun r hr => by rw [Array.getElem?_push]; rw [if_neg (by omega)]) ?_) hf (by omega) (by omega)
  unfold cok
  rw [nw_T]
  simp only
  intro _
  rw [hsz, Array.getElem?_push, if_pos rfl, arrV_new, hcA, ha.1]
  congr 2
  funext j
  exact (fv_nw (eT_ok t) j).symm
theorem KK.ao {G : mG} {s : State} (h : KK G s) {t : Nat} (ht : 4 ≤ t ∧ t < 8) : va_AO (cR (eC t)) s := by
  rcases (show t = 4 ∨ t = 5 ∨ t = 6 ∨ t = 7 by omega) with h1 | h1 | h1 | h1 <;> subst h1
  · exact h.2.1.2.2.1
  · exact h.2.1.2.2.2.1
  · exact h.2.1.2.2.2.2.1
  · exact h.2.1.2.2.2.2.2.1
/-- a new array of references -/
theorem v_anew {t N idx : Nat} {x : Int32} (d : decode (yb y) pc = .ok (.anewarray idx, 3)) (ht : 4 ≤ t ∧ t < 8) (hw : Cond.classLink (yy y).cls idx (cR (eC t)) ∈ aw) (hx : ¬ x < 0 ∧ x.toNatClampNeg = N ∧ N ≤ 60000) (kk : V G y D kc ks Q X (pc + 3) ls (.ref (gz M) :: st) (nw M (.inr (t, N)))) : V G y D (kc + 1) (ks + N) Q X pc ls (.int x :: st) M := by
  intro p l e s m args below meth cd H locs cells slots mc ms lr E hl hR hf hc hs
  obtain ⟨h0, hN, h6⟩ := hx
  subst hN
  obtain ⟨hC, hc13⟩ := eT_C ht
  refine W.anew (g := F0 m pc lr _) E.1 E.2.1 E.2.2.2.2.1 (E.2.2.2.2.2.1 _ hw) (va_AO.use (E.2.2.2.2.2.2.2.1.ao ht)) rfl d rfl h0 (by omega) (by show cells + 1 ≤ mc; omega) (by show slots + _ ≤ ms; omega) fun cA kA comp a1 a2 a3 a4 => ?_
  have hra := E.2.2.2.2.2.2.2.1.ra ht.2
  rw [hC] at hra
  obtain ⟨kA', comp', b1, b2, b3, b4⟩ := hra
  have hcA : cA = G.2.2.1 t := Option.some.inj (a1.symm.trans b4)
  have hsz := al_gz hR
  refine W.eq (g2 := F0 m (pc + 3) lr ((.ref (gz M) :: st : List Value).map (aV G))) (by show F0 m (pc + 3) lr (.ref H.size :: st.map (aV G)) = F0 m (pc + 3) lr (.ref (al G (gz M)) :: st.map (aV G)); rw [hsz]) ?_
  refine kk p l e s m args below meth cd _ locs (cells + 1) _ mc ms lr E hl (hR.new (sh := .inr (t, x.toNatClampNeg)) (by simp) (fun r hr => by rw [Array.getElem?_push]; rw [if_neg (by omega)]) ?_) hf (by omega) (by omega)
  unfold cok
  rw [nw_T]
  simp only
  intro _
  rw [hsz, Array.getElem?_push, if_pos rfl, arrV_new, hcA]
  congr 2
  funext j
  rw [fv_nw (eT_ok t) j, hC]
  rfl
/-- a new object -/
theorem v_new {idx : Nat} (c : Nat) (d : decode (yb y) pc = .ok (.new idx, 3)) (h13 : c < 13) (hw : Cond.classLink (yy y).cls idx (cR c) ∈ aw ∧ Cond.instantiable (cR c) (cN c) ∈ aw ∧ Cond.initialized (cR c) ∈ aw) (kk : V G y D kc ks Q X (pc + 3) ls (.ref (gz M) :: st) (nw M (.inl c))) : V G y D (kc + 1) (ks + cN c) Q X pc ls st M := by
  intro p l e s m args below meth cd H locs cells slots mc ms lr E hl hR hf hc hs
  obtain ⟨c1, c2, c3, c4⟩ := cls_ok c h13
  have hKn := E.2.2.2.2.2.2.2.1.1.1 c _ c1
  refine W.newcK (g := F0 m pc lr _) E.1 E.2.1 E.2.2.2.2.1 (E.2.2.2.2.2.1 _ hw.1) (E.2.2.2.2.2.1 _ hw.2.1) (E.2.2.2.2.2.1 _ hw.2.2) rfl d (by show cells + 1 ≤ mc; omega) (by show slots + _ ≤ ms; omega) hKn.2.1 rfl fun H1 kC hkC e1 z1 o1 => ?_
  have hsz := al_gz hR
  refine W.eq (g2 := F0 m (pc + 3) lr ((.ref (gz M) :: st : List Value).map (aV G))) (by show F0 m (pc + 3) lr (.ref H.size :: st.map (aV G)) = F0 m (pc + 3) lr (.ref (al G (gz M)) :: st.map (aV G)); rw [hsz]) ?_
  refine kk p l e s m args below meth cd _ locs (cells + 1) _ mc ms lr E hl (hR.new (sh := .inl c) z1 (fun r hr => o1 r hr) ?_) hf (by omega) (by omega)
  unfold cok
  rw [nw_T]
  simp only
  intro _
  rw [hsz]
  exact (u_born (fT c) E.2.2.2.2.2.1 c2 hKn hkC e1 c3).to (fun k hk => (fv_nw (clT_ok c h13 k hk) k).symm)
/-- the constructor of java.lang.Object -/
theorem v_objInit {idx q : Nat} (d : decode (yb y) pc = .ok (.invokespecial idx, 3)) (hw : Cond.methodLink (yy y).cls idx Lib.objectInit ∈ aw ∧ Cond.instanceMethod Lib.objectInit ∈ aw ∧ Cond.code Lib.objectInit ⟨#[0xb1]⟩ 1 none ∈ aw) (hD : 1 ≤ D) (hst : (st.map fun v => v.category).sum ≤ 8) (kk : V G y D kc ks Q X (pc + 3) ls st M) : V G y D kc ks Q X pc ls (.ref q :: st) M := by
  intro p l e s m args below meth cd H locs cells slots mc ms lr E hl hR hf hc hs
  have hcat : ((st.map (aV G)).map fun v => v.category) = st.map fun v => v.category := by
    rw [List.map_map]; exact List.map_congr_left (fun v _ => aV_cat G v)
  refine W.objInit (g := F0 m pc lr _) E.1 E.2.1 E.2.2.2.2.1 (E.2.2.2.2.2.1 _ hw.1) (E.2.2.2.2.2.1 _ hw.2.1) (E.2.2.2.2.2.1 _ hw.2.2) rfl (hl.1.trans E.2.2.2.1.symm) rfl d hD ?_ (kk p l e s m args below meth cd H locs cells slots mc ms lr E hl hR hf hc hs)
  rw [hcat]
  show 2 * (F0 m pc lr _).monitorRoom + _ + 12 ≤ 64 * D
  have : (F0 m pc lr (List.map (aV G) (.ref q :: st))).monitorRoom ≤ 1 := by first | exact Nat.le_refl _ | exact Nat.zero_le _
  omega
end VA
