/-! ===== the class: Maker, the lists it tries ===== -/
def cndR (was : Nat → Int32) (rd : Nat) : Nat → Nat → Nat → List (List Nat)
  | 0, _, left => if left = 0 then [[]] else []
  | j + 1, m, left => (List.range' 0 10).flatMap (fun v => if nI v = was m then (if left ≤ j then (cndR was rd j (m + 1) left).map (fun t => v :: t) else []) else if rd.testBit m = true ∧ 1 ≤ left ∧ left - 1 ≤ j then (cndR was rd j (m + 1) (left - 1)).map (fun t => v :: t) else [])
def okR (was : Nat → Int32) (rd : Nat) : Nat → List Nat → Bool
  | _, [] => true
  | m, v :: t => (decide (nI v = was m) || rd.testBit m) && okR was rd (m + 1) t
def chg (was : Nat → Int32) : Nat → List Nat → Nat
  | _, [] => 0
  | m, v :: t => (if nI v = was m then 0 else 1) + chg was (m + 1) t
theorem cnd_s (was : Nat → Int32) (j m left : Nat) : cnd was (j + 1) m left = if j + 1 < left then [] else (List.range' 0 10).flatMap (cndV was j m left) := rfl
theorem cnd_big {was : Nat → Int32} {j m left : Nat} (h : j < left) : cnd was j m left = [] := by
  cases j with
  | zero => exact if_neg (by omega)
  | succ j => rw [cnd_s, if_pos h]
theorem cndR_f {was : Nat → Int32} {rd : Nat} : ∀ j m left, cndR was rd j m left = (cnd was j m left).filter (okR was rd m) := by
  intro j
  induction j with
  | zero =>
    intro m left
    unfold cndR cnd
    split
    · rfl
    · rfl
  | succ j ih =>
    intro m left
    rw [cnd_s]
    have e : ∀ v, (if nI v = was m then (if left ≤ j then (cndR was rd j (m + 1) left).map (fun t => v :: t) else []) else if rd.testBit m = true ∧ 1 ≤ left ∧ left - 1 ≤ j then (cndR was rd j (m + 1) (left - 1)).map (fun t => v :: t) else []) = (cndV was j m left v).filter (okR was rd m) := by
      intro v
      unfold cndV
      by_cases hv : nI v = was m
      · rw [if_pos hv, if_pos hv]
        by_cases hl : left ≤ j
        · rw [if_pos hl, List.filter_map, ih]
          congr 1
          apply List.filter_congr
          intro t _
          show _ = ((decide (nI v = was m) || rd.testBit m) && okR was rd (m + 1) t)
          rw [decide_eq_true hv, Bool.true_or, Bool.true_and]
        · rw [if_neg hl, cnd_big (by omega)]; rfl
      · rw [if_neg hv, if_neg hv]
        by_cases h0 : left = 0
        · rw [if_pos h0, if_neg (by omega)]; rfl
        · rw [if_neg h0]
          by_cases hl : left - 1 ≤ j
          · rw [List.filter_map]
            by_cases hr : rd.testBit m = true
            · rw [if_pos ⟨hr, by omega, hl⟩, ih]
              congr 1
              apply List.filter_congr
              intro t _
              show _ = ((decide (nI v = was m) || rd.testBit m) && okR was rd (m + 1) t)
              rw [hr, Bool.or_true, Bool.true_and]
            · rw [if_neg (fun z => hr z.1)]
              rw [List.filter_eq_nil_iff.mpr (fun t _ => by
                show ¬ ((decide (nI v = was m) || rd.testBit m) && okR was rd (m + 1) t) = true
                rw [decide_eq_false hv, nt hr]; exact fun z => by cases z)]
              rfl
          · rw [if_neg (fun z => hl z.2.2), cnd_big (by omega)]; rfl
    by_cases hj : j + 1 < left
    · rw [if_pos hj]
      unfold cndR
      apply List.flatMap_eq_nil_iff.mpr
      intro v _
      by_cases hv : nI v = was m
      · rw [if_pos hv, if_neg (by omega)]
      · rw [if_neg hv, if_neg (by omega)]
    · rw [if_neg hj, List.filter_flatMap]
      unfold cndR
      congr 1
      funext v
      exact e v
theorem chg_le (was : Nat → Int32) : ∀ (t : List Nat) m, chg was m t ≤ t.length := by
  intro t
  induction t with
  | nil => intro m; exact Nat.le_refl _
  | cons v t ih =>
    intro m
    have := ih (m + 1)
    show (if nI v = was m then 0 else 1) + chg was (m + 1) t ≤ t.length + 1
    split <;> omega
theorem cnd_mem {was : Nat → Int32} : ∀ j m left t, t ∈ cnd was j m left ↔ (t.length = j ∧ (∀ v, v ∈ t → v < 10) ∧ chg was m t = left) := by
  intro j
  induction j with
  | zero =>
    intro m left t
    unfold cnd
    constructor
    · intro h
      split at h
      · rw [List.mem_singleton] at h
        subst h
        exact ⟨rfl, fun v hv => (by cases hv), by rename_i z; exact z.symm⟩
      · cases h
    · rintro ⟨h1, -, h3⟩
      have := List.eq_nil_of_length_eq_zero h1
      subst this
      rw [if_pos (show left = 0 from h3.symm)]
      exact List.mem_singleton.mpr rfl
  | succ j ih =>
    intro m left t
    rw [cnd_s]
    constructor
    · intro h
      split at h
      · cases h
      · rw [List.mem_flatMap] at h
        obtain ⟨v, hv, h⟩ := h
        have hv10 : v < 10 := by
          rw [List.mem_range'] at hv
          obtain ⟨i, hi, e⟩ := hv
          omega
        unfold cndV at h
        split at h
        · rename_i hw
          rw [List.mem_map] at h
          obtain ⟨t', h', rfl⟩ := h
          obtain ⟨a1, a2, a3⟩ := (ih _ _ _).mp h'
          refine ⟨by rw [List.length_cons, a1], fun x hx => ?_, ?_⟩
          · rcases List.mem_cons.mp hx with e | e
            · omega
            · exact a2 x e
          · show (if nI v = was m then 0 else 1) + chg was (m + 1) t' = left
            rw [if_pos hw, a3, Nat.zero_add]
        · rename_i hw
          split at h
          · cases h
          · rw [List.mem_map] at h
            obtain ⟨t', h', rfl⟩ := h
            obtain ⟨a1, a2, a3⟩ := (ih _ _ _).mp h'
            refine ⟨by rw [List.length_cons, a1], fun x hx => ?_, ?_⟩
            · rcases List.mem_cons.mp hx with e | e
              · omega
              · exact a2 x e
            · show (if nI v = was m then 0 else 1) + chg was (m + 1) t' = left
              rw [if_neg hw, a3]; omega
    · rintro ⟨h1, h2, h3⟩
      cases t with
      | nil => cases h1
      | cons v t =>
        have hle := chg_le was (v :: t) m
        rw [h1, h3] at hle
        have hl2 : t.length = j := by rw [List.length_cons] at h1; omega
        rw [if_neg (by omega), List.mem_flatMap]
        refine ⟨v, List.mem_range'.mpr ⟨v, h2 v (List.mem_cons_self), by omega⟩, ?_⟩
        have h3 : (if nI v = was m then 0 else 1) + chg was (m + 1) t = left := h3
        unfold cndV
        by_cases hv : nI v = was m
        · rw [if_pos hv] at h3 ⊢
          exact List.mem_map.mpr ⟨t, (ih _ _ _).mpr ⟨hl2, fun x hx => h2 x (List.mem_cons_of_mem _ hx), by omega⟩, rfl⟩
        · rw [if_neg hv] at h3 ⊢
          rw [if_neg (by omega)]
          exact List.mem_map.mpr ⟨t, (ih _ _ _).mpr ⟨hl2, fun x hx => h2 x (List.mem_cons_of_mem _ hx), by omega⟩, rfl⟩
theorem find_filter {α : Type} {P q : α → Bool} : ∀ (l : List α), (∀ x, x ∈ l → P x = true → q x = true) → (l.filter q).find? P = l.find? P := by
  intro l
  induction l with
  | nil => intro _; rfl
  | cons x l ih =>
    intro h
    have i := ih (fun y hy => h y (List.mem_cons_of_mem _ hy))
    rw [List.filter_cons]
    by_cases hp : P x = true
    · rw [if_pos (h x List.mem_cons_self hp), List.find?_cons_of_pos hp, List.find?_cons_of_pos hp]
    · rw [List.find?_cons_of_neg hp]
      split
      · rw [List.find?_cons_of_neg hp, i]
      · exact i
/-- one mark that no word reads, changed back -/
theorem rev_one {was : Nat → Int32} {rd : Nat} : ∀ (t : List Nat) m, okR was rd m t = false → (∀ v, v ∈ t → v < 10) → (∀ i, i < t.length → ∃ d, d < 10 ∧ was (m + i) = nI d) → ∃ t' : List Nat, t'.length = t.length ∧ (∀ v, v ∈ t' → v < 10) ∧ chg was m t' + 1 = chg was m t ∧ ∀ i, rd.testBit (m + i) = true → t'.getD i 0 = t.getD i 0 := by
  intro t
  induction t with
  | nil => intro m h; cases h
  | cons v t ih =>
    intro m h hv hd
    have h : ((decide (nI v = was m) || rd.testBit m) && okR was rd (m + 1) t) = false := h
    by_cases hb : (decide (nI v = was m) || rd.testBit m) = true
    · rw [hb, Bool.true_and] at h
      obtain ⟨t', a1, a2, a3, a4⟩ := ih (m + 1) h (fun x hx => hv x (List.mem_cons_of_mem _ hx)) (fun i hi => by
        have := hd (i + 1) (by rw [List.length_cons]; omega)
        rw [show m + (i + 1) = m + 1 + i by omega] at this
        exact this)
      refine ⟨v :: t', by rw [List.length_cons, List.length_cons, a1], fun x hx => ?_, ?_, fun i hi => ?_⟩
      · rcases List.mem_cons.mp hx with e | e
        · rw [e]; exact hv v List.mem_cons_self
        · exact a2 x e
      · show (if nI v = was m then 0 else 1) + chg was (m + 1) t' + 1 = (if nI v = was m then 0 else 1) + chg was (m + 1) t
        omega
      · cases i with
        | zero => rfl
        | succ i =>
          rw [List.getD_cons_succ, List.getD_cons_succ]
          exact a4 i (by rw [show m + 1 + i = m + (i + 1) by omega]; exact hi)
    · rw [Bool.or_eq_true, decide_eq_true_eq] at hb
      obtain ⟨d, hd1, hd2⟩ := hd 0 (by rw [List.length_cons]; omega)
      rw [Nat.add_zero] at hd2
      refine ⟨d :: t, rfl, fun x hx => ?_, ?_, fun i hi => ?_⟩
      · rcases List.mem_cons.mp hx with e | e
        · omega
        · exact hv x (List.mem_cons_of_mem _ e)
      · show (if nI d = was m then 0 else 1) + chg was (m + 1) t + 1 = (if nI v = was m then 0 else 1) + chg was (m + 1) t
        rw [if_pos hd2.symm, if_neg (fun z => hb (Or.inl z))]; omega
      · cases i with
        | zero => exact absurd hi (fun z => hb (Or.inr z))
        | succ i => rfl
/-- what the plan knows of what words read -/
def Rdr (M : mM) (p : Nat) (K : Nat → Int32) (rd : Nat) (l1 : Nat → Nat) : Prop :=
  (∀ m v, m < kn K 1 → v ≤ 9 → ∃ d, d ≤ 9 ∧ lby K (nI m) (nI v) (kn K 4) 0 = nI d) ∧ (gI M p 9 = nI rd ∧ rd < 64) ∧
  (∀ f g : Nat → Int32, (∀ m, m < kn K 1 → rd.testBit m = true → f m = g m) → ∀ w, w < kn K 3 → wt K f (-1) w = wt K g (-1) w) ∧
  ∀ w, w < kn K 3 → gI M (p + 4) w = nI (l1 w) - 1 ∧ l1 w ≤ kn K 1 ∧ ∀ f g : Nat → Int32, (∀ m, m < l1 w → f m = g m) → wt K f (-1) w = wt K g (-1) w
def gr0 (K : Nat → Int32) (c rd n : Nat) : Option (List Nat) := (cndR (wasM K c) rd (kn K 1) 0 n).find? (fun t => nwB K (fun i => nI (t.getD i 0)))
def frR (K : Nat → Int32) (c rd : Nat) : Nat → Nat → Option (Nat × List Nat)
  | 0, _ => none
  | i + 1, n => match gr0 K c rd n with
    | some t => some (n, t)
    | none => frR K c rd i (n + 1)
theorem was_digit {M : mM} {p rd : Nat} {K : Nat → Int32} {l1 : Nat → Nat} (hr : Rdr M p K rd l1) (hW : WK K) {c m : Nat} (hc : c < 14) (hm : m < kn K 1) : ∃ d, d < 10 ∧ wasM K c m = nI d := by
  have h6 := hW.p.1.2.2
  have hb := hW.2.2.1.1 (6 * c + m) (by omega)
  have e : K (9 + 6 * c + m) = nI (nb (cur K) (6 * c + m)) := by
    have h := hb.1
    rw [show cur K (6 * c + m) = K (9 + 6 * c + m) from congrArg K (by omega)] at h
    exact h
  unfold wasM lkv
  split
  · rw [e]
    obtain ⟨d, h1, h2⟩ := hr.1 m (nb (cur K) (6 * c + m)) hm hb.2
    exact ⟨d, by omega, h2⟩
  · rw [e]
    exact ⟨_, by omega, rfl⟩
theorem gr_gn {M : mM} {p rd : Nat} {K : Nat → Int32} {l1 : Nat → Nat} (hr : Rdr M p K rd l1) (hW : WK K) {c n : Nat} (hc : c < 14) (hf : ∀ n', n' < n → gn0 K c n' = none) : gr0 K c rd n = gn0 K c n := by
  unfold gr0 gn0
  rw [cndR_f]
  apply find_filter
  intro t ht hP
  cases hk : okR (wasM K c) rd 0 t with
  | true => rfl
  | false =>
    exfalso
    obtain ⟨h1, h2, h3⟩ := (cnd_mem _ _ _ _).mp ht
    obtain ⟨t', a1, a2, a3, a4⟩ := rev_one t 0 hk h2 (fun i hi => by rw [Nat.zero_add]; exact was_digit hr hW hc (by omega))
    have hm : t' ∈ cnd (wasM K c) (kn K 1) 0 (n - 1) := (cnd_mem _ _ _ _).mpr ⟨a1.trans h1, a2, by omega⟩
    have hz := hf (n - 1) (by omega)
    unfold gn0 at hz
    refine List.find?_eq_none.mp hz t' hm ?_
    have e : wset K (fun i => nI (t'.getD i 0)) (-1) = wset K (fun i => nI (t.getD i 0)) (-1) := bset_ext (fun w hw => hr.2.2.1 _ _ (fun m _ hb => by
      show nI (t'.getD m 0) = nI (t.getD m 0)
      rw [a4 m (by rw [Nat.zero_add]; exact hb)]) w hw)
    show nwB K (fun i => nI (t'.getD i 0)) = true
    unfold nwB at hP ⊢
    rw [e]
    exact hP
theorem frR_N {M : mM} {p rd : Nat} {K : Nat → Int32} {l1 : Nat → Nat} (hr : Rdr M p K rd l1) (hW : WK K) {c : Nat} (hc : c < 14) : ∀ i n, (∀ n', n' < n → gn0 K c n' = none) → frR K c rd i n = frN K c i n := by
  intro i
  induction i with
  | zero => intro n _; rfl
  | succ i ih =>
    intro n hf
    unfold frR frN
    rw [gr_gn hr hW hc hf]
    cases hg : gn0 K c n with
    | some t => rfl
    | none => exact ih (n + 1) (fun n' h => by
        by_cases e : n' = n
        · subst e; exact hg
        · exact hf n' (by omega))
