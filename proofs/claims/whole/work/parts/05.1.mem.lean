/-! ===== the memory as the proof sees it: a size, a shape for each cell, whole numbers, long ones, references ===== -/
abbrev mM : Type := Nat × (Nat → Nat ⊕ (Nat × Nat)) × (Nat → Nat → Int32) × (Nat → Nat → Int64) × (Nat → Nat → Option Nat)
def gz (M : mM) : Nat := M.1
def gT (M : mM) : Nat → Nat ⊕ (Nat × Nat) := M.2.1
def gI (M : mM) : Nat → Nat → Int32 := M.2.2.1
def gJ (M : mM) : Nat → Nat → Int64 := M.2.2.2.1
def gR (M : mM) : Nat → Nat → Option Nat := M.2.2.2.2
def up2 {α : Type} (f : Nat → Nat → α) (q k : Nat) (v : α) : Nat → Nat → α := fun a b => if a = q ∧ b = k then v else f a b
def sI (M : mM) (q k : Nat) (v : Int32) : mM := (M.1, M.2.1, up2 M.2.2.1 q k v, M.2.2.2)
def sJ (M : mM) (q k : Nat) (v : Int64) : mM := (M.1, M.2.1, M.2.2.1, up2 M.2.2.2.1 q k v, M.2.2.2.2)
def sR (M : mM) (q k : Nat) (v : Option Nat) : mM := (M.1, M.2.1, M.2.2.1, M.2.2.2.1, up2 M.2.2.2.2 q k v)
/-- a new cell of a shape: all 0 and null -/
def nw (M : mM) (sh : Nat ⊕ (Nat × Nat)) : mM := (M.1 + 1, (fun q => if q = M.1 then sh else M.2.1 q), (fun q k => if q = M.1 then 0 else M.2.2.1 q k), (fun q k => if q = M.1 then 0 else M.2.2.2.1 q k), (fun q k => if q = M.1 then none else M.2.2.2.2 q k))
/-- cells that nobody will use again -/
def gapM (M : mM) (z : Nat) : mM := (z, (fun q => if M.1 ≤ q then .inr (99, 0) else M.2.1 q), M.2.2)
theorem up2_s {α : Type} (f : Nat → Nat → α) (q k : Nat) (v : α) : up2 f q k v q k = v := by simp [up2]
theorem up2_q {α : Type} (f : Nat → Nat → α) {q k a b : Nat} (v : α) (h : a ≠ q) : up2 f q k v a b = f a b := by simp [up2, h]
theorem up2_k {α : Type} (f : Nat → Nat → α) {q k a b : Nat} (v : α) (h : b ≠ k) : up2 f q k v a b = f a b := by simp [up2, h]
theorem gz_sI (M : mM) (q k : Nat) (v : Int32) : gz (sI M q k v) = gz M := rfl
theorem gT_sI (M : mM) (q k : Nat) (v : Int32) : gT (sI M q k v) = gT M := rfl
theorem gJ_sI (M : mM) (q k : Nat) (v : Int32) : gJ (sI M q k v) = gJ M := rfl
theorem gR_sI (M : mM) (q k : Nat) (v : Int32) : gR (sI M q k v) = gR M := rfl
theorem gI_sI (M : mM) (q k : Nat) (v : Int32) : gI (sI M q k v) = up2 (gI M) q k v := rfl
theorem gz_sJ (M : mM) (q k : Nat) (v : Int64) : gz (sJ M q k v) = gz M := rfl
theorem gT_sJ (M : mM) (q k : Nat) (v : Int64) : gT (sJ M q k v) = gT M := rfl
theorem gI_sJ (M : mM) (q k : Nat) (v : Int64) : gI (sJ M q k v) = gI M := rfl
theorem gR_sJ (M : mM) (q k : Nat) (v : Int64) : gR (sJ M q k v) = gR M := rfl
theorem gJ_sJ (M : mM) (q k : Nat) (v : Int64) : gJ (sJ M q k v) = up2 (gJ M) q k v := rfl
theorem gz_sR (M : mM) (q k : Nat) (v : Option Nat) : gz (sR M q k v) = gz M := rfl
theorem gT_sR (M : mM) (q k : Nat) (v : Option Nat) : gT (sR M q k v) = gT M := rfl
theorem gI_sR (M : mM) (q k : Nat) (v : Option Nat) : gI (sR M q k v) = gI M := rfl
theorem gJ_sR (M : mM) (q k : Nat) (v : Option Nat) : gJ (sR M q k v) = gJ M := rfl
theorem gR_sR (M : mM) (q k : Nat) (v : Option Nat) : gR (sR M q k v) = up2 (gR M) q k v := rfl
/-! ===== the machine behind it ===== -/
/-- the classes' numbers, their fields' places, the array classes, the heap at the start, where the constants lie -/
abbrev mG : Type := (Nat → ClassId) × (Nat → Nat → Nat) × (Nat → ClassId) × Heap × (Nat → Nat)
def b0 (G : mG) : Nat := G.2.2.2.1.size
def al (G : mG) (q : Nat) : Nat := if q < 100 then G.2.2.2.2 q else b0 G + (q - 100)
def aV (G : mG) (v : Value) : Value := match v with
  | .ref a => .ref (al G a)
  | v => v
def fv (G : mG) (M : mM) (ty : FieldType) (q k : Nat) : Value := match ty with
  | .long => .long (gJ M q k)
  | .object _ => va_rf ((gR M q k).map (al G))
  | .array _ => va_rf ((gR M q k).map (al G))
  | _ => .int (gI M q k)
def cok (G : mG) (M : mM) (q : Nat) (H : Heap) : Prop := match gT M q with
  | .inl c => c < 13 → t_OB (al G q) (G.1 c) (cN c) (G.2.1 c) H (fun k => fv G M (fT c k) q k)
  | .inr (t, n) => t < 8 → H[al G q]? = some (arrV (G.2.2.1 t) n (fun j => fv G M (eT t) q j))
def Rl (G : mG) (M : mM) (H : Heap) : Prop := 100 ≤ gz M ∧ H.size + 100 = b0 G + gz M ∧ (∀ q, q < b0 G → H[q]? = G.2.2.2.1[q]?) ∧ (∀ q, 100 ≤ q → q < gz M → cok G M q H) ∧ ∀ q, (q < 100 ∨ gz M ≤ q) → gT M q = .inr (99, 0)
/-- the locals by their places; a long's second half is none -/
def lz (i : Nat) (ls : List (Option Value)) : List (Nat × Value) := match ls with
  | [] => []
  | some v :: t => (i, v) :: lz (i + 1) t
  | none :: t => lz (i + 1) t
def sL (k : Nat) (v : Option Value) (ls : List (Option Value)) : List (Option Value) := match k, ls with
  | 0, [] => [v]
  | 0, _ :: t => v :: t
  | k + 1, [] => none :: sL k v []
  | k + 1, h :: t => h :: sL k v t
def isL (v : Option Value) : Bool := match v with
  | some (.long _) => true
  | some (.double _) => true
  | _ => false
/-- no long stands with its first half just ahead of k -/
def lok (k : Nat) (ls : List (Option Value)) : Bool := match k, ls with
  | 0, _ => true
  | _, [] => true
  | 1, h :: _ => !isL h
  | k + 2, _ :: t => lok (k + 1) t
def lat (k : Nat) (ls : List (Option Value)) : Option Value := match k, ls with
  | _, [] => none
  | 0, h :: _ => h
  | k + 1, _ :: t => lat k t
def lk (G : mG) (n : Nat) (ls : List (Option Value)) (lr : Array Slot) : Prop := lv_has lr n ((lz 0 ls).map (fun q => (q.1, aV G q.2)))
theorem lz_at : ∀ (ls : List (Option Value)) (i k : Nat) (v : Value), lat k ls = some v → (i + k, v) ∈ lz i ls := by
  intro ls
  induction ls with
  | nil => intro i k v h; simp [lat] at h
  | cons a t ih =>
    intro i k v h
    cases k with
    | zero =>
      simp only [lat] at h
      subst h
      simp [lz]
    | succ k =>
      have h1 := ih (i + 1) k v (by simpa [lat] using h)
      rw [show i + 1 + k = i + (k + 1) by omega] at h1
      cases a with
      | none => simpa [lz] using h1
      | some w => simp [lz, h1]
theorem lz_ge : ∀ (ls : List (Option Value)) (i : Nat) (q : Nat × Value), q ∈ lz i ls → i ≤ q.1 := by
  intro ls
  induction ls with
  | nil => intro i q h; simp [lz] at h
  | cons a t ih =>
    intro i q h
    cases a with
    | none => have := ih (i + 1) q (by simpa [lz] using h); omega
    | some w =>
      simp only [lz, List.mem_cons] at h
      rcases h with h | h
      · subst h; simp
      · have := ih (i + 1) q h; omega
theorem isL_cat {v : Value} (h : isL (some v) = false) : v.category = 1 := by
  cases v <;> simp [isL, Value.category] at h ⊢
theorem lz_set : ∀ (ls : List (Option Value)) (i k : Nat) (v : Value), lok k ls = true → ∀ q ∈ lz i (sL k (some v) ls), q = (i + k, v) ∨ (q ∈ lz i ls ∧ q.1 ≠ i + k ∧ ¬ (q.1 + 1 = i + k ∧ q.2.category = 2)) := by
  intro ls
  induction ls with
  | nil =>
    intro i k
    induction k generalizing i with
    | zero => intro v _ q h; simp [sL, lz] at h; exact Or.inl (by simpa using h)
    | succ k ih =>
      intro v _ q h
      simp only [sL, lz] at h
      rcases ih (i + 1) v (by cases k <;> simp [lok]) q h with h1 | h1
      · left; rw [h1]; congr 1; omega
      · exact absurd h1.1 (by simp [lz])
  | cons a t ih =>
    intro i k v hk q h
    cases k with
    | zero =>
      simp only [sL, lz, List.mem_cons] at h
      rcases h with h | h
      · exact Or.inl h
      · right
        have := lz_ge t (i + 1) q h
        refine ⟨?_, by omega, by omega⟩
        cases a <;> simp [lz, h]
    | succ k =>
      have hk' : lok k t = true := by
        cases k with
        | zero => simp [lok]
        | succ k => simpa [lok] using hk
      have key : q ∈ lz (i + 1) (sL k (some v) t) → q = (i + (k + 1), v) ∨ (q ∈ lz i (a :: t) ∧ q.1 ≠ i + (k + 1) ∧ ¬ (q.1 + 1 = i + (k + 1) ∧ q.2.category = 2)) := by
        intro hq
        rcases ih (i + 1) k v hk' q hq with h1 | h1
        · left; rw [h1]; congr 1; omega
        · right
          refine ⟨?_, by omega, by rw [show i + (k + 1) = i + 1 + k by omega]; exact h1.2.2⟩
          cases a <;> simp [lz, h1.1]
      cases a with
      | none => exact key (by simpa [sL, lz] using h)
      | some w =>
        simp only [sL, lz, List.mem_cons] at h
        rcases h with h | h
        · right
          subst h
          refine ⟨by simp [lz], by simp, ?_⟩
          rintro ⟨h1, h2⟩
          have : k = 0 := by simp at h1; omega
          subst this
          have := isL_cat (v := w) (by simpa [lok] using hk)
          simp at h2
          omega
        · exact key h
theorem lz_set2 : ∀ (ls : List (Option Value)) (i k : Nat), ∀ q ∈ lz i (sL k none ls), q ∈ lz i ls ∧ q.1 ≠ i + k := by
  intro ls
  induction ls with
  | nil =>
    intro i k
    induction k generalizing i with
    | zero => intro q h; simp [sL, lz] at h
    | succ k ih =>
      intro q h
      simp only [sL, lz] at h
      exact absurd (ih (i + 1) q h).1 (by simp [lz])
  | cons a t ih =>
    intro i k q h
    cases k with
    | zero =>
      simp only [sL, lz] at h
      have := lz_ge t (i + 1) q h
      refine ⟨?_, by omega⟩
      cases a <;> simp [lz, h]
    | succ k =>
      have key : q ∈ lz (i + 1) (sL k none t) → q ∈ lz i (a :: t) ∧ q.1 ≠ i + (k + 1) := by
        intro hq
        have h1 := ih (i + 1) k q hq
        refine ⟨?_, by omega⟩
        cases a <;> simp [lz, h1.1]
      cases a with
      | none => exact key (by simpa [sL, lz] using h)
      | some w =>
        simp only [sL, lz, List.mem_cons] at h
        rcases h with h | h
        · subst h; exact ⟨by simp [lz], by simp⟩
        · exact key h
theorem aV_cat (G : mG) (v : Value) : (aV G v).category = v.category := by cases v <;> rfl
theorem lk_at {G : mG} {n : Nat} {ls : List (Option Value)} {lr : Array Slot} (h : lk G n ls lr) {k : Nat} {v : Value} (hk : lat k ls = some v) : lr[k]? = some (.val (aV G v)) := by
  have h1 := lz_at ls 0 k v hk
  rw [Nat.zero_add] at h1
  exact h.2.2 (k, aV G v) (List.mem_map.mpr ⟨(k, v), h1, rfl⟩)
theorem lk_set1 {G : mG} {n : Nat} {ls : List (Option Value)} {lr : Array Slot} {k : Nat} {v : Value} (hk : lok k ls = true) (h : lv_has lr n ((k, aV G v) :: ((lz 0 ls).map (fun q => (q.1, aV G q.2))).filter (fun q => !(q.1 == k) && !(q.1 + 1 == k && q.2.category == 2)))) : lk G n (sL k (some v) ls) lr := by
  refine ⟨h.1, h.2.1, fun q hq => h.2.2 q ?_⟩
  obtain ⟨z, hz, rfl⟩ := List.mem_map.mp hq
  rcases lz_set ls 0 k v hk z hz with h1 | ⟨h1, h2, h3⟩
  · rw [h1]; simp
  · refine List.mem_cons_of_mem _ (List.mem_filter.mpr ⟨List.mem_map.mpr ⟨z, h1, rfl⟩, ?_⟩)
    simp only [Nat.zero_add] at h2 h3
    simp only [aV_cat, Bool.and_eq_true, Bool.not_eq_true', beq_eq_false_iff_ne, Bool.and_eq_false_iff]
    refine ⟨h2, ?_⟩
    by_cases h4 : z.1 + 1 = k
    · right; exact fun h5 => h3 ⟨h4, h5⟩
    · left; exact h4
theorem lk_set2 {G : mG} {n : Nat} {ls : List (Option Value)} {lr : Array Slot} {k : Nat} {v : Value} (hk : lok k ls = true) (h : lv_has lr n ((k, aV G v) :: ((lz 0 ls).map (fun q => (q.1, aV G q.2))).filter (fun q => !(q.1 == k) && (!(q.1 == k + 1) && !(q.1 + 1 == k && q.2.category == 2))))) : lk G n (sL (k + 1) none (sL k (some v) ls)) lr := by
  refine ⟨h.1, h.2.1, fun q hq => h.2.2 q ?_⟩
  obtain ⟨z, hz, rfl⟩ := List.mem_map.mp hq
  obtain ⟨hz, h0⟩ := lz_set2 _ 0 (k + 1) z hz
  rcases lz_set ls 0 k v hk z hz with h1 | ⟨h1, h2, h3⟩
  · rw [h1]; simp
  · refine List.mem_cons_of_mem _ (List.mem_filter.mpr ⟨List.mem_map.mpr ⟨z, h1, rfl⟩, ?_⟩)
    simp only [Nat.zero_add] at h0 h2 h3
    simp only [aV_cat, Bool.and_eq_true, Bool.not_eq_true', beq_eq_false_iff_ne, Bool.and_eq_false_iff]
    refine ⟨h2, h0, ?_⟩
    by_cases h4 : z.1 + 1 = k
    · right; exact fun h5 => h3 ⟨h4, h5⟩
    · left; exact h4
