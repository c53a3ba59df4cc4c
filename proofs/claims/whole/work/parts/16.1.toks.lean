/-! ===== a hall's text: its tokens, one after another ===== -/
def rn (p : Nat → Bool) : Nat → Nat → Nat
  | 0, h => h
  | k + 1, h => if p h = true then rn p k (h + 1) else h
theorem rn_ge (p : Nat → Bool) : ∀ k h, h ≤ rn p k h ∧ rn p k h ≤ h + k := by
  intro k
  induction k with
  | zero => intro h; exact ⟨Nat.le_refl _, Nat.le_refl _⟩
  | succ k ih =>
    intro h
    rw [rn]
    split
    · have := ih (h + 1); omega
    · omega
theorem rn_gt (p : Nat → Bool) {k h : Nat} (hp : p h = true) (hk : 1 ≤ k) : h + 1 ≤ rn p k h := by
  obtain ⟨k, rfl⟩ : ∃ j, k = j + 1 := ⟨k - 1, by omega⟩
  rw [rn, if_pos hp]
  exact (rn_ge p k (h + 1)).1
def loB (x : Nat) : Bool := Nat.ble 97 x && Nat.ble x 122
def diB (x : Nat) : Bool := Nat.ble 48 x && Nat.ble x 57
def blB (x : Nat) : Bool := Nat.beq x 32 || Nat.beq x 10
theorem loB_iff {x : Nat} : loB x = true ↔ 97 ≤ x ∧ x ≤ 122 := by unfold loB; rw [Bool.and_eq_true, Nat.ble_eq, Nat.ble_eq]
theorem diB_iff {x : Nat} : diB x = true ↔ 48 ≤ x ∧ x ≤ 57 := by unfold diB; rw [Bool.and_eq_true, Nat.ble_eq, Nat.ble_eq]
theorem blB_iff {x : Nat} : blB x = true ↔ x = 32 ∨ x = 10 := by unfold blB; rw [Bool.or_eq_true, Nat.beq_eq, Nat.beq_eq]
/-- the bytes from s on till e -/
def wl (b : Nat → Nat) (s e : Nat) : List Int32 := (List.range (e - s)).map (fun j => nI (b (s + j)))
/-- the token that they spell -/
def kdW (w : List Int32) (o : Nat) : Nat := ((List.range 29).find? (fun k => decide (stX.getD k [] = w))).getD o
theorem st_inj : ∀ i, i < 30 → ∀ j, j < 30 → stX.getD i [] = stX.getD j [] → i = j := by decide +kernel
theorem kdW_ok (w : List Int32) (o : Nat) : (kdW w o < 29 ∧ stX.getD (kdW w o) [] = w) ∨ (kdW w o = o ∧ ∀ k, k < 29 → stX.getD k [] ≠ w) := by
  unfold kdW
  cases h : (List.range 29).find? (fun k => decide (stX.getD k [] = w)) with
  | none =>
    refine Or.inr ⟨rfl, fun k hk z => ?_⟩
    have := List.find?_eq_none.mp h k (List.mem_range.mpr hk)
    exact this (decide_eq_true z)
  | some j => exact Or.inl ⟨List.mem_range.mp (List.mem_of_find?_eq_some h), of_decide_eq_true (p := stX.getD j [] = w) (List.find?_some (p := fun k => decide (stX.getD k [] = w)) h)⟩
theorem kdW_iff {w : List Int32} {o k : Nat} (ho : 29 ≤ o) (hk : k < 29) : kdW w o = k ↔ stX.getD k [] = w := by
  rcases kdW_ok w o with ⟨a, b⟩ | ⟨a, b⟩
  · exact ⟨fun e => e ▸ b, fun e => st_inj _ (by omega) _ (by omega) (b.trans e.symm)⟩
  · exact ⟨fun e => by omega, fun e => absurd e (b k hk)⟩
theorem wl_len (b : Nat → Nat) (s e : Nat) : (wl b s e).length = e - s := by unfold wl; rw [List.length_map, List.length_range]
theorem wl_iff {b : Nat → Nat} {s e k : Nat} : stX.getD k [] = wl b s e ↔ e - s = stN k ∧ ∀ j, j < stN k → nI (b (s + j)) = stC k j := by
  unfold stN stC
  generalize stX.getD k [] = l
  constructor
  · intro h
    subst h
    rw [wl_len]
    refine ⟨rfl, fun j hj => ?_⟩
    rw [List.getD_eq_getElem?_getD, List.getElem?_eq_getElem (by rw [wl_len]; exact hj)]
    simp [wl]
  · rintro ⟨h1, h2⟩
    refine List.ext_getElem (by rw [wl_len, h1]) (fun j hj hj2 => ?_)
    have := h2 j hj
    rw [List.getD_eq_getElem?_getD, List.getElem?_eq_getElem hj, Option.getD_some] at this
    rw [← this]
    simp [wl]
/-- Z: the bytes and how many; where the token from h on starts, ends -/
def tkS (Z : (Nat → Nat) × Nat) (h : Nat) : Nat := rn (fun i => blB (Z.1 i)) (Z.2 - h) h
def tkE (Z : (Nat → Nat) × Nat) (h : Nat) : Nat :=
  if Z.2 ≤ tkS Z h then tkS Z h
  else if loB (Z.1 (tkS Z h)) = true then rn (fun i => loB (Z.1 i)) (Z.2 - tkS Z h) (tkS Z h)
  else if diB (Z.1 (tkS Z h)) = true then rn (fun i => diB (Z.1 i)) (Z.2 - tkS Z h) (tkS Z h)
  else tkS Z h + 1
def tkK (Z : (Nat → Nat) × Nat) (h : Nat) : Nat :=
  if Z.2 ≤ tkS Z h then 32
  else if loB (Z.1 (tkS Z h)) = true then kdW (wl Z.1 (tkS Z h) (tkE Z h)) 30
  else if diB (Z.1 (tkS Z h)) = true then (if 3 < tkE Z h - tkS Z h then 31 else 29)
  else kdW (wl Z.1 (tkS Z h) (tkE Z h)) 31
def dgV (b : Nat → Nat) (s : Nat) : Nat → Nat
  | 0 => 0
  | k + 1 => dgV b s k * 10 + (b (s + k) - 48)
def tkV (Z : (Nat → Nat) × Nat) (h : Nat) : Nat := dgV Z.1 (tkS Z h) (min 3 (tkE Z h - tkS Z h))
theorem tkS_ge (Z : (Nat → Nat) × Nat) {h : Nat} (hh : h ≤ Z.2) : h ≤ tkS Z h ∧ tkS Z h ≤ Z.2 := by
  have := rn_ge (fun i => blB (Z.1 i)) (Z.2 - h) h
  unfold tkS
  omega
theorem tkE_ge (Z : (Nat → Nat) × Nat) {h : Nat} (hh : h ≤ Z.2) : tkS Z h ≤ tkE Z h ∧ tkE Z h ≤ Z.2 ∧ (tkS Z h < Z.2 → tkS Z h < tkE Z h) := by
  have h1 := tkS_ge Z hh
  unfold tkE
  split
  · omega
  · rename_i h0
    split
    · rename_i hl
      have := rn_ge (fun i => loB (Z.1 i)) (Z.2 - tkS Z h) (tkS Z h)
      have := rn_gt (fun i => loB (Z.1 i)) (k := Z.2 - tkS Z h) (h := tkS Z h) hl (by omega)
      omega
    · split
      · rename_i hl
        have := rn_ge (fun i => diB (Z.1 i)) (Z.2 - tkS Z h) (tkS Z h)
        have := rn_gt (fun i => diB (Z.1 i)) (k := Z.2 - tkS Z h) (h := tkS Z h) hl (by omega)
        omega
      · omega
theorem tkK_le (Z : (Nat → Nat) × Nat) (h : Nat) : tkK Z h ≤ 32 := by
  unfold tkK
  split
  · omega
  · split
    · rcases kdW_ok (wl Z.1 (tkS Z h) (tkE Z h)) 30 with ⟨a, _⟩ | ⟨a, _⟩ <;> omega
    · split
      · split <;> omega
      · rcases kdW_ok (wl Z.1 (tkS Z h) (tkE Z h)) 31 with ⟨a, _⟩ | ⟨a, _⟩ <;> omega
theorem tkK_end (Z : (Nat → Nat) × Nat) (h : Nat) : tkK Z h = 32 ↔ Z.2 ≤ tkS Z h := by
  unfold tkK
  split
  · rename_i h0; exact ⟨fun _ => h0, fun _ => rfl⟩
  · rename_i h0
    refine ⟨fun z => ?_, fun z => absurd z h0⟩
    split at z
    · rcases kdW_ok (wl Z.1 (tkS Z h) (tkE Z h)) 30 with ⟨a, _⟩ | ⟨a, _⟩ <;> omega
    · split at z
      · split at z <;> omega
      · rcases kdW_ok (wl Z.1 (tkS Z h) (tkE Z h)) 31 with ⟨a, _⟩ | ⟨a, _⟩ <;> omega
/-- where the i-th token is looked for -/
def hh (Z : (Nat → Nat) × Nat) : Nat → Nat
  | 0 => 0
  | i + 1 => tkE Z (hh Z i)
def kd (Z : (Nat → Nat) × Nat) (i : Nat) : Nat := tkK Z (hh Z i)
def ts (Z : (Nat → Nat) × Nat) (i : Nat) : Nat := tkS Z (hh Z i)
def vl (Z : (Nat → Nat) × Nat) (i : Nat) : Nat := tkV Z (hh Z i)
theorem hh_le (Z : (Nat → Nat) × Nat) : ∀ i, hh Z i ≤ Z.2
  | 0 => Nat.zero_le _
  | i + 1 => (tkE_ge Z (hh_le Z i)).2.1
theorem kd_le (Z : (Nat → Nat) × Nat) (i : Nat) : kd Z i ≤ 32 := tkK_le Z _
theorem tkE_end {Z : (Nat → Nat) × Nat} {h : Nat} (hk : tkK Z h = 32) : tkE Z h = tkS Z h := if_pos ((tkK_end Z h).mp hk)
theorem tkS_n (Z : (Nat → Nat) × Nat) : tkS Z Z.2 = Z.2 := by unfold tkS; rw [Nat.sub_self]; rfl
theorem kd_end {Z : (Nat → Nat) × Nat} {i : Nat} (h : kd Z i = 32) : hh Z (i + 1) = Z.2 ∧ kd Z (i + 1) = 32 := by
  have h1 : hh Z (i + 1) = Z.2 := by
    rw [hh, tkE_end h]
    have := (tkK_end Z _).mp h
    have := (tkS_ge Z (hh_le Z i)).2
    omega
  refine ⟨h1, (tkK_end Z _).mpr ?_⟩
  rw [h1, tkS_n]
  exact Nat.le_refl _
theorem kd_mono {Z : (Nat → Nat) × Nat} {i j : Nat} (hij : i ≤ j) (h : kd Z i = 32) : kd Z j = 32 := by
  obtain ⟨d, rfl⟩ : ∃ d, j = i + d := ⟨j - i, by omega⟩
  induction d with
  | zero => exact h
  | succ d ih => exact (kd_end (ih (by omega))).2
theorem hh_ge {Z : (Nat → Nat) × Nat} : ∀ i, kd Z i ≠ 32 → i ≤ hh Z i
  | 0, _ => Nat.zero_le _
  | i + 1, h => by
    have h0 : kd Z i ≠ 32 := fun z => h (kd_end z).2
    have h1 := hh_ge i h0
    have h2 := tkS_ge Z (hh_le Z i)
    have h3 : tkS Z (hh Z i) < Z.2 := by have := mt (tkK_end Z (hh Z i)).mpr h0; omega
    have := (tkE_ge Z (hh_le Z i)).2.2 h3
    rw [hh]
    omega
theorem kd_lt {Z : (Nat → Nat) × Nat} {i : Nat} (h : kd Z i ≠ 32) : i < Z.2 ∧ ts Z i < Z.2 ∧ hh Z i < hh Z (i + 1) := by
  have h1 := hh_ge i h
  have h2 := tkS_ge Z (hh_le Z i)
  have h3 : tkS Z (hh Z i) < Z.2 := by have := mt (tkK_end Z (hh Z i)).mpr h; omega
  have := (tkE_ge Z (hh_le Z i)).2.2 h3
  refine ⟨by omega, h3, ?_⟩
  rw [hh]
  omega
theorem ts_le (Z : (Nat → Nat) × Nat) (i : Nat) : hh Z i ≤ ts Z i ∧ ts Z i ≤ Z.2 := tkS_ge Z (hh_le Z i)
theorem dgV_lt {b : Nat → Nat} {s : Nat} : ∀ k, (∀ j, j < k → b (s + j) ≤ 57) → dgV b s k < 10 ^ k
  | 0, _ => Nat.zero_lt_one
  | k + 1, h => by
    have h1 := dgV_lt k (fun j hj => h j (by omega))
    have h2 := h k (by omega)
    rw [dgV, Nat.pow_succ]
    omega
theorem rn_all (p : Nat → Bool) : ∀ k h j, h ≤ j → j < rn p k h → p j = true := by
  intro k
  induction k with
  | zero => intro h j h1 h2; rw [rn] at h2; omega
  | succ k ih =>
    intro h j h1 h2
    rw [rn] at h2
    split at h2
    · rename_i hp
      rcases Nat.eq_or_lt_of_le h1 with e | e
      · exact e ▸ hp
      · exact ih (h + 1) j e h2
    · omega
theorem vl_lt {Z : (Nat → Nat) × Nat} {i : Nat} (h : kd Z i = 29) : vl Z i < 1000 := by
  unfold vl tkV
  unfold kd tkK at h
  split at h
  · omega
  · rename_i h0
    split at h
    · rcases kdW_ok (wl Z.1 (tkS Z (hh Z i)) (tkE Z (hh Z i))) 30 with ⟨a, _⟩ | ⟨a, _⟩ <;> omega
    · rename_i hl
      split at h
      · rename_i hd
        have e : tkE Z (hh Z i) = rn (fun j => diB (Z.1 j)) (Z.2 - tkS Z (hh Z i)) (tkS Z (hh Z i)) := by unfold tkE; rw [if_neg h0, if_neg hl, if_pos hd]
        have h3 : min 3 (tkE Z (hh Z i) - tkS Z (hh Z i)) ≤ 3 := Nat.min_le_left _ _
        refine Nat.lt_of_lt_of_le (dgV_lt _ (fun j hj => ?_)) (Nat.pow_le_pow_right (n := 10) (by omega) h3)
        have hj2 : j < tkE Z (hh Z i) - tkS Z (hh Z i) := Nat.lt_of_lt_of_le hj (Nat.min_le_right _ _)
        exact (diB_iff.mp (rn_all (fun j => diB (Z.1 j)) (Z.2 - tkS Z (hh Z i)) (tkS Z (hh Z i)) (tkS Z (hh Z i) + j) (by omega) (by rw [← e]; omega))).2
      · rcases kdW_ok (wl Z.1 (tkS Z (hh Z i)) (tkE Z (hh Z i))) 31 with ⟨a, _⟩ | ⟨a, _⟩ <;> omega
/-- the reference's number for a kind -/
def rc (k : Nat) : Nat := if k = 32 then 0 else if k ≤ 16 ∨ k = 30 then 1 else if k = 29 then 2 else if k = 31 then 3 else (stC k 0).toNatClampNeg
def sgB (x : Nat) : Bool := Nat.beq x 59 || Nat.beq x 58 || Nat.beq x 43 || Nat.beq x 45 || Nat.beq x 42 || Nat.beq x 40 || Nat.beq x 41 || Nat.beq x 91 || Nat.beq x 93 || Nat.beq x 61 || Nat.beq x 60 || Nat.beq x 62
theorem rc_sg : ∀ x, x < 256 → loB x = false → diB x = false → rc (kdW [nI x] 31) = if sgB x = true then x else 3 := by decide +kernel
theorem rc_lo0 : ∀ k, k < 29 → ¬ k ≤ 16 → ∀ x, x < 256 → stC k 0 = nI x → loB x = false := by decide +kernel
theorem rc_lo {b : Nat → Nat} {s e : Nat} (hb : b s < 256) (hl : loB (b s) = true) (hse : s < e) : rc (kdW (wl b s e) 30) = 1 := by
  have h : kdW (wl b s e) 30 ≤ 16 ∨ kdW (wl b s e) 30 = 30 := by
    rcases kdW_ok (wl b s e) 30 with ⟨a, c⟩ | ⟨a, c⟩
    · refine Or.inl (Decidable.byContradiction fun z => ?_)
      obtain ⟨c1, c2⟩ := wl_iff.mp c
      have := rc_lo0 _ a z (b s) hb (c2 0 (by omega)).symm
      rw [hl] at this
      cases this
    · exact Or.inr a
  unfold rc
  rw [if_neg (by omega), if_pos h]
theorem rc_sn : ∀ k, k < 33 → rc k < 128 := by decide +kernel
theorem rc_eq : ∀ j, j < 29 → 17 ≤ j → ∀ k, k < 33 → (rc k = rc j ↔ k = j) := by decide +kernel
theorem rc_w : ∀ k, k < 33 → (rc k = 1 ↔ k ≤ 16 ∨ k = 30) := by decide +kernel
theorem rc_n : ∀ k, k < 33 → (rc k = 2 ↔ k = 29) := by decide +kernel
theorem rc_b : ∀ k, k < 33 → (rc k = 3 ↔ k = 31) := by decide +kernel
theorem rc_z : ∀ k, k < 33 → (rc k = 0 ↔ k = 32) := by decide +kernel
theorem tk_w {Z : (Nat → Nat) × Nat} {h k : Nat} (hb : ∀ j, j < Z.2 → Z.1 j < 256) (hk : k < 17) (hh : h ≤ Z.2) : tkK Z h = k ↔ rc (tkK Z h) = 1 ∧ tkE Z h - tkS Z h = stN k ∧ ∀ j, j < stN k → nI (Z.1 (tkS Z h + j)) = stC k j := by
  have hge := tkE_ge Z hh
  constructor
  · intro e
    have h1 := (rc_w k (by omega)).mpr (Or.inl (by omega))
    refine ⟨e ▸ h1, ?_⟩
    unfold tkK at e
    split at e
    · omega
    · rename_i h0
      split at e
      · exact wl_iff.mp ((kdW_iff (by omega) (by omega)).mp e)
      · split at e
        · split at e <;> omega
        · exact wl_iff.mp ((kdW_iff (by omega) (by omega)).mp e)
  · rintro ⟨h1, h2⟩
    have hw := wl_iff.mpr h2
    unfold tkK at h1 ⊢
    split at h1
    · exact absurd h1 (by decide)
    · rename_i h0
      rw [if_neg h0]
      split at h1
      · rename_i hl
        rw [if_pos hl]
        exact (kdW_iff (by omega) (by omega)).mpr hw
      · rename_i hl
        rw [if_neg hl]
        split at h1
        · split at h1 <;> exact absurd h1 (by decide)
        · rename_i hd
          rw [if_neg hd]
          exact (kdW_iff (by omega) (by omega)).mpr hw
