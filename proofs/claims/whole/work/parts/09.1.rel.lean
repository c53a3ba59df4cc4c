/-! ===== the class's cells, as 'known' says them ===== -/
/-- a step of the reference as the class's code has it -/
def encS (s : Nat) : Nat :=
  if 1000 ≤ s then s - 1000 else if s = 18 then 6144 else if s = 16 then 7168 else if s = 17 then 8192 else if s = 13 then 9216 else if s = 14 then 10240 else if s = 15 then 11264
  else if s = 10 then 12288 else if s = 11 then 13312 else if s = 12 then 14336 else if s < 200 then 1024 + (s - 100) else if s < 300 then 2048 + (s - 200) else if s = 300 then 3072 else if s = 301 then 4096 else 5120
/-- a plan's cells: its code at cd, n places -/
def PlSh (M : mM) (p cd n : Nat) : Prop :=
  gT M p = .inl 4 ∧ gT M (p + 1) = .inr (0, 14) ∧ gT M (p + 2) = .inr (0, 10) ∧ gT M (p + 3) = .inr (0, 11) ∧ gT M (p + 4) = .inr (0, 10) ∧ gT M (p + 6) = .inr (0, 60) ∧
  gR M p 10 = some (p + 1) ∧ gR M p 11 = some (p + 2) ∧ gR M p 12 = some (p + 3) ∧ gR M p 13 = some (p + 4) ∧ gR M p 15 = some (p + 6) ∧ gR M p 14 = some cd ∧ gT M cd = .inr (0, n) ∧ n < 2 ^ 31
def StSh (M : mM) (s : Nat) : Prop :=
  gT M s = .inl 7 ∧ gT M (s + 1) = .inr (0, 14) ∧ gT M (s + 2) = .inr (0, 14) ∧ gT M (s + 3) = .inr (0, 14) ∧ gT M (s + 4) = .inr (0, 6) ∧ gT M (s + 5) = .inr (0, 6) ∧
  gR M s 0 = some (s + 1) ∧ gR M s 1 = some (s + 2) ∧ gR M s 2 = some (s + 3) ∧ gR M s 3 = some (s + 4) ∧ gR M s 4 = some (s + 5)
def RkSh (M : mM) (r : Nat) : Prop :=
  gT M r = .inl 5 ∧ gT M (r + 1) = .inr (0, 6) ∧ gT M (r + 2) = .inr (0, 40) ∧ gR M r 0 = some (r + 1) ∧ gR M r 1 = some (r + 2)
/-- whether a mark is told another look by lamp -/
def ltB (M : mM) (p at_ : Nat) : Bool := decide ((gJ M p 16 >>> ((nI at_).toInt64 &&& 63)) &&& 1 = 1)
/-- a plan's numbers -/
def PlD (M : mM) (p cd n : Nat) (K : Nat → Int32) : Prop :=
  (gI M p 0 = K 0 ∧ gI M p 1 = K 1 ∧ gI M p 2 = K 2 ∧ gI M p 4 = K 3 ∧ gI M p 5 = K 119 ∧ gI M p 7 = K 5 ∧ gI M p 8 = K 6) ∧
  (∀ w, w < kn K 3 → gI M (p + 2) w = K (109 + w)) ∧ (∀ w, w ≤ kn K 3 → gI M (p + 3) w = K (144 + w)) ∧
  (∀ k, k < kn K (144 + kn K 3) → gI M cd k = nI (encS (kn K (1155 + k)))) ∧ (kn K (144 + kn K 3) ≤ n ∧ K (144 + kn K 3) = nI (kn K (144 + kn K 3))) ∧ (∀ w, w ≤ kn K 3 → kn K (144 + w) ≤ kn K (144 + kn K 3)) ∧
  ∀ m v, m < kn K 1 → v ≤ 9 → (if ltB M p (10 * m + v) = true then gI M (p + 6) (10 * m + v) else nI v) = lby K (nI m) (nI v) (kn K 4) 0
def Plr (M : mM) (p cd n : Nat) (K : Nat → Int32) : Prop := PlSh M p cd n ∧ PlD M p cd n K
/-- a row of marks, four bits each -/
def pkR (b : Nat → Int32) (c : Nat) : Nat → Nat
  | 0 => 0
  | m + 1 => pkR b c m + nb b (6 * c + m) * 16 ^ m
/-- a state's numbers: those of the current block of K -/
def StD (M : mM) (s : Nat) (K : Nat → Int32) : Prop :=
  (∀ c, c < kn K 2 → gI M (s + 1) c = nI (pkR (cur K) c (kn K 1)) ∧ gI M (s + 2) c = nI (trN K false c) ∧ gI M (s + 3) c = nI (trN K true c)) ∧
  (∀ p, p < 6 → gI M (s + 4) p = K (97 + p) ∧ gI M (s + 5) p = K (103 + p)) ∧ gI M s 5 = K 93 ∧ gI M s 6 = K 96 ∧ gI M s 7 = K 95 ∧ gI M s 8 = K 94
def Str (M : mM) (s : Nat) (K : Nat → Int32) : Prop := StSh M s ∧ StD M s K
theorem Plr.mv {M M' : mM} {p cd n : Nat} {K : Nat → Int32} (h : Plr M p cd n K) (hT : gT M' = gT M) (hR : gR M' = gR M) (hJ : gJ M' p = gJ M p) (hI : ∀ q, (p ≤ q ∧ q ≤ p + 6) ∨ q = cd → gI M' q = gI M q) : Plr M' p cd n K := by
  obtain ⟨h1, h2⟩ := h
  refine ⟨by unfold PlSh at h1 ⊢; rw [hT, hR]; exact h1, ?_⟩
  unfold PlD ltB at h2 ⊢
  rw [hI p (Or.inl ⟨by omega, by omega⟩), hI (p + 2) (Or.inl ⟨by omega, by omega⟩), hI (p + 3) (Or.inl ⟨by omega, by omega⟩), hI (p + 6) (Or.inl ⟨by omega, by omega⟩), hI cd (Or.inr rfl), hJ]
  exact h2
theorem Str.mv {M M' : mM} {s : Nat} {K : Nat → Int32} (h : Str M s K) (hT : gT M' = gT M) (hR : gR M' = gR M) (hI : ∀ q, s ≤ q → q ≤ s + 5 → gI M' q = gI M q) : Str M' s K := by
  obtain ⟨h1, h2⟩ := h
  refine ⟨by unfold StSh at h1 ⊢; rw [hT, hR]; exact h1, ?_⟩
  unfold StD at h2 ⊢
  rw [hI s (by omega) (by omega), hI (s + 1) (by omega) (by omega), hI (s + 2) (by omega) (by omega), hI (s + 3) (by omega) (by omega), hI (s + 4) (by omega) (by omega), hI (s + 5) (by omega) (by omega)]
  exact h2
theorem RkSh.mv {M M' : mM} {r : Nat} (h : RkSh M r) (hT : gT M' = gT M) (hR : gR M' = gR M) : RkSh M' r := by
  unfold RkSh at h ⊢
  rw [hT, hR]
  exact h
theorem Sm.row {W : Nat → Nat → Bool} {M M' : mM} (h : Sm W M M') {q : Nat} (w : ∀ k, W q k = false) : gI M' q = gI M q := by funext k; exact h.2.2.2.2 q k (w k)
/-- what a reckoner's numbers are -/
def RkD (M : mM) (r nm : Nat) (f : Nat → Int32) (num : Int32) : Prop := gI M r 2 = nI nm ∧ gI M r 3 = num ∧ ∀ m, m < nm → gI M (r + 1) m = f m
def Wst (r q _k : Nat) : Bool := Nat.beq q (r + 2)
theorem Wst_o {r q : Nat} (h : q ≠ r + 2) (k : Nat) : Wst r q k = false := by
  unfold Wst
  exact Bool.eq_false_iff.mpr (fun z => h (Nat.eq_of_beq_eq_true z))
/-- whether some mark below n looks x -/
def anF (f : Nat → Int32) (x : Int32) : Nat → Bool
  | 0 => false
  | m + 1 => anF f x m || decide (f m = x)
theorem anF_mono {f : Nat → Int32} {x : Int32} {m : Nat} (h : anF f x m = true) : ∀ j, anF f x (m + j) = true := by
  intro j
  induction j with
  | zero => exact h
  | succ j ih => rw [← Nat.add_assoc, anF, ih]; rfl
theorem bI_or (a b : Bool) : bI (a = true) ||| bI (b = true) = bI ((a || b) = true) := by cases a <;> cases b <;> decide
theorem plF_any {f : Nat → Int32} {s : Nat} (h : 200 ≤ s ∧ s ≤ 209) : ∀ m, plF f (nI s) m = bI (anF f (nI (s - 200)) m = true) := by
  intro m
  induction m with
  | zero => rfl
  | succ m ih =>
    rw [plF, ih, pst, if_pos (show nI s < 300 from nI_lt (b := 300) (by omega) (by decide)), anF, ← bI_or]
    congr 1
    rw [show nI s - 200 = nI (s - 200) from pk_sub h.1]
    exact bI_cong (by simp)
theorem plF_sum {f : Nat → Int32} (m : Nat) : plF f 300 (m + 1) = plF f 300 m + f m := rfl
theorem plF_alk {f : Nat → Int32} (m : Nat) : plF f 301 (m + 1) = plF f 301 m + alk f m m := rfl
/-- what is stacked is of its kind: a truth is 0 or 1 -/
def vk : List Bool → List Int32 → Prop
  | [], [] => True
  | b :: t, v :: s => (b = true → v = 0 ∨ v = 1) ∧ vk t s
  | _, _ => False
theorem dnN_b {s : Nat} (h : 13 ≤ s) (a b : Int64) (h2 : s ≤ 17) : dnN s a b = 0 ∨ dnN s a b = 1 := by
  have hb : ∀ (p : Prop) [Decidable p], bI p = 0 ∨ bI p = 1 := fun p _ => by unfold bI; split <;> simp
  obtain rfl | rfl | rfl | rfl | rfl : s = 13 ∨ s = 14 ∨ s = 15 ∨ s = 16 ∨ s = 17 := by omega
  all_goals exact hb _
theorem vk_step {nm : Nat} {f : Nat → Int32} {num : Int32} {s : Nat} {t t' : List Bool} {st : List Int32} (h : chs nm s t = some t') (hv : vk t st) : vk t' (stpS nm f num s st) := by
  unfold chs at h
  split at h
  · rename_i h0
    have h1 := okPb_ok h0
    split at h
    · cases h
      unfold stpS
      rw [if_pos (by unfold okP at h1; omega)]
      exact ⟨fun z => (by cases z), hv⟩
    · cases h
  · rename_i h0
    split at h
    · rename_i h18
      subst h18
      unfold stpS
      rw [if_neg (by decide), if_pos rfl]
      split at h
      · rename_i r
        cases h
        cases st with
        | nil => exact hv.elim
        | cons a st' =>
          refine ⟨fun _ => ?_, hv.2⟩
          rcases hv.1 rfl with e | e <;> subst e <;> decide
      · cases h
    · rename_i h18
      have h100 : s ≤ 17 → ¬ 100 ≤ s := fun _ => by omega
      split at h
      · rename_i hs
        unfold stpS
        rw [if_neg (by omega), if_neg h18]
        split at h
        · rename_i r
          cases h
          match st, hv with
          | b :: a :: st', hv => exact ⟨fun z => (by cases z), hv.2.2⟩
        · cases h
      · split at h
        · rename_i hs
          unfold stpS
          rw [if_neg (by omega), if_neg h18]
          split at h
          · rename_i r
            cases h
            match st, hv with
            | b :: a :: st', hv => exact ⟨fun _ => dnN_b (by omega) _ _ (by omega), hv.2.2⟩
          · cases h
        · split at h
          · rename_i hs
            unfold stpS
            rw [if_neg (by omega), if_neg h18]
            split at h
            · rename_i r
              cases h
              match st, hv with
              | b :: a :: st', hv => exact ⟨fun _ => dnN_b (by omega) _ _ (by omega), hv.2.2⟩
            · cases h
          · cases h
theorem encS_p {nm s : Nat} (h : okP nm s) (h6 : nm ≤ 6) : encS s < 6144 ∧ encS s / 1024 ≤ 5 := by
  have : encS s < 6144 := by
    unfold okP at h
    by_cases c1 : 1000 ≤ s
    · rw [show encS s = s - 1000 from if_pos c1]; omega
    · unfold encS
      rw [if_neg c1, if_neg (by omega), if_neg (by omega), if_neg (by omega), if_neg (by omega), if_neg (by omega), if_neg (by omega), if_neg (by omega), if_neg (by omega), if_neg (by omega)]
      split
      · omega
      · split
        · omega
        · split
          · decide
          · split <;> decide
  exact ⟨this, by omega⟩
/-- the class's code of an operation -/
def opC (s : Nat) : Nat := if s = 18 then 6 else if s = 16 then 7 else if s = 17 then 8 else if s = 13 then 9 else if s = 14 then 10 else if s = 15 then 11 else if s = 10 then 12 else if s = 11 then 13 else 14
theorem encS_o {s : Nat} (h : 10 ≤ s ∧ s ≤ 18) : encS s = 1024 * opC s ∧ 6 ≤ opC s ∧ opC s ≤ 14 := by
  obtain rfl | rfl | rfl | rfl | rfl | rfl | rfl | rfl | rfl : s = 10 ∨ s = 11 ∨ s = 12 ∨ s = 13 ∨ s = 14 ∨ s = 15 ∨ s = 16 ∨ s = 17 ∨ s = 18 := by omega
  all_goals decide
