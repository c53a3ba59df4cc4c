/-! ===== what a constructor makes: cells, shapes, references, counted from the object's own cell ===== -/
def NwO (c p n : Nat) (LT : List (Nat × (Nat ⊕ (Nat × Nat)))) (LR : List (Nat × Nat × Nat)) (LZ : List Nat) (f : Nat → Int32) (M0 M : mM) : Prop :=
  gz M = p + n ∧ 0 < n ∧ Old p M0 M ∧ gT M p = .inl c ∧ gI M p = f ∧ (∀ e ∈ LT, e.1 < n ∧ gT M (p + e.1) = e.2) ∧ (∀ e ∈ LR, e.1 < n ∧ gR M (p + e.1) e.2.1 = some (p + e.2.2)) ∧ ∀ e ∈ LZ, e < n ∧ ∀ j, gI M (p + e) j = 0
section NWO
variable {c p n : Nat} {LT : List (Nat × (Nat ⊕ (Nat × Nat)))} {LR : List (Nat × Nat × Nat)} {LZ : List Nat} {f : Nat → Int32} {M0 M M' : mM}
theorem NwO.own (h : NwO c p n LT LR LZ f M0 M) : gT M p = .inl c := h.2.2.2.1
theorem NwO.start (hp : gz M = p) (c : Nat) : NwO c p 1 [] [] [] (fun _ => 0) M (nw M (.inl c)) := by
  subst hp
  exact ⟨rfl, by omega, Old.nw (Nat.le_refl _) _, nw_T _ _, funext fun k => nw_Iz rfl, fun _ h => (by cases h), fun _ h => (by cases h), fun _ h => (by cases h)⟩
theorem NwO.grow (h : NwO c p n LT LR LZ f M0 M) {n' : Nat} (o : Old (p + n) M M') (hz : gz M' = p + n') (hn : n ≤ n') : NwO c p n' LT LR LZ f M0 M' := by
  obtain ⟨h1, h2, h3, h4, h5, h6, h7, h8⟩ := h
  refine ⟨hz, by omega, h3.tr o (by omega), (o p (by omega)).1.trans h4, (o p (by omega)).2.1.trans h5, fun e he => ?_, fun e he => ?_, fun e he => ?_⟩
  · have := h6 e he
    exact ⟨by omega, (o _ (by omega)).1.trans this.2⟩
  · have := h7 e he
    exact ⟨by omega, ((o _ (by omega)).2.2.2 _).trans this.2⟩
  · have := h8 e he
    exact ⟨by omega, fun j => by rw [(o _ (by omega)).2.1]; exact this.2 j⟩
theorem NwO.arr (h : NwO c p n LT LR LZ f M0 M) (sh : Nat ⊕ (Nat × Nat)) : NwO c p (n + 1) ((n, sh) :: LT) LR (n :: LZ) f M0 (nw M sh) := by
  have g := h.grow (M' := nw M sh) (n' := n + 1) (Old.nw (by rw [h.1]; exact Nat.le_refl _) _) (by show gz M + 1 = _; rw [h.1]; omega) (by omega)
  obtain ⟨h1, h2, h3, h4, h5, h6, h7, h8⟩ := g
  refine ⟨h1, h2, h3, h4, h5, fun e he => ?_, h7, fun e he => ?_⟩
  · rcases List.mem_cons.mp he with rfl | he
    · exact ⟨by show n < n + 1; omega, by show gT _ (p + n) = sh; rw [← h.1]; exact nw_T _ _⟩
    · exact h6 e he
  · rcases List.mem_cons.mp he with rfl | he
    · exact ⟨by omega, fun j => nw_Iz h.1.symm⟩
    · exact h8 e he
theorem NwO.put (h : NwO c p n LT LR LZ f M0 M) (b k a : Nat) (hb : b < n) (hk : ∀ e ∈ LR, ¬ (e.1 = b ∧ e.2.1 = k)) : NwO c p n LT ((b, k, a) :: LR) LZ f M0 (sR M (p + b) k (some (p + a))) := by
  obtain ⟨h1, h2, h3, h4, h5, h6, h7, h8⟩ := h
  refine ⟨h1, h2, h3.tr (Old.sr _ (show p ≤ p + b by omega)) (Nat.le_refl _), h4, h5, h6, fun e he => ?_, h8⟩
  rcases List.mem_cons.mp he with rfl | he
  · exact ⟨hb, gR_ss _ _ _ _⟩
  · obtain ⟨g1, g2⟩ := h7 e he
    refine ⟨g1, ?_⟩
    rw [gR_sR]
    unfold up2
    rw [if_neg (fun z => hk e he ⟨by omega, z.2⟩)]
    exact g2
theorem NwO.put0 (h : NwO c p n LT LR LZ f M0 M) (k a : Nat) (hk : ∀ e ∈ LR, ¬ (e.1 = 0 ∧ e.2.1 = k)) : NwO c p n LT ((0, k, a) :: LR) LZ f M0 (sR M p k (some (p + a))) := h.put 0 k a h.2.1 hk
theorem NwO.putX (h : NwO c p n LT LR LZ f M0 M) (k : Nat) (v : Option Nat) (hk : ∀ e ∈ LR, ¬ (e.1 = 0 ∧ e.2.1 = k)) : NwO c p n LT LR LZ f M0 (sR M p k v) := by
  obtain ⟨h1, h2, h3, h4, h5, h6, h7, h8⟩ := h
  refine ⟨h1, h2, h3.tr (Old.sr _ (Nat.le_refl _)) (Nat.le_refl _), h4, h5, h6, fun e he => ?_, h8⟩
  obtain ⟨g1, g2⟩ := h7 e he
  refine ⟨g1, ?_⟩
  rw [gR_sR]
  unfold up2
  rw [if_neg (fun z => hk e he ⟨by omega, z.2⟩)]
  exact g2
theorem NwO.si (h : NwO c p n LT LR LZ f M0 M) (k : Nat) (v : Int32) (hz : ∀ e ∈ LZ, e ≠ 0) : NwO c p n LT LR LZ (uK f k v) M0 (sI M p k v) := by
  obtain ⟨h1, h2, h3, h4, h5, h6, h7, h8⟩ := h
  refine ⟨h1, h2, h3.tr (Old.si _ (Nat.le_refl _)) (Nat.le_refl _), h4, ?_, h6, h7, fun e he => ⟨(h8 e he).1, fun j => ?_⟩⟩
  · rw [← h5]
    exact gI_uK _ _ _ _
  · rw [gI_sq _ _ (by have := hz e he; omega)]
    exact (h8 e he).2 j
theorem NwO.sub (h : NwO c p n LT LR LZ f M0 M) {c2 n2 : Nat} {LT2 : List (Nat × (Nat ⊕ (Nat × Nat)))} {LR2 : List (Nat × Nat × Nat)} {LZ2 : List Nat} {f2 : Nat → Int32} (h2 : NwO c2 (p + n) n2 LT2 LR2 LZ2 f2 M M') :
    NwO c p (n + n2) (LT2.map (fun e => (n + e.1, e.2)) ++ (n, .inl c2) :: LT) (LR2.map (fun e => (n + e.1, e.2.1, n + e.2.2)) ++ LR) (LZ2.map (fun e => n + e) ++ LZ) f M0 M' := by
  have g := h.grow (M' := M') (n' := n + n2) h2.2.2.1 (by rw [h2.1]; omega) (by omega)
  obtain ⟨k1, k2, k3, k4, k5, k6, k7, k8⟩ := h2
  obtain ⟨h1, h2, h3, h4, h5, h6, h7, h8⟩ := g
  refine ⟨h1, h2, h3, h4, h5, fun e he => ?_, fun e he => ?_, fun e he => ?_⟩
  · rcases List.mem_append.mp he with he | he
    · obtain ⟨e', he', rfl⟩ := List.mem_map.mp he
      obtain ⟨a, b⟩ := k6 e' he'
      refine ⟨by show n + e'.1 < n + n2; omega, ?_⟩
      show gT M' (p + (n + e'.1)) = e'.2
      rw [← Nat.add_assoc]
      exact b
    · rcases List.mem_cons.mp he with rfl | he
      · exact ⟨by show n < n + n2; omega, k4⟩
      · exact h6 e he
  · rcases List.mem_append.mp he with he | he
    · obtain ⟨e', he', rfl⟩ := List.mem_map.mp he
      obtain ⟨a, b⟩ := k7 e' he'
      refine ⟨by show n + e'.1 < n + n2; omega, ?_⟩
      show gR M' (p + (n + e'.1)) e'.2.1 = some (p + (n + e'.2.2))
      rw [← Nat.add_assoc, ← Nat.add_assoc]
      exact b
    · exact h7 e he
  · rcases List.mem_append.mp he with he | he
    · obtain ⟨e', he', rfl⟩ := List.mem_map.mp he
      obtain ⟨a, b⟩ := k8 e' he'
      refine ⟨by omega, fun j => ?_⟩
      rw [← Nat.add_assoc]
      exact b j
    · exact h8 e he
end NWO
/-- a plan, a state, a scene so -/
def ltP : List (Nat × (Nat ⊕ (Nat × Nat))) := [(1, .inr (0, 14)), (2, .inr (0, 10)), (3, .inr (0, 11)), (4, .inr (0, 10)), (5, .inr (0, 0)), (6, .inr (0, 60))]
def lrP : List (Nat × Nat × Nat) := [(0, 10, 1), (0, 11, 2), (0, 12, 3), (0, 13, 4), (0, 15, 6)]
def fnP : Nat → Int32 := fun k => if k = 1 then 1 else if k = 7 ∨ k = 8 then 2 else 0
def ltS : List (Nat × (Nat ⊕ (Nat × Nat))) := [(1, .inr (0, 14)), (2, .inr (0, 14)), (3, .inr (0, 14)), (4, .inr (0, 6)), (5, .inr (0, 6))]
def lrS : List (Nat × Nat × Nat) := [(0, 0, 1), (0, 1, 2), (0, 2, 3), (0, 3, 4), (0, 4, 5)]
def fnS0 : Nat → Int32 := fun k => if k = 6 then -1 else 0
def shT (n : Nat) (L : List (Nat × (Nat ⊕ (Nat × Nat)))) : List (Nat × (Nat ⊕ (Nat × Nat))) := L.map (fun e => (n + e.1, e.2))
def shR (n : Nat) (L : List (Nat × Nat × Nat)) : List (Nat × Nat × Nat) := L.map (fun e => (n + e.1, e.2.1, n + e.2.2))
def ltC : List (Nat × (Nat ⊕ (Nat × Nat))) := ((1, .inl 4) :: shT 1 ltP) ++ (((8, .inl 7) :: shT 8 ltS) ++ ((14, .inr (5, 10)) :: (List.range 10).flatMap (fun j => (15 + 6 * j, .inl 7) :: shT (15 + 6 * j) ltS)))
def lrC : List (Nat × Nat × Nat) := [(0, 0, 1), (0, 1, 8), (0, 2, 14)] ++ (shR 1 lrP ++ (shR 8 lrS ++ (List.range 10).flatMap (fun j => (14, j, 15 + 6 * j) :: shR (15 + 6 * j) lrS)))
theorem PlN.lt {M : mM} {p : Nat} (h : PlN M p) : ∀ e ∈ ltP, gT M (p + e.1) = e.2 := by
  obtain ⟨⟨a0, a1, a2, a3, a4, a6, r1, r2, r3, r4, r6, r5, a5, _⟩, _⟩ := h
  exact List.forall_mem_cons.mpr ⟨a1, List.forall_mem_cons.mpr ⟨a2, List.forall_mem_cons.mpr ⟨a3, List.forall_mem_cons.mpr ⟨a4, List.forall_mem_cons.mpr ⟨a5, List.forall_mem_cons.mpr ⟨a6, fun _ h => (by cases h)⟩⟩⟩⟩⟩⟩
theorem PlN.lr {M : mM} {p : Nat} (h : PlN M p) : ∀ e ∈ lrP, gR M (p + e.1) e.2.1 = some (p + e.2.2) := by
  obtain ⟨⟨a0, a1, a2, a3, a4, a6, r1, r2, r3, r4, r6, r5, a5, _⟩, _⟩ := h
  exact List.forall_mem_cons.mpr ⟨r1, List.forall_mem_cons.mpr ⟨r2, List.forall_mem_cons.mpr ⟨r3, List.forall_mem_cons.mpr ⟨r4, List.forall_mem_cons.mpr ⟨r6, fun _ h => (by cases h)⟩⟩⟩⟩⟩
theorem st_lt {M : mM} {s : Nat} (h : StSh M s) : ∀ e ∈ ltS, gT M (s + e.1) = e.2 := by
  obtain ⟨a0, a1, a2, a3, a4, a5, r0, r1, r2, r3, r4⟩ := h
  exact List.forall_mem_cons.mpr ⟨a1, List.forall_mem_cons.mpr ⟨a2, List.forall_mem_cons.mpr ⟨a3, List.forall_mem_cons.mpr ⟨a4, List.forall_mem_cons.mpr ⟨a5, fun _ h => (by cases h)⟩⟩⟩⟩⟩
theorem st_lr {M : mM} {s : Nat} (h : StSh M s) : ∀ e ∈ lrS, gR M (s + e.1) e.2.1 = some (s + e.2.2) := by
  obtain ⟨a0, a1, a2, a3, a4, a5, r0, r1, r2, r3, r4⟩ := h
  exact List.forall_mem_cons.mpr ⟨r0, List.forall_mem_cons.mpr ⟨r1, List.forall_mem_cons.mpr ⟨r2, List.forall_mem_cons.mpr ⟨r3, List.forall_mem_cons.mpr ⟨r4, fun _ h => (by cases h)⟩⟩⟩⟩⟩
theorem shT_in {M : mM} {p n : Nat} {L : List (Nat × (Nat ⊕ (Nat × Nat)))} (h : ∀ e ∈ L, gT M (p + n + e.1) = e.2) : ∀ e ∈ shT n L, gT M (p + e.1) = e.2 := fun e he => by
  obtain ⟨e', he', rfl⟩ := List.mem_map.mp he
  show gT M (p + (n + e'.1)) = e'.2
  rw [← Nat.add_assoc]
  exact h e' he'
theorem shR_in {M : mM} {p n : Nat} {L : List (Nat × Nat × Nat)} (h : ∀ e ∈ L, gR M (p + n + e.1) e.2.1 = some (p + n + e.2.2)) : ∀ e ∈ shR n L, gR M (p + e.1) e.2.1 = some (p + e.2.2) := fun e he => by
  obtain ⟨e', he', rfl⟩ := List.mem_map.mp he
  show gR M (p + (n + e'.1)) e'.2.1 = some (p + (n + e'.2.2))
  rw [← Nat.add_assoc, ← Nat.add_assoc]
  exact h e' he'
theorem ltP_n : ∀ e ∈ ltP, e.1 < 7 := by decide
theorem lrP_n : ∀ e ∈ lrP, e.1 < 7 := by decide
theorem ltS_n : ∀ e ∈ ltS, e.1 < 6 := by decide
theorem lrS_n : ∀ e ∈ lrS, e.1 < 6 := by decide
theorem ltC_n : ∀ e ∈ ltC, e.1 < 75 := by decide +kernel
theorem lrC_n : ∀ e ∈ lrC, e.1 < 75 := by decide +kernel
theorem NwO.plan {M M' : mM} {p : Nat} (hz : gz M' = p + 7) (o : Old p M M') (h : PlN M' p) : NwO 4 p 7 ltP lrP [] fnP M M' :=
  ⟨hz, by omega, o, h.1.1, funext h.2.1, fun e he => ⟨ltP_n e he, h.lt e he⟩, fun e he => ⟨lrP_n e he, h.lr e he⟩, fun _ h => (by cases h)⟩
theorem NwO.stat {M M' : mM} {p : Nat} (hz : gz M' = p + 6) (o : Old p M M') (h : StN M' p) : NwO 7 p 6 ltS lrS [] fnS0 M M' :=
  ⟨hz, by omega, o, h.1.1, funext h.2.1, fun e he => ⟨ltS_n e he, st_lt h.1 e he⟩, fun e he => ⟨lrS_n e he, st_lr h.1 e he⟩, fun _ h => (by cases h)⟩
def ScN (M : mM) (p : Nat) : Prop := gI M p = (fun _ => 0) ∧ PlN M (p + 1) ∧ StN M (p + 8) ∧ ∀ j, j < 10 → StN M (p + 15 + 6 * j)
theorem NwO.scen {M M' : mM} {p : Nat} (hp : gz M = p) (h : NwC (nw M (.inl 6)) M' p 10) : NwO 6 p 75 ltC lrC [] (fun _ => 0) M M' ∧ ScN M' p := by
  obtain ⟨h1, h2, ⟨h3, h4, h5, h6, h7⟩, h8, h9, h10, h11⟩ := h
  refine ⟨⟨by omega, by omega, (Old.nw (by omega) _).tr h2 (Nat.le_refl _), h3, h7.trans (funext fun k => nw_Iz hp.symm), fun e he => ⟨ltC_n e he, ?_⟩, fun e he => ⟨lrC_n e he, ?_⟩, fun _ h => (by cases h)⟩, h7.trans (funext fun k => nw_Iz hp.symm), h9, h10, fun j hj => (h11 j hj).2⟩
  · revert e
    refine List.forall_mem_append.mpr ⟨List.forall_mem_cons.mpr ⟨h9.1.1, shT_in h9.lt⟩, List.forall_mem_append.mpr ⟨List.forall_mem_cons.mpr ⟨h10.1.1, shT_in (st_lt h10.1)⟩, List.forall_mem_cons.mpr ⟨h8, fun e he => ?_⟩⟩⟩
    obtain ⟨j, hj, he⟩ := List.mem_flatMap.mp he
    obtain ⟨-, g⟩ := h11 j (List.mem_range.mp hj)
    rcases List.mem_cons.mp he with rfl | he
    · show gT M' (p + (15 + 6 * j)) = _
      rw [← Nat.add_assoc]
      exact g.1.1
    · exact shT_in (by rw [← Nat.add_assoc]; exact st_lt g.1) e he
  · revert e
    refine List.forall_mem_append.mpr ⟨List.forall_mem_cons.mpr ⟨h4, List.forall_mem_cons.mpr ⟨h5, List.forall_mem_cons.mpr ⟨h6, fun _ h => (by cases h)⟩⟩⟩, List.forall_mem_append.mpr ⟨shR_in h9.lr, List.forall_mem_append.mpr ⟨shR_in (st_lr h10.1), fun e he => ?_⟩⟩⟩
    obtain ⟨j, hj, he⟩ := List.mem_flatMap.mp he
    obtain ⟨g1, g⟩ := h11 j (List.mem_range.mp hj)
    rcases List.mem_cons.mp he with rfl | he
    · show gR M' (p + 14) j = some (p + (15 + 6 * j))
      rw [← Nat.add_assoc]
      exact g1
    · exact shR_in (by rw [← Nat.add_assoc]; exact st_lr g.1) e he
theorem ScN.sm {M M' : mM} {p : Nat} (h : ScN M p) (e0 : gI M' p = gI M p) (e : ∀ r, p + 1 ≤ r → r ≤ p + 74 → Sme M M' r) : ScN M' p :=
  ⟨e0.trans h.1, h.2.1.sm (fun r a b => e r (by omega) (by omega)), h.2.2.1.sm (fun r a b => e r (by omega) (by omega)), fun j hj => (h.2.2.2 j hj).sm (fun r a b => e r (by omega) (by omega))⟩
theorem ScN.old {M M' : mM} {p z : Nat} (h : ScN M p) (o : Old z M M') (hz : p + 75 ≤ z) : ScN M' p := h.sm (o p (by omega)).2.1 (fun r a b => o r (by omega))
theorem ScN.put {M : mM} {p q k : Nat} {v : Option Nat} (h : ScN M p) (hq : q < p + 1 ∨ p + 74 < q) : ScN (sR M q k v) p := h.sm rfl (fun r a b => ⟨rfl, rfl, fun _ => rfl, fun j => gR_sq _ _ (by omega)⟩)
section INI
variable (G : mG) (M : mM)
theorem c4_ini {p : Nat} (hp : gz M = p) : Ct G Y4_init 1 6 105 [.ref p] (nw M (.inl 4)) (Rs none (fun M' => NwO 4 p 7 ltP lrP [] fnP M M')) NX := by
  subst hp
  refine (c4_init G (nw M (.inl 4)) (p := gz M) (nw_T _ _) (Nat.lt_succ_self _)).post ?_ (fun _ _ h => h)
  rintro v M' ⟨rfl, rfl⟩
  exact ⟨rfl, NwO.plan (iniP_T M).1 (iniP_N M).2 (iniP_N M).1⟩
theorem c7_ini {p : Nat} (hp : gz M = p) : Ct G Y7_init 2 5 54 [.ref p] (nw M (.inl 7)) (Rs none (fun M' => NwO 7 p 6 ltS lrS [] fnS0 M M')) NX := by
  subst hp
  refine (c7_init G (nw M (.inl 7)) (s := gz M) (nw_T _ _) rfl).post ?_ (fun _ _ h => h)
  rintro v M' ⟨rfl, h⟩
  exact ⟨rfl, NwO.stat h.1 ((Old.nw (Nat.le_refl _) _).tr h.2.1 (Nat.le_refl _)) (h.n (fun k => nw_Iz rfl))⟩
theorem c6_ini {p : Nat} (hp : gz M = p) : Ct G Y6_init 4 74 825 [.ref p] (nw M (.inl 6)) (Rs none (fun M' => NwO 6 p 75 ltC lrC [] (fun _ => 0) M M' ∧ ScN M' p)) NX := by
  refine (c6_init G (nw M (.inl 6)) (q := p) (by rw [← hp]; exact nw_T _ _) (by show gz M + 1 = _; rw [hp])).post ?_ (fun _ _ h => h)
  rintro v M' ⟨rfl, h⟩
  exact ⟨rfl, NwO.scen hp h⟩
end INI
