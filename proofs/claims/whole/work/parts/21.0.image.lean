/-! ===== the class: image, restore ===== -/
/-- cells that these calls leave alone -/
def Ki (q : Nat) : Prop := q = 100 ∨ q = 101 ∨ q = 194 ∨ (222 ≤ q ∧ q ≤ 247)
theorem IR.sme {M M3 : mM} {s : Nat} {K : Nat → Int32} (h : IR M s K) (h8 : 248 ≤ gz M) (hs : s + 74 < gz M ∧ (s = 118 ∨ 248 ≤ s)) (hz : gz M ≤ gz M3) (sm : ∀ r, r < gz M → r ≠ 193 → Sme M M3 r) : IR M3 s K :=
  h.mv hz (fun a x y => (sm a (by omega) (by omega)).2.1) ((sm s (by omega) (by omega)).2.2.2 0) (fun p cd _ _ z => by
    unfold PlA at z
    exact ⟨fun a x y => sm a (by omega) (by omega), sm cd (by omega) (by omega)⟩)
theorem Dj.sme {M M3 : mM} {s q : Nat} {K : Nat → Int32} (d : Dj M s q) (h : IR M s K) (h8 : 248 ≤ gz M) (hs : s < gz M ∧ s ≠ 193) (sm : ∀ r, r < gz M → r ≠ 193 → Sme M M3 r) : Dj M3 s q :=
  d.mv ((sm s hs.1 hs.2).2.2.2 0) (fun p a b => by
    obtain ⟨p', cd, v1, v2, v3⟩ := h.pl
    rw [v1] at a
    cases a
    unfold PlA at v3
    exact (sm p (by omega) (by omega)).2.2.2 14)
theorem Dj.new {M M3 : mM} {s : Nat} {K : Nat → Int32} (h : IR M s K) (h8 : 248 ≤ gz M) (hs : s < gz M ∧ s ≠ 193) (sm : ∀ r, r < gz M → r ≠ 193 → Sme M M3 r) : Dj M3 s (gz M) := fun p a b => by
  obtain ⟨p', cd, v1, v2, v3⟩ := h.pl
  rw [(sm s hs.1 hs.2).2.2.2 0, v1] at a
  cases a
  unfold PlA at v3
  refine ⟨fun r x y => Or.inl (by omega), fun cd' c => ?_⟩
  rw [(sm p (by omega) (by omega)).2.2.2 14, v2] at c
  cases c
  exact Or.inl (by omega)
section CI2
variable (G : mG) (M : mM)
theorem c11_image {K A B : Nat → Int32} (h : MR M K) (hc : CapP M) (him : IMs M A B) (x : Int32) : Ct G Y11_image 40 75 830 [.ref 100, .int x] M (fun v M' => inR 3 x = true ∧ v = none ∧ gz M ≤ gz M' ∧ (∀ q, Ki q → Sme M M' q) ∧ MR M' K ∧ CapP M' ∧ IMs M' (cpK A (2120 * x.toNatClampNeg) K 2120) (uK B x.toNatClampNeg 1)) (fun E M' => inR 3 x ≠ true ∧ Tg nsE M E M') := by
  have hS := h.1
  have h8 := h.2.2.1
  have hS' := hS
  refine Ct.of k11_image.1 (Nat.le_of_ble_eq_true rfl) ?_
  by_cases hr : inR 3 x = true
  · obtain ⟨i, hi, rfl, hi2⟩ := inR_of hr
    have q1 := c11_needImage G M hr
    rw [nI_clamp hi2]
    obtain ⟨p, cd, p1, p2, p3⟩ := h.pl
    -- behind the scene's making
    have fin : ∀ M3 q, Sh M3 → MR M3 K → CapP M3 → gz M ≤ gz M3 → (∀ r, Ki r → Sme M M3 r) → gR M3 193 i = some q → 248 ≤ q → q + 74 < gz M3 → ScSh M3 q → Dj M3 118 q → (∀ j, j < 3 → j ≠ i → (B j = 0 ∧ gR M3 193 j = none) ∨ (B j = 1 ∧ ∃ q', gR M3 193 j = some q' ∧ 248 ≤ q' ∧ q' + 74 < gz M3 ∧ ScSh M3 q' ∧ IR M3 q' (fun t => A (2120 * j + t)) ∧ Dj M3 118 q' ∧ Dj M3 q' q ∧ (∀ j', j' < 3 → j' ≠ i → ∀ q2, gR M3 193 j' = some q2 → Dj M3 q2 q' ∧ (j' ≠ j → q2 + 74 < q' ∨ q' + 74 < q2)) ∧ (q' + 74 < q ∨ q + 74 < q'))) →
        V G Y11_image 40 0 0 (fun v M' => inR 3 (nI i) = true ∧ v = none ∧ gz M ≤ gz M' ∧ (∀ q, Ki q → Sme M M' q) ∧ MR M' K ∧ CapP M' ∧ IMs M' (cpK A (2120 * i) K 2120) (uK B i 1)) (fun E M' => inR 3 (nI i) ≠ true ∧ Tg nsE M E M') 27 [some (.ref 100), some (.int (nI i))] [] M3 := by
      intro M3 q hS3 hm3 hc3 hz3 hk3 e193 hq1 hq2 hq3 hq4 ho
      have hS' := hS3
      obtain ⟨_, hW, _, ⟨nx, hd⟩, p', cd', n, rd, l1, r0, _⟩ := id hm3
      have htk := c6_takeFrom G M3 hq3 hS3.sc r0 hd (by omega) hW
      refine v_aload_n dX11_image_27 rfl ?_
      refine v_getR 11 7 _ dX11_image_28 f11_38 (by first | exact hS'.1 _ _ rfl | assumption) (by decide) (by first | exact hS'.2 _ _ _ rfl | assumption) ?_
      refine v_iload_n dX11_image_31 rfl ?_
      refine v_aald _ dX11_image_32 (by first | exact hS'.1 _ _ rfl | assumption) (by decide) (vp_in_nI hi (by decide)) (by rw [nI_clamp hi2]; exact e193) ?_
      refine v_aload_n dX11_image_33 rfl ?_
      refine v_getR 11 6 _ dX11_image_34 f11_34 (by first | exact hS'.1 _ _ rfl | assumption) (by decide) (by first | exact hS'.2 _ _ _ rfl | assumption) ?_
      skip
      refine v_scVv [_] htk k6_takeFrom dX11_image_37 l11_388 hq3.1 (by decide) rfl (Nat.le_of_ble_eq_true rfl) (Nat.le_of_ble_eq_true rfl) (fun M4 hM4 => ?_)
      obtain ⟨a1, a2, a3⟩ := IMs.put (A := A) (B := B) hm3 hc3 hi e193 hq1 hq2 hq3 hq4 ho r0 hM4.1 hM4.2
      have hk4 : ∀ r, Ki r → Sme M M4 r := fun r hr => by
        obtain ⟨b1, b2, b3, b4⟩ := hk3 r hr
        have hrq : r < q ∨ q + 74 < r := by unfold Ki at hr; omega
        refine ⟨by rw [hM4.1.2.1]; exact b1, (funext (fun k => hM4.1.2.2.2.2 r k (Wsc_o (by omega) k))).trans b2, fun k => by rw [hM4.1.2.2.1]; exact b3 k, fun k => ?_⟩
        rw [hM4.1.2.2.2.1, gR_sq _ _ (by omega)]
        exact b4 k
      refine v_vret dX11_image_40 rfl ?_
      exact ⟨hr, rfl, by rw [hM4.1.1]; exact hz3, hk4, a1, a2, a3⟩
    rcases him i hi with ⟨hB, hn⟩ | ⟨hB, q, g1, g2, g3, g4, g5, g6, g7⟩
    · refine v_aload_n dX11_image_0 rfl ?_
      refine v_iload_n dX11_image_1 rfl ?_
      refine v_cVv [_] (q1) k11_needImage dX11_image_2 l11_385 (by first | exact hS'.1 _ _ rfl | assumption) (by decide) rfl (Nat.le_of_ble_eq_true rfl) (Nat.le_of_ble_eq_true rfl) ?_
      refine v_aload_n dX11_image_5 rfl ?_
      refine v_getR 11 7 _ dX11_image_6 f11_38 (by first | exact hS'.1 _ _ rfl | assumption) (by decide) (by first | exact hS'.2 _ _ _ rfl | assumption) ?_
      refine v_iload_n dX11_image_9 rfl ?_
      skip
      refine v_aaldN dX11_image_10 (hS.1 _ _ rfl) (by decide) (vp_in_nI hi (by decide)) (by rw [nI_clamp hi2]; exact hn) ?_
      refine v_ifnonnullN dX11_image_11 ?_
      refine v_aload_n dX11_image_14 rfl ?_
      refine v_getR 11 7 _ dX11_image_15 f11_38 (by first | exact hS'.1 _ _ rfl | assumption) (by decide) (by first | exact hS'.2 _ _ _ rfl | assumption) ?_
      refine v_iload_n dX11_image_18 rfl ?_
      skip
      refine v_new (kc := 74) (ks := 825) 6 dX11_image_19 (by decide) ⟨c11_31, I_6, N_6⟩ ?_
      have hi6 := c6_init G (nw M (.inl 6)) (q := gz M) (nw_T _ _) rfl
      refine v_dup dX11_image_22 rfl ?_
      refine v_scI [] (hi6) k6_init dX11_image_23 l11_33 rfl (Nat.le_of_ble_eq_true rfl) (Nat.le_of_ble_eq_true rfl) ?_
      intro M2 hM2
      skip
      have ho2 : Old (gz M) M M2 := (Old.nw (Nat.le_refl _) _).tr hM2.2.1 (Nat.le_refl _)
      have z2 : gz M2 = gz M + 75 := by rw [hM2.1]
      have hS2 : Sh M2 := ⟨fun a sh x => (ho2 a (by have := tQ_lt x; omega)).1.trans (hS.1 a sh x), fun a k c x => ((ho2 a (by have := rQ_lt x; omega)).2.2.2 k).trans (hS.2 a k c x)⟩
      obtain ⟨M3, e3⟩ : ∃ M3, M3 = sR M2 193 i (some (gz M)) := ⟨_, rfl⟩
      have s3 : ∀ r, r ≠ 193 → Sme M2 M3 r := fun r hr => by
        rw [e3]
        exact ⟨rfl, rfl, fun _ => rfl, fun k => gR_sq _ _ hr⟩
      have sm : ∀ r, r < gz M → r ≠ 193 → Sme M M3 r := fun r a b => by
        obtain ⟨a1, a2, a3, a4⟩ := ho2 r a
        obtain ⟨b1, b2, b3, b4⟩ := s3 r b
        exact ⟨b1.trans a1, b2.trans a2, fun k => (b3 k).trans (a3 k), fun k => (b4 k).trans (a4 k)⟩
      have z3 : gz M3 = gz M + 75 := by rw [e3]; exact z2
      have t193 : gT M2 193 = .inr (6, 3) := hS2.1 _ _ rfl
      have hS3 : Sh M3 := by
        rw [e3]
        refine ⟨fun a sh x => hS2.1 a sh x, fun a k c x => ?_⟩
        by_cases e : a = 193
        · subst e
          cases (show (none : Option Nat) = some c from x)
        · rw [gR_sq _ _ e]; exact hS2.2 a k c x
      have hir := h.ir hc
      have hm3 : MR M3 K := (hir.sme h8 ⟨by omega, Or.inl rfl⟩ (by omega) sm).mr hS3 (by omega)
      have hc3 : CapP M3 := hc.mv ((sm 118 (by omega) (by omega)).2.2.2 0) (fun p' a b => by
        rw [p1] at a
        cases a
        unfold PlA at p3
        refine ⟨(sm p (by omega) (by omega)).2.2.2 14, fun cd' c => ?_⟩
        rw [p2] at c
        cases c
        exact (sm cd (by omega) (by omega)).1)
      have e193o : ∀ j, j ≠ i → gR M3 193 j = gR M 193 j := fun j hj => by
        rw [e3, gR_sk _ _ hj]
        exact (ho2 193 (by omega)).2.2.2 j
      have e193 : gR M3 193 i = some (gz M) := by rw [e3]; exact gR_ss _ _ _ _
      have go := fin M3 (gz M) hS3 hm3 hc3 (by omega) (fun r hr => sm r (by unfold Ki at hr; omega) (by unfold Ki at hr; omega)) e193 h8 (by omega) (hM2.sc.sm (fun r x y => ⟨(s3 r (by omega)).1, fun k _ => (s3 r (by omega)).2.2.2 k⟩)) (Dj.new hir h8 ⟨by omega, by omega⟩ sm) (fun j hj hji => by
        rcases him j hj with ⟨a, b⟩ | ⟨a, q', b1, b2, b3, b4, b5, b6, b7⟩
        · exact Or.inl ⟨a, (e193o j hji).trans b⟩
        · refine Or.inr ⟨a, q', (e193o j hji).trans b1, b2, by omega, b4.sm (fun r x y => ⟨(sm r (by omega) (by omega)).1, fun k _ => (sm r (by omega) (by omega)).2.2.2 k⟩), b5.sme h8 ⟨b3, Or.inr b2⟩ (by omega) sm, b6.sme hir h8 ⟨by omega, by omega⟩ sm, Dj.new b5 h8 ⟨by omega, by omega⟩ sm, fun j' hj' hji' q2 hq2 => ?_, Or.inl b3⟩
          rw [e193o j' hji'] at hq2
          obtain ⟨d1, d2⟩ := b7 j' hj' q2 hq2
          obtain ⟨_, u1, u2, _, u5, _⟩ := him.ir hj' hq2
          exact ⟨d1.sme u5 h8 ⟨by omega, by omega⟩ sm, d2⟩)
      refine v_aast dX11_image_26 t193 (by decide) (vp_in_nI hi (by decide)) hM2.2.2.1.1 ?_
      rw [nI_clamp hi2, ← e3]
      exact go
    · refine v_aload_n dX11_image_0 rfl ?_
      refine v_iload_n dX11_image_1 rfl ?_
      refine v_cVv [_] (q1) k11_needImage dX11_image_2 l11_385 (by first | exact hS'.1 _ _ rfl | assumption) (by decide) rfl (Nat.le_of_ble_eq_true rfl) (Nat.le_of_ble_eq_true rfl) ?_
      refine v_aload_n dX11_image_5 rfl ?_
      refine v_getR 11 7 _ dX11_image_6 f11_38 (by first | exact hS'.1 _ _ rfl | assumption) (by decide) (by first | exact hS'.2 _ _ _ rfl | assumption) ?_
      refine v_iload_n dX11_image_9 rfl ?_
      skip
      refine v_aald q dX11_image_10 (hS.1 _ _ rfl) (by decide) (vp_in_nI hi (by decide)) (by rw [nI_clamp hi2]; exact g1) ?_
      refine v_ifnonnull 27 dX11_image_11 (by decide) ?_
      refine V.up ?_ (Nat.zero_le _) (Nat.zero_le _)
      exact fin M q hS h hc (Nat.le_refl _) (fun r _ => ⟨rfl, rfl, fun _ => rfl, fun _ => rfl⟩) g1 g2 g3 g4 g6 (fun j hj hji => by
        rcases him j hj with ⟨a, b⟩ | ⟨a, q', b1, b2, b3, b4, b5, b6, b7⟩
        · exact Or.inl ⟨a, b⟩
        · exact Or.inr ⟨a, q', b1, b2, b3, b4, b5, b6, (g7 j hj q' b1).1, fun j' hj' _ q2 hq2 => b7 j' hj' q2 hq2, (g7 j hj q' b1).2 hji⟩)
  · refine V.up (kc := 1) (ks := 6) ?_ (by omega) (by omega)
    refine v_aload_n dX11_image_0 rfl ?_
    refine v_iload_n dX11_image_1 rfl ?_
    refine v_callV [_] (c11_needImageF G M hr) k11_needImage dX11_image_2 l11_385 (by first | exact hS'.1 _ _ rfl | assumption) (by decide) rfl (Nat.le_of_ble_eq_true rfl) (Nat.le_of_ble_eq_true rfl) (fun _ _ h => h.elim) (fun E M9 he => ?_)
    exact ⟨hr, he⟩
theorem c11_restore {K A B : Nat → Int32} (h : MR M K) (hc : CapP M) (him : IMs M A B) (x : Int32) : Ct G Y11_restore 40 1 6 [.ref 100, .int x] M (fun v M' => inR 3 x = true ∧ ¬ B x.toNatClampNeg = 0 ∧ v = none ∧ gz M ≤ gz M' ∧ (∀ q, Ki q → Sme M M' q) ∧ MR M' (cpK K 0 (fun t => A (2120 * x.toNatClampNeg + t)) 2120) ∧ CapP M' ∧ IMs M' A B) (fun E M' => (inR 3 x ≠ true ∧ Tg nsE M E M') ∨ (inR 3 x = true ∧ B x.toNatClampNeg = 0 ∧ Tg isE M E M')) := by
  have hS := h.1
  have h8 := h.2.2.1
  have hS' := hS
  refine Ct.of k11_restore.1 (Nat.le_of_ble_eq_true rfl) ?_
  by_cases hr : inR 3 x = true
  · obtain ⟨i, hi, rfl, hi2⟩ := inR_of hr
    have q1 := c11_needImage G M hr
    rw [nI_clamp hi2]
    rcases him i hi with ⟨hB, hn⟩ | ⟨hB, q, g1, g2, g3, g4, g5, g6, g7⟩
    · refine v_aload_n dX11_restore_0 rfl ?_
      refine v_iload_n dX11_restore_1 rfl ?_
      refine v_cVv [_] (q1) k11_needImage dX11_restore_2 l11_385 (by first | exact hS'.1 _ _ rfl | assumption) (by decide) rfl (Nat.le_of_ble_eq_true rfl) (Nat.le_of_ble_eq_true rfl) ?_
      refine v_aload_n dX11_restore_5 rfl ?_
      refine v_getR 11 7 _ dX11_restore_6 f11_38 (by first | exact hS'.1 _ _ rfl | assumption) (by decide) (by first | exact hS'.2 _ _ _ rfl | assumption) ?_
      refine v_iload_n dX11_restore_9 rfl ?_
      skip
      refine v_aaldN dX11_restore_10 (hS.1 _ _ rfl) (by decide) (vp_in_nI hi (by decide)) (by rw [nI_clamp hi2]; exact hn) ?_
      refine v_astore_nN dX11_restore_11 rfl (by decide) ?_
      refine v_aload_nN dX11_restore_12 rfl ?_
      refine v_ifnonnullN dX11_restore_13 ?_
      exact V.post (v_throwW (cls := isE) (text := "no such image was made") rfl (by decide +kernel) at_isek (by decide +kernel) at_ise dX11_restore_16 dX11_restore_19 dX11_restore_20 dX11_restore_23 dX11_restore_26 (by decide) (by decide) Tg.mk : V G Y11_restore 40 1 6 (fun _ _ => False) (Tg isE M) 16 _ _ M) (fun _ _ h => h.elim) (fun E M' he => Or.inr ⟨hr, hB, he⟩)
    · obtain ⟨hW, nx, p, cd, n, rd, l1, hn9, h1, h2, h3, h4, h5⟩ := id g5
      have htk := c6_takeFrom G M (q := 118) hS.sc g4 h2 h1 (by omega) hW
      refine v_aload_n dX11_restore_0 rfl ?_
      refine v_iload_n dX11_restore_1 rfl ?_
      refine v_cVv [_] (q1) k11_needImage dX11_restore_2 l11_385 (by first | exact hS'.1 _ _ rfl | assumption) (by decide) rfl (Nat.le_of_ble_eq_true rfl) (Nat.le_of_ble_eq_true rfl) ?_
      refine v_aload_n dX11_restore_5 rfl ?_
      refine v_getR 11 7 _ dX11_restore_6 f11_38 (by first | exact hS'.1 _ _ rfl | assumption) (by decide) (by first | exact hS'.2 _ _ _ rfl | assumption) ?_
      refine v_iload_n dX11_restore_9 rfl ?_
      skip
      refine v_aald q dX11_restore_10 (hS.1 _ _ rfl) (by decide) (vp_in_nI hi (by decide)) (by rw [nI_clamp hi2]; exact g1) ?_
      refine v_astore_n dX11_restore_11 rfl (by decide) ?_
      refine v_aload_n dX11_restore_12 rfl ?_
      skip
      refine v_ifnonnull 27 dX11_restore_13 (by decide) ?_
      refine V.up (kc := 0) (ks := 0) ?_ (Nat.zero_le _) (Nat.zero_le _)
      refine v_aload_n dX11_restore_27 rfl ?_
      refine v_getR 11 6 _ dX11_restore_28 f11_34 (by first | exact hS'.1 _ _ rfl | assumption) (by decide) (by first | exact hS'.2 _ _ _ rfl | assumption) ?_
      refine v_aload_n dX11_restore_31 rfl ?_
      skip
      refine v_scVv [_] htk k6_takeFrom dX11_restore_32 l11_388 (hS.1 _ _ rfl) (by decide) rfl (Nat.le_of_ble_eq_true rfl) (Nat.le_of_ble_eq_true rfl) (fun M4 hM4 => ?_)
      obtain ⟨e, hD⟩ := hM4
      have zz : gz M4 = gz M := e.1
      have tt : gT M4 = gT M := e.2.1
      have jj : gJ M4 = gJ M := e.2.2.1
      have rr : ∀ r k, ¬ (r = 118 ∧ k = 0) → gR M4 r k = gR M r k := fun r k a => by
        rw [e.2.2.2.1, gR_sR]
        unfold up2
        rw [if_neg a]
      have r0 : gR M4 118 0 = some p := by rw [e.2.2.2.1]; exact gR_ss _ _ _ _
      have sm : ∀ r, r < 118 ∨ (118 < r ∧ r < 126) ∨ 192 < r → Sme M M4 r := fun r a => ⟨by rw [tt], funext (fun k => e.2.2.2.2 r k (Wsc_o (by omega) k)), fun k => by rw [jj], fun k => rr r k (by omega)⟩
      have hS4 : Sh M4 := ⟨fun a sh x => by rw [tt]; exact hS.1 a sh x, fun a k c x => by
        rw [rr a k (fun z => by rw [z.1, z.2] at x; cases (show (none : Option Nat) = some c from x))]
        exact hS.2 a k c x⟩
      have pl : ∀ p cd, PlA M p cd → (∀ a, p ≤ a → a ≤ p + 6 → Sme M M4 a) ∧ Sme M M4 cd := fun p cd z => by
        unfold PlA at z
        exact ⟨fun a x y => sm a (by omega), sm cd (by omega)⟩
      have hx : IR M4 118 (fun t => A (2120 * i + t)) := by
        have y : IR M4 q (fun t => A (2120 * i + t)) := g5.mv (by omega) (fun a x y => (sm a (by omega)).2.1) (rr q 0 (by omega)) (fun p cd _ _ z => pl p cd z)
        obtain ⟨hW2, nx2, p2, cd2, n2, rd2, l12, k1, k2, k3, k4, k5, k6⟩ := y
        rw [rr q 0 (by omega), h2] at k3
        cases k3
        exact ⟨hW2, nx, p, cd2, n2, rd2, l12, k1, hD, r0, k4, k5, k6⟩
      have hm4 : MR M4 (cpK K 0 (fun t => A (2120 * i + t)) 2120) := (IR_b hx (fun t ht => (cpK_in (K := K) (a := 0) (n := 2120) (i := t) (Nat.zero_le _) (by omega)).trans rfl)).mr hS4 (by omega)
      have hcap : CapP M4 := fun p' a b cd' n' c d => by
        rw [r0] at a
        cases a
        rw [rr p 14 (by omega), h3.1.2.2.2.2.2.2.2.2.2.2.2.1] at c
        cases c
        rw [tt, h3.1.2.2.2.2.2.2.2.2.2.2.2.2.1] at d
        have h1 := Sum.inr.inj d
        have : n = n' := (Prod.mk.inj h1).2
        omega
      have dj : ∀ s q2, s ≠ 118 → Dj M s q2 → Dj M4 s q2 := fun s q2 a d => d.mv (rr s 0 (by omega)) (fun p _ _ => rr p 14 (by omega))
      have dj0 : ∀ q2, Dj M q q2 → Dj M4 118 q2 := fun q2 d p' a b => by
        rw [r0] at a
        cases a
        have := dj q q2 (by omega) d p (by rw [rr q 0 (by omega)]; exact h2) b
        exact this
      have him4 : IMs M4 A B := fun j hj => by
        rcases him j hj with ⟨a, b⟩ | ⟨a, q', b1, b2, b3, b4, b5, b6, b7⟩
        · exact Or.inl ⟨a, (rr 193 j (by omega)).trans b⟩
        · refine Or.inr ⟨a, q', (rr 193 j (by omega)).trans b1, b2, by omega, b4.sm (fun r x y => ⟨by rw [tt], fun k _ => rr r k (by omega)⟩), b5.mv (by omega) (fun r x y => (sm r (by omega)).2.1) (rr q' 0 (by omega)) (fun p cd _ _ z => pl p cd z), dj0 q' (b7 i hi q g1).1, fun j' hj' q2 hq2 => ?_⟩
          rw [rr 193 j' (by omega)] at hq2
          obtain ⟨d1, d2⟩ := b7 j' hj' q2 hq2
          obtain ⟨_, u1, _⟩ := him.ir hj' hq2
          exact ⟨dj q2 q' (by omega) d1, d2⟩
      have hk : ∀ r, Ki r → Sme M M4 r := fun r hr => sm r (by unfold Ki at hr; omega)
      refine v_vret dX11_restore_35 rfl ?_
      exact ⟨hr, by rw [hB]; decide, rfl, by omega, hk, hm4, hcap, him4⟩
  · refine v_aload_n dX11_restore_0 rfl ?_
    refine v_iload_n dX11_restore_1 rfl ?_
    refine v_callV [_] (c11_needImageF G M hr) k11_needImage dX11_restore_2 l11_385 (by first | exact hS'.1 _ _ rfl | assumption) (by decide) rfl (Nat.le_of_ble_eq_true rfl) (Nat.le_of_ble_eq_true rfl) (fun _ _ h => h.elim) (fun E M9 he => ?_)
    exact Or.inl ⟨hr, he⟩
end CI2
