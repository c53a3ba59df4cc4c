/-! ===== the reference: a new chest ===== -/
/-- whether no chest IN is like marks f by all words -/
def nwF (K : Nat → Int32) (S : Nat) : Nat → Nat → Bool
  | 0, _ => true
  | i + 1, c => if (kn K 93).testBit c = true ∧ trH K c = S then false else nwF K S i (c + 1)
def nwB (K : Nat → Int32) (f : Nat → Int32) : Bool := nwF K (wset K f (-1)) (kn K 2) 0
theorem wset_cg {K : Nat → Int32} (hP : WP K) {f g : Nat → Int32} (h : ∀ m, m < kn K 1 → f m = g m) (num : Int32) : wset K f num = wset K g num := bset_ext (fun w hw => wt_cong hP h num hw)
theorem nwB_cg {K : Nat → Int32} (hP : WP K) {f g : Nat → Int32} (h : ∀ m, m < kn K 1 → f m = g m) : nwB K f = nwB K g := by
  unfold nwB
  rw [wset_cg hP h]
/-- the lists of j marks from m on, just left of them changed -/
def cnd (was : Nat → Int32) : Nat → Nat → Nat → List (List Nat)
  | 0, _, left => if left = 0 then [[]] else []
  | j + 1, m, left => if j + 1 < left then [] else (List.range' 0 10).flatMap (fun v => if nI v = was m then (cnd was j (m + 1) left).map (fun t => v :: t) else if left = 0 then [] else (cnd was j (m + 1) (left - 1)).map (fun t => v :: t))
def cndV (was : Nat → Int32) (j m left v : Nat) : List (List Nat) := if nI v = was m then (cnd was j (m + 1) left).map (fun t => v :: t) else if left = 0 then [] else (cnd was j (m + 1) (left - 1)).map (fun t => v :: t)
def wasM (K : Nat → Int32) (c m : Nat) : Int32 := lkv K (kn K 4) (litB K) c m
/-- marks behind a prefix -/
def mkF (p : Nat → Int32) (m : Nat) (t : List Nat) : Nat → Int32 := fun i => if i < m then p i else nI (t.getD (i - m) 0)
def Wgn (q k : Nat) : Bool := Nat.beq q 236 || Nat.beq q 237 || (Nat.beq q 230 && Nat.beq k 19) || Nat.beq q 243
theorem Sm.g1 {M M' : mM} (h : Sm Wev M M') : Sm Wgn M M' := h.wk (fun q k z => by simp only [Wgn, Wev, Bool.or_eq_false_iff] at z ⊢; exact z.1)
theorem HH.gn {M M' : mM} {K : Nat → Int32} (h : HH M K) (e : Sm Wgn M M') : HH M' K := fun c hc => by
  rw [e.2.2.2.2 239 c rfl, e.2.2.2.2 240 c rfl, e.2.2.2.2 238 c rfl]
  exact h c hc
section RZ
variable (G : mG) (M : mM)
theorem l12_isNew2 {R : Bool} (hS : Sh M) (hP : WP (gI M 231)) (hI : inOK (gI M 231)) (hH : HH M (gI M 231)) {S : Nat} (hs : S < 1024) (M0 : mM) (hM0 : Sm Wev M0 M) : ∀ i c, c + i = kn (gI M 231) 2 → R = nwF (gI M 231) S i c → V G Y12_isNew 5 0 0 (Rs (some (.int (bI (R = true)))) (Sm Wev M0)) NX 42 [some (.ref 230), some (.int (nI S)), some (.int (nI c))] [] M := by
  have h14 := hP.2.1.2
  intro i
  induction i with
  | zero =>
    intro c hc hR
    obtain rfl : c = kn (gI M 231) 2 := by omega
    refine v_iload_n dX12_isNew_42 rfl ?_
    refine v_aload_n dX12_isNew_43 rfl ?_
    refine v_cV [] (c12_chestsN G M hS hP) k12_chests dX12_isNew_44 l12_245 (by first | exact hS.1 _ _ rfl | exact hS'.1 _ _ rfl | assumption) (by decide) rfl (Nat.le_of_ble_eq_true rfl) (Nat.le_of_ble_eq_true rfl) ?_
    refine v_icmp_ge 76 dX12_isNew_47 (by decide) (fun h47 => ?_) (fun h47 => absurd (nI_le (Nat.le_refl _) (by omega)) h47)
    refine v_iconst 1 dX12_isNew_76 (by decide) ?_
    refine v_zret dX12_isNew_77 rfl (by first | rfl | exact bI_nb _ | assumption) ?_
    exact ⟨by rw [hR]; rfl, hM0⟩
  | succ i ih =>
    intro c hc hR
    have q1 := hH.hold hP c (by omega)
    have q2 := q1.2
    rw [show nwF (gI M 231) S (i + 1) c = if (kn (gI M 231) 93).testBit c = true ∧ trH (gI M 231) c = S then false else nwF (gI M 231) S i (c + 1) from rfl] at hR
    refine v_iload_n dX12_isNew_42 rfl ?_
    refine v_aload_n dX12_isNew_43 rfl ?_
    refine v_cV [] (c12_chestsN G M hS hP) k12_chests dX12_isNew_44 l12_245 (by first | exact hS.1 _ _ rfl | exact hS'.1 _ _ rfl | assumption) (by decide) rfl (Nat.le_of_ble_eq_true rfl) (Nat.le_of_ble_eq_true rfl) ?_
    refine v_icmp_ge 76 dX12_isNew_47 (by decide) (fun h47 => absurd ((nI_leI (by omega) (by omega)).mp h47) (by omega)) (fun h47 => ?_)
    refine v_aload_n dX12_isNew_50 rfl ?_
    refine v_iload_n dX12_isNew_51 rfl ?_
    refine v_cV [_] (c12_isInN G M hS hP hI (by omega)) k12_isIn dX12_isNew_52 l12_250 (by first | exact hS.1 _ _ rfl | exact hS'.1 _ _ rfl | assumption) (by decide) rfl (Nat.le_of_ble_eq_true rfl) (Nat.le_of_ble_eq_true rfl) ?_
    refine v_if_eq 70 dX12_isNew_55 (by decide) (fun h55 => ?_) (fun h55 => ?_)
    · refine v_iinc 1 dX12_isNew_70 rfl (by decide) rfl (by decide) ?_
      refine v_goto 42 dX12_isNew_73 (by decide) ?_
      (rw [nI_1]; (try simp (disch := omega) only [nI_leI, nI_ltI, nI_eq, nI0, bI_z, bI_lez, Decidable.not_not] at h47 h55); first | (rw [if_neg (fun z => h55 z.1)] at hR; exact ih (c + 1) (by omega) hR) | (rw [if_neg (fun z => h65 z.2)] at hR; exact ih (c + 1) (by omega) hR))
    · refine v_aload_n dX12_isNew_58 rfl ?_
      refine v_getR 12 20 _ dX12_isNew_59 f12_36 (by first | exact hS.1 _ _ rfl | exact hS'.1 _ _ rfl | assumption) (by decide) (by first | exact hS.2 _ _ _ rfl | exact hS'.2 _ _ _ rfl | assumption) ?_
      refine v_iload_n dX12_isNew_62 rfl ?_
      refine v_ialdN (c) dX12_isNew_63 (by first | exact hS.1 _ _ rfl | exact hS'.1 _ _ rfl | assumption) (by simp only [n_lit, pk_mul, nI_add]) ⟨by omega, by omega⟩ ?_
      rw [q1.1]
      refine v_iload_n dX12_isNew_64 rfl ?_
      refine v_icmp_ne 70 dX12_isNew_65 (by decide) (fun h65 => ?_) (fun h65 => ?_)
      · refine v_iinc 1 dX12_isNew_70 rfl (by decide) rfl (by decide) ?_
        refine v_goto 42 dX12_isNew_73 (by decide) ?_
        (rw [nI_1]; (try simp (disch := omega) only [nI_leI, nI_ltI, nI_eq, nI0, bI_z, bI_lez, Decidable.not_not] at h47 h55 h65); first | (rw [if_neg (fun z => h55 z.1)] at hR; exact ih (c + 1) (by omega) hR) | (rw [if_neg (fun z => h65 z.2)] at hR; exact ih (c + 1) (by omega) hR))
      · refine v_iconst 0 dX12_isNew_68 (by decide) ?_
        refine v_zret dX12_isNew_69 rfl (by first | rfl | exact bI_nb _ | assumption) ?_
        ((try simp (disch := omega) only [nI_leI, nI_ltI, nI_eq, nI0, bI_z, bI_lez, Decidable.not_not] at h47 h55 h65); exact ⟨by rw [hR, if_pos ⟨h55, h65⟩]; rfl, hM0⟩)
theorem l12_isNew1 (hS : Sh M) (hP : WP (gI M 231)) (hI : inOK (gI M 231)) (hH : HH M (gI M 231)) : ∀ i m M', m + i = kn (gI M 231) 1 → Sm Wev M M' → (∀ j, j < m → gI M' 236 j = gI M 243 j) → V G Y12_isNew 5 0 0 (Rs (some (.int (bI (nwB (gI M 231) (gI M 243) = true)))) (Sm Wev M)) NX 2 [some (.ref 230), some (.int (nI m)), none] [] M' := by
  have h6 := hP.1.2.2
  intro i
  induction i with
  | zero =>
    intro m M' hm hM hs
    have hS' := hS.sm hM
    have eK : gI M' 231 = gI M 231 := hM.K (fun _ => rfl)
    obtain rfl : m = kn (gI M 231) 1 := by omega
    have hM2 : Sm Wev M (sI M' 230 19 (-1)) := hM.st _ rfl
    have hcon := c12_seenWords G (sI M' 230 19 (-1)) (hS.sm hM2) (by rw [hM2.K (fun _ => rfl)]; exact hP)
    rw [hM2.K (fun _ => rfl), gI_ss, gI_sr M' (a := 236) (-1) (by decide)] at hcon
    rw [wset_cg hP (g := gI M 243) (fun j hj => hs j hj)] at hcon
    refine v_iload_n dX12_isNew_2 rfl ?_
    refine v_aload_n dX12_isNew_3 rfl ?_
    refine v_getR 12 0 _ dX12_isNew_4 f12_9 (hS'.1 _ _ rfl) (by decide) (hS'.2 _ _ _ rfl) ?_
    refine v_iconst 1 dX12_isNew_7 (by decide) ?_
    refine v_ialdN 1 dX12_isNew_8 (hS'.1 _ _ rfl) rfl (by decide) ?_
    rw [eK, hP.1.1]
    refine v_icmp_ge 30 dX12_isNew_9 (by decide) (fun h9 => ?_) (fun h9 => absurd (nI_le (Nat.le_refl _) (by omega)) h9)
    refine v_aload_n dX12_isNew_30 rfl ?_
    refine v_iconst (-1) dX12_isNew_31 (by decide) ?_
    refine v_putI 12 19 dX12_isNew_32 f12_273 (hS'.1 _ _ rfl) (by decide) ?_
    refine v_aload_n dX12_isNew_35 rfl ?_
    refine v_scV [] (hcon) k12_seenWords dX12_isNew_36 l12_290 (hS'.1 _ _ rfl) (by decide) rfl (Nat.le_of_ble_eq_true rfl) (Nat.le_of_ble_eq_true rfl) ?_
    intro M3 hM3
    refine v_istore_n dX12_isNew_39 rfl (by decide) ?_
    refine v_iconst 0 dX12_isNew_40 (by decide) ?_
    refine v_istore_n dX12_isNew_41 rfl (by decide) ?_
    skip
    have hM4 : Sm Wev M M3 := hM2.tr (hM3.wk (fun q k z => by simp only [Wev, W237, Bool.or_eq_false_iff] at z ⊢; exact z.1.2))
    have e3 : gI M3 231 = gI M 231 := hM4.K (fun _ => rfl)
    have hl := l12_isNew2 G M3 (R := nwB (gI M 231) (gI M 243)) (hS.sm hM4) (by rw [e3]; exact hP) (by rw [e3]; exact hI) (by rw [e3]; exact fun c hc => by rw [hM4.2.2.2.2 239 c rfl, hM4.2.2.2.2 240 c rfl, hM4.2.2.2.2 238 c rfl]; exact hH c hc) (S := wset (gI M 231) (gI M 243) (-1)) (wset_lt hP _ _) M hM4 (kn (gI M 231) 2) 0 (by rw [e3]; omega) (by rw [e3]; rfl)
    exact hl
  | succ i ih =>
    intro m M' hm hM hs
    have hS' := hS.sm hM
    have eK : gI M' 231 = gI M 231 := hM.K (fun _ => rfl)
    refine v_iload_n dX12_isNew_2 rfl ?_
    refine v_aload_n dX12_isNew_3 rfl ?_
    refine v_getR 12 0 _ dX12_isNew_4 f12_9 (hS'.1 _ _ rfl) (by decide) (hS'.2 _ _ _ rfl) ?_
    refine v_iconst 1 dX12_isNew_7 (by decide) ?_
    refine v_ialdN 1 dX12_isNew_8 (hS'.1 _ _ rfl) rfl (by decide) ?_
    rw [eK, hP.1.1]
    refine v_icmp_ge 30 dX12_isNew_9 (by decide) (fun h9 => absurd ((nI_leI (by omega) (by omega)).mp h9) (by omega)) (fun h9 => ?_)
    refine v_aload_n dX12_isNew_12 rfl ?_
    refine v_getR 12 17 _ dX12_isNew_13 f12_30 (hS'.1 _ _ rfl) (by decide) (hS'.2 _ _ _ rfl) ?_
    refine v_iload_n dX12_isNew_16 rfl ?_
    refine v_aload_n dX12_isNew_17 rfl ?_
    refine v_getR 12 26 _ dX12_isNew_18 f12_51 (hS'.1 _ _ rfl) (by decide) (hS'.2 _ _ _ rfl) ?_
    refine v_iload_n dX12_isNew_21 rfl ?_
    refine v_ialdN (m) dX12_isNew_22 (hS'.1 _ _ rfl) (by simp only [n_lit, pk_mul, nI_add]) ⟨by omega, by omega⟩ ?_
    refine v_iastN (m) dX12_isNew_23 (hS'.1 _ _ rfl) (by simp only [n_lit, pk_mul, nI_add]) ⟨by omega, by omega⟩ ?_
    refine v_iinc 1 dX12_isNew_24 rfl (by decide) rfl (by decide) ?_
    refine v_goto 2 dX12_isNew_27 (by decide) ?_
    skip
    rw [nI_1]
    refine ih (m + 1) _ (by omega) (hM.st _ rfl) (fun j hj => ?_)
    by_cases e : j = m
    · subst e; rw [gI_ss]; exact hM.2.2.2.2 243 j rfl
    · rw [gI_sk _ _ e]; exact hs j (by omega)
theorem c12_isNew (hS : Sh M) (hP : WP (gI M 231)) (hI : inOK (gI M 231)) (hH : HH M (gI M 231)) : Ct G Y12_isNew 5 0 0 [.ref 230] M (Rs (some (.int (bI (nwB (gI M 231) (gI M 243) = true)))) (Sm Wev M)) NX := by
  refine Ct.of k12_isNew.1 (Nat.le_of_ble_eq_true rfl) ?_
  refine v_iconst 0 dX12_isNew_0 (by decide) ?_
  refine v_istore_n dX12_isNew_1 rfl (by decide) ?_
  -- at 2: .iload_n 1
  refine v_pad ?_
  exact l12_isNew1 G M hS hP hI hH (kn (gI M 231) 1) 0 M (by omega) Sm.rf (fun j hj => absurd hj (by omega))
end RZ
section RZ2
variable (G : mG) (K : Nat → Int32)
/-- what goesNew leaves: M' -/
def GnP (M : mM) (m : Nat) (r : Option (List Nat)) (M' : mM) : Prop := Sm Wgn M M' ∧ (∀ i, i < m → gI M' 243 i = gI M 243 i) ∧ ∀ t, r = some t → ∀ i, m ≤ i → i < kn K 1 → gI M' 243 i = nI (t.getD (i - m) 0)
def gnR (c j m left : Nat) (p : Nat → Int32) : Option (List Nat) := (cnd (wasM K c) j m left).find? (fun t => nwB K (mkF p m t))
def GnC (c j : Nat) : Prop := ∀ m left, m + j = kn K 1 → left < 100 → ∀ M, gI M 231 = K → Sh M → WP K → inOK K → HH M K → Ct G Y12_goesNew (j + 6) 0 0 [.ref 230, .int (nI c), .int (nI m), .int (nI left)] M (Rs (some (.int (bI ((gnR K c j m left (gI M 243)).isSome = true)))) (GnP K M m (gnR K c j m left (gI M 243)))) NX
theorem mkF_cons {p p' : Nat → Int32} {m v : Nat} {t : List Nat} {n : Nat} (h : ∀ i, i < m → p' i = p i) (hm : p' m = nI v) : ∀ i, i < n → mkF p' (m + 1) t i = mkF p m (v :: t) i := by
  intro i _
  unfold mkF
  by_cases h1 : i < m
  · rw [if_pos h1, if_pos (by omega), h i h1]
  · rw [if_neg h1]
    by_cases h2 : i = m
    · subst h2; rw [if_pos (by omega), hm, Nat.sub_self]; rfl
    · rw [if_neg (by omega), show i - m = (i - (m + 1)) + 1 by omega]; rfl
theorem GnP.mono {M0 M1 M2 : mM} {m v : Nat} {t : List Nat} (h0 : Sm Wgn M0 M1) (h1 : ∀ i, i < m → gI M1 243 i = gI M0 243 i) (hv : gI M1 243 m = nI v) (h : GnP K M1 (m + 1) (some t) M2) : GnP K M0 m (some (v :: t)) M2 := by
  refine ⟨h0.tr h.1, fun i hi => (h.2.1 i (by omega)).trans (h1 i hi), fun t' e i h2 h3 => ?_⟩
  cases e
  by_cases e : i = m
  · subst e; rw [h.2.1 i (by omega), hv, Nat.sub_self]; rfl
  · rw [h.2.2 t rfl i (by omega) h3, show i - m = (i - (m + 1)) + 1 by omega]; rfl
theorem l12_goesNew {c j m left : Nat} (ih : GnC G K c j) (hm : m + (j + 1) = kn K 1) (hl : left < 100) (M : mM) (eK0 : gI M 231 = K) (hS : Sh M) (hP : WP K) (hI : inOK K) (hH : HH M K) {Q : Option Value → mM → Prop} (r : Option (List Nat)) (hq : ∀ M', GnP K M m r M' → Q (some (.int (bI (r.isSome = true)))) M') :
    ∀ i v M', v + i = 10 → Sm Wgn M M' → (∀ i, i < m → gI M' 243 i = gI M 243 i) → r = ((List.range' v i).flatMap (cndV (wasM K c) j m left)).find? (fun t => nwB K (mkF (gI M 243) m t)) → V G Y12_goesNew (j + 7) 0 0 Q NX 68 [some (.ref 230), some (.int (nI c)), some (.int (nI m)), some (.int (nI left)), some (.int (wasM K c m)), some (.int (nI v))] [] M' := by
  have h6 := hP.1.2.2
  intro i
  induction i with
  | zero =>
    intro v M' hv hM hp hr
    obtain rfl : v = 10 := by omega
    obtain rfl : r = none := hr
    refine v_iload dX12_goesNew_68 rfl ?_
    refine v_bipush 10 dX12_goesNew_70 (by decide) ?_
    refine v_icmp_ge 130 dX12_goesNew_72 (by decide) (fun h72 => ?_) (fun h72 => absurd (by decide) h72)
    refine v_iconst 0 dX12_goesNew_130 (by decide) ?_
    refine v_zret dX12_goesNew_131 rfl (by first | rfl | exact bI_nb _ | assumption) ?_
    exact hq M' ⟨hM, hp, fun t e => by cases e⟩
  | succ i ih2 =>
    intro v M' hv hM hp hr
    have hS' := hS.sm hM
    have eK : gI M' 231 = K := (hM.K (fun _ => rfl)).trans eK0
    rw [List.range'_succ, List.flatMap_cons, List.find?_append] at hr
    have skp : cndV (wasM K c) j m left v = [] → V G Y12_goesNew (j + 7) 0 0 Q NX 68 [some (.ref 230), some (.int (nI c)), some (.int (nI m)), some (.int (nI left)), some (.int (wasM K c m)), some (.int (nI (v + 1)))] [] M' := by
      intro e
      rw [e] at hr
      exact ih2 (v + 1) M' (by omega) hM hp hr
    have hM2 : Sm Wgn M (sI M' 243 m (nI v)) := hM.st _ rfl
    have hp2 : ∀ i, i < m → gI (sI M' 243 m (nI v)) 243 i = gI M 243 i := fun i hi => by rw [gI_sk _ _ (by omega)]; exact hp i hi
    have go : ∀ l2, cndV (wasM K c) j m left v = (cnd (wasM K c) j (m + 1) l2).map (fun t => v :: t) → l2 < 100 → V G Y12_goesNew (j + 7) 0 0 Q NX 116 [some (.ref 230), some (.int (nI c)), some (.int (nI m)), some (.int (nI left)), some (.int (wasM K c m)), some (.int (nI v))] [.int (nI l2), .int (nI (m + 1)), .int (nI c), .ref 230] (sI M' 243 m (nI v)) := by
      intro l2 e h2
      have hcon := ih (m + 1) l2 (by omega) h2 (sI M' 243 m (nI v)) ((gI_sr _ _ (by decide)).trans eK) (hS.sm hM2) hP hI (hH.gn hM2)
      have er : (cndV (wasM K c) j m left v).find? (fun t => nwB K (mkF (gI M 243) m t)) = (gnR K c j (m + 1) l2 (gI (sI M' 243 m (nI v)) 243)).map (fun t => v :: t) := by
        rw [e, List.find?_map]
        congr 1
        unfold gnR
        congr 1
        funext t
        exact nwB_cg hP (fun i hi => (mkF_cons (n := kn K 1) hp2 (gI_ss _ _ _ _) i hi).symm)
      rw [er] at hr
      generalize gnR K c j (m + 1) l2 (gI (sI M' 243 m (nI v)) 243) = o at hcon hr
      refine v_scV [_, _, _] hcon k12_goesNew dX12_goesNew_116 l12_444 (hS'.1 _ _ rfl) (by decide) rfl (by omega) (Nat.le_of_ble_eq_true rfl) (fun M3 hM3 => ?_)
      cases o with
      | none =>
        rw [show bI ((none : Option (List Nat)).isSome = true) = 0 from rfl]
        refine v_if_eq 124 dX12_goesNew_119 (by decide) (fun h119 => ?_) (fun h119 => absurd rfl h119)
        refine v_iinc 1 dX12_goesNew_124 rfl (by decide) rfl (by decide) ?_
        refine v_goto 68 dX12_goesNew_127 (by decide) ?_
        (rw [nI_1]; exact ih2 (v + 1) M3 (by omega) (hM2.tr hM3.1) (fun i hi => (hM3.2.1 i (by omega)).trans (hp2 i hi)) hr)
      | some t =>
        rw [show bI ((some t : Option (List Nat)).isSome = true) = 1 from rfl]
        obtain rfl : r = some (v :: t) := hr
        refine v_if_eq 124 dX12_goesNew_119 (by decide) (fun h119 => absurd h119 (by decide)) (fun h119 => ?_)
        refine v_iconst 1 dX12_goesNew_122 (by decide) ?_
        refine v_zret dX12_goesNew_123 rfl (by first | rfl | exact bI_nb _ | assumption) ?_
        exact hq M3 (GnP.mono K hM2 hp2 (gI_ss _ _ _ _) hM3)
    have h1 : (1 : Int32) = nI 1 := rfl
    refine v_iload dX12_goesNew_68 rfl ?_
    refine v_bipush 10 dX12_goesNew_70 (by decide) ?_
    refine v_icmp_ge 130 dX12_goesNew_72 (by decide) (fun h72 => absurd ((nI_leI (a := 10) (by decide) (by omega)).mp h72) (by omega)) (fun h72 => ?_)
    refine v_iload dX12_goesNew_75 rfl ?_
    refine v_iload dX12_goesNew_77 rfl ?_
    refine v_icmp_eq 89 dX12_goesNew_79 (by decide) (fun h79 => ?_) (fun h79 => ?_)
    · refine v_aload_n dX12_goesNew_89 rfl ?_
      refine v_getR 12 26 _ dX12_goesNew_90 f12_51 (hS'.1 _ _ rfl) (by decide) (hS'.2 _ _ _ rfl) ?_
      refine v_iload_n dX12_goesNew_93 rfl ?_
      refine v_iload dX12_goesNew_94 rfl ?_
      refine v_iastN (m) dX12_goesNew_96 (hS'.1 _ _ rfl) (by simp only [n_lit, pk_mul, nI_add]) ⟨by omega, by omega⟩ ?_
      refine v_aload_n dX12_goesNew_97 rfl ?_
      refine v_iload_n dX12_goesNew_98 rfl ?_
      refine v_iload_n dX12_goesNew_99 rfl ?_
      refine v_iconst 1 dX12_goesNew_100 (by decide) ?_
      refine v_iadd dX12_goesNew_101 ?_
      refine v_iload dX12_goesNew_102 rfl ?_
      refine v_iload dX12_goesNew_104 rfl ?_
      refine v_icmp_ne 113 dX12_goesNew_106 (by decide) (fun h106 => ?_) (fun h106 => ?_)
      · refine v_iload_n dX12_goesNew_113 rfl ?_
        refine v_iconst 1 dX12_goesNew_114 (by decide) ?_
        refine v_isub dX12_goesNew_115 ?_
        (rw [nI_1]; first | (refine go left ?_ hl; rw [cndV, if_pos (by first | exact h79 | exact Decidable.not_not.mp h106)]) | (rw [h1, pk_sub (by have : left ≠ 0 := fun z => h83 (by rw [z]; rfl); omega)]; refine go (left - 1) ?_ (by omega); rw [cndV, if_neg h79, if_neg (fun z => h83 (by rw [z]; rfl))]) | exact absurd h79 h106 | exact absurd (Decidable.not_not.mp h106) h79)
      · refine v_iload_n dX12_goesNew_109 rfl ?_
        refine v_goto 116 dX12_goesNew_110 (by decide) ?_
        (rw [nI_1]; first | (refine go left ?_ hl; rw [cndV, if_pos (by first | exact h79 | exact Decidable.not_not.mp h106)]) | (rw [h1, pk_sub (by have : left ≠ 0 := fun z => h83 (by rw [z]; rfl); omega)]; refine go (left - 1) ?_ (by omega); rw [cndV, if_neg h79, if_neg (fun z => h83 (by rw [z]; rfl))]) | exact absurd h79 h106 | exact absurd (Decidable.not_not.mp h106) h79)
    · refine v_iload_n dX12_goesNew_82 rfl ?_
      refine v_if_ne 89 dX12_goesNew_83 (by decide) (fun h83 => ?_) (fun h83 => ?_)
      · refine v_aload_n dX12_goesNew_89 rfl ?_
        refine v_getR 12 26 _ dX12_goesNew_90 f12_51 (hS'.1 _ _ rfl) (by decide) (hS'.2 _ _ _ rfl) ?_
        refine v_iload_n dX12_goesNew_93 rfl ?_
        refine v_iload dX12_goesNew_94 rfl ?_
        refine v_iastN (m) dX12_goesNew_96 (hS'.1 _ _ rfl) (by simp only [n_lit, pk_mul, nI_add]) ⟨by omega, by omega⟩ ?_
        refine v_aload_n dX12_goesNew_97 rfl ?_
        refine v_iload_n dX12_goesNew_98 rfl ?_
        refine v_iload_n dX12_goesNew_99 rfl ?_
        refine v_iconst 1 dX12_goesNew_100 (by decide) ?_
        refine v_iadd dX12_goesNew_101 ?_
        refine v_iload dX12_goesNew_102 rfl ?_
        refine v_iload dX12_goesNew_104 rfl ?_
        refine v_icmp_ne 113 dX12_goesNew_106 (by decide) (fun h106 => ?_) (fun h106 => ?_)
        · refine v_iload_n dX12_goesNew_113 rfl ?_
          refine v_iconst 1 dX12_goesNew_114 (by decide) ?_
          refine v_isub dX12_goesNew_115 ?_
          (rw [nI_1]; first | (refine go left ?_ hl; rw [cndV, if_pos (by first | exact h79 | exact Decidable.not_not.mp h106)]) | (rw [h1, pk_sub (by have : left ≠ 0 := fun z => h83 (by rw [z]; rfl); omega)]; refine go (left - 1) ?_ (by omega); rw [cndV, if_neg h79, if_neg (fun z => h83 (by rw [z]; rfl))]) | exact absurd h79 h106 | exact absurd (Decidable.not_not.mp h106) h79)
        · refine v_iload_n dX12_goesNew_109 rfl ?_
          refine v_goto 116 dX12_goesNew_110 (by decide) ?_
          (rw [nI_1]; first | (refine go left ?_ hl; rw [cndV, if_pos (by first | exact h79 | exact Decidable.not_not.mp h106)]) | (rw [h1, pk_sub (by have : left ≠ 0 := fun z => h83 (by rw [z]; rfl); omega)]; refine go (left - 1) ?_ (by omega); rw [cndV, if_neg h79, if_neg (fun z => h83 (by rw [z]; rfl))]) | exact absurd h79 h106 | exact absurd (Decidable.not_not.mp h106) h79)
      · refine v_goto 124 dX12_goesNew_86 (by decide) ?_
        refine v_iinc 1 dX12_goesNew_124 rfl (by decide) rfl (by decide) ?_
        refine v_goto 68 dX12_goesNew_127 (by decide) ?_
        (rw [nI_1]; refine skp ?_; rw [cndV, if_neg h79, if_pos ((nI0 (by omega)).mp (Decidable.not_not.mp h83))])
theorem c12_goesNew_all {c : Nat} (hc : c < 14) : ∀ j, GnC G K c j := by
  intro j
  induction j with
  | zero =>
    intro m left hm hl M eK hS hP hI hH
    have h6 := hP.1.2.2
    obtain rfl : m = kn K 1 := by omega
    have hcon := c12_isNew G M hS (by rw [eK]; exact hP) (by rw [eK]; exact hI) (by rw [eK]; exact hH)
    rw [eK] at hcon
    have em : nwB K (mkF (gI M 243) (kn K 1) []) = nwB K (gI M 243) := nwB_cg hP (fun i hi => if_pos hi)
    refine Ct.of k12_goesNew.1 (Nat.le_of_ble_eq_true rfl) ?_
    by_cases h0 : left = 0
    · subst h0
      by_cases hn : nwB K (gI M 243) = true
      · rw [bI_t hn] at hcon
        have e : gnR K c 0 (kn K 1) 0 (gI M 243) = some [] := by simp [gnR, cnd, em, hn]
        rw [e]
        refine v_iload_n dX12_goesNew_0 rfl ?_
        refine v_aload_n dX12_goesNew_1 rfl ?_
        refine v_getR 12 0 _ dX12_goesNew_2 f12_9 (by first | exact hS.1 _ _ rfl | exact hS'.1 _ _ rfl | assumption) (by decide) (by first | exact hS.2 _ _ _ rfl | exact hS'.2 _ _ _ rfl | assumption) ?_
        refine v_iconst 1 dX12_goesNew_5 (by decide) ?_
        refine v_ialdN 1 dX12_goesNew_6 (by first | exact hS.1 _ _ rfl | exact hS'.1 _ _ rfl | assumption) rfl (by decide) ?_
        rw [eK, hP.1.1]
        refine v_icmp_ne 27 dX12_goesNew_7 (by decide) (fun h7 => absurd rfl h7) (fun h7 => ?_)
        refine v_iload_n dX12_goesNew_10 rfl ?_
        refine v_if_ne 25 dX12_goesNew_11 (by decide) (fun h11 => absurd rfl h11) (fun h11 => ?_)
        refine v_aload_n dX12_goesNew_14 rfl ?_
        refine v_scV [] (hcon) k12_isNew dX12_goesNew_15 l12_440 (by first | exact hS.1 _ _ rfl | exact hS'.1 _ _ rfl | assumption) (by decide) rfl (by omega) (Nat.le_of_ble_eq_true rfl) ?_
        intro M2 hM2
        refine v_if_eq 25 dX12_goesNew_18 (by decide) (fun h18 => absurd h18 (by decide)) (fun h18 => ?_)
        refine v_iconst 1 dX12_goesNew_21 (by decide) ?_
        refine v_goto 26 dX12_goesNew_22 (by decide) ?_
        refine v_zret dX12_goesNew_26 rfl (by first | rfl | exact bI_nb _ | assumption) ?_
        exact ⟨rfl, hM2.g1, fun i hi => hM2.2.2.2.2 243 i rfl, fun t e i h1 h2 => absurd h1 (by omega)⟩
      · rw [bI_f hn] at hcon
        have e : gnR K c 0 (kn K 1) 0 (gI M 243) = none := by simp [gnR, cnd, em, hn]
        rw [e]
        refine v_iload_n dX12_goesNew_0 rfl ?_
        refine v_aload_n dX12_goesNew_1 rfl ?_
        refine v_getR 12 0 _ dX12_goesNew_2 f12_9 (by first | exact hS.1 _ _ rfl | exact hS'.1 _ _ rfl | assumption) (by decide) (by first | exact hS.2 _ _ _ rfl | exact hS'.2 _ _ _ rfl | assumption) ?_
        refine v_iconst 1 dX12_goesNew_5 (by decide) ?_
        refine v_ialdN 1 dX12_goesNew_6 (by first | exact hS.1 _ _ rfl | exact hS'.1 _ _ rfl | assumption) rfl (by decide) ?_
        rw [eK, hP.1.1]
        refine v_icmp_ne 27 dX12_goesNew_7 (by decide) (fun h7 => absurd rfl h7) (fun h7 => ?_)
        refine v_iload_n dX12_goesNew_10 rfl ?_
        refine v_if_ne 25 dX12_goesNew_11 (by decide) (fun h11 => absurd rfl h11) (fun h11 => ?_)
        refine v_aload_n dX12_goesNew_14 rfl ?_
        refine v_scV [] (hcon) k12_isNew dX12_goesNew_15 l12_440 (by first | exact hS.1 _ _ rfl | exact hS'.1 _ _ rfl | assumption) (by decide) rfl (by omega) (Nat.le_of_ble_eq_true rfl) ?_
        intro M2 hM2
        refine v_if_eq 25 dX12_goesNew_18 (by decide) (fun h18 => ?_) (fun h18 => absurd rfl h18)
        refine v_iconst 0 dX12_goesNew_25 (by decide) ?_
        refine v_zret dX12_goesNew_26 rfl (by first | rfl | exact bI_nb _ | assumption) ?_
        exact ⟨rfl, hM2.g1, fun i hi => hM2.2.2.2.2 243 i rfl, fun t e => by cases e⟩
    · have e : gnR K c 0 (kn K 1) left (gI M 243) = none := by simp [gnR, cnd, h0]
      rw [e]
      refine v_iload_n dX12_goesNew_0 rfl ?_
      refine v_aload_n dX12_goesNew_1 rfl ?_
      refine v_getR 12 0 _ dX12_goesNew_2 f12_9 (by first | exact hS.1 _ _ rfl | exact hS'.1 _ _ rfl | assumption) (by decide) (by first | exact hS.2 _ _ _ rfl | exact hS'.2 _ _ _ rfl | assumption) ?_
      refine v_iconst 1 dX12_goesNew_5 (by decide) ?_
      refine v_ialdN 1 dX12_goesNew_6 (by first | exact hS.1 _ _ rfl | exact hS'.1 _ _ rfl | assumption) rfl (by decide) ?_
      rw [eK, hP.1.1]
      refine v_icmp_ne 27 dX12_goesNew_7 (by decide) (fun h7 => absurd rfl h7) (fun h7 => ?_)
      refine v_iload_n dX12_goesNew_10 rfl ?_
      refine v_if_ne 25 dX12_goesNew_11 (by decide) (fun h11 => ?_) (fun h11 => absurd (fun z => h0 ((nI0 (by omega)).mp z)) h11)
      refine v_iconst 0 dX12_goesNew_25 (by decide) ?_
      refine v_zret dX12_goesNew_26 rfl (by first | rfl | exact bI_nb _ | assumption) ?_
      exact ⟨rfl, Sm.rf, fun i hi => rfl, fun t e => by cases e⟩
  | succ j ih =>
    intro m left hm hl M eK hS hP hI hH
    have h6 := hP.1.2.2
    refine Ct.of k12_goesNew.1 (Nat.le_of_ble_eq_true rfl) ?_
    by_cases h0 : j + 1 < left
    · have e : gnR K c (j + 1) m left (gI M 243) = none := by simp [gnR, cnd, h0]
      rw [e]
      refine v_iload_n dX12_goesNew_0 rfl ?_
      refine v_aload_n dX12_goesNew_1 rfl ?_
      refine v_getR 12 0 _ dX12_goesNew_2 f12_9 (by first | exact hS.1 _ _ rfl | exact hS'.1 _ _ rfl | assumption) (by decide) (by first | exact hS.2 _ _ _ rfl | exact hS'.2 _ _ _ rfl | assumption) ?_
      refine v_iconst 1 dX12_goesNew_5 (by decide) ?_
      refine v_ialdN 1 dX12_goesNew_6 (by first | exact hS.1 _ _ rfl | exact hS'.1 _ _ rfl | assumption) rfl (by decide) ?_
      rw [eK, hP.1.1]
      refine v_icmp_ne 27 dX12_goesNew_7 (by decide) (fun h7 => ?_) (fun h7 => absurd (fun z => absurd ((nI_eq (by omega) (by omega)).mp z) (by omega)) h7)
      refine v_iload_n dX12_goesNew_27 rfl ?_
      refine v_aload_n dX12_goesNew_28 rfl ?_
      refine v_getR 12 0 _ dX12_goesNew_29 f12_9 (by first | exact hS.1 _ _ rfl | exact hS'.1 _ _ rfl | assumption) (by decide) (by first | exact hS.2 _ _ _ rfl | exact hS'.2 _ _ _ rfl | assumption) ?_
      refine v_iconst 1 dX12_goesNew_32 (by decide) ?_
      refine v_ialdN 1 dX12_goesNew_33 (by first | exact hS.1 _ _ rfl | exact hS'.1 _ _ rfl | assumption) rfl (by decide) ?_
      refine v_iload_n dX12_goesNew_34 rfl ?_
      rw [eK, hP.1.1]
      refine v_isub dX12_goesNew_35 ?_
      rw [pk_sub (by omega)]
      refine v_icmp_le 41 dX12_goesNew_36 (by decide) (fun h36 => absurd ((nI_leI (by omega) (by omega)).mp h36) (by omega)) (fun h36 => ?_)
      refine v_iconst 0 dX12_goesNew_39 (by decide) ?_
      refine v_zret dX12_goesNew_40 rfl (by first | rfl | exact bI_nb _ | assumption) ?_
      exact ⟨rfl, Sm.rf, fun i hi => rfl, fun t e => by cases e⟩
    · have e : gnR K c (j + 1) m left (gI M 243) = ((List.range' 0 10).flatMap (cndV (wasM K c) j m left)).find? (fun t => nwB K (mkF (gI M 243) m t)) := by
        rw [gnR, cnd, if_neg h0]
        rfl
      have hl2 : ∀ l : Bool, l = litB K → Ct G Y12_look 1 0 0 [.ref 230, .int (nI c), .int (nI m), .int (bI (l = true))] M (Rv (some (.int (wasM K c m))) M) NX := by
        intro l e
        have h := c12_look G M hS (nl := kn K 4) (by rw [eK]; exact hP.2.2.2.1.1) hP.2.2.2.1.2 (c := c) (m := m) hc (by omega) l
        rw [eK, e] at h
        rw [e]
        exact h
      have fin := l12_goesNew G K ih hm hl M eK hS hP hI hH (gnR K c (j + 1) m left (gI M 243)) (Q := Rs (some (.int (bI ((gnR K c (j + 1) m left (gI M 243)).isSome = true)))) (GnP K M m (gnR K c (j + 1) m left (gI M 243)))) (fun M' h => ⟨rfl, h⟩) 10 0 M (by omega) Sm.rf (fun _ _ => rfl) e
      have go : ∀ l : Bool, l = litB K → V G Y12_goesNew (j + 1 + 6) 0 0 (Rs (some (.int (bI ((gnR K c (j + 1) m left (gI M 243)).isSome = true)))) (GnP K M m (gnR K c (j + 1) m left (gI M 243)))) NX 60 [some (.ref 230), some (.int (nI c)), some (.int (nI m)), some (.int (nI left))] [.int (bI (l = true)), .int (nI m), .int (nI c), .ref 230] M := by
        intro l e
        refine v_cV [_, _, _] (hl2 l e) k12_look dX12_goesNew_60 l12_286 (by first | exact hS.1 _ _ rfl | exact hS'.1 _ _ rfl | assumption) (by decide) rfl (by omega) (Nat.le_of_ble_eq_true rfl) ?_
        refine v_istore dX12_goesNew_63 rfl (by decide) ?_
        refine v_iconst 0 dX12_goesNew_65 (by decide) ?_
        refine v_istore dX12_goesNew_66 rfl (by decide) ?_
        exact fin
      refine v_iload_n dX12_goesNew_0 rfl ?_
      refine v_aload_n dX12_goesNew_1 rfl ?_
      refine v_getR 12 0 _ dX12_goesNew_2 f12_9 (by first | exact hS.1 _ _ rfl | exact hS'.1 _ _ rfl | assumption) (by decide) (by first | exact hS.2 _ _ _ rfl | exact hS'.2 _ _ _ rfl | assumption) ?_
      refine v_iconst 1 dX12_goesNew_5 (by decide) ?_
      refine v_ialdN 1 dX12_goesNew_6 (by first | exact hS.1 _ _ rfl | exact hS'.1 _ _ rfl | assumption) rfl (by decide) ?_
      rw [eK, hP.1.1]
      refine v_icmp_ne 27 dX12_goesNew_7 (by decide) (fun h7 => ?_) (fun h7 => absurd (fun z => absurd ((nI_eq (by omega) (by omega)).mp z) (by omega)) h7)
      refine v_iload_n dX12_goesNew_27 rfl ?_
      refine v_aload_n dX12_goesNew_28 rfl ?_
      refine v_getR 12 0 _ dX12_goesNew_29 f12_9 (by first | exact hS.1 _ _ rfl | exact hS'.1 _ _ rfl | assumption) (by decide) (by first | exact hS.2 _ _ _ rfl | exact hS'.2 _ _ _ rfl | assumption) ?_
      refine v_iconst 1 dX12_goesNew_32 (by decide) ?_
      refine v_ialdN 1 dX12_goesNew_33 (by first | exact hS.1 _ _ rfl | exact hS'.1 _ _ rfl | assumption) rfl (by decide) ?_
      refine v_iload_n dX12_goesNew_34 rfl ?_
      rw [eK, hP.1.1]
      refine v_isub dX12_goesNew_35 ?_
      rw [pk_sub (by omega)]
      refine v_icmp_le 41 dX12_goesNew_36 (by decide) (fun h36 => ?_) (fun h36 => absurd (nI_le (by omega) (by omega)) h36)
      refine v_aload_n dX12_goesNew_41 rfl ?_
      refine v_iload_n dX12_goesNew_42 rfl ?_
      refine v_iload_n dX12_goesNew_43 rfl ?_
      refine v_aload_n dX12_goesNew_44 rfl ?_
      refine v_getR 12 0 _ dX12_goesNew_45 f12_9 (by first | exact hS.1 _ _ rfl | exact hS'.1 _ _ rfl | assumption) (by decide) (by first | exact hS.2 _ _ _ rfl | exact hS'.2 _ _ _ rfl | assumption) ?_
      refine v_bipush 94 dX12_goesNew_48 (by decide) ?_
      refine v_ialdN 94 dX12_goesNew_50 (by first | exact hS.1 _ _ rfl | exact hS'.1 _ _ rfl | assumption) rfl (by decide) ?_
      refine v_iconst 1 dX12_goesNew_51 (by decide) ?_
      rw [eK]
      refine v_icmp_ne 59 dX12_goesNew_52 (by decide) (fun h52 => ?_) (fun h52 => ?_)
      · refine v_iconst 0 dX12_goesNew_59 (by decide) ?_
        first | exact go true (by rw [litB, decide_eq_true (Decidable.not_not.mp h52)]) | exact go false (by rw [litB, decide_eq_false h52])
      · refine v_iconst 1 dX12_goesNew_55 (by decide) ?_
        refine v_goto 60 dX12_goesNew_56 (by decide) ?_
        first | exact go true (by rw [litB, decide_eq_true (Decidable.not_not.mp h52)]) | exact go false (by rw [litB, decide_eq_false h52])
end RZ2
