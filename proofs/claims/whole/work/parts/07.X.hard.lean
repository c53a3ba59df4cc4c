/-! ===== the reference: what 'known' says, place by place; hardened ===== -/
theorem kn_cg {K K' : Nat → Int32} {i : Nat} (h : K' i = K i) : kn K' i = kn K i := by unfold kn; rw [h]
theorem evs_K {K K' : Nat → Int32} (e : ∀ i, 1155 ≤ i → K' i = K i) (nm : Nat) (f : Nat → Int32) (num : Int32) : ∀ c k st, evs K' nm f num c k st = evs K nm f num c k st := by
  intro c
  induction c with
  | zero => intro k st; rfl
  | succ c ih =>
    intro k st
    simp only [evs]
    rw [ih, kn_cg (e _ (by omega))]
theorem wt_K {K K' : Nat → Int32} (e : ∀ i, plI i → K' i = K i) (f : Nat → Int32) (num : Int32) {w : Nat} (hw : w < 10) : wt K' f num w = wt K f num w := by
  unfold wt
  rw [kn_cg (e 1 (Or.inl (by omega))), kn_cg (e (144 + w) (Or.inr (Or.inl (by omega)))), kn_cg (e (144 + w + 1) (Or.inr (Or.inl (by omega)))), evs_K (fun i hi => e i (Or.inr (Or.inr hi)))]
theorem lby_K {K K' : Nat → Int32} (e : ∀ i, 120 ≤ i → i < 144 → K' i = K i) (m v : Int32) : ∀ n k, k + n ≤ 8 → lby K' m v n k = lby K m v n k := by
  intro n
  induction n with
  | zero => intro k _; rfl
  | succ n ih =>
    intro k hk
    simp only [lby]
    rw [e (120 + 3 * k) (by omega) (by omega), e (120 + 3 * k + 1) (by omega) (by omega), e (120 + 3 * k + 2) (by omega) (by omega), ih (k + 1) (by omega)]
theorem lkv_K {K K' : Nat → Int32} (e : ∀ i, 120 ≤ i → i < 144 → K' i = K i) {nl : Nat} (h8 : nl ≤ 8) (l : Bool) {c m : Nat} (em : K' (9 + 6 * c + m) = K (9 + 6 * c + m)) : lkv K' nl l c m = lkv K nl l c m := by
  unfold lkv
  rw [em, lby_K e _ _ nl 0 (by omega)]
theorem wset_K {K K' : Nat → Int32} (hP : WP K) (e : ∀ i, plI i → K' i = K i) (f : Nat → Int32) (num : Int32) : wset K' f num = wset K f num := by
  unfold wset
  rw [kn_cg (e 3 (Or.inl (by omega)))]
  exact bset_ext (fun w hw => wt_K e f num (by have := hP.2.2.1.2; omega))
theorem trN_K {K K' : Nat → Int32} (hP : WP K) (e : ∀ i, plI i → K' i = K i) (l : Bool) {c : Nat} (em : ∀ m, m < kn K 1 → K' (9 + 6 * c + m) = K (9 + 6 * c + m)) : trN K' l c = trN K l c := by
  unfold trN
  rw [wset_K hP e, kn_cg (e 4 (Or.inl (by omega)))]
  refine bset_ext (fun w hw => wt_cong hP (fun m hm => ?_) _ hw)
  exact lkv_K (fun i h1 h2 => e i (Or.inr (Or.inl (by omega)))) hP.2.2.2.1.2 l (em m hm)
/-- IN alone is another one -/
def inK (K : Nat → Int32) (I : Nat) : Nat → Int32 := uK K 93 (nI I)
theorem inK_o {K : Nat → Int32} {I i : Nat} (h : i ≠ 93) : inK K I i = K i := uK_n _ _ h
theorem inK_93 {K : Nat → Int32} {I : Nat} (h : I < 2 ^ 31) : kn (inK K I) 93 = I := by rw [kn, inK, uK_s, nI_clamp h]
theorem inK_p {K : Nat → Int32} {I : Nat} : ∀ i, plI i → inK K I i = K i := fun i hi => inK_o (by unfold plI at hi; omega)
theorem inK_tr {K : Nat → Int32} (hP : WP K) (I : Nat) (l : Bool) {c : Nat} (hc : c < 14) : trN (inK K I) l c = trN K l c := trN_K hP inK_p l (fun m hm => inK_o (by have := hP.1.2.2; omega))
theorem inK_trH {K : Nat → Int32} (hP : WP K) (I : Nat) {c : Nat} (hc : c < 14) : trH (inK K I) c = trH K c := by
  unfold trH
  rw [show litB (inK K I) = litB K by unfold litB; rw [inK_o (by decide)]]
  exact inK_tr hP I _ hc
theorem inK_HH {M : mM} {K : Nat → Int32} (hP : WP K) (I : Nat) (h : HH M K) : HH M (inK K I) := by
  intro c hc
  rw [kn_cg (inK_o (by decide))] at hc
  have := hP.2.1.2
  rw [inK_tr hP I _ (by omega), inK_tr hP I _ (by omega), inK_trH hP I (by omega)]
  exact h c hc
theorem inK_us {K : Nat → Int32} (h : usOK K) (I : Nat) : usOK (inK K I) := by
  unfold usOK
  rw [inK_o (by decide), kn_cg (inK_o (i := 95) (by decide)), kn_cg (inK_o (i := 3) (by decide))]
  exact h
theorem inK_in {K : Nat → Int32} {I : Nat} (h : I < 2 ^ kn K 2) (h14 : kn K 2 ≤ 14) : inOK (inK K I) := by
  have : 2 ^ kn K 2 ≤ 2 ^ 14 := Nat.pow_le_pow_right (by omega) h14
  have h3 : I < 2 ^ 31 := by omega
  unfold inOK
  rw [inK_93 h3, kn_cg (inK_o (i := 2) (by decide))]
  exact ⟨uK_s _ _ _, h⟩
theorem inK_2 (K : Nat → Int32) (I J : Nat) : inK (inK K I) J = inK K J := by
  funext i
  unfold inK uK
  by_cases e : i = 93 <;> simp [e]
theorem inK_id {K : Nat → Int32} (h : inOK K) : inK K (kn K 93) = K := by
  funext i
  unfold inK uK
  by_cases e : i = 93
  · subst e; simp [← h.1]
  · simp [e]
def hdB (K : Nat → Int32) (c : Nat) (n : Int32) (s : Nat) : Bool := decide (prcN (inK K (kn K 93 ||| s)) c = -1 ∨ n ≤ prcN (inK K (kn K 93 ||| s)) c)
def hdF (K : Nat → Int32) (c : Nat) (n : Int32) (out : Nat) : Nat → Option Nat
  | 0 => none
  | s + 1 => if dif s out = 0 ∧ (∀ b, hdF K c n out s = some b → pcn s < pcn b) ∧ hdB K c n s = true then some s else hdF K c n out s
def outN (K : Nat → Int32) : Nat := dif (2 ^ kn K 2 - 1) (kn K 93)
def hdT (K : Nat → Int32) (c n : Int32) : Int32 := if chF K c = 0 then (if 6 < pcn (outN K) then 2 else if inT 99 n = true then 0 else 3) else chF K c
theorem hdF_lt {K : Nat → Int32} {c : Nat} {n : Int32} {out : Nat} : ∀ s b, hdF K c n out s = some b → b < s := by
  intro s
  induction s with
  | zero => intro b h; cases h
  | succ s ih =>
    intro b h
    simp only [hdF] at h
    split at h
    · cases h; omega
    · have := ih _ h; omega
theorem hdF_t {K : Nat → Int32} {c : Nat} {n : Int32} {out s : Nat} (h1 : dif s out = 0) (h2 : ∀ b, hdF K c n out s = some b → pcn s < pcn b) (h3 : hdB K c n s = true) : hdF K c n out (s + 1) = some s := if_pos ⟨h1, h2, h3⟩
theorem hdF_f {K : Nat → Int32} {c : Nat} {n : Int32} {out s : Nat} (h : ¬ (dif s out = 0 ∧ (∀ b, hdF K c n out s = some b → pcn s < pcn b) ∧ hdB K c n s = true)) : hdF K c n out (s + 1) = hdF K c n out s := if_neg h
theorem out_lt {K : Nat → Int32} (hP : WP K) : outN K < 2 ^ kn K 2 := by
  have := Nat.one_le_two_pow (n := kn K 2)
  exact dif_le _ _ (by omega)
theorem or_in {K : Nat → Int32} (hI : inOK K) {s : Nat} (hs : s < 2 ^ kn K 2) : kn K 93 ||| s < 2 ^ kn K 2 := Nat.or_lt_two_pow hI.2 hs
section RX
variable (G : mG) (M : mM)
theorem HH.w231 {M M' : mM} {K : Nat → Int32} (h : HH M K) (e : Sm W231 M M') : HH M' K := fun c hc => by
  rw [e.2.2.2.2 239 c rfl, e.2.2.2.2 240 c rfl, e.2.2.2.2 238 c rfl]
  exact h c hc
theorem l12_hardened (K : Nat → Int32) (hP : WP K) (hI : inOK K) (hU : usOK K) (hS : Sh M) (hH : HH M K) {c : Nat} (hc : c < kn K 2) (n : Int32) : ∀ i s M' (o : Option Value), s + i = outN K + 1 → Sm W231 M M' → (∃ I, I < 2 ^ kn K 2 ∧ gI M' 231 = inK K I) →
    V G Y12_hardened 7 0 0 (Rs (some (.int (encO (hdF K c n (outN K) (outN K + 1))))) (fun M' => Sm W231 M M' ∧ gI M' 231 = K)) NX 101 [some (.ref 230), some (.int (nI c)), some (.int n), some (.int (nI (outN K))), some (.int (nI (kn K 93))), some (.int (encO (hdF K c n (outN K) s))), some (.int (nI s)), o] [] M' := by
  have h14 := hP.2.1.2
  have hol := out_lt hP
  have h2p : 2 ^ kn K 2 ≤ 2 ^ 14 := Nat.pow_le_pow_right (by omega) h14
  intro i
  induction i with
  | zero =>
    intro s M' o hs hM hE
    obtain ⟨I, hI2, eK⟩ := hE
    have hS' := hS.sm hM
    obtain rfl : s = outN K + 1 := by omega
    refine v_iload dX12_hardened_101 rfl ?_
    refine v_iload_n dX12_hardened_103 rfl ?_
    refine v_icmp_gt 179 dX12_hardened_104 (by decide) (fun h104 => ?_) (fun h104 => absurd (nI_lt (Nat.lt_succ_self _) (by omega)) h104)
    refine v_aload_n dX12_hardened_179 rfl ?_
    refine v_getR 12 0 _ dX12_hardened_180 f12_9 (hS'.1 _ _ rfl) (by decide) (hS'.2 _ _ _ rfl) ?_
    refine v_bipush 93 dX12_hardened_183 (by decide) ?_
    refine v_iload dX12_hardened_185 rfl ?_
    refine v_iastN (93) dX12_hardened_187 (hS'.1 _ _ rfl) (by simp only [n_lit, pk_mul, nI_add]) ⟨by omega, by omega⟩ ?_
    refine v_iload dX12_hardened_188 rfl ?_
    refine v_iret dX12_hardened_190 rfl ?_
    exact ⟨rfl, hM.st _ rfl, (gI_uK _ _ _ _).trans (by rw [eK, show uK (inK K I) 93 (nI (kn K 93)) = inK (inK K I) (kn K 93) from rfl, inK_2, inK_id hI])⟩
  | succ i ih =>
    intro s M' o hs hM hE
    obtain ⟨I, hI2, eK⟩ := hE
    have hS' := hS.sm hM
    have hn := fun o M2 h1 h2 => ih (s + 1) M2 o (by omega) h1 h2
    have ps := pcn_le s
    by_cases hd : dif s (outN K) = 0
    · have hos := or_in hI (s := s) (by omega)
      have eK2 : gI (sI M' 231 93 (nI (kn K 93 ||| s))) 231 = inK K (kn K 93 ||| s) := by rw [gI_uK, eK, show uK (inK K I) 93 (nI (kn K 93 ||| s)) = inK (inK K I) (kn K 93 ||| s) from rfl, inK_2]
      have hM2 : Sm W231 M (sI M' 231 93 (nI (kn K 93 ||| s))) := hM.st _ rfl
      have hpr := c12_priceOf G (sI M' 231 93 (nI (kn K 93 ||| s))) (hS.sm hM2) (by rw [eK2]; exact hP.cong inK_p) (by rw [eK2]; exact inK_in hos h14) (by rw [eK2]; exact inK_us hU _) (by rw [eK2]; exact inK_HH hP _ (hH.w231 hM2)) (c := c) (by rw [eK2, kn_cg (inK_o (i := 2) (by decide))]; exact hc)
      rw [eK2] at hpr
      have go : (∀ b, hdF K c n (outN K) s = some b → pcn s < pcn b) → V G Y12_hardened 7 0 0 (Rs (some (.int (encO (hdF K c n (outN K) (outN K + 1))))) (fun M' => Sm W231 M M' ∧ gI M' 231 = K)) NX 138 [some (.ref 230), some (.int (nI c)), some (.int n), some (.int (nI (outN K))), some (.int (nI (kn K 93))), some (.int (encO (hdF K c n (outN K) s))), some (.int (nI s)), o] [] M' := by
        intro hb
        have hn2 := hn (some (.int (prcN (inK K (kn K 93 ||| s)) c))) _ hM2 ⟨_, hos, eK2⟩
        refine v_aload_n dX12_hardened_138 rfl ?_
        refine v_getR 12 0 _ dX12_hardened_139 f12_9 (hS'.1 _ _ rfl) (by decide) (hS'.2 _ _ _ rfl) ?_
        refine v_bipush 93 dX12_hardened_142 (by decide) ?_
        refine v_iload dX12_hardened_144 rfl ?_
        refine v_iload dX12_hardened_146 rfl ?_
        refine v_ior dX12_hardened_148 ?_
        rw [nIor]
        refine v_iastN (93) dX12_hardened_149 (hS'.1 _ _ rfl) (by simp only [n_lit, pk_mul, nI_add]) ⟨by omega, by omega⟩ ?_
        refine v_aload_n dX12_hardened_150 rfl ?_
        refine v_iload_n dX12_hardened_151 rfl ?_
        refine v_cV [_] (hpr) k12_priceOf dX12_hardened_152 l12_352 (hS'.1 _ _ rfl) (by decide) rfl (Nat.le_of_ble_eq_true rfl) (Nat.le_of_ble_eq_true rfl) ?_
        refine v_istore dX12_hardened_155 rfl (by decide) ?_
        refine v_iload dX12_hardened_157 rfl ?_
        refine v_iconst (-1) dX12_hardened_159 (by decide) ?_
        refine v_icmp_eq 169 dX12_hardened_160 (by decide) (fun h160 => ?_) (fun h160 => ?_)
        · refine v_iload dX12_hardened_169 rfl ?_
          refine v_istore dX12_hardened_171 rfl (by decide) ?_
          refine v_iinc 1 dX12_hardened_173 rfl (by decide) rfl (by decide) ?_
          refine v_goto 101 dX12_hardened_176 (by decide) ?_
          (rw [nI_1]; first | (rw [hdF_t hd hb (decide_eq_true (Or.inl h160))] at hn2; exact hn2) | (rw [hdF_t hd hb (decide_eq_true (Or.inr (Int32.not_lt.mp h166)))] at hn2; exact hn2) | (rw [hdF_f (fun z => (of_decide_eq_true z.2.2).elim h160 (fun y => absurd h166 (Int32.not_lt.mpr y)))] at hn2; exact hn2))
        · refine v_iload dX12_hardened_163 rfl ?_
          refine v_iload_n dX12_hardened_165 rfl ?_
          refine v_icmp_lt 173 dX12_hardened_166 (by decide) (fun h166 => ?_) (fun h166 => ?_)
          · refine v_iinc 1 dX12_hardened_173 rfl (by decide) rfl (by decide) ?_
            refine v_goto 101 dX12_hardened_176 (by decide) ?_
            (rw [nI_1]; first | (rw [hdF_t hd hb (decide_eq_true (Or.inl h160))] at hn2; exact hn2) | (rw [hdF_t hd hb (decide_eq_true (Or.inr (Int32.not_lt.mp h166)))] at hn2; exact hn2) | (rw [hdF_f (fun z => (of_decide_eq_true z.2.2).elim h160 (fun y => absurd h166 (Int32.not_lt.mpr y)))] at hn2; exact hn2))
          · refine v_iload dX12_hardened_169 rfl ?_
            refine v_istore dX12_hardened_171 rfl (by decide) ?_
            refine v_iinc 1 dX12_hardened_173 rfl (by decide) rfl (by decide) ?_
            refine v_goto 101 dX12_hardened_176 (by decide) ?_
            (rw [nI_1]; first | (rw [hdF_t hd hb (decide_eq_true (Or.inl h160))] at hn2; exact hn2) | (rw [hdF_t hd hb (decide_eq_true (Or.inr (Int32.not_lt.mp h166)))] at hn2; exact hn2) | (rw [hdF_f (fun z => (of_decide_eq_true z.2.2).elim h160 (fun y => absurd h166 (Int32.not_lt.mpr y)))] at hn2; exact hn2))
      cases hb : hdF K c n (outN K) s with
      | none =>
        rw [hb] at go
        rw [show encO none = (-1 : Int32) from rfl] at go ⊢
        refine v_iload dX12_hardened_101 rfl ?_
        refine v_iload_n dX12_hardened_103 rfl ?_
        refine v_icmp_gt 179 dX12_hardened_104 (by decide) (fun h104 => absurd ((nI_ltI (by omega) (by omega)).mp h104) (by omega)) (fun h104 => ?_)
        refine v_iload dX12_hardened_107 rfl ?_
        refine v_iload_n dX12_hardened_109 rfl ?_
        refine v_iconst (-1) dX12_hardened_110 (by decide) ?_
        refine v_ixor dX12_hardened_111 ?_
        refine v_iand dX12_hardened_112 ?_
        rw [andnot, hd]
        refine v_if_ne 173 dX12_hardened_113 (by decide) (fun h113 => absurd rfl h113) (fun h113 => ?_)
        refine v_iload dX12_hardened_116 rfl ?_
        refine v_iconst (-1) dX12_hardened_118 (by decide) ?_
        refine v_icmp_eq 138 dX12_hardened_119 (by decide) (fun h119 => ?_) (fun h119 => absurd rfl h119)
        exact go (fun b h => by cases h)
      | some b =>
        have hbl := hdF_lt _ _ hb
        have pb := pcn_le b
        rw [hb] at go
        rw [show encO (some b) = nI b from rfl] at go ⊢
        refine v_iload dX12_hardened_101 rfl ?_
        refine v_iload_n dX12_hardened_103 rfl ?_
        refine v_icmp_gt 179 dX12_hardened_104 (by decide) (fun h104 => absurd ((nI_ltI (by omega) (by omega)).mp h104) (by omega)) (fun h104 => ?_)
        refine v_iload dX12_hardened_107 rfl ?_
        refine v_iload_n dX12_hardened_109 rfl ?_
        refine v_iconst (-1) dX12_hardened_110 (by decide) ?_
        refine v_ixor dX12_hardened_111 ?_
        refine v_iand dX12_hardened_112 ?_
        rw [andnot, hd]
        refine v_if_ne 173 dX12_hardened_113 (by decide) (fun h113 => absurd rfl h113) (fun h113 => ?_)
        refine v_iload dX12_hardened_116 rfl ?_
        refine v_iconst (-1) dX12_hardened_118 (by decide) ?_
        refine v_icmp_eq 138 dX12_hardened_119 (by decide) (fun h119 => absurd h119 (nI_m1 (by omega))) (fun h119 => ?_)
        refine v_iload dX12_hardened_122 rfl ?_
        refine v_cS [_] (c12_size G M' (by omega)) k12_size dX12_hardened_124 l12_330 rfl (Nat.le_of_ble_eq_true rfl) (Nat.le_of_ble_eq_true rfl) ?_
        refine v_iload dX12_hardened_127 rfl ?_
        refine v_cS [_] (c12_size G M' (by omega)) k12_size dX12_hardened_129 l12_330 rfl (Nat.le_of_ble_eq_true rfl) (Nat.le_of_ble_eq_true rfl) ?_
        refine v_icmp_lt 138 dX12_hardened_132 (by decide) (fun h132 => ?_) (fun h132 => ?_)
        · exact go (fun b' h => by cases h; exact (nI_ltI (by omega) (by omega)).mp h132)
        · refine v_goto 173 dX12_hardened_135 (by decide) ?_
          refine v_iinc 1 dX12_hardened_173 rfl (by decide) rfl (by decide) ?_
          refine v_goto 101 dX12_hardened_176 (by decide) ?_
          (rw [nI_1]; have hn2 := hn o M' hM ⟨I, hI2, eK⟩; rw [hdF_f (fun z => h132 (nI_lt (z.2.1 b hb) (by omega))), hb] at hn2; exact hn2)
    · have hdl : dif s (outN K) < 2 ^ 14 := dif_le _ _ (by omega)
      have hn2 := hn o M' hM ⟨I, hI2, eK⟩
      rw [hdF_f (fun z => hd z.1)] at hn2
      refine v_iload dX12_hardened_101 rfl ?_
      refine v_iload_n dX12_hardened_103 rfl ?_
      refine v_icmp_gt 179 dX12_hardened_104 (by decide) (fun h104 => absurd ((nI_ltI (by omega) (by omega)).mp h104) (by omega)) (fun h104 => ?_)
      refine v_iload dX12_hardened_107 rfl ?_
      refine v_iload_n dX12_hardened_109 rfl ?_
      refine v_iconst (-1) dX12_hardened_110 (by decide) ?_
      refine v_ixor dX12_hardened_111 ?_
      refine v_iand dX12_hardened_112 ?_
      rw [andnot]
      refine v_if_ne 173 dX12_hardened_113 (by decide) (fun h113 => ?_) (fun h113 => (h113 (fun z => hd ((nI0 (by omega)).mp z))).elim)
      refine v_iinc 1 dX12_hardened_173 rfl (by decide) rfl (by decide) ?_
      refine v_goto 101 dX12_hardened_176 (by decide) ?_
      (rw [nI_1]; exact hn2)
theorem within99 (v : Int32) : ((1 : Int64) ≤ v.toInt64 ∧ v.toInt64 ≤ 99) ↔ inT 99 v = true := (within_c (a := 1) (b := 99)).trans (by simp only [inT, decide_eq_true_eq]; exact Iff.rfl)
theorem c12_hardened (hS : Sh M) (hQ : WQ (gI M 231)) (c n : Int32) : Ct G Y12_hardened 7 0 0 [.ref 230, .int c, .int n] M (Rs (some (.int (if hdT (gI M 231) c n = 0 then encO (hdF (gI M 231) c.toNatClampNeg n (outN (gI M 231)) (outN (gI M 231) + 1)) else 0))) (Pd M (hdT (gI M 231) c n) (gI M 231))) NX := by
  obtain ⟨hP, hI, hU⟩ := hQ
  have h14 := hP.2.1.2
  have e1 : ∀ t, gI (sI M 230 4 t) 231 = gI M 231 := fun t => gI_sr _ _ (by decide)
  have hol : outN (gI M 231) < 16384 := Nat.lt_of_lt_of_le (out_lt hP) (show 2 ^ kn (gI M 231) 2 ≤ 2 ^ 14 from Nat.pow_le_pow_right (by omega) h14)
  have pol := pcn_le (outN (gI M 231))
  have h1p := Nat.one_le_two_pow (n := kn (gI M 231) 2)
  have eo : ((1 : Int32) <<< (nI (kn (gI M 231) 2) &&& 31) - 1) &&& (gI M 231 93 ^^^ -1) = nI (outN (gI M 231)) := by
    rw [shl1 (by omega), show nI (2 ^ kn (gI M 231) 2) - 1 = nI (2 ^ kn (gI M 231) 2 - 1) from pk_sub h1p, hI.1, andnot]
    rfl
  have hch := c12_chestsN G (sI M 230 4 (chF (gI M 231) c)) hS (by rw [e1]; exact hP)
  rw [e1] at hch
  refine Ct.of k12_hardened.1 (Nat.le_of_ble_eq_true rfl) ?_
  have fin : ∀ M2 t, Sm Wd M M2 → gI M2 230 4 = t → gI M2 231 = gI M 231 → ¬ t ≤ 0 → hdT (gI M 231) c n = t → V G Y12_hardened 7 0 0 (Rs (some (.int (if hdT (gI M 231) c n = 0 then encO (hdF (gI M 231) c.toNatClampNeg n (outN (gI M 231)) (outN (gI M 231) + 1)) else 0))) (Pd M (hdT (gI M 231) c n) (gI M 231))) NX 73 [some (.ref 230), some (.int c), some (.int n), some (.int (nI (outN (gI M 231))))] [] M2 := by
    intro M2 t h1 h2 h3 h4 h5
    have hS' := hS.sm h1
    rw [h5, if_neg (fun z => h4 (by rw [z]; decide))]
    refine v_aload_n dX12_hardened_73 rfl ?_
    refine v_getI 12 4 dX12_hardened_74 f12_68 (hS'.1 _ _ rfl) (by decide) ?_
    rw [h2]
    refine v_if_le 82 dX12_hardened_77 (by decide) (fun h77 => absurd h77 h4) (fun h77 => ?_)
    refine v_iconst 0 dX12_hardened_80 (by decide) ?_
    refine v_iret dX12_hardened_81 rfl ?_
    exact ⟨rfl, h1, h2, h3⟩
  by_cases h0 : chF (gI M 231) c = 0
  · rw [h0] at hch
    by_cases h6 : 6 < pcn (outN (gI M 231))
    · refine v_aload_n dX12_hardened_0 rfl ?_
      refine v_aload_n dX12_hardened_1 rfl ?_
      refine v_iload_n dX12_hardened_2 rfl ?_
      refine v_cV [_] (c12_chestFault G M hS hP hI c) k12_chestFault dX12_hardened_3 l12_346 (by first | exact hS.1 _ _ rfl | exact hS'.1 _ _ rfl | assumption) (by decide) rfl (Nat.le_of_ble_eq_true rfl) (Nat.le_of_ble_eq_true rfl) ?_
      rw [h0]
      refine v_putI 12 4 dX12_hardened_6 f12_68 (by first | exact hS.1 _ _ rfl | exact hS'.1 _ _ rfl | assumption) (by decide) ?_
      refine v_iconst 1 dX12_hardened_9 (by decide) ?_
      refine v_aload_n dX12_hardened_10 rfl ?_
      refine v_cV [] (hch) k12_chests dX12_hardened_11 l12_245 (by first | exact hS.1 _ _ rfl | exact hS'.1 _ _ rfl | assumption) (by decide) rfl (Nat.le_of_ble_eq_true rfl) (Nat.le_of_ble_eq_true rfl) ?_
      refine v_ishl dX12_hardened_14 ?_
      refine v_iconst 1 dX12_hardened_15 (by decide) ?_
      refine v_isub dX12_hardened_16 ?_
      refine v_aload_n dX12_hardened_17 rfl ?_
      refine v_getR 12 0 _ dX12_hardened_18 f12_9 (by first | exact hS.1 _ _ rfl | exact hS'.1 _ _ rfl | assumption) (by decide) (by first | exact hS.2 _ _ _ rfl | exact hS'.2 _ _ _ rfl | assumption) ?_
      refine v_bipush 93 dX12_hardened_21 (by decide) ?_
      refine v_ialdN 93 dX12_hardened_23 (by first | exact hS.1 _ _ rfl | exact hS'.1 _ _ rfl | assumption) rfl (by decide) ?_
      rw [e1]
      refine v_iconst (-1) dX12_hardened_24 (by decide) ?_
      refine v_ixor dX12_hardened_25 ?_
      refine v_iand dX12_hardened_26 ?_
      rw [eo]
      refine v_istore_n dX12_hardened_27 rfl (by decide) ?_
      refine v_aload_n dX12_hardened_28 rfl ?_
      refine v_getI 12 4 dX12_hardened_29 f12_68 (by first | exact hS.1 _ _ rfl | exact hS'.1 _ _ rfl | assumption) (by decide) ?_
      rw [gI_ss]
      refine v_if_ne 49 dX12_hardened_32 (by decide) (fun h32 => absurd rfl h32) (fun h32 => ?_)
      refine v_iload_n dX12_hardened_35 rfl ?_
      refine v_cS [_] (c12_size G (sI M 230 4 0) hol) k12_size dX12_hardened_36 l12_330 rfl (Nat.le_of_ble_eq_true rfl) (Nat.le_of_ble_eq_true rfl) ?_
      refine v_bipush 6 dX12_hardened_39 (by decide) ?_
      refine v_icmp_le 49 dX12_hardened_41 (by decide) (fun h41 => absurd ((nI_leI (b := 6) (by omega) (by decide)).mp h41) (by omega)) (fun h41 => ?_)
      refine v_aload_n dX12_hardened_44 rfl ?_
      refine v_iconst 2 dX12_hardened_45 (by decide) ?_
      refine v_putI 12 4 dX12_hardened_46 f12_68 (by first | exact hS.1 _ _ rfl | exact hS'.1 _ _ rfl | assumption) (by decide) ?_
      refine v_aload_n dX12_hardened_49 rfl ?_
      refine v_getI 12 4 dX12_hardened_50 f12_68 (by first | exact hS.1 _ _ rfl | exact hS'.1 _ _ rfl | assumption) (by decide) ?_
      rw [gI_ss]
      refine v_if_ne 73 dX12_hardened_53 (by decide) (fun h53 => ?_) (fun h53 => absurd (by decide) h53)
      exact fin _ 2 ((Sm.rf.st _ rfl).st _ rfl) (gI_ss _ _ _ _) (by rw [gI_sr _ _ (by decide), e1]) (by decide) (by rw [hdT, if_pos h0, if_pos h6])
    · have hw : Ct G Y12_within 0 0 0 [.long n.toInt64, .long 1, .long 99] (sI M 230 4 0) (Rv (some (.int (bI (inT 99 n = true)))) (sI M 230 4 0)) NX := by
        have h := c12_within G (sI M 230 4 0) n.toInt64 1 99
        rw [bI_cong (within99 n)] at h
        exact h
      by_cases h7 : inT 99 n = true
      · rw [bI_t h7] at hw
        have e9 : hdT (gI M 231) c n = 0 := by rw [hdT, if_pos h0, if_neg h6, if_pos h7]
        obtain ⟨j, hj, rfl, hj2, hj3⟩ := chF_ok (K := gI M 231) (c := c) (by rw [h0]; decide)
        rw [e9, if_pos rfl, nI_clamp (by omega)]
        refine v_aload_n dX12_hardened_0 rfl ?_
        refine v_aload_n dX12_hardened_1 rfl ?_
        refine v_iload_n dX12_hardened_2 rfl ?_
        refine v_cV [_] (c12_chestFault G M hS hP hI _) k12_chestFault dX12_hardened_3 l12_346 (by first | exact hS.1 _ _ rfl | exact hS'.1 _ _ rfl | assumption) (by decide) rfl (Nat.le_of_ble_eq_true rfl) (Nat.le_of_ble_eq_true rfl) ?_
        rw [h0]
        refine v_putI 12 4 dX12_hardened_6 f12_68 (by first | exact hS.1 _ _ rfl | exact hS'.1 _ _ rfl | assumption) (by decide) ?_
        refine v_iconst 1 dX12_hardened_9 (by decide) ?_
        refine v_aload_n dX12_hardened_10 rfl ?_
        refine v_cV [] (hch) k12_chests dX12_hardened_11 l12_245 (by first | exact hS.1 _ _ rfl | exact hS'.1 _ _ rfl | assumption) (by decide) rfl (Nat.le_of_ble_eq_true rfl) (Nat.le_of_ble_eq_true rfl) ?_
        refine v_ishl dX12_hardened_14 ?_
        refine v_iconst 1 dX12_hardened_15 (by decide) ?_
        refine v_isub dX12_hardened_16 ?_
        refine v_aload_n dX12_hardened_17 rfl ?_
        refine v_getR 12 0 _ dX12_hardened_18 f12_9 (by first | exact hS.1 _ _ rfl | exact hS'.1 _ _ rfl | assumption) (by decide) (by first | exact hS.2 _ _ _ rfl | exact hS'.2 _ _ _ rfl | assumption) ?_
        refine v_bipush 93 dX12_hardened_21 (by decide) ?_
        refine v_ialdN 93 dX12_hardened_23 (by first | exact hS.1 _ _ rfl | exact hS'.1 _ _ rfl | assumption) rfl (by decide) ?_
        rw [e1]
        refine v_iconst (-1) dX12_hardened_24 (by decide) ?_
        refine v_ixor dX12_hardened_25 ?_
        refine v_iand dX12_hardened_26 ?_
        rw [eo]
        refine v_istore_n dX12_hardened_27 rfl (by decide) ?_
        refine v_aload_n dX12_hardened_28 rfl ?_
        refine v_getI 12 4 dX12_hardened_29 f12_68 (by first | exact hS.1 _ _ rfl | exact hS'.1 _ _ rfl | assumption) (by decide) ?_
        rw [gI_ss]
        refine v_if_ne 49 dX12_hardened_32 (by decide) (fun h32 => absurd rfl h32) (fun h32 => ?_)
        refine v_iload_n dX12_hardened_35 rfl ?_
        refine v_cS [_] (c12_size G (sI M 230 4 0) hol) k12_size dX12_hardened_36 l12_330 rfl (Nat.le_of_ble_eq_true rfl) (Nat.le_of_ble_eq_true rfl) ?_
        refine v_bipush 6 dX12_hardened_39 (by decide) ?_
        refine v_icmp_le 49 dX12_hardened_41 (by decide) (fun h41 => ?_) (fun h41 => absurd (nI_le (b := 6) (by omega) (by decide)) h41)
        refine v_aload_n dX12_hardened_49 rfl ?_
        refine v_getI 12 4 dX12_hardened_50 f12_68 (by first | exact hS.1 _ _ rfl | exact hS'.1 _ _ rfl | assumption) (by decide) ?_
        rw [gI_ss]
        refine v_if_ne 73 dX12_hardened_53 (by decide) (fun h53 => absurd rfl h53) (fun h53 => ?_)
        refine v_iload_n dX12_hardened_56 rfl ?_
        refine v_i2l dX12_hardened_57 ?_
        refine v_lconst 1 dX12_hardened_58 (by decide) ?_
        refine v_ldc2 99 dX12_hardened_59 K12_422 ?_
        refine v_cS [_, _, _] (hw) k12_within dX12_hardened_62 l12_132 rfl (Nat.le_of_ble_eq_true rfl) (Nat.le_of_ble_eq_true rfl) ?_
        refine v_if_ne 73 dX12_hardened_65 (by decide) (fun h65 => ?_) (fun h65 => absurd (by decide) h65)
        refine v_aload_n dX12_hardened_73 rfl ?_
        refine v_getI 12 4 dX12_hardened_74 f12_68 (by first | exact hS.1 _ _ rfl | exact hS'.1 _ _ rfl | assumption) (by decide) ?_
        rw [gI_ss]
        refine v_if_le 82 dX12_hardened_77 (by decide) (fun h77 => ?_) (fun h77 => absurd (by decide) h77)
        refine v_aload_n dX12_hardened_82 rfl ?_
        skip
        have e1 : gI (sI M 230 4 0) 231 = gI M 231 := gI_sr _ _ (by decide)
        refine v_scVv [] (c12_laysHold G (sI M 230 4 0) hS (by rw [e1]; exact hP)) k12_laysHold dX12_hardened_83 l12_306 (hS.1 _ _ rfl) (by decide) rfl (Nat.le_of_ble_eq_true rfl) (Nat.le_of_ble_eq_true rfl) (fun M2 hM2 => ?_)
        have hS' := Sh.sm (M := sI M 230 4 0) hS hM2.1
        have e2 : gI M2 231 = gI M 231 := (hM2.1.K (fun _ => rfl)).trans e1
        have hH := hM2.2
        rw [e1, ← e2] at hH
        have hpq := Pq.of hM2.1
        rw [← e2] at hP hI hU ⊢
        rw [← e2] at hj
        refine v_aload_n dX12_hardened_86 rfl ?_
        refine v_getR 12 0 _ dX12_hardened_87 f12_9 (by first | exact hS.1 _ _ rfl | exact hS'.1 _ _ rfl | assumption) (by decide) (by first | exact hS.2 _ _ _ rfl | exact hS'.2 _ _ _ rfl | assumption) ?_
        refine v_bipush 93 dX12_hardened_90 (by decide) ?_
        refine v_ialdN 93 dX12_hardened_92 (by first | exact hS.1 _ _ rfl | exact hS'.1 _ _ rfl | assumption) rfl (by decide) ?_
        -- at 93: .istore 4
        rw [hI.1]
        refine v_istore dX12_hardened_93 rfl (by decide) ?_
        refine v_iconst (-1) dX12_hardened_95 (by decide) ?_
        refine v_istore dX12_hardened_96 rfl (by decide) ?_
        refine v_iconst 0 dX12_hardened_98 (by decide) ?_
        refine v_istore dX12_hardened_99 rfl (by decide) ?_
        -- at 101: .iload 6
        refine v_pad ?_
        refine V.post (l12_hardened G M2 (gI M2 231) hP hI hU hS' hH hj n (outN (gI M2 231) + 1) 0 M2 none (by omega) Sm.rf ⟨kn (gI M2 231) 93, hI.2, (inK_id hI).symm⟩) (fun v M3 h => ⟨h.1, hpq.1.d3.tr h.2.1.d2, ?_, h.2.2⟩) (fun _ _ h => h)
        rw [h.2.1.t4]
        exact hpq.2
      · rw [bI_f h7] at hw
        refine v_aload_n dX12_hardened_0 rfl ?_
        refine v_aload_n dX12_hardened_1 rfl ?_
        refine v_iload_n dX12_hardened_2 rfl ?_
        refine v_cV [_] (c12_chestFault G M hS hP hI c) k12_chestFault dX12_hardened_3 l12_346 (by first | exact hS.1 _ _ rfl | exact hS'.1 _ _ rfl | assumption) (by decide) rfl (Nat.le_of_ble_eq_true rfl) (Nat.le_of_ble_eq_true rfl) ?_
        rw [h0]
        refine v_putI 12 4 dX12_hardened_6 f12_68 (by first | exact hS.1 _ _ rfl | exact hS'.1 _ _ rfl | assumption) (by decide) ?_
        refine v_iconst 1 dX12_hardened_9 (by decide) ?_
        refine v_aload_n dX12_hardened_10 rfl ?_
        refine v_cV [] (hch) k12_chests dX12_hardened_11 l12_245 (by first | exact hS.1 _ _ rfl | exact hS'.1 _ _ rfl | assumption) (by decide) rfl (Nat.le_of_ble_eq_true rfl) (Nat.le_of_ble_eq_true rfl) ?_
        refine v_ishl dX12_hardened_14 ?_
        refine v_iconst 1 dX12_hardened_15 (by decide) ?_
        refine v_isub dX12_hardened_16 ?_
        refine v_aload_n dX12_hardened_17 rfl ?_
        refine v_getR 12 0 _ dX12_hardened_18 f12_9 (by first | exact hS.1 _ _ rfl | exact hS'.1 _ _ rfl | assumption) (by decide) (by first | exact hS.2 _ _ _ rfl | exact hS'.2 _ _ _ rfl | assumption) ?_
        refine v_bipush 93 dX12_hardened_21 (by decide) ?_
        refine v_ialdN 93 dX12_hardened_23 (by first | exact hS.1 _ _ rfl | exact hS'.1 _ _ rfl | assumption) rfl (by decide) ?_
        rw [e1]
        refine v_iconst (-1) dX12_hardened_24 (by decide) ?_
        refine v_ixor dX12_hardened_25 ?_
        refine v_iand dX12_hardened_26 ?_
        rw [eo]
        refine v_istore_n dX12_hardened_27 rfl (by decide) ?_
        refine v_aload_n dX12_hardened_28 rfl ?_
        refine v_getI 12 4 dX12_hardened_29 f12_68 (by first | exact hS.1 _ _ rfl | exact hS'.1 _ _ rfl | assumption) (by decide) ?_
        rw [gI_ss]
        refine v_if_ne 49 dX12_hardened_32 (by decide) (fun h32 => absurd rfl h32) (fun h32 => ?_)
        refine v_iload_n dX12_hardened_35 rfl ?_
        refine v_cS [_] (c12_size G (sI M 230 4 0) hol) k12_size dX12_hardened_36 l12_330 rfl (Nat.le_of_ble_eq_true rfl) (Nat.le_of_ble_eq_true rfl) ?_
        refine v_bipush 6 dX12_hardened_39 (by decide) ?_
        refine v_icmp_le 49 dX12_hardened_41 (by decide) (fun h41 => ?_) (fun h41 => absurd (nI_le (b := 6) (by omega) (by decide)) h41)
        refine v_aload_n dX12_hardened_49 rfl ?_
        refine v_getI 12 4 dX12_hardened_50 f12_68 (by first | exact hS.1 _ _ rfl | exact hS'.1 _ _ rfl | assumption) (by decide) ?_
        rw [gI_ss]
        refine v_if_ne 73 dX12_hardened_53 (by decide) (fun h53 => absurd rfl h53) (fun h53 => ?_)
        refine v_iload_n dX12_hardened_56 rfl ?_
        refine v_i2l dX12_hardened_57 ?_
        refine v_lconst 1 dX12_hardened_58 (by decide) ?_
        refine v_ldc2 99 dX12_hardened_59 K12_422 ?_
        refine v_cS [_, _, _] (hw) k12_within dX12_hardened_62 l12_132 rfl (Nat.le_of_ble_eq_true rfl) (Nat.le_of_ble_eq_true rfl) ?_
        refine v_if_ne 73 dX12_hardened_65 (by decide) (fun h65 => absurd rfl h65) (fun h65 => ?_)
        refine v_aload_n dX12_hardened_68 rfl ?_
        refine v_iconst 3 dX12_hardened_69 (by decide) ?_
        refine v_putI 12 4 dX12_hardened_70 f12_68 (by first | exact hS.1 _ _ rfl | exact hS'.1 _ _ rfl | assumption) (by decide) ?_
        exact fin _ 3 ((Sm.rf.st _ rfl).st _ rfl) (gI_ss _ _ _ _) (by rw [gI_sr _ _ (by decide), e1]) (by decide) (by rw [hdT, if_pos h0, if_neg h6, if_neg h7])
  · have hp : ¬ chF (gI M 231) c ≤ 0 := by
      unfold chF at h0 ⊢
      split
      · rename_i h1
        rw [if_pos h1] at h0
        split
        · rename_i h2; rw [if_pos h2] at h0; exact absurd rfl h0
        · decide
      · decide
    refine v_aload_n dX12_hardened_0 rfl ?_
    refine v_aload_n dX12_hardened_1 rfl ?_
    refine v_iload_n dX12_hardened_2 rfl ?_
    refine v_cV [_] (c12_chestFault G M hS hP hI c) k12_chestFault dX12_hardened_3 l12_346 (by first | exact hS.1 _ _ rfl | exact hS'.1 _ _ rfl | assumption) (by decide) rfl (Nat.le_of_ble_eq_true rfl) (Nat.le_of_ble_eq_true rfl) ?_
    refine v_putI 12 4 dX12_hardened_6 f12_68 (by first | exact hS.1 _ _ rfl | exact hS'.1 _ _ rfl | assumption) (by decide) ?_
    refine v_iconst 1 dX12_hardened_9 (by decide) ?_
    refine v_aload_n dX12_hardened_10 rfl ?_
    refine v_cV [] (hch) k12_chests dX12_hardened_11 l12_245 (by first | exact hS.1 _ _ rfl | exact hS'.1 _ _ rfl | assumption) (by decide) rfl (Nat.le_of_ble_eq_true rfl) (Nat.le_of_ble_eq_true rfl) ?_
    refine v_ishl dX12_hardened_14 ?_
    refine v_iconst 1 dX12_hardened_15 (by decide) ?_
    refine v_isub dX12_hardened_16 ?_
    refine v_aload_n dX12_hardened_17 rfl ?_
    refine v_getR 12 0 _ dX12_hardened_18 f12_9 (by first | exact hS.1 _ _ rfl | exact hS'.1 _ _ rfl | assumption) (by decide) (by first | exact hS.2 _ _ _ rfl | exact hS'.2 _ _ _ rfl | assumption) ?_
    refine v_bipush 93 dX12_hardened_21 (by decide) ?_
    refine v_ialdN 93 dX12_hardened_23 (by first | exact hS.1 _ _ rfl | exact hS'.1 _ _ rfl | assumption) rfl (by decide) ?_
    rw [e1]
    refine v_iconst (-1) dX12_hardened_24 (by decide) ?_
    refine v_ixor dX12_hardened_25 ?_
    refine v_iand dX12_hardened_26 ?_
    rw [eo]
    refine v_istore_n dX12_hardened_27 rfl (by decide) ?_
    refine v_aload_n dX12_hardened_28 rfl ?_
    refine v_getI 12 4 dX12_hardened_29 f12_68 (by first | exact hS.1 _ _ rfl | exact hS'.1 _ _ rfl | assumption) (by decide) ?_
    rw [gI_ss]
    refine v_if_ne 49 dX12_hardened_32 (by decide) (fun h32 => ?_) (fun h32 => absurd h0 h32)
    refine v_aload_n dX12_hardened_49 rfl ?_
    refine v_getI 12 4 dX12_hardened_50 f12_68 (by first | exact hS.1 _ _ rfl | exact hS'.1 _ _ rfl | assumption) (by decide) ?_
    rw [gI_ss]
    refine v_if_ne 73 dX12_hardened_53 (by decide) (fun h53 => ?_) (fun h53 => absurd h0 h53)
    exact fin _ _ (Sm.rf.st _ rfl) (gI_ss _ _ _ _) (e1 _) hp (by rw [hdT, if_neg h0])
end RX
