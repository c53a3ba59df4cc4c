/-! ===== tools ===== -/
theorem lz_pad (ls : List (Option Value)) : ∀ i, lz i (ls ++ [none]) = lz i ls := by
  induction ls with
  | nil => intro i; rfl
  | cons a t ih => intro i; cases a <;> simp [lz, ih]
section VP
variable {G : mG} {y : mY} {D kc ks : Nat} {Q : Option Value → mM → Prop} {X : String → mM → Prop} {pc : Nat} {ls : List (Option Value)} {st : List Value} {M : mM}
theorem v_pad (k : V G y D kc ks Q X pc (ls ++ [none]) st M) : V G y D kc ks Q X pc ls st M := by
  intro p l e s m args below meth c H locs cells slots mc ms lr E hl hR hf hc hs
  refine k p l e s m args below meth c H locs cells slots mc ms lr E ?_ hR hf hc hs
  unfold lk at hl ⊢
  rw [lz_pad]
  exact hl
/-- the end: a weaker one -/
theorem V.post {Q2 : Option Value → mM → Prop} {X2 : String → mM → Prop} (h : V G y D kc ks Q2 X2 pc ls st M) (hq : ∀ v M', Q2 v M' → Q v M') (hx : ∀ E M', X2 E M' → X E M') : V G y D kc ks Q X pc ls st M := by
  intro p l e s m args below meth c H locs cells slots mc ms lr E hl hR hf hc hs T hT XX
  obtain ⟨t, a1, o, b1, b2, b3⟩ := h p l e s m args below meth c H locs cells slots mc ms lr E hl hR hf hc hs T hT XX
  refine ⟨t, a1, o, b1, b2, ?_⟩
  rcases b3 with ⟨⟨v, M', e1, e2, e3⟩, h2⟩ | ⟨q, e1, En, ce, L, ⟨M', e2, e3⟩, h3⟩
  · exact Or.inl ⟨⟨v, M', e1, hq _ _ e2, e3⟩, h2⟩
  · exact Or.inr ⟨q, e1, En, ce, L, ⟨M', hx _ _ e2, e3⟩, h3⟩
end VP
theorem Ct.post {G : mG} {y : mY} {D mc ms : Nat} {as : List Value} {M : mM} {Q Q2 : Option Value → mM → Prop} {X X2 : String → mM → Prop} (h : Ct G y D mc ms as M Q2 X2) (hq : ∀ v M', Q2 v M' → Q v M') (hx : ∀ E M', X2 E M' → X E M') : Ct G y D mc ms as M Q X := by
  intro l hl p e ha hc hk s m args below hf happ hP hK
  obtain ⟨k, o, h1, h2, h3, h4⟩ := h l hl p e ha hc hk s m args below hf happ hP hK
  refine ⟨k, o, h1, h2, h3, ?_⟩
  rcases h4 with ⟨⟨v, M', e1, e2, e3⟩, h5⟩ | ⟨q, e1, En, ce, L, ⟨M', e2, e3⟩, h5⟩
  · exact Or.inl ⟨⟨v, M', e1, hq _ _ e2, e3⟩, h5⟩
  · exact Or.inr ⟨q, e1, En, ce, L, ⟨M', hx _ _ e2, e3⟩, h5⟩
/-- a memory's numbers read as they are -/
theorem gI_ss (M : mM) (q k : Nat) (v : Int32) : gI (sI M q k v) q k = v := up2_s _ _ _ _
theorem gI_sk (M : mM) {q k j : Nat} (v : Int32) (h : j ≠ k) : gI (sI M q k v) q j = gI M q j := up2_k _ _ h
theorem gI_sq (M : mM) {q k a j : Nat} (v : Int32) (h : a ≠ q) : gI (sI M q k v) a j = gI M a j := up2_q _ _ h
theorem gI_sr (M : mM) {q k a : Nat} (v : Int32) (h : a ≠ q) : gI (sI M q k v) a = gI M a := by rw [gI_sI]; exact up2_row h
