/-! ===== the class LeastWords: throwing (the text behind ldc_w) ===== -/
def upE : List String := ["java/lang/RuntimeException", "java/lang/Exception"]
def atOK (ik ic : Nat) (cls : String) : Bool := (vx_atS RX11 ic cls upE).all (fun w => (goodWord w || isOw w) && lw_tbl.any (fun x => decide (x = w))) && (Cond.classLink RX11 ik cls :: Cond.initialized cls :: vx_atS RX11 ic cls upE).all (fun w => vx_ot w)
set_option maxRecDepth 1000000 in
theorem at_iae : atOK 84 88 "java/lang/IllegalArgumentException" = true := by decide +kernel
set_option maxRecDepth 1000000 in
theorem at_ise : atOK 310 314 "java/lang/IllegalStateException" = true := by decide +kernel
set_option maxRecDepth 1000000 in
theorem at_ioo : atOK 376 380 "java/lang/IndexOutOfBoundsException" = true := by decide +kernel
theorem at_in {ik ic : Nat} {cls : String} (h : atOK ik ic cls = true) : (∀ w ∈ vx_atS RX11 ic cls upE, w ∈ aw ∨ w ∈ ow) ∧ ∀ w ∈ Cond.classLink RX11 ik cls :: Cond.initialized cls :: vx_atS RX11 ic cls upE, vx_ot w = true := by
  unfold atOK at h
  rw [Bool.and_eq_true, List.all_eq_true, List.all_eq_true] at h
  refine ⟨fun w hw => ?_, h.2⟩
  have h1 := h.1 w hw
  rw [Bool.and_eq_true, List.any_eq_true, Bool.or_eq_true] at h1
  obtain ⟨h2, x, hx, e⟩ := h1
  have e := of_decide_eq_true e
  subst e
  rcases h2 with h2 | h2
  · exact Or.inl (List.mem_filter.mpr ⟨hx, h2⟩)
  · exact Or.inr (List.mem_filter.mpr ⟨hx, h2⟩)
section VT
variable {G : mG} {y : mY} {D kc ks : Nat} {Q : Option Value → mM → Prop} {X : String → mM → Prop} {pc : Nat} {ls : List (Option Value)} {st : List Value} {M : mM}
theorem v_throwW {cls text : String} {ik is ic : Nat} (hy : (yy y).cls = RX11) (hcls : Bundle.fit cls = true) (hk : Cond.classLink RX11 ik cls ∈ aw ∧ Cond.initialized cls ∈ aw) (hx : (is, text) ∈ xtab) (hok : atOK ik ic cls = true)
    (d0 : decode (yb y) pc = .ok (.new ik, 3)) (d3 : decode (yb y) (pc + 3) = .ok (.dup, 1)) (d4 : decode (yb y) (pc + 4) = .ok (.ldc_w is, 3)) (d7 : decode (yb y) (pc + 7) = .ok (.invokespecial ic, 3)) (d10 : decode (yb y) (pc + 10) = .ok (.athrow, 1))
    (hD : 5 < D) (hst : (st.map fun v => v.category).sum ≤ 8) (kx : ∀ z, gz M ≤ z → X cls (gapM M z)) : V G y D (kc + 1) (ks + 6) Q X pc ls st M := by
  intro p l e s m args below meth cd H locs cells slots mc ms lr E hl hR hf hc hs
  have hK := E.2.2.2.2.2.2.2.1
  obtain ⟨sa, hsa⟩ := hK.2.2.2.1 _ hx
  obtain ⟨hU, hN⟩ := hK.2.1.at E.2.2.2.2.2.2.2.2.2.2.2.1
  have hown : s.vm.findClass RX11 = some m.cls := hy ▸ E.2.2.2.2.1
  obtain ⟨hat, hgood⟩ := at_in hok
  intro T hT XX
  have hsz : s.heap.size ≤ H.size := by rw [← hT]; exact (vx_frame XX.same).1
  refine (show W p l e (rmd D mc ms) s m args below meth cd H locs cells slots (vx_MQ below (qC G Q) (xC G X) args s mc ms (fr G)) (F0 m pc lr (st.map (aV G))) from ?_) T hT XX
  refine vx_throwSW (own := RX11) (cls := cls) (text := text) (names := upE) (sa := sa) (A := fr G) E.1 E.2.1 E.2.2.2.2.2.2.2.2.1 hown hcls (by decide +kernel) (E.2.2.2.2.2.1 _ hk.1) (E.2.2.2.2.2.1 _ hk.2) hsa (fun w hw => ?_) hgood hU hN ⟨?_, fun q h1 h2 => ?_, hf⟩ (hl.1.trans E.2.2.2.1.symm) d0 d3 d4 d7 d10 (fun x hx => absurd hx (fun z => E.2.2.2.2.2.2.2.2.2.1 x z)) hD ?_ (by show cells + 1 ≤ mc; omega) (by show slots + 6 ≤ ms; omega) E.2.2.2.2.2.2.1 (fun t _ h1 h2 => ?_) hf (by omega) (by omega)
  · rcases hat w hw with h | h
    · exact E.2.2.2.2.2.1 _ h
    · exact va_Nw.use (isOw_tab (List.mem_filter.mp h).2) (hK.2.2.1 _ h)
  · exact hsz
  · have h3 : q < b0 G := Nat.not_le.mp h2
    rw [hR.2.2.1 q h3, E.2.2.2.2.2.2.2.2.2.2.2.1 q h3]
  · rw [cat_map]
    show _ ≤ 64 * D
    have : upE.length = 2 := rfl
    omega
  · obtain ⟨z, z1, z2⟩ := hR.gap h1 h2
    exact ⟨_, kx z z1, z2⟩
end VT
