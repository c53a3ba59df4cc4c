/-! ===== the law: a line of the script (written by wip/whole/gen_law.py) ===== -/
def YL_law : mY := (yL_law, cL_law, 8, (some .boolean))
/-- the script -/
def scv (G : mG) (x : Int32) : Int32 := Int32.ofNat (ad G (2000 + x.toNatClampNeg))
def LW (i : Nat) : List (Option Value) := [some (.ref 34), some (.ref 100), some (.ref 230), some (.ref 247), some (.int (nI i))]
def Q1 : Option Value → mM → Prop := fun v _ => v = some (.int 1)
theorem al_34 (G : mG) : al G 34 = ad G 34 := rfl
theorem sc_T (G : mG) (s : State) (h : KK G s) : va_T .int (al G 34) (ad G 1000) (fun j => .int (Int32.ofNat (ad G (2000 + j)))) (fr G) s G.2.2.2.1 := h.2.1.2.2.2.2.2.2.2.2.2.1.2
theorem sc_in {i k N : Nat} (h : i + k < N) (hN : N ≤ 3072) {v : Int32} (hv : v = nI k) : vp_in (nI i + v) N := by
  subst hv
  rw [nI_add]
  exact vp_in_nI h (by omega)
section LAWS
variable {G : mG} {D kc ks : Nat} {Q : Option Value → mM → Prop} {X : String → mM → Prop} {pc : Nat} {ls : List (Option Value)} {st : List Value} {M : mM}
theorem l_arg {i : Nat} {n : Int} (v : Int32) (k : Nat) (hi : i + 6 ≤ ad G 1000) (hN : ad G 1000 ≤ 3072) (d1 : decode (yb YL_law) pc = .ok (.aload_n 0, 1)) (d2 : decode (yb YL_law) (pc + 1) = .ok (.iload 4, 2)) (d3 : decode (yb YL_law) (pc + 3) = .ok (.iconst n, 1)) (hv : Int32.ofInt n = v) (d4 : decode (yb YL_law) (pc + 4) = .ok (.iadd, 1)) (d5 : decode (yb YL_law) (pc + 5) = .ok (.iaload, 1))
    (h0 : lat 0 ls = some (.ref 34)) (h4 : lat 4 ls = some (.int (nI i))) (hk : v = nI k ∧ k < 6) (kk : V G YL_law D kc ks Q X (pc + 6) ls (.int (scv G (nI i + v)) :: st) M) : V G YL_law D kc ks Q X pc ls st M := by
  refine v_aload_n d1 h0 ?_
  refine v_iload d2 h4 ?_
  refine v_iconst v d3 hv ?_
  refine v_iadd d4 ?_
  exact v_ialdC (q := 34) (f := fun j => Int32.ofNat (ad G (2000 + j))) d5 (fun s h => sc_T G s h) (sc_in (k := k) (by omega) hN hk.1) kk
end LAWS
section LAWC
variable (G : mG) {kc ks : Nat} {X : String → mM → Prop} {M : mM}
theorem law_0 {i : Nat} (hi : i + 6 ≤ ad G 1000) (hN : ad G 1000 ≤ 3072) (hL : LI M) (kk : ∀ M2, LI M2 → V G YL_law 60 kc ks Q1 X 2773 (LW i) [] M2) : V G YL_law 60 (kc + 75) (ks + 1023) Q1 X 248 (LW i) [] M := by
  have hS := hL.1.1.1
  refine v_pad (v_pad (v_pad ?_))
  obtain ⟨v, Qp, hA, hB⟩ := op_feed G M hL (scv G (nI i + 1)) (scv G (nI i + 2)) (scv G (nI i + 3)) (scv G (nI i + 4)) (scv G (nI i + 5))
  refine v_aload_n dL_law_248 rfl ?_
  refine l_arg 1 1 hi hN dL_law_249 dL_law_250 dL_law_252 (by decide) dL_law_253 dL_law_254 rfl rfl (by decide) ?_
  refine l_arg 2 2 hi hN dL_law_255 dL_law_256 dL_law_258 (by decide) dL_law_259 dL_law_260 rfl rfl (by decide) ?_
  refine l_arg 3 3 hi hN dL_law_261 dL_law_262 dL_law_264 (by decide) dL_law_265 dL_law_266 rfl rfl (by decide) ?_
  refine l_arg 4 4 hi hN dL_law_267 dL_law_268 dL_law_270 (by decide) dL_law_271 dL_law_272 rfl rfl (by decide) ?_
  refine l_arg 5 5 hi hN dL_law_273 dL_law_274 dL_law_276 (by decide) dL_law_277 dL_law_278 rfl rfl (by decide) ?_
  refine V.up (kc := kc + 0) (ks := ks + 0) (v_callV [.int (scv G (nI i + 1)), .int (scv G (nI i + 2)), .int (scv G (nI i + 3)), .int (scv G (nI i + 4)), .int (scv G (nI i + 5))] hA k11_feed dL_law_279 lL_141 (hS.1 100 _ rfl) ⟨by decide, rfl⟩ rfl (Nat.le_of_ble_eq_true rfl) (Nat.le_of_ble_eq_true rfl) (fun v1 M1 hq => ?_) (fun _ _ h => h.elim)) (by omega) (by omega)
  obtain ⟨rfl, hq⟩ := hq
  obtain ⟨hS1, hC⟩ := hB M1 hq
  refine v_aload_n dL_law_282 rfl ?_
  refine l_arg 1 1 hi hN dL_law_283 dL_law_284 dL_law_286 (by decide) dL_law_287 dL_law_288 rfl rfl (by decide) ?_
  refine l_arg 2 2 hi hN dL_law_289 dL_law_290 dL_law_292 (by decide) dL_law_293 dL_law_294 rfl rfl (by decide) ?_
  refine l_arg 3 3 hi hN dL_law_295 dL_law_296 dL_law_298 (by decide) dL_law_299 dL_law_300 rfl rfl (by decide) ?_
  refine l_arg 4 4 hi hN dL_law_301 dL_law_302 dL_law_304 (by decide) dL_law_305 dL_law_306 rfl rfl (by decide) ?_
  refine l_arg 5 5 hi hN dL_law_307 dL_law_308 dL_law_310 (by decide) dL_law_311 dL_law_312 rfl rfl (by decide) ?_
  refine v_scV (kc := kc) (ks := ks) [.int (scv G (nI i + 1)), .int (scv G (nI i + 2)), .int (scv G (nI i + 3)), .int (scv G (nI i + 4)), .int (scv G (nI i + 5))] hC k12_feed dL_law_313 lL_145 (hS1.1 230 _ rfl) ⟨by decide, rfl⟩ rfl (Nat.le_of_ble_eq_true rfl) (Nat.le_of_ble_eq_true rfl) (fun M2 hL2 => ?_)
  exact v_icmp_eq 2773 dL_law_316 (by decide) (fun _ => v_take 5 (kk M2 hL2)) (fun h => absurd rfl h)
theorem law_1 {i : Nat} (hi : i + 6 ≤ ad G 1000) (hN : ad G 1000 ≤ 3072) (hL : LI M) (kk : ∀ M2, LI M2 → V G YL_law 60 kc ks Q1 X 2773 (LW i) [] M2) : V G YL_law 60 (kc + 75) (ks + 1023) Q1 X 321 (LW i) [] M := by
  have hS := hL.1.1.1
  refine v_pad (v_pad (v_pad ?_))
  obtain ⟨Qp, hA, hB⟩ := op_hall G M hL (scv G (nI i + 1))
  refine v_aload_n dL_law_321 rfl ?_
  refine l_arg 1 1 hi hN dL_law_322 dL_law_323 dL_law_325 (by decide) dL_law_326 dL_law_327 rfl rfl (by decide) ?_
  refine v_aload_n dL_law_328 rfl ?_
  refine V.up (kc := kc + 8) (ks := ks + 1023) (v_callW [.ref 100, .int (scv G (nI i + 1)), .ref 247] hA kL_hall dL_law_329 lL_146 rfl (Nat.le_of_ble_eq_true rfl) (Nat.le_of_ble_eq_true rfl) (fun v1 M1 hq => ?_)) (by omega) (by omega)
  obtain ⟨t, rfl, hq⟩ := hq
  obtain ⟨hS1, v2, hC⟩ := hB t M1 hq
  refine v_istore dL_law_332 rfl (by decide) ?_
  refine v_aload_n dL_law_334 rfl ?_
  refine l_arg 1 1 hi hN dL_law_335 dL_law_336 dL_law_338 (by decide) dL_law_339 dL_law_340 rfl rfl (by decide) ?_
  refine v_scV (kc := kc) (ks := ks) [.int (scv G (nI i + 1))] hC k12_hall dL_law_341 lL_151 (hS1.1 230 _ rfl) ⟨by decide, rfl⟩ rfl (Nat.le_of_ble_eq_true rfl) (Nat.le_of_ble_eq_true rfl) (fun M2 h2 => ?_)
  obtain ⟨hL2, ht, hv⟩ := h2
  have hS2 := hL2.1.1.1
  refine v_istore dL_law_344 rfl (by decide) ?_
  refine v_aload_n dL_law_346 rfl ?_
  refine v_cV (kc := kc) (ks := ks) [] (c12_thrown G M2 hS2) k12_thrown dL_law_347 lL_152 (hS2.1 230 _ rfl) ⟨by decide, rfl⟩ rfl (Nat.le_of_ble_eq_true rfl) (Nat.le_of_ble_eq_true rfl) ?_
  refine v_iload dL_law_350 rfl ?_
  refine v_icmp_eq 357 dL_law_352 (by decide) (fun _ => ?_) (fun h => absurd ht h)
  have tl : ∀ ls5 : List (Option Value), V G YL_law 60 kc ks Q1 X 374 (LW i ++ ls5) [] M2 := fun ls5 => v_goto 2773 dL_law_374 (by decide) (v_take 5 (kk M2 hL2))
  refine v_iload dL_law_357 rfl ?_
  refine v_if_ne 374 dL_law_359 (by decide) (fun _ => tl _) (fun h0 => ?_)
  have h0 := Decidable.not_not.mp h0
  refine v_aload_n dL_law_362 rfl ?_
  refine v_iconst 0 dL_law_363 (by decide) ?_
  refine v_lald dL_law_364 (hS2.1 247 _ rfl) (vp_in_iff.mpr (by decide)) ?_
  rw [z_clamp, hv h0]
  refine v_iload dL_law_365 rfl ?_
  refine v_i2l dL_law_367 ?_
  refine v_lcmp dL_law_368 ?_
  exact v_if_eq 374 dL_law_369 (by decide) (fun _ => tl _) (fun h => absurd (lg_eq.mpr rfl) h)
theorem law_2 {i : Nat} (hi : i + 6 ≤ ad G 1000) (hN : ad G 1000 ≤ 3072) (hL : LI M) (kk : ∀ M2, LI M2 → V G YL_law 60 kc ks Q1 X 2773 (LW i) [] M2) : V G YL_law 60 (kc + 75) (ks + 1023) Q1 X 377 (LW i) [] M := by
  have hS := hL.1.1.1
  refine v_pad (v_pad (v_pad ?_))
  obtain ⟨v, Qp, hA, hB⟩ := op_fault G M hL (scv G (nI i + 1))
  refine v_aload_n dL_law_377 rfl ?_
  refine l_arg 1 1 hi hN dL_law_378 dL_law_379 dL_law_381 (by decide) dL_law_382 dL_law_383 rfl rfl (by decide) ?_
  refine V.up (kc := kc + 0) (ks := ks + 0) (v_callV [.int (scv G (nI i + 1))] hA k11_fault dL_law_384 lL_155 (hS.1 100 _ rfl) ⟨by decide, rfl⟩ rfl (Nat.le_of_ble_eq_true rfl) (Nat.le_of_ble_eq_true rfl) (fun v1 M1 hq => ?_) (fun _ _ h => h.elim)) (by omega) (by omega)
  obtain ⟨rfl, hq⟩ := hq
  obtain ⟨hS1, hC⟩ := hB M1 hq
  refine v_aload_n dL_law_387 rfl ?_
  refine l_arg 1 1 hi hN dL_law_388 dL_law_389 dL_law_391 (by decide) dL_law_392 dL_law_393 rfl rfl (by decide) ?_
  refine v_scV (kc := kc) (ks := ks) [.int (scv G (nI i + 1))] hC k12_fault dL_law_394 lL_158 (hS1.1 230 _ rfl) ⟨by decide, rfl⟩ rfl (Nat.le_of_ble_eq_true rfl) (Nat.le_of_ble_eq_true rfl) (fun M2 hL2 => ?_)
  exact v_icmp_eq 2773 dL_law_397 (by decide) (fun _ => v_take 5 (kk M2 hL2)) (fun h => absurd rfl h)
theorem law_3 {i : Nat} (hi : i + 6 ≤ ad G 1000) (hN : ad G 1000 ≤ 3072) (hL : LI M) (kk : ∀ M2, LI M2 → V G YL_law 60 kc ks Q1 X 2773 (LW i) [] M2) : V G YL_law 60 (kc + 75) (ks + 1023) Q1 X 402 (LW i) [] M := by
  have hS := hL.1.1.1
  refine v_pad (v_pad (v_pad ?_))
  by_cases hb : (scv G (nI i + 3)) = 0
  · skip
    obtain ⟨Qp, hA, hB⟩ := op_mark G M hL (scv G (nI i + 1)) (scv G (nI i + 2)) false
    refine v_aload_n dL_law_402 rfl ?_
    refine l_arg 1 1 hi hN dL_law_403 dL_law_404 dL_law_406 (by decide) dL_law_407 dL_law_408 rfl rfl (by decide) ?_
    refine l_arg 2 2 hi hN dL_law_409 dL_law_410 dL_law_412 (by decide) dL_law_413 dL_law_414 rfl rfl (by decide) ?_
    refine l_arg 3 3 hi hN dL_law_415 dL_law_416 dL_law_418 (by decide) dL_law_419 dL_law_420 rfl rfl (by decide) ?_
    refine v_if_eq 428 dL_law_421 (by decide) (fun _ => ?_) (fun h => absurd hb h)
    refine v_iconst 0 dL_law_428 (by decide) ?_
    refine v_aload_n dL_law_429 rfl ?_
    refine V.up (kc := kc + 1) (ks := ks + 6) (v_callW [.ref 100, .int (scv G (nI i + 1)), .int (scv G (nI i + 2)), .int 0, .ref 247] hA kL_mark dL_law_430 lL_159 rfl (Nat.le_of_ble_eq_true rfl) (Nat.le_of_ble_eq_true rfl) (fun v1 M1 hq => ?_)) (by omega) (by omega)
    obtain ⟨t, rfl, hq⟩ := hq
    obtain ⟨hS1, v2, hC⟩ := hB t M1 hq
    refine v_istore dL_law_433 rfl (by decide) ?_
    refine v_aload_n dL_law_435 rfl ?_
    refine l_arg 1 1 hi hN dL_law_436 dL_law_437 dL_law_439 (by decide) dL_law_440 dL_law_441 rfl rfl (by decide) ?_
    refine l_arg 2 2 hi hN dL_law_442 dL_law_443 dL_law_445 (by decide) dL_law_446 dL_law_447 rfl rfl (by decide) ?_
    refine l_arg 3 3 hi hN dL_law_448 dL_law_449 dL_law_451 (by decide) dL_law_452 dL_law_453 rfl rfl (by decide) ?_
    refine v_if_eq 461 dL_law_454 (by decide) (fun _ => ?_) (fun h => absurd hb h)
    refine v_iconst 0 dL_law_461 (by decide) ?_
    refine v_scV (kc := kc) (ks := ks) [.int (scv G (nI i + 1)), .int (scv G (nI i + 2)), .int 0] hC k12_mark dL_law_462 lL_162 (hS1.1 230 _ rfl) ⟨by decide, rfl⟩ rfl (Nat.le_of_ble_eq_true rfl) (Nat.le_of_ble_eq_true rfl) (fun M2 h2 => ?_)
    obtain ⟨hL2, ht, hv⟩ := h2
    have hS2 := hL2.1.1.1
    refine v_istore dL_law_465 rfl (by decide) ?_
    refine v_aload_n dL_law_467 rfl ?_
    refine v_cV (kc := kc) (ks := ks) [] (c12_thrown G M2 hS2) k12_thrown dL_law_468 lL_152 (hS2.1 230 _ rfl) ⟨by decide, rfl⟩ rfl (Nat.le_of_ble_eq_true rfl) (Nat.le_of_ble_eq_true rfl) ?_
    refine v_iload dL_law_471 rfl ?_
    refine v_icmp_eq 478 dL_law_473 (by decide) (fun _ => ?_) (fun h => absurd ht h)
    have tl : ∀ ls5 : List (Option Value), V G YL_law 60 kc ks Q1 X 495 (LW i ++ ls5) [] M2 := fun ls5 => v_goto 2773 dL_law_495 (by decide) (v_take 5 (kk M2 hL2))
    refine v_iload dL_law_478 rfl ?_
    refine v_if_ne 495 dL_law_480 (by decide) (fun _ => tl _) (fun h0 => ?_)
    have h0 := Decidable.not_not.mp h0
    refine v_aload_n dL_law_483 rfl ?_
    refine v_iconst 0 dL_law_484 (by decide) ?_
    refine v_lald dL_law_485 (hS2.1 247 _ rfl) (vp_in_iff.mpr (by decide)) ?_
    rw [z_clamp, hv h0]
    refine v_iload dL_law_486 rfl ?_
    refine v_i2l dL_law_488 ?_
    refine v_lcmp dL_law_489 ?_
    exact v_if_eq 495 dL_law_490 (by decide) (fun _ => tl _) (fun h => absurd (lg_eq.mpr rfl) h)
  · skip
    obtain ⟨Qp, hA, hB⟩ := op_mark G M hL (scv G (nI i + 1)) (scv G (nI i + 2)) true
    refine v_aload_n dL_law_402 rfl ?_
    refine l_arg 1 1 hi hN dL_law_403 dL_law_404 dL_law_406 (by decide) dL_law_407 dL_law_408 rfl rfl (by decide) ?_
    refine l_arg 2 2 hi hN dL_law_409 dL_law_410 dL_law_412 (by decide) dL_law_413 dL_law_414 rfl rfl (by decide) ?_
    refine l_arg 3 3 hi hN dL_law_415 dL_law_416 dL_law_418 (by decide) dL_law_419 dL_law_420 rfl rfl (by decide) ?_
    refine v_if_eq 428 dL_law_421 (by decide) (fun h => absurd h hb) (fun _ => ?_)
    refine v_iconst 1 dL_law_424 (by decide) ?_
    refine v_goto 429 dL_law_425 (by decide) ?_
    refine v_aload_n dL_law_429 rfl ?_
    refine V.up (kc := kc + 1) (ks := ks + 6) (v_callW [.ref 100, .int (scv G (nI i + 1)), .int (scv G (nI i + 2)), .int 1, .ref 247] hA kL_mark dL_law_430 lL_159 rfl (Nat.le_of_ble_eq_true rfl) (Nat.le_of_ble_eq_true rfl) (fun v1 M1 hq => ?_)) (by omega) (by omega)
    obtain ⟨t, rfl, hq⟩ := hq
    obtain ⟨hS1, v2, hC⟩ := hB t M1 hq
    refine v_istore dL_law_433 rfl (by decide) ?_
    refine v_aload_n dL_law_435 rfl ?_
    refine l_arg 1 1 hi hN dL_law_436 dL_law_437 dL_law_439 (by decide) dL_law_440 dL_law_441 rfl rfl (by decide) ?_
    refine l_arg 2 2 hi hN dL_law_442 dL_law_443 dL_law_445 (by decide) dL_law_446 dL_law_447 rfl rfl (by decide) ?_
    refine l_arg 3 3 hi hN dL_law_448 dL_law_449 dL_law_451 (by decide) dL_law_452 dL_law_453 rfl rfl (by decide) ?_
    refine v_if_eq 461 dL_law_454 (by decide) (fun h => absurd h hb) (fun _ => ?_)
    refine v_iconst 1 dL_law_457 (by decide) ?_
    refine v_goto 462 dL_law_458 (by decide) ?_
    refine v_scV (kc := kc) (ks := ks) [.int (scv G (nI i + 1)), .int (scv G (nI i + 2)), .int 1] hC k12_mark dL_law_462 lL_162 (hS1.1 230 _ rfl) ⟨by decide, rfl⟩ rfl (Nat.le_of_ble_eq_true rfl) (Nat.le_of_ble_eq_true rfl) (fun M2 h2 => ?_)
    obtain ⟨hL2, ht, hv⟩ := h2
    have hS2 := hL2.1.1.1
    refine v_istore dL_law_465 rfl (by decide) ?_
    refine v_aload_n dL_law_467 rfl ?_
    refine v_cV (kc := kc) (ks := ks) [] (c12_thrown G M2 hS2) k12_thrown dL_law_468 lL_152 (hS2.1 230 _ rfl) ⟨by decide, rfl⟩ rfl (Nat.le_of_ble_eq_true rfl) (Nat.le_of_ble_eq_true rfl) ?_
    refine v_iload dL_law_471 rfl ?_
    refine v_icmp_eq 478 dL_law_473 (by decide) (fun _ => ?_) (fun h => absurd ht h)
    have tl : ∀ ls5 : List (Option Value), V G YL_law 60 kc ks Q1 X 495 (LW i ++ ls5) [] M2 := fun ls5 => v_goto 2773 dL_law_495 (by decide) (v_take 5 (kk M2 hL2))
    refine v_iload dL_law_478 rfl ?_
    refine v_if_ne 495 dL_law_480 (by decide) (fun _ => tl _) (fun h0 => ?_)
    have h0 := Decidable.not_not.mp h0
    refine v_aload_n dL_law_483 rfl ?_
    refine v_iconst 0 dL_law_484 (by decide) ?_
    refine v_lald dL_law_485 (hS2.1 247 _ rfl) (vp_in_iff.mpr (by decide)) ?_
    rw [z_clamp, hv h0]
    refine v_iload dL_law_486 rfl ?_
    refine v_i2l dL_law_488 ?_
    refine v_lcmp dL_law_489 ?_
    exact v_if_eq 495 dL_law_490 (by decide) (fun _ => tl _) (fun h => absurd (lg_eq.mpr rfl) h)
theorem law_4 {i : Nat} (hi : i + 6 ≤ ad G 1000) (hN : ad G 1000 ≤ 3072) (hL : LI M) (kk : ∀ M2, LI M2 → V G YL_law 60 kc ks Q1 X 2773 (LW i) [] M2) : V G YL_law 60 (kc + 75) (ks + 1023) Q1 X 498 (LW i) [] M := by
  have hS := hL.1.1.1
  refine v_pad (v_pad (v_pad ?_))
  obtain ⟨Qp, hA, hB⟩ := op_chest G M hL (scv G (nI i + 1)) (scv G (nI i + 2))
  refine v_aload_n dL_law_498 rfl ?_
  refine l_arg 1 1 hi hN dL_law_499 dL_law_500 dL_law_502 (by decide) dL_law_503 dL_law_504 rfl rfl (by decide) ?_
  refine l_arg 2 2 hi hN dL_law_505 dL_law_506 dL_law_508 (by decide) dL_law_509 dL_law_510 rfl rfl (by decide) ?_
  refine v_aload_n dL_law_511 rfl ?_
  refine V.up (kc := kc + 1) (ks := ks + 6) (v_callW [.ref 100, .int (scv G (nI i + 1)), .int (scv G (nI i + 2)), .ref 247] hA kL_chest dL_law_512 lL_163 rfl (Nat.le_of_ble_eq_true rfl) (Nat.le_of_ble_eq_true rfl) (fun v1 M1 hq => ?_)) (by omega) (by omega)
  obtain ⟨t, rfl, hq⟩ := hq
  obtain ⟨hS1, v2, hC⟩ := hB t M1 hq
  refine v_istore dL_law_515 rfl (by decide) ?_
  refine v_aload_n dL_law_517 rfl ?_
  refine l_arg 1 1 hi hN dL_law_518 dL_law_519 dL_law_521 (by decide) dL_law_522 dL_law_523 rfl rfl (by decide) ?_
  refine l_arg 2 2 hi hN dL_law_524 dL_law_525 dL_law_527 (by decide) dL_law_528 dL_law_529 rfl rfl (by decide) ?_
  refine v_scV (kc := kc) (ks := ks) [.int (scv G (nI i + 1)), .int (scv G (nI i + 2))] hC k12_chest dL_law_530 lL_166 (hS1.1 230 _ rfl) ⟨by decide, rfl⟩ rfl (Nat.le_of_ble_eq_true rfl) (Nat.le_of_ble_eq_true rfl) (fun M2 h2 => ?_)
  obtain ⟨hL2, ht, hv⟩ := h2
  have hS2 := hL2.1.1.1
  refine v_istore dL_law_533 rfl (by decide) ?_
  refine v_aload_n dL_law_535 rfl ?_
  refine v_cV (kc := kc) (ks := ks) [] (c12_thrown G M2 hS2) k12_thrown dL_law_536 lL_152 (hS2.1 230 _ rfl) ⟨by decide, rfl⟩ rfl (Nat.le_of_ble_eq_true rfl) (Nat.le_of_ble_eq_true rfl) ?_
  refine v_iload dL_law_539 rfl ?_
  refine v_icmp_eq 546 dL_law_541 (by decide) (fun _ => ?_) (fun h => absurd ht h)
  have tl : ∀ ls5 : List (Option Value), V G YL_law 60 kc ks Q1 X 563 (LW i ++ ls5) [] M2 := fun ls5 => v_goto 2773 dL_law_563 (by decide) (v_take 5 (kk M2 hL2))
  refine v_iload dL_law_546 rfl ?_
  refine v_if_ne 563 dL_law_548 (by decide) (fun _ => tl _) (fun h0 => ?_)
  have h0 := Decidable.not_not.mp h0
  refine v_aload_n dL_law_551 rfl ?_
  refine v_iconst 0 dL_law_552 (by decide) ?_
  refine v_lald dL_law_553 (hS2.1 247 _ rfl) (vp_in_iff.mpr (by decide)) ?_
  rw [z_clamp, hv h0]
  refine v_iload dL_law_554 rfl ?_
  refine v_i2l dL_law_556 ?_
  refine v_lcmp dL_law_557 ?_
  exact v_if_eq 563 dL_law_558 (by decide) (fun _ => tl _) (fun h => absurd (lg_eq.mpr rfl) h)
theorem law_5 {i : Nat} (hi : i + 6 ≤ ad G 1000) (hN : ad G 1000 ≤ 3072) (hL : LI M) (kk : ∀ M2, LI M2 → V G YL_law 60 kc ks Q1 X 2773 (LW i) [] M2) : V G YL_law 60 (kc + 75) (ks + 1023) Q1 X 566 (LW i) [] M := by
  have hS := hL.1.1.1
  refine v_pad (v_pad (v_pad ?_))
  obtain ⟨Qp, hA, hB⟩ := op_word G M hL (scv G (nI i + 1)) (scv G (nI i + 2))
  refine v_aload_n dL_law_566 rfl ?_
  refine l_arg 1 1 hi hN dL_law_567 dL_law_568 dL_law_570 (by decide) dL_law_571 dL_law_572 rfl rfl (by decide) ?_
  refine l_arg 2 2 hi hN dL_law_573 dL_law_574 dL_law_576 (by decide) dL_law_577 dL_law_578 rfl rfl (by decide) ?_
  refine v_aload_n dL_law_579 rfl ?_
  refine V.up (kc := kc + 1) (ks := ks + 6) (v_callW [.ref 100, .int (scv G (nI i + 1)), .int (scv G (nI i + 2)), .ref 247] hA kL_word dL_law_580 lL_167 rfl (Nat.le_of_ble_eq_true rfl) (Nat.le_of_ble_eq_true rfl) (fun v1 M1 hq => ?_)) (by omega) (by omega)
  obtain ⟨t, rfl, hq⟩ := hq
  obtain ⟨hS1, v2, hC⟩ := hB t M1 hq
  refine v_istore dL_law_583 rfl (by decide) ?_
  refine v_aload_n dL_law_585 rfl ?_
  refine l_arg 1 1 hi hN dL_law_586 dL_law_587 dL_law_589 (by decide) dL_law_590 dL_law_591 rfl rfl (by decide) ?_
  refine l_arg 2 2 hi hN dL_law_592 dL_law_593 dL_law_595 (by decide) dL_law_596 dL_law_597 rfl rfl (by decide) ?_
  refine v_scV (kc := kc) (ks := ks) [.int (scv G (nI i + 1)), .int (scv G (nI i + 2))] hC k12_word dL_law_598 lL_169 (hS1.1 230 _ rfl) ⟨by decide, rfl⟩ rfl (Nat.le_of_ble_eq_true rfl) (Nat.le_of_ble_eq_true rfl) (fun M2 h2 => ?_)
  obtain ⟨hL2, ht, hv⟩ := h2
  have hS2 := hL2.1.1.1
  refine v_istore dL_law_601 rfl (by decide) ?_
  refine v_aload_n dL_law_603 rfl ?_
  refine v_cV (kc := kc) (ks := ks) [] (c12_thrown G M2 hS2) k12_thrown dL_law_604 lL_152 (hS2.1 230 _ rfl) ⟨by decide, rfl⟩ rfl (Nat.le_of_ble_eq_true rfl) (Nat.le_of_ble_eq_true rfl) ?_
  refine v_iload dL_law_607 rfl ?_
  refine v_icmp_eq 614 dL_law_609 (by decide) (fun _ => ?_) (fun h => absurd ht h)
  have tl : ∀ ls5 : List (Option Value), V G YL_law 60 kc ks Q1 X 631 (LW i ++ ls5) [] M2 := fun ls5 => v_goto 2773 dL_law_631 (by decide) (v_take 5 (kk M2 hL2))
  refine v_iload dL_law_614 rfl ?_
  refine v_if_ne 631 dL_law_616 (by decide) (fun _ => tl _) (fun h0 => ?_)
  have h0 := Decidable.not_not.mp h0
  refine v_aload_n dL_law_619 rfl ?_
  refine v_iconst 0 dL_law_620 (by decide) ?_
  refine v_lald dL_law_621 (hS2.1 247 _ rfl) (vp_in_iff.mpr (by decide)) ?_
  rw [z_clamp, hv h0]
  refine v_iload dL_law_622 rfl ?_
  refine v_i2l dL_law_624 ?_
  refine v_lcmp dL_law_625 ?_
  exact v_if_eq 631 dL_law_626 (by decide) (fun _ => tl _) (fun h => absurd (lg_eq.mpr rfl) h)
theorem law_6 {i : Nat} (hi : i + 6 ≤ ad G 1000) (hN : ad G 1000 ≤ 3072) (hL : LI M) (kk : ∀ M2, LI M2 → V G YL_law 60 kc ks Q1 X 2773 (LW i) [] M2) : V G YL_law 60 (kc + 75) (ks + 1023) Q1 X 634 (LW i) [] M := by
  have hS := hL.1.1.1
  refine v_pad (v_pad (v_pad ?_))
  by_cases hb : (scv G (nI i + 3)) = 0
  · skip
    obtain ⟨Qp, hA, hB⟩ := op_holds G M hL (scv G (nI i + 1)) (scv G (nI i + 2)) false
    refine v_aload_n dL_law_634 rfl ?_
    refine l_arg 1 1 hi hN dL_law_635 dL_law_636 dL_law_638 (by decide) dL_law_639 dL_law_640 rfl rfl (by decide) ?_
    refine l_arg 2 2 hi hN dL_law_641 dL_law_642 dL_law_644 (by decide) dL_law_645 dL_law_646 rfl rfl (by decide) ?_
    refine l_arg 3 3 hi hN dL_law_647 dL_law_648 dL_law_650 (by decide) dL_law_651 dL_law_652 rfl rfl (by decide) ?_
    refine v_if_eq 660 dL_law_653 (by decide) (fun _ => ?_) (fun h => absurd hb h)
    refine v_iconst 0 dL_law_660 (by decide) ?_
    refine v_aload_n dL_law_661 rfl ?_
    refine V.up (kc := kc + 1) (ks := ks + 6) (v_callW [.ref 100, .int (scv G (nI i + 1)), .int (scv G (nI i + 2)), .int 0, .ref 247] hA kL_holds dL_law_662 lL_170 rfl (Nat.le_of_ble_eq_true rfl) (Nat.le_of_ble_eq_true rfl) (fun v1 M1 hq => ?_)) (by omega) (by omega)
    obtain ⟨t, rfl, hq⟩ := hq
    obtain ⟨hS1, v2, hC⟩ := hB t M1 hq
    refine v_istore dL_law_665 rfl (by decide) ?_
    refine v_aload_n dL_law_667 rfl ?_
    refine l_arg 1 1 hi hN dL_law_668 dL_law_669 dL_law_671 (by decide) dL_law_672 dL_law_673 rfl rfl (by decide) ?_
    refine l_arg 2 2 hi hN dL_law_674 dL_law_675 dL_law_677 (by decide) dL_law_678 dL_law_679 rfl rfl (by decide) ?_
    refine l_arg 3 3 hi hN dL_law_680 dL_law_681 dL_law_683 (by decide) dL_law_684 dL_law_685 rfl rfl (by decide) ?_
    refine v_if_eq 693 dL_law_686 (by decide) (fun _ => ?_) (fun h => absurd hb h)
    refine v_iconst 0 dL_law_693 (by decide) ?_
    refine v_scV (kc := kc) (ks := ks) [.int (scv G (nI i + 1)), .int (scv G (nI i + 2)), .int 0] hC k12_holds dL_law_694 lL_172 (hS1.1 230 _ rfl) ⟨by decide, rfl⟩ rfl (Nat.le_of_ble_eq_true rfl) (Nat.le_of_ble_eq_true rfl) (fun M2 h2 => ?_)
    obtain ⟨hL2, ht, hv⟩ := h2
    have hS2 := hL2.1.1.1
    refine v_istore dL_law_697 rfl (by decide) ?_
    refine v_aload_n dL_law_699 rfl ?_
    refine v_cV (kc := kc) (ks := ks) [] (c12_thrown G M2 hS2) k12_thrown dL_law_700 lL_152 (hS2.1 230 _ rfl) ⟨by decide, rfl⟩ rfl (Nat.le_of_ble_eq_true rfl) (Nat.le_of_ble_eq_true rfl) ?_
    refine v_iload dL_law_703 rfl ?_
    refine v_icmp_eq 710 dL_law_705 (by decide) (fun _ => ?_) (fun h => absurd ht h)
    have tl : ∀ ls5 : List (Option Value), V G YL_law 60 kc ks Q1 X 734 (LW i ++ ls5) [] M2 := fun ls5 => v_goto 2773 dL_law_734 (by decide) (v_take 5 (kk M2 hL2))
    refine v_iload dL_law_710 rfl ?_
    refine v_if_ne 734 dL_law_712 (by decide) (fun _ => tl _) (fun h0 => ?_)
    have h0 := Decidable.not_not.mp h0
    refine v_aload_n dL_law_715 rfl ?_
    refine v_iconst 0 dL_law_716 (by decide) ?_
    refine v_lald dL_law_717 (hS2.1 247 _ rfl) (vp_in_iff.mpr (by decide)) ?_
    rw [z_clamp, hv h0]
    refine v_iload dL_law_718 rfl ?_
    refine v_if_eq 727 dL_law_720 (by decide) (fun e => ?_) (fun e => ?_)
    · rw [if_pos e]
      refine v_lconst 0 dL_law_727 (by decide) ?_
      refine v_lcmp dL_law_728 ?_
      exact v_if_eq 734 dL_law_729 (by decide) (fun _ => tl _) (fun h => absurd (lg_eq.mpr rfl) h)
    · rw [if_neg e]
      refine v_lconst 1 dL_law_723 (by decide) ?_
      refine v_goto 728 dL_law_724 (by decide) ?_
      refine v_lcmp dL_law_728 ?_
      exact v_if_eq 734 dL_law_729 (by decide) (fun _ => tl _) (fun h => absurd (lg_eq.mpr rfl) h)
  · skip
    obtain ⟨Qp, hA, hB⟩ := op_holds G M hL (scv G (nI i + 1)) (scv G (nI i + 2)) true
    refine v_aload_n dL_law_634 rfl ?_
    refine l_arg 1 1 hi hN dL_law_635 dL_law_636 dL_law_638 (by decide) dL_law_639 dL_law_640 rfl rfl (by decide) ?_
    refine l_arg 2 2 hi hN dL_law_641 dL_law_642 dL_law_644 (by decide) dL_law_645 dL_law_646 rfl rfl (by decide) ?_
    refine l_arg 3 3 hi hN dL_law_647 dL_law_648 dL_law_650 (by decide) dL_law_651 dL_law_652 rfl rfl (by decide) ?_
    refine v_if_eq 660 dL_law_653 (by decide) (fun h => absurd h hb) (fun _ => ?_)
    refine v_iconst 1 dL_law_656 (by decide) ?_
    refine v_goto 661 dL_law_657 (by decide) ?_
    refine v_aload_n dL_law_661 rfl ?_
    refine V.up (kc := kc + 1) (ks := ks + 6) (v_callW [.ref 100, .int (scv G (nI i + 1)), .int (scv G (nI i + 2)), .int 1, .ref 247] hA kL_holds dL_law_662 lL_170 rfl (Nat.le_of_ble_eq_true rfl) (Nat.le_of_ble_eq_true rfl) (fun v1 M1 hq => ?_)) (by omega) (by omega)
    obtain ⟨t, rfl, hq⟩ := hq
    obtain ⟨hS1, v2, hC⟩ := hB t M1 hq
    refine v_istore dL_law_665 rfl (by decide) ?_
    refine v_aload_n dL_law_667 rfl ?_
    refine l_arg 1 1 hi hN dL_law_668 dL_law_669 dL_law_671 (by decide) dL_law_672 dL_law_673 rfl rfl (by decide) ?_
    refine l_arg 2 2 hi hN dL_law_674 dL_law_675 dL_law_677 (by decide) dL_law_678 dL_law_679 rfl rfl (by decide) ?_
    refine l_arg 3 3 hi hN dL_law_680 dL_law_681 dL_law_683 (by decide) dL_law_684 dL_law_685 rfl rfl (by decide) ?_
    refine v_if_eq 693 dL_law_686 (by decide) (fun h => absurd h hb) (fun _ => ?_)
    refine v_iconst 1 dL_law_689 (by decide) ?_
    refine v_goto 694 dL_law_690 (by decide) ?_
    refine v_scV (kc := kc) (ks := ks) [.int (scv G (nI i + 1)), .int (scv G (nI i + 2)), .int 1] hC k12_holds dL_law_694 lL_172 (hS1.1 230 _ rfl) ⟨by decide, rfl⟩ rfl (Nat.le_of_ble_eq_true rfl) (Nat.le_of_ble_eq_true rfl) (fun M2 h2 => ?_)
    obtain ⟨hL2, ht, hv⟩ := h2
    have hS2 := hL2.1.1.1
    refine v_istore dL_law_697 rfl (by decide) ?_
    refine v_aload_n dL_law_699 rfl ?_
    refine v_cV (kc := kc) (ks := ks) [] (c12_thrown G M2 hS2) k12_thrown dL_law_700 lL_152 (hS2.1 230 _ rfl) ⟨by decide, rfl⟩ rfl (Nat.le_of_ble_eq_true rfl) (Nat.le_of_ble_eq_true rfl) ?_
    refine v_iload dL_law_703 rfl ?_
    refine v_icmp_eq 710 dL_law_705 (by decide) (fun _ => ?_) (fun h => absurd ht h)
    have tl : ∀ ls5 : List (Option Value), V G YL_law 60 kc ks Q1 X 734 (LW i ++ ls5) [] M2 := fun ls5 => v_goto 2773 dL_law_734 (by decide) (v_take 5 (kk M2 hL2))
    refine v_iload dL_law_710 rfl ?_
    refine v_if_ne 734 dL_law_712 (by decide) (fun _ => tl _) (fun h0 => ?_)
    have h0 := Decidable.not_not.mp h0
    refine v_aload_n dL_law_715 rfl ?_
    refine v_iconst 0 dL_law_716 (by decide) ?_
    refine v_lald dL_law_717 (hS2.1 247 _ rfl) (vp_in_iff.mpr (by decide)) ?_
    rw [z_clamp, hv h0]
    refine v_iload dL_law_718 rfl ?_
    refine v_if_eq 727 dL_law_720 (by decide) (fun e => ?_) (fun e => ?_)
    · rw [if_pos e]
      refine v_lconst 0 dL_law_727 (by decide) ?_
      refine v_lcmp dL_law_728 ?_
      exact v_if_eq 734 dL_law_729 (by decide) (fun _ => tl _) (fun h => absurd (lg_eq.mpr rfl) h)
    · rw [if_neg e]
      refine v_lconst 1 dL_law_723 (by decide) ?_
      refine v_goto 728 dL_law_724 (by decide) ?_
      refine v_lcmp dL_law_728 ?_
      exact v_if_eq 734 dL_law_729 (by decide) (fun _ => tl _) (fun h => absurd (lg_eq.mpr rfl) h)
theorem law_7 {i : Nat} (hi : i + 6 ≤ ad G 1000) (hN : ad G 1000 ≤ 3072) (hL : LI M) (kk : ∀ M2, LI M2 → V G YL_law 60 kc ks Q1 X 2773 (LW i) [] M2) : V G YL_law 60 (kc + 75) (ks + 1023) Q1 X 737 (LW i) [] M := by
  have hS := hL.1.1.1
  refine v_pad (v_pad (v_pad ?_))
  obtain ⟨Qp, hA, hB⟩ := op_fits G M hL (scv G (nI i + 1))
  refine v_aload_n dL_law_737 rfl ?_
  refine l_arg 1 1 hi hN dL_law_738 dL_law_739 dL_law_741 (by decide) dL_law_742 dL_law_743 rfl rfl (by decide) ?_
  refine v_aload_n dL_law_744 rfl ?_
  refine V.up (kc := kc + 1) (ks := ks + 6) (v_callW [.ref 100, .int (scv G (nI i + 1)), .ref 247] hA kL_fits dL_law_745 lL_173 rfl (Nat.le_of_ble_eq_true rfl) (Nat.le_of_ble_eq_true rfl) (fun v1 M1 hq => ?_)) (by omega) (by omega)
  obtain ⟨t, rfl, hq⟩ := hq
  obtain ⟨hS1, v2, hC⟩ := hB t M1 hq
  refine v_istore dL_law_748 rfl (by decide) ?_
  refine v_aload_n dL_law_750 rfl ?_
  refine l_arg 1 1 hi hN dL_law_751 dL_law_752 dL_law_754 (by decide) dL_law_755 dL_law_756 rfl rfl (by decide) ?_
  refine v_scV (kc := kc) (ks := ks) [.int (scv G (nI i + 1))] hC k12_fits dL_law_757 lL_175 (hS1.1 230 _ rfl) ⟨by decide, rfl⟩ rfl (Nat.le_of_ble_eq_true rfl) (Nat.le_of_ble_eq_true rfl) (fun M2 h2 => ?_)
  obtain ⟨hL2, ht, hv⟩ := h2
  have hS2 := hL2.1.1.1
  refine v_istore dL_law_760 rfl (by decide) ?_
  refine v_aload_n dL_law_762 rfl ?_
  refine v_cV (kc := kc) (ks := ks) [] (c12_thrown G M2 hS2) k12_thrown dL_law_763 lL_152 (hS2.1 230 _ rfl) ⟨by decide, rfl⟩ rfl (Nat.le_of_ble_eq_true rfl) (Nat.le_of_ble_eq_true rfl) ?_
  refine v_iload dL_law_766 rfl ?_
  refine v_icmp_eq 773 dL_law_768 (by decide) (fun _ => ?_) (fun h => absurd ht h)
  have tl : ∀ ls5 : List (Option Value), V G YL_law 60 kc ks Q1 X 790 (LW i ++ ls5) [] M2 := fun ls5 => v_goto 2773 dL_law_790 (by decide) (v_take 5 (kk M2 hL2))
  refine v_iload dL_law_773 rfl ?_
  refine v_if_ne 790 dL_law_775 (by decide) (fun _ => tl _) (fun h0 => ?_)
  have h0 := Decidable.not_not.mp h0
  refine v_aload_n dL_law_778 rfl ?_
  refine v_iconst 0 dL_law_779 (by decide) ?_
  refine v_lald dL_law_780 (hS2.1 247 _ rfl) (vp_in_iff.mpr (by decide)) ?_
  rw [z_clamp, hv h0]
  refine v_iload dL_law_781 rfl ?_
  refine v_i2l dL_law_783 ?_
  refine v_lcmp dL_law_784 ?_
  exact v_if_eq 790 dL_law_785 (by decide) (fun _ => tl _) (fun h => absurd (lg_eq.mpr rfl) h)
theorem law_8 {i : Nat} (hi : i + 6 ≤ ad G 1000) (hN : ad G 1000 ≤ 3072) (hL : LI M) (kk : ∀ M2, LI M2 → V G YL_law 60 kc ks Q1 X 2773 (LW i) [] M2) : V G YL_law 60 (kc + 75) (ks + 1023) Q1 X 793 (LW i) [] M := by
  have hS := hL.1.1.1
  refine v_pad (v_pad (v_pad ?_))
  obtain ⟨Qp, hA, hB⟩ := op_tells G M hL (scv G (nI i + 1))
  refine v_aload_n dL_law_793 rfl ?_
  refine l_arg 1 1 hi hN dL_law_794 dL_law_795 dL_law_797 (by decide) dL_law_798 dL_law_799 rfl rfl (by decide) ?_
  refine v_aload_n dL_law_800 rfl ?_
  refine V.up (kc := kc + 1) (ks := ks + 6) (v_callW [.ref 100, .int (scv G (nI i + 1)), .ref 247] hA kL_tells dL_law_801 lL_176 rfl (Nat.le_of_ble_eq_true rfl) (Nat.le_of_ble_eq_true rfl) (fun v1 M1 hq => ?_)) (by omega) (by omega)
  obtain ⟨t, rfl, hq⟩ := hq
  obtain ⟨hS1, v2, hC⟩ := hB t M1 hq
  refine v_istore dL_law_804 rfl (by decide) ?_
  refine v_aload_n dL_law_806 rfl ?_
  refine l_arg 1 1 hi hN dL_law_807 dL_law_808 dL_law_810 (by decide) dL_law_811 dL_law_812 rfl rfl (by decide) ?_
  refine v_scV (kc := kc) (ks := ks) [.int (scv G (nI i + 1))] hC k12_tells dL_law_813 lL_178 (hS1.1 230 _ rfl) ⟨by decide, rfl⟩ rfl (Nat.le_of_ble_eq_true rfl) (Nat.le_of_ble_eq_true rfl) (fun M2 h2 => ?_)
  obtain ⟨hL2, ht, hv⟩ := h2
  have hS2 := hL2.1.1.1
  refine v_istore dL_law_816 rfl (by decide) ?_
  refine v_aload_n dL_law_818 rfl ?_
  refine v_cV (kc := kc) (ks := ks) [] (c12_thrown G M2 hS2) k12_thrown dL_law_819 lL_152 (hS2.1 230 _ rfl) ⟨by decide, rfl⟩ rfl (Nat.le_of_ble_eq_true rfl) (Nat.le_of_ble_eq_true rfl) ?_
  refine v_iload dL_law_822 rfl ?_
  refine v_icmp_eq 829 dL_law_824 (by decide) (fun _ => ?_) (fun h => absurd ht h)
  have tl : ∀ ls5 : List (Option Value), V G YL_law 60 kc ks Q1 X 846 (LW i ++ ls5) [] M2 := fun ls5 => v_goto 2773 dL_law_846 (by decide) (v_take 5 (kk M2 hL2))
  refine v_iload dL_law_829 rfl ?_
  refine v_if_ne 846 dL_law_831 (by decide) (fun _ => tl _) (fun h0 => ?_)
  have h0 := Decidable.not_not.mp h0
  refine v_aload_n dL_law_834 rfl ?_
  refine v_iconst 0 dL_law_835 (by decide) ?_
  refine v_lald dL_law_836 (hS2.1 247 _ rfl) (vp_in_iff.mpr (by decide)) ?_
  rw [z_clamp, hv h0]
  refine v_iload dL_law_837 rfl ?_
  refine v_i2l dL_law_839 ?_
  refine v_lcmp dL_law_840 ?_
  exact v_if_eq 846 dL_law_841 (by decide) (fun _ => tl _) (fun h => absurd (lg_eq.mpr rfl) h)
theorem law_9 {i : Nat} (hi : i + 6 ≤ ad G 1000) (hN : ad G 1000 ≤ 3072) (hL : LI M) (kk : ∀ M2, LI M2 → V G YL_law 60 kc ks Q1 X 2773 (LW i) [] M2) : V G YL_law 60 (kc + 75) (ks + 1023) Q1 X 849 (LW i) [] M := by
  have hS := hL.1.1.1
  refine v_pad (v_pad (v_pad ?_))
  obtain ⟨Qp, hA, hB⟩ := op_cost G M hL (scv G (nI i + 1))
  refine v_aload_n dL_law_849 rfl ?_
  refine l_arg 1 1 hi hN dL_law_850 dL_law_851 dL_law_853 (by decide) dL_law_854 dL_law_855 rfl rfl (by decide) ?_
  refine v_aload_n dL_law_856 rfl ?_
  refine V.up (kc := kc + 1) (ks := ks + 6) (v_callW [.ref 100, .int (scv G (nI i + 1)), .ref 247] hA kL_cost dL_law_857 lL_179 rfl (Nat.le_of_ble_eq_true rfl) (Nat.le_of_ble_eq_true rfl) (fun v1 M1 hq => ?_)) (by omega) (by omega)
  obtain ⟨t, rfl, hq⟩ := hq
  obtain ⟨hS1, v2, hC⟩ := hB t M1 hq
  refine v_istore dL_law_860 rfl (by decide) ?_
  refine v_aload_n dL_law_862 rfl ?_
  refine l_arg 1 1 hi hN dL_law_863 dL_law_864 dL_law_866 (by decide) dL_law_867 dL_law_868 rfl rfl (by decide) ?_
  refine v_scV (kc := kc) (ks := ks) [.int (scv G (nI i + 1))] hC k12_cost dL_law_869 lL_181 (hS1.1 230 _ rfl) ⟨by decide, rfl⟩ rfl (Nat.le_of_ble_eq_true rfl) (Nat.le_of_ble_eq_true rfl) (fun M2 h2 => ?_)
  obtain ⟨hL2, ht, hv⟩ := h2
  have hS2 := hL2.1.1.1
  refine v_istore dL_law_872 rfl (by decide) ?_
  refine v_aload_n dL_law_874 rfl ?_
  refine v_cV (kc := kc) (ks := ks) [] (c12_thrown G M2 hS2) k12_thrown dL_law_875 lL_152 (hS2.1 230 _ rfl) ⟨by decide, rfl⟩ rfl (Nat.le_of_ble_eq_true rfl) (Nat.le_of_ble_eq_true rfl) ?_
  refine v_iload dL_law_878 rfl ?_
  refine v_icmp_eq 885 dL_law_880 (by decide) (fun _ => ?_) (fun h => absurd ht h)
  have tl : ∀ ls5 : List (Option Value), V G YL_law 60 kc ks Q1 X 902 (LW i ++ ls5) [] M2 := fun ls5 => v_goto 2773 dL_law_902 (by decide) (v_take 5 (kk M2 hL2))
  refine v_iload dL_law_885 rfl ?_
  refine v_if_ne 902 dL_law_887 (by decide) (fun _ => tl _) (fun h0 => ?_)
  have h0 := Decidable.not_not.mp h0
  refine v_aload_n dL_law_890 rfl ?_
  refine v_iconst 0 dL_law_891 (by decide) ?_
  refine v_lald dL_law_892 (hS2.1 247 _ rfl) (vp_in_iff.mpr (by decide)) ?_
  rw [z_clamp, hv h0]
  refine v_iload dL_law_893 rfl ?_
  refine v_i2l dL_law_895 ?_
  refine v_lcmp dL_law_896 ?_
  exact v_if_eq 902 dL_law_897 (by decide) (fun _ => tl _) (fun h => absurd (lg_eq.mpr rfl) h)
theorem law_10 {i : Nat} (hi : i + 6 ≤ ad G 1000) (hN : ad G 1000 ≤ 3072) (hL : LI M) (kk : ∀ M2, LI M2 → V G YL_law 60 kc ks Q1 X 2773 (LW i) [] M2) : V G YL_law 60 (kc + 75) (ks + 1023) Q1 X 905 (LW i) [] M := by
  have hS := hL.1.1.1
  refine v_pad (v_pad (v_pad ?_))
  obtain ⟨Qp, hA, hB⟩ := op_least G M hL (scv G (nI i + 1))
  refine v_aload_n dL_law_905 rfl ?_
  refine l_arg 1 1 hi hN dL_law_906 dL_law_907 dL_law_909 (by decide) dL_law_910 dL_law_911 rfl rfl (by decide) ?_
  refine v_aload_n dL_law_912 rfl ?_
  refine V.up (kc := kc + 1) (ks := ks + 6) (v_callW [.ref 100, .int (scv G (nI i + 1)), .ref 247] hA kL_least dL_law_913 lL_182 rfl (Nat.le_of_ble_eq_true rfl) (Nat.le_of_ble_eq_true rfl) (fun v1 M1 hq => ?_)) (by omega) (by omega)
  obtain ⟨t, rfl, hq⟩ := hq
  obtain ⟨hS1, v2, hC⟩ := hB t M1 hq
  refine v_istore dL_law_916 rfl (by decide) ?_
  refine v_aload_n dL_law_918 rfl ?_
  refine l_arg 1 1 hi hN dL_law_919 dL_law_920 dL_law_922 (by decide) dL_law_923 dL_law_924 rfl rfl (by decide) ?_
  refine v_scV (kc := kc) (ks := ks) [.int (scv G (nI i + 1))] hC k12_least dL_law_925 lL_184 (hS1.1 230 _ rfl) ⟨by decide, rfl⟩ rfl (Nat.le_of_ble_eq_true rfl) (Nat.le_of_ble_eq_true rfl) (fun M2 h2 => ?_)
  obtain ⟨hL2, ht, hv⟩ := h2
  have hS2 := hL2.1.1.1
  refine v_istore dL_law_928 rfl (by decide) ?_
  refine v_aload_n dL_law_930 rfl ?_
  refine v_cV (kc := kc) (ks := ks) [] (c12_thrown G M2 hS2) k12_thrown dL_law_931 lL_152 (hS2.1 230 _ rfl) ⟨by decide, rfl⟩ rfl (Nat.le_of_ble_eq_true rfl) (Nat.le_of_ble_eq_true rfl) ?_
  refine v_iload dL_law_934 rfl ?_
  refine v_icmp_eq 941 dL_law_936 (by decide) (fun _ => ?_) (fun h => absurd ht h)
  have tl : ∀ ls5 : List (Option Value), V G YL_law 60 kc ks Q1 X 958 (LW i ++ ls5) [] M2 := fun ls5 => v_goto 2773 dL_law_958 (by decide) (v_take 5 (kk M2 hL2))
  refine v_iload dL_law_941 rfl ?_
  refine v_if_ne 958 dL_law_943 (by decide) (fun _ => tl _) (fun h0 => ?_)
  have h0 := Decidable.not_not.mp h0
  refine v_aload_n dL_law_946 rfl ?_
  refine v_iconst 0 dL_law_947 (by decide) ?_
  refine v_lald dL_law_948 (hS2.1 247 _ rfl) (vp_in_iff.mpr (by decide)) ?_
  rw [z_clamp, hv h0]
  refine v_iload dL_law_949 rfl ?_
  refine v_i2l dL_law_951 ?_
  refine v_lcmp dL_law_952 ?_
  exact v_if_eq 958 dL_law_953 (by decide) (fun _ => tl _) (fun h => absurd (lg_eq.mpr rfl) h)
theorem law_11 {i : Nat} (hi : i + 6 ≤ ad G 1000) (hN : ad G 1000 ≤ 3072) (hL : LI M) (kk : ∀ M2, LI M2 → V G YL_law 60 kc ks Q1 X 2773 (LW i) [] M2) : V G YL_law 60 (kc + 75) (ks + 1023) Q1 X 961 (LW i) [] M := by
  have hS := hL.1.1.1
  refine v_pad (v_pad (v_pad ?_))
  obtain ⟨Qp, hA, hB⟩ := op_blind G M hL (scv G (nI i + 1))
  refine v_aload_n dL_law_961 rfl ?_
  refine l_arg 1 1 hi hN dL_law_962 dL_law_963 dL_law_965 (by decide) dL_law_966 dL_law_967 rfl rfl (by decide) ?_
  refine v_aload_n dL_law_968 rfl ?_
  refine V.up (kc := kc + 1) (ks := ks + 6) (v_callW [.ref 100, .int (scv G (nI i + 1)), .ref 247] hA kL_blind dL_law_969 lL_185 rfl (Nat.le_of_ble_eq_true rfl) (Nat.le_of_ble_eq_true rfl) (fun v1 M1 hq => ?_)) (by omega) (by omega)
  obtain ⟨t, rfl, hq⟩ := hq
  obtain ⟨hS1, v2, hC⟩ := hB t M1 hq
  refine v_istore dL_law_972 rfl (by decide) ?_
  refine v_aload_n dL_law_974 rfl ?_
  refine l_arg 1 1 hi hN dL_law_975 dL_law_976 dL_law_978 (by decide) dL_law_979 dL_law_980 rfl rfl (by decide) ?_
  refine v_scV (kc := kc) (ks := ks) [.int (scv G (nI i + 1))] hC k12_blind dL_law_981 lL_187 (hS1.1 230 _ rfl) ⟨by decide, rfl⟩ rfl (Nat.le_of_ble_eq_true rfl) (Nat.le_of_ble_eq_true rfl) (fun M2 h2 => ?_)
  obtain ⟨hL2, ht, hv⟩ := h2
  have hS2 := hL2.1.1.1
  refine v_istore dL_law_984 rfl (by decide) ?_
  refine v_aload_n dL_law_986 rfl ?_
  refine v_cV (kc := kc) (ks := ks) [] (c12_thrown G M2 hS2) k12_thrown dL_law_987 lL_152 (hS2.1 230 _ rfl) ⟨by decide, rfl⟩ rfl (Nat.le_of_ble_eq_true rfl) (Nat.le_of_ble_eq_true rfl) ?_
  refine v_iload dL_law_990 rfl ?_
  refine v_icmp_eq 997 dL_law_992 (by decide) (fun _ => ?_) (fun h => absurd ht h)
  have tl : ∀ ls5 : List (Option Value), V G YL_law 60 kc ks Q1 X 1014 (LW i ++ ls5) [] M2 := fun ls5 => v_goto 2773 dL_law_1014 (by decide) (v_take 5 (kk M2 hL2))
  refine v_iload dL_law_997 rfl ?_
  refine v_if_ne 1014 dL_law_999 (by decide) (fun _ => tl _) (fun h0 => ?_)
  have h0 := Decidable.not_not.mp h0
  refine v_aload_n dL_law_1002 rfl ?_
  refine v_iconst 0 dL_law_1003 (by decide) ?_
  refine v_lald dL_law_1004 (hS2.1 247 _ rfl) (vp_in_iff.mpr (by decide)) ?_
  rw [z_clamp, hv h0]
  refine v_iload dL_law_1005 rfl ?_
  refine v_i2l dL_law_1007 ?_
  refine v_lcmp dL_law_1008 ?_
  exact v_if_eq 1014 dL_law_1009 (by decide) (fun _ => tl _) (fun h => absurd (lg_eq.mpr rfl) h)
theorem law_12 {i : Nat} (hi : i + 6 ≤ ad G 1000) (hN : ad G 1000 ≤ 3072) (hL : LI M) (kk : ∀ M2, LI M2 → V G YL_law 60 kc ks Q1 X 2773 (LW i) [] M2) : V G YL_law 60 (kc + 75) (ks + 1023) Q1 X 1017 (LW i) [] M := by
  have hS := hL.1.1.1
  refine v_pad (v_pad (v_pad ?_))
  obtain ⟨Qp, hA, hB⟩ := op_sure G M hL (scv G (nI i + 1))
  refine v_aload_n dL_law_1017 rfl ?_
  refine l_arg 1 1 hi hN dL_law_1018 dL_law_1019 dL_law_1021 (by decide) dL_law_1022 dL_law_1023 rfl rfl (by decide) ?_
  refine v_aload_n dL_law_1024 rfl ?_
  refine V.up (kc := kc + 1) (ks := ks + 6) (v_callW [.ref 100, .int (scv G (nI i + 1)), .ref 247] hA kL_sure dL_law_1025 lL_188 rfl (Nat.le_of_ble_eq_true rfl) (Nat.le_of_ble_eq_true rfl) (fun v1 M1 hq => ?_)) (by omega) (by omega)
  obtain ⟨t, rfl, hq⟩ := hq
  obtain ⟨hS1, v2, hC⟩ := hB t M1 hq
  refine v_istore dL_law_1028 rfl (by decide) ?_
  refine v_aload_n dL_law_1030 rfl ?_
  refine l_arg 1 1 hi hN dL_law_1031 dL_law_1032 dL_law_1034 (by decide) dL_law_1035 dL_law_1036 rfl rfl (by decide) ?_
  refine v_scV (kc := kc) (ks := ks) [.int (scv G (nI i + 1))] hC k12_sure dL_law_1037 lL_190 (hS1.1 230 _ rfl) ⟨by decide, rfl⟩ rfl (Nat.le_of_ble_eq_true rfl) (Nat.le_of_ble_eq_true rfl) (fun M2 h2 => ?_)
  obtain ⟨hL2, ht, hv⟩ := h2
  have hS2 := hL2.1.1.1
  refine v_istore dL_law_1040 rfl (by decide) ?_
  refine v_aload_n dL_law_1042 rfl ?_
  refine v_cV (kc := kc) (ks := ks) [] (c12_thrown G M2 hS2) k12_thrown dL_law_1043 lL_152 (hS2.1 230 _ rfl) ⟨by decide, rfl⟩ rfl (Nat.le_of_ble_eq_true rfl) (Nat.le_of_ble_eq_true rfl) ?_
  refine v_iload dL_law_1046 rfl ?_
  refine v_icmp_eq 1053 dL_law_1048 (by decide) (fun _ => ?_) (fun h => absurd ht h)
  have tl : ∀ ls5 : List (Option Value), V G YL_law 60 kc ks Q1 X 1070 (LW i ++ ls5) [] M2 := fun ls5 => v_goto 2773 dL_law_1070 (by decide) (v_take 5 (kk M2 hL2))
  refine v_iload dL_law_1053 rfl ?_
  refine v_if_ne 1070 dL_law_1055 (by decide) (fun _ => tl _) (fun h0 => ?_)
  have h0 := Decidable.not_not.mp h0
  refine v_aload_n dL_law_1058 rfl ?_
  refine v_iconst 0 dL_law_1059 (by decide) ?_
  refine v_lald dL_law_1060 (hS2.1 247 _ rfl) (vp_in_iff.mpr (by decide)) ?_
  rw [z_clamp, hv h0]
  refine v_iload dL_law_1061 rfl ?_
  refine v_i2l dL_law_1063 ?_
  refine v_lcmp dL_law_1064 ?_
  exact v_if_eq 1070 dL_law_1065 (by decide) (fun _ => tl _) (fun h => absurd (lg_eq.mpr rfl) h)
theorem law_13 {i : Nat} (hi : i + 6 ≤ ad G 1000) (hN : ad G 1000 ≤ 3072) (hL : LI M) (kk : ∀ M2, LI M2 → V G YL_law 60 kc ks Q1 X 2773 (LW i) [] M2) : V G YL_law 60 (kc + 75) (ks + 1023) Q1 X 1073 (LW i) [] M := by
  have hS := hL.1.1.1
  refine v_pad (v_pad (v_pad ?_))
  obtain ⟨Qp, hA, hB⟩ := op_price G M hL (scv G (nI i + 1))
  refine v_aload_n dL_law_1073 rfl ?_
  refine l_arg 1 1 hi hN dL_law_1074 dL_law_1075 dL_law_1077 (by decide) dL_law_1078 dL_law_1079 rfl rfl (by decide) ?_
  refine v_aload_n dL_law_1080 rfl ?_
  refine V.up (kc := kc + 1) (ks := ks + 6) (v_callW [.ref 100, .int (scv G (nI i + 1)), .ref 247] hA kL_price dL_law_1081 lL_191 rfl (Nat.le_of_ble_eq_true rfl) (Nat.le_of_ble_eq_true rfl) (fun v1 M1 hq => ?_)) (by omega) (by omega)
  obtain ⟨t, rfl, hq⟩ := hq
  obtain ⟨hS1, v2, hC⟩ := hB t M1 hq
  refine v_istore dL_law_1084 rfl (by decide) ?_
  refine v_aload_n dL_law_1086 rfl ?_
  refine l_arg 1 1 hi hN dL_law_1087 dL_law_1088 dL_law_1090 (by decide) dL_law_1091 dL_law_1092 rfl rfl (by decide) ?_
  refine v_scV (kc := kc) (ks := ks) [.int (scv G (nI i + 1))] hC k12_price dL_law_1093 lL_193 (hS1.1 230 _ rfl) ⟨by decide, rfl⟩ rfl (Nat.le_of_ble_eq_true rfl) (Nat.le_of_ble_eq_true rfl) (fun M2 h2 => ?_)
  obtain ⟨hL2, ht, hv⟩ := h2
  have hS2 := hL2.1.1.1
  refine v_istore dL_law_1096 rfl (by decide) ?_
  refine v_aload_n dL_law_1098 rfl ?_
  refine v_cV (kc := kc) (ks := ks) [] (c12_thrown G M2 hS2) k12_thrown dL_law_1099 lL_152 (hS2.1 230 _ rfl) ⟨by decide, rfl⟩ rfl (Nat.le_of_ble_eq_true rfl) (Nat.le_of_ble_eq_true rfl) ?_
  refine v_iload dL_law_1102 rfl ?_
  refine v_icmp_eq 1109 dL_law_1104 (by decide) (fun _ => ?_) (fun h => absurd ht h)
  have tl : ∀ ls5 : List (Option Value), V G YL_law 60 kc ks Q1 X 1126 (LW i ++ ls5) [] M2 := fun ls5 => v_goto 2773 dL_law_1126 (by decide) (v_take 5 (kk M2 hL2))
  refine v_iload dL_law_1109 rfl ?_
  refine v_if_ne 1126 dL_law_1111 (by decide) (fun _ => tl _) (fun h0 => ?_)
  have h0 := Decidable.not_not.mp h0
  refine v_aload_n dL_law_1114 rfl ?_
  refine v_iconst 0 dL_law_1115 (by decide) ?_
  refine v_lald dL_law_1116 (hS2.1 247 _ rfl) (vp_in_iff.mpr (by decide)) ?_
  rw [z_clamp, hv h0]
  refine v_iload dL_law_1117 rfl ?_
  refine v_i2l dL_law_1119 ?_
  refine v_lcmp dL_law_1120 ?_
  exact v_if_eq 1126 dL_law_1121 (by decide) (fun _ => tl _) (fun h => absurd (lg_eq.mpr rfl) h)
theorem law_14 {i : Nat} (hi : i + 6 ≤ ad G 1000) (hN : ad G 1000 ≤ 3072) (hL : LI M) (kk : ∀ M2, LI M2 → V G YL_law 60 kc ks Q1 X 2773 (LW i) [] M2) : V G YL_law 60 (kc + 75) (ks + 1023) Q1 X 1129 (LW i) [] M := by
  have hS := hL.1.1.1
  refine v_pad (v_pad (v_pad ?_))
  obtain ⟨v, Qp, hA, hB⟩ := op_hardest G M hL
  refine v_aload_n dL_law_1129 rfl ?_
  refine V.up (kc := kc + 0) (ks := ks + 0) (v_callV [] hA k11_hardest dL_law_1130 lL_194 (hS.1 100 _ rfl) ⟨by decide, rfl⟩ rfl (Nat.le_of_ble_eq_true rfl) (Nat.le_of_ble_eq_true rfl) (fun v1 M1 hq => ?_) (fun _ _ h => h.elim)) (by omega) (by omega)
  obtain ⟨rfl, hq⟩ := hq
  obtain ⟨hS1, hC⟩ := hB M1 hq
  refine v_aload_n dL_law_1133 rfl ?_
  refine v_scV (kc := kc) (ks := ks) [] hC k12_hardest dL_law_1134 lL_197 (hS1.1 230 _ rfl) ⟨by decide, rfl⟩ rfl (Nat.le_of_ble_eq_true rfl) (Nat.le_of_ble_eq_true rfl) (fun M2 hL2 => ?_)
  exact v_icmp_eq 2773 dL_law_1137 (by decide) (fun _ => v_take 5 (kk M2 hL2)) (fun h => absurd rfl h)
theorem law_15 {i : Nat} (hi : i + 6 ≤ ad G 1000) (hN : ad G 1000 ≤ 3072) (hL : LI M) (kk : ∀ M2, LI M2 → V G YL_law 60 kc ks Q1 X 2773 (LW i) [] M2) : V G YL_law 60 (kc + 75) (ks + 1023) Q1 X 1142 (LW i) [] M := by
  have hS := hL.1.1.1
  refine v_pad (v_pad (v_pad ?_))
  obtain ⟨Qp, hA, hB⟩ := op_ways G M hL (scv G (nI i + 1))
  refine v_aload_n dL_law_1142 rfl ?_
  refine l_arg 1 1 hi hN dL_law_1143 dL_law_1144 dL_law_1146 (by decide) dL_law_1147 dL_law_1148 rfl rfl (by decide) ?_
  refine v_aload_n dL_law_1149 rfl ?_
  refine V.up (kc := kc + 1) (ks := ks + 6) (v_callW [.ref 100, .int (scv G (nI i + 1)), .ref 247] hA kL_ways dL_law_1150 lL_198 rfl (Nat.le_of_ble_eq_true rfl) (Nat.le_of_ble_eq_true rfl) (fun v1 M1 hq => ?_)) (by omega) (by omega)
  obtain ⟨t, rfl, hq⟩ := hq
  obtain ⟨hS1, v2, hC⟩ := hB t M1 hq
  refine v_istore dL_law_1153 rfl (by decide) ?_
  refine v_aload_n dL_law_1155 rfl ?_
  refine l_arg 1 1 hi hN dL_law_1156 dL_law_1157 dL_law_1159 (by decide) dL_law_1160 dL_law_1161 rfl rfl (by decide) ?_
  refine v_scV (kc := kc) (ks := ks) [.int (scv G (nI i + 1))] hC k12_ways dL_law_1162 lL_200 (hS1.1 230 _ rfl) ⟨by decide, rfl⟩ rfl (Nat.le_of_ble_eq_true rfl) (Nat.le_of_ble_eq_true rfl) (fun M2 h2 => ?_)
  obtain ⟨hL2, ht, hv⟩ := h2
  have hS2 := hL2.1.1.1
  refine v_istore dL_law_1165 rfl (by decide) ?_
  refine v_aload_n dL_law_1167 rfl ?_
  refine v_cV (kc := kc) (ks := ks) [] (c12_thrown G M2 hS2) k12_thrown dL_law_1168 lL_152 (hS2.1 230 _ rfl) ⟨by decide, rfl⟩ rfl (Nat.le_of_ble_eq_true rfl) (Nat.le_of_ble_eq_true rfl) ?_
  refine v_iload dL_law_1171 rfl ?_
  refine v_icmp_eq 1178 dL_law_1173 (by decide) (fun _ => ?_) (fun h => absurd ht h)
  have tl : ∀ ls5 : List (Option Value), V G YL_law 60 kc ks Q1 X 1195 (LW i ++ ls5) [] M2 := fun ls5 => v_goto 2773 dL_law_1195 (by decide) (v_take 5 (kk M2 hL2))
  refine v_iload dL_law_1178 rfl ?_
  refine v_if_ne 1195 dL_law_1180 (by decide) (fun _ => tl _) (fun h0 => ?_)
  have h0 := Decidable.not_not.mp h0
  refine v_aload_n dL_law_1183 rfl ?_
  refine v_iconst 0 dL_law_1184 (by decide) ?_
  refine v_lald dL_law_1185 (hS2.1 247 _ rfl) (vp_in_iff.mpr (by decide)) ?_
  rw [z_clamp, hv h0]
  refine v_iload dL_law_1186 rfl ?_
  refine v_i2l dL_law_1188 ?_
  refine v_lcmp dL_law_1189 ?_
  exact v_if_eq 1195 dL_law_1190 (by decide) (fun _ => tl _) (fun h => absurd (lg_eq.mpr rfl) h)
theorem law_16 {i : Nat} (hi : i + 6 ≤ ad G 1000) (hN : ad G 1000 ≤ 3072) (hL : LI M) (kk : ∀ M2, LI M2 → V G YL_law 60 kc ks Q1 X 2773 (LW i) [] M2) : V G YL_law 60 (kc + 75) (ks + 1023) Q1 X 1198 (LW i) [] M := by
  have hS := hL.1.1.1
  refine v_pad (v_pad (v_pad ?_))
  obtain ⟨Qp, hA, hB⟩ := op_rank G M hL (scv G (nI i + 1))
  refine v_aload_n dL_law_1198 rfl ?_
  refine l_arg 1 1 hi hN dL_law_1199 dL_law_1200 dL_law_1202 (by decide) dL_law_1203 dL_law_1204 rfl rfl (by decide) ?_
  refine v_aload_n dL_law_1205 rfl ?_
  refine V.up (kc := kc + 1) (ks := ks + 6) (v_callW [.ref 100, .int (scv G (nI i + 1)), .ref 247] hA kL_rank dL_law_1206 lL_201 rfl (Nat.le_of_ble_eq_true rfl) (Nat.le_of_ble_eq_true rfl) (fun v1 M1 hq => ?_)) (by omega) (by omega)
  obtain ⟨t, rfl, hq⟩ := hq
  obtain ⟨hS1, v2, hC⟩ := hB t M1 hq
  refine v_istore dL_law_1209 rfl (by decide) ?_
  refine v_aload_n dL_law_1211 rfl ?_
  refine l_arg 1 1 hi hN dL_law_1212 dL_law_1213 dL_law_1215 (by decide) dL_law_1216 dL_law_1217 rfl rfl (by decide) ?_
  refine v_scV (kc := kc) (ks := ks) [.int (scv G (nI i + 1))] hC k12_rank dL_law_1218 lL_203 (hS1.1 230 _ rfl) ⟨by decide, rfl⟩ rfl (Nat.le_of_ble_eq_true rfl) (Nat.le_of_ble_eq_true rfl) (fun M2 h2 => ?_)
  obtain ⟨hL2, ht, hv⟩ := h2
  have hS2 := hL2.1.1.1
  refine v_istore dL_law_1221 rfl (by decide) ?_
  refine v_aload_n dL_law_1223 rfl ?_
  refine v_cV (kc := kc) (ks := ks) [] (c12_thrown G M2 hS2) k12_thrown dL_law_1224 lL_152 (hS2.1 230 _ rfl) ⟨by decide, rfl⟩ rfl (Nat.le_of_ble_eq_true rfl) (Nat.le_of_ble_eq_true rfl) ?_
  refine v_iload dL_law_1227 rfl ?_
  refine v_icmp_eq 1234 dL_law_1229 (by decide) (fun _ => ?_) (fun h => absurd ht h)
  have tl : ∀ ls5 : List (Option Value), V G YL_law 60 kc ks Q1 X 1251 (LW i ++ ls5) [] M2 := fun ls5 => v_goto 2773 dL_law_1251 (by decide) (v_take 5 (kk M2 hL2))
  refine v_iload dL_law_1234 rfl ?_
  refine v_if_ne 1251 dL_law_1236 (by decide) (fun _ => tl _) (fun h0 => ?_)
  have h0 := Decidable.not_not.mp h0
  refine v_aload_n dL_law_1239 rfl ?_
  refine v_iconst 0 dL_law_1240 (by decide) ?_
  refine v_lald dL_law_1241 (hS2.1 247 _ rfl) (vp_in_iff.mpr (by decide)) ?_
  rw [z_clamp, hv h0]
  refine v_iload dL_law_1242 rfl ?_
  refine v_i2l dL_law_1244 ?_
  refine v_lcmp dL_law_1245 ?_
  exact v_if_eq 1251 dL_law_1246 (by decide) (fun _ => tl _) (fun h => absurd (lg_eq.mpr rfl) h)
theorem law_17 {i : Nat} (hi : i + 6 ≤ ad G 1000) (hN : ad G 1000 ≤ 3072) (hL : LI M) (kk : ∀ M2, LI M2 → V G YL_law 60 kc ks Q1 X 2773 (LW i) [] M2) : V G YL_law 60 (kc + 75) (ks + 1023) Q1 X 1254 (LW i) [] M := by
  have hS := hL.1.1.1
  refine v_pad (v_pad (v_pad ?_))
  obtain ⟨Qp, hA, hB⟩ := op_shorter G M hL (scv G (nI i + 1))
  refine v_aload_n dL_law_1254 rfl ?_
  refine l_arg 1 1 hi hN dL_law_1255 dL_law_1256 dL_law_1258 (by decide) dL_law_1259 dL_law_1260 rfl rfl (by decide) ?_
  refine v_aload_n dL_law_1261 rfl ?_
  refine V.up (kc := kc + 1) (ks := ks + 6) (v_callW [.ref 100, .int (scv G (nI i + 1)), .ref 247] hA kL_shorter dL_law_1262 lL_204 rfl (Nat.le_of_ble_eq_true rfl) (Nat.le_of_ble_eq_true rfl) (fun v1 M1 hq => ?_)) (by omega) (by omega)
  obtain ⟨t, rfl, hq⟩ := hq
  obtain ⟨hS1, v2, hC⟩ := hB t M1 hq
  refine v_istore dL_law_1265 rfl (by decide) ?_
  refine v_aload_n dL_law_1267 rfl ?_
  refine l_arg 1 1 hi hN dL_law_1268 dL_law_1269 dL_law_1271 (by decide) dL_law_1272 dL_law_1273 rfl rfl (by decide) ?_
  refine v_scV (kc := kc) (ks := ks) [.int (scv G (nI i + 1))] hC k12_shorter dL_law_1274 lL_206 (hS1.1 230 _ rfl) ⟨by decide, rfl⟩ rfl (Nat.le_of_ble_eq_true rfl) (Nat.le_of_ble_eq_true rfl) (fun M2 h2 => ?_)
  obtain ⟨hL2, ht, hv⟩ := h2
  have hS2 := hL2.1.1.1
  refine v_istore dL_law_1277 rfl (by decide) ?_
  refine v_aload_n dL_law_1279 rfl ?_
  refine v_cV (kc := kc) (ks := ks) [] (c12_thrown G M2 hS2) k12_thrown dL_law_1280 lL_152 (hS2.1 230 _ rfl) ⟨by decide, rfl⟩ rfl (Nat.le_of_ble_eq_true rfl) (Nat.le_of_ble_eq_true rfl) ?_
  refine v_iload dL_law_1283 rfl ?_
  refine v_icmp_eq 1290 dL_law_1285 (by decide) (fun _ => ?_) (fun h => absurd ht h)
  have tl : ∀ ls5 : List (Option Value), V G YL_law 60 kc ks Q1 X 1307 (LW i ++ ls5) [] M2 := fun ls5 => v_goto 2773 dL_law_1307 (by decide) (v_take 5 (kk M2 hL2))
  refine v_iload dL_law_1290 rfl ?_
  refine v_if_ne 1307 dL_law_1292 (by decide) (fun _ => tl _) (fun h0 => ?_)
  have h0 := Decidable.not_not.mp h0
  refine v_aload_n dL_law_1295 rfl ?_
  refine v_iconst 0 dL_law_1296 (by decide) ?_
  refine v_lald dL_law_1297 (hS2.1 247 _ rfl) (vp_in_iff.mpr (by decide)) ?_
  rw [z_clamp, hv h0]
  refine v_iload dL_law_1298 rfl ?_
  refine v_i2l dL_law_1300 ?_
  refine v_lcmp dL_law_1301 ?_
  exact v_if_eq 1307 dL_law_1302 (by decide) (fun _ => tl _) (fun h => absurd (lg_eq.mpr rfl) h)
theorem law_18 {i : Nat} (hi : i + 6 ≤ ad G 1000) (hN : ad G 1000 ≤ 3072) (hL : LI M) (kk : ∀ M2, LI M2 → V G YL_law 60 kc ks Q1 X 2773 (LW i) [] M2) : V G YL_law 60 (kc + 75) (ks + 1023) Q1 X 1310 (LW i) [] M := by
  have hS := hL.1.1.1
  refine v_pad (v_pad (v_pad ?_))
  obtain ⟨Qp, hA, hB⟩ := op_claim G M hL (scv G (nI i + 1)) (scv G (nI i + 2))
  refine v_aload_n dL_law_1310 rfl ?_
  refine l_arg 1 1 hi hN dL_law_1311 dL_law_1312 dL_law_1314 (by decide) dL_law_1315 dL_law_1316 rfl rfl (by decide) ?_
  refine l_arg 2 2 hi hN dL_law_1317 dL_law_1318 dL_law_1320 (by decide) dL_law_1321 dL_law_1322 rfl rfl (by decide) ?_
  refine v_aload_n dL_law_1323 rfl ?_
  refine V.up (kc := kc + 1) (ks := ks + 6) (v_callW [.ref 100, .int (scv G (nI i + 1)), .int (scv G (nI i + 2)), .ref 247] hA kL_claim dL_law_1324 lL_207 rfl (Nat.le_of_ble_eq_true rfl) (Nat.le_of_ble_eq_true rfl) (fun v1 M1 hq => ?_)) (by omega) (by omega)
  obtain ⟨t, rfl, hq⟩ := hq
  obtain ⟨hS1, v2, hC⟩ := hB t M1 hq
  refine v_istore dL_law_1327 rfl (by decide) ?_
  refine v_aload_n dL_law_1329 rfl ?_
  refine l_arg 1 1 hi hN dL_law_1330 dL_law_1331 dL_law_1333 (by decide) dL_law_1334 dL_law_1335 rfl rfl (by decide) ?_
  refine l_arg 2 2 hi hN dL_law_1336 dL_law_1337 dL_law_1339 (by decide) dL_law_1340 dL_law_1341 rfl rfl (by decide) ?_
  refine v_scV (kc := kc) (ks := ks) [.int (scv G (nI i + 1)), .int (scv G (nI i + 2))] hC k12_claim dL_law_1342 lL_209 (hS1.1 230 _ rfl) ⟨by decide, rfl⟩ rfl (Nat.le_of_ble_eq_true rfl) (Nat.le_of_ble_eq_true rfl) (fun M2 h2 => ?_)
  obtain ⟨hL2, ht, hv⟩ := h2
  have hS2 := hL2.1.1.1
  refine v_istore dL_law_1345 rfl (by decide) ?_
  refine v_aload_n dL_law_1347 rfl ?_
  refine v_cV (kc := kc) (ks := ks) [] (c12_thrown G M2 hS2) k12_thrown dL_law_1348 lL_152 (hS2.1 230 _ rfl) ⟨by decide, rfl⟩ rfl (Nat.le_of_ble_eq_true rfl) (Nat.le_of_ble_eq_true rfl) ?_
  refine v_iload dL_law_1351 rfl ?_
  refine v_icmp_eq 1358 dL_law_1353 (by decide) (fun _ => ?_) (fun h => absurd ht h)
  have tl : ∀ ls5 : List (Option Value), V G YL_law 60 kc ks Q1 X 1375 (LW i ++ ls5) [] M2 := fun ls5 => v_goto 2773 dL_law_1375 (by decide) (v_take 5 (kk M2 hL2))
  refine v_iload dL_law_1358 rfl ?_
  refine v_if_ne 1375 dL_law_1360 (by decide) (fun _ => tl _) (fun h0 => ?_)
  have h0 := Decidable.not_not.mp h0
  refine v_aload_n dL_law_1363 rfl ?_
  refine v_iconst 0 dL_law_1364 (by decide) ?_
  refine v_lald dL_law_1365 (hS2.1 247 _ rfl) (vp_in_iff.mpr (by decide)) ?_
  rw [z_clamp, hv h0]
  refine v_iload dL_law_1366 rfl ?_
  refine v_i2l dL_law_1368 ?_
  refine v_lcmp dL_law_1369 ?_
  exact v_if_eq 1375 dL_law_1370 (by decide) (fun _ => tl _) (fun h => absurd (lg_eq.mpr rfl) h)
theorem law_19 {i : Nat} (hi : i + 6 ≤ ad G 1000) (hN : ad G 1000 ≤ 3072) (hL : LI M) (kk : ∀ M2, LI M2 → V G YL_law 60 kc ks Q1 X 2773 (LW i) [] M2) : V G YL_law 60 (kc + 75) (ks + 1023) Q1 X 1378 (LW i) [] M := by
  have hS := hL.1.1.1
  refine v_pad (v_pad (v_pad ?_))
  obtain ⟨Qp, hA, hB⟩ := op_settle G M hL
  refine v_aload_n dL_law_1378 rfl ?_
  refine v_aload_n dL_law_1379 rfl ?_
  refine V.up (kc := kc + 1) (ks := ks + 6) (v_callW [.ref 100, .ref 247] hA kL_settle dL_law_1380 lL_210 rfl (Nat.le_of_ble_eq_true rfl) (Nat.le_of_ble_eq_true rfl) (fun v1 M1 hq => ?_)) (by omega) (by omega)
  obtain ⟨t, rfl, hq⟩ := hq
  obtain ⟨hS1, v2, hC⟩ := hB t M1 hq
  refine v_istore dL_law_1383 rfl (by decide) ?_
  refine v_aload_n dL_law_1385 rfl ?_
  refine v_scV (kc := kc) (ks := ks) [] hC k12_settle dL_law_1386 lL_213 (hS1.1 230 _ rfl) ⟨by decide, rfl⟩ rfl (Nat.le_of_ble_eq_true rfl) (Nat.le_of_ble_eq_true rfl) (fun M2 h2 => ?_)
  obtain ⟨hL2, ht, hv⟩ := h2
  have hS2 := hL2.1.1.1
  refine v_istore dL_law_1389 rfl (by decide) ?_
  refine v_aload_n dL_law_1391 rfl ?_
  refine v_cV (kc := kc) (ks := ks) [] (c12_thrown G M2 hS2) k12_thrown dL_law_1392 lL_152 (hS2.1 230 _ rfl) ⟨by decide, rfl⟩ rfl (Nat.le_of_ble_eq_true rfl) (Nat.le_of_ble_eq_true rfl) ?_
  refine v_iload dL_law_1395 rfl ?_
  refine v_icmp_eq 1402 dL_law_1397 (by decide) (fun _ => ?_) (fun h => absurd ht h)
  have tl : ∀ ls5 : List (Option Value), V G YL_law 60 kc ks Q1 X 1419 (LW i ++ ls5) [] M2 := fun ls5 => v_goto 2773 dL_law_1419 (by decide) (v_take 5 (kk M2 hL2))
  refine v_iload dL_law_1402 rfl ?_
  refine v_if_ne 1419 dL_law_1404 (by decide) (fun _ => tl _) (fun h0 => ?_)
  have h0 := Decidable.not_not.mp h0
  refine v_aload_n dL_law_1407 rfl ?_
  refine v_iconst 0 dL_law_1408 (by decide) ?_
  refine v_lald dL_law_1409 (hS2.1 247 _ rfl) (vp_in_iff.mpr (by decide)) ?_
  rw [z_clamp, hv h0]
  refine v_iload dL_law_1410 rfl ?_
  refine v_i2l dL_law_1412 ?_
  refine v_lcmp dL_law_1413 ?_
  exact v_if_eq 1419 dL_law_1414 (by decide) (fun _ => tl _) (fun h => absurd (lg_eq.mpr rfl) h)
theorem law_20 {i : Nat} (hi : i + 6 ≤ ad G 1000) (hN : ad G 1000 ≤ 3072) (hL : LI M) (kk : ∀ M2, LI M2 → V G YL_law 60 kc ks Q1 X 2773 (LW i) [] M2) : V G YL_law 60 (kc + 75) (ks + 1023) Q1 X 1422 (LW i) [] M := by
  have hS := hL.1.1.1
  refine v_pad (v_pad (v_pad ?_))
  obtain ⟨v, Qp, hA, hB⟩ := op_lamp G M hL
  refine v_aload_n dL_law_1422 rfl ?_
  refine V.up (kc := kc + 0) (ks := ks + 0) (v_callV [] hA k11_lamp dL_law_1423 lL_214 (hS.1 100 _ rfl) ⟨by decide, rfl⟩ rfl (Nat.le_of_ble_eq_true rfl) (Nat.le_of_ble_eq_true rfl) (fun v1 M1 hq => ?_) (fun _ _ h => h.elim)) (by omega) (by omega)
  obtain ⟨rfl, hq⟩ := hq
  obtain ⟨hS1, hC⟩ := hB M1 hq
  refine v_aload_n dL_law_1426 rfl ?_
  refine v_scV (kc := kc) (ks := ks) [] hC k12_lamp dL_law_1427 lL_217 (hS1.1 230 _ rfl) ⟨by decide, rfl⟩ rfl (Nat.le_of_ble_eq_true rfl) (Nat.le_of_ble_eq_true rfl) (fun M2 hL2 => ?_)
  exact v_icmp_eq 2773 dL_law_1430 (by decide) (fun _ => v_take 5 (kk M2 hL2)) (fun h => absurd rfl h)
theorem law_21 {i : Nat} (hi : i + 6 ≤ ad G 1000) (hN : ad G 1000 ≤ 3072) (hL : LI M) (kk : ∀ M2, LI M2 → V G YL_law 60 kc ks Q1 X 2773 (LW i) [] M2) : V G YL_law 60 (kc + 75) (ks + 1023) Q1 X 1435 (LW i) [] M := by
  have hS := hL.1.1.1
  refine v_pad (v_pad (v_pad ?_))
  obtain ⟨Qp, hA, hB⟩ := op_carry G M hL (scv G (nI i + 1))
  refine v_aload_n dL_law_1435 rfl ?_
  refine l_arg 1 1 hi hN dL_law_1436 dL_law_1437 dL_law_1439 (by decide) dL_law_1440 dL_law_1441 rfl rfl (by decide) ?_
  refine v_aload_n dL_law_1442 rfl ?_
  refine V.up (kc := kc + 1) (ks := ks + 6) (v_callW [.ref 100, .int (scv G (nI i + 1)), .ref 247] hA kL_carry dL_law_1443 lL_218 rfl (Nat.le_of_ble_eq_true rfl) (Nat.le_of_ble_eq_true rfl) (fun v1 M1 hq => ?_)) (by omega) (by omega)
  obtain ⟨t, rfl, hq⟩ := hq
  obtain ⟨hS1, v2, hC⟩ := hB t M1 hq
  refine v_istore dL_law_1446 rfl (by decide) ?_
  refine v_aload_n dL_law_1448 rfl ?_
  refine l_arg 1 1 hi hN dL_law_1449 dL_law_1450 dL_law_1452 (by decide) dL_law_1453 dL_law_1454 rfl rfl (by decide) ?_
  refine v_scV (kc := kc) (ks := ks) [.int (scv G (nI i + 1))] hC k12_carry dL_law_1455 lL_220 (hS1.1 230 _ rfl) ⟨by decide, rfl⟩ rfl (Nat.le_of_ble_eq_true rfl) (Nat.le_of_ble_eq_true rfl) (fun M2 h2 => ?_)
  obtain ⟨hL2, ht, hv⟩ := h2
  have hS2 := hL2.1.1.1
  refine v_istore dL_law_1458 rfl (by decide) ?_
  refine v_aload_n dL_law_1460 rfl ?_
  refine v_cV (kc := kc) (ks := ks) [] (c12_thrown G M2 hS2) k12_thrown dL_law_1461 lL_152 (hS2.1 230 _ rfl) ⟨by decide, rfl⟩ rfl (Nat.le_of_ble_eq_true rfl) (Nat.le_of_ble_eq_true rfl) ?_
  refine v_iload dL_law_1464 rfl ?_
  refine v_icmp_eq 1471 dL_law_1466 (by decide) (fun _ => ?_) (fun h => absurd ht h)
  have tl : ∀ ls5 : List (Option Value), V G YL_law 60 kc ks Q1 X 1488 (LW i ++ ls5) [] M2 := fun ls5 => v_goto 2773 dL_law_1488 (by decide) (v_take 5 (kk M2 hL2))
  refine v_iload dL_law_1471 rfl ?_
  refine v_if_ne 1488 dL_law_1473 (by decide) (fun _ => tl _) (fun h0 => ?_)
  have h0 := Decidable.not_not.mp h0
  refine v_aload_n dL_law_1476 rfl ?_
  refine v_iconst 0 dL_law_1477 (by decide) ?_
  refine v_lald dL_law_1478 (hS2.1 247 _ rfl) (vp_in_iff.mpr (by decide)) ?_
  rw [z_clamp, hv h0]
  refine v_iload dL_law_1479 rfl ?_
  refine v_i2l dL_law_1481 ?_
  refine v_lcmp dL_law_1482 ?_
  exact v_if_eq 1488 dL_law_1483 (by decide) (fun _ => tl _) (fun h => absurd (lg_eq.mpr rfl) h)
theorem law_22 {i : Nat} (hi : i + 6 ≤ ad G 1000) (hN : ad G 1000 ≤ 3072) (hL : LI M) (kk : ∀ M2, LI M2 → V G YL_law 60 kc ks Q1 X 2773 (LW i) [] M2) : V G YL_law 60 (kc + 75) (ks + 1023) Q1 X 1491 (LW i) [] M := by
  have hS := hL.1.1.1
  refine v_pad (v_pad (v_pad ?_))
  obtain ⟨Qp, hA, hB⟩ := op_change G M hL (scv G (nI i + 1)) (scv G (nI i + 2)) (scv G (nI i + 3))
  refine v_aload_n dL_law_1491 rfl ?_
  refine l_arg 1 1 hi hN dL_law_1492 dL_law_1493 dL_law_1495 (by decide) dL_law_1496 dL_law_1497 rfl rfl (by decide) ?_
  refine l_arg 2 2 hi hN dL_law_1498 dL_law_1499 dL_law_1501 (by decide) dL_law_1502 dL_law_1503 rfl rfl (by decide) ?_
  refine l_arg 3 3 hi hN dL_law_1504 dL_law_1505 dL_law_1507 (by decide) dL_law_1508 dL_law_1509 rfl rfl (by decide) ?_
  refine v_aload_n dL_law_1510 rfl ?_
  refine V.up (kc := kc + 1) (ks := ks + 6) (v_callW [.ref 100, .int (scv G (nI i + 1)), .int (scv G (nI i + 2)), .int (scv G (nI i + 3)), .ref 247] hA kL_change dL_law_1511 lL_221 rfl (Nat.le_of_ble_eq_true rfl) (Nat.le_of_ble_eq_true rfl) (fun v1 M1 hq => ?_)) (by omega) (by omega)
  obtain ⟨t, rfl, hq⟩ := hq
  obtain ⟨hS1, v2, hC⟩ := hB t M1 hq
  refine v_istore dL_law_1514 rfl (by decide) ?_
  refine v_aload_n dL_law_1516 rfl ?_
  refine l_arg 1 1 hi hN dL_law_1517 dL_law_1518 dL_law_1520 (by decide) dL_law_1521 dL_law_1522 rfl rfl (by decide) ?_
  refine l_arg 2 2 hi hN dL_law_1523 dL_law_1524 dL_law_1526 (by decide) dL_law_1527 dL_law_1528 rfl rfl (by decide) ?_
  refine l_arg 3 3 hi hN dL_law_1529 dL_law_1530 dL_law_1532 (by decide) dL_law_1533 dL_law_1534 rfl rfl (by decide) ?_
  refine v_scV (kc := kc) (ks := ks) [.int (scv G (nI i + 1)), .int (scv G (nI i + 2)), .int (scv G (nI i + 3))] hC k12_change dL_law_1535 lL_224 (hS1.1 230 _ rfl) ⟨by decide, rfl⟩ rfl (Nat.le_of_ble_eq_true rfl) (Nat.le_of_ble_eq_true rfl) (fun M2 h2 => ?_)
  obtain ⟨hL2, ht, hv⟩ := h2
  have hS2 := hL2.1.1.1
  refine v_istore dL_law_1538 rfl (by decide) ?_
  refine v_aload_n dL_law_1540 rfl ?_
  refine v_cV (kc := kc) (ks := ks) [] (c12_thrown G M2 hS2) k12_thrown dL_law_1541 lL_152 (hS2.1 230 _ rfl) ⟨by decide, rfl⟩ rfl (Nat.le_of_ble_eq_true rfl) (Nat.le_of_ble_eq_true rfl) ?_
  refine v_iload dL_law_1544 rfl ?_
  refine v_icmp_eq 1551 dL_law_1546 (by decide) (fun _ => ?_) (fun h => absurd ht h)
  have tl : ∀ ls5 : List (Option Value), V G YL_law 60 kc ks Q1 X 1568 (LW i ++ ls5) [] M2 := fun ls5 => v_goto 2773 dL_law_1568 (by decide) (v_take 5 (kk M2 hL2))
  refine v_iload dL_law_1551 rfl ?_
  refine v_if_ne 1568 dL_law_1553 (by decide) (fun _ => tl _) (fun h0 => ?_)
  have h0 := Decidable.not_not.mp h0
  refine v_aload_n dL_law_1556 rfl ?_
  refine v_iconst 0 dL_law_1557 (by decide) ?_
  refine v_lald dL_law_1558 (hS2.1 247 _ rfl) (vp_in_iff.mpr (by decide)) ?_
  rw [z_clamp, hv h0]
  refine v_iload dL_law_1559 rfl ?_
  refine v_i2l dL_law_1561 ?_
  refine v_lcmp dL_law_1562 ?_
  exact v_if_eq 1568 dL_law_1563 (by decide) (fun _ => tl _) (fun h => absurd (lg_eq.mpr rfl) h)
theorem law_23 {i : Nat} (hi : i + 6 ≤ ad G 1000) (hN : ad G 1000 ≤ 3072) (hL : LI M) (kk : ∀ M2, LI M2 → V G YL_law 60 kc ks Q1 X 2773 (LW i) [] M2) : V G YL_law 60 (kc + 75) (ks + 1023) Q1 X 1571 (LW i) [] M := by
  have hS := hL.1.1.1
  refine v_pad (v_pad (v_pad ?_))
  obtain ⟨Qp, hA, hB⟩ := op_stake G M hL (scv G (nI i + 1))
  refine v_aload_n dL_law_1571 rfl ?_
  refine l_arg 1 1 hi hN dL_law_1572 dL_law_1573 dL_law_1575 (by decide) dL_law_1576 dL_law_1577 rfl rfl (by decide) ?_
  refine v_aload_n dL_law_1578 rfl ?_
  refine V.up (kc := kc + 1) (ks := ks + 6) (v_callW [.ref 100, .int (scv G (nI i + 1)), .ref 247] hA kL_stake dL_law_1579 lL_225 rfl (Nat.le_of_ble_eq_true rfl) (Nat.le_of_ble_eq_true rfl) (fun v1 M1 hq => ?_)) (by omega) (by omega)
  obtain ⟨t, rfl, hq⟩ := hq
  obtain ⟨hS1, v2, hC⟩ := hB t M1 hq
  refine v_istore dL_law_1582 rfl (by decide) ?_
  refine v_aload_n dL_law_1584 rfl ?_
  refine l_arg 1 1 hi hN dL_law_1585 dL_law_1586 dL_law_1588 (by decide) dL_law_1589 dL_law_1590 rfl rfl (by decide) ?_
  refine v_scV (kc := kc) (ks := ks) [.int (scv G (nI i + 1))] hC k12_stake dL_law_1591 lL_227 (hS1.1 230 _ rfl) ⟨by decide, rfl⟩ rfl (Nat.le_of_ble_eq_true rfl) (Nat.le_of_ble_eq_true rfl) (fun M2 h2 => ?_)
  obtain ⟨hL2, ht, hv⟩ := h2
  have hS2 := hL2.1.1.1
  refine v_istore dL_law_1594 rfl (by decide) ?_
  refine v_aload_n dL_law_1596 rfl ?_
  refine v_cV (kc := kc) (ks := ks) [] (c12_thrown G M2 hS2) k12_thrown dL_law_1597 lL_152 (hS2.1 230 _ rfl) ⟨by decide, rfl⟩ rfl (Nat.le_of_ble_eq_true rfl) (Nat.le_of_ble_eq_true rfl) ?_
  refine v_iload dL_law_1600 rfl ?_
  refine v_icmp_eq 1607 dL_law_1602 (by decide) (fun _ => ?_) (fun h => absurd ht h)
  have tl : ∀ ls5 : List (Option Value), V G YL_law 60 kc ks Q1 X 1624 (LW i ++ ls5) [] M2 := fun ls5 => v_goto 2773 dL_law_1624 (by decide) (v_take 5 (kk M2 hL2))
  refine v_iload dL_law_1607 rfl ?_
  refine v_if_ne 1624 dL_law_1609 (by decide) (fun _ => tl _) (fun h0 => ?_)
  have h0 := Decidable.not_not.mp h0
  refine v_aload_n dL_law_1612 rfl ?_
  refine v_iconst 0 dL_law_1613 (by decide) ?_
  refine v_lald dL_law_1614 (hS2.1 247 _ rfl) (vp_in_iff.mpr (by decide)) ?_
  rw [z_clamp, hv h0]
  refine v_iload dL_law_1615 rfl ?_
  refine v_i2l dL_law_1617 ?_
  refine v_lcmp dL_law_1618 ?_
  exact v_if_eq 1624 dL_law_1619 (by decide) (fun _ => tl _) (fun h => absurd (lg_eq.mpr rfl) h)
theorem law_24 {i : Nat} (hi : i + 6 ≤ ad G 1000) (hN : ad G 1000 ≤ 3072) (hL : LI M) (kk : ∀ M2, LI M2 → V G YL_law 60 kc ks Q1 X 2773 (LW i) [] M2) : V G YL_law 60 (kc + 75) (ks + 1023) Q1 X 1627 (LW i) [] M := by
  have hS := hL.1.1.1
  refine v_pad (v_pad (v_pad ?_))
  obtain ⟨Qp, hA, hB⟩ := op_person G M hL (scv G (nI i + 1)) (scv G (nI i + 2))
  refine v_aload_n dL_law_1627 rfl ?_
  refine l_arg 1 1 hi hN dL_law_1628 dL_law_1629 dL_law_1631 (by decide) dL_law_1632 dL_law_1633 rfl rfl (by decide) ?_
  refine l_arg 2 2 hi hN dL_law_1634 dL_law_1635 dL_law_1637 (by decide) dL_law_1638 dL_law_1639 rfl rfl (by decide) ?_
  refine v_aload_n dL_law_1640 rfl ?_
  refine V.up (kc := kc + 1) (ks := ks + 6) (v_callW [.ref 100, .int (scv G (nI i + 1)), .int (scv G (nI i + 2)), .ref 247] hA kL_person dL_law_1641 lL_228 rfl (Nat.le_of_ble_eq_true rfl) (Nat.le_of_ble_eq_true rfl) (fun v1 M1 hq => ?_)) (by omega) (by omega)
  obtain ⟨t, rfl, hq⟩ := hq
  obtain ⟨hS1, v2, hC⟩ := hB t M1 hq
  refine v_istore dL_law_1644 rfl (by decide) ?_
  refine v_aload_n dL_law_1646 rfl ?_
  refine l_arg 1 1 hi hN dL_law_1647 dL_law_1648 dL_law_1650 (by decide) dL_law_1651 dL_law_1652 rfl rfl (by decide) ?_
  refine l_arg 2 2 hi hN dL_law_1653 dL_law_1654 dL_law_1656 (by decide) dL_law_1657 dL_law_1658 rfl rfl (by decide) ?_
  refine v_scV (kc := kc) (ks := ks) [.int (scv G (nI i + 1)), .int (scv G (nI i + 2))] hC k12_person dL_law_1659 lL_230 (hS1.1 230 _ rfl) ⟨by decide, rfl⟩ rfl (Nat.le_of_ble_eq_true rfl) (Nat.le_of_ble_eq_true rfl) (fun M2 h2 => ?_)
  obtain ⟨hL2, ht, hv⟩ := h2
  have hS2 := hL2.1.1.1
  refine v_istore dL_law_1662 rfl (by decide) ?_
  refine v_aload_n dL_law_1664 rfl ?_
  refine v_cV (kc := kc) (ks := ks) [] (c12_thrown G M2 hS2) k12_thrown dL_law_1665 lL_152 (hS2.1 230 _ rfl) ⟨by decide, rfl⟩ rfl (Nat.le_of_ble_eq_true rfl) (Nat.le_of_ble_eq_true rfl) ?_
  refine v_iload dL_law_1668 rfl ?_
  refine v_icmp_eq 1675 dL_law_1670 (by decide) (fun _ => ?_) (fun h => absurd ht h)
  have tl : ∀ ls5 : List (Option Value), V G YL_law 60 kc ks Q1 X 1692 (LW i ++ ls5) [] M2 := fun ls5 => v_goto 2773 dL_law_1692 (by decide) (v_take 5 (kk M2 hL2))
  refine v_iload dL_law_1675 rfl ?_
  refine v_if_ne 1692 dL_law_1677 (by decide) (fun _ => tl _) (fun h0 => ?_)
  have h0 := Decidable.not_not.mp h0
  refine v_aload_n dL_law_1680 rfl ?_
  refine v_iconst 0 dL_law_1681 (by decide) ?_
  refine v_lald dL_law_1682 (hS2.1 247 _ rfl) (vp_in_iff.mpr (by decide)) ?_
  rw [z_clamp, hv h0]
  refine v_iload dL_law_1683 rfl ?_
  refine v_i2l dL_law_1685 ?_
  refine v_lcmp dL_law_1686 ?_
  exact v_if_eq 1692 dL_law_1687 (by decide) (fun _ => tl _) (fun h => absurd (lg_eq.mpr rfl) h)
theorem law_25 {i : Nat} (hi : i + 6 ≤ ad G 1000) (hN : ad G 1000 ≤ 3072) (hL : LI M) (kk : ∀ M2, LI M2 → V G YL_law 60 kc ks Q1 X 2773 (LW i) [] M2) : V G YL_law 60 (kc + 75) (ks + 1023) Q1 X 1695 (LW i) [] M := by
  have hS := hL.1.1.1
  refine v_pad (v_pad (v_pad ?_))
  obtain ⟨v, Qp, hA, hB⟩ := op_winner G M hL
  refine v_aload_n dL_law_1695 rfl ?_
  refine V.up (kc := kc + 0) (ks := ks + 0) (v_callV [] hA k11_winner dL_law_1696 lL_231 (hS.1 100 _ rfl) ⟨by decide, rfl⟩ rfl (Nat.le_of_ble_eq_true rfl) (Nat.le_of_ble_eq_true rfl) (fun v1 M1 hq => ?_) (fun _ _ h => h.elim)) (by omega) (by omega)
  obtain ⟨rfl, hq⟩ := hq
  obtain ⟨hS1, hC⟩ := hB M1 hq
  refine v_aload_n dL_law_1699 rfl ?_
  refine v_scV (kc := kc) (ks := ks) [] hC k12_winner dL_law_1700 lL_234 (hS1.1 230 _ rfl) ⟨by decide, rfl⟩ rfl (Nat.le_of_ble_eq_true rfl) (Nat.le_of_ble_eq_true rfl) (fun M2 hL2 => ?_)
  exact v_icmp_eq 2773 dL_law_1703 (by decide) (fun _ => v_take 5 (kk M2 hL2)) (fun h => absurd rfl h)
theorem law_26 {i : Nat} (hi : i + 6 ≤ ad G 1000) (hN : ad G 1000 ≤ 3072) (hL : LI M) (kk : ∀ M2, LI M2 → V G YL_law 60 kc ks Q1 X 2773 (LW i) [] M2) : V G YL_law 60 (kc + 75) (ks + 1023) Q1 X 1708 (LW i) [] M := by
  have hS := hL.1.1.1
  refine v_pad (v_pad (v_pad ?_))
  obtain ⟨Qp, hA, hB⟩ := op_undo G M hL (scv G (nI i + 1))
  refine v_aload_n dL_law_1708 rfl ?_
  refine l_arg 1 1 hi hN dL_law_1709 dL_law_1710 dL_law_1712 (by decide) dL_law_1713 dL_law_1714 rfl rfl (by decide) ?_
  refine v_aload_n dL_law_1715 rfl ?_
  refine V.up (kc := kc + 1) (ks := ks + 6) (v_callW [.ref 100, .int (scv G (nI i + 1)), .ref 247] hA kL_undo dL_law_1716 lL_235 rfl (Nat.le_of_ble_eq_true rfl) (Nat.le_of_ble_eq_true rfl) (fun v1 M1 hq => ?_)) (by omega) (by omega)
  obtain ⟨t, rfl, hq⟩ := hq
  obtain ⟨hS1, v2, hC⟩ := hB t M1 hq
  refine v_istore dL_law_1719 rfl (by decide) ?_
  refine v_aload_n dL_law_1721 rfl ?_
  refine l_arg 1 1 hi hN dL_law_1722 dL_law_1723 dL_law_1725 (by decide) dL_law_1726 dL_law_1727 rfl rfl (by decide) ?_
  refine v_scV (kc := kc) (ks := ks) [.int (scv G (nI i + 1))] hC k12_undo dL_law_1728 lL_237 (hS1.1 230 _ rfl) ⟨by decide, rfl⟩ rfl (Nat.le_of_ble_eq_true rfl) (Nat.le_of_ble_eq_true rfl) (fun M2 h2 => ?_)
  obtain ⟨hL2, ht, hv⟩ := h2
  have hS2 := hL2.1.1.1
  refine v_istore dL_law_1731 rfl (by decide) ?_
  refine v_aload_n dL_law_1733 rfl ?_
  refine v_cV (kc := kc) (ks := ks) [] (c12_thrown G M2 hS2) k12_thrown dL_law_1734 lL_152 (hS2.1 230 _ rfl) ⟨by decide, rfl⟩ rfl (Nat.le_of_ble_eq_true rfl) (Nat.le_of_ble_eq_true rfl) ?_
  refine v_iload dL_law_1737 rfl ?_
  refine v_icmp_eq 1744 dL_law_1739 (by decide) (fun _ => ?_) (fun h => absurd ht h)
  have tl : ∀ ls5 : List (Option Value), V G YL_law 60 kc ks Q1 X 1761 (LW i ++ ls5) [] M2 := fun ls5 => v_goto 2773 dL_law_1761 (by decide) (v_take 5 (kk M2 hL2))
  refine v_iload dL_law_1744 rfl ?_
  refine v_if_ne 1761 dL_law_1746 (by decide) (fun _ => tl _) (fun h0 => ?_)
  have h0 := Decidable.not_not.mp h0
  refine v_aload_n dL_law_1749 rfl ?_
  refine v_iconst 0 dL_law_1750 (by decide) ?_
  refine v_lald dL_law_1751 (hS2.1 247 _ rfl) (vp_in_iff.mpr (by decide)) ?_
  rw [z_clamp, hv h0]
  refine v_iload dL_law_1752 rfl ?_
  refine v_i2l dL_law_1754 ?_
  refine v_lcmp dL_law_1755 ?_
  exact v_if_eq 1761 dL_law_1756 (by decide) (fun _ => tl _) (fun h => absurd (lg_eq.mpr rfl) h)
theorem law_27 {i : Nat} (hi : i + 6 ≤ ad G 1000) (hN : ad G 1000 ≤ 3072) (hL : LI M) (kk : ∀ M2, LI M2 → V G YL_law 60 kc ks Q1 X 2773 (LW i) [] M2) : V G YL_law 60 (kc + 75) (ks + 1023) Q1 X 1764 (LW i) [] M := by
  have hS := hL.1.1.1
  refine v_pad (v_pad (v_pad ?_))
  obtain ⟨Qp, hA, hB⟩ := op_judge G M hL (scv G (nI i + 1)) (scv G (nI i + 2))
  refine v_aload_n dL_law_1764 rfl ?_
  refine l_arg 1 1 hi hN dL_law_1765 dL_law_1766 dL_law_1768 (by decide) dL_law_1769 dL_law_1770 rfl rfl (by decide) ?_
  refine l_arg 2 2 hi hN dL_law_1771 dL_law_1772 dL_law_1774 (by decide) dL_law_1775 dL_law_1776 rfl rfl (by decide) ?_
  refine v_aload_n dL_law_1777 rfl ?_
  refine V.up (kc := kc + 1) (ks := ks + 6) (v_callW [.ref 100, .int (scv G (nI i + 1)), .int (scv G (nI i + 2)), .ref 247] hA kL_judge dL_law_1778 lL_238 rfl (Nat.le_of_ble_eq_true rfl) (Nat.le_of_ble_eq_true rfl) (fun v1 M1 hq => ?_)) (by omega) (by omega)
  obtain ⟨t, rfl, hq⟩ := hq
  obtain ⟨hS1, v2, hC⟩ := hB t M1 hq
  refine v_istore dL_law_1781 rfl (by decide) ?_
  refine v_aload_n dL_law_1783 rfl ?_
  refine l_arg 1 1 hi hN dL_law_1784 dL_law_1785 dL_law_1787 (by decide) dL_law_1788 dL_law_1789 rfl rfl (by decide) ?_
  refine l_arg 2 2 hi hN dL_law_1790 dL_law_1791 dL_law_1793 (by decide) dL_law_1794 dL_law_1795 rfl rfl (by decide) ?_
  refine v_scV (kc := kc) (ks := ks) [.int (scv G (nI i + 1)), .int (scv G (nI i + 2))] hC k12_judge dL_law_1796 lL_240 (hS1.1 230 _ rfl) ⟨by decide, rfl⟩ rfl (Nat.le_of_ble_eq_true rfl) (Nat.le_of_ble_eq_true rfl) (fun M2 h2 => ?_)
  obtain ⟨hL2, ht, hv⟩ := h2
  have hS2 := hL2.1.1.1
  refine v_istore dL_law_1799 rfl (by decide) ?_
  refine v_aload_n dL_law_1801 rfl ?_
  refine v_cV (kc := kc) (ks := ks) [] (c12_thrown G M2 hS2) k12_thrown dL_law_1802 lL_152 (hS2.1 230 _ rfl) ⟨by decide, rfl⟩ rfl (Nat.le_of_ble_eq_true rfl) (Nat.le_of_ble_eq_true rfl) ?_
  refine v_iload dL_law_1805 rfl ?_
  refine v_icmp_eq 1812 dL_law_1807 (by decide) (fun _ => ?_) (fun h => absurd ht h)
  have tl : ∀ ls5 : List (Option Value), V G YL_law 60 kc ks Q1 X 1829 (LW i ++ ls5) [] M2 := fun ls5 => v_goto 2773 dL_law_1829 (by decide) (v_take 5 (kk M2 hL2))
  refine v_iload dL_law_1812 rfl ?_
  refine v_if_ne 1829 dL_law_1814 (by decide) (fun _ => tl _) (fun h0 => ?_)
  have h0 := Decidable.not_not.mp h0
  refine v_aload_n dL_law_1817 rfl ?_
  refine v_iconst 0 dL_law_1818 (by decide) ?_
  refine v_lald dL_law_1819 (hS2.1 247 _ rfl) (vp_in_iff.mpr (by decide)) ?_
  rw [z_clamp, hv h0]
  refine v_iload dL_law_1820 rfl ?_
  refine v_i2l dL_law_1822 ?_
  refine v_lcmp dL_law_1823 ?_
  exact v_if_eq 1829 dL_law_1824 (by decide) (fun _ => tl _) (fun h => absurd (lg_eq.mpr rfl) h)
theorem law_28 {i : Nat} (hi : i + 6 ≤ ad G 1000) (hN : ad G 1000 ≤ 3072) (hL : LI M) (kk : ∀ M2, LI M2 → V G YL_law 60 kc ks Q1 X 2773 (LW i) [] M2) : V G YL_law 60 (kc + 75) (ks + 1023) Q1 X 1832 (LW i) [] M := by
  have hS := hL.1.1.1
  refine v_pad (v_pad (v_pad ?_))
  obtain ⟨Qp, hA, hB⟩ := op_perform G M hL (scv G (nI i + 1))
  refine v_aload_n dL_law_1832 rfl ?_
  refine l_arg 1 1 hi hN dL_law_1833 dL_law_1834 dL_law_1836 (by decide) dL_law_1837 dL_law_1838 rfl rfl (by decide) ?_
  refine v_aload_n dL_law_1839 rfl ?_
  refine V.up (kc := kc + 1) (ks := ks + 6) (v_callW [.ref 100, .int (scv G (nI i + 1)), .ref 247] hA kL_perform dL_law_1840 lL_241 rfl (Nat.le_of_ble_eq_true rfl) (Nat.le_of_ble_eq_true rfl) (fun v1 M1 hq => ?_)) (by omega) (by omega)
  obtain ⟨t, rfl, hq⟩ := hq
  obtain ⟨hS1, v2, hC⟩ := hB t M1 hq
  refine v_istore dL_law_1843 rfl (by decide) ?_
  refine v_aload_n dL_law_1845 rfl ?_
  refine l_arg 1 1 hi hN dL_law_1846 dL_law_1847 dL_law_1849 (by decide) dL_law_1850 dL_law_1851 rfl rfl (by decide) ?_
  refine v_scV (kc := kc) (ks := ks) [.int (scv G (nI i + 1))] hC k12_perform dL_law_1852 lL_243 (hS1.1 230 _ rfl) ⟨by decide, rfl⟩ rfl (Nat.le_of_ble_eq_true rfl) (Nat.le_of_ble_eq_true rfl) (fun M2 h2 => ?_)
  obtain ⟨hL2, ht, hv⟩ := h2
  have hS2 := hL2.1.1.1
  refine v_istore dL_law_1855 rfl (by decide) ?_
  refine v_aload_n dL_law_1857 rfl ?_
  refine v_cV (kc := kc) (ks := ks) [] (c12_thrown G M2 hS2) k12_thrown dL_law_1858 lL_152 (hS2.1 230 _ rfl) ⟨by decide, rfl⟩ rfl (Nat.le_of_ble_eq_true rfl) (Nat.le_of_ble_eq_true rfl) ?_
  refine v_iload dL_law_1861 rfl ?_
  refine v_icmp_eq 1868 dL_law_1863 (by decide) (fun _ => ?_) (fun h => absurd ht h)
  have tl : ∀ ls5 : List (Option Value), V G YL_law 60 kc ks Q1 X 1885 (LW i ++ ls5) [] M2 := fun ls5 => v_goto 2773 dL_law_1885 (by decide) (v_take 5 (kk M2 hL2))
  refine v_iload dL_law_1868 rfl ?_
  refine v_if_ne 1885 dL_law_1870 (by decide) (fun _ => tl _) (fun h0 => ?_)
  have h0 := Decidable.not_not.mp h0
  refine v_aload_n dL_law_1873 rfl ?_
  refine v_iconst 0 dL_law_1874 (by decide) ?_
  refine v_lald dL_law_1875 (hS2.1 247 _ rfl) (vp_in_iff.mpr (by decide)) ?_
  rw [z_clamp, hv h0]
  refine v_iload dL_law_1876 rfl ?_
  refine v_i2l dL_law_1878 ?_
  refine v_lcmp dL_law_1879 ?_
  exact v_if_eq 1885 dL_law_1880 (by decide) (fun _ => tl _) (fun h => absurd (lg_eq.mpr rfl) h)
theorem law_29 {i : Nat} (hi : i + 6 ≤ ad G 1000) (hN : ad G 1000 ≤ 3072) (hL : LI M) (kk : ∀ M2, LI M2 → V G YL_law 60 kc ks Q1 X 2773 (LW i) [] M2) : V G YL_law 60 (kc + 75) (ks + 1023) Q1 X 1888 (LW i) [] M := by
  have hS := hL.1.1.1
  refine v_pad (v_pad (v_pad ?_))
  obtain ⟨Qp, hA, hB⟩ := op_night G M hL (scv G (nI i + 1)) (scv G (nI i + 2))
  refine v_aload_n dL_law_1888 rfl ?_
  refine l_arg 1 1 hi hN dL_law_1889 dL_law_1890 dL_law_1892 (by decide) dL_law_1893 dL_law_1894 rfl rfl (by decide) ?_
  refine l_arg 2 2 hi hN dL_law_1895 dL_law_1896 dL_law_1898 (by decide) dL_law_1899 dL_law_1900 rfl rfl (by decide) ?_
  refine v_aload_n dL_law_1901 rfl ?_
  refine V.up (kc := kc + 1) (ks := ks + 6) (v_callW [.ref 100, .int (scv G (nI i + 1)), .int (scv G (nI i + 2)), .ref 247] hA kL_night dL_law_1902 lL_244 rfl (Nat.le_of_ble_eq_true rfl) (Nat.le_of_ble_eq_true rfl) (fun v1 M1 hq => ?_)) (by omega) (by omega)
  obtain ⟨t, rfl, hq⟩ := hq
  obtain ⟨hS1, v2, hC⟩ := hB t M1 hq
  refine v_istore dL_law_1905 rfl (by decide) ?_
  refine v_aload_n dL_law_1907 rfl ?_
  refine l_arg 1 1 hi hN dL_law_1908 dL_law_1909 dL_law_1911 (by decide) dL_law_1912 dL_law_1913 rfl rfl (by decide) ?_
  refine l_arg 2 2 hi hN dL_law_1914 dL_law_1915 dL_law_1917 (by decide) dL_law_1918 dL_law_1919 rfl rfl (by decide) ?_
  refine v_scV (kc := kc) (ks := ks) [.int (scv G (nI i + 1)), .int (scv G (nI i + 2))] hC k12_night dL_law_1920 lL_246 (hS1.1 230 _ rfl) ⟨by decide, rfl⟩ rfl (Nat.le_of_ble_eq_true rfl) (Nat.le_of_ble_eq_true rfl) (fun M2 h2 => ?_)
  obtain ⟨hL2, ht, hv⟩ := h2
  have hS2 := hL2.1.1.1
  refine v_istore dL_law_1923 rfl (by decide) ?_
  refine v_aload_n dL_law_1925 rfl ?_
  refine v_cV (kc := kc) (ks := ks) [] (c12_thrown G M2 hS2) k12_thrown dL_law_1926 lL_152 (hS2.1 230 _ rfl) ⟨by decide, rfl⟩ rfl (Nat.le_of_ble_eq_true rfl) (Nat.le_of_ble_eq_true rfl) ?_
  refine v_iload dL_law_1929 rfl ?_
  refine v_icmp_eq 1936 dL_law_1931 (by decide) (fun _ => ?_) (fun h => absurd ht h)
  have tl : ∀ ls5 : List (Option Value), V G YL_law 60 kc ks Q1 X 1953 (LW i ++ ls5) [] M2 := fun ls5 => v_goto 2773 dL_law_1953 (by decide) (v_take 5 (kk M2 hL2))
  refine v_iload dL_law_1936 rfl ?_
  refine v_if_ne 1953 dL_law_1938 (by decide) (fun _ => tl _) (fun h0 => ?_)
  have h0 := Decidable.not_not.mp h0
  refine v_aload_n dL_law_1941 rfl ?_
  refine v_iconst 0 dL_law_1942 (by decide) ?_
  refine v_lald dL_law_1943 (hS2.1 247 _ rfl) (vp_in_iff.mpr (by decide)) ?_
  rw [z_clamp, hv h0]
  refine v_iload dL_law_1944 rfl ?_
  refine v_i2l dL_law_1946 ?_
  refine v_lcmp dL_law_1947 ?_
  exact v_if_eq 1953 dL_law_1948 (by decide) (fun _ => tl _) (fun h => absurd (lg_eq.mpr rfl) h)
theorem law_30 {i : Nat} (hi : i + 6 ≤ ad G 1000) (hN : ad G 1000 ≤ 3072) (hL : LI M) (kk : ∀ M2, LI M2 → V G YL_law 60 kc ks Q1 X 2773 (LW i) [] M2) : V G YL_law 60 (kc + 75) (ks + 1023) Q1 X 1956 (LW i) [] M := by
  have hS := hL.1.1.1
  refine v_pad (v_pad (v_pad ?_))
  obtain ⟨Qp, hA, hB⟩ := op_hardened G M hL (scv G (nI i + 1)) (scv G (nI i + 2))
  refine v_aload_n dL_law_1956 rfl ?_
  refine l_arg 1 1 hi hN dL_law_1957 dL_law_1958 dL_law_1960 (by decide) dL_law_1961 dL_law_1962 rfl rfl (by decide) ?_
  refine l_arg 2 2 hi hN dL_law_1963 dL_law_1964 dL_law_1966 (by decide) dL_law_1967 dL_law_1968 rfl rfl (by decide) ?_
  refine v_aload_n dL_law_1969 rfl ?_
  refine V.up (kc := kc + 1) (ks := ks + 6) (v_callW [.ref 100, .int (scv G (nI i + 1)), .int (scv G (nI i + 2)), .ref 247] hA kL_hardened dL_law_1970 lL_247 rfl (Nat.le_of_ble_eq_true rfl) (Nat.le_of_ble_eq_true rfl) (fun v1 M1 hq => ?_)) (by omega) (by omega)
  obtain ⟨t, rfl, hq⟩ := hq
  obtain ⟨hS1, v2, hC⟩ := hB t M1 hq
  refine v_istore dL_law_1973 rfl (by decide) ?_
  refine v_aload_n dL_law_1975 rfl ?_
  refine l_arg 1 1 hi hN dL_law_1976 dL_law_1977 dL_law_1979 (by decide) dL_law_1980 dL_law_1981 rfl rfl (by decide) ?_
  refine l_arg 2 2 hi hN dL_law_1982 dL_law_1983 dL_law_1985 (by decide) dL_law_1986 dL_law_1987 rfl rfl (by decide) ?_
  refine v_scV (kc := kc) (ks := ks) [.int (scv G (nI i + 1)), .int (scv G (nI i + 2))] hC k12_hardened dL_law_1988 lL_249 (hS1.1 230 _ rfl) ⟨by decide, rfl⟩ rfl (Nat.le_of_ble_eq_true rfl) (Nat.le_of_ble_eq_true rfl) (fun M2 h2 => ?_)
  obtain ⟨hL2, ht, hv⟩ := h2
  have hS2 := hL2.1.1.1
  refine v_istore dL_law_1991 rfl (by decide) ?_
  refine v_aload_n dL_law_1993 rfl ?_
  refine v_cV (kc := kc) (ks := ks) [] (c12_thrown G M2 hS2) k12_thrown dL_law_1994 lL_152 (hS2.1 230 _ rfl) ⟨by decide, rfl⟩ rfl (Nat.le_of_ble_eq_true rfl) (Nat.le_of_ble_eq_true rfl) ?_
  refine v_iload dL_law_1997 rfl ?_
  refine v_icmp_eq 2004 dL_law_1999 (by decide) (fun _ => ?_) (fun h => absurd ht h)
  have tl : ∀ ls5 : List (Option Value), V G YL_law 60 kc ks Q1 X 2021 (LW i ++ ls5) [] M2 := fun ls5 => v_goto 2773 dL_law_2021 (by decide) (v_take 5 (kk M2 hL2))
  refine v_iload dL_law_2004 rfl ?_
  refine v_if_ne 2021 dL_law_2006 (by decide) (fun _ => tl _) (fun h0 => ?_)
  have h0 := Decidable.not_not.mp h0
  refine v_aload_n dL_law_2009 rfl ?_
  refine v_iconst 0 dL_law_2010 (by decide) ?_
  refine v_lald dL_law_2011 (hS2.1 247 _ rfl) (vp_in_iff.mpr (by decide)) ?_
  rw [z_clamp, hv h0]
  refine v_iload dL_law_2012 rfl ?_
  refine v_i2l dL_law_2014 ?_
  refine v_lcmp dL_law_2015 ?_
  exact v_if_eq 2021 dL_law_2016 (by decide) (fun _ => tl _) (fun h => absurd (lg_eq.mpr rfl) h)
theorem law_31 {i : Nat} (hi : i + 6 ≤ ad G 1000) (hN : ad G 1000 ≤ 3072) (hL : LI M) (kk : ∀ M2, LI M2 → V G YL_law 60 kc ks Q1 X 2773 (LW i) [] M2) : V G YL_law 60 (kc + 75) (ks + 1023) Q1 X 2024 (LW i) [] M := by
  have hS := hL.1.1.1
  refine v_pad (v_pad (v_pad ?_))
  obtain ⟨v, Qp, hA, hB⟩ := op_book G M hL
  refine v_aload_n dL_law_2024 rfl ?_
  refine V.up (kc := kc + 0) (ks := ks + 0) (v_callV [] hA k11_book dL_law_2025 lL_250 (hS.1 100 _ rfl) ⟨by decide, rfl⟩ rfl (Nat.le_of_ble_eq_true rfl) (Nat.le_of_ble_eq_true rfl) (fun v1 M1 hq => ?_) (fun _ _ h => h.elim)) (by omega) (by omega)
  obtain ⟨rfl, hq⟩ := hq
  obtain ⟨hS1, hC⟩ := hB M1 hq
  refine v_aload_n dL_law_2028 rfl ?_
  refine v_scV (kc := kc) (ks := ks) [] hC k12_book dL_law_2029 lL_253 (hS1.1 230 _ rfl) ⟨by decide, rfl⟩ rfl (Nat.le_of_ble_eq_true rfl) (Nat.le_of_ble_eq_true rfl) (fun M2 hL2 => ?_)
  exact v_icmp_eq 2773 dL_law_2032 (by decide) (fun _ => v_take 5 (kk M2 hL2)) (fun h => absurd rfl h)
theorem law_32 {i : Nat} (hi : i + 6 ≤ ad G 1000) (hN : ad G 1000 ≤ 3072) (hL : LI M) (kk : ∀ M2, LI M2 → V G YL_law 60 kc ks Q1 X 2773 (LW i) [] M2) : V G YL_law 60 (kc + 75) (ks + 1023) Q1 X 2037 (LW i) [] M := by
  have hS := hL.1.1.1
  refine v_pad (v_pad (v_pad ?_))
  obtain ⟨Qp, hA, hB⟩ := op_asking G M hL (scv G (nI i + 1))
  refine v_aload_n dL_law_2037 rfl ?_
  refine l_arg 1 1 hi hN dL_law_2038 dL_law_2039 dL_law_2041 (by decide) dL_law_2042 dL_law_2043 rfl rfl (by decide) ?_
  refine v_aload_n dL_law_2044 rfl ?_
  refine V.up (kc := kc + 1) (ks := ks + 6) (v_callW [.ref 100, .int (scv G (nI i + 1)), .ref 247] hA kL_asking dL_law_2045 lL_254 rfl (Nat.le_of_ble_eq_true rfl) (Nat.le_of_ble_eq_true rfl) (fun v1 M1 hq => ?_)) (by omega) (by omega)
  obtain ⟨t, rfl, hq⟩ := hq
  obtain ⟨hS1, v2, hC⟩ := hB t M1 hq
  refine v_istore dL_law_2048 rfl (by decide) ?_
  refine v_aload_n dL_law_2050 rfl ?_
  refine l_arg 1 1 hi hN dL_law_2051 dL_law_2052 dL_law_2054 (by decide) dL_law_2055 dL_law_2056 rfl rfl (by decide) ?_
  refine v_scV (kc := kc) (ks := ks) [.int (scv G (nI i + 1))] hC k12_asking dL_law_2057 lL_256 (hS1.1 230 _ rfl) ⟨by decide, rfl⟩ rfl (Nat.le_of_ble_eq_true rfl) (Nat.le_of_ble_eq_true rfl) (fun M2 h2 => ?_)
  obtain ⟨hL2, ht, hv⟩ := h2
  have hS2 := hL2.1.1.1
  refine v_istore dL_law_2060 rfl (by decide) ?_
  refine v_aload_n dL_law_2062 rfl ?_
  refine v_cV (kc := kc) (ks := ks) [] (c12_thrown G M2 hS2) k12_thrown dL_law_2063 lL_152 (hS2.1 230 _ rfl) ⟨by decide, rfl⟩ rfl (Nat.le_of_ble_eq_true rfl) (Nat.le_of_ble_eq_true rfl) ?_
  refine v_iload dL_law_2066 rfl ?_
  refine v_icmp_eq 2073 dL_law_2068 (by decide) (fun _ => ?_) (fun h => absurd ht h)
  have tl : ∀ ls5 : List (Option Value), V G YL_law 60 kc ks Q1 X 2090 (LW i ++ ls5) [] M2 := fun ls5 => v_goto 2773 dL_law_2090 (by decide) (v_take 5 (kk M2 hL2))
  refine v_iload dL_law_2073 rfl ?_
  refine v_if_ne 2090 dL_law_2075 (by decide) (fun _ => tl _) (fun h0 => ?_)
  have h0 := Decidable.not_not.mp h0
  refine v_aload_n dL_law_2078 rfl ?_
  refine v_iconst 0 dL_law_2079 (by decide) ?_
  refine v_lald dL_law_2080 (hS2.1 247 _ rfl) (vp_in_iff.mpr (by decide)) ?_
  rw [z_clamp, hv h0]
  refine v_iload dL_law_2081 rfl ?_
  refine v_i2l dL_law_2083 ?_
  refine v_lcmp dL_law_2084 ?_
  exact v_if_eq 2090 dL_law_2085 (by decide) (fun _ => tl _) (fun h => absurd (lg_eq.mpr rfl) h)
theorem law_33 {i : Nat} (hi : i + 6 ≤ ad G 1000) (hN : ad G 1000 ≤ 3072) (hL : LI M) (kk : ∀ M2, LI M2 → V G YL_law 60 kc ks Q1 X 2773 (LW i) [] M2) : V G YL_law 60 (kc + 75) (ks + 1023) Q1 X 2093 (LW i) [] M := by
  have hS := hL.1.1.1
  refine v_pad (v_pad (v_pad ?_))
  obtain ⟨Qp, hA, hB⟩ := op_fresh G M hL (scv G (nI i + 1)) (scv G (nI i + 2))
  refine v_aload_n dL_law_2093 rfl ?_
  refine l_arg 1 1 hi hN dL_law_2094 dL_law_2095 dL_law_2097 (by decide) dL_law_2098 dL_law_2099 rfl rfl (by decide) ?_
  refine l_arg 2 2 hi hN dL_law_2100 dL_law_2101 dL_law_2103 (by decide) dL_law_2104 dL_law_2105 rfl rfl (by decide) ?_
  refine v_aload_n dL_law_2106 rfl ?_
  refine V.up (kc := kc + 1) (ks := ks + 6) (v_callW [.ref 100, .int (scv G (nI i + 1)), .int (scv G (nI i + 2)), .ref 247] hA kL_fresh dL_law_2107 lL_257 rfl (Nat.le_of_ble_eq_true rfl) (Nat.le_of_ble_eq_true rfl) (fun v1 M1 hq => ?_)) (by omega) (by omega)
  obtain ⟨t, rfl, hq⟩ := hq
  obtain ⟨hS1, v2, hC⟩ := hB t M1 hq
  refine v_istore dL_law_2110 rfl (by decide) ?_
  refine v_aload_n dL_law_2112 rfl ?_
  refine l_arg 1 1 hi hN dL_law_2113 dL_law_2114 dL_law_2116 (by decide) dL_law_2117 dL_law_2118 rfl rfl (by decide) ?_
  refine l_arg 2 2 hi hN dL_law_2119 dL_law_2120 dL_law_2122 (by decide) dL_law_2123 dL_law_2124 rfl rfl (by decide) ?_
  refine v_scV (kc := kc) (ks := ks) [.int (scv G (nI i + 1)), .int (scv G (nI i + 2))] hC k12_fresh dL_law_2125 lL_259 (hS1.1 230 _ rfl) ⟨by decide, rfl⟩ rfl (Nat.le_of_ble_eq_true rfl) (Nat.le_of_ble_eq_true rfl) (fun M2 h2 => ?_)
  obtain ⟨hL2, ht, hv⟩ := h2
  have hS2 := hL2.1.1.1
  refine v_istore dL_law_2128 rfl (by decide) ?_
  refine v_aload_n dL_law_2130 rfl ?_
  refine v_cV (kc := kc) (ks := ks) [] (c12_thrown G M2 hS2) k12_thrown dL_law_2131 lL_152 (hS2.1 230 _ rfl) ⟨by decide, rfl⟩ rfl (Nat.le_of_ble_eq_true rfl) (Nat.le_of_ble_eq_true rfl) ?_
  refine v_iload dL_law_2134 rfl ?_
  refine v_icmp_eq 2141 dL_law_2136 (by decide) (fun _ => ?_) (fun h => absurd ht h)
  have tl : ∀ ls5 : List (Option Value), V G YL_law 60 kc ks Q1 X 2158 (LW i ++ ls5) [] M2 := fun ls5 => v_goto 2773 dL_law_2158 (by decide) (v_take 5 (kk M2 hL2))
  refine v_iload dL_law_2141 rfl ?_
  refine v_if_ne 2158 dL_law_2143 (by decide) (fun _ => tl _) (fun h0 => ?_)
  have h0 := Decidable.not_not.mp h0
  refine v_aload_n dL_law_2146 rfl ?_
  refine v_iconst 0 dL_law_2147 (by decide) ?_
  refine v_lald dL_law_2148 (hS2.1 247 _ rfl) (vp_in_iff.mpr (by decide)) ?_
  rw [z_clamp, hv h0]
  refine v_iload dL_law_2149 rfl ?_
  refine v_i2l dL_law_2151 ?_
  refine v_lcmp dL_law_2152 ?_
  exact v_if_eq 2158 dL_law_2153 (by decide) (fun _ => tl _) (fun h => absurd (lg_eq.mpr rfl) h)
theorem law_34 {i : Nat} (hi : i + 6 ≤ ad G 1000) (hN : ad G 1000 ≤ 3072) (hL : LI M) (kk : ∀ M2, LI M2 → V G YL_law 60 kc ks Q1 X 2773 (LW i) [] M2) : V G YL_law 60 (kc + 75) (ks + 1023) Q1 X 2161 (LW i) [] M := by
  have hS := hL.1.1.1
  refine v_pad (v_pad (v_pad ?_))
  obtain ⟨v, Qp, hA, hB⟩ := op_twins G M hL
  refine v_aload_n dL_law_2161 rfl ?_
  refine V.up (kc := kc + 0) (ks := ks + 0) (v_callV [] hA k11_twins dL_law_2162 lL_260 (hS.1 100 _ rfl) ⟨by decide, rfl⟩ rfl (Nat.le_of_ble_eq_true rfl) (Nat.le_of_ble_eq_true rfl) (fun v1 M1 hq => ?_) (fun _ _ h => h.elim)) (by omega) (by omega)
  obtain ⟨rfl, hq⟩ := hq
  obtain ⟨hS1, hC⟩ := hB M1 hq
  refine v_aload_n dL_law_2165 rfl ?_
  refine v_scV (kc := kc) (ks := ks) [] hC k12_twins dL_law_2166 lL_263 (hS1.1 230 _ rfl) ⟨by decide, rfl⟩ rfl (Nat.le_of_ble_eq_true rfl) (Nat.le_of_ble_eq_true rfl) (fun M2 hL2 => ?_)
  exact v_icmp_eq 2773 dL_law_2169 (by decide) (fun _ => v_take 5 (kk M2 hL2)) (fun h => absurd rfl h)
theorem law_35 {i : Nat} (hi : i + 6 ≤ ad G 1000) (hN : ad G 1000 ≤ 3072) (hL : LI M) (kk : ∀ M2, LI M2 → V G YL_law 60 kc ks Q1 X 2773 (LW i) [] M2) : V G YL_law 60 (kc + 75) (ks + 1023) Q1 X 2174 (LW i) [] M := by
  have hS := hL.1.1.1
  refine v_pad (v_pad (v_pad ?_))
  obtain ⟨v, Qp, hA, hB⟩ := op_parts G M hL
  refine v_aload_n dL_law_2174 rfl ?_
  refine V.up (kc := kc + 0) (ks := ks + 0) (v_callV [] hA k11_parts dL_law_2175 lL_264 (hS.1 100 _ rfl) ⟨by decide, rfl⟩ rfl (Nat.le_of_ble_eq_true rfl) (Nat.le_of_ble_eq_true rfl) (fun v1 M1 hq => ?_) (fun _ _ h => h.elim)) (by omega) (by omega)
  obtain ⟨rfl, hq⟩ := hq
  obtain ⟨hS1, hC⟩ := hB M1 hq
  refine v_aload_n dL_law_2178 rfl ?_
  refine v_scV (kc := kc) (ks := ks) [] hC k12_parts dL_law_2179 lL_267 (hS1.1 230 _ rfl) ⟨by decide, rfl⟩ rfl (Nat.le_of_ble_eq_true rfl) (Nat.le_of_ble_eq_true rfl) (fun M2 hL2 => ?_)
  exact v_icmp_eq 2773 dL_law_2182 (by decide) (fun _ => v_take 5 (kk M2 hL2)) (fun h => absurd rfl h)
theorem law_36 {i : Nat} (hi : i + 6 ≤ ad G 1000) (hN : ad G 1000 ≤ 3072) (hL : LI M) (kk : ∀ M2, LI M2 → V G YL_law 60 kc ks Q1 X 2773 (LW i) [] M2) : V G YL_law 60 (kc + 75) (ks + 1023) Q1 X 2187 (LW i) [] M := by
  have hS := hL.1.1.1
  refine v_pad (v_pad (v_pad ?_))
  obtain ⟨v, Qp, hA, hB⟩ := op_idle G M hL
  refine v_aload_n dL_law_2187 rfl ?_
  refine V.up (kc := kc + 0) (ks := ks + 0) (v_callV [] hA k11_idle dL_law_2188 lL_268 (hS.1 100 _ rfl) ⟨by decide, rfl⟩ rfl (Nat.le_of_ble_eq_true rfl) (Nat.le_of_ble_eq_true rfl) (fun v1 M1 hq => ?_) (fun _ _ h => h.elim)) (by omega) (by omega)
  obtain ⟨rfl, hq⟩ := hq
  obtain ⟨hS1, hC⟩ := hB M1 hq
  refine v_aload_n dL_law_2191 rfl ?_
  refine v_scV (kc := kc) (ks := ks) [] hC k12_idle dL_law_2192 lL_271 (hS1.1 230 _ rfl) ⟨by decide, rfl⟩ rfl (Nat.le_of_ble_eq_true rfl) (Nat.le_of_ble_eq_true rfl) (fun M2 hL2 => ?_)
  exact v_icmp_eq 2773 dL_law_2195 (by decide) (fun _ => v_take 5 (kk M2 hL2)) (fun h => absurd rfl h)
theorem law_37 {i : Nat} (hi : i + 6 ≤ ad G 1000) (hN : ad G 1000 ≤ 3072) (hL : LI M) (kk : ∀ M2, LI M2 → V G YL_law 60 kc ks Q1 X 2773 (LW i) [] M2) : V G YL_law 60 (kc + 75) (ks + 1023) Q1 X 2200 (LW i) [] M := by
  have hS := hL.1.1.1
  refine v_pad (v_pad (v_pad ?_))
  obtain ⟨Qp, hA, hB⟩ := op_nearest G M hL (scv G (nI i + 1))
  refine v_aload_n dL_law_2200 rfl ?_
  refine l_arg 1 1 hi hN dL_law_2201 dL_law_2202 dL_law_2204 (by decide) dL_law_2205 dL_law_2206 rfl rfl (by decide) ?_
  refine v_aload_n dL_law_2207 rfl ?_
  refine V.up (kc := kc + 1) (ks := ks + 6) (v_callW [.ref 100, .int (scv G (nI i + 1)), .ref 247] hA kL_nearest dL_law_2208 lL_272 rfl (Nat.le_of_ble_eq_true rfl) (Nat.le_of_ble_eq_true rfl) (fun v1 M1 hq => ?_)) (by omega) (by omega)
  obtain ⟨t, rfl, hq⟩ := hq
  obtain ⟨hS1, v2, hC⟩ := hB t M1 hq
  refine v_istore dL_law_2211 rfl (by decide) ?_
  refine v_aload_n dL_law_2213 rfl ?_
  refine l_arg 1 1 hi hN dL_law_2214 dL_law_2215 dL_law_2217 (by decide) dL_law_2218 dL_law_2219 rfl rfl (by decide) ?_
  refine v_scV (kc := kc) (ks := ks) [.int (scv G (nI i + 1))] hC k12_nearest dL_law_2220 lL_274 (hS1.1 230 _ rfl) ⟨by decide, rfl⟩ rfl (Nat.le_of_ble_eq_true rfl) (Nat.le_of_ble_eq_true rfl) (fun M2 h2 => ?_)
  obtain ⟨hL2, ht, hv⟩ := h2
  have hS2 := hL2.1.1.1
  refine v_istore dL_law_2223 rfl (by decide) ?_
  refine v_aload_n dL_law_2225 rfl ?_
  refine v_cV (kc := kc) (ks := ks) [] (c12_thrown G M2 hS2) k12_thrown dL_law_2226 lL_152 (hS2.1 230 _ rfl) ⟨by decide, rfl⟩ rfl (Nat.le_of_ble_eq_true rfl) (Nat.le_of_ble_eq_true rfl) ?_
  refine v_iload dL_law_2229 rfl ?_
  refine v_icmp_eq 2236 dL_law_2231 (by decide) (fun _ => ?_) (fun h => absurd ht h)
  have tl : ∀ ls5 : List (Option Value), V G YL_law 60 kc ks Q1 X 2253 (LW i ++ ls5) [] M2 := fun ls5 => v_goto 2773 dL_law_2253 (by decide) (v_take 5 (kk M2 hL2))
  refine v_iload dL_law_2236 rfl ?_
  refine v_if_ne 2253 dL_law_2238 (by decide) (fun _ => tl _) (fun h0 => ?_)
  have h0 := Decidable.not_not.mp h0
  refine v_aload_n dL_law_2241 rfl ?_
  refine v_iconst 0 dL_law_2242 (by decide) ?_
  refine v_lald dL_law_2243 (hS2.1 247 _ rfl) (vp_in_iff.mpr (by decide)) ?_
  rw [z_clamp, hv h0]
  refine v_iload dL_law_2244 rfl ?_
  refine v_i2l dL_law_2246 ?_
  refine v_lcmp dL_law_2247 ?_
  exact v_if_eq 2253 dL_law_2248 (by decide) (fun _ => tl _) (fun h => absurd (lg_eq.mpr rfl) h)
theorem law_38 {i : Nat} (hi : i + 6 ≤ ad G 1000) (hN : ad G 1000 ≤ 3072) (hL : LI M) (kk : ∀ M2, LI M2 → V G YL_law 60 kc ks Q1 X 2773 (LW i) [] M2) : V G YL_law 60 (kc + 75) (ks + 1023) Q1 X 2256 (LW i) [] M := by
  have hS := hL.1.1.1
  refine v_pad (v_pad (v_pad ?_))
  obtain ⟨Qp, hA, hB⟩ := op_differ G M hL (scv G (nI i + 1)) (scv G (nI i + 2))
  refine v_aload_n dL_law_2256 rfl ?_
  refine l_arg 1 1 hi hN dL_law_2257 dL_law_2258 dL_law_2260 (by decide) dL_law_2261 dL_law_2262 rfl rfl (by decide) ?_
  refine l_arg 2 2 hi hN dL_law_2263 dL_law_2264 dL_law_2266 (by decide) dL_law_2267 dL_law_2268 rfl rfl (by decide) ?_
  refine v_aload_n dL_law_2269 rfl ?_
  refine V.up (kc := kc + 1) (ks := ks + 6) (v_callW [.ref 100, .int (scv G (nI i + 1)), .int (scv G (nI i + 2)), .ref 247] hA kL_differ dL_law_2270 lL_275 rfl (Nat.le_of_ble_eq_true rfl) (Nat.le_of_ble_eq_true rfl) (fun v1 M1 hq => ?_)) (by omega) (by omega)
  obtain ⟨t, rfl, hq⟩ := hq
  obtain ⟨hS1, v2, hC⟩ := hB t M1 hq
  refine v_istore dL_law_2273 rfl (by decide) ?_
  refine v_aload_n dL_law_2275 rfl ?_
  refine l_arg 1 1 hi hN dL_law_2276 dL_law_2277 dL_law_2279 (by decide) dL_law_2280 dL_law_2281 rfl rfl (by decide) ?_
  refine l_arg 2 2 hi hN dL_law_2282 dL_law_2283 dL_law_2285 (by decide) dL_law_2286 dL_law_2287 rfl rfl (by decide) ?_
  refine v_scV (kc := kc) (ks := ks) [.int (scv G (nI i + 1)), .int (scv G (nI i + 2))] hC k12_differ dL_law_2288 lL_277 (hS1.1 230 _ rfl) ⟨by decide, rfl⟩ rfl (Nat.le_of_ble_eq_true rfl) (Nat.le_of_ble_eq_true rfl) (fun M2 h2 => ?_)
  obtain ⟨hL2, ht, hv⟩ := h2
  have hS2 := hL2.1.1.1
  refine v_istore dL_law_2291 rfl (by decide) ?_
  refine v_aload_n dL_law_2293 rfl ?_
  refine v_cV (kc := kc) (ks := ks) [] (c12_thrown G M2 hS2) k12_thrown dL_law_2294 lL_152 (hS2.1 230 _ rfl) ⟨by decide, rfl⟩ rfl (Nat.le_of_ble_eq_true rfl) (Nat.le_of_ble_eq_true rfl) ?_
  refine v_iload dL_law_2297 rfl ?_
  refine v_icmp_eq 2304 dL_law_2299 (by decide) (fun _ => ?_) (fun h => absurd ht h)
  have tl : ∀ ls5 : List (Option Value), V G YL_law 60 kc ks Q1 X 2321 (LW i ++ ls5) [] M2 := fun ls5 => v_goto 2773 dL_law_2321 (by decide) (v_take 5 (kk M2 hL2))
  refine v_iload dL_law_2304 rfl ?_
  refine v_if_ne 2321 dL_law_2306 (by decide) (fun _ => tl _) (fun h0 => ?_)
  have h0 := Decidable.not_not.mp h0
  refine v_aload_n dL_law_2309 rfl ?_
  refine v_iconst 0 dL_law_2310 (by decide) ?_
  refine v_lald dL_law_2311 (hS2.1 247 _ rfl) (vp_in_iff.mpr (by decide)) ?_
  rw [z_clamp, hv h0]
  refine v_iload dL_law_2312 rfl ?_
  refine v_i2l dL_law_2314 ?_
  refine v_lcmp dL_law_2315 ?_
  exact v_if_eq 2321 dL_law_2316 (by decide) (fun _ => tl _) (fun h => absurd (lg_eq.mpr rfl) h)
theorem law_39 {i : Nat} (hi : i + 6 ≤ ad G 1000) (hN : ad G 1000 ≤ 3072) (hL : LI M) (kk : ∀ M2, LI M2 → V G YL_law 60 kc ks Q1 X 2773 (LW i) [] M2) : V G YL_law 60 (kc + 75) (ks + 1023) Q1 X 2324 (LW i) [] M := by
  have hS := hL.1.1.1
  refine v_pad (v_pad (v_pad ?_))
  obtain ⟨Qp, hA, hB⟩ := op_common G M hL (scv G (nI i + 1))
  refine v_aload_n dL_law_2324 rfl ?_
  refine l_arg 1 1 hi hN dL_law_2325 dL_law_2326 dL_law_2328 (by decide) dL_law_2329 dL_law_2330 rfl rfl (by decide) ?_
  refine v_aload_n dL_law_2331 rfl ?_
  refine V.up (kc := kc + 1) (ks := ks + 6) (v_callW [.ref 100, .int (scv G (nI i + 1)), .ref 247] hA kL_common dL_law_2332 lL_278 rfl (Nat.le_of_ble_eq_true rfl) (Nat.le_of_ble_eq_true rfl) (fun v1 M1 hq => ?_)) (by omega) (by omega)
  obtain ⟨t, rfl, hq⟩ := hq
  obtain ⟨hS1, v2, hC⟩ := hB t M1 hq
  refine v_istore dL_law_2335 rfl (by decide) ?_
  refine v_aload_n dL_law_2337 rfl ?_
  refine l_arg 1 1 hi hN dL_law_2338 dL_law_2339 dL_law_2341 (by decide) dL_law_2342 dL_law_2343 rfl rfl (by decide) ?_
  refine v_scV (kc := kc) (ks := ks) [.int (scv G (nI i + 1))] hC k12_common dL_law_2344 lL_280 (hS1.1 230 _ rfl) ⟨by decide, rfl⟩ rfl (Nat.le_of_ble_eq_true rfl) (Nat.le_of_ble_eq_true rfl) (fun M2 h2 => ?_)
  obtain ⟨hL2, ht, hv⟩ := h2
  have hS2 := hL2.1.1.1
  refine v_istore dL_law_2347 rfl (by decide) ?_
  refine v_aload_n dL_law_2349 rfl ?_
  refine v_cV (kc := kc) (ks := ks) [] (c12_thrown G M2 hS2) k12_thrown dL_law_2350 lL_152 (hS2.1 230 _ rfl) ⟨by decide, rfl⟩ rfl (Nat.le_of_ble_eq_true rfl) (Nat.le_of_ble_eq_true rfl) ?_
  refine v_iload dL_law_2353 rfl ?_
  refine v_icmp_eq 2360 dL_law_2355 (by decide) (fun _ => ?_) (fun h => absurd ht h)
  have tl : ∀ ls5 : List (Option Value), V G YL_law 60 kc ks Q1 X 2377 (LW i ++ ls5) [] M2 := fun ls5 => v_goto 2773 dL_law_2377 (by decide) (v_take 5 (kk M2 hL2))
  refine v_iload dL_law_2360 rfl ?_
  refine v_if_ne 2377 dL_law_2362 (by decide) (fun _ => tl _) (fun h0 => ?_)
  have h0 := Decidable.not_not.mp h0
  refine v_aload_n dL_law_2365 rfl ?_
  refine v_iconst 0 dL_law_2366 (by decide) ?_
  refine v_lald dL_law_2367 (hS2.1 247 _ rfl) (vp_in_iff.mpr (by decide)) ?_
  rw [z_clamp, hv h0]
  refine v_iload dL_law_2368 rfl ?_
  refine v_i2l dL_law_2370 ?_
  refine v_lcmp dL_law_2371 ?_
  exact v_if_eq 2377 dL_law_2372 (by decide) (fun _ => tl _) (fun h => absurd (lg_eq.mpr rfl) h)
theorem law_40 {i : Nat} (hi : i + 6 ≤ ad G 1000) (hN : ad G 1000 ≤ 3072) (hL : LI M) (kk : ∀ M2, LI M2 → V G YL_law 60 kc ks Q1 X 2773 (LW i) [] M2) : V G YL_law 60 (kc + 75) (ks + 1023) Q1 X 2380 (LW i) [] M := by
  have hS := hL.1.1.1
  refine v_pad (v_pad (v_pad ?_))
  obtain ⟨v, Qp, hA, hB⟩ := op_changing G M hL
  refine v_aload_n dL_law_2380 rfl ?_
  refine V.up (kc := kc + 0) (ks := ks + 0) (v_callV [] hA k11_changing dL_law_2381 lL_281 (hS.1 100 _ rfl) ⟨by decide, rfl⟩ rfl (Nat.le_of_ble_eq_true rfl) (Nat.le_of_ble_eq_true rfl) (fun v1 M1 hq => ?_) (fun _ _ h => h.elim)) (by omega) (by omega)
  obtain ⟨rfl, hq⟩ := hq
  obtain ⟨hS1, hC⟩ := hB M1 hq
  refine v_aload_n dL_law_2384 rfl ?_
  refine v_scV (kc := kc) (ks := ks) [] hC k12_changing dL_law_2385 lL_284 (hS1.1 230 _ rfl) ⟨by decide, rfl⟩ rfl (Nat.le_of_ble_eq_true rfl) (Nat.le_of_ble_eq_true rfl) (fun M2 hL2 => ?_)
  exact v_icmp_eq 2773 dL_law_2388 (by decide) (fun _ => v_take 5 (kk M2 hL2)) (fun h => absurd rfl h)
theorem law_41 {i : Nat} (hi : i + 6 ≤ ad G 1000) (hN : ad G 1000 ≤ 3072) (hL : LI M) (kk : ∀ M2, LI M2 → V G YL_law 60 kc ks Q1 X 2773 (LW i) [] M2) : V G YL_law 60 (kc + 75) (ks + 1023) Q1 X 2393 (LW i) [] M := by
  have hS := hL.1.1.1
  refine v_pad (v_pad (v_pad ?_))
  obtain ⟨Qp, hA, hB⟩ := op_greedy G M hL (scv G (nI i + 1))
  refine v_aload_n dL_law_2393 rfl ?_
  refine l_arg 1 1 hi hN dL_law_2394 dL_law_2395 dL_law_2397 (by decide) dL_law_2398 dL_law_2399 rfl rfl (by decide) ?_
  refine v_aload_n dL_law_2400 rfl ?_
  refine V.up (kc := kc + 1) (ks := ks + 6) (v_callW [.ref 100, .int (scv G (nI i + 1)), .ref 247] hA kL_greedy dL_law_2401 lL_285 rfl (Nat.le_of_ble_eq_true rfl) (Nat.le_of_ble_eq_true rfl) (fun v1 M1 hq => ?_)) (by omega) (by omega)
  obtain ⟨t, rfl, hq⟩ := hq
  obtain ⟨hS1, v2, hC⟩ := hB t M1 hq
  refine v_istore dL_law_2404 rfl (by decide) ?_
  refine v_aload_n dL_law_2406 rfl ?_
  refine l_arg 1 1 hi hN dL_law_2407 dL_law_2408 dL_law_2410 (by decide) dL_law_2411 dL_law_2412 rfl rfl (by decide) ?_
  refine v_scV (kc := kc) (ks := ks) [.int (scv G (nI i + 1))] hC k12_greedy dL_law_2413 lL_287 (hS1.1 230 _ rfl) ⟨by decide, rfl⟩ rfl (Nat.le_of_ble_eq_true rfl) (Nat.le_of_ble_eq_true rfl) (fun M2 h2 => ?_)
  obtain ⟨hL2, ht, hv⟩ := h2
  have hS2 := hL2.1.1.1
  refine v_istore dL_law_2416 rfl (by decide) ?_
  refine v_aload_n dL_law_2418 rfl ?_
  refine v_cV (kc := kc) (ks := ks) [] (c12_thrown G M2 hS2) k12_thrown dL_law_2419 lL_152 (hS2.1 230 _ rfl) ⟨by decide, rfl⟩ rfl (Nat.le_of_ble_eq_true rfl) (Nat.le_of_ble_eq_true rfl) ?_
  refine v_iload dL_law_2422 rfl ?_
  refine v_icmp_eq 2429 dL_law_2424 (by decide) (fun _ => ?_) (fun h => absurd ht h)
  have tl : ∀ ls5 : List (Option Value), V G YL_law 60 kc ks Q1 X 2446 (LW i ++ ls5) [] M2 := fun ls5 => v_goto 2773 dL_law_2446 (by decide) (v_take 5 (kk M2 hL2))
  refine v_iload dL_law_2429 rfl ?_
  refine v_if_ne 2446 dL_law_2431 (by decide) (fun _ => tl _) (fun h0 => ?_)
  have h0 := Decidable.not_not.mp h0
  refine v_aload_n dL_law_2434 rfl ?_
  refine v_iconst 0 dL_law_2435 (by decide) ?_
  refine v_lald dL_law_2436 (hS2.1 247 _ rfl) (vp_in_iff.mpr (by decide)) ?_
  rw [z_clamp, hv h0]
  refine v_iload dL_law_2437 rfl ?_
  refine v_i2l dL_law_2439 ?_
  refine v_lcmp dL_law_2440 ?_
  exact v_if_eq 2446 dL_law_2441 (by decide) (fun _ => tl _) (fun h => absurd (lg_eq.mpr rfl) h)
theorem law_42 {i : Nat} (hi : i + 6 ≤ ad G 1000) (hN : ad G 1000 ≤ 3072) (hL : LI M) (kk : ∀ M2, LI M2 → V G YL_law 60 kc ks Q1 X 2773 (LW i) [] M2) : V G YL_law 60 (kc + 75) (ks + 1023) Q1 X 2449 (LW i) [] M := by
  have hS := hL.1.1.1
  refine v_pad (v_pad (v_pad ?_))
  obtain ⟨Qp, hA, hB⟩ := op_tray G M hL (scv G (nI i + 1)) (scv G (nI i + 2)) (scv G (nI i + 3))
  refine v_aload_n dL_law_2449 rfl ?_
  refine l_arg 1 1 hi hN dL_law_2450 dL_law_2451 dL_law_2453 (by decide) dL_law_2454 dL_law_2455 rfl rfl (by decide) ?_
  refine l_arg 2 2 hi hN dL_law_2456 dL_law_2457 dL_law_2459 (by decide) dL_law_2460 dL_law_2461 rfl rfl (by decide) ?_
  refine l_arg 3 3 hi hN dL_law_2462 dL_law_2463 dL_law_2465 (by decide) dL_law_2466 dL_law_2467 rfl rfl (by decide) ?_
  refine V.up (kc := kc + 1) (ks := ks + 6) (v_callW [.ref 100, .int (scv G (nI i + 1)), .int (scv G (nI i + 2)), .int (scv G (nI i + 3))] hA kL_tray dL_law_2468 lL_288 rfl (Nat.le_of_ble_eq_true rfl) (Nat.le_of_ble_eq_true rfl) (fun v1 M1 hq => ?_)) (by omega) (by omega)
  obtain ⟨t, rfl, hq⟩ := hq
  obtain ⟨hS1, hC⟩ := hB t M1 hq
  refine v_istore dL_law_2471 rfl (by decide) ?_
  refine v_aload_n dL_law_2473 rfl ?_
  refine l_arg 1 1 hi hN dL_law_2474 dL_law_2475 dL_law_2477 (by decide) dL_law_2478 dL_law_2479 rfl rfl (by decide) ?_
  refine l_arg 2 2 hi hN dL_law_2480 dL_law_2481 dL_law_2483 (by decide) dL_law_2484 dL_law_2485 rfl rfl (by decide) ?_
  refine l_arg 3 3 hi hN dL_law_2486 dL_law_2487 dL_law_2489 (by decide) dL_law_2490 dL_law_2491 rfl rfl (by decide) ?_
  refine v_scVv (kc := kc) (ks := ks) [.int (scv G (nI i + 1)), .int (scv G (nI i + 2)), .int (scv G (nI i + 3))] hC k12_tray dL_law_2492 lL_291 (hS1.1 230 _ rfl) ⟨by decide, rfl⟩ rfl (Nat.le_of_ble_eq_true rfl) (Nat.le_of_ble_eq_true rfl) (fun M2 h2 => ?_)
  obtain ⟨hL2, ht⟩ := h2
  have hS2 := hL2.1.1.1
  refine v_aload_n dL_law_2495 rfl ?_
  refine v_cV (kc := kc) (ks := ks) [] (c12_thrown G M2 hS2) k12_thrown dL_law_2496 lL_152 (hS2.1 230 _ rfl) ⟨by decide, rfl⟩ rfl (Nat.le_of_ble_eq_true rfl) (Nat.le_of_ble_eq_true rfl) ?_
  refine v_iload dL_law_2499 rfl ?_
  refine v_icmp_eq 2506 dL_law_2501 (by decide) (fun _ => ?_) (fun h => absurd ht h)
  refine v_goto 2773 dL_law_2506 (by decide) ?_
  exact v_take 5 (kk M2 hL2)
theorem law_43 {i : Nat} (hi : i + 6 ≤ ad G 1000) (hN : ad G 1000 ≤ 3072) (hL : LI M) (kk : ∀ M2, LI M2 → V G YL_law 60 kc ks Q1 X 2773 (LW i) [] M2) : V G YL_law 60 (kc + 75) (ks + 1023) Q1 X 2509 (LW i) [] M := by
  have hS := hL.1.1.1
  refine v_pad (v_pad (v_pad ?_))
  obtain ⟨Qp, hA, hB⟩ := op_write G M hL (scv G (nI i + 1)) (scv G (nI i + 2)) ((((scv G (nI i + 3)).toInt64) <<< ((32 : Int32).toInt64 &&& 63)) ||| (((scv G (nI i + 4)).toInt64) &&& 4294967295))
  refine v_aload_n dL_law_2509 rfl ?_
  refine l_arg 1 1 hi hN dL_law_2510 dL_law_2511 dL_law_2513 (by decide) dL_law_2514 dL_law_2515 rfl rfl (by decide) ?_
  refine l_arg 2 2 hi hN dL_law_2516 dL_law_2517 dL_law_2519 (by decide) dL_law_2520 dL_law_2521 rfl rfl (by decide) ?_
  refine l_arg 3 3 hi hN dL_law_2522 dL_law_2523 dL_law_2525 (by decide) dL_law_2526 dL_law_2527 rfl rfl (by decide) ?_
  refine v_i2l dL_law_2528 ?_
  refine v_bipush 32 dL_law_2529 (by decide) ?_
  refine v_lshl dL_law_2531 ?_
  refine l_arg 4 4 hi hN dL_law_2532 dL_law_2533 dL_law_2535 (by decide) dL_law_2536 dL_law_2537 rfl rfl (by decide) ?_
  refine v_i2l dL_law_2538 ?_
  refine v_ldc2 4294967295 dL_law_2539 KL_292 ?_
  refine v_land dL_law_2542 ?_
  refine v_lor dL_law_2543 ?_
  refine v_aload_n dL_law_2544 rfl ?_
  refine V.up (kc := kc + 1) (ks := ks + 6) (v_callW [.ref 100, .int (scv G (nI i + 1)), .int (scv G (nI i + 2)), .long ((((scv G (nI i + 3)).toInt64) <<< ((32 : Int32).toInt64 &&& 63)) ||| (((scv G (nI i + 4)).toInt64) &&& 4294967295)), .ref 247] hA kL_write dL_law_2545 lL_294 rfl (Nat.le_of_ble_eq_true rfl) (Nat.le_of_ble_eq_true rfl) (fun v1 M1 hq => ?_)) (by omega) (by omega)
  obtain ⟨t, rfl, hq⟩ := hq
  obtain ⟨hS1, v2, hC⟩ := hB t M1 hq
  refine v_istore dL_law_2548 rfl (by decide) ?_
  refine v_aload_n dL_law_2550 rfl ?_
  refine l_arg 1 1 hi hN dL_law_2551 dL_law_2552 dL_law_2554 (by decide) dL_law_2555 dL_law_2556 rfl rfl (by decide) ?_
  refine l_arg 2 2 hi hN dL_law_2557 dL_law_2558 dL_law_2560 (by decide) dL_law_2561 dL_law_2562 rfl rfl (by decide) ?_
  refine l_arg 3 3 hi hN dL_law_2563 dL_law_2564 dL_law_2566 (by decide) dL_law_2567 dL_law_2568 rfl rfl (by decide) ?_
  refine v_i2l dL_law_2569 ?_
  refine v_bipush 32 dL_law_2570 (by decide) ?_
  refine v_lshl dL_law_2572 ?_
  refine l_arg 4 4 hi hN dL_law_2573 dL_law_2574 dL_law_2576 (by decide) dL_law_2577 dL_law_2578 rfl rfl (by decide) ?_
  refine v_i2l dL_law_2579 ?_
  refine v_ldc2 4294967295 dL_law_2580 KL_292 ?_
  refine v_land dL_law_2583 ?_
  refine v_lor dL_law_2584 ?_
  refine v_scV (kc := kc) (ks := ks) [.int (scv G (nI i + 1)), .int (scv G (nI i + 2)), .long ((((scv G (nI i + 3)).toInt64) <<< ((32 : Int32).toInt64 &&& 63)) ||| (((scv G (nI i + 4)).toInt64) &&& 4294967295))] hC k12_write dL_law_2585 lL_297 (hS1.1 230 _ rfl) ⟨by decide, rfl⟩ rfl (Nat.le_of_ble_eq_true rfl) (Nat.le_of_ble_eq_true rfl) (fun M2 h2 => ?_)
  obtain ⟨hL2, ht, hv⟩ := h2
  have hS2 := hL2.1.1.1
  refine v_lstore dL_law_2588 rfl (by decide) ?_
  refine v_aload_n dL_law_2590 rfl ?_
  refine v_cV (kc := kc) (ks := ks) [] (c12_thrown G M2 hS2) k12_thrown dL_law_2591 lL_152 (hS2.1 230 _ rfl) ⟨by decide, rfl⟩ rfl (Nat.le_of_ble_eq_true rfl) (Nat.le_of_ble_eq_true rfl) ?_
  refine v_iload dL_law_2594 rfl ?_
  refine v_icmp_eq 2601 dL_law_2596 (by decide) (fun _ => ?_) (fun h => absurd ht h)
  have tl : ∀ ls5 : List (Option Value), V G YL_law 60 kc ks Q1 X 2617 (LW i ++ ls5) [] M2 := fun ls5 => v_goto 2773 dL_law_2617 (by decide) (v_take 5 (kk M2 hL2))
  refine v_iload dL_law_2601 rfl ?_
  refine v_if_ne 2617 dL_law_2603 (by decide) (fun _ => tl _) (fun h0 => ?_)
  have h0 := Decidable.not_not.mp h0
  refine v_aload_n dL_law_2606 rfl ?_
  refine v_iconst 0 dL_law_2607 (by decide) ?_
  refine v_lald dL_law_2608 (hS2.1 247 _ rfl) (vp_in_iff.mpr (by decide)) ?_
  rw [z_clamp, hv h0]
  refine v_lload dL_law_2609 rfl ?_
  refine v_lcmp dL_law_2611 ?_
  exact v_if_eq 2617 dL_law_2612 (by decide) (fun _ => tl _) (fun h => absurd (lg_eq.mpr rfl) h)
theorem law_44 {i : Nat} (hi : i + 6 ≤ ad G 1000) (hN : ad G 1000 ≤ 3072) (hL : LI M) (kk : ∀ M2, LI M2 → V G YL_law 60 kc ks Q1 X 2773 (LW i) [] M2) : V G YL_law 60 (kc + 75) (ks + 1023) Q1 X 2620 (LW i) [] M := by
  have hS := hL.1.1.1
  refine v_pad (v_pad (v_pad ?_))
  obtain ⟨Qp, hA, hB⟩ := op_copy G M hL (scv G (nI i + 1))
  refine v_aload_n dL_law_2620 rfl ?_
  refine l_arg 1 1 hi hN dL_law_2621 dL_law_2622 dL_law_2624 (by decide) dL_law_2625 dL_law_2626 rfl rfl (by decide) ?_
  refine v_aload_n dL_law_2627 rfl ?_
  refine V.up (kc := kc + 1) (ks := ks + 6) (v_callW [.ref 100, .int (scv G (nI i + 1)), .ref 247] hA kL_copy dL_law_2628 lL_298 rfl (Nat.le_of_ble_eq_true rfl) (Nat.le_of_ble_eq_true rfl) (fun v1 M1 hq => ?_)) (by omega) (by omega)
  obtain ⟨t, rfl, hq⟩ := hq
  obtain ⟨hS1, v2, hC⟩ := hB t M1 hq
  refine v_istore dL_law_2631 rfl (by decide) ?_
  refine v_aload_n dL_law_2633 rfl ?_
  refine l_arg 1 1 hi hN dL_law_2634 dL_law_2635 dL_law_2637 (by decide) dL_law_2638 dL_law_2639 rfl rfl (by decide) ?_
  refine v_scV (kc := kc) (ks := ks) [.int (scv G (nI i + 1))] hC k12_copy dL_law_2640 lL_300 (hS1.1 230 _ rfl) ⟨by decide, rfl⟩ rfl (Nat.le_of_ble_eq_true rfl) (Nat.le_of_ble_eq_true rfl) (fun M2 h2 => ?_)
  obtain ⟨hL2, ht, hv⟩ := h2
  have hS2 := hL2.1.1.1
  refine v_istore dL_law_2643 rfl (by decide) ?_
  refine v_aload_n dL_law_2645 rfl ?_
  refine v_cV (kc := kc) (ks := ks) [] (c12_thrown G M2 hS2) k12_thrown dL_law_2646 lL_152 (hS2.1 230 _ rfl) ⟨by decide, rfl⟩ rfl (Nat.le_of_ble_eq_true rfl) (Nat.le_of_ble_eq_true rfl) ?_
  refine v_iload dL_law_2649 rfl ?_
  refine v_icmp_eq 2656 dL_law_2651 (by decide) (fun _ => ?_) (fun h => absurd ht h)
  have tl : ∀ ls5 : List (Option Value), V G YL_law 60 kc ks Q1 X 2673 (LW i ++ ls5) [] M2 := fun ls5 => v_goto 2773 dL_law_2673 (by decide) (v_take 5 (kk M2 hL2))
  refine v_iload dL_law_2656 rfl ?_
  refine v_if_ne 2673 dL_law_2658 (by decide) (fun _ => tl _) (fun h0 => ?_)
  have h0 := Decidable.not_not.mp h0
  refine v_aload_n dL_law_2661 rfl ?_
  refine v_iconst 0 dL_law_2662 (by decide) ?_
  refine v_lald dL_law_2663 (hS2.1 247 _ rfl) (vp_in_iff.mpr (by decide)) ?_
  rw [z_clamp, hv h0]
  refine v_iload dL_law_2664 rfl ?_
  refine v_i2l dL_law_2666 ?_
  refine v_lcmp dL_law_2667 ?_
  exact v_if_eq 2673 dL_law_2668 (by decide) (fun _ => tl _) (fun h => absurd (lg_eq.mpr rfl) h)
theorem law_45 {i : Nat} (hi : i + 6 ≤ ad G 1000) (hN : ad G 1000 ≤ 3072) (hL : LI M) (kk : ∀ M2, LI M2 → V G YL_law 60 kc ks Q1 X 2773 (LW i) [] M2) : V G YL_law 60 (kc + 75) (ks + 1023) Q1 X 2676 (LW i) [] M := by
  have hS := hL.1.1.1
  refine v_pad (v_pad (v_pad ?_))
  obtain ⟨Qp, hA, hB⟩ := op_image G M hL (scv G (nI i + 1))
  refine v_aload_n dL_law_2676 rfl ?_
  refine l_arg 1 1 hi hN dL_law_2677 dL_law_2678 dL_law_2680 (by decide) dL_law_2681 dL_law_2682 rfl rfl (by decide) ?_
  refine V.up (kc := kc + 75) (ks := ks + 830) (v_callW [.ref 100, .int (scv G (nI i + 1))] hA kL_image dL_law_2683 lL_301 rfl (Nat.le_of_ble_eq_true rfl) (Nat.le_of_ble_eq_true rfl) (fun v1 M1 hq => ?_)) (by omega) (by omega)
  obtain ⟨t, rfl, hq⟩ := hq
  obtain ⟨hS1, hC⟩ := hB t M1 hq
  refine v_istore dL_law_2686 rfl (by decide) ?_
  refine v_aload_n dL_law_2688 rfl ?_
  refine l_arg 1 1 hi hN dL_law_2689 dL_law_2690 dL_law_2692 (by decide) dL_law_2693 dL_law_2694 rfl rfl (by decide) ?_
  refine v_scVv (kc := kc) (ks := ks) [.int (scv G (nI i + 1))] hC k12_image dL_law_2695 lL_304 (hS1.1 230 _ rfl) ⟨by decide, rfl⟩ rfl (Nat.le_of_ble_eq_true rfl) (Nat.le_of_ble_eq_true rfl) (fun M2 h2 => ?_)
  obtain ⟨hL2, ht⟩ := h2
  have hS2 := hL2.1.1.1
  refine v_aload_n dL_law_2698 rfl ?_
  refine v_cV (kc := kc) (ks := ks) [] (c12_thrown G M2 hS2) k12_thrown dL_law_2699 lL_152 (hS2.1 230 _ rfl) ⟨by decide, rfl⟩ rfl (Nat.le_of_ble_eq_true rfl) (Nat.le_of_ble_eq_true rfl) ?_
  refine v_iload dL_law_2702 rfl ?_
  refine v_icmp_eq 2709 dL_law_2704 (by decide) (fun _ => ?_) (fun h => absurd ht h)
  refine v_goto 2773 dL_law_2709 (by decide) ?_
  exact v_take 5 (kk M2 hL2)
theorem law_46 {i : Nat} (hi : i + 6 ≤ ad G 1000) (hN : ad G 1000 ≤ 3072) (hL : LI M) (kk : ∀ M2, LI M2 → V G YL_law 60 kc ks Q1 X 2773 (LW i) [] M2) : V G YL_law 60 (kc + 75) (ks + 1023) Q1 X 2712 (LW i) [] M := by
  have hS := hL.1.1.1
  refine v_pad (v_pad (v_pad ?_))
  obtain ⟨Qp, hA, hB⟩ := op_restore G M hL (scv G (nI i + 1))
  refine v_aload_n dL_law_2712 rfl ?_
  refine l_arg 1 1 hi hN dL_law_2713 dL_law_2714 dL_law_2716 (by decide) dL_law_2717 dL_law_2718 rfl rfl (by decide) ?_
  refine V.up (kc := kc + 1) (ks := ks + 6) (v_callW [.ref 100, .int (scv G (nI i + 1))] hA kL_restore dL_law_2719 lL_305 rfl (Nat.le_of_ble_eq_true rfl) (Nat.le_of_ble_eq_true rfl) (fun v1 M1 hq => ?_)) (by omega) (by omega)
  obtain ⟨t, rfl, hq⟩ := hq
  obtain ⟨hS1, hC⟩ := hB t M1 hq
  refine v_istore dL_law_2722 rfl (by decide) ?_
  refine v_aload_n dL_law_2724 rfl ?_
  refine l_arg 1 1 hi hN dL_law_2725 dL_law_2726 dL_law_2728 (by decide) dL_law_2729 dL_law_2730 rfl rfl (by decide) ?_
  refine v_scVv (kc := kc) (ks := ks) [.int (scv G (nI i + 1))] hC k12_restore dL_law_2731 lL_307 (hS1.1 230 _ rfl) ⟨by decide, rfl⟩ rfl (Nat.le_of_ble_eq_true rfl) (Nat.le_of_ble_eq_true rfl) (fun M2 h2 => ?_)
  obtain ⟨hL2, ht⟩ := h2
  have hS2 := hL2.1.1.1
  refine v_aload_n dL_law_2734 rfl ?_
  refine v_cV (kc := kc) (ks := ks) [] (c12_thrown G M2 hS2) k12_thrown dL_law_2735 lL_152 (hS2.1 230 _ rfl) ⟨by decide, rfl⟩ rfl (Nat.le_of_ble_eq_true rfl) (Nat.le_of_ble_eq_true rfl) ?_
  refine v_iload dL_law_2738 rfl ?_
  refine v_icmp_eq 2745 dL_law_2740 (by decide) (fun _ => ?_) (fun h => absurd ht h)
  refine v_goto 2773 dL_law_2745 (by decide) ?_
  exact v_take 5 (kk M2 hL2)
theorem law_47 {i : Nat} (hi : i + 6 ≤ ad G 1000) (hN : ad G 1000 ≤ 3072) (hL : LI M) (kk : ∀ M2, LI M2 → V G YL_law 60 kc ks Q1 X 2773 (LW i) [] M2) : V G YL_law 60 (kc + 75) (ks + 1023) Q1 X 2748 (LW i) [] M := by
  have hS := hL.1.1.1
  refine v_pad (v_pad (v_pad ?_))
  obtain ⟨v, Qp, hA, hB⟩ := op_count G M hL (scv G (nI i + 1))
  refine v_aload_n dL_law_2748 rfl ?_
  refine l_arg 1 1 hi hN dL_law_2749 dL_law_2750 dL_law_2752 (by decide) dL_law_2753 dL_law_2754 rfl rfl (by decide) ?_
  refine V.up (kc := kc + 0) (ks := ks + 0) (v_callV [.int (scv G (nI i + 1))] hA k11_count dL_law_2755 lL_308 (hS.1 100 _ rfl) ⟨by decide, rfl⟩ rfl (Nat.le_of_ble_eq_true rfl) (Nat.le_of_ble_eq_true rfl) (fun v1 M1 hq => ?_) (fun _ _ h => h.elim)) (by omega) (by omega)
  obtain ⟨rfl, hq⟩ := hq
  obtain ⟨hS1, hC⟩ := hB M1 hq
  refine v_aload_n dL_law_2758 rfl ?_
  refine l_arg 1 1 hi hN dL_law_2759 dL_law_2760 dL_law_2762 (by decide) dL_law_2763 dL_law_2764 rfl rfl (by decide) ?_
  refine v_scV (kc := kc) (ks := ks) [.int (scv G (nI i + 1))] hC k12_count dL_law_2765 lL_311 (hS1.1 230 _ rfl) ⟨by decide, rfl⟩ rfl (Nat.le_of_ble_eq_true rfl) (Nat.le_of_ble_eq_true rfl) (fun M2 hL2 => ?_)
  exact v_icmp_eq 2773 dL_law_2768 (by decide) (fun _ => v_take 5 (kk M2 hL2)) (fun h => absurd rfl h)
end LAWC
