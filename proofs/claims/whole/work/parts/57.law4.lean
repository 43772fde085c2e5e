theorem am_mono {G : ax_G} {Y : ax_Y} {fr lo : Nat} {av : List Value} {h : ax_H} {P P2 : Option Value → ax_H → Prop} (hp : ∀ v h2, P v h2 → P2 v h2) (M : AM G Y fr lo av h P) : AM G Y fr lo av h P2 := by
  unfold AM Met at M ⊢
  intro p e ha hc hk s m args below hf hs hP hK
  obtain ⟨n, out, a1, a2, a3, ⟨v, h2, q1, q2, q3⟩, q4⟩ := M p e ha hc hk s m args below hf hs hP hK
  exact ⟨n, out, a1, a2, a3, ⟨v, h2, q1, hp v h2 q2, q3⟩, q4⟩
noncomputable def pIf {A : Type} (p : Prop) (a b : A) : A := @ite _ p (Classical.propDecidable p) a b
theorem pIf_t {A : Type} {p : Prop} {a b : A} (h : p) : pIf p a b = a := by rw [pIf, if_pos h]
theorem pIf_f {A : Type} {p : Prop} {a b : A} (h : ¬ p) : pIf p a b = b := by rw [pIf, if_neg h]
/-- the last unit's first symbol -/
def mFst (e : Nat → Nat → Nat) (U : Nat) : Nat := if 0 < U then e 16 (U - 1) else 0
theorem mFst_1 {s : mSt} {e : Nat → Nat → Nat} {U S W T B : Nat} (iv : mInv s e U S W T B) : 0 < U → s.2.1 16 (U - 1) = nI (mFst e U) := by
  intro h
  rw [mFst, if_pos h]
  exact (iv.1.i7 (U - 1) (by omega)).1
theorem mFst_2 {s : mSt} {e : Nat → Nat → Nat} {U S W T B : Nat} (iv : mInv s e U S W T B) : mFst e U ≤ S := by
  rw [mFst]
  by_cases h : 0 < U
  · rw [if_pos h]
    exact (iv.1.i7 (U - 1) (by omega)).2
  · rw [if_neg h]
    exact Nat.zero_le _
def lawStart (G : ax_G) (C : lawP) (o m q : Nat) : Prop := ∀ s e U S W T B n h (p l : Int32), mInv s e U S W T B → mR m s h → C s e U S W T B (n + 1) h → AM G Y_L_start 2 43 [.ref o, .int p, .int l] h (fun v h2 => v = some (.int (zI (mStartOk s U T p l))) ∧ ((mStartOk s U T p l ∧ C (mStart s U T p l) (va_up e 25 (va_up (e 25) T (U - 1))) U S W (T + 1) B n h2) ∨ (¬ mStartOk s U T p l ∧ C s e U S W T B n h2)) ∧ lawF m q h h2)
set_option maxRecDepth 20000 in
theorem law_start {G : ax_G} {x : ax_X} {h0 : ax_H} {P : Option Value → ax_H → Prop} {nm : String} {C : lawP} {o m q b L : Nat} {xs : Nat → Int32} (hS : ax_S G b L xs) (hLb : L < 2 ^ 31) (hC : lawK C o m q) (i n : Nat) (hi : i + 9 ≤ L) (l5 l6 : Option Value) (hop : lawStart G C o m q) (h : ax_H) (hI : lawI C m q (n + 1) h) (hk : ∀ h2, lawI C m q n h2 → AW G x (lawY nm) 10 358 h0 P h2 904 [some (.ref b), some (.ref o), some (.ref m), some (.ref q), some (.int (nI i)), l5, l6] []) : AW G x (lawY nm) 10 358 h0 P h 586 [some (.ref b), some (.ref o), some (.ref m), some (.ref q), some (.int (nI i)), l5, l6] [] := by
  obtain ⟨s, e, U, S, W, T, B, f, iv, hR, hc, hq⟩ := hI
  obtain ⟨fs, ho⟩ := hC.1 _ _ _ _ _ _ _ _ _ hc
  first | refine aw_aload_n d_W_law_586 rfl rfl ?_ | refine aw_aload_nQ d_W_law_586 rfl rfl ?_ | refine aw_aload_nN d_W_law_586 rfl rfl ?_
  first | refine aw_aload_n d_W_law_587 rfl rfl ?_ | refine aw_aload_nQ d_W_law_587 rfl rfl ?_ | refine aw_aload_nN d_W_law_587 rfl rfl ?_
  refine aw_iload d_W_law_588 rfl ?_
  refine aw_iconst (v := 1) d_W_law_590 (by decide) ?_
  refine aw_iadd d_W_law_591 ?_
  refine aw_sld hS (show nI i + 1 = nI (i + 1) from nI_add i 1) (show i + 1 < L by omega) hLb d_W_law_592 ?_
  first | refine aw_aload_n d_W_law_593 rfl rfl ?_ | refine aw_aload_nQ d_W_law_593 rfl rfl ?_ | refine aw_aload_nN d_W_law_593 rfl rfl ?_
  refine aw_iload d_W_law_594 rfl ?_
  refine aw_iconst (v := 2) d_W_law_596 (by decide) ?_
  refine aw_iadd d_W_law_597 ?_
  refine aw_sld hS (show nI i + 2 = nI (i + 2) from nI_add i 2) (show i + 2 < L by omega) hLb d_W_law_598 ?_
  refine aw_callV (hop s e U S W T B n h _ _ iv hR hc) cl_L ho m_L_start ml_W_56 rfl rfl (by decide) (by decide) (Nat.le_of_ble_eq_true rfl) d_W_law_599 ?_
  rintro v h1 ⟨rfl, hc1, hF1⟩
  have hR1 := hF1.m hR
  first | refine aw_aload_n d_W_law_602 rfl rfl ?_ | refine aw_aload_nQ d_W_law_602 rfl rfl ?_ | refine aw_aload_nN d_W_law_602 rfl rfl ?_
  first | refine aw_aload_n d_W_law_603 rfl rfl ?_ | refine aw_aload_nQ d_W_law_603 rfl rfl ?_ | refine aw_aload_nN d_W_law_603 rfl rfl ?_
  refine aw_iload d_W_law_604 rfl ?_
  refine aw_iconst (v := 1) d_W_law_606 (by decide) ?_
  refine aw_iadd d_W_law_607 ?_
  refine aw_sld hS (show nI i + 1 = nI (i + 1) from nI_add i 1) (show i + 1 < L by omega) hLb d_W_law_608 ?_
  first | refine aw_aload_n d_W_law_609 rfl rfl ?_ | refine aw_aload_nQ d_W_law_609 rfl rfl ?_ | refine aw_aload_nN d_W_law_609 rfl rfl ?_
  refine aw_iload d_W_law_610 rfl ?_
  refine aw_iconst (v := 2) d_W_law_612 (by decide) ?_
  refine aw_iadd d_W_law_613 ?_
  refine aw_sld hS (show nI i + 2 = nI (i + 2) from nI_add i 2) (show i + 2 < L by omega) hLb d_W_law_614 ?_
  refine aw_callV (c_M_start G _ m s hR1 U T iv.1.hU iv.1.hUb iv.1.hT iv.1.hTb _ _) cl_M hR1.obj m_M_start ml_W_60 rfl rfl (by decide) (by decide) (Nat.le_of_ble_eq_true rfl) d_W_law_615 ?_
  rintro v h2 ⟨rfl, hR2, hF2⟩
  refine aw_icmp_eq (tgt := 904) d_W_law_618 (by decide) (fun c618 => ?_) (fun c618 => ?_)
  · rcases hc1 with ⟨ok, hc1⟩ | ⟨ok, hc1⟩
    · rw [show mStart s U T _ _ = mStart s U T _ _ from rfl] at hR2
      exact hk h2 ⟨_, _, _, _, _, _, _, f, iv.start _ _ ok, hR2, hC.2.1 _ _ _ _ _ _ _ _ _ _ hF2 hc1, (hF2.2.2 q hC.2.2.2.1).trans (hF1.2.trans hq)⟩
    · rw [mStart, if_neg ok] at hR2
      exact hk h2 ⟨_, e, U, S, W, T, B, f, iv.ret 0, hR2, hC.2.1 _ _ _ _ _ _ _ _ _ _ hF2 (hC.2.2.1 _ _ _ _ _ _ _ _ _ 0 hc1), (hF2.2.2 q hC.2.2.2.1).trans (hF1.2.trans hq)⟩
  · exact absurd rfl c618
theorem c_M_symbolP (G : ax_G) (h : ax_H) (m : Nat) (s : mSt) (hR : mR m s h) {e : Nat → Nat → Nat} {U S W T B : Nat} (iv : mInv s e U S W T B) (w : Int64) (k mk a p l : Int32) : AM G Y_M_symbol 1 22 [.ref m, .long w, .int k, .int mk, .int a, .int p, .int l] h (fun v h2 => v = some (.int (pIf (mSymOk s U S (mFst e U) w k mk a p l) (nI (S - mFst e U)) (-1))) ∧ mR m (pIf (mSymOk s U S (mFst e U) w k mk a p l) (mSymS s S w k mk a p l) (va_up s.1 0 0, s.2)) h2 ∧ mFr m h h2) := by
  refine am_mono (fun v h2 z => ?_) (c_M_symbol G h m s hR U S (mFst e U) iv.1.hU iv.1.hUb iv.1.hS iv.1.hSb (mFst_1 iv) (mFst_2 iv) w k mk a p l)
  rcases z with ⟨z1, z2, z3, z4⟩ | ⟨z1, z2, z3, z4⟩
  · rw [pIf_t z1, pIf_t z1]
    exact ⟨z2, z3, z4⟩
  · rw [pIf_f z1, pIf_f z1]
    exact ⟨z2, z3, z4⟩
def lawSymbol (G : ax_G) (C : lawP) (o m q : Nat) : Prop := ∀ s e U S W T B n h (w : Int64) (k mk a p l : Int32), mInv s e U S W T B → mR m s h → C s e U S W T B (n + 1) h → AM G Y_L_symbol 3 67 [.ref o, .long w, .int k, .int mk, .int a, .int p, .int l] h (fun v h2 => v = some (.int (pIf (mSymOk s U S (mFst e U) w k mk a p l) (nI (S - mFst e U)) (-1))) ∧ ((mSymOk s U S (mFst e U) w k mk a p l ∧ C (mSymS s S w k mk a p l) (va_up (va_up e 11 (va_up (e 11) S (U - 1))) 13 (va_up (e 13) S (iN a))) U (S + 1) W T B n h2) ∨ (¬ mSymOk s U S (mFst e U) w k mk a p l ∧ C s e U S W T B n h2)) ∧ lawF m q h h2)
set_option maxRecDepth 20000 in
theorem law_symbol {G : ax_G} {x : ax_X} {h0 : ax_H} {P : Option Value → ax_H → Prop} {nm : String} {C : lawP} {o m q b L : Nat} {xs : Nat → Int32} (hS : ax_S G b L xs) (hLb : L < 2 ^ 31) (hC : lawK C o m q) (i n : Nat) (hi : i + 9 ≤ L) (l5 l6 : Option Value) (hop : lawSymbol G C o m q) (h : ax_H) (hI : lawI C m q (n + 1) h) (hk : ∀ h2, lawI C m q n h2 → AW G x (lawY nm) 10 358 h0 P h2 904 [some (.ref b), some (.ref o), some (.ref m), some (.ref q), some (.int (nI i)), l5, l6] []) : AW G x (lawY nm) 10 358 h0 P h 330 [some (.ref b), some (.ref o), some (.ref m), some (.ref q), some (.int (nI i)), l5, l6] [] := by
  obtain ⟨s, e, U, S, W, T, B, f, iv, hR, hc, hq⟩ := hI
  obtain ⟨fs, ho⟩ := hC.1 _ _ _ _ _ _ _ _ _ hc
  first | refine aw_aload_n d_W_law_330 rfl rfl ?_ | refine aw_aload_nQ d_W_law_330 rfl rfl ?_ | refine aw_aload_nN d_W_law_330 rfl rfl ?_
  first | refine aw_aload_n d_W_law_331 rfl rfl ?_ | refine aw_aload_nQ d_W_law_331 rfl rfl ?_ | refine aw_aload_nN d_W_law_331 rfl rfl ?_
  refine aw_iload d_W_law_332 rfl ?_
  refine aw_iconst (v := 1) d_W_law_334 (by decide) ?_
  refine aw_iadd d_W_law_335 ?_
  refine aw_sld hS (show nI i + 1 = nI (i + 1) from nI_add i 1) (show i + 1 < L by omega) hLb d_W_law_336 ?_
  refine aw_i2l d_W_law_337 ?_
  refine aw_bipush (v := 32) d_W_law_338 (by decide) ?_
  refine aw_lshl d_W_law_340 ?_
  first | refine aw_aload_n d_W_law_341 rfl rfl ?_ | refine aw_aload_nQ d_W_law_341 rfl rfl ?_ | refine aw_aload_nN d_W_law_341 rfl rfl ?_
  refine aw_iload d_W_law_342 rfl ?_
  refine aw_iconst (v := 2) d_W_law_344 (by decide) ?_
  refine aw_iadd d_W_law_345 ?_
  refine aw_sld hS (show nI i + 2 = nI (i + 2) from nI_add i 2) (show i + 2 < L by omega) hLb d_W_law_346 ?_
  refine aw_i2l d_W_law_347 ?_
  refine aw_ldc2 kc_W_34 d_W_law_348 ?_
  refine aw_land d_W_law_351 ?_
  refine aw_lor d_W_law_352 ?_
  first | refine aw_aload_n d_W_law_353 rfl rfl ?_ | refine aw_aload_nQ d_W_law_353 rfl rfl ?_ | refine aw_aload_nN d_W_law_353 rfl rfl ?_
  refine aw_iload d_W_law_354 rfl ?_
  refine aw_iconst (v := 3) d_W_law_356 (by decide) ?_
  refine aw_iadd d_W_law_357 ?_
  refine aw_sld hS (show nI i + 3 = nI (i + 3) from nI_add i 3) (show i + 3 < L by omega) hLb d_W_law_358 ?_
  first | refine aw_aload_n d_W_law_359 rfl rfl ?_ | refine aw_aload_nQ d_W_law_359 rfl rfl ?_ | refine aw_aload_nN d_W_law_359 rfl rfl ?_
  refine aw_iload d_W_law_360 rfl ?_
  refine aw_iconst (v := 4) d_W_law_362 (by decide) ?_
  refine aw_iadd d_W_law_363 ?_
  refine aw_sld hS (show nI i + 4 = nI (i + 4) from nI_add i 4) (show i + 4 < L by omega) hLb d_W_law_364 ?_
  first | refine aw_aload_n d_W_law_365 rfl rfl ?_ | refine aw_aload_nQ d_W_law_365 rfl rfl ?_ | refine aw_aload_nN d_W_law_365 rfl rfl ?_
  refine aw_iload d_W_law_366 rfl ?_
  refine aw_iconst (v := 5) d_W_law_368 (by decide) ?_
  refine aw_iadd d_W_law_369 ?_
  refine aw_sld hS (show nI i + 5 = nI (i + 5) from nI_add i 5) (show i + 5 < L by omega) hLb d_W_law_370 ?_
  first | refine aw_aload_n d_W_law_371 rfl rfl ?_ | refine aw_aload_nQ d_W_law_371 rfl rfl ?_ | refine aw_aload_nN d_W_law_371 rfl rfl ?_
  refine aw_iload d_W_law_372 rfl ?_
  refine aw_bipush (v := 6) d_W_law_374 (by decide) ?_
  refine aw_iadd d_W_law_376 ?_
  refine aw_sld hS (show nI i + 6 = nI (i + 6) from nI_add i 6) (show i + 6 < L by omega) hLb d_W_law_377 ?_
  first | refine aw_aload_n d_W_law_378 rfl rfl ?_ | refine aw_aload_nQ d_W_law_378 rfl rfl ?_ | refine aw_aload_nN d_W_law_378 rfl rfl ?_
  refine aw_iload d_W_law_379 rfl ?_
  refine aw_bipush (v := 7) d_W_law_381 (by decide) ?_
  refine aw_iadd d_W_law_383 ?_
  refine aw_sld hS (show nI i + 7 = nI (i + 7) from nI_add i 7) (show i + 7 < L by omega) hLb d_W_law_384 ?_
  refine aw_callV (hop s e U S W T B n h _ _ _ _ _ _ iv hR hc) cl_L ho m_L_symbol ml_W_46 rfl rfl (by decide) (by decide) (Nat.le_of_ble_eq_true rfl) d_W_law_385 ?_
  rintro v h1 ⟨rfl, hc1, hF1⟩
  have hR1 := hF1.m hR
  first | refine aw_aload_n d_W_law_388 rfl rfl ?_ | refine aw_aload_nQ d_W_law_388 rfl rfl ?_ | refine aw_aload_nN d_W_law_388 rfl rfl ?_
  first | refine aw_aload_n d_W_law_389 rfl rfl ?_ | refine aw_aload_nQ d_W_law_389 rfl rfl ?_ | refine aw_aload_nN d_W_law_389 rfl rfl ?_
  refine aw_iload d_W_law_390 rfl ?_
  refine aw_iconst (v := 1) d_W_law_392 (by decide) ?_
  refine aw_iadd d_W_law_393 ?_
  refine aw_sld hS (show nI i + 1 = nI (i + 1) from nI_add i 1) (show i + 1 < L by omega) hLb d_W_law_394 ?_
  refine aw_i2l d_W_law_395 ?_
  refine aw_bipush (v := 32) d_W_law_396 (by decide) ?_
  refine aw_lshl d_W_law_398 ?_
  first | refine aw_aload_n d_W_law_399 rfl rfl ?_ | refine aw_aload_nQ d_W_law_399 rfl rfl ?_ | refine aw_aload_nN d_W_law_399 rfl rfl ?_
  refine aw_iload d_W_law_400 rfl ?_
  refine aw_iconst (v := 2) d_W_law_402 (by decide) ?_
  refine aw_iadd d_W_law_403 ?_
  refine aw_sld hS (show nI i + 2 = nI (i + 2) from nI_add i 2) (show i + 2 < L by omega) hLb d_W_law_404 ?_
  refine aw_i2l d_W_law_405 ?_
  refine aw_ldc2 kc_W_34 d_W_law_406 ?_
  refine aw_land d_W_law_409 ?_
  refine aw_lor d_W_law_410 ?_
  first | refine aw_aload_n d_W_law_411 rfl rfl ?_ | refine aw_aload_nQ d_W_law_411 rfl rfl ?_ | refine aw_aload_nN d_W_law_411 rfl rfl ?_
  refine aw_iload d_W_law_412 rfl ?_
  refine aw_iconst (v := 3) d_W_law_414 (by decide) ?_
  refine aw_iadd d_W_law_415 ?_
  refine aw_sld hS (show nI i + 3 = nI (i + 3) from nI_add i 3) (show i + 3 < L by omega) hLb d_W_law_416 ?_
  first | refine aw_aload_n d_W_law_417 rfl rfl ?_ | refine aw_aload_nQ d_W_law_417 rfl rfl ?_ | refine aw_aload_nN d_W_law_417 rfl rfl ?_
  refine aw_iload d_W_law_418 rfl ?_
  refine aw_iconst (v := 4) d_W_law_420 (by decide) ?_
  refine aw_iadd d_W_law_421 ?_
  refine aw_sld hS (show nI i + 4 = nI (i + 4) from nI_add i 4) (show i + 4 < L by omega) hLb d_W_law_422 ?_
  first | refine aw_aload_n d_W_law_423 rfl rfl ?_ | refine aw_aload_nQ d_W_law_423 rfl rfl ?_ | refine aw_aload_nN d_W_law_423 rfl rfl ?_
  refine aw_iload d_W_law_424 rfl ?_
  refine aw_iconst (v := 5) d_W_law_426 (by decide) ?_
  refine aw_iadd d_W_law_427 ?_
  refine aw_sld hS (show nI i + 5 = nI (i + 5) from nI_add i 5) (show i + 5 < L by omega) hLb d_W_law_428 ?_
  first | refine aw_aload_n d_W_law_429 rfl rfl ?_ | refine aw_aload_nQ d_W_law_429 rfl rfl ?_ | refine aw_aload_nN d_W_law_429 rfl rfl ?_
  refine aw_iload d_W_law_430 rfl ?_
  refine aw_bipush (v := 6) d_W_law_432 (by decide) ?_
  refine aw_iadd d_W_law_434 ?_
  refine aw_sld hS (show nI i + 6 = nI (i + 6) from nI_add i 6) (show i + 6 < L by omega) hLb d_W_law_435 ?_
  first | refine aw_aload_n d_W_law_436 rfl rfl ?_ | refine aw_aload_nQ d_W_law_436 rfl rfl ?_ | refine aw_aload_nN d_W_law_436 rfl rfl ?_
  refine aw_iload d_W_law_437 rfl ?_
  refine aw_bipush (v := 7) d_W_law_439 (by decide) ?_
  refine aw_iadd d_W_law_441 ?_
  refine aw_sld hS (show nI i + 7 = nI (i + 7) from nI_add i 7) (show i + 7 < L by omega) hLb d_W_law_442 ?_
  refine aw_callV (c_M_symbolP G _ m s hR1 iv _ _ _ _ _ _) cl_M hR1.obj m_M_symbol ml_W_50 rfl rfl (by decide) (by decide) (Nat.le_of_ble_eq_true rfl) d_W_law_443 ?_
  rintro v h2 ⟨rfl, hR2, hF2⟩
  refine aw_icmp_eq (tgt := 904) d_W_law_446 (by decide) (fun c446 => ?_) (fun c446 => ?_)
  · rcases hc1 with ⟨ok, hc1⟩ | ⟨ok, hc1⟩
    · rw [pIf_t ok] at hR2
      exact hk h2 ⟨_, _, _, _, _, _, _, f, iv.symbol _ _ _ _ _ _ ok, hR2, hC.2.1 _ _ _ _ _ _ _ _ _ _ hF2 hc1, (hF2.2.2 q hC.2.2.2.1).trans (hF1.2.trans hq)⟩
    · rw [pIf_f ok] at hR2
      exact hk h2 ⟨_, e, U, S, W, T, B, f, iv.ret 0, hR2, hC.2.1 _ _ _ _ _ _ _ _ _ _ hF2 (hC.2.2.1 _ _ _ _ _ _ _ _ _ 0 hc1), (hF2.2.2 q hC.2.2.2.1).trans (hF1.2.trans hq)⟩
  · exact absurd rfl c446
theorem c_M_awaitP (G : ax_G) (h : ax_H) (m : Nat) (s : mSt) (hR : mR m s h) {e : Nat → Nat → Nat} {U S W T B : Nat} (iv : mInv s e U S W T B) (a p k nx wh : Int32) (z : Int64) (l : Int32) : AM G Y_M_await 2 44 [.ref m, .int a, .int p, .int k, .int nx, .int wh, .long z, .int l] h (fun v h2 => v = some (.int (pIf (mAwOk s U S (mFst e U) W a p k nx wh l) 1 0)) ∧ mR m (pIf (mAwOk s U S (mFst e U) W a p k nx wh l) (mAwS s (mFst e U) W a p k nx wh z l) (va_up s.1 0 0, s.2)) h2 ∧ mFr m h h2) := by
  refine am_mono (fun v h2 z => ?_) (c_M_await G h m s hR U S (mFst e U) W iv.1.hU iv.1.hUb iv.1.hS iv.1.hSb iv.1.hW iv.1.hWb (mFst_1 iv) (mFst_2 iv) a p k nx wh l z)
  rcases z with ⟨z1, z2, z3, z4⟩ | ⟨z1, z2, z3, z4⟩
  · rw [pIf_t z1, pIf_t z1]
    exact ⟨z2, z3, z4⟩
  · rw [pIf_f z1, pIf_f z1]
    exact ⟨z2, z3, z4⟩
def lawAwait (G : ax_G) (C : lawP) (o m q : Nat) : Prop := ∀ s e U S W T B n h (a p k nx wh : Int32) (z : Int64) (l : Int32), mInv s e U S W T B → mR m s h → C s e U S W T B (n + 1) h → AM G Y_L_await 2 46 [.ref o, .int a, .int p, .int k, .int nx, .int wh, .long z, .int l] h (fun v h2 => v = some (.int (pIf (mAwOk s U S (mFst e U) W a p k nx wh l) 1 0)) ∧ ((mAwOk s U S (mFst e U) W a p k nx wh l ∧ C (mAwS s (mFst e U) W a p k nx wh z l) (va_up (va_up (va_up (va_up (va_up e 17 (va_up (e 17) W (U - 1))) 18 (va_up (e 18) W (iN a))) 19 (va_up (e 19) W (iN p))) 20 (va_up (e 20) W (iN k))) 22 (va_up (e 22) W (mWk (mFst e U) wh))) U S (W + 1) T B n h2) ∨ (¬ mAwOk s U S (mFst e U) W a p k nx wh l ∧ C s e U S W T B n h2)) ∧ lawF m q h h2)
set_option maxRecDepth 20000 in
theorem law_await {G : ax_G} {x : ax_X} {h0 : ax_H} {P : Option Value → ax_H → Prop} {nm : String} {C : lawP} {o m q b L : Nat} {xs : Nat → Int32} (hS : ax_S G b L xs) (hLb : L < 2 ^ 31) (hC : lawK C o m q) (i n : Nat) (hi : i + 9 ≤ L) (l5 l6 : Option Value) (hop : lawAwait G C o m q) (h : ax_H) (hI : lawI C m q (n + 1) h) (hk : ∀ h2, lawI C m q n h2 → AW G x (lawY nm) 10 358 h0 P h2 904 [some (.ref b), some (.ref o), some (.ref m), some (.ref q), some (.int (nI i)), l5, l6] []) : AW G x (lawY nm) 10 358 h0 P h 451 [some (.ref b), some (.ref o), some (.ref m), some (.ref q), some (.int (nI i)), l5, l6] [] := by
  obtain ⟨s, e, U, S, W, T, B, f, iv, hR, hc, hq⟩ := hI
  obtain ⟨fs, ho⟩ := hC.1 _ _ _ _ _ _ _ _ _ hc
  first | refine aw_aload_n d_W_law_451 rfl rfl ?_ | refine aw_aload_nQ d_W_law_451 rfl rfl ?_ | refine aw_aload_nN d_W_law_451 rfl rfl ?_
  first | refine aw_aload_n d_W_law_452 rfl rfl ?_ | refine aw_aload_nQ d_W_law_452 rfl rfl ?_ | refine aw_aload_nN d_W_law_452 rfl rfl ?_
  refine aw_iload d_W_law_453 rfl ?_
  refine aw_iconst (v := 1) d_W_law_455 (by decide) ?_
  refine aw_iadd d_W_law_456 ?_
  refine aw_sld hS (show nI i + 1 = nI (i + 1) from nI_add i 1) (show i + 1 < L by omega) hLb d_W_law_457 ?_
  first | refine aw_aload_n d_W_law_458 rfl rfl ?_ | refine aw_aload_nQ d_W_law_458 rfl rfl ?_ | refine aw_aload_nN d_W_law_458 rfl rfl ?_
  refine aw_iload d_W_law_459 rfl ?_
  refine aw_iconst (v := 2) d_W_law_461 (by decide) ?_
  refine aw_iadd d_W_law_462 ?_
  refine aw_sld hS (show nI i + 2 = nI (i + 2) from nI_add i 2) (show i + 2 < L by omega) hLb d_W_law_463 ?_
  first | refine aw_aload_n d_W_law_464 rfl rfl ?_ | refine aw_aload_nQ d_W_law_464 rfl rfl ?_ | refine aw_aload_nN d_W_law_464 rfl rfl ?_
  refine aw_iload d_W_law_465 rfl ?_
  refine aw_iconst (v := 3) d_W_law_467 (by decide) ?_
  refine aw_iadd d_W_law_468 ?_
  refine aw_sld hS (show nI i + 3 = nI (i + 3) from nI_add i 3) (show i + 3 < L by omega) hLb d_W_law_469 ?_
  first | refine aw_aload_n d_W_law_470 rfl rfl ?_ | refine aw_aload_nQ d_W_law_470 rfl rfl ?_ | refine aw_aload_nN d_W_law_470 rfl rfl ?_
  refine aw_iload d_W_law_471 rfl ?_
  refine aw_iconst (v := 4) d_W_law_473 (by decide) ?_
  refine aw_iadd d_W_law_474 ?_
  refine aw_sld hS (show nI i + 4 = nI (i + 4) from nI_add i 4) (show i + 4 < L by omega) hLb d_W_law_475 ?_
  first | refine aw_aload_n d_W_law_476 rfl rfl ?_ | refine aw_aload_nQ d_W_law_476 rfl rfl ?_ | refine aw_aload_nN d_W_law_476 rfl rfl ?_
  refine aw_iload d_W_law_477 rfl ?_
  refine aw_iconst (v := 5) d_W_law_479 (by decide) ?_
  refine aw_iadd d_W_law_480 ?_
  refine aw_sld hS (show nI i + 5 = nI (i + 5) from nI_add i 5) (show i + 5 < L by omega) hLb d_W_law_481 ?_
  first | refine aw_aload_n d_W_law_482 rfl rfl ?_ | refine aw_aload_nQ d_W_law_482 rfl rfl ?_ | refine aw_aload_nN d_W_law_482 rfl rfl ?_
  refine aw_iload d_W_law_483 rfl ?_
  refine aw_bipush (v := 6) d_W_law_485 (by decide) ?_
  refine aw_iadd d_W_law_487 ?_
  refine aw_sld hS (show nI i + 6 = nI (i + 6) from nI_add i 6) (show i + 6 < L by omega) hLb d_W_law_488 ?_
  refine aw_i2l d_W_law_489 ?_
  refine aw_bipush (v := 32) d_W_law_490 (by decide) ?_
  refine aw_lshl d_W_law_492 ?_
  first | refine aw_aload_n d_W_law_493 rfl rfl ?_ | refine aw_aload_nQ d_W_law_493 rfl rfl ?_ | refine aw_aload_nN d_W_law_493 rfl rfl ?_
  refine aw_iload d_W_law_494 rfl ?_
  refine aw_bipush (v := 7) d_W_law_496 (by decide) ?_
  refine aw_iadd d_W_law_498 ?_
  refine aw_sld hS (show nI i + 7 = nI (i + 7) from nI_add i 7) (show i + 7 < L by omega) hLb d_W_law_499 ?_
  refine aw_i2l d_W_law_500 ?_
  refine aw_ldc2 kc_W_34 d_W_law_501 ?_
  refine aw_land d_W_law_504 ?_
  refine aw_lor d_W_law_505 ?_
  first | refine aw_aload_n d_W_law_506 rfl rfl ?_ | refine aw_aload_nQ d_W_law_506 rfl rfl ?_ | refine aw_aload_nN d_W_law_506 rfl rfl ?_
  refine aw_iload d_W_law_507 rfl ?_
  refine aw_bipush (v := 8) d_W_law_509 (by decide) ?_
  refine aw_iadd d_W_law_511 ?_
  refine aw_sld hS (show nI i + 8 = nI (i + 8) from nI_add i 8) (show i + 8 < L by omega) hLb d_W_law_512 ?_
  refine aw_callV (hop s e U S W T B n h _ _ _ _ _ _ _ iv hR hc) cl_L ho m_L_await ml_W_51 rfl rfl (by decide) (by decide) (Nat.le_of_ble_eq_true rfl) d_W_law_513 ?_
  rintro v h1 ⟨rfl, hc1, hF1⟩
  have hR1 := hF1.m hR
  first | refine aw_aload_n d_W_law_516 rfl rfl ?_ | refine aw_aload_nQ d_W_law_516 rfl rfl ?_ | refine aw_aload_nN d_W_law_516 rfl rfl ?_
  first | refine aw_aload_n d_W_law_517 rfl rfl ?_ | refine aw_aload_nQ d_W_law_517 rfl rfl ?_ | refine aw_aload_nN d_W_law_517 rfl rfl ?_
  refine aw_iload d_W_law_518 rfl ?_
  refine aw_iconst (v := 1) d_W_law_520 (by decide) ?_
  refine aw_iadd d_W_law_521 ?_
  refine aw_sld hS (show nI i + 1 = nI (i + 1) from nI_add i 1) (show i + 1 < L by omega) hLb d_W_law_522 ?_
  first | refine aw_aload_n d_W_law_523 rfl rfl ?_ | refine aw_aload_nQ d_W_law_523 rfl rfl ?_ | refine aw_aload_nN d_W_law_523 rfl rfl ?_
  refine aw_iload d_W_law_524 rfl ?_
  refine aw_iconst (v := 2) d_W_law_526 (by decide) ?_
  refine aw_iadd d_W_law_527 ?_
  refine aw_sld hS (show nI i + 2 = nI (i + 2) from nI_add i 2) (show i + 2 < L by omega) hLb d_W_law_528 ?_
  first | refine aw_aload_n d_W_law_529 rfl rfl ?_ | refine aw_aload_nQ d_W_law_529 rfl rfl ?_ | refine aw_aload_nN d_W_law_529 rfl rfl ?_
  refine aw_iload d_W_law_530 rfl ?_
  refine aw_iconst (v := 3) d_W_law_532 (by decide) ?_
  refine aw_iadd d_W_law_533 ?_
  refine aw_sld hS (show nI i + 3 = nI (i + 3) from nI_add i 3) (show i + 3 < L by omega) hLb d_W_law_534 ?_
  first | refine aw_aload_n d_W_law_535 rfl rfl ?_ | refine aw_aload_nQ d_W_law_535 rfl rfl ?_ | refine aw_aload_nN d_W_law_535 rfl rfl ?_
  refine aw_iload d_W_law_536 rfl ?_
  refine aw_iconst (v := 4) d_W_law_538 (by decide) ?_
  refine aw_iadd d_W_law_539 ?_
  refine aw_sld hS (show nI i + 4 = nI (i + 4) from nI_add i 4) (show i + 4 < L by omega) hLb d_W_law_540 ?_
  first | refine aw_aload_n d_W_law_541 rfl rfl ?_ | refine aw_aload_nQ d_W_law_541 rfl rfl ?_ | refine aw_aload_nN d_W_law_541 rfl rfl ?_
  refine aw_iload d_W_law_542 rfl ?_
  refine aw_iconst (v := 5) d_W_law_544 (by decide) ?_
  refine aw_iadd d_W_law_545 ?_
  refine aw_sld hS (show nI i + 5 = nI (i + 5) from nI_add i 5) (show i + 5 < L by omega) hLb d_W_law_546 ?_
  first | refine aw_aload_n d_W_law_547 rfl rfl ?_ | refine aw_aload_nQ d_W_law_547 rfl rfl ?_ | refine aw_aload_nN d_W_law_547 rfl rfl ?_
  refine aw_iload d_W_law_548 rfl ?_
  refine aw_bipush (v := 6) d_W_law_550 (by decide) ?_
  refine aw_iadd d_W_law_552 ?_
  refine aw_sld hS (show nI i + 6 = nI (i + 6) from nI_add i 6) (show i + 6 < L by omega) hLb d_W_law_553 ?_
  refine aw_i2l d_W_law_554 ?_
  refine aw_bipush (v := 32) d_W_law_555 (by decide) ?_
  refine aw_lshl d_W_law_557 ?_
  first | refine aw_aload_n d_W_law_558 rfl rfl ?_ | refine aw_aload_nQ d_W_law_558 rfl rfl ?_ | refine aw_aload_nN d_W_law_558 rfl rfl ?_
  refine aw_iload d_W_law_559 rfl ?_
  refine aw_bipush (v := 7) d_W_law_561 (by decide) ?_
  refine aw_iadd d_W_law_563 ?_
  refine aw_sld hS (show nI i + 7 = nI (i + 7) from nI_add i 7) (show i + 7 < L by omega) hLb d_W_law_564 ?_
  refine aw_i2l d_W_law_565 ?_
  refine aw_ldc2 kc_W_34 d_W_law_566 ?_
  refine aw_land d_W_law_569 ?_
  refine aw_lor d_W_law_570 ?_
  first | refine aw_aload_n d_W_law_571 rfl rfl ?_ | refine aw_aload_nQ d_W_law_571 rfl rfl ?_ | refine aw_aload_nN d_W_law_571 rfl rfl ?_
  refine aw_iload d_W_law_572 rfl ?_
  refine aw_bipush (v := 8) d_W_law_574 (by decide) ?_
  refine aw_iadd d_W_law_576 ?_
  refine aw_sld hS (show nI i + 8 = nI (i + 8) from nI_add i 8) (show i + 8 < L by omega) hLb d_W_law_577 ?_
  refine aw_callV (c_M_awaitP G _ m s hR1 iv _ _ _ _ _ _ _) cl_M hR1.obj m_M_await ml_W_55 rfl rfl (by decide) (by decide) (Nat.le_of_ble_eq_true rfl) d_W_law_578 ?_
  rintro v h2 ⟨rfl, hR2, hF2⟩
  refine aw_icmp_eq (tgt := 904) d_W_law_581 (by decide) (fun c581 => ?_) (fun c581 => ?_)
  · rcases hc1 with ⟨ok, hc1⟩ | ⟨ok, hc1⟩
    · rw [pIf_t ok] at hR2
      exact hk h2 ⟨_, _, _, _, _, _, _, f, iv.await (mFst_2 iv) _ _ _ _ _ _ _ ok, hR2, hC.2.1 _ _ _ _ _ _ _ _ _ _ hF2 hc1, (hF2.2.2 q hC.2.2.2.1).trans (hF1.2.trans hq)⟩
    · rw [pIf_f ok] at hR2
      exact hk h2 ⟨_, e, U, S, W, T, B, f, iv.ret 0, hR2, hC.2.1 _ _ _ _ _ _ _ _ _ _ hF2 (hC.2.2.1 _ _ _ _ _ _ _ _ _ 0 hc1), (hF2.2.2 q hC.2.2.2.1).trans (hF1.2.trans hq)⟩
  · exact absurd rfl c581
