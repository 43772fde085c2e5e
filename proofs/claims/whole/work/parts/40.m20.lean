/-- the k-th byte of a value -/
def mOct (v : Int64) (k : Nat) : Int32 := (v >>> ((8 * nI k).toInt64 &&& 63)).toInt32.toInt8.toInt32.toInt8.toInt32
def mPoke (v : Int64) (a : Nat) (f : Nat → Int32) : Nat → (Nat → Int32)
  | 0 => f
  | k + 1 => va_up (mPoke v a f k) (a + k) (mOct v k)
def mPkL (t : mSt) (e : Nat → Nat → Nat) (S : Nat) : Nat → Nat → (Nat → Int32) → (Nat → Int32)
  | 0, _, a => a
  | r + 1, w, a => mPkL t e S r (w + 1) (if t.2.1 4 (mSrc e w) = 0 then a else mPoke (mVal t e S w) (iN (t.2.1 7 (mSrc e w)) + e 19 w) a (e 20 w))
set_option maxRecDepth 20000 in
theorem l_M_pk1 {G : ax_G} {x : ax_X} {h0 : ax_H} {P : Option Value → ax_H → Prop} {m : Nat} (t : mSt) (e : Nat → Nat → Nat) (U S W T B : Nat) (H : mHy t e U S W T B) (hA : mHA t e U) (hq : ax_H) (q1 q2 q3 q4 q5 q6 q7 q8 : Option Value) (z9 : Int32) (w : Nat) (hwW : w < W) (a : Nat → Int32) (v : Int64) (hc : ¬ t.2.1 4 (mSrc e w) = 0) (hk : ∀ h2 q14, mR m (mIm t (mPoke v (iN (t.2.1 7 (mSrc e w)) + e 19 w) a (e 20 w))) h2 → mFr m hq h2 → AW G x Y_M_link 5 122 h0 P h2 491 [some (.ref m), q1, q2, q3, q4, q5, q6, q7, q8, some (.int z9), some (.int (nI w)), some (.int (nI (mSrc e w))), some (.long v), none, q14] []) : ∀ r k h, k + r = e 20 w → mR m (mIm t (mPoke v (iN (t.2.1 7 (mSrc e w)) + e 19 w) a k)) h → mFr m hq h → AW G x Y_M_link 5 122 h0 P h 430 [some (.ref m), q1, q2, q3, q4, q5, q6, q7, q8, some (.int z9), some (.int (nI w)), some (.int (nI (mSrc e w))), some (.long v), none, some (.int (nI k))] [] := by
  have hUb := H.hUb
  have hWb := H.hWb
  obtain ⟨⟨u1, u2⟩, ⟨v1, v2⟩, hwt⟩ := H.i4 w hwW
  obtain ⟨w1, w2, w3⟩ := H.i6 w hwW
  have hqU : mSrc e w < 4 * U := by show 4 * e 17 w + e 18 w < 4 * U; omega
  obtain ⟨a1, a2⟩ := hA _ hqU hc
  have z2 := (H.i1 _ hqU).1.2
  have qb : mSrc e w < 128 := by omega
  have wb : w < 4096 := by omega
  intro r
  induction r with
  | zero =>
    intro k h hk2 hR hF
    have hkk : k = e 20 w := by omega
    subst hkk
    refine aw_iload d_M_link_430 rfl ?_
    first | refine aw_aload_n d_M_link_432 rfl rfl ?_ | refine aw_aload_nQ d_M_link_432 rfl rfl ?_ | refine aw_aload_nN d_M_link_432 rfl rfl ?_
    refine aM_get (by assumption) fl_M_71 (by decide) rfl d_M_link_433 ?_
    refine aw_iload d_M_link_436 rfl ?_
    refine aM_iald (by assumption) (by decide) rfl rfl (show w < 4096 from wb) (by decide) d_M_link_438 ?_
    refine aw_icmp_ge (tgt := 491) d_M_link_439 (by decide) (fun c439 => ?_) (fun c439 => ?_)
    · exact hk _ _ hR hF
    · exact absurd (show t.2.1 20 w ≤ nI (e 20 w) by rw [w2]; exact nI_le (Nat.le_refl _) (by omega)) c439
  | succ r ih =>
    intro k h hk2 hR hF
    have j1 : t.2.1 7 (mSrc e w) + t.2.1 19 w + nI k = nI (iN (t.2.1 7 (mSrc e w)) + e 19 w + k) := by rw [a1, w1, nI_add, nI_add, ← a1]
    refine aw_iload d_M_link_430 rfl ?_
    first | refine aw_aload_n d_M_link_432 rfl rfl ?_ | refine aw_aload_nQ d_M_link_432 rfl rfl ?_ | refine aw_aload_nN d_M_link_432 rfl rfl ?_
    refine aM_get (by assumption) fl_M_71 (by decide) rfl d_M_link_433 ?_
    refine aw_iload d_M_link_436 rfl ?_
    refine aM_iald (by assumption) (by decide) rfl rfl (show w < 4096 from wb) (by decide) d_M_link_438 ?_
    refine aw_icmp_ge (tgt := 491) d_M_link_439 (by decide) (fun c439 => ?_) (fun c439 => ?_)
    · exact absurd (show t.2.1 20 w ≤ nI k from c439) (by rw [w2]; exact nI_ge (by omega) (by omega))
    · first | refine aw_aload_n d_M_link_442 rfl rfl ?_ | refine aw_aload_nQ d_M_link_442 rfl rfl ?_ | refine aw_aload_nN d_M_link_442 rfl rfl ?_
      refine aM_get (by assumption) fl_M_19 (by decide) rfl d_M_link_443 ?_
      refine aw_iload d_M_link_446 rfl ?_
      refine aM_zald (by assumption) (by decide) rfl rfl (show mSrc e w < 128 from qb) (by decide) d_M_link_448 ?_
      refine aw_if_eq (tgt := 491) d_M_link_449 (by decide) (fun c449 => ?_) (fun c449 => ?_)
      · exact absurd c449 hc
      · first | refine aw_aload_n d_M_link_452 rfl rfl ?_ | refine aw_aload_nQ d_M_link_452 rfl rfl ?_ | refine aw_aload_nN d_M_link_452 rfl rfl ?_
        refine aM_get (by assumption) fl_M_102 (by decide) rfl d_M_link_453 ?_
        first | refine aw_aload_n d_M_link_456 rfl rfl ?_ | refine aw_aload_nQ d_M_link_456 rfl rfl ?_ | refine aw_aload_nN d_M_link_456 rfl rfl ?_
        refine aM_get (by assumption) fl_M_29 (by decide) rfl d_M_link_457 ?_
        refine aw_iload d_M_link_460 rfl ?_
        refine aM_iald (by assumption) (by decide) rfl rfl (show mSrc e w < 128 from qb) (by decide) d_M_link_462 ?_
        first | refine aw_aload_n d_M_link_463 rfl rfl ?_ | refine aw_aload_nQ d_M_link_463 rfl rfl ?_ | refine aw_aload_nN d_M_link_463 rfl rfl ?_
        refine aM_get (by assumption) fl_M_68 (by decide) rfl d_M_link_464 ?_
        refine aw_iload d_M_link_467 rfl ?_
        refine aM_iald (by assumption) (by decide) rfl rfl (show w < 4096 from wb) (by decide) d_M_link_469 ?_
        refine aw_iadd d_M_link_470 ?_
        refine aw_iload d_M_link_471 rfl ?_
        refine aw_iadd d_M_link_473 ?_
        refine aw_lload d_M_link_474 rfl ?_
        refine aw_bipush (v := 8) d_M_link_476 (by decide) ?_
        refine aw_iload d_M_link_478 rfl ?_
        refine aw_imul d_M_link_480 ?_
        refine aw_lshr d_M_link_481 ?_
        refine aw_l2i d_M_link_482 ?_
        refine aw_i2b d_M_link_483 ?_
        refine aM_bast (by assumption) (by decide) rfl j1 (show iN (t.2.1 7 (mSrc e w)) + e 19 w + k < 262144 by omega) (by decide) d_M_link_484 (fun g484 hR484 hF484 => ?_)
        refine aw_iinc (v := nI (k + 1)) d_M_link_485 rfl (ax_inc k) (by decide) rfl ?_
        refine aw_goto (tgt := 430) d_M_link_488 (by decide) ?_
        refine ih (k + 1) _ (by omega) ?_ (hF.tr hF484)
        show mR m (t.1, va_up t.2.1 29 (va_up (mPoke v (iN (t.2.1 7 (mSrc e w)) + e 19 w) a k) (iN (t.2.1 7 (mSrc e w)) + e 19 w + k) (mOct v k)), t.2.2) g484
        exact mU2 hR484
set_option maxRecDepth 20000 in
theorem l_M_wt {G : ax_G} {x : ax_X} {h0 : ax_H} {P : Option Value → ax_H → Prop} {m : Nat} (t : mSt) (e : Nat → Nat → Nat) (U S W T B : Nat) (H : mHy t e U S W T B) (hA : mHA t e U) (hq : ax_H) (q1 q2 q3 q4 q5 q6 q7 q8 : Option Value) (z9 : Int32) (R : Nat → Int32) (hk : ∀ h2 q10 q11 q12 q13 q14, mR m (mIm t R) h2 → mFr m hq h2 → AW G x Y_M_link 5 122 h0 P h2 497 [some (.ref m), q1, q2, q3, q4, q5, q6, q7, q8, some (.int z9), q10, q11, q12, q13, q14] []) : ∀ r w a q11 q12 q13 q14 h, w + r = W → mR m (mIm t a) h → mFr m hq h → mPkL t e S r w a = R → AW G x Y_M_link 5 122 h0 P h 377 [some (.ref m), q1, q2, q3, q4, q5, q6, q7, q8, some (.int z9), some (.int (nI w)), q11, q12, q13, q14] [] := by
  have hW := H.hW
  have hWb := H.hWb
  have hUb := H.hUb
  intro r
  induction r with
  | zero =>
    intro w a q11 q12 q13 q14 h hj hR hF he
    have hww : w = W := by omega
    subst hww
    have he : a = R := he
    subst he
    refine aw_iload d_M_link_377 rfl ?_
    first | refine aw_aload_n d_M_link_379 rfl rfl ?_ | refine aw_aload_nQ d_M_link_379 rfl rfl ?_ | refine aw_aload_nN d_M_link_379 rfl rfl ?_
    refine aM_get (by assumption) fl_M_132 (by decide) rfl d_M_link_380 ?_
    refine aw_icmp_ge (tgt := 497) d_M_link_383 (by decide) (fun c383 => ?_) (fun c383 => ?_)
    · exact hk _ _ _ _ _ _ hR hF
    · exact absurd (show t.1 3 ≤ nI w by rw [hW]; exact nI_le (Nat.le_refl _) (by omega)) c383
  | succ r ih =>
    intro w a q11 q12 q13 q14 h hj hR hF he
    have hwW : w < W := by omega
    obtain ⟨⟨u1, u2⟩, ⟨v1, v2⟩, hwt⟩ := H.i4 w hwW
    have i1 : 4 * t.2.1 17 w + t.2.1 18 w = nI (mSrc e w) := by rw [u1, v1, show (4 : Int32) = nI 4 from rfl, pk_mul, nI_add]
    have qb : mSrc e w < 128 := by show 4 * e 17 w + e 18 w < 128; omega
    have wb : w < 4096 := by omega
    rw [mPkL] at he
    refine aw_iload d_M_link_377 rfl ?_
    first | refine aw_aload_n d_M_link_379 rfl rfl ?_ | refine aw_aload_nQ d_M_link_379 rfl rfl ?_ | refine aw_aload_nN d_M_link_379 rfl rfl ?_
    refine aM_get (by assumption) fl_M_132 (by decide) rfl d_M_link_380 ?_
    refine aw_icmp_ge (tgt := 497) d_M_link_383 (by decide) (fun c383 => ?_) (fun c383 => ?_)
    · exact absurd (show t.1 3 ≤ nI w from c383) (by rw [hW]; exact nI_ge (by omega) (by omega))
    · refine aw_iconst (v := 4) d_M_link_386 (by decide) ?_
      first | refine aw_aload_n d_M_link_387 rfl rfl ?_ | refine aw_aload_nQ d_M_link_387 rfl rfl ?_ | refine aw_aload_nN d_M_link_387 rfl rfl ?_
      refine aM_get (by assumption) fl_M_62 (by decide) rfl d_M_link_388 ?_
      refine aw_iload d_M_link_391 rfl ?_
      refine aM_iald (by assumption) (by decide) rfl rfl (show w < 4096 from wb) (by decide) d_M_link_393 ?_
      refine aw_imul d_M_link_394 ?_
      first | refine aw_aload_n d_M_link_395 rfl rfl ?_ | refine aw_aload_nQ d_M_link_395 rfl rfl ?_ | refine aw_aload_nN d_M_link_395 rfl rfl ?_
      refine aM_get (by assumption) fl_M_65 (by decide) rfl d_M_link_396 ?_
      refine aw_iload d_M_link_399 rfl ?_
      refine aM_iald (by assumption) (by decide) rfl rfl (show w < 4096 from wb) (by decide) d_M_link_401 ?_
      refine aw_iadd d_M_link_402 ?_
      refine aw_istore d_M_link_403 (by decide) rfl ?_
      first | refine aw_aload_n d_M_link_405 rfl rfl ?_ | refine aw_aload_nQ d_M_link_405 rfl rfl ?_ | refine aw_aload_nN d_M_link_405 rfl rfl ?_
      refine aM_get (by assumption) fl_M_19 (by decide) rfl d_M_link_406 ?_
      refine aw_iload d_M_link_409 rfl ?_
      refine aM_zald (by assumption) (by decide) rfl i1 (show mSrc e w < 128 from qb) (by decide) d_M_link_411 ?_
      refine aw_if_eq (tgt := 424) d_M_link_412 (by decide) (fun c412 => ?_) (fun c412 => ?_)
      · refine aw_lconst (v := 0) d_M_link_424 (by decide) ?_
        refine aw_lstore d_M_link_425 (by decide) rfl ?_
        refine aw_iconst (v := 0) d_M_link_427 (by decide) ?_
        refine aw_istore d_M_link_428 (by decide) rfl ?_
        refine aw_iload d_M_link_430 rfl ?_
        first | refine aw_aload_n d_M_link_432 rfl rfl ?_ | refine aw_aload_nQ d_M_link_432 rfl rfl ?_ | refine aw_aload_nN d_M_link_432 rfl rfl ?_
        refine aM_get (by assumption) fl_M_71 (by decide) rfl d_M_link_433 ?_
        refine aw_iload d_M_link_436 rfl ?_
        refine aM_iald (by assumption) (by decide) rfl rfl (show w < 4096 from wb) (by decide) d_M_link_438 ?_
        refine aw_icmp_ge (tgt := 491) d_M_link_439 (by decide) (fun c439 => ?_) (fun c439 => ?_)
        · refine aw_iinc (v := nI (w + 1)) d_M_link_491 rfl (ax_inc w) (by decide) rfl ?_
          refine aw_goto (tgt := 377) d_M_link_494 (by decide) ?_
          rw [if_pos (show t.2.1 4 (mSrc e w) = 0 from c412)] at he
          exact ih (w + 1) _ _ _ _ _ _ (by omega) hR hF he
        · first | refine aw_aload_n d_M_link_442 rfl rfl ?_ | refine aw_aload_nQ d_M_link_442 rfl rfl ?_ | refine aw_aload_nN d_M_link_442 rfl rfl ?_
          refine aM_get (by assumption) fl_M_19 (by decide) rfl d_M_link_443 ?_
          refine aw_iload d_M_link_446 rfl ?_
          refine aM_zald (by assumption) (by decide) rfl i1 (show mSrc e w < 128 from qb) (by decide) d_M_link_448 ?_
          refine aw_if_eq (tgt := 491) d_M_link_449 (by decide) (fun c449 => ?_) (fun c449 => ?_)
          · refine aw_iinc (v := nI (w + 1)) d_M_link_491 rfl (ax_inc w) (by decide) rfl ?_
            refine aw_goto (tgt := 377) d_M_link_494 (by decide) ?_
            rw [if_pos (show t.2.1 4 (mSrc e w) = 0 from c412)] at he
            exact ih (w + 1) _ _ _ _ _ _ (by omega) hR hF he
          · exact absurd c412 c449
      · first | refine aw_aload_n d_M_link_415 rfl rfl ?_ | refine aw_aload_nQ d_M_link_415 rfl rfl ?_ | refine aw_aload_nN d_M_link_415 rfl rfl ?_
        refine aw_iload d_M_link_416 rfl ?_
        refine aw_callV (c_M_valueOf G _ m _ hR e U S W hUb H.hS H.hSb hW hWb H.i2 H.i3 H.i4 w hwW) cl_M (mR.obj (by assumption)) m_M_valueOf ml_M_198 rfl rfl (by decide) (by decide) (Nat.le_of_ble_eq_true rfl) d_M_link_418 ?_
        rintro v h' ⟨rfl, rfl⟩
        refine aw_goto (tgt := 425) d_M_link_421 (by decide) ?_
        refine aw_lstore d_M_link_425 (by decide) rfl ?_
        refine aw_iconst (v := 0) d_M_link_427 (by decide) ?_
        refine aw_istore d_M_link_428 (by decide) rfl ?_
        refine aw_ls (ls' := [some (.ref m), q1, q2, q3, q4, q5, q6, q7, q8, some (.int z9), some (.int (nI w)), some (.int (nI (mSrc e w))), some (.long (mVal t e S w)), none, some (.int (nI 0))]) (by rw [← i1]; rfl) ?_
        refine l_M_pk1 t e U S W T B H hA hq _ _ _ _ _ _ _ _ _ w hwW a (mVal t e S w) c412 (fun h2 q14 hRa hFa => ?_) (e 20 w) 0 _ (by omega) hR hF
        refine aw_iinc (v := nI (w + 1)) d_M_link_491 rfl (ax_inc w) (by decide) rfl ?_
        refine aw_goto (tgt := 377) d_M_link_494 (by decide) ?_
        rw [if_neg (show ¬ t.2.1 4 (mSrc e w) = 0 from c412)] at he
        exact ih (w + 1) _ _ _ _ _ _ (by omega) hRa hFa he
set_option maxRecDepth 20000 in
theorem t_M_link4 {G : ax_G} {x : ax_X} {h0 : ax_H} {P : Option Value → ax_H → Prop} {m : Nat} (t : mSt) (e : Nat → Nat → Nat) (U S W T B : Nat) (H : mHy t e U S W T B) (q1 q2 q3 q4 q5 q6 q7 q8 q10 q11 q12 q13 q14 : Option Value) (z9 : Int32) (h : ax_H) (hR : mR m t h) (hp : ∀ h2, mR m (va_up (mKeepN t e S T).1 0 0, (mKeepN t e S T).2) h2 → mFr m h h2 → P (some (.int ((mKeepN t e S T).1 39))) h2) : AW G x Y_M_link 5 122 h0 P h 497 [some (.ref m), q1, q2, q3, q4, q5, q6, q7, q8, some (.int z9), q10, q11, q12, q13, q14] [] := by
  first | refine aw_aload_n d_M_link_497 rfl rfl ?_ | refine aw_aload_nQ d_M_link_497 rfl rfl ?_ | refine aw_aload_nN d_M_link_497 rfl rfl ?_
  refine aw_callV (c_M_keepNames G _ m _ hR e U S H.hUb H.hS H.hSb H.i2 H.i3 T H.hT H.hTb H.i5) cl_M (mR.obj (by assumption)) m_M_keepNames ml_M_228 rfl rfl (by decide) (by decide) (Nat.le_of_ble_eq_true rfl) d_M_link_498 ?_
  rintro v h' ⟨rfl, hRa, hFa⟩
  first | refine aw_aload_n d_M_link_501 rfl rfl ?_ | refine aw_aload_nQ d_M_link_501 rfl rfl ?_ | refine aw_aload_nN d_M_link_501 rfl rfl ?_
  refine aw_iconst (v := 0) d_M_link_502 (by decide) ?_
  first | refine aw_aload_n d_M_link_503 rfl rfl ?_ | refine aw_aload_nQ d_M_link_503 rfl rfl ?_ | refine aw_aload_nN d_M_link_503 rfl rfl ?_
  refine aM_get (by assumption) fl_M_191 (by decide) rfl d_M_link_504 ?_
  refine aw_callV (c_M_give G _ m _ hRa _ _) cl_M (mR.obj (by assumption)) m_M_give ml_M_210 rfl rfl (by decide) (by decide) (Nat.le_of_ble_eq_true rfl) d_M_link_507 ?_
  rintro v h' ⟨rfl, hRb, hFb⟩
  refine aw_iret ?_ rfl d_M_link_510
  exact hp _ hRb (hFa.tr hFb)
