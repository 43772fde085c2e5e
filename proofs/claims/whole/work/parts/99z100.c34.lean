def cIm (c2 : cSt) (s : mSt) (e : Nat → Nat → Nat) (U S W T n : Nat) (pl : Nat → Int32) : Prop := (∀ k, k < 7 → c2.2.1 9 k = pl k) ∧ (∀ i, i < n → c2.2.1 10 i = mPkL s e S W 0 (mCpL s e (4 * U) 0 (mFill (fun _ => 0) (s.2.1 29) 262144)) i) ∧ (∃ K, K ≤ 2048 ∧ c2.1 53 = nI K ∧ ∀ w a, mAddrL (c2.2.1 12) (c2.2.2.1 11) (c2.2.1 13) w a 0 K = cLk s e S w a (cKp s e S w a)) ∧ (mKT s e T).1 ≤ 8192 ∧ c2.1 54 = nI (mKT s e T).1 ∧ ∀ i, i < (mKT s e T).1 → c2.2.1 14 i = (mKT s e T).2.1 i ∧ c2.2.1 15 i = (mKT s e T).2.2 i
set_option maxRecDepth 20000 in
theorem c_L_makeImage (G : ax_G) (h : ax_H) (o : Nat) (c : cSt) (hR : cR o c h) (s : mSt) (e : Nat → Nat → Nat) (U S W T : Nat) (hJ : cJ c s e U S W T) {B n : Nat} (hy : mHy s e U S W T B) (hB : cBk s e S c.2.2.2.2 (s.2.1 3) c.2.2.2.1 S) (hnd : ∀ q, q < 4 * U → c.2.1 27 q = s.2.1 4 q) (hbg : ∀ q, q < 4 * U → ¬ s.2.1 4 q = 0 → c.2.1 28 q = 4194304 + s.2.1 7 q) (hcl : ∀ w, w < W → ¬ s.2.1 4 (mSrc e w) = 0 → mTq (s.2.1 3) (mT s e S) e w < 128 → ¬ s.2.1 4 (mTq (s.2.1 3) (mT s e S) e w) = 0) (hby : ∀ i, i < B → c.2.1 6 i = s.2.1 8 i) (hft : ∀ i, fits .byte (.int (c.2.1 6 i)) = true) (hHA : mHA s e U) (hn : c.2.1 16 6 = nI n) (hnb : n ≤ 262144) : AM G Y_L_makeImage 4 115 [.ref o] h (fun v h2 => v = none ∧ ∃ c2, cR o c2 h2 ∧ cAg [9, 10, 11, 12, 13, 14, 15, 153, 154] c c2 ∧ cIm c2 s e U S W T n (c.2.1 16) ∧ cFr o (c.2.2.2.2.2 5) h h2) := by
  have hSb := hy.hSb
  have hUb := hy.hUb
  have hWb := hy.hWb
  have hTb := hy.hTb
  have hBb := hy.hB
  have i1 := hy.i1
  have i2 := hy.i2
  have i3 := hy.i3
  have i4 := hy.i4
  have i5 := hy.i5
  have hpl := hy.2.2.2.2.2.2.2.2.2.2.2.2.2.2.1
  refine aw_enter (by decide) (Nat.le_of_ble_eq_true rfl) (n := 3) (ls := [some (.ref o), none, none, none]) rfl (fun x => ?_)
  refine aw_aloadV_n d_L_makeImage_0 rfl rfl (by first | exact Or.inl ⟨_, rfl⟩ | exact Or.inr rfl | exact rv_Q _) ?_
  refine aw_get cl_L fl_L_54 (by decide) hR.obj rfl d_L_makeImage_1 ?_
  refine aw_aloadV_n d_L_makeImage_4 rfl rfl (by first | exact Or.inl ⟨_, rfl⟩ | exact Or.inr rfl | exact rv_Q _) ?_
  refine aw_get cl_L fl_L_58 (by decide) hR.obj rfl d_L_makeImage_5 ?_
  refine aw_callV (c_Image_begin G _ o c hR hn hnb) cl_Image hR.img m_Image_begin ml_L_352 rfl rfl (by decide) (by decide) (Nat.le_of_ble_eq_true rfl) d_L_makeImage_8 ?_
  rintro v h1 ⟨rfl, hR1, hF1⟩
  have hJ1 : cJ (va_up (va_up c.1 53 0) 54 0, va_up (va_up c.2.1 9 (va_cpy (c.2.1 16) (c.2.1 9) 0 0 7)) 10 (mZ (c.2.1 10) 0 n), c.2.2) s e U S W T := hJ.ag (X := [9, 10, 153, 154]) ((((cAg.rf _ c).v (F := 53) (by decide) 0).v (F := 54) (by decide) 0).i (F := 9) (by decide) _ |>.i (F := 10) (by decide) _) (by decide)
  refine aw_iconst (v := 0) d_L_makeImage_11 (by decide) ?_
  refine aw_istore_n d_L_makeImage_12 rfl (by decide) (by dsimp only [List.set]) ?_
  refine l_L_make1 (c := (va_up (va_up c.1 53 0) 54 0, va_up (va_up c.2.1 9 (va_cpy (c.2.1 16) (c.2.1 9) 0 0 7)) 10 (mZ (c.2.1 10) 0 n), c.2.2)) s e U S W T hJ1 (B := B) (n := n) hUb hby hft i1 hHA hBb hnd hbg (mCpL s e (4 * U) 0 (mFill (fun _ => 0) (s.2.1 29) 262144)) h1 (fun f h2 o1 hf hR2 hF2 => ?_) U 0 (mZ (c.2.1 10) 0 n) (mFill (fun _ => 0) (s.2.1 29) 262144) h1 (by omega) (fun i hi => ?_) (by rw [Nat.mul_zero, Nat.sub_zero]) ?_ (cFr.rf _ _ _)
  · refine aw_iconst (v := 0) d_L_makeImage_37 (by decide) ?_
    refine aw_istore_n d_L_makeImage_38 rfl (by decide) (by dsimp only [List.set]) ?_
    refine l_L_make2 (c := (va_up (va_up c.1 53 0) 54 0, va_up (va_up c.2.1 9 (va_cpy (c.2.1 16) (c.2.1 9) 0 0 7)) 10 (mZ (c.2.1 10) 0 n), c.2.2)) s e U S W T hJ1 (B := B) (n := n) hWb hSb hUb i2 i3 i4 hB hnd hbg hcl i1 hHA hpl (mPkL s e S W 0 (mCpL s e (4 * U) 0 (mFill (fun _ => 0) (s.2.1 29) 262144))) h2 (fun f2 h3 o1 o2 hf2 hR3 hF3 => ?_) W 0 f _ h2 _ (by omega) hf rfl hR2 (cFr.rf _ _ _)
    have hJ3 := hJ1.i10 f2
    refine aw_iconst (v := 0) d_L_makeImage_103 (by decide) ?_
    refine aw_istore_n d_L_makeImage_104 rfl (by decide) (by dsimp only [List.set]) ?_
    refine l_L_make3 (c := ((va_up (va_up c.1 53 0) 54 0, va_up (va_up c.2.1 9 (va_cpy (c.2.1 16) (c.2.1 9) 0 0 7)) 10 (mZ (c.2.1 10) 0 n), c.2.2).1, va_up (va_up (va_up c.1 53 0) 54 0, va_up (va_up c.2.1 9 (va_cpy (c.2.1 16) (c.2.1 9) 0 0 7)) 10 (mZ (c.2.1 10) 0 n), c.2.2).2.1 10 f2, (va_up (va_up c.1 53 0) 54 0, va_up (va_up c.2.1 9 (va_cpy (c.2.1 16) (c.2.1 9) 0 0 7)) 10 (mZ (c.2.1 10) 0 n), c.2.2).2.2)) s e U S W T hJ3 hSb hUb i2 i3 i4 hB hnd hbg hcl h3 (fun v I Lg K h4 o1 o2 o3 a1 a2 a3 a4 a5 a6 hR4 hF4 => ?_) (c.2.2.2.2.2 1) 0 _ _ _ 0 h3 _ _ (Nat.zero_add _) (fun _ _ => rfl) (fun _ _ _ => rfl) (fun _ _ => rfl) rfl (Nat.le_refl _) (fun w a => ?_) hR3 (cFr.rf _ _ _)
    have hJ4 := hJ3.v3 a1 a2 a3
    refine aw_iconst (v := 0) d_L_makeImage_164 (by decide) ?_
    refine aw_istore_n d_L_makeImage_165 rfl (by decide) (by dsimp only [List.set]) ?_
    refine l_L_make4 (c := (v, I, Lg, c.2.2.2)) s e U S W T hJ4 hTb hUb i5 (fun q hq => by show I 27 q = _; rw [a2 27 (by decide) (by decide)]; exact hnd q hq) (fun q hq hq2 => by show I 28 q = _; rw [a2 28 (by decide) (by decide)]; exact hbg q hq hq2) h4 (mKT s e T) (fun v5 I5 h5 b1 b2 b3 b4 b5 hR5 hF5 => ?_) T 0 v I (0, s.2.1 34, s.2.1 35) h4 _ _ (by omega) rfl (fun _ _ => rfl) (fun _ _ _ => rfl) ((a1 54 (by decide)).trans rfl) (fun i hi => absurd hi (Nat.not_lt_zero _)) (Nat.le_refl _) hR4 (cFr.rf _ _ _)
    refine ⟨rfl, (v5, I5, Lg, c.2.2.2), hR5, ?_, ⟨fun k hk => ?_, fun i hi => ?_, ⟨K, a5, (b1 53 (by decide)).trans a4, fun w a => ?_⟩, b5, b3, b4⟩, ((hF1.tr hF2).tr hF3).tr (hF4.tr hF5)⟩
    · have g1 := (((cAg.rf [9, 10, 11, 12, 13, 14, 15, 153, 154] c).v (F := 53) (by decide) 0).v (F := 54) (by decide) 0).i (F := 9) (by decide) (va_cpy (c.2.1 16) (c.2.1 9) 0 0 7) |>.i (F := 10) (by decide) (mZ (c.2.1 10) 0 n) |>.i (F := 10) (by decide) f2
      have g2 : cAg [9, 10, 11, 12, 13, 14, 15, 153, 154] ((va_up (va_up c.1 53 0) 54 0, va_up (va_up c.2.1 9 (va_cpy (c.2.1 16) (c.2.1 9) 0 0 7)) 10 (mZ (c.2.1 10) 0 n), c.2.2).1, va_up (va_up (va_up c.1 53 0) 54 0, va_up (va_up c.2.1 9 (va_cpy (c.2.1 16) (c.2.1 9) 0 0 7)) 10 (mZ (c.2.1 10) 0 n), c.2.2).2.1 10 f2, (va_up (va_up c.1 53 0) 54 0, va_up (va_up c.2.1 9 (va_cpy (c.2.1 16) (c.2.1 9) 0 0 7)) 10 (mZ (c.2.1 10) 0 n), c.2.2).2.2) (v, I, Lg, c.2.2.2) := ⟨fun k q => a1 k (fun e => q (by rw [e]; decide)), fun k q => a2 k (fun e => q (by rw [e]; decide)) (fun e => q (by rw [e]; decide)), fun k q => a3 k (fun e => q (by rw [e]; decide)), fun _ _ => rfl, rfl⟩
      have g3 : cAg [9, 10, 11, 12, 13, 14, 15, 153, 154] (v, I, Lg, c.2.2.2) (v5, I5, Lg, c.2.2.2) := ⟨fun k q => b1 k (fun e => q (by rw [e]; decide)), fun k q => b2 k (fun e => q (by rw [e]; decide)) (fun e => q (by rw [e]; decide)), fun _ _ => rfl, fun _ _ => rfl, rfl⟩
      exact (g1.tr g2).tr g3
    · show I5 9 k = _
      have e9 : I5 9 = va_cpy (c.2.1 16) (c.2.1 9) 0 0 7 := (b2 9 (by decide) (by decide)).trans (a2 9 (by decide) (by decide))
      rw [e9, pk_cpy_in (Nat.zero_le _) (by omega), Nat.zero_add, Nat.sub_zero]
    · show I5 10 i = _
      have e10 : I5 10 = f2 := (b2 10 (by decide) (by decide)).trans (a2 10 (by decide) (by decide))
      rw [e10]
      exact hf2 i hi
    · have e12 : I5 12 = I 12 := b2 12 (by decide) (by decide)
      have e13 : I5 13 = I 13 := b2 13 (by decide) (by decide)
      show mAddrL (I5 12) (Lg 11) (I5 13) w a 0 K = _
      rw [e12, e13, a6 w a, cLk, cLk]
      refine pIf_i ⟨fun z => z.1, fun z => ⟨z, ?_⟩⟩
      rcases mMeant_lab (s.2.1 3) (mT s e S) w a with y1 | ⟨j, y1, y2, y3, y4, -⟩
      · have := z.1
        rw [y1] at this
        exact absurd this (by decide)
      · have y1 : j < S := y1
        exact ⟨c.2.2.2.2.1 5 j, hR.1.2.2.2.1 j (hJ.hk y1), (hJ.word y1).trans y4.2.2, (hJ.len y1).trans y4.2.1⟩
    · rw [mAddrL, cLk, pIf_f]
      rintro ⟨-, j, j1, -⟩
      exact absurd j1 (Nat.not_lt_zero _)
  · rw [mZ, if_pos ⟨Nat.zero_le _, by omega⟩, mFill, if_pos (by omega)]
  · have e0 : va_up (va_up (va_up c.1 53 0) 54 0, va_up (va_up c.2.1 9 (va_cpy (c.2.1 16) (c.2.1 9) 0 0 7)) 10 (mZ (c.2.1 10) 0 n), c.2.2).2.1 10 (mZ (c.2.1 10) 0 n) = (va_up (va_up c.1 53 0) 54 0, va_up (va_up c.2.1 9 (va_cpy (c.2.1 16) (c.2.1 9) 0 0 7)) 10 (mZ (c.2.1 10) 0 n), c.2.2).2.1 := mUid (va_up (va_up c.1 53 0) 54 0, va_up (va_up c.2.1 9 (va_cpy (c.2.1 16) (c.2.1 9) 0 0 7)) 10 (mZ (c.2.1 10) 0 n), c.2.2).2.1 10
    rw [e0]
    exact hR1
