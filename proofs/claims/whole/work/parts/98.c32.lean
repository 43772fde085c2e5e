theorem fits_b {z : Int32} (h : fits .byte (.int z) = true) : z.toInt8.toInt32 = z := by
  have h : (decide (-128 ≤ z) && decide (z ≤ 127)) = true := h
  rw [Bool.and_eq_true, decide_eq_true_iff, decide_eq_true_iff] at h
  have h1 := Int32.le_iff_toInt_le.mp h.1
  have h2 := Int32.le_iff_toInt_le.mp h.2
  have e1 : (-128 : Int32).toInt = -128 := by decide
  have e2 : (127 : Int32).toInt = 127 := by decide
  apply Int32.toInt_inj.mp
  rw [Int8.toInt_toInt32, Int32.toInt_toInt8]
  exact Int.bmod_eq_of_le (by omega) (by omega)
theorem mOct_b (v : Int64) (k : Nat) : mOct v k = mByte v k := ax_b8 _
theorem mPoke_b (v : Int64) (a : Nat) (f : Nat → Int32) : ∀ k, mPoke v a f k = mPutB f a v k := by
  intro k
  induction k with
  | zero => rfl
  | succ k ih => rw [mPoke, mPutB, ih, mOct_b]
theorem cpy_rel {p p2 f b : Nat → Int32} {sp dp k n B : Nat} (hp : ∀ i, i < B → p i = p2 i) (hB : sp + k ≤ B) (h : ∀ i, i < n → f i = b i) : ∀ i, i < n → va_cpy p f sp dp k i = va_cpy p2 b sp dp k i := by
  intro i hi
  by_cases q : dp ≤ i ∧ i < dp + k
  · rw [pk_cpy_in q.1 q.2, pk_cpy_in q.1 q.2]
    exact hp _ (by omega)
  · rw [pk_cpy_out (by omega), pk_cpy_out (by omega)]
    exact h i hi
theorem cJ.i10 {c : cSt} {s : mSt} {e : Nat → Nat → Nat} {U S W T : Nat} (h : cJ c s e U S W T) (f : Nat → Int32) : cJ (c.1, va_up c.2.1 10 f, c.2.2) s e U S W T := h.ag (X := [10]) ((cAg.rf _ c).i (F := 10) (by decide) f) (by decide)
set_option maxRecDepth 20000 in
theorem l_L_copy {G : ax_G} {x : ax_X} {h0 : ax_H} {P : Option Value → ax_H → Prop} {o : Nat} {c : cSt} (s : mSt) (e : Nat → Nat → Nat) (U S W T : Nat) (hJ : cJ c s e U S W T) {B n : Nat} (hUb : U ≤ 32) (hby : ∀ i, i < B → c.2.1 6 i = s.2.1 8 i) (hft : ∀ i, fits .byte (.int (c.2.1 6 i)) = true) (i1 : mI1 s e U B) (hHA : mHA s e U) (hBb : B ≤ 262144) (hnd : ∀ q, q < 4 * U → c.2.1 27 q = s.2.1 4 q) (hbg : ∀ q, q < 4 * U → ¬ s.2.1 4 q = 0 → c.2.1 28 q = 4194304 + s.2.1 7 q) {u : Nat} (hu : u < U) (F : Nat → Int32) (hq : ax_H) (hp : ∀ f b h2, (∀ i, i < n → f i = b i) → mCpL s e (4 * U - 4 * (u + 1)) (4 * (u + 1)) b = F → cR o (c.1, va_up c.2.1 10 f, c.2.2) h2 → cFr o (c.2.2.2.2.2 5) hq h2 → P none h2) : ∀ r k f b h o3, k + r = 3 → (∀ i, i < n → f i = b i) → mCpL s e (4 * U - (4 * u + k)) (4 * u + k) b = F → cR o (c.1, va_up c.2.1 10 f, c.2.2) h → cFr o (c.2.2.2.2.2 5) hq h → AW G x Y_L_copySections 1 48 h0 P h 2 [some (.ref o), some (.ref (c.2.2.2.2.1 0 u)), some (.int (nI k)), o3] [] := by
  intro r
  induction r with
  | zero =>
    intro k f b h o3 hk hf hF hR hFr
    have hkk : k = 3 := by omega
    subst hkk
    rw [show 4 * U - (4 * u + 3) = (4 * U - 4 * (u + 1)) + 1 by omega, mCpL, if_neg (fun q => absurd q.2 (by omega)), show 4 * u + 3 + 1 = 4 * (u + 1) by omega] at hF
    refine aw_iload_n d_L_copySections_2 rfl rfl ?_
    refine aw_iconst (v := 3) d_L_copySections_3 (by decide) ?_
    refine aw_icmp_ge (tgt := 59) d_L_copySections_4 (by decide) (fun c4 => ?_) (fun c4 => ?_)
    · refine aw_vret ?_ rfl d_L_copySections_59
      exact hp f b h hf hF hR hFr
    · exact absurd (by decide) c4
  | succ r ih =>
    intro k f b h o3 hk hf hF hR hFr
    have hk3 : k < 3 := by omega
    have hqq : 4 * u + k < 4 * U := by omega
    have hm : (4 * u + k) % 4 < 3 := by omega
    have hJ1 := hJ.i10 f
    have ek : iN (nI k) = k := nI_clamp (by omega)
    have hx : va_rf (cOp (0 ≤ nI k ∧ nI k ≤ 3) (cQ c.2.2.2.2 (4 * u + iN (nI k)))) = .ref (cQ c.2.2.2.2 (4 * u + k)) := by rw [ek, cOp_t ⟨nI_pos' (by omega), nI_le (b := 3) (by omega) (by decide)⟩]; rfl
    have hn4 := hnd _ hqq
    rw [show 4 * U - (4 * u + k) = (4 * U - (4 * u + (k + 1))) + 1 by omega, mCpL, show 4 * u + k + 1 = 4 * u + (k + 1) by omega] at hF
    have hi := i1 _ hqq
    have hz3 := hi.2.2
    rw [if_pos hm] at hz3
    refine aw_iload_n d_L_copySections_2 rfl rfl ?_
    refine aw_iconst (v := 3) d_L_copySections_3 (by decide) ?_
    refine aw_icmp_ge (tgt := 59) d_L_copySections_4 (by decide) (fun c4 => ?_) (fun c4 => ?_)
    · exact absurd c4 (nI_ge (a := k) (b := 3) (by omega) (by decide))
    · refine aw_aloadV_n d_L_copySections_7 rfl rfl (by first | exact Or.inl ⟨_, rfl⟩ | exact Or.inr rfl | exact rv_Q _) ?_
      refine aw_iload_n d_L_copySections_8 rfl rfl ?_
      refine aw_callV (c_Unit_sectionOfKind G _ o _ hR (hJ.hu hu) (nI k)) cl_Unit (hR.unit (hJ.hu hu)) m_Unit_sectionOfKind ml_L_167 rfl rfl (by decide) (by decide) (Nat.le_of_ble_eq_true rfl) d_L_copySections_9 ?_
      rintro vv h ⟨rfl, rfl⟩
      rw [show va_rf (cOp (0 ≤ nI k ∧ nI k ≤ 3) (cQ (c.1, va_up c.2.1 10 f, c.2.2).2.2.2.2 (4 * u + iN (nI k)))) = .ref (cQ c.2.2.2.2 (4 * u + k)) from hx]
      refine aw_astoreV_n d_L_copySections_12 rfl (by decide) (by first | exact Or.inl ⟨_, rfl⟩ | exact Or.inr rfl | exact rv_Q _) (by dsimp only [List.set]) ?_
      refine aw_aloadV_n d_L_copySections_13 rfl rfl (by first | exact Or.inl ⟨_, rfl⟩ | exact Or.inr rfl | exact rv_Q _) ?_
      refine aw_ifnull d_L_copySections_14 ?_
      refine aw_aloadV_n d_L_copySections_17 rfl rfl (by first | exact Or.inl ⟨_, rfl⟩ | exact Or.inr rfl | exact rv_Q _) ?_
      refine aw_get cl_Section fl_L_237 (by decide) (hR.sec (hJ.hq hqq)) rfl d_L_copySections_18 ?_
      refine aw_if_eq (tgt := 53) d_L_copySections_21 (by decide) (fun c21 => ?_) (fun c21 => ?_)
      · refine aw_iinc (v := nI (k + 1)) d_L_copySections_53 rfl (ax_inc k) (by decide) (by dsimp only [List.set]) ?_
        refine aw_goto (tgt := 2) d_L_copySections_56 (by decide) ?_
        have c21 : c.2.1 27 (4 * u + k) = 0 := c21
        rw [hn4] at c21
        rw [if_neg (fun q => q.1 c21)] at hF
        exact ih (k + 1) f b h _ (by omega) hf hF hR hFr
      · have c21 : ¬ c.2.1 27 (4 * u + k) = 0 := c21
        rw [hn4] at c21
        obtain ⟨d1, d2⟩ := hHA _ hqq c21
        have hb1 := hbg _ hqq c21
        rw [if_pos ⟨c21, hm⟩] at hF
        have hz5 := hi.1.2
        have efb : c.2.1 25 (4 * u + k) = nI (e 6 (4 * u + k)) := (hJ.fb hqq hm).trans hi.2.1
        have esz : c.2.1 24 (4 * u + k) = nI (e 5 (4 * u + k)) := (hJ.size hqq).trans hi.1.1
        have hz6 : e 6 (4 * u + k) ≤ B := by omega
        refine aw_aloadV_n d_L_copySections_24 rfl rfl (by first | exact Or.inl ⟨_, rfl⟩ | exact Or.inr rfl | exact rv_Q _) ?_
        refine aw_get cl_L fl_L_40 (by decide) hR.obj rfl d_L_copySections_25 ?_
        refine aw_aloadV_n d_L_copySections_28 rfl rfl (by first | exact Or.inl ⟨_, rfl⟩ | exact Or.inr rfl | exact rv_Q _) ?_
        refine aw_getE cl_Section fl_L_115 (by decide) (hR.sec (hJ.hq hqq)) rfl (congrArg Value.int efb) d_L_copySections_29 ?_
        refine aw_aloadV_n d_L_copySections_32 rfl rfl (by first | exact Or.inl ⟨_, rfl⟩ | exact Or.inr rfl | exact rv_Q _) ?_
        refine aw_get cl_L fl_L_54 (by decide) hR.obj rfl d_L_copySections_33 ?_
        refine aw_get cl_Image fl_L_243 (by decide) hR.img rfl d_L_copySections_36 ?_
        refine aw_aloadV_n d_L_copySections_39 rfl rfl (by first | exact Or.inl ⟨_, rfl⟩ | exact Or.inr rfl | exact rv_Q _) ?_
        refine aw_getE cl_Section fl_L_335 (by decide) (hR.sec (hJ.hq hqq)) rfl (congrArg Value.int hb1) d_L_copySections_40 ?_
        refine aw_ldc kc_L_81 d_L_copySections_43 ?_
        refine aw_isub d_L_copySections_45 ?_
        rw [show 4194304 + s.2.1 7 (4 * u + k) - 4194304 = s.2.1 7 (4 * u + k) by rw [Int32.add_comm, Int32.add_sub_cancel], d1]
        refine aw_aloadV_n d_L_copySections_46 rfl rfl (by first | exact Or.inl ⟨_, rfl⟩ | exact Or.inr rfl | exact rv_Q _) ?_
        refine aw_getE cl_Section fl_L_338 (by decide) (hR.sec (hJ.hq hqq)) rfl (congrArg Value.int esz) d_L_copySections_47 ?_
        refine aw_copy wd_cpL (n0 := 262144) (n1 := 262144) (f := c.2.1 6) (g := f) hR.a6 hR.a10 rfl (nI_pos (by omega)) (nI_pos (by omega)) (nI_pos (by omega)) (by rw [nI_clamp (by omega), nI_clamp (by omega)]; omega) (by rw [nI_clamp (by omega), nI_clamp (by omega)]; omega) (fun i _ => hft _) (by decide) (Nat.le_of_ble_eq_true rfl) d_L_copySections_50 ?_
        rw [nI_clamp (show e 6 (4 * u + k) < 2 ^ 31 by omega), nI_clamp (show iN (s.2.1 7 (4 * u + k)) < 2 ^ 31 by omega), nI_clamp (show e 5 (4 * u + k) < 2 ^ 31 by omega)]
        obtain ⟨hR50, hF50⟩ := hR.w10 (va_cpy (c.2.1 6) f (e 6 (4 * u + k)) (iN (s.2.1 7 (4 * u + k))) (e 5 (4 * u + k)))
        have hR50 : cR o (c.1, va_up (va_up c.2.1 10 f) 10 (va_cpy (c.2.1 6) f (e 6 (4 * u + k)) (iN (s.2.1 7 (4 * u + k))) (e 5 (4 * u + k))), c.2.2) _ := hR50
        rw [bx_uu] at hR50
        have hdat : ∀ i, i < B → c.2.1 6 i = mDat s i := fun i hi => by show _ = (s.2.1 8 i).toInt8.toInt32; rw [← hby i hi, fits_b (hft i)]
        refine aw_iinc (v := nI (k + 1)) d_L_copySections_53 rfl (ax_inc k) (by decide) (by dsimp only [List.set]) ?_
        refine aw_goto (tgt := 2) d_L_copySections_56 (by decide) ?_
        exact ih (k + 1) _ _ _ _ (by omega) (cpy_rel (p2 := mDat s) hdat hz3 hf) hF hR50 (hFr.tr hF50)
set_option maxRecDepth 20000 in
theorem c_L_copySections (G : ax_G) (h : ax_H) (o : Nat) (c : cSt) (hR : cR o c h) (s : mSt) (e : Nat → Nat → Nat) (U S W T : Nat) (hJ : cJ c s e U S W T) {B n : Nat} (hUb : U ≤ 32) (hby : ∀ i, i < B → c.2.1 6 i = s.2.1 8 i) (hft : ∀ i, fits .byte (.int (c.2.1 6 i)) = true) (i1 : mI1 s e U B) (hHA : mHA s e U) (hBb : B ≤ 262144) (hnd : ∀ q, q < 4 * U → c.2.1 27 q = s.2.1 4 q) (hbg : ∀ q, q < 4 * U → ¬ s.2.1 4 q = 0 → c.2.1 28 q = 4194304 + s.2.1 7 q) {u : Nat} (hu : u < U) (F b : Nat → Int32) (hf : ∀ i, i < n → c.2.1 10 i = b i) (hF : mCpL s e (4 * U - 4 * u) (4 * u) b = F) : AM G Y_L_copySections 1 48 [.ref o, .ref (c.2.2.2.2.1 0 u)] h (fun v h2 => v = none ∧ ∃ f b, (∀ i, i < n → f i = b i) ∧ mCpL s e (4 * U - 4 * (u + 1)) (4 * (u + 1)) b = F ∧ cR o (c.1, va_up c.2.1 10 f, c.2.2) h2 ∧ cFr o (c.2.2.2.2.2 5) h h2) := by
  refine aw_enter (by decide) (Nat.le_of_ble_eq_true rfl) (n := 2) (ls := [some (.ref o), some (.ref (c.2.2.2.2.1 0 u)), none, none]) rfl (fun x => ?_)
  refine aw_iconst (v := 0) d_L_copySections_0 (by decide) ?_
  refine aw_istore_n d_L_copySections_1 rfl (by decide) (by dsimp only [List.set]) ?_
  refine l_L_copy s e U S W T hJ hUb hby hft i1 hHA hBb hnd hbg hu F h (fun f b h2 a1 a2 a3 a4 => ⟨rfl, f, b, a1, a2, a3, a4⟩) 3 0 (c.2.1 10) b h _ (by omega) hf hF ?_ (cFr.rf _ _ _)
  show cR o (c.1, va_up c.2.1 10 (c.2.1 10), c.2.2) h
  rw [mUid]
  exact hR
set_option maxRecDepth 20000 in
theorem l_L_make1 {G : ax_G} {x : ax_X} {h0 : ax_H} {P : Option Value → ax_H → Prop} {o : Nat} {c : cSt} (s : mSt) (e : Nat → Nat → Nat) (U S W T : Nat) (hJ : cJ c s e U S W T) {B n : Nat} (hUb : U ≤ 32) (hby : ∀ i, i < B → c.2.1 6 i = s.2.1 8 i) (hft : ∀ i, fits .byte (.int (c.2.1 6 i)) = true) (i1 : mI1 s e U B) (hHA : mHA s e U) (hBb : B ≤ 262144) (hnd : ∀ q, q < 4 * U → c.2.1 27 q = s.2.1 4 q) (hbg : ∀ q, q < 4 * U → ¬ s.2.1 4 q = 0 → c.2.1 28 q = 4194304 + s.2.1 7 q) (F : Nat → Int32) (hq : ax_H) (hk : ∀ f h2 o1, (∀ i, i < n → f i = F i) → cR o (c.1, va_up c.2.1 10 f, c.2.2) h2 → cFr o (c.2.2.2.2.2 5) hq h2 → AW G x Y_L_makeImage 4 115 h0 P h2 37 [some (.ref o), some (.int o1), none, none] []) : ∀ r u f b h, u + r = U → (∀ i, i < n → f i = b i) → mCpL s e (4 * U - 4 * u) (4 * u) b = F → cR o (c.1, va_up c.2.1 10 f, c.2.2) h → cFr o (c.2.2.2.2.2 5) hq h → AW G x Y_L_makeImage 4 115 h0 P h 13 [some (.ref o), some (.int (nI u)), none, none] [] := by
  intro r
  induction r with
  | zero =>
    intro u f b h hu hf hF hR hFr
    rw [show 4 * U - 4 * u = 0 by omega] at hF
    have hF : b = F := hF
    subst hF
    have hJ1 := hJ.i10 f
    refine aw_iload_n d_L_makeImage_13 rfl rfl ?_
    refine aw_aloadV_n d_L_makeImage_14 rfl rfl (by first | exact Or.inl ⟨_, rfl⟩ | exact Or.inr rfl | exact rv_Q _) ?_
    refine aw_getE cl_L fl_L_62 (by decide) hR.obj rfl (congrArg Value.int hJ1.sU) d_L_makeImage_15 ?_
    refine aw_icmp_ge (tgt := 37) d_L_makeImage_18 (by decide) (fun c18 => ?_) (fun c18 => ?_)
    · exact hk f h _ hf hR hFr
    · exact absurd (nI_le (show U ≤ u by omega) (by omega)) c18
  | succ r ih =>
    intro u f b h hu hf hF hR hFr
    have huU : u < U := by omega
    have hJ1 := hJ.i10 f
    refine aw_iload_n d_L_makeImage_13 rfl rfl ?_
    refine aw_aloadV_n d_L_makeImage_14 rfl rfl (by first | exact Or.inl ⟨_, rfl⟩ | exact Or.inr rfl | exact rv_Q _) ?_
    refine aw_getE cl_L fl_L_62 (by decide) hR.obj rfl (congrArg Value.int hJ1.sU) d_L_makeImage_15 ?_
    refine aw_icmp_ge (tgt := 37) d_L_makeImage_18 (by decide) (fun c18 => ?_) (fun c18 => ?_)
    · exact absurd c18 (nI_ge (by omega) (by omega))
    · refine aw_aloadV_n d_L_makeImage_21 rfl rfl (by first | exact Or.inl ⟨_, rfl⟩ | exact Or.inr rfl | exact rv_Q _) ?_
      refine aw_aloadV_n d_L_makeImage_22 rfl rfl (by first | exact Or.inl ⟨_, rfl⟩ | exact Or.inr rfl | exact rv_Q _) ?_
      refine aw_get cl_L fl_L_11 (by decide) hR.obj rfl d_L_makeImage_23 ?_
      refine aw_iload_n d_L_makeImage_26 rfl rfl ?_
      refine aC_l1 hR rfl (show u < 32 by omega) (hJ1.rU huU) d_L_makeImage_27 ?_
      refine aw_callV (c_L_copySections G _ o (c.1, va_up c.2.1 10 f, c.2.2) hR s e U S W T hJ1 hUb hby hft i1 hHA hBb hnd hbg huU F b hf hF) cl_L hR.obj m_L_copySections ml_L_355 rfl rfl (by decide) (by decide) (Nat.le_of_ble_eq_true rfl) d_L_makeImage_28 ?_
      rintro v h2 ⟨rfl, f2, b2, hf2, hF2, hR2, hFr2⟩
      have hR2 : cR o (c.1, va_up (va_up c.2.1 10 f) 10 f2, c.2.2) h2 := hR2
      rw [bx_uu] at hR2
      refine aw_iinc (v := nI (u + 1)) d_L_makeImage_31 rfl (ax_inc u) (by decide) (by dsimp only [List.set]) ?_
      refine aw_goto (tgt := 13) d_L_makeImage_34 (by decide) ?_
      exact ih (u + 1) f2 b2 h2 (by omega) hf2 hF2 hR2 (hFr.tr hFr2)
theorem putB_rel {f b : Nat → Int32} {n : Nat} (a : Nat) (v : Int64) (h : ∀ i, i < n → f i = b i) : ∀ k i, i < n → mPutB f a v k i = mPoke v a b k i := fun k i hi => by
  rw [mPoke_b]
  exact mPutB_eq a v h k i hi
set_option maxRecDepth 20000 in
theorem l_L_make2 {G : ax_G} {x : ax_X} {h0 : ax_H} {P : Option Value → ax_H → Prop} {o : Nat} {c : cSt} (s : mSt) (e : Nat → Nat → Nat) (U S W T : Nat) (hJ : cJ c s e U S W T) {B n : Nat} (hWb : W ≤ 4096) (hSb : S ≤ 2048) (hUb : U ≤ 32) (i2 : mI2 s e U S) (i3 : mI3 s e S) (i4 : mI4 s e U S W) (hB : cBk s e S c.2.2.2.2 (s.2.1 3) c.2.2.2.1 S) (hnd : ∀ q, q < 4 * U → c.2.1 27 q = s.2.1 4 q) (hbg : ∀ q, q < 4 * U → ¬ s.2.1 4 q = 0 → c.2.1 28 q = 4194304 + s.2.1 7 q) (hcl : ∀ w, w < W → ¬ s.2.1 4 (mSrc e w) = 0 → mTq (s.2.1 3) (mT s e S) e w < 128 → ¬ s.2.1 4 (mTq (s.2.1 3) (mT s e S) e w) = 0) (i1 : mI1 s e U B) (hHA : mHA s e U) (hpl : ∀ w, w < W → s.2.1 19 w = nI (e 19 w) ∧ s.2.1 20 w = nI (e 20 w) ∧ e 19 w + e 20 w ≤ e 5 (mSrc e w)) (F : Nat → Int32) (hq : ax_H) (hk : ∀ f h2 o1 o2, (∀ i, i < n → f i = F i) → cR o (c.1, va_up c.2.1 10 f, c.2.2) h2 → cFr o (c.2.2.2.2.2 5) hq h2 → AW G x Y_L_makeImage 4 115 h0 P h2 103 [some (.ref o), some (.int o1), o2, none] []) : ∀ r w f b h o2, w + r = W → (∀ i, i < n → f i = b i) → mPkL s e S r w b = F → cR o (c.1, va_up c.2.1 10 f, c.2.2) h → cFr o (c.2.2.2.2.2 5) hq h → AW G x Y_L_makeImage 4 115 h0 P h 39 [some (.ref o), some (.int (nI w)), o2, none] [] := by
  intro r
  induction r with
  | zero =>
    intro w f b h o2 hw hf hF hR hFr
    have hF : b = F := hF
    subst hF
    have hJ1 := hJ.i10 f
    refine aw_iload_n d_L_makeImage_39 rfl rfl ?_
    refine aw_aloadV_n d_L_makeImage_40 rfl rfl (by first | exact Or.inl ⟨_, rfl⟩ | exact Or.inr rfl | exact rv_Q _) ?_
    refine aw_getE cl_L fl_L_72 (by decide) hR.obj rfl (congrArg Value.int hJ1.sW) d_L_makeImage_41 ?_
    refine aw_icmp_ge (tgt := 103) d_L_makeImage_44 (by decide) (fun c44 => ?_) (fun c44 => ?_)
    · exact hk f h _ _ hf hR hFr
    · exact absurd (nI_le (show W ≤ w by omega) (by omega)) c44
  | succ r ih =>
    intro w f b h o2 hw hf hF hR hFr
    have hwW : w < W := by omega
    have hJ1 := hJ.i10 f
    have l4 := i4 w hwW
    have hsrc : mSrc e w < 4 * U := by have := l4.1.2; have := l4.2.1.2; show 4 * e 17 w + e 18 w < _; omega
    have hhv : Value.ref (cQ c.2.2.2.2 (c.2.2.2.2.1 6 w)) = .ref (cQ c.2.2.2.2 (mSrc e w)) := by rw [hJ.home hwW]
    obtain ⟨p1, p2, p3⟩ := hpl w hwW
    have p8 : e 20 w ≤ 65536 := by have := (i1 _ hsrc).1.2; omega
    rw [mPkL] at hF
    refine aw_iload_n d_L_makeImage_39 rfl rfl ?_
    refine aw_aloadV_n d_L_makeImage_40 rfl rfl (by first | exact Or.inl ⟨_, rfl⟩ | exact Or.inr rfl | exact rv_Q _) ?_
    refine aw_getE cl_L fl_L_72 (by decide) hR.obj rfl (congrArg Value.int hJ1.sW) d_L_makeImage_41 ?_
    refine aw_icmp_ge (tgt := 103) d_L_makeImage_44 (by decide) (fun c44 => ?_) (fun c44 => ?_)
    · exact absurd c44 (nI_ge (by omega) (by omega))
    · refine aw_aloadV_n d_L_makeImage_47 rfl rfl (by first | exact Or.inl ⟨_, rfl⟩ | exact Or.inr rfl | exact rv_Q _) ?_
      refine aw_get cl_L fl_L_29 (by decide) hR.obj rfl d_L_makeImage_48 ?_
      refine aw_iload_n d_L_makeImage_51 rfl rfl ?_
      refine aC_l4 hR rfl (show w < 4096 by omega) (hJ1.rW hwW) d_L_makeImage_52 ?_
      refine aw_astoreV_n d_L_makeImage_53 rfl (by decide) (by first | exact Or.inl ⟨_, rfl⟩ | exact Or.inr rfl | exact rv_Q _) (by dsimp only [List.set]) ?_
      refine aw_aloadV_n d_L_makeImage_54 rfl rfl (by first | exact Or.inl ⟨_, rfl⟩ | exact Or.inr rfl | exact rv_Q _) ?_
      refine aw_getE cl_Wait fl_L_318 (by decide) (hR.wait (hJ.hw hwW)) rfl hhv d_L_makeImage_55 ?_
      refine aw_getE cl_Section fl_L_237 (by decide) (hR.sec (hJ.hq hsrc)) rfl (congrArg Value.int (hnd _ hsrc)) d_L_makeImage_58 ?_
      refine aw_if_eq (tgt := 97) d_L_makeImage_61 (by decide) (fun c61 => ?_) (fun c61 => ?_)
      · refine aw_iinc (v := nI (w + 1)) d_L_makeImage_97 rfl (ax_inc w) (by decide) (by dsimp only [List.set]) ?_
        refine aw_goto (tgt := 39) d_L_makeImage_100 (by decide) ?_
        have c61 : s.2.1 4 (mSrc e w) = 0 := c61
        rw [if_pos c61] at hF
        exact ih (w + 1) f b h _ (by omega) hf hF hR hFr
      · have c61 : ¬ s.2.1 4 (mSrc e w) = 0 := c61
        obtain ⟨d1, d2⟩ := hHA _ hsrc c61
        have hb1 := hbg _ hsrc c61
        rw [if_neg c61] at hF
        refine aw_aloadV_n d_L_makeImage_64 rfl rfl (by first | exact Or.inl ⟨_, rfl⟩ | exact Or.inr rfl | exact rv_Q _) ?_
        refine aw_get cl_L fl_L_54 (by decide) hR.obj rfl d_L_makeImage_65 ?_
        refine aw_get cl_Image fl_L_243 (by decide) hR.img rfl d_L_makeImage_68 ?_
        refine aw_aloadV_n d_L_makeImage_71 rfl rfl (by first | exact Or.inl ⟨_, rfl⟩ | exact Or.inr rfl | exact rv_Q _) ?_
        refine aw_getE cl_Wait fl_L_318 (by decide) (hR.wait (hJ.hw hwW)) rfl hhv d_L_makeImage_72 ?_
        refine aw_getE cl_Section fl_L_335 (by decide) (hR.sec (hJ.hq hsrc)) rfl (congrArg Value.int hb1) d_L_makeImage_75 ?_
        refine aw_ldc kc_L_81 d_L_makeImage_78 ?_
        refine aw_isub d_L_makeImage_80 ?_
        rw [show 4194304 + s.2.1 7 (mSrc e w) - 4194304 = s.2.1 7 (mSrc e w) by rw [Int32.add_comm, Int32.add_sub_cancel]]
        refine aw_aloadV_n d_L_makeImage_81 rfl rfl (by first | exact Or.inl ⟨_, rfl⟩ | exact Or.inr rfl | exact rv_Q _) ?_
        refine aw_getE cl_Wait fl_L_359 (by decide) (hR.wait (hJ.hw hwW)) rfl (congrArg Value.int (hJ1.wplc hwW)) d_L_makeImage_82 ?_
        refine aw_iadd d_L_makeImage_85 ?_
        refine aw_aloadV_n d_L_makeImage_86 rfl rfl (by first | exact Or.inl ⟨_, rfl⟩ | exact Or.inr rfl | exact rv_Q _) ?_
        refine aw_callV (c_Wait_value G _ o _ hR s e U S W T hJ1 hSb hUb i2 i3 i4 hB hnd hbg hcl hwW c61) cl_Wait (hR.wait (hJ.hw hwW)) m_Wait_value ml_L_362 rfl rfl (by decide) (by decide) (Nat.le_of_ble_eq_true rfl) d_L_makeImage_87 ?_
        rintro v h ⟨rfl, rfl⟩
        refine aw_aloadV_n d_L_makeImage_90 rfl rfl (by first | exact Or.inl ⟨_, rfl⟩ | exact Or.inr rfl | exact rv_Q _) ?_
        refine aw_getE cl_Wait fl_L_366 (by decide) (hR.wait (hJ.hw hwW)) rfl (congrArg Value.int (hJ1.wsiz hwW)) d_L_makeImage_91 ?_
        refine aw_callS (c_L_store G _ hR.a10 (f := f) (a := iN (s.2.1 7 (mSrc e w)) + e 19 w) (N := e 20 w) (mVal s e S w) p8 (by omega) (s.2.1 7 (mSrc e w) + s.2.1 19 w) (s.2.1 20 w) (by rw [d1, p1, nI_add, show iN (nI (iN (s.2.1 7 (mSrc e w)))) = iN (s.2.1 7 (mSrc e w)) from nI_clamp (by omega)]) p2) m_L_storeLowestFirst ml_L_118 rfl rfl (by decide) (by decide) (Nat.le_of_ble_eq_true rfl) d_L_makeImage_94 ?_
        rintro v h' ⟨rfl, rfl⟩
        obtain ⟨hR94, hF94⟩ := hR.w10 (mPutB f (iN (s.2.1 7 (mSrc e w)) + e 19 w) (mVal s e S w) (e 20 w))
        have hR94 : cR o (c.1, va_up (va_up c.2.1 10 f) 10 (mPutB f (iN (s.2.1 7 (mSrc e w)) + e 19 w) (mVal s e S w) (e 20 w)), c.2.2) _ := hR94
        rw [bx_uu] at hR94
        refine aw_iinc (v := nI (w + 1)) d_L_makeImage_97 rfl (ax_inc w) (by decide) (by dsimp only [List.set]) ?_
        refine aw_goto (tgt := 39) d_L_makeImage_100 (by decide) ?_
        exact ih (w + 1) _ _ _ _ (by omega) (putB_rel _ _ hf _) hF hR94 (hFr.tr hF94)
