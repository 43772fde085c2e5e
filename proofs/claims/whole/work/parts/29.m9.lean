/-- a truth as an int -/
noncomputable def zP (p : Prop) : Int32 := @ite _ p (Classical.propDecidable p) 1 0
theorem zP_1 {p : Prop} (h : p) : zP p = 1 := by rw [zP, if_pos h]
theorem zP_0 {p : Prop} (h : ¬ p) : zP p = 0 := by rw [zP, if_neg h]
theorem zP_i {p q : Prop} (h : p ↔ q) : zP p = zP q := by rw [propext h]
theorem zP_t {p : Prop} (h : ¬ zP p = 0) : p := Classical.byContradiction (fun q => h (zP_0 q))
theorem zP_f {p : Prop} (h : zP p = 0) : ¬ p := fun q => by rw [zP_1 q] at h; exact absurd h (by decide)
theorem zP_n (p : Prop) : narrow .boolean (.int (zP p)) = .int (zP p) := by
  by_cases h : p
  · rw [zP_1 h]; rfl
  · rw [zP_0 h]; rfl
theorem zP_a (p : Prop) : zP p &&& 1 = zP p := by
  by_cases h : p
  · rw [zP_1 h]; rfl
  · rw [zP_0 h]; rfl
set_option maxRecDepth 20000 in
theorem c_M_standsFor (G : ax_G) (h : ax_H) (m : Nat) (s : mSt) (hR : mR m s h) (e : Nat → Nat → Nat) (U S : Nat) (hUb : U ≤ 32) (hS : s.1 2 = nI S) (hSb : S ≤ 2048) (hI : mI2 s e U S) (k : Nat) (hk : k < S) : AM G Y_M_standsFor 2 46 [.ref m, .int (nI k)] h (fun v h2 => h2 = h ∧ v = some (.int (mStands (s.2.1 3) (mT s e S) k))) := by
  refine aw_enter (by decide) (Nat.le_of_ble_eq_true rfl) (n := 1) (ls := [some (.ref m), some (.int (nI k)), none]) rfl (fun x => ?_)
  first | refine aw_aload_n d_M_standsFor_0 rfl rfl ?_ | refine aw_aload_nQ d_M_standsFor_0 rfl rfl ?_ | refine aw_aload_nN d_M_standsFor_0 rfl rfl ?_
  refine aM_get (by assumption) fl_M_50 (by decide) rfl d_M_standsFor_1 ?_
  refine aw_iload_n d_M_standsFor_4 rfl rfl ?_
  refine aM_iald (by assumption) (by decide) rfl rfl (show k < 2048 by omega) (by decide) d_M_standsFor_5 ?_
  refine aw_if_lt (tgt := 21) d_M_standsFor_6 (by decide) (fun c6 => ?_) (fun c6 => ?_)
  · first | refine aw_aload_n d_M_standsFor_21 rfl rfl ?_ | refine aw_aload_nQ d_M_standsFor_21 rfl rfl ?_ | refine aw_aload_nN d_M_standsFor_21 rfl rfl ?_
    first | refine aw_aload_n d_M_standsFor_22 rfl rfl ?_ | refine aw_aload_nQ d_M_standsFor_22 rfl rfl ?_ | refine aw_aload_nN d_M_standsFor_22 rfl rfl ?_
    refine aM_get (by assumption) fl_M_37 (by decide) rfl d_M_standsFor_23 ?_
    refine aw_iload_n d_M_standsFor_26 rfl rfl ?_
    refine aM_lald (by assumption) (by decide) rfl rfl (show k < 2048 by omega) (by decide) d_M_standsFor_27 ?_
    first | refine aw_aload_n d_M_standsFor_28 rfl rfl ?_ | refine aw_aload_nQ d_M_standsFor_28 rfl rfl ?_ | refine aw_aload_nN d_M_standsFor_28 rfl rfl ?_
    refine aM_get (by assumption) fl_M_41 (by decide) rfl d_M_standsFor_29 ?_
    refine aw_iload_n d_M_standsFor_32 rfl rfl ?_
    refine aM_iald (by assumption) (by decide) rfl rfl (show k < 2048 by omega) (by decide) d_M_standsFor_33 ?_
    refine aw_callV (c_M_meant G _ m s (by assumption) e U S hUb hS hSb hI _ _) cl_M (mR.obj (by assumption)) m_M_meant ml_M_171 rfl rfl (by decide) (by decide) (Nat.le_of_ble_eq_true rfl) d_M_standsFor_34 ?_
    rintro v h' ⟨rfl, rfl⟩
    refine aw_istore_n d_M_standsFor_37 rfl (by decide) rfl ?_
    refine aw_iload_n d_M_standsFor_38 rfl rfl ?_
    refine aw_if_lt (tgt := 46) d_M_standsFor_39 (by decide) (fun c39 => ?_) (fun c39 => ?_)
    · first | refine aw_aload_n d_M_standsFor_46 rfl rfl ?_ | refine aw_aload_nQ d_M_standsFor_46 rfl rfl ?_ | refine aw_aload_nN d_M_standsFor_46 rfl rfl ?_
      refine aM_get (by assumption) fl_M_47 (by decide) rfl d_M_standsFor_47 ?_
      refine aw_iload_n d_M_standsFor_50 rfl rfl ?_
      refine aM_iald (by assumption) (by decide) rfl rfl (show k < 2048 by omega) (by decide) d_M_standsFor_51 ?_
      refine aw_iconst (v := 1) d_M_standsFor_52 (by decide) ?_
      refine aw_icmp_le (tgt := 61) d_M_standsFor_53 (by decide) (fun c53 => ?_) (fun c53 => ?_)
      · refine aw_iconst (v := (-1)) d_M_standsFor_61 (by decide) ?_
        refine aw_iret ?_ rfl d_M_standsFor_62
        refine ⟨rfl, ?_⟩
        rw [mStands, if_neg (fun q => absurd q.1 (Int32.not_le.mpr c6)), if_neg (Int32.not_le.mpr c39), if_neg (Int32.not_lt.mpr c53)]
      · refine aw_bipush (v := (-2)) d_M_standsFor_56 (by decide) ?_
        refine aw_goto (tgt := 62) d_M_standsFor_58 (by decide) ?_
        refine aw_iret ?_ rfl d_M_standsFor_62
        refine ⟨rfl, ?_⟩
        rw [mStands, if_neg (fun q => absurd q.1 (Int32.not_le.mpr c6)), if_neg (Int32.not_le.mpr c39), if_pos (Int32.not_le.mp c53)]
    · refine aw_iload_n d_M_standsFor_42 rfl rfl ?_
      refine aw_goto (tgt := 62) d_M_standsFor_43 (by decide) ?_
      refine aw_iret ?_ rfl d_M_standsFor_62
      refine ⟨rfl, ?_⟩
      rw [mStands, if_neg (fun q => absurd q.1 (Int32.not_le.mpr c6)), if_pos (Int32.not_lt.mp c39)]
  · first | refine aw_aload_n d_M_standsFor_9 rfl rfl ?_ | refine aw_aload_nQ d_M_standsFor_9 rfl rfl ?_ | refine aw_aload_nN d_M_standsFor_9 rfl rfl ?_
    refine aM_get (by assumption) fl_M_47 (by decide) rfl d_M_standsFor_10 ?_
    refine aw_iload_n d_M_standsFor_13 rfl rfl ?_
    refine aM_iald (by assumption) (by decide) rfl rfl (show k < 2048 by omega) (by decide) d_M_standsFor_14 ?_
    refine aw_iconst (v := 2) d_M_standsFor_15 (by decide) ?_
    refine aw_icmp_ge (tgt := 21) d_M_standsFor_16 (by decide) (fun c16 => ?_) (fun c16 => ?_)
    · first | refine aw_aload_n d_M_standsFor_21 rfl rfl ?_ | refine aw_aload_nQ d_M_standsFor_21 rfl rfl ?_ | refine aw_aload_nN d_M_standsFor_21 rfl rfl ?_
      first | refine aw_aload_n d_M_standsFor_22 rfl rfl ?_ | refine aw_aload_nQ d_M_standsFor_22 rfl rfl ?_ | refine aw_aload_nN d_M_standsFor_22 rfl rfl ?_
      refine aM_get (by assumption) fl_M_37 (by decide) rfl d_M_standsFor_23 ?_
      refine aw_iload_n d_M_standsFor_26 rfl rfl ?_
      refine aM_lald (by assumption) (by decide) rfl rfl (show k < 2048 by omega) (by decide) d_M_standsFor_27 ?_
      first | refine aw_aload_n d_M_standsFor_28 rfl rfl ?_ | refine aw_aload_nQ d_M_standsFor_28 rfl rfl ?_ | refine aw_aload_nN d_M_standsFor_28 rfl rfl ?_
      refine aM_get (by assumption) fl_M_41 (by decide) rfl d_M_standsFor_29 ?_
      refine aw_iload_n d_M_standsFor_32 rfl rfl ?_
      refine aM_iald (by assumption) (by decide) rfl rfl (show k < 2048 by omega) (by decide) d_M_standsFor_33 ?_
      refine aw_callV (c_M_meant G _ m s (by assumption) e U S hUb hS hSb hI _ _) cl_M (mR.obj (by assumption)) m_M_meant ml_M_171 rfl rfl (by decide) (by decide) (Nat.le_of_ble_eq_true rfl) d_M_standsFor_34 ?_
      rintro v h' ⟨rfl, rfl⟩
      refine aw_istore_n d_M_standsFor_37 rfl (by decide) rfl ?_
      refine aw_iload_n d_M_standsFor_38 rfl rfl ?_
      refine aw_if_lt (tgt := 46) d_M_standsFor_39 (by decide) (fun c39 => ?_) (fun c39 => ?_)
      · first | refine aw_aload_n d_M_standsFor_46 rfl rfl ?_ | refine aw_aload_nQ d_M_standsFor_46 rfl rfl ?_ | refine aw_aload_nN d_M_standsFor_46 rfl rfl ?_
        refine aM_get (by assumption) fl_M_47 (by decide) rfl d_M_standsFor_47 ?_
        refine aw_iload_n d_M_standsFor_50 rfl rfl ?_
        refine aM_iald (by assumption) (by decide) rfl rfl (show k < 2048 by omega) (by decide) d_M_standsFor_51 ?_
        refine aw_iconst (v := 1) d_M_standsFor_52 (by decide) ?_
        refine aw_icmp_le (tgt := 61) d_M_standsFor_53 (by decide) (fun c53 => ?_) (fun c53 => ?_)
        · refine aw_iconst (v := (-1)) d_M_standsFor_61 (by decide) ?_
          refine aw_iret ?_ rfl d_M_standsFor_62
          refine ⟨rfl, ?_⟩
          rw [mStands, if_neg (fun q => absurd q.2 (Int32.not_lt.mpr c16)), if_neg (Int32.not_le.mpr c39), if_neg (Int32.not_lt.mpr c53)]
        · refine aw_bipush (v := (-2)) d_M_standsFor_56 (by decide) ?_
          refine aw_goto (tgt := 62) d_M_standsFor_58 (by decide) ?_
          refine aw_iret ?_ rfl d_M_standsFor_62
          refine ⟨rfl, ?_⟩
          rw [mStands, if_neg (fun q => absurd q.2 (Int32.not_lt.mpr c16)), if_neg (Int32.not_le.mpr c39), if_pos (Int32.not_le.mp c53)]
      · refine aw_iload_n d_M_standsFor_42 rfl rfl ?_
        refine aw_goto (tgt := 62) d_M_standsFor_43 (by decide) ?_
        refine aw_iret ?_ rfl d_M_standsFor_62
        refine ⟨rfl, ?_⟩
        rw [mStands, if_neg (fun q => absurd q.2 (Int32.not_lt.mpr c16)), if_pos (Int32.not_lt.mp c39)]
    · refine aw_iload_n d_M_standsFor_19 rfl rfl ?_
      refine aw_iret ?_ rfl d_M_standsFor_20
      refine ⟨rfl, ?_⟩
      rw [mStands, if_pos ⟨Int32.not_lt.mp c6, Int32.not_le.mp c16⟩]
def mFail (s : mSt) (k u l : Int32) : mSt := if s.1 33 = 0 then (va_up (va_up (va_up s.1 33 k) 35 u) 34 l, s.2) else s
set_option maxRecDepth 20000 in
theorem c_M_fail (G : ax_G) (h : ax_H) (m : Nat) (s : mSt) (hR : mR m s h) (k u l : Int32) : AM G Y_M_fail 0 0 [.ref m, .int k, .int u, .int l] h (fun v h2 => v = none ∧ mR m (mFail s k u l) h2 ∧ mFr m h h2) := by
  refine aw_enter (by decide) (Nat.le_of_ble_eq_true rfl) (n := 0) (ls := [some (.ref m), some (.int k), some (.int u), some (.int l)]) rfl (fun x => ?_)
  first | refine aw_aload_n d_M_fail_0 rfl rfl ?_ | refine aw_aload_nQ d_M_fail_0 rfl rfl ?_ | refine aw_aload_nN d_M_fail_0 rfl rfl ?_
  refine aM_get (by assumption) fl_M_178 (by decide) rfl d_M_fail_1 ?_
  refine aw_if_eq (tgt := 8) d_M_fail_4 (by decide) (fun c4 => ?_) (fun c4 => ?_)
  · first | refine aw_aload_n d_M_fail_8 rfl rfl ?_ | refine aw_aload_nQ d_M_fail_8 rfl rfl ?_ | refine aw_aload_nN d_M_fail_8 rfl rfl ?_
    refine aw_iload_n d_M_fail_9 rfl rfl ?_
    refine aM_put (by assumption) fl_M_178 (by decide) rfl rfl rfl rfl d_M_fail_10 (fun g10 hR10 hF10 => ?_)
    first | refine aw_aload_n d_M_fail_13 rfl rfl ?_ | refine aw_aload_nQ d_M_fail_13 rfl rfl ?_ | refine aw_aload_nN d_M_fail_13 rfl rfl ?_
    refine aw_iload_n d_M_fail_14 rfl rfl ?_
    refine aM_put (by assumption) fl_M_95 (by decide) rfl rfl rfl rfl d_M_fail_15 (fun g15 hR15 hF15 => ?_)
    first | refine aw_aload_n d_M_fail_18 rfl rfl ?_ | refine aw_aload_nQ d_M_fail_18 rfl rfl ?_ | refine aw_aload_nN d_M_fail_18 rfl rfl ?_
    refine aw_iload_n d_M_fail_19 rfl rfl ?_
    refine aM_put (by assumption) fl_M_181 (by decide) rfl rfl rfl rfl d_M_fail_20 (fun g20 hR20 hF20 => ?_)
    refine aw_vret ?_ rfl d_M_fail_23
    rw [mFail, if_pos c4]
    exact ⟨rfl, hR20, (hF10.tr hF15).tr hF20⟩
  · refine aw_vret ?_ rfl d_M_fail_7
    rw [mFail, if_neg c4]
    exact ⟨rfl, hR, mFr.rf m h⟩
/-- symbol j, of a unit that is taken, is missing, not as weak -/
abbrev mMiss (tk : Nat → Int32) (g : mTab) (j : Nat) : Prop := ¬ tk (g.2.2.2.2.1 j) = 0 ∧ g.2.1 j < 0 ∧ g.1 j < 2
/-- symbol j misses the name of symbol k -/
abbrev mSame (tk : Nat → Int32) (g : mTab) (k j : Nat) : Prop := mMiss tk g j ∧ g.2.2.1 j = g.2.2.1 k ∧ g.2.2.2.1 j = g.2.2.2.1 k
def mHelpK (tk : Nat → Int32) (g : mTab) (k : Nat) : Prop := ((mGlob g k ∨ mWeak g k) ∧ mMeant tk g (g.2.2.2.1 k) (g.2.2.1 k) < 0) ∧ ∃ j, j < g.2.2.2.2.2 ∧ mSame tk g k j
def mHelpsL (tk : Nat → Int32) (g : mTab) (u : Nat) : Nat → Nat → Prop
  | 0, _ => False
  | r + 1, k => g.2.2.2.2.1 k = u ∧ (mHelpK tk g k ∨ mHelpsL tk g u r (k + 1))
set_option maxRecDepth 20000 in
theorem l_M_helps1 {G : ax_G} {x : ax_X} {h0 : ax_H} {P : Option Value → ax_H → Prop} {m : Nat} (s : mSt) (e : Nat → Nat → Nat) (U S : Nat) (hUb : U ≤ 32) (hS : s.1 2 = nI S) (hSb : S ≤ 2048) (hI : mI2 s e U S) (h : ax_H) (hR : mR m s h) (u k : Nat) (hk : k < S) : ∀ r j (Q : Prop), j + r = S → (∀ o4, AW G x Y_M_helps 2 46 h0 P h 162 [some (.ref m), some (.int (nI u)), some (.int (zP (Q ∨ ∃ i, j ≤ i ∧ i < S ∧ mSame (s.2.1 3) (mT s e S) k i))), some (.int (nI k)), o4] []) → AW G x Y_M_helps 2 46 h0 P h 68 [some (.ref m), some (.int (nI u)), some (.int (zP Q)), some (.int (nI k)), some (.int (nI j))] [] := by
  intro r
  induction r with
  | zero =>
    intro j Q hj hc
    have hjj : j = S := by omega
    subst hjj
    have eq : zP (Q ∨ ∃ i, j ≤ i ∧ i < j ∧ mSame (s.2.1 3) (mT s e j) k i) = zP Q := zP_i ⟨fun q => q.elim id (fun ⟨i, a, b, _⟩ => absurd a (by omega)), Or.inl⟩
    rw [eq] at hc
    refine aw_iload d_M_helps_68 rfl ?_
    first | refine aw_aload_n d_M_helps_70 rfl rfl ?_ | refine aw_aload_nQ d_M_helps_70 rfl rfl ?_ | refine aw_aload_nN d_M_helps_70 rfl rfl ?_
    refine aM_get (by assumption) fl_M_129 (by decide) rfl d_M_helps_71 ?_
    refine aw_icmp_ge (tgt := 162) d_M_helps_74 (by decide) (fun c74 => ?_) (fun c74 => ?_)
    · exact hc _
    · exact absurd (show s.1 2 ≤ nI j by rw [hS]; exact nI_le (Nat.le_refl _) (by omega)) c74
  | succ r ih =>
    intro j Q hj hc
    obtain ⟨u1, u2⟩ := hI j (by omega)
    have step : ∀ T : Prop, (T ↔ (Q ∨ mSame (s.2.1 3) (mT s e S) k j)) → ((T ∨ ∃ i, j + 1 ≤ i ∧ i < S ∧ mSame (s.2.1 3) (mT s e S) k i) ↔ (Q ∨ ∃ i, j ≤ i ∧ i < S ∧ mSame (s.2.1 3) (mT s e S) k i)) := by
      intro T hT
      constructor
      · rintro (q | ⟨i, a, b, d⟩)
        · exact (hT.mp q).elim Or.inl (fun d => Or.inr ⟨j, Nat.le_refl _, by omega, d⟩)
        · exact Or.inr ⟨i, by omega, b, d⟩
      · rintro (q | ⟨i, a, b, d⟩)
        · exact Or.inl (hT.mpr (Or.inl q))
        · by_cases e0 : i = j
          · subst e0; exact Or.inl (hT.mpr (Or.inr d))
          · exact Or.inr ⟨i, by omega, b, d⟩
    refine aw_iload d_M_helps_68 rfl ?_
    first | refine aw_aload_n d_M_helps_70 rfl rfl ?_ | refine aw_aload_nQ d_M_helps_70 rfl rfl ?_ | refine aw_aload_nN d_M_helps_70 rfl rfl ?_
    refine aM_get (by assumption) fl_M_129 (by decide) rfl d_M_helps_71 ?_
    refine aw_icmp_ge (tgt := 162) d_M_helps_74 (by decide) (fun c74 => ?_) (fun c74 => ?_)
    · exact absurd c74 (by rw [show s.1 2 = nI S from hS]; exact nI_ge (by omega) (by omega))
    · refine aw_iload_n d_M_helps_77 rfl rfl ?_
      refine aw_if_ne (tgt := 150) d_M_helps_78 (by decide) (fun c78 => ?_) (fun c78 => ?_)
      · refine aw_iconst (v := 1) d_M_helps_150 (by decide) ?_
        refine aw_goto (tgt := 155) d_M_helps_151 (by decide) ?_
        refine aw_istore_n d_M_helps_155 rfl (by decide) rfl ?_
        refine aw_iinc (v := nI (j + 1)) d_M_helps_156 rfl (ax_inc j) (by decide) rfl ?_
        refine aw_goto (tgt := 68) d_M_helps_159 (by decide) ?_
        have eT : ∀ T : Prop, (T ↔ (Q ∨ mSame (s.2.1 3) (mT s e S) k j)) → zP T = 1 := fun T hT => zP_1 (hT.mpr (Or.inl (zP_t c78)))
        refine aw_ls (ls' := [some (.ref m), some (.int (nI u)), some (.int (zP (Q ∨ mSame (s.2.1 3) (mT s e S) k j))), some (.int (nI k)), some (.int (nI (j + 1)))]) (by rw [eT _ Iff.rfl]; rfl) ?_
        refine ih (j + 1) _ (by omega) (fun o4 => ?_)
        have hc := hc o4
        rw [← zP_i (step _ Iff.rfl)] at hc
        exact hc
      · first | refine aw_aload_n d_M_helps_81 rfl rfl ?_ | refine aw_aload_nQ d_M_helps_81 rfl rfl ?_ | refine aw_aload_nN d_M_helps_81 rfl rfl ?_
        refine aM_get (by assumption) fl_M_16 (by decide) rfl d_M_helps_82 ?_
        first | refine aw_aload_n d_M_helps_85 rfl rfl ?_ | refine aw_aload_nQ d_M_helps_85 rfl rfl ?_ | refine aw_aload_nN d_M_helps_85 rfl rfl ?_
        refine aM_get (by assumption) fl_M_44 (by decide) rfl d_M_helps_86 ?_
        refine aw_iload d_M_helps_89 rfl ?_
        refine aM_iald (by assumption) (by decide) rfl rfl (show j < 2048 by omega) (by decide) d_M_helps_91 ?_
        refine aM_zald (by assumption) (by decide) rfl u1 (show e 11 j < 32 by omega) (by decide) d_M_helps_92 ?_
        refine aw_if_eq (tgt := 154) d_M_helps_93 (by decide) (fun c93 => ?_) (fun c93 => ?_)
        · refine aw_iconst (v := 0) d_M_helps_154 (by decide) ?_
          refine aw_istore_n d_M_helps_155 rfl (by decide) rfl ?_
          refine aw_iinc (v := nI (j + 1)) d_M_helps_156 rfl (ax_inc j) (by decide) rfl ?_
          refine aw_goto (tgt := 68) d_M_helps_159 (by decide) ?_
          have eT : ∀ T : Prop, (T ↔ (Q ∨ mSame (s.2.1 3) (mT s e S) k j)) → zP T = 0 := fun T hT => zP_0 (fun q => (hT.mp q).elim (zP_f c78) (fun d => d.1.1 c93))
          refine aw_ls (ls' := [some (.ref m), some (.int (nI u)), some (.int (zP (Q ∨ mSame (s.2.1 3) (mT s e S) k j))), some (.int (nI k)), some (.int (nI (j + 1)))]) (by rw [eT _ Iff.rfl]; rfl) ?_
          refine ih (j + 1) _ (by omega) (fun o4 => ?_)
          have hc := hc o4
          rw [← zP_i (step _ Iff.rfl)] at hc
          exact hc
        · first | refine aw_aload_n d_M_helps_96 rfl rfl ?_ | refine aw_aload_nQ d_M_helps_96 rfl rfl ?_ | refine aw_aload_nN d_M_helps_96 rfl rfl ?_
          refine aM_get (by assumption) fl_M_50 (by decide) rfl d_M_helps_97 ?_
          refine aw_iload d_M_helps_100 rfl ?_
          refine aM_iald (by assumption) (by decide) rfl rfl (show j < 2048 by omega) (by decide) d_M_helps_102 ?_
          refine aw_if_ge (tgt := 154) d_M_helps_103 (by decide) (fun c103 => ?_) (fun c103 => ?_)
          · refine aw_iconst (v := 0) d_M_helps_154 (by decide) ?_
            refine aw_istore_n d_M_helps_155 rfl (by decide) rfl ?_
            refine aw_iinc (v := nI (j + 1)) d_M_helps_156 rfl (ax_inc j) (by decide) rfl ?_
            refine aw_goto (tgt := 68) d_M_helps_159 (by decide) ?_
            have eT : ∀ T : Prop, (T ↔ (Q ∨ mSame (s.2.1 3) (mT s e S) k j)) → zP T = 0 := fun T hT => zP_0 (fun q => (hT.mp q).elim (zP_f c78) (fun d => absurd d.1.2.1 (Int32.not_lt.mpr c103)))
            refine aw_ls (ls' := [some (.ref m), some (.int (nI u)), some (.int (zP (Q ∨ mSame (s.2.1 3) (mT s e S) k j))), some (.int (nI k)), some (.int (nI (j + 1)))]) (by rw [eT _ Iff.rfl]; rfl) ?_
            refine ih (j + 1) _ (by omega) (fun o4 => ?_)
            have hc := hc o4
            rw [← zP_i (step _ Iff.rfl)] at hc
            exact hc
          · first | refine aw_aload_n d_M_helps_106 rfl rfl ?_ | refine aw_aload_nQ d_M_helps_106 rfl rfl ?_ | refine aw_aload_nN d_M_helps_106 rfl rfl ?_
            refine aM_get (by assumption) fl_M_47 (by decide) rfl d_M_helps_107 ?_
            refine aw_iload d_M_helps_110 rfl ?_
            refine aM_iald (by assumption) (by decide) rfl rfl (show j < 2048 by omega) (by decide) d_M_helps_112 ?_
            refine aw_iconst (v := 2) d_M_helps_113 (by decide) ?_
            refine aw_icmp_ge (tgt := 154) d_M_helps_114 (by decide) (fun c114 => ?_) (fun c114 => ?_)
            · refine aw_iconst (v := 0) d_M_helps_154 (by decide) ?_
              refine aw_istore_n d_M_helps_155 rfl (by decide) rfl ?_
              refine aw_iinc (v := nI (j + 1)) d_M_helps_156 rfl (ax_inc j) (by decide) rfl ?_
              refine aw_goto (tgt := 68) d_M_helps_159 (by decide) ?_
              have eT : ∀ T : Prop, (T ↔ (Q ∨ mSame (s.2.1 3) (mT s e S) k j)) → zP T = 0 := fun T hT => zP_0 (fun q => (hT.mp q).elim (zP_f c78) (fun d => absurd d.1.2.2 (Int32.not_lt.mpr c114)))
              refine aw_ls (ls' := [some (.ref m), some (.int (nI u)), some (.int (zP (Q ∨ mSame (s.2.1 3) (mT s e S) k j))), some (.int (nI k)), some (.int (nI (j + 1)))]) (by rw [eT _ Iff.rfl]; rfl) ?_
              refine ih (j + 1) _ (by omega) (fun o4 => ?_)
              have hc := hc o4
              rw [← zP_i (step _ Iff.rfl)] at hc
              exact hc
            · first | refine aw_aload_n d_M_helps_117 rfl rfl ?_ | refine aw_aload_nQ d_M_helps_117 rfl rfl ?_ | refine aw_aload_nN d_M_helps_117 rfl rfl ?_
              refine aM_get (by assumption) fl_M_41 (by decide) rfl d_M_helps_118 ?_
              refine aw_iload d_M_helps_121 rfl ?_
              refine aM_iald (by assumption) (by decide) rfl rfl (show j < 2048 by omega) (by decide) d_M_helps_123 ?_
              first | refine aw_aload_n d_M_helps_124 rfl rfl ?_ | refine aw_aload_nQ d_M_helps_124 rfl rfl ?_ | refine aw_aload_nN d_M_helps_124 rfl rfl ?_
              refine aM_get (by assumption) fl_M_41 (by decide) rfl d_M_helps_125 ?_
              refine aw_iload_n d_M_helps_128 rfl rfl ?_
              refine aM_iald (by assumption) (by decide) rfl rfl (show k < 2048 by omega) (by decide) d_M_helps_129 ?_
              refine aw_icmp_ne (tgt := 154) d_M_helps_130 (by decide) (fun c130 => ?_) (fun c130 => ?_)
              · refine aw_iconst (v := 0) d_M_helps_154 (by decide) ?_
                refine aw_istore_n d_M_helps_155 rfl (by decide) rfl ?_
                refine aw_iinc (v := nI (j + 1)) d_M_helps_156 rfl (ax_inc j) (by decide) rfl ?_
                refine aw_goto (tgt := 68) d_M_helps_159 (by decide) ?_
                have eT : ∀ T : Prop, (T ↔ (Q ∨ mSame (s.2.1 3) (mT s e S) k j)) → zP T = 0 := fun T hT => zP_0 (fun q => (hT.mp q).elim (zP_f c78) (fun d => c130 d.2.1))
                refine aw_ls (ls' := [some (.ref m), some (.int (nI u)), some (.int (zP (Q ∨ mSame (s.2.1 3) (mT s e S) k j))), some (.int (nI k)), some (.int (nI (j + 1)))]) (by rw [eT _ Iff.rfl]; rfl) ?_
                refine ih (j + 1) _ (by omega) (fun o4 => ?_)
                have hc := hc o4
                rw [← zP_i (step _ Iff.rfl)] at hc
                exact hc
              · first | refine aw_aload_n d_M_helps_133 rfl rfl ?_ | refine aw_aload_nQ d_M_helps_133 rfl rfl ?_ | refine aw_aload_nN d_M_helps_133 rfl rfl ?_
                refine aM_get (by assumption) fl_M_37 (by decide) rfl d_M_helps_134 ?_
                refine aw_iload d_M_helps_137 rfl ?_
                refine aM_lald (by assumption) (by decide) rfl rfl (show j < 2048 by omega) (by decide) d_M_helps_139 ?_
                first | refine aw_aload_n d_M_helps_140 rfl rfl ?_ | refine aw_aload_nQ d_M_helps_140 rfl rfl ?_ | refine aw_aload_nN d_M_helps_140 rfl rfl ?_
                refine aM_get (by assumption) fl_M_37 (by decide) rfl d_M_helps_141 ?_
                refine aw_iload_n d_M_helps_144 rfl rfl ?_
                refine aM_lald (by assumption) (by decide) rfl rfl (show k < 2048 by omega) (by decide) d_M_helps_145 ?_
                refine aw_lcmp d_M_helps_146 ?_
                refine aw_if_ne (tgt := 154) d_M_helps_147 (by decide) (fun c147 => ?_) (fun c147 => ?_)
                · refine aw_iconst (v := 0) d_M_helps_154 (by decide) ?_
                  refine aw_istore_n d_M_helps_155 rfl (by decide) rfl ?_
                  refine aw_iinc (v := nI (j + 1)) d_M_helps_156 rfl (ax_inc j) (by decide) rfl ?_
                  refine aw_goto (tgt := 68) d_M_helps_159 (by decide) ?_
                  have eT : ∀ T : Prop, (T ↔ (Q ∨ mSame (s.2.1 3) (mT s e S) k j)) → zP T = 0 := fun T hT => zP_0 (fun q => (hT.mp q).elim (zP_f c78) (fun d => c147 ((lg_cmp_eq _ _).mpr d.2.2)))
                  refine aw_ls (ls' := [some (.ref m), some (.int (nI u)), some (.int (zP (Q ∨ mSame (s.2.1 3) (mT s e S) k j))), some (.int (nI k)), some (.int (nI (j + 1)))]) (by rw [eT _ Iff.rfl]; rfl) ?_
                  refine ih (j + 1) _ (by omega) (fun o4 => ?_)
                  have hc := hc o4
                  rw [← zP_i (step _ Iff.rfl)] at hc
                  exact hc
                · refine aw_iconst (v := 1) d_M_helps_150 (by decide) ?_
                  refine aw_goto (tgt := 155) d_M_helps_151 (by decide) ?_
                  refine aw_istore_n d_M_helps_155 rfl (by decide) rfl ?_
                  refine aw_iinc (v := nI (j + 1)) d_M_helps_156 rfl (ax_inc j) (by decide) rfl ?_
                  refine aw_goto (tgt := 68) d_M_helps_159 (by decide) ?_
                  have eT : ∀ T : Prop, (T ↔ (Q ∨ mSame (s.2.1 3) (mT s e S) k j)) → zP T = 1 := fun T hT => zP_1 (hT.mpr (Or.inr ⟨⟨c93, Int32.not_le.mp c103, Int32.not_le.mp c114⟩, c130, (lg_cmp_eq _ _).mp c147⟩))
                  refine aw_ls (ls' := [some (.ref m), some (.int (nI u)), some (.int (zP (Q ∨ mSame (s.2.1 3) (mT s e S) k j))), some (.int (nI k)), some (.int (nI (j + 1)))]) (by rw [eT _ Iff.rfl]; rfl) ?_
                  refine ih (j + 1) _ (by omega) (fun o4 => ?_)
                  have hc := hc o4
                  rw [← zP_i (step _ Iff.rfl)] at hc
                  exact hc
