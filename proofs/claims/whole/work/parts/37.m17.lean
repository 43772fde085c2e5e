theorem mU4 {A : Type} (f : Nat → A) (i j : Nat) (hij : i ≠ j) (a b a2 b2 : A) : va_up (va_up (va_up (va_up f i a) j b) i a2) j b2 = va_up (va_up f i a2) j b2 := by
  funext u
  by_cases h1 : u = j
  · subst h1
    rw [va_up_self, va_up_self]
  · rw [va_up_ne _ _ h1, va_up_ne _ _ h1]
    by_cases h2 : u = i
    · subst h2
      rw [va_up_self, va_up_self]
    · rw [va_up_ne _ _ h2, va_up_ne _ _ h1, va_up_ne _ _ h2, va_up_ne _ _ h2]
/-- the names kept so far: how many, words, lengths, addresses -/
abbrev mKn : Type := Nat × (Nat → Int64) × (Nat → Int32) × (Nat → Int32)
abbrev mKeep (tk nd : Nat → Int32) (g : mTab) (e : Nat → Nat → Nat) (k : Nat) : Prop := ¬ tk (e 11 k) = 0 ∧ mMeant tk g (g.2.2.2.1 k) (g.2.2.1 k) = nI k ∧ ¬ nd (4 * e 11 k + e 13 k) = 0
def mKnL (tk nd ad pl : Nat → Int32) (g : mTab) (e : Nat → Nat → Nat) : Nat → Nat → mKn → mKn
  | 0, _, K => K
  | r + 1, k, K => mKnL tk nd ad pl g e r (k + 1) (if mKeep tk nd g e k then (K.1 + 1, va_up K.2.1 K.1 (g.2.2.2.1 k), va_up K.2.2.1 K.1 (g.2.2.1 k), va_up K.2.2.2 K.1 (mLab1 ad pl e k)) else K)
abbrev mKs (s : mSt) (K : mKn) : mSt := (va_up s.1 42 (nI K.1), va_up (va_up s.2.1 32 K.2.2.1) 33 K.2.2.2, va_up s.2.2 31 K.2.1)
set_option maxRecDepth 20000 in
theorem l_M_keep1 {G : ax_G} {x : ax_X} {h0 : ax_H} {P : Option Value → ax_H → Prop} {m : Nat} (s : mSt) (e : Nat → Nat → Nat) (U S : Nat) (hUb : U ≤ 32) (hS : s.1 2 = nI S) (hSb : S ≤ 2048) (hI : mI2 s e U S) (hI3 : mI3 s e S) (hq : ax_H) (R : mKn) (hk : ∀ h2 o1, mR m (mKs s R) h2 → mFr m hq h2 → AW G x Y_M_keepNames 2 46 h0 P h2 135 [some (.ref m), o1] []) : ∀ r k (K : mKn) h, k + r = S → K.1 ≤ k → mR m (mKs s K) h → mFr m hq h → mKnL (s.2.1 3) (s.2.1 4) (s.2.1 7) (s.2.1 14) (mT s e S) e r k K = R → AW G x Y_M_keepNames 2 46 h0 P h 7 [some (.ref m), some (.int (nI k))] [] := by
  intro r
  induction r with
  | zero =>
    intro k K h hr hn hR hF he
    have hkk : k = S := by omega
    subst hkk
    have he : K = R := he
    subst he
    refine aw_iload_n d_M_keepNames_7 rfl rfl ?_
    first | refine aw_aload_n d_M_keepNames_8 rfl rfl ?_ | refine aw_aload_nQ d_M_keepNames_8 rfl rfl ?_ | refine aw_aload_nN d_M_keepNames_8 rfl rfl ?_
    refine aM_get (by assumption) fl_M_129 (by decide) rfl d_M_keepNames_9 ?_
    refine aw_icmp_ge (tgt := 135) d_M_keepNames_12 (by decide) (fun c12 => ?_) (fun c12 => ?_)
    · exact hk _ _ hR hF
    · exact absurd (show s.1 2 ≤ nI k by rw [hS]; exact nI_le (Nat.le_refl _) (by omega)) c12
  | succ r ih =>
    intro k K h hr hn hR hF he
    obtain ⟨y1, y2⟩ := hI k (by omega)
    have ks : k < 2048 := by omega
    rw [mKnL] at he
    refine aw_iload_n d_M_keepNames_7 rfl rfl ?_
    first | refine aw_aload_n d_M_keepNames_8 rfl rfl ?_ | refine aw_aload_nQ d_M_keepNames_8 rfl rfl ?_ | refine aw_aload_nN d_M_keepNames_8 rfl rfl ?_
    refine aM_get (by assumption) fl_M_129 (by decide) rfl d_M_keepNames_9 ?_
    refine aw_icmp_ge (tgt := 135) d_M_keepNames_12 (by decide) (fun c12 => ?_) (fun c12 => ?_)
    · exact absurd (show s.1 2 ≤ nI k from c12) (by rw [hS]; exact nI_ge (by omega) (by omega))
    · first | refine aw_aload_n d_M_keepNames_15 rfl rfl ?_ | refine aw_aload_nQ d_M_keepNames_15 rfl rfl ?_ | refine aw_aload_nN d_M_keepNames_15 rfl rfl ?_
      refine aM_get (by assumption) fl_M_16 (by decide) rfl d_M_keepNames_16 ?_
      first | refine aw_aload_n d_M_keepNames_19 rfl rfl ?_ | refine aw_aload_nQ d_M_keepNames_19 rfl rfl ?_ | refine aw_aload_nN d_M_keepNames_19 rfl rfl ?_
      refine aM_get (by assumption) fl_M_44 (by decide) rfl d_M_keepNames_20 ?_
      refine aw_iload_n d_M_keepNames_23 rfl rfl ?_
      refine aM_iald (by assumption) (by decide) rfl rfl (show k < 2048 from ks) (by decide) d_M_keepNames_24 ?_
      refine aM_zald (by assumption) (by decide) rfl y1 (show e 11 k < 32 by omega) (by decide) d_M_keepNames_25 ?_
      refine aw_if_eq (tgt := 129) d_M_keepNames_26 (by decide) (fun c26 => ?_) (fun c26 => ?_)
      · refine aw_iinc (v := nI (k + 1)) d_M_keepNames_129 rfl (ax_inc k) (by decide) rfl ?_
        refine aw_goto (tgt := 7) d_M_keepNames_132 (by decide) ?_
        rw [if_neg (fun q : mKeep (s.2.1 3) (s.2.1 4) (mT s e S) e k => q.1 c26)] at he
        exact ih (k + 1) K _ (by omega) (by omega) hR hF he
      · first | refine aw_aload_n d_M_keepNames_29 rfl rfl ?_ | refine aw_aload_nQ d_M_keepNames_29 rfl rfl ?_ | refine aw_aload_nN d_M_keepNames_29 rfl rfl ?_
        first | refine aw_aload_n d_M_keepNames_30 rfl rfl ?_ | refine aw_aload_nQ d_M_keepNames_30 rfl rfl ?_ | refine aw_aload_nN d_M_keepNames_30 rfl rfl ?_
        refine aM_get (by assumption) fl_M_37 (by decide) rfl d_M_keepNames_31 ?_
        refine aw_iload_n d_M_keepNames_34 rfl rfl ?_
        refine aM_lald (by assumption) (by decide) rfl rfl (show k < 2048 from ks) (by decide) d_M_keepNames_35 ?_
        first | refine aw_aload_n d_M_keepNames_36 rfl rfl ?_ | refine aw_aload_nQ d_M_keepNames_36 rfl rfl ?_ | refine aw_aload_nN d_M_keepNames_36 rfl rfl ?_
        refine aM_get (by assumption) fl_M_41 (by decide) rfl d_M_keepNames_37 ?_
        refine aw_iload_n d_M_keepNames_40 rfl rfl ?_
        refine aM_iald (by assumption) (by decide) rfl rfl (show k < 2048 from ks) (by decide) d_M_keepNames_41 ?_
        refine aw_callV (c_M_meant G _ m _ hR e U S hUb hS hSb hI _ _) cl_M (mR.obj (by assumption)) m_M_meant ml_M_171 rfl rfl (by decide) (by decide) (Nat.le_of_ble_eq_true rfl) d_M_keepNames_42 ?_
        rintro v h' ⟨rfl, rfl⟩
        refine aw_iload_n d_M_keepNames_45 rfl rfl ?_
        refine aw_icmp_ne (tgt := 129) d_M_keepNames_46 (by decide) (fun c46 => ?_) (fun c46 => ?_)
        · refine aw_iinc (v := nI (k + 1)) d_M_keepNames_129 rfl (ax_inc k) (by decide) rfl ?_
          refine aw_goto (tgt := 7) d_M_keepNames_132 (by decide) ?_
          rw [if_neg (fun q : mKeep (s.2.1 3) (s.2.1 4) (mT s e S) e k => c46 q.2.1)] at he
          exact ih (k + 1) K _ (by omega) (by omega) hR hF he
        · have hmn : mMeant (s.2.1 3) (mT s e S) (s.2.2 9 k) (s.2.1 10 k) = nI k := c46
          have hk0 : 0 ≤ s.2.1 13 k := by
            rcases mMeant_lab (s.2.1 3) (mT s e S) (s.2.2 9 k) (s.2.1 10 k) with q | ⟨j, q1, q2, q3, -⟩
            · exact absurd (hmn.symm.trans q) (i_m1 (by omega))
            · have q1 : j < S := q1
              have ejk : j = k := (nI_eq (by omega) (by omega)).mp (q2.symm.trans hmn)
              rw [← ejk]
              exact q3
          obtain ⟨y3, y4⟩ := hI3.lab (k := k) (by omega) hk0
          have ev : 4 * s.2.1 11 k + s.2.1 13 k = nI (4 * e 11 k + e 13 k) := by rw [y1, y4, show (4 : Int32) = nI 4 from rfl, pk_mul, nI_add]
          first | refine aw_aload_n d_M_keepNames_49 rfl rfl ?_ | refine aw_aload_nQ d_M_keepNames_49 rfl rfl ?_ | refine aw_aload_nN d_M_keepNames_49 rfl rfl ?_
          refine aM_get (by assumption) fl_M_19 (by decide) rfl d_M_keepNames_50 ?_
          refine aw_iconst (v := 4) d_M_keepNames_53 (by decide) ?_
          first | refine aw_aload_n d_M_keepNames_54 rfl rfl ?_ | refine aw_aload_nQ d_M_keepNames_54 rfl rfl ?_ | refine aw_aload_nN d_M_keepNames_54 rfl rfl ?_
          refine aM_get (by assumption) fl_M_44 (by decide) rfl d_M_keepNames_55 ?_
          refine aw_iload_n d_M_keepNames_58 rfl rfl ?_
          refine aM_iald (by assumption) (by decide) rfl rfl (show k < 2048 from ks) (by decide) d_M_keepNames_59 ?_
          refine aw_imul d_M_keepNames_60 ?_
          first | refine aw_aload_n d_M_keepNames_61 rfl rfl ?_ | refine aw_aload_nQ d_M_keepNames_61 rfl rfl ?_ | refine aw_aload_nN d_M_keepNames_61 rfl rfl ?_
          refine aM_get (by assumption) fl_M_50 (by decide) rfl d_M_keepNames_62 ?_
          refine aw_iload_n d_M_keepNames_65 rfl rfl ?_
          refine aM_iald (by assumption) (by decide) rfl rfl (show k < 2048 from ks) (by decide) d_M_keepNames_66 ?_
          refine aw_iadd d_M_keepNames_67 ?_
          refine aM_zald (by assumption) (by decide) rfl ev (show 4 * e 11 k + e 13 k < 128 by omega) (by decide) d_M_keepNames_68 ?_
          refine aw_if_ne (tgt := 75) d_M_keepNames_69 (by decide) (fun c69 => ?_) (fun c69 => ?_)
          · first | refine aw_aload_n d_M_keepNames_75 rfl rfl ?_ | refine aw_aload_nQ d_M_keepNames_75 rfl rfl ?_ | refine aw_aload_nN d_M_keepNames_75 rfl rfl ?_
            refine aM_get (by assumption) fl_M_108 (by decide) rfl d_M_keepNames_76 ?_
            first | refine aw_aload_n d_M_keepNames_79 rfl rfl ?_ | refine aw_aload_nQ d_M_keepNames_79 rfl rfl ?_ | refine aw_aload_nN d_M_keepNames_79 rfl rfl ?_
            refine aM_get (by assumption) fl_M_231 (by decide) rfl d_M_keepNames_80 ?_
            first | refine aw_aload_n d_M_keepNames_83 rfl rfl ?_ | refine aw_aload_nQ d_M_keepNames_83 rfl rfl ?_ | refine aw_aload_nN d_M_keepNames_83 rfl rfl ?_
            refine aM_get (by assumption) fl_M_37 (by decide) rfl d_M_keepNames_84 ?_
            refine aw_iload_n d_M_keepNames_87 rfl rfl ?_
            refine aM_lald (by assumption) (by decide) rfl rfl (show k < 2048 from ks) (by decide) d_M_keepNames_88 ?_
            refine aM_last (by assumption) (by decide) rfl rfl (show K.1 < 2048 by omega) (by decide) d_M_keepNames_89 (fun g89 hR89 hF89 => ?_)
            first | refine aw_aload_n d_M_keepNames_90 rfl rfl ?_ | refine aw_aload_nQ d_M_keepNames_90 rfl rfl ?_ | refine aw_aload_nN d_M_keepNames_90 rfl rfl ?_
            refine aM_get (by assumption) fl_M_111 (by decide) rfl d_M_keepNames_91 ?_
            first | refine aw_aload_n d_M_keepNames_94 rfl rfl ?_ | refine aw_aload_nQ d_M_keepNames_94 rfl rfl ?_ | refine aw_aload_nN d_M_keepNames_94 rfl rfl ?_
            refine aM_get (by assumption) fl_M_231 (by decide) rfl d_M_keepNames_95 ?_
            first | refine aw_aload_n d_M_keepNames_98 rfl rfl ?_ | refine aw_aload_nQ d_M_keepNames_98 rfl rfl ?_ | refine aw_aload_nN d_M_keepNames_98 rfl rfl ?_
            refine aM_get (by assumption) fl_M_41 (by decide) rfl d_M_keepNames_99 ?_
            refine aw_iload_n d_M_keepNames_102 rfl rfl ?_
            refine aM_iald (by assumption) (by decide) rfl rfl (show k < 2048 from ks) (by decide) d_M_keepNames_103 ?_
            refine aM_iast (by assumption) (by decide) rfl rfl (show K.1 < 2048 by omega) (by decide) d_M_keepNames_104 (fun g104 hR104 hF104 => ?_)
            first | refine aw_aload_n d_M_keepNames_105 rfl rfl ?_ | refine aw_aload_nQ d_M_keepNames_105 rfl rfl ?_ | refine aw_aload_nN d_M_keepNames_105 rfl rfl ?_
            refine aM_get (by assumption) fl_M_114 (by decide) rfl d_M_keepNames_106 ?_
            first | refine aw_aload_n d_M_keepNames_109 rfl rfl ?_ | refine aw_aload_nQ d_M_keepNames_109 rfl rfl ?_ | refine aw_aload_nN d_M_keepNames_109 rfl rfl ?_
            refine aM_get (by assumption) fl_M_231 (by decide) rfl d_M_keepNames_110 ?_
            first | refine aw_aload_n d_M_keepNames_113 rfl rfl ?_ | refine aw_aload_nQ d_M_keepNames_113 rfl rfl ?_ | refine aw_aload_nN d_M_keepNames_113 rfl rfl ?_
            refine aw_iload_n d_M_keepNames_114 rfl rfl ?_
            refine aw_callV (c_M_label G _ m _ hR104 e U S hUb hSb hI hI3 k (by omega) hk0) cl_M (mR.obj (by assumption)) m_M_labelAddress ml_M_195 rfl rfl (by decide) (by decide) (Nat.le_of_ble_eq_true rfl) d_M_keepNames_115 ?_
            rintro v h' ⟨rfl, rfl⟩
            refine aM_iast (by assumption) (by decide) rfl rfl (show K.1 < 2048 by omega) (by decide) d_M_keepNames_118 (fun g118 hR118 hF118 => ?_)
            first | refine aw_aload_n d_M_keepNames_119 rfl rfl ?_ | refine aw_aload_nQ d_M_keepNames_119 rfl rfl ?_ | refine aw_aload_nN d_M_keepNames_119 rfl rfl ?_
            refine aw_dup d_M_keepNames_120 rfl ?_
            refine aM_get (by assumption) fl_M_231 (by decide) rfl d_M_keepNames_121 ?_
            refine aw_iconst (v := 1) d_M_keepNames_124 (by decide) ?_
            refine aw_iadd d_M_keepNames_125 ?_
            refine aM_put (by assumption) fl_M_231 (by decide) rfl rfl rfl rfl d_M_keepNames_126 (fun g126 hR126 hF126 => ?_)
            refine aw_iinc (v := nI (k + 1)) d_M_keepNames_129 rfl (ax_inc k) (by decide) rfl ?_
            refine aw_goto (tgt := 7) d_M_keepNames_132 (by decide) ?_
            rw [if_pos (show mKeep (s.2.1 3) (s.2.1 4) (mT s e S) e k from ⟨c26, hmn, c69⟩)] at he
            have hR126 : mR m (va_up (va_up s.1 42 (nI K.1)) 42 (nI K.1 + 1), va_up (va_up (va_up (va_up s.2.1 32 K.2.2.1) 33 K.2.2.2) 32 (va_up K.2.2.1 K.1 (s.2.1 10 k))) 33 (va_up K.2.2.2 K.1 (mLab1 (s.2.1 7) (s.2.1 14) e k)), va_up (va_up s.2.2 31 K.2.1) 31 (va_up K.2.1 K.1 (s.2.2 9 k))) g126 := hR126
            rw [bx_uu, bx_uu, mU4 _ _ _ (by decide), nI_1] at hR126
            exact ih (k + 1) (K.1 + 1, va_up K.2.1 K.1 (s.2.2 9 k), va_up K.2.2.1 K.1 (s.2.1 10 k), va_up K.2.2.2 K.1 (mLab1 (s.2.1 7) (s.2.1 14) e k)) _ (by omega) (Nat.succ_le_succ hn) hR126 ((((hF.tr hF89).tr hF104).tr hF118).tr hF126) he
          · refine aw_goto (tgt := 129) d_M_keepNames_72 (by decide) ?_
            refine aw_iinc (v := nI (k + 1)) d_M_keepNames_129 rfl (ax_inc k) (by decide) rfl ?_
            refine aw_goto (tgt := 7) d_M_keepNames_132 (by decide) ?_
            rw [if_neg (fun q : mKeep (s.2.1 3) (s.2.1 4) (mT s e S) e k => q.2.2 c69)] at he
            exact ih (k + 1) K _ (by omega) (by omega) hR hF he
/-- the starts of lines kept so far -/
abbrev mKl : Type := Nat × (Nat → Int32) × (Nat → Int32)
def mKlL (nd ad su sp sl : Nat → Int32) (e : Nat → Nat → Nat) : Nat → Nat → mKl → mKl
  | 0, _, K => K
  | r + 1, k, K => mKlL nd ad su sp sl e r (k + 1) (if nd (4 * e 25 k) = 0 then K else (K.1 + 1, va_up K.2.1 K.1 (ad (4 * e 25 k) + sp k), va_up K.2.2 K.1 (65536 * su k + sl k)))
abbrev mKt (s : mSt) (K : mKl) : mSt := (va_up s.1 43 (nI K.1), va_up (va_up s.2.1 34 K.2.1) 35 K.2.2, s.2.2)
/-- units of starts -/
def mI5 (s : mSt) (e : Nat → Nat → Nat) (U T : Nat) : Prop := ∀ k, k < T → s.2.1 25 k = nI (e 25 k) ∧ e 25 k < U
set_option maxRecDepth 20000 in
theorem l_M_keep2 {G : ax_G} {x : ax_X} {h0 : ax_H} {P : Option Value → ax_H → Prop} {m : Nat} (s : mSt) (e : Nat → Nat → Nat) (U T : Nat) (hUb : U ≤ 32) (hT : s.1 4 = nI T) (hTb : T ≤ 8192) (hI5 : mI5 s e U T) (hq : ax_H) (R : mKl) (hk : ∀ h2, mR m (mKt s R) h2 → mFr m hq h2 → P none h2) : ∀ r k (K : mKl) h, k + r = T → K.1 ≤ k → mR m (mKt s K) h → mFr m hq h → mKlL (s.2.1 4) (s.2.1 7) (s.2.1 25) (s.2.1 26) (s.2.1 27) e r k K = R → AW G x Y_M_keepNames 2 46 h0 P h 142 [some (.ref m), some (.int (nI k))] [] := by
  intro r
  induction r with
  | zero =>
    intro k K h hr hn hR hF he
    have hkk : k = T := by omega
    subst hkk
    have he : K = R := he
    subst he
    refine aw_iload_n d_M_keepNames_142 rfl rfl ?_
    first | refine aw_aload_n d_M_keepNames_143 rfl rfl ?_ | refine aw_aload_nQ d_M_keepNames_143 rfl rfl ?_ | refine aw_aload_nN d_M_keepNames_143 rfl rfl ?_
    refine aM_get (by assumption) fl_M_135 (by decide) rfl d_M_keepNames_144 ?_
    refine aw_icmp_ge (tgt := 239) d_M_keepNames_147 (by decide) (fun c147 => ?_) (fun c147 => ?_)
    · refine aw_vret ?_ rfl d_M_keepNames_239
      exact hk _ hR hF
    · exact absurd (show s.1 4 ≤ nI k by rw [hT]; exact nI_le (Nat.le_refl _) (by omega)) c147
  | succ r ih =>
    intro k K h hr hn hR hF he
    obtain ⟨y1, y2⟩ := hI5 k (by omega)
    have ks : k < 8192 := by omega
    have ev : 4 * s.2.1 25 k = nI (4 * e 25 k) := by rw [y1, show (4 : Int32) = nI 4 from rfl, pk_mul]
    rw [mKlL] at he
    refine aw_iload_n d_M_keepNames_142 rfl rfl ?_
    first | refine aw_aload_n d_M_keepNames_143 rfl rfl ?_ | refine aw_aload_nQ d_M_keepNames_143 rfl rfl ?_ | refine aw_aload_nN d_M_keepNames_143 rfl rfl ?_
    refine aM_get (by assumption) fl_M_135 (by decide) rfl d_M_keepNames_144 ?_
    refine aw_icmp_ge (tgt := 239) d_M_keepNames_147 (by decide) (fun c147 => ?_) (fun c147 => ?_)
    · exact absurd (show s.1 4 ≤ nI k from c147) (by rw [hT]; exact nI_ge (by omega) (by omega))
    · first | refine aw_aload_n d_M_keepNames_150 rfl rfl ?_ | refine aw_aload_nQ d_M_keepNames_150 rfl rfl ?_ | refine aw_aload_nN d_M_keepNames_150 rfl rfl ?_
      refine aM_get (by assumption) fl_M_19 (by decide) rfl d_M_keepNames_151 ?_
      refine aw_iconst (v := 4) d_M_keepNames_154 (by decide) ?_
      first | refine aw_aload_n d_M_keepNames_155 rfl rfl ?_ | refine aw_aload_nQ d_M_keepNames_155 rfl rfl ?_ | refine aw_aload_nN d_M_keepNames_155 rfl rfl ?_
      refine aM_get (by assumption) fl_M_86 (by decide) rfl d_M_keepNames_156 ?_
      refine aw_iload_n d_M_keepNames_159 rfl rfl ?_
      refine aM_iald (by assumption) (by decide) rfl rfl (show k < 8192 from ks) (by decide) d_M_keepNames_160 ?_
      refine aw_imul d_M_keepNames_161 ?_
      refine aM_zald (by assumption) (by decide) rfl ev (show 4 * e 25 k < 128 by omega) (by decide) d_M_keepNames_162 ?_
      refine aw_if_ne (tgt := 169) d_M_keepNames_163 (by decide) (fun c163 => ?_) (fun c163 => ?_)
      · first | refine aw_aload_n d_M_keepNames_169 rfl rfl ?_ | refine aw_aload_nQ d_M_keepNames_169 rfl rfl ?_ | refine aw_aload_nN d_M_keepNames_169 rfl rfl ?_
        refine aM_get (by assumption) fl_M_117 (by decide) rfl d_M_keepNames_170 ?_
        first | refine aw_aload_n d_M_keepNames_173 rfl rfl ?_ | refine aw_aload_nQ d_M_keepNames_173 rfl rfl ?_ | refine aw_aload_nN d_M_keepNames_173 rfl rfl ?_
        refine aM_get (by assumption) fl_M_234 (by decide) rfl d_M_keepNames_174 ?_
        first | refine aw_aload_n d_M_keepNames_177 rfl rfl ?_ | refine aw_aload_nQ d_M_keepNames_177 rfl rfl ?_ | refine aw_aload_nN d_M_keepNames_177 rfl rfl ?_
        refine aM_get (by assumption) fl_M_29 (by decide) rfl d_M_keepNames_178 ?_
        refine aw_iconst (v := 4) d_M_keepNames_181 (by decide) ?_
        first | refine aw_aload_n d_M_keepNames_182 rfl rfl ?_ | refine aw_aload_nQ d_M_keepNames_182 rfl rfl ?_ | refine aw_aload_nN d_M_keepNames_182 rfl rfl ?_
        refine aM_get (by assumption) fl_M_86 (by decide) rfl d_M_keepNames_183 ?_
        refine aw_iload_n d_M_keepNames_186 rfl rfl ?_
        refine aM_iald (by assumption) (by decide) rfl rfl (show k < 8192 from ks) (by decide) d_M_keepNames_187 ?_
        refine aw_imul d_M_keepNames_188 ?_
        refine aM_iald (by assumption) (by decide) rfl ev (show 4 * e 25 k < 128 by omega) (by decide) d_M_keepNames_189 ?_
        first | refine aw_aload_n d_M_keepNames_190 rfl rfl ?_ | refine aw_aload_nQ d_M_keepNames_190 rfl rfl ?_ | refine aw_aload_nN d_M_keepNames_190 rfl rfl ?_
        refine aM_get (by assumption) fl_M_89 (by decide) rfl d_M_keepNames_191 ?_
        refine aw_iload_n d_M_keepNames_194 rfl rfl ?_
        refine aM_iald (by assumption) (by decide) rfl rfl (show k < 8192 from ks) (by decide) d_M_keepNames_195 ?_
        refine aw_iadd d_M_keepNames_196 ?_
        refine aM_iast (by assumption) (by decide) rfl rfl (show K.1 < 8192 by omega) (by decide) d_M_keepNames_197 (fun g197 hR197 hF197 => ?_)
        first | refine aw_aload_n d_M_keepNames_198 rfl rfl ?_ | refine aw_aload_nQ d_M_keepNames_198 rfl rfl ?_ | refine aw_aload_nN d_M_keepNames_198 rfl rfl ?_
        refine aM_get (by assumption) fl_M_120 (by decide) rfl d_M_keepNames_199 ?_
        first | refine aw_aload_n d_M_keepNames_202 rfl rfl ?_ | refine aw_aload_nQ d_M_keepNames_202 rfl rfl ?_ | refine aw_aload_nN d_M_keepNames_202 rfl rfl ?_
        refine aM_get (by assumption) fl_M_234 (by decide) rfl d_M_keepNames_203 ?_
        refine aw_ldc kc_M_144 d_M_keepNames_206 ?_
        first | refine aw_aload_n d_M_keepNames_208 rfl rfl ?_ | refine aw_aload_nQ d_M_keepNames_208 rfl rfl ?_ | refine aw_aload_nN d_M_keepNames_208 rfl rfl ?_
        refine aM_get (by assumption) fl_M_86 (by decide) rfl d_M_keepNames_209 ?_
        refine aw_iload_n d_M_keepNames_212 rfl rfl ?_
        refine aM_iald (by assumption) (by decide) rfl rfl (show k < 8192 from ks) (by decide) d_M_keepNames_213 ?_
        refine aw_imul d_M_keepNames_214 ?_
        first | refine aw_aload_n d_M_keepNames_215 rfl rfl ?_ | refine aw_aload_nQ d_M_keepNames_215 rfl rfl ?_ | refine aw_aload_nN d_M_keepNames_215 rfl rfl ?_
        refine aM_get (by assumption) fl_M_92 (by decide) rfl d_M_keepNames_216 ?_
        refine aw_iload_n d_M_keepNames_219 rfl rfl ?_
        refine aM_iald (by assumption) (by decide) rfl rfl (show k < 8192 from ks) (by decide) d_M_keepNames_220 ?_
        refine aw_iadd d_M_keepNames_221 ?_
        refine aM_iast (by assumption) (by decide) rfl rfl (show K.1 < 8192 by omega) (by decide) d_M_keepNames_222 (fun g222 hR222 hF222 => ?_)
        first | refine aw_aload_n d_M_keepNames_223 rfl rfl ?_ | refine aw_aload_nQ d_M_keepNames_223 rfl rfl ?_ | refine aw_aload_nN d_M_keepNames_223 rfl rfl ?_
        refine aw_dup d_M_keepNames_224 rfl ?_
        refine aM_get (by assumption) fl_M_234 (by decide) rfl d_M_keepNames_225 ?_
        refine aw_iconst (v := 1) d_M_keepNames_228 (by decide) ?_
        refine aw_iadd d_M_keepNames_229 ?_
        refine aM_put (by assumption) fl_M_234 (by decide) rfl rfl rfl rfl d_M_keepNames_230 (fun g230 hR230 hF230 => ?_)
        refine aw_iinc (v := nI (k + 1)) d_M_keepNames_233 rfl (ax_inc k) (by decide) rfl ?_
        refine aw_goto (tgt := 142) d_M_keepNames_236 (by decide) ?_
        rw [if_neg (show ¬ s.2.1 4 (4 * e 25 k) = 0 from c163)] at he
        have hR230 : mR m (va_up (va_up s.1 43 (nI K.1)) 43 (nI K.1 + 1), va_up (va_up (va_up (va_up s.2.1 34 K.2.1) 35 K.2.2) 34 (va_up K.2.1 K.1 (s.2.1 7 (4 * e 25 k) + s.2.1 26 k))) 35 (va_up K.2.2 K.1 (65536 * s.2.1 25 k + s.2.1 27 k)), s.2.2) g230 := hR230
        rw [bx_uu, mU4 _ _ _ (by decide), nI_1] at hR230
        exact ih (k + 1) (K.1 + 1, va_up K.2.1 K.1 (s.2.1 7 (4 * e 25 k) + s.2.1 26 k), va_up K.2.2 K.1 (65536 * s.2.1 25 k + s.2.1 27 k)) _ (by omega) (Nat.succ_le_succ hn) hR230 (((hF.tr hF197).tr hF222).tr hF230) he
      · refine aw_goto (tgt := 233) d_M_keepNames_166 (by decide) ?_
        refine aw_iinc (v := nI (k + 1)) d_M_keepNames_233 rfl (ax_inc k) (by decide) rfl ?_
        refine aw_goto (tgt := 142) d_M_keepNames_236 (by decide) ?_
        rw [if_pos (show s.2.1 4 (4 * e 25 k) = 0 from c163)] at he
        exact ih (k + 1) K _ (by omega) (by omega) hR hF he
/-- names and starts as they are kept -/
def mKN (s : mSt) (e : Nat → Nat → Nat) (S : Nat) : mKn := mKnL (s.2.1 3) (s.2.1 4) (s.2.1 7) (s.2.1 14) (mT s e S) e S 0 (0, s.2.2 31, s.2.1 32, s.2.1 33)
def mKT (s : mSt) (e : Nat → Nat → Nat) (T : Nat) : mKl := mKlL (s.2.1 4) (s.2.1 7) (s.2.1 25) (s.2.1 26) (s.2.1 27) e T 0 (0, s.2.1 34, s.2.1 35)
def mKeepN (s : mSt) (e : Nat → Nat → Nat) (S T : Nat) : mSt := mKt (mKs s (mKN s e S)) (mKT s e T)
set_option maxRecDepth 20000 in
theorem c_M_keepNames (G : ax_G) (h : ax_H) (m : Nat) (s : mSt) (hR : mR m s h) (e : Nat → Nat → Nat) (U S : Nat) (hUb : U ≤ 32) (hS : s.1 2 = nI S) (hSb : S ≤ 2048) (hI : mI2 s e U S) (hI3 : mI3 s e S) (T : Nat) (hT : s.1 4 = nI T) (hTb : T ≤ 8192) (hI5 : mI5 s e U T) : AM G Y_M_keepNames 2 46 [.ref m] h (fun v h2 => v = none ∧ mR m (mKeepN s e S T) h2 ∧ mFr m h h2) := by
  refine aw_enter (by decide) (Nat.le_of_ble_eq_true rfl) (n := 1) (ls := [some (.ref m), none]) rfl (fun x => ?_)
  first | refine aw_aload_n d_M_keepNames_0 rfl rfl ?_ | refine aw_aload_nQ d_M_keepNames_0 rfl rfl ?_ | refine aw_aload_nN d_M_keepNames_0 rfl rfl ?_
  refine aw_iconst (v := 0) d_M_keepNames_1 (by decide) ?_
  refine aM_put (by assumption) fl_M_231 (by decide) rfl rfl rfl rfl d_M_keepNames_2 (fun g2 hR2 hF2 => ?_)
  refine aw_iconst (v := 0) d_M_keepNames_5 (by decide) ?_
  refine aw_istore_n d_M_keepNames_6 rfl (by decide) rfl ?_
  have hRb : mR m (mKs s (0, s.2.2 31, s.2.1 32, s.2.1 33)) g2 := by
    show mR m (va_up s.1 42 0, va_up (va_up s.2.1 32 (s.2.1 32)) 33 (s.2.1 33), va_up s.2.2 31 (s.2.2 31)) g2
    rw [mUs, mUs, mUs]
    exact hR2
  refine l_M_keep1 s e U S hUb hS hSb hI hI3 h (mKN s e S) (fun h2 o1 hRa hFa => ?_) S 0 (0, s.2.2 31, s.2.1 32, s.2.1 33) _ (by omega) (Nat.le_refl _) hRb hF2 rfl
  first | refine aw_aload_n d_M_keepNames_135 rfl rfl ?_ | refine aw_aload_nQ d_M_keepNames_135 rfl rfl ?_ | refine aw_aload_nN d_M_keepNames_135 rfl rfl ?_
  refine aw_iconst (v := 0) d_M_keepNames_136 (by decide) ?_
  refine aM_put (by assumption) fl_M_234 (by decide) rfl rfl rfl rfl d_M_keepNames_137 (fun g137 hR137 hF137 => ?_)
  refine aw_iconst (v := 0) d_M_keepNames_140 (by decide) ?_
  refine aw_istore_n d_M_keepNames_141 rfl (by decide) rfl ?_
  have hRc : mR m (mKt (mKs s (mKN s e S)) (0, s.2.1 34, s.2.1 35)) g137 := by
    show mR m (va_up (mKs s (mKN s e S)).1 43 0, va_up (va_up (mKs s (mKN s e S)).2.1 34 ((mKs s (mKN s e S)).2.1 34)) 35 ((mKs s (mKN s e S)).2.1 35), (mKs s (mKN s e S)).2.2) g137
    rw [mUs, mUs]
    exact hR137
  exact l_M_keep2 (mKs s (mKN s e S)) e U T hUb hT hTb hI5 h (mKT s e T) (fun h3 r1 r2 => ⟨rfl, r1, r2⟩) T 0 (0, s.2.1 34, s.2.1 35) _ (by omega) (Nat.le_refl _) hRc (hFa.tr hF137) rfl
