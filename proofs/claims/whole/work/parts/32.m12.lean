/-- a global label of a unit that is taken, that isn't the first of its name -/
abbrev mTwin (tk : Nat → Int32) (g : mTab) (k : Nat) : Prop := ¬ tk (g.2.2.2.2.1 k) = 0 ∧ mGlob g k ∧ ¬ mMeant tk g (g.2.2.2.1 k) (g.2.2.1 k) = nI k
def mTwL (tk : Nat → Int32) (g : mTab) (un ln : Nat → Int32) : Nat → Nat → Int32 → Int32 → Int32 × Int32
  | 0, _, a, b => (a, b)
  | r + 1, k, a, b => if mTwin tk g k ∧ (un k < a ∨ (un k = a ∧ ln k < b)) then mTwL tk g un ln r (k + 1) (un k) (ln k) else mTwL tk g un ln r (k + 1) a b
def mTw (s : mSt) (e : Nat → Nat → Nat) (S : Nat) : Int32 × Int32 := mTwL (s.2.1 3) (mT s e S) (s.2.1 11) (s.2.1 15) S 0 32 0
def mTwice (s : mSt) (e : Nat → Nat → Nat) (S : Nat) : mSt := if (mTw s e S).1 < 32 then mFail s 2 (mTw s e S).1 (mTw s e S).2 else s
set_option maxRecDepth 20000 in
theorem l_M_findTwice {G : ax_G} {x : ax_X} {h0 : ax_H} {P : Option Value → ax_H → Prop} {m : Nat} (s : mSt) (e : Nat → Nat → Nat) (U S : Nat) (hUb : U ≤ 32) (hS : s.1 2 = nI S) (hSb : S ≤ 2048) (hI : mI2 s e U S) (h : ax_H) (hR : mR m s h) (hp : ∀ h2, mR m (mTwice s e S) h2 → mFr m h h2 → P none h2) : ∀ r k a b, k + r = S → mTw s e S = mTwL (s.2.1 3) (mT s e S) (s.2.1 11) (s.2.1 15) r k a b → AW G x Y_M_findTwice 2 46 h0 P h 7 [some (.ref m), some (.int a), some (.int b), some (.int (nI k))] [] := by
  intro r
  induction r with
  | zero =>
    intro k a b hk he
    have hkk : k = S := by omega
    subst hkk
    have he : mTw s e k = (a, b) := he
    refine aw_iload_n d_M_findTwice_7 rfl rfl ?_
    first | refine aw_aload_n d_M_findTwice_8 rfl rfl ?_ | refine aw_aload_nQ d_M_findTwice_8 rfl rfl ?_ | refine aw_aload_nN d_M_findTwice_8 rfl rfl ?_
    refine aM_get (by assumption) fl_M_129 (by decide) rfl d_M_findTwice_9 ?_
    refine aw_icmp_ge (tgt := 110) d_M_findTwice_12 (by decide) (fun c12 => ?_) (fun c12 => ?_)
    · refine aw_iload_n d_M_findTwice_110 rfl rfl ?_
      refine aw_bipush (v := 32) d_M_findTwice_111 (by decide) ?_
      refine aw_icmp_ge (tgt := 123) d_M_findTwice_113 (by decide) (fun c113 => ?_) (fun c113 => ?_)
      · refine aw_vret ?_ rfl d_M_findTwice_123
        refine hp _ ?_ (mFr.rf m h)
        rw [mTwice, he, if_neg (Int32.not_lt.mpr c113)]
        exact hR
      · first | refine aw_aload_n d_M_findTwice_116 rfl rfl ?_ | refine aw_aload_nQ d_M_findTwice_116 rfl rfl ?_ | refine aw_aload_nN d_M_findTwice_116 rfl rfl ?_
        refine aw_iconst (v := 2) d_M_findTwice_117 (by decide) ?_
        refine aw_iload_n d_M_findTwice_118 rfl rfl ?_
        refine aw_iload_n d_M_findTwice_119 rfl rfl ?_
        refine aw_callV (c_M_fail G _ m s (by assumption) _ _ _) cl_M (mR.obj (by assumption)) m_M_fail ml_M_184 rfl rfl (by decide) (by decide) (Nat.le_of_ble_eq_true rfl) d_M_findTwice_120 ?_
        rintro v h' ⟨rfl, hRg, hFg⟩
        refine aw_vret ?_ rfl d_M_findTwice_123
        refine hp _ ?_ hFg
        rw [mTwice, he, if_pos (Int32.not_le.mp c113)]
        exact hRg
    · exact absurd (show s.1 2 ≤ nI k by rw [hS]; exact nI_le (Nat.le_refl _) (by omega)) c12
  | succ r ih =>
    intro k a b hk he
    obtain ⟨u1, u2⟩ := hI k (by omega)
    have ks : k < 2048 := by omega
    rw [mTwL] at he
    refine aw_iload_n d_M_findTwice_7 rfl rfl ?_
    first | refine aw_aload_n d_M_findTwice_8 rfl rfl ?_ | refine aw_aload_nQ d_M_findTwice_8 rfl rfl ?_ | refine aw_aload_nN d_M_findTwice_8 rfl rfl ?_
    refine aM_get (by assumption) fl_M_129 (by decide) rfl d_M_findTwice_9 ?_
    refine aw_icmp_ge (tgt := 110) d_M_findTwice_12 (by decide) (fun c12 => ?_) (fun c12 => ?_)
    · exact absurd c12 (by rw [show s.1 2 = nI S from hS]; exact nI_ge (by omega) (by omega))
    · first | refine aw_aload_n d_M_findTwice_15 rfl rfl ?_ | refine aw_aload_nQ d_M_findTwice_15 rfl rfl ?_ | refine aw_aload_nN d_M_findTwice_15 rfl rfl ?_
      refine aM_get (by assumption) fl_M_16 (by decide) rfl d_M_findTwice_16 ?_
      first | refine aw_aload_n d_M_findTwice_19 rfl rfl ?_ | refine aw_aload_nQ d_M_findTwice_19 rfl rfl ?_ | refine aw_aload_nN d_M_findTwice_19 rfl rfl ?_
      refine aM_get (by assumption) fl_M_44 (by decide) rfl d_M_findTwice_20 ?_
      refine aw_iload_n d_M_findTwice_23 rfl rfl ?_
      refine aM_iald (by assumption) (by decide) rfl rfl (show k < 2048 from ks) (by decide) d_M_findTwice_24 ?_
      refine aM_zald (by assumption) (by decide) rfl u1 (show e 11 k < 32 by omega) (by decide) d_M_findTwice_25 ?_
      refine aw_if_eq (tgt := 104) d_M_findTwice_26 (by decide) (fun c26 => ?_) (fun c26 => ?_)
      · refine aw_iinc (v := nI (k + 1)) d_M_findTwice_104 rfl (ax_inc k) (by decide) rfl ?_
        refine aw_goto (tgt := 7) d_M_findTwice_107 (by decide) ?_
        rw [if_neg (fun q : mTwin (s.2.1 3) (mT s e S) k ∧ (s.2.1 11 k < a ∨ (s.2.1 11 k = a ∧ s.2.1 15 k < b)) => q.1.1 c26)] at he
        exact ih (k + 1) _ _ (by omega) he
      · first | refine aw_aload_n d_M_findTwice_29 rfl rfl ?_ | refine aw_aload_nQ d_M_findTwice_29 rfl rfl ?_ | refine aw_aload_nN d_M_findTwice_29 rfl rfl ?_
        refine aw_iload_n d_M_findTwice_30 rfl rfl ?_
        refine aw_callV (c_M_isGlobal G _ m s (by assumption) k ks) cl_M (mR.obj (by assumption)) m_M_isGlobal ml_M_165 rfl rfl (by decide) (by decide) (Nat.le_of_ble_eq_true rfl) d_M_findTwice_31 ?_
        rintro v h' ⟨rfl, rfl⟩
        refine aw_if_eq (tgt := 104) d_M_findTwice_34 (by decide) (fun c34 => ?_) (fun c34 => ?_)
        · refine aw_iinc (v := nI (k + 1)) d_M_findTwice_104 rfl (ax_inc k) (by decide) rfl ?_
          refine aw_goto (tgt := 7) d_M_findTwice_107 (by decide) ?_
          rw [if_neg (fun q : mTwin (s.2.1 3) (mT s e S) k ∧ (s.2.1 11 k < a ∨ (s.2.1 11 k = a ∧ s.2.1 15 k < b)) => absurd c34 (by rw [zI, if_pos q.1.2.1]; decide))] at he
          exact ih (k + 1) _ _ (by omega) he
        · first | refine aw_aload_n d_M_findTwice_37 rfl rfl ?_ | refine aw_aload_nQ d_M_findTwice_37 rfl rfl ?_ | refine aw_aload_nN d_M_findTwice_37 rfl rfl ?_
          first | refine aw_aload_n d_M_findTwice_38 rfl rfl ?_ | refine aw_aload_nQ d_M_findTwice_38 rfl rfl ?_ | refine aw_aload_nN d_M_findTwice_38 rfl rfl ?_
          refine aM_get (by assumption) fl_M_37 (by decide) rfl d_M_findTwice_39 ?_
          refine aw_iload_n d_M_findTwice_42 rfl rfl ?_
          refine aM_lald (by assumption) (by decide) rfl rfl (show k < 2048 from ks) (by decide) d_M_findTwice_43 ?_
          first | refine aw_aload_n d_M_findTwice_44 rfl rfl ?_ | refine aw_aload_nQ d_M_findTwice_44 rfl rfl ?_ | refine aw_aload_nN d_M_findTwice_44 rfl rfl ?_
          refine aM_get (by assumption) fl_M_41 (by decide) rfl d_M_findTwice_45 ?_
          refine aw_iload_n d_M_findTwice_48 rfl rfl ?_
          refine aM_iald (by assumption) (by decide) rfl rfl (show k < 2048 from ks) (by decide) d_M_findTwice_49 ?_
          refine aw_callV (c_M_meant G _ m s (by assumption) e U S hUb hS hSb hI _ _) cl_M (mR.obj (by assumption)) m_M_meant ml_M_171 rfl rfl (by decide) (by decide) (Nat.le_of_ble_eq_true rfl) d_M_findTwice_50 ?_
          rintro v h' ⟨rfl, rfl⟩
          refine aw_iload_n d_M_findTwice_53 rfl rfl ?_
          refine aw_icmp_ne (tgt := 60) d_M_findTwice_54 (by decide) (fun c54 => ?_) (fun c54 => ?_)
          · first | refine aw_aload_n d_M_findTwice_60 rfl rfl ?_ | refine aw_aload_nQ d_M_findTwice_60 rfl rfl ?_ | refine aw_aload_nN d_M_findTwice_60 rfl rfl ?_
            refine aM_get (by assumption) fl_M_44 (by decide) rfl d_M_findTwice_61 ?_
            refine aw_iload_n d_M_findTwice_64 rfl rfl ?_
            refine aM_iald (by assumption) (by decide) rfl rfl (show k < 2048 from ks) (by decide) d_M_findTwice_65 ?_
            refine aw_iload_n d_M_findTwice_66 rfl rfl ?_
            refine aw_icmp_lt (tgt := 90) d_M_findTwice_67 (by decide) (fun c67 => ?_) (fun c67 => ?_)
            · first | refine aw_aload_n d_M_findTwice_90 rfl rfl ?_ | refine aw_aload_nQ d_M_findTwice_90 rfl rfl ?_ | refine aw_aload_nN d_M_findTwice_90 rfl rfl ?_
              refine aM_get (by assumption) fl_M_44 (by decide) rfl d_M_findTwice_91 ?_
              refine aw_iload_n d_M_findTwice_94 rfl rfl ?_
              refine aM_iald (by assumption) (by decide) rfl rfl (show k < 2048 from ks) (by decide) d_M_findTwice_95 ?_
              refine aw_istore_n d_M_findTwice_96 rfl (by decide) rfl ?_
              first | refine aw_aload_n d_M_findTwice_97 rfl rfl ?_ | refine aw_aload_nQ d_M_findTwice_97 rfl rfl ?_ | refine aw_aload_nN d_M_findTwice_97 rfl rfl ?_
              refine aM_get (by assumption) fl_M_56 (by decide) rfl d_M_findTwice_98 ?_
              refine aw_iload_n d_M_findTwice_101 rfl rfl ?_
              refine aM_iald (by assumption) (by decide) rfl rfl (show k < 2048 from ks) (by decide) d_M_findTwice_102 ?_
              refine aw_istore_n d_M_findTwice_103 rfl (by decide) rfl ?_
              refine aw_iinc (v := nI (k + 1)) d_M_findTwice_104 rfl (ax_inc k) (by decide) rfl ?_
              refine aw_goto (tgt := 7) d_M_findTwice_107 (by decide) ?_
              have hg : mGlob (mT s e S) k := by
                by_cases q : mGlob (mT s e S) k
                · exact q
                · exact absurd (show zI (0 ≤ s.2.1 13 k ∧ s.2.1 12 k = 1) = 0 by rw [zI, if_neg q]) c34
              rw [if_pos (show mTwin (s.2.1 3) (mT s e S) k ∧ (s.2.1 11 k < a ∨ (s.2.1 11 k = a ∧ s.2.1 15 k < b)) from ⟨⟨c26, hg, c54⟩, Or.inl c67⟩)] at he
              exact ih (k + 1) _ _ (by omega) he
            · first | refine aw_aload_n d_M_findTwice_70 rfl rfl ?_ | refine aw_aload_nQ d_M_findTwice_70 rfl rfl ?_ | refine aw_aload_nN d_M_findTwice_70 rfl rfl ?_
              refine aM_get (by assumption) fl_M_44 (by decide) rfl d_M_findTwice_71 ?_
              refine aw_iload_n d_M_findTwice_74 rfl rfl ?_
              refine aM_iald (by assumption) (by decide) rfl rfl (show k < 2048 from ks) (by decide) d_M_findTwice_75 ?_
              refine aw_iload_n d_M_findTwice_76 rfl rfl ?_
              refine aw_icmp_ne (tgt := 104) d_M_findTwice_77 (by decide) (fun c77 => ?_) (fun c77 => ?_)
              · refine aw_iinc (v := nI (k + 1)) d_M_findTwice_104 rfl (ax_inc k) (by decide) rfl ?_
                refine aw_goto (tgt := 7) d_M_findTwice_107 (by decide) ?_
                rw [if_neg (fun q : mTwin (s.2.1 3) (mT s e S) k ∧ (s.2.1 11 k < a ∨ (s.2.1 11 k = a ∧ s.2.1 15 k < b)) => q.2.elim c67 (fun z => c77 z.1))] at he
                exact ih (k + 1) _ _ (by omega) he
              · first | refine aw_aload_n d_M_findTwice_80 rfl rfl ?_ | refine aw_aload_nQ d_M_findTwice_80 rfl rfl ?_ | refine aw_aload_nN d_M_findTwice_80 rfl rfl ?_
                refine aM_get (by assumption) fl_M_56 (by decide) rfl d_M_findTwice_81 ?_
                refine aw_iload_n d_M_findTwice_84 rfl rfl ?_
                refine aM_iald (by assumption) (by decide) rfl rfl (show k < 2048 from ks) (by decide) d_M_findTwice_85 ?_
                refine aw_iload_n d_M_findTwice_86 rfl rfl ?_
                refine aw_icmp_ge (tgt := 104) d_M_findTwice_87 (by decide) (fun c87 => ?_) (fun c87 => ?_)
                · refine aw_iinc (v := nI (k + 1)) d_M_findTwice_104 rfl (ax_inc k) (by decide) rfl ?_
                  refine aw_goto (tgt := 7) d_M_findTwice_107 (by decide) ?_
                  rw [if_neg (fun q : mTwin (s.2.1 3) (mT s e S) k ∧ (s.2.1 11 k < a ∨ (s.2.1 11 k = a ∧ s.2.1 15 k < b)) => q.2.elim c67 (fun z => absurd z.2 (Int32.not_lt.mpr c87)))] at he
                  exact ih (k + 1) _ _ (by omega) he
                · first | refine aw_aload_n d_M_findTwice_90 rfl rfl ?_ | refine aw_aload_nQ d_M_findTwice_90 rfl rfl ?_ | refine aw_aload_nN d_M_findTwice_90 rfl rfl ?_
                  refine aM_get (by assumption) fl_M_44 (by decide) rfl d_M_findTwice_91 ?_
                  refine aw_iload_n d_M_findTwice_94 rfl rfl ?_
                  refine aM_iald (by assumption) (by decide) rfl rfl (show k < 2048 from ks) (by decide) d_M_findTwice_95 ?_
                  refine aw_istore_n d_M_findTwice_96 rfl (by decide) rfl ?_
                  first | refine aw_aload_n d_M_findTwice_97 rfl rfl ?_ | refine aw_aload_nQ d_M_findTwice_97 rfl rfl ?_ | refine aw_aload_nN d_M_findTwice_97 rfl rfl ?_
                  refine aM_get (by assumption) fl_M_56 (by decide) rfl d_M_findTwice_98 ?_
                  refine aw_iload_n d_M_findTwice_101 rfl rfl ?_
                  refine aM_iald (by assumption) (by decide) rfl rfl (show k < 2048 from ks) (by decide) d_M_findTwice_102 ?_
                  refine aw_istore_n d_M_findTwice_103 rfl (by decide) rfl ?_
                  refine aw_iinc (v := nI (k + 1)) d_M_findTwice_104 rfl (ax_inc k) (by decide) rfl ?_
                  refine aw_goto (tgt := 7) d_M_findTwice_107 (by decide) ?_
                  have hg : mGlob (mT s e S) k := by
                    by_cases q : mGlob (mT s e S) k
                    · exact q
                    · exact absurd (show zI (0 ≤ s.2.1 13 k ∧ s.2.1 12 k = 1) = 0 by rw [zI, if_neg q]) c34
                  rw [if_pos (show mTwin (s.2.1 3) (mT s e S) k ∧ (s.2.1 11 k < a ∨ (s.2.1 11 k = a ∧ s.2.1 15 k < b)) from ⟨⟨c26, hg, c54⟩, Or.inr ⟨c77, Int32.not_le.mp c87⟩⟩)] at he
                  exact ih (k + 1) _ _ (by omega) he
          · refine aw_goto (tgt := 104) d_M_findTwice_57 (by decide) ?_
            refine aw_iinc (v := nI (k + 1)) d_M_findTwice_104 rfl (ax_inc k) (by decide) rfl ?_
            refine aw_goto (tgt := 7) d_M_findTwice_107 (by decide) ?_
            rw [if_neg (fun q : mTwin (s.2.1 3) (mT s e S) k ∧ (s.2.1 11 k < a ∨ (s.2.1 11 k = a ∧ s.2.1 15 k < b)) => q.1.2.2 c54)] at he
            exact ih (k + 1) _ _ (by omega) he
set_option maxRecDepth 20000 in
theorem c_M_findTwice (G : ax_G) (h : ax_H) (m : Nat) (s : mSt) (hR : mR m s h) (e : Nat → Nat → Nat) (U S : Nat) (hUb : U ≤ 32) (hS : s.1 2 = nI S) (hSb : S ≤ 2048) (hI : mI2 s e U S) : AM G Y_M_findTwice 2 46 [.ref m] h (fun v h2 => v = none ∧ mR m (mTwice s e S) h2 ∧ mFr m h h2) := by
  refine aw_enter (by decide) (Nat.le_of_ble_eq_true rfl) (n := 3) (ls := [some (.ref m), none, none, none]) rfl (fun x => ?_)
  refine aw_bipush (v := 32) d_M_findTwice_0 (by decide) ?_
  refine aw_istore_n d_M_findTwice_2 rfl (by decide) rfl ?_
  refine aw_iconst (v := 0) d_M_findTwice_3 (by decide) ?_
  refine aw_istore_n d_M_findTwice_4 rfl (by decide) rfl ?_
  refine aw_iconst (v := 0) d_M_findTwice_5 (by decide) ?_
  refine aw_istore_n d_M_findTwice_6 rfl (by decide) rfl ?_
  exact l_M_findTwice s e U S hUb hS hSb hI h hR (fun h2 r1 r2 => ⟨rfl, r1, r2⟩) S 0 32 0 (by omega) rfl
