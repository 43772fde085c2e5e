/-- the table of symbols: marks, sections, lengths and words of names, units, how many -/
abbrev mTab : Type := (Nat → Int32) × (Nat → Int32) × (Nat → Int32) × (Nat → Int64) × (Nat → Nat) × Nat
abbrev mT (s : mSt) (e : Nat → Nat → Nat) (S : Nat) : mTab := (s.2.1 12, s.2.1 13, s.2.1 10, s.2.2 9, e 11, S)
abbrev mGlob (g : mTab) (k : Nat) : Prop := 0 ≤ g.2.1 k ∧ g.1 k = 1
abbrev mWeak (g : mTab) (k : Nat) : Prop := 0 ≤ g.2.1 k ∧ 1 < g.1 k
/-- symbol k, of a unit that is taken, has this name -/
abbrev mHit (tk : Nat → Int32) (g : mTab) (w : Int64) (n : Int32) (k : Nat) : Prop := ¬ tk (g.2.2.2.2.1 k) = 0 ∧ g.2.2.1 k = n ∧ g.2.2.2.1 k = w
def mMeantL (tk : Nat → Int32) (g : mTab) (w : Int64) (n : Int32) : Nat → Nat → Int32 → Int32
  | 0, _, z => z
  | r + 1, k, z => if mHit tk g w n k then (if mGlob g k then nI k else mMeantL tk g w n r (k + 1) (if mWeak g k ∧ z < 0 then nI k else z)) else mMeantL tk g w n r (k + 1) z
def mMeant (tk : Nat → Int32) (g : mTab) (w : Int64) (n : Int32) : Int32 := mMeantL tk g w n g.2.2.2.2.2 0 (-1)
/-- units of symbols -/
def mI2 (s : mSt) (e : Nat → Nat → Nat) (U S : Nat) : Prop := ∀ k, k < S → s.2.1 11 k = nI (e 11 k) ∧ e 11 k < U
set_option maxRecDepth 20000 in
theorem l_M_meant {G : ax_G} {x : ax_X} {h0 : ax_H} {P : Option Value → ax_H → Prop} {m : Nat} (s : mSt) (e : Nat → Nat → Nat) (U S : Nat) (hUb : U ≤ 32) (hS : s.1 2 = nI S) (hSb : S ≤ 2048) (hI : mI2 s e U S) (h : ax_H) (hR : mR m s h) (w : Int64) (n : Int32) (hp : P (some (.int (mMeant (s.2.1 3) (mT s e S) w n))) h) : ∀ r k z, k + r = S → mMeant (s.2.1 3) (mT s e S) w n = mMeantL (s.2.1 3) (mT s e S) w n r k z → AW G x Y_M_meant 1 21 h0 P h 6 [some (.ref m), some (.long w), none, some (.int n), some (.int z), some (.int (nI k))] [] := by
  intro r
  induction r with
  | zero =>
    intro k z hk he
    have hkk : k = S := by omega
    subst hkk
    refine aw_iload d_M_meant_6 rfl ?_
    first | refine aw_aload_n d_M_meant_8 rfl rfl ?_ | refine aw_aload_nQ d_M_meant_8 rfl rfl ?_ | refine aw_aload_nN d_M_meant_8 rfl rfl ?_
    refine aM_get (by assumption) fl_M_129 (by decide) rfl d_M_meant_9 ?_
    refine aw_icmp_ge (tgt := 97) d_M_meant_12 (by decide) (fun c12 => ?_) (fun c12 => ?_)
    · refine aw_iload d_M_meant_97 rfl ?_
      refine aw_iret ?_ rfl d_M_meant_99
      rw [he] at hp
      exact hp
    · exact absurd (show s.1 2 ≤ nI k by rw [hS]; exact nI_le (Nat.le_refl _) (by omega)) c12
  | succ r ih =>
    intro k z hk he
    obtain ⟨u1, u2⟩ := hI k (by omega)
    have ks : k < 2048 := by omega
    rw [mMeantL] at he
    refine aw_iload d_M_meant_6 rfl ?_
    first | refine aw_aload_n d_M_meant_8 rfl rfl ?_ | refine aw_aload_nQ d_M_meant_8 rfl rfl ?_ | refine aw_aload_nN d_M_meant_8 rfl rfl ?_
    refine aM_get (by assumption) fl_M_129 (by decide) rfl d_M_meant_9 ?_
    refine aw_icmp_ge (tgt := 97) d_M_meant_12 (by decide) (fun c12 => ?_) (fun c12 => ?_)
    · exact absurd c12 (by rw [show s.1 2 = nI S from hS]; exact nI_ge (by omega) (by omega))
    · first | refine aw_aload_n d_M_meant_15 rfl rfl ?_ | refine aw_aload_nQ d_M_meant_15 rfl rfl ?_ | refine aw_aload_nN d_M_meant_15 rfl rfl ?_
      refine aM_get (by assumption) fl_M_16 (by decide) rfl d_M_meant_16 ?_
      first | refine aw_aload_n d_M_meant_19 rfl rfl ?_ | refine aw_aload_nQ d_M_meant_19 rfl rfl ?_ | refine aw_aload_nN d_M_meant_19 rfl rfl ?_
      refine aM_get (by assumption) fl_M_44 (by decide) rfl d_M_meant_20 ?_
      refine aw_iload d_M_meant_23 rfl ?_
      refine aM_iald (by assumption) (by decide) rfl rfl (show k < 2048 from ks) (by decide) d_M_meant_25 ?_
      refine aM_zald (by assumption) (by decide) rfl u1 (show e 11 k < 32 by omega) (by decide) d_M_meant_26 ?_
      refine aw_if_eq (tgt := 91) d_M_meant_27 (by decide) (fun c27 => ?_) (fun c27 => ?_)
      · refine aw_iinc (v := nI (k + 1)) d_M_meant_91 rfl (ax_inc k) (by decide) rfl ?_
        refine aw_goto (tgt := 6) d_M_meant_94 (by decide) ?_
        rw [if_neg (fun q : mHit (s.2.1 3) (mT s e S) w n k => q.1 c27)] at he
        exact ih (k + 1) _ (by omega) he
      · first | refine aw_aload_n d_M_meant_30 rfl rfl ?_ | refine aw_aload_nQ d_M_meant_30 rfl rfl ?_ | refine aw_aload_nN d_M_meant_30 rfl rfl ?_
        refine aM_get (by assumption) fl_M_41 (by decide) rfl d_M_meant_31 ?_
        refine aw_iload d_M_meant_34 rfl ?_
        refine aM_iald (by assumption) (by decide) rfl rfl (show k < 2048 from ks) (by decide) d_M_meant_36 ?_
        refine aw_iload_n d_M_meant_37 rfl rfl ?_
        refine aw_icmp_ne (tgt := 91) d_M_meant_38 (by decide) (fun c38 => ?_) (fun c38 => ?_)
        · refine aw_iinc (v := nI (k + 1)) d_M_meant_91 rfl (ax_inc k) (by decide) rfl ?_
          refine aw_goto (tgt := 6) d_M_meant_94 (by decide) ?_
          rw [if_neg (fun q : mHit (s.2.1 3) (mT s e S) w n k => c38 q.2.1)] at he
          exact ih (k + 1) _ (by omega) he
        · first | refine aw_aload_n d_M_meant_41 rfl rfl ?_ | refine aw_aload_nQ d_M_meant_41 rfl rfl ?_ | refine aw_aload_nN d_M_meant_41 rfl rfl ?_
          refine aM_get (by assumption) fl_M_37 (by decide) rfl d_M_meant_42 ?_
          refine aw_iload d_M_meant_45 rfl ?_
          refine aM_lald (by assumption) (by decide) rfl rfl (show k < 2048 from ks) (by decide) d_M_meant_47 ?_
          refine aw_lload_n d_M_meant_48 rfl rfl ?_
          refine aw_lcmp d_M_meant_49 ?_
          refine aw_if_eq (tgt := 56) d_M_meant_50 (by decide) (fun c50 => ?_) (fun c50 => ?_)
          · first | refine aw_aload_n d_M_meant_56 rfl rfl ?_ | refine aw_aload_nQ d_M_meant_56 rfl rfl ?_ | refine aw_aload_nN d_M_meant_56 rfl rfl ?_
            refine aw_iload d_M_meant_57 rfl ?_
            refine aw_callV (c_M_isGlobal G _ m s (by assumption) k ks) cl_M (mR.obj (by assumption)) m_M_isGlobal ml_M_165 rfl rfl (by decide) (by decide) (Nat.le_of_ble_eq_true rfl) d_M_meant_59 ?_
            rintro v h' ⟨rfl, rfl⟩
            refine aw_if_eq (tgt := 68) d_M_meant_62 (by decide) (fun c62 => ?_) (fun c62 => ?_)
            · first | refine aw_aload_n d_M_meant_68 rfl rfl ?_ | refine aw_aload_nQ d_M_meant_68 rfl rfl ?_ | refine aw_aload_nN d_M_meant_68 rfl rfl ?_
              refine aw_iload d_M_meant_69 rfl ?_
              refine aw_callV (c_M_isWeak G _ m s (by assumption) k ks) cl_M (mR.obj (by assumption)) m_M_isWeak ml_M_168 rfl rfl (by decide) (by decide) (Nat.le_of_ble_eq_true rfl) d_M_meant_71 ?_
              rintro v h' ⟨rfl, rfl⟩
              refine aw_if_eq (tgt := 87) d_M_meant_74 (by decide) (fun c74 => ?_) (fun c74 => ?_)
              · refine aw_iload d_M_meant_87 rfl ?_
                refine aw_istore d_M_meant_89 (by decide) rfl ?_
                refine aw_iinc (v := nI (k + 1)) d_M_meant_91 rfl (ax_inc k) (by decide) rfl ?_
                refine aw_goto (tgt := 6) d_M_meant_94 (by decide) ?_
                rw [if_pos (show mHit (s.2.1 3) (mT s e S) w n k from ⟨c27, c38, (lg_cmp_eq _ _).mp c50⟩), if_neg (fun q : mGlob (mT s e S) k => absurd c62 (by rw [zI, if_pos q]; decide)), if_neg (fun q => absurd c74 (by rw [zI, if_pos q.1]; decide))] at he
                exact ih (k + 1) _ (by omega) he
              · refine aw_iload d_M_meant_77 rfl ?_
                refine aw_if_ge (tgt := 87) d_M_meant_79 (by decide) (fun c79 => ?_) (fun c79 => ?_)
                · refine aw_iload d_M_meant_87 rfl ?_
                  refine aw_istore d_M_meant_89 (by decide) rfl ?_
                  refine aw_iinc (v := nI (k + 1)) d_M_meant_91 rfl (ax_inc k) (by decide) rfl ?_
                  refine aw_goto (tgt := 6) d_M_meant_94 (by decide) ?_
                  rw [if_pos (show mHit (s.2.1 3) (mT s e S) w n k from ⟨c27, c38, (lg_cmp_eq _ _).mp c50⟩), if_neg (fun q : mGlob (mT s e S) k => absurd c62 (by rw [zI, if_pos q]; decide)), if_neg (fun q => absurd c79 (Int32.not_le.mpr q.2))] at he
                  exact ih (k + 1) _ (by omega) he
                · refine aw_iload d_M_meant_82 rfl ?_
                  refine aw_goto (tgt := 89) d_M_meant_84 (by decide) ?_
                  refine aw_istore d_M_meant_89 (by decide) rfl ?_
                  refine aw_iinc (v := nI (k + 1)) d_M_meant_91 rfl (ax_inc k) (by decide) rfl ?_
                  refine aw_goto (tgt := 6) d_M_meant_94 (by decide) ?_
                  have hw : mWeak (mT s e S) k := by
                    by_cases q : mWeak (mT s e S) k
                    · exact q
                    · exact absurd (show zI (0 ≤ s.2.1 13 k ∧ 1 < s.2.1 12 k) = 0 by rw [zI, if_neg q]) c74
                  rw [if_pos (show mHit (s.2.1 3) (mT s e S) w n k from ⟨c27, c38, (lg_cmp_eq _ _).mp c50⟩), if_neg (fun q : mGlob (mT s e S) k => absurd c62 (by rw [zI, if_pos q]; decide)), if_pos ⟨hw, Int32.not_le.mp c79⟩] at he
                  exact ih (k + 1) _ (by omega) he
            · refine aw_iload d_M_meant_65 rfl ?_
              refine aw_iret ?_ rfl d_M_meant_67
              have hg : mGlob (mT s e S) k := by
                by_cases q : mGlob (mT s e S) k
                · exact q
                · exact absurd (show zI (0 ≤ s.2.1 13 k ∧ s.2.1 12 k = 1) = 0 by rw [zI, if_neg q]) c62
              rw [if_pos (show mHit (s.2.1 3) (mT s e S) w n k from ⟨c27, c38, (lg_cmp_eq _ _).mp c50⟩), if_pos hg] at he
              rw [he] at hp
              exact hp
          · refine aw_goto (tgt := 91) d_M_meant_53 (by decide) ?_
            refine aw_iinc (v := nI (k + 1)) d_M_meant_91 rfl (ax_inc k) (by decide) rfl ?_
            refine aw_goto (tgt := 6) d_M_meant_94 (by decide) ?_
            rw [if_neg (fun q : mHit (s.2.1 3) (mT s e S) w n k => c50 ((lg_cmp_eq _ _).mpr q.2.2))] at he
            exact ih (k + 1) _ (by omega) he
set_option maxRecDepth 20000 in
theorem c_M_meant (G : ax_G) (h : ax_H) (m : Nat) (s : mSt) (hR : mR m s h) (e : Nat → Nat → Nat) (U S : Nat) (hUb : U ≤ 32) (hS : s.1 2 = nI S) (hSb : S ≤ 2048) (hI : mI2 s e U S) (w : Int64) (n : Int32) : AM G Y_M_meant 1 21 [.ref m, .long w, .int n] h (fun v h2 => h2 = h ∧ v = some (.int (mMeant (s.2.1 3) (mT s e S) w n))) := by
  refine aw_enter (by decide) (Nat.le_of_ble_eq_true rfl) (n := 2) (ls := [some (.ref m), some (.long w), none, some (.int n), none, none]) rfl (fun x => ?_)
  refine aw_iconst (v := (-1)) d_M_meant_0 (by decide) ?_
  refine aw_istore d_M_meant_1 (by decide) rfl ?_
  refine aw_iconst (v := 0) d_M_meant_3 (by decide) ?_
  refine aw_istore d_M_meant_4 (by decide) rfl ?_
  exact l_M_meant s e U S hUb hS hSb hI h hR w n ⟨rfl, rfl⟩ S 0 _ (by omega) rfl
def mStands (tk : Nat → Int32) (g : mTab) (k : Nat) : Int32 := if 0 ≤ g.2.1 k ∧ g.1 k < 2 then nI k else if 0 ≤ mMeant tk g (g.2.2.2.1 k) (g.2.2.1 k) then mMeant tk g (g.2.2.2.1 k) (g.2.2.1 k) else if 1 < g.1 k then -2 else -1
