/-- a label's address -/
def mLab1 (ad pl : Nat → Int32) (e : Nat → Nat → Nat) (k : Nat) : Int32 := 4194304 + ad (4 * e 11 k + e 13 k) + pl k
set_option maxRecDepth 20000 in
theorem c_M_label (G : ax_G) (h : ax_H) (m : Nat) (s : mSt) (hR : mR m s h) (e : Nat → Nat → Nat) (U S : Nat) (hUb : U ≤ 32) (hSb : S ≤ 2048) (hI : mI2 s e U S) (hI3 : mI3 s e S) (k : Nat) (hk : k < S) (hk0 : 0 ≤ s.2.1 13 k) : AM G Y_M_labelAddress 0 0 [.ref m, .int (nI k)] h (fun v h2 => h2 = h ∧ v = some (.int (mLab1 (s.2.1 7) (s.2.1 14) e k))) := by
  obtain ⟨y1, y2⟩ := hI k hk
  obtain ⟨y3, y4⟩ := hI3.lab hk hk0
  have jb : k < 2048 := Nat.lt_of_lt_of_le hk hSb
  have ev : 4 * s.2.1 11 k + s.2.1 13 k = nI (4 * e 11 k + e 13 k) := by rw [y1, y4, show (4 : Int32) = nI 4 from rfl, pk_mul, nI_add]
  refine aw_enter (by decide) (Nat.le_of_ble_eq_true rfl) (n := 0) (ls := [some (.ref m), some (.int (nI k))]) rfl (fun x => ?_)
  refine aw_ldc kc_M_194 d_M_labelAddress_0 ?_
  first | refine aw_aload_n d_M_labelAddress_2 rfl rfl ?_ | refine aw_aload_nQ d_M_labelAddress_2 rfl rfl ?_ | refine aw_aload_nN d_M_labelAddress_2 rfl rfl ?_
  refine aM_get (by assumption) fl_M_29 (by decide) rfl d_M_labelAddress_3 ?_
  refine aw_iconst (v := 4) d_M_labelAddress_6 (by decide) ?_
  first | refine aw_aload_n d_M_labelAddress_7 rfl rfl ?_ | refine aw_aload_nQ d_M_labelAddress_7 rfl rfl ?_ | refine aw_aload_nN d_M_labelAddress_7 rfl rfl ?_
  refine aM_get (by assumption) fl_M_44 (by decide) rfl d_M_labelAddress_8 ?_
  refine aw_iload_n d_M_labelAddress_11 rfl rfl ?_
  refine aM_iald (by assumption) (by decide) rfl rfl jb (by decide) d_M_labelAddress_12 ?_
  refine aw_imul d_M_labelAddress_13 ?_
  first | refine aw_aload_n d_M_labelAddress_14 rfl rfl ?_ | refine aw_aload_nQ d_M_labelAddress_14 rfl rfl ?_ | refine aw_aload_nN d_M_labelAddress_14 rfl rfl ?_
  refine aM_get (by assumption) fl_M_50 (by decide) rfl d_M_labelAddress_15 ?_
  refine aw_iload_n d_M_labelAddress_18 rfl rfl ?_
  refine aM_iald (by assumption) (by decide) rfl rfl jb (by decide) d_M_labelAddress_19 ?_
  refine aw_iadd d_M_labelAddress_20 ?_
  refine aM_iald (by assumption) (by decide) rfl ev (show 4 * e 11 k + e 13 k < 128 by omega) (by decide) d_M_labelAddress_21 ?_
  refine aw_iadd d_M_labelAddress_22 ?_
  first | refine aw_aload_n d_M_labelAddress_23 rfl rfl ?_ | refine aw_aload_nQ d_M_labelAddress_23 rfl rfl ?_ | refine aw_aload_nN d_M_labelAddress_23 rfl rfl ?_
  refine aM_get (by assumption) fl_M_53 (by decide) rfl d_M_labelAddress_24 ?_
  refine aw_iload_n d_M_labelAddress_27 rfl rfl ?_
  refine aM_iald (by assumption) (by decide) rfl rfl jb (by decide) d_M_labelAddress_28 ?_
  refine aw_iadd d_M_labelAddress_29 ?_
  refine aw_iret ?_ rfl d_M_labelAddress_30
  exact ⟨rfl, rfl⟩
theorem c_M_labelE (G : ax_G) (h : ax_H) (m : Nat) (s : mSt) (hR : mR m s h) (e : Nat → Nat → Nat) (U S : Nat) (hUb : U ≤ 32) (hSb : S ≤ 2048) (hI : mI2 s e U S) (hI3 : mI3 s e S) (k : Nat) (hk : k < S) (hk0 : 0 ≤ s.2.1 13 k) (z : Int32) (hz : z = nI k) : AM G Y_M_labelAddress 0 0 [.ref m, .int z] h (fun v h2 => h2 = h ∧ v = some (.int (mLab1 (s.2.1 7) (s.2.1 14) e k))) := by
  subst hz
  exact c_M_label G h m s hR e U S hUb hSb hI hI3 k hk hk0
/-- what w waits for: an address -/
def mAdr (tk : Nat → Int32) (g : mTab) (e : Nat → Nat → Nat) (ad pl : Nat → Int32) (w : Nat) : Int64 := if e 22 w = 0 then 0 else if e 22 w < 5 then (4194304 + ad (4 * e 17 w + (e 22 w - 1))).toInt64 else if mStands tk g (e 22 w - 5) < 0 then 0 else (mLab1 ad pl e (iN (mStands tk g (e 22 w - 5)))).toInt64
def mRel (e : Nat → Nat → Nat) (ad nx : Nat → Int32) (w : Nat) : Int64 := if nx w < 0 then 0 else (4194304 + ad (4 * e 17 w + e 18 w) + nx w).toInt64
/-- the value that w waits for -/
def mVal (s : mSt) (e : Nat → Nat → Nat) (S w : Nat) : Int64 := s.2.2 24 w + mAdr (s.2.1 3) (mT s e S) e (s.2.1 7) (s.2.1 14) w - mRel e (s.2.1 7) (s.2.1 21) w
theorem i_m4 {c : Nat} (h : c < 4) : ¬ -1 ≤ (-2 - nI c : Int32) := by
  match c, h with
  | 0, _ => decide
  | 1, _ => decide
  | 2, _ => decide
  | 3, _ => decide
theorem i_p2 {k : Nat} {z : Int32} (h : k < 2 ^ 31) (hz : z = nI k) : -1 ≤ z := Int32.le_trans (by decide) (i_p1 h hz)
set_option maxRecDepth 20000 in
theorem c_M_valueOf (G : ax_G) (h : ax_H) (m : Nat) (s : mSt) (hR : mR m s h) (e : Nat → Nat → Nat) (U S W : Nat) (hUb : U ≤ 32) (hS : s.1 2 = nI S) (hSb : S ≤ 2048) (hW : s.1 3 = nI W) (hWb : W ≤ 4096) (hI : mI2 s e U S) (hI3 : mI3 s e S) (hI4 : mI4 s e U S W) (w : Nat) (hw : w < W) : AM G Y_M_valueOf 3 68 [.ref m, .int (nI w)] h (fun v h2 => h2 = h ∧ v = some (.long (mVal s e S w))) := by
  obtain ⟨⟨u1, u2⟩, ⟨v1, v2⟩, hwt⟩ := hI4 w (by omega)
  have ks : w < 4096 := by omega
  have i1 : 4 * s.2.1 17 w + s.2.1 18 w = nI (mSrc e w) := by rw [u1, v1, show (4 : Int32) = nI 4 from rfl, pk_mul, nI_add]
  refine aw_enter (by decide) (Nat.le_of_ble_eq_true rfl) (n := 5) (ls := [some (.ref m), some (.int (nI w)), none, none, none, none, none]) rfl (fun x => ?_)
  first | refine aw_aload_n d_M_valueOf_0 rfl rfl ?_ | refine aw_aload_nQ d_M_valueOf_0 rfl rfl ?_ | refine aw_aload_nN d_M_valueOf_0 rfl rfl ?_
  refine aM_get (by assumption) fl_M_62 (by decide) rfl d_M_valueOf_1 ?_
  refine aw_iload_n d_M_valueOf_4 rfl rfl ?_
  refine aM_iald (by assumption) (by decide) rfl rfl (show w < 4096 from ks) (by decide) d_M_valueOf_5 ?_
  refine aw_istore_n d_M_valueOf_6 rfl (by decide) rfl ?_
  first | refine aw_aload_n d_M_valueOf_7 rfl rfl ?_ | refine aw_aload_nQ d_M_valueOf_7 rfl rfl ?_ | refine aw_aload_nN d_M_valueOf_7 rfl rfl ?_
  refine aM_get (by assumption) fl_M_77 (by decide) rfl d_M_valueOf_8 ?_
  refine aw_iload_n d_M_valueOf_11 rfl rfl ?_
  refine aM_iald (by assumption) (by decide) rfl rfl (show w < 4096 from ks) (by decide) d_M_valueOf_12 ?_
  refine aw_istore_n d_M_valueOf_13 rfl (by decide) rfl ?_
  first | refine aw_aload_n d_M_valueOf_14 rfl rfl ?_ | refine aw_aload_nQ d_M_valueOf_14 rfl rfl ?_ | refine aw_aload_nN d_M_valueOf_14 rfl rfl ?_
  refine aM_get (by assumption) fl_M_83 (by decide) rfl d_M_valueOf_15 ?_
  refine aw_iload_n d_M_valueOf_18 rfl rfl ?_
  refine aM_lald (by assumption) (by decide) rfl rfl (show w < 4096 from ks) (by decide) d_M_valueOf_19 ?_
  refine aw_lstore d_M_valueOf_20 (by decide) rfl ?_
  refine aw_iload_n d_M_valueOf_22 rfl rfl ?_
  refine aw_if_ge (tgt := 30) d_M_valueOf_23 (by decide) (fun c23 => ?_) (fun c23 => ?_)
  · obtain ⟨k, h1, h2, h3⟩ : ∃ k, k < S ∧ e 22 w = k + 5 ∧ s.2.1 22 w = nI k := (hwt.resolve_left (fun q => absurd (q.2 ▸ c23) (by decide))).resolve_left (fun ⟨c, q1, _, q3⟩ => i_m3 q1 (q3 ▸ c23))
    first | refine aw_aload_n d_M_valueOf_30 rfl rfl ?_ | refine aw_aload_nQ d_M_valueOf_30 rfl rfl ?_ | refine aw_aload_nN d_M_valueOf_30 rfl rfl ?_
    refine aw_iload_n d_M_valueOf_31 rfl rfl ?_
    refine aw_callV (c_M_standsForE G _ m _ hR e U S hUb hS hSb hI k h1 _ h3) cl_M (mR.obj (by assumption)) m_M_standsFor ml_M_188 rfl rfl (by decide) (by decide) (Nat.le_of_ble_eq_true rfl) d_M_valueOf_32 ?_
    rintro v h' ⟨rfl, rfl⟩
    refine aw_istore d_M_valueOf_35 (by decide) rfl ?_
    refine aw_iload d_M_valueOf_37 rfl ?_
    refine aw_if_lt (tgt := 54) d_M_valueOf_39 (by decide) (fun c39 => ?_) (fun c39 => ?_)
    · refine aw_iload_n d_M_valueOf_54 rfl rfl ?_
      refine aw_iconst (v := (-1)) d_M_valueOf_55 (by decide) ?_
      refine aw_icmp_ge (tgt := 80) d_M_valueOf_56 (by decide) (fun c56 => ?_) (fun c56 => ?_)
      · have ea : mAdr (s.2.1 3) (mT s e S) e (s.2.1 7) (s.2.1 14) w = 0 := by rw [mAdr, h2, if_neg (by omega), if_neg (by omega)]; exact if_pos c39
        first | refine aw_aload_n d_M_valueOf_80 rfl rfl ?_ | refine aw_aload_nQ d_M_valueOf_80 rfl rfl ?_ | refine aw_aload_nN d_M_valueOf_80 rfl rfl ?_
        refine aM_get (by assumption) fl_M_74 (by decide) rfl d_M_valueOf_81 ?_
        refine aw_iload_n d_M_valueOf_84 rfl rfl ?_
        refine aM_iald (by assumption) (by decide) rfl rfl (show w < 4096 from ks) (by decide) d_M_valueOf_85 ?_
        refine aw_if_lt (tgt := 120) d_M_valueOf_86 (by decide) (fun c86 => ?_) (fun c86 => ?_)
        · refine aw_lload d_M_valueOf_120 rfl ?_
          refine aw_lret ?_ rfl d_M_valueOf_122
          refine ⟨rfl, ?_⟩
          rw [mVal, ea, mRel, if_pos c86, Int64.add_zero, Int64.sub_zero]
        · refine aw_lload d_M_valueOf_89 rfl ?_
          refine aw_ldc kc_M_194 d_M_valueOf_91 ?_
          first | refine aw_aload_n d_M_valueOf_93 rfl rfl ?_ | refine aw_aload_nQ d_M_valueOf_93 rfl rfl ?_ | refine aw_aload_nN d_M_valueOf_93 rfl rfl ?_
          refine aM_get (by assumption) fl_M_29 (by decide) rfl d_M_valueOf_94 ?_
          refine aw_iconst (v := 4) d_M_valueOf_97 (by decide) ?_
          refine aw_iload_n d_M_valueOf_98 rfl rfl ?_
          refine aw_imul d_M_valueOf_99 ?_
          first | refine aw_aload_n d_M_valueOf_100 rfl rfl ?_ | refine aw_aload_nQ d_M_valueOf_100 rfl rfl ?_ | refine aw_aload_nN d_M_valueOf_100 rfl rfl ?_
          refine aM_get (by assumption) fl_M_65 (by decide) rfl d_M_valueOf_101 ?_
          refine aw_iload_n d_M_valueOf_104 rfl rfl ?_
          refine aM_iald (by assumption) (by decide) rfl rfl (show w < 4096 from ks) (by decide) d_M_valueOf_105 ?_
          refine aw_iadd d_M_valueOf_106 ?_
          refine aM_iald (by assumption) (by decide) rfl i1 (show 4 * e 17 w + e 18 w < 128 by omega) (by decide) d_M_valueOf_107 ?_
          refine aw_iadd d_M_valueOf_108 ?_
          first | refine aw_aload_n d_M_valueOf_109 rfl rfl ?_ | refine aw_aload_nQ d_M_valueOf_109 rfl rfl ?_ | refine aw_aload_nN d_M_valueOf_109 rfl rfl ?_
          refine aM_get (by assumption) fl_M_74 (by decide) rfl d_M_valueOf_110 ?_
          refine aw_iload_n d_M_valueOf_113 rfl rfl ?_
          refine aM_iald (by assumption) (by decide) rfl rfl (show w < 4096 from ks) (by decide) d_M_valueOf_114 ?_
          refine aw_iadd d_M_valueOf_115 ?_
          refine aw_i2l d_M_valueOf_116 ?_
          refine aw_lsub d_M_valueOf_117 ?_
          refine aw_lstore d_M_valueOf_118 (by decide) rfl ?_
          refine aw_lload d_M_valueOf_120 rfl ?_
          refine aw_lret ?_ rfl d_M_valueOf_122
          refine ⟨rfl, ?_⟩
          rw [mVal, ea, mRel, if_neg c86, Int64.add_zero]
      · exact absurd (i_p2 (by omega) h3) c56
    · obtain ⟨j, j1, j2, j3⟩ := (mStands_lab (s.2.1 3) (mT s e S) k h1).resolve_left (fun q => c39 q.1)
      have jb : j < 2048 := Nat.lt_of_lt_of_le j1 hSb
      refine aw_lload d_M_valueOf_42 rfl ?_
      first | refine aw_aload_n d_M_valueOf_44 rfl rfl ?_ | refine aw_aload_nQ d_M_valueOf_44 rfl rfl ?_ | refine aw_aload_nN d_M_valueOf_44 rfl rfl ?_
      refine aw_iload d_M_valueOf_45 rfl ?_
      refine aw_callV (c_M_labelE G _ m _ hR e U S hUb hSb hI hI3 j j1 j3 _ j2) cl_M (mR.obj (by assumption)) m_M_labelAddress ml_M_195 rfl rfl (by decide) (by decide) (Nat.le_of_ble_eq_true rfl) d_M_valueOf_47 ?_
      rintro v h' ⟨rfl, rfl⟩
      refine aw_i2l d_M_valueOf_50 ?_
      refine aw_ladd d_M_valueOf_51 ?_
      refine aw_lstore d_M_valueOf_52 (by decide) rfl ?_
      refine aw_iload_n d_M_valueOf_54 rfl rfl ?_
      refine aw_iconst (v := (-1)) d_M_valueOf_55 (by decide) ?_
      refine aw_icmp_ge (tgt := 80) d_M_valueOf_56 (by decide) (fun c56 => ?_) (fun c56 => ?_)
      · have ea : mAdr (s.2.1 3) (mT s e S) e (s.2.1 7) (s.2.1 14) w = (mLab1 (s.2.1 7) (s.2.1 14) e j).toInt64 := by rw [mAdr, h2, if_neg (by omega), if_neg (by omega)]; exact (if_neg c39).trans (by rw [show k + 5 - 5 = k from rfl, j2, iN, nI_clamp (by omega)])
        first | refine aw_aload_n d_M_valueOf_80 rfl rfl ?_ | refine aw_aload_nQ d_M_valueOf_80 rfl rfl ?_ | refine aw_aload_nN d_M_valueOf_80 rfl rfl ?_
        refine aM_get (by assumption) fl_M_74 (by decide) rfl d_M_valueOf_81 ?_
        refine aw_iload_n d_M_valueOf_84 rfl rfl ?_
        refine aM_iald (by assumption) (by decide) rfl rfl (show w < 4096 from ks) (by decide) d_M_valueOf_85 ?_
        refine aw_if_lt (tgt := 120) d_M_valueOf_86 (by decide) (fun c86 => ?_) (fun c86 => ?_)
        · refine aw_lload d_M_valueOf_120 rfl ?_
          refine aw_lret ?_ rfl d_M_valueOf_122
          refine ⟨rfl, ?_⟩
          rw [mVal, ea, mRel, if_pos c86, Int64.sub_zero]
        · refine aw_lload d_M_valueOf_89 rfl ?_
          refine aw_ldc kc_M_194 d_M_valueOf_91 ?_
          first | refine aw_aload_n d_M_valueOf_93 rfl rfl ?_ | refine aw_aload_nQ d_M_valueOf_93 rfl rfl ?_ | refine aw_aload_nN d_M_valueOf_93 rfl rfl ?_
          refine aM_get (by assumption) fl_M_29 (by decide) rfl d_M_valueOf_94 ?_
          refine aw_iconst (v := 4) d_M_valueOf_97 (by decide) ?_
          refine aw_iload_n d_M_valueOf_98 rfl rfl ?_
          refine aw_imul d_M_valueOf_99 ?_
          first | refine aw_aload_n d_M_valueOf_100 rfl rfl ?_ | refine aw_aload_nQ d_M_valueOf_100 rfl rfl ?_ | refine aw_aload_nN d_M_valueOf_100 rfl rfl ?_
          refine aM_get (by assumption) fl_M_65 (by decide) rfl d_M_valueOf_101 ?_
          refine aw_iload_n d_M_valueOf_104 rfl rfl ?_
          refine aM_iald (by assumption) (by decide) rfl rfl (show w < 4096 from ks) (by decide) d_M_valueOf_105 ?_
          refine aw_iadd d_M_valueOf_106 ?_
          refine aM_iald (by assumption) (by decide) rfl i1 (show 4 * e 17 w + e 18 w < 128 by omega) (by decide) d_M_valueOf_107 ?_
          refine aw_iadd d_M_valueOf_108 ?_
          first | refine aw_aload_n d_M_valueOf_109 rfl rfl ?_ | refine aw_aload_nQ d_M_valueOf_109 rfl rfl ?_ | refine aw_aload_nN d_M_valueOf_109 rfl rfl ?_
          refine aM_get (by assumption) fl_M_74 (by decide) rfl d_M_valueOf_110 ?_
          refine aw_iload_n d_M_valueOf_113 rfl rfl ?_
          refine aM_iald (by assumption) (by decide) rfl rfl (show w < 4096 from ks) (by decide) d_M_valueOf_114 ?_
          refine aw_iadd d_M_valueOf_115 ?_
          refine aw_i2l d_M_valueOf_116 ?_
          refine aw_lsub d_M_valueOf_117 ?_
          refine aw_lstore d_M_valueOf_118 (by decide) rfl ?_
          refine aw_lload d_M_valueOf_120 rfl ?_
          refine aw_lret ?_ rfl d_M_valueOf_122
          refine ⟨rfl, ?_⟩
          rw [mVal, ea, mRel, if_neg c86]
      · exact absurd (i_p2 (by omega) h3) c56
  · refine aw_iconst (v := (-1)) d_M_valueOf_26 (by decide) ?_
    refine aw_goto (tgt := 35) d_M_valueOf_27 (by decide) ?_
    refine aw_istore d_M_valueOf_35 (by decide) rfl ?_
    refine aw_iload d_M_valueOf_37 rfl ?_
    refine aw_if_lt (tgt := 54) d_M_valueOf_39 (by decide) (fun c39 => ?_) (fun c39 => ?_)
    · refine aw_iload_n d_M_valueOf_54 rfl rfl ?_
      refine aw_iconst (v := (-1)) d_M_valueOf_55 (by decide) ?_
      refine aw_icmp_ge (tgt := 80) d_M_valueOf_56 (by decide) (fun c56 => ?_) (fun c56 => ?_)
      · have e0 : e 22 w = 0 := by
          rcases hwt with h1 | ⟨c, h1, h2, h3⟩ | ⟨k, h1, h2, h3⟩
          · exact h1.1
          · exact absurd (h3 ▸ c56) (i_m4 h1)
          · exact absurd (i_p1 (by omega) h3) c23
        have ea : mAdr (s.2.1 3) (mT s e S) e (s.2.1 7) (s.2.1 14) w = 0 := by rw [mAdr, if_pos e0]
        first | refine aw_aload_n d_M_valueOf_80 rfl rfl ?_ | refine aw_aload_nQ d_M_valueOf_80 rfl rfl ?_ | refine aw_aload_nN d_M_valueOf_80 rfl rfl ?_
        refine aM_get (by assumption) fl_M_74 (by decide) rfl d_M_valueOf_81 ?_
        refine aw_iload_n d_M_valueOf_84 rfl rfl ?_
        refine aM_iald (by assumption) (by decide) rfl rfl (show w < 4096 from ks) (by decide) d_M_valueOf_85 ?_
        refine aw_if_lt (tgt := 120) d_M_valueOf_86 (by decide) (fun c86 => ?_) (fun c86 => ?_)
        · refine aw_lload d_M_valueOf_120 rfl ?_
          refine aw_lret ?_ rfl d_M_valueOf_122
          refine ⟨rfl, ?_⟩
          rw [mVal, ea, mRel, if_pos c86, Int64.add_zero, Int64.sub_zero]
        · refine aw_lload d_M_valueOf_89 rfl ?_
          refine aw_ldc kc_M_194 d_M_valueOf_91 ?_
          first | refine aw_aload_n d_M_valueOf_93 rfl rfl ?_ | refine aw_aload_nQ d_M_valueOf_93 rfl rfl ?_ | refine aw_aload_nN d_M_valueOf_93 rfl rfl ?_
          refine aM_get (by assumption) fl_M_29 (by decide) rfl d_M_valueOf_94 ?_
          refine aw_iconst (v := 4) d_M_valueOf_97 (by decide) ?_
          refine aw_iload_n d_M_valueOf_98 rfl rfl ?_
          refine aw_imul d_M_valueOf_99 ?_
          first | refine aw_aload_n d_M_valueOf_100 rfl rfl ?_ | refine aw_aload_nQ d_M_valueOf_100 rfl rfl ?_ | refine aw_aload_nN d_M_valueOf_100 rfl rfl ?_
          refine aM_get (by assumption) fl_M_65 (by decide) rfl d_M_valueOf_101 ?_
          refine aw_iload_n d_M_valueOf_104 rfl rfl ?_
          refine aM_iald (by assumption) (by decide) rfl rfl (show w < 4096 from ks) (by decide) d_M_valueOf_105 ?_
          refine aw_iadd d_M_valueOf_106 ?_
          refine aM_iald (by assumption) (by decide) rfl i1 (show 4 * e 17 w + e 18 w < 128 by omega) (by decide) d_M_valueOf_107 ?_
          refine aw_iadd d_M_valueOf_108 ?_
          first | refine aw_aload_n d_M_valueOf_109 rfl rfl ?_ | refine aw_aload_nQ d_M_valueOf_109 rfl rfl ?_ | refine aw_aload_nN d_M_valueOf_109 rfl rfl ?_
          refine aM_get (by assumption) fl_M_74 (by decide) rfl d_M_valueOf_110 ?_
          refine aw_iload_n d_M_valueOf_113 rfl rfl ?_
          refine aM_iald (by assumption) (by decide) rfl rfl (show w < 4096 from ks) (by decide) d_M_valueOf_114 ?_
          refine aw_iadd d_M_valueOf_115 ?_
          refine aw_i2l d_M_valueOf_116 ?_
          refine aw_lsub d_M_valueOf_117 ?_
          refine aw_lstore d_M_valueOf_118 (by decide) rfl ?_
          refine aw_lload d_M_valueOf_120 rfl ?_
          refine aw_lret ?_ rfl d_M_valueOf_122
          refine ⟨rfl, ?_⟩
          rw [mVal, ea, mRel, if_neg c86, Int64.add_zero]
      · obtain ⟨c, h1, h2, h3⟩ : ∃ c, c < 4 ∧ e 22 w = c + 1 ∧ s.2.1 22 w = -2 - nI c := (hwt.resolve_left (fun q => c56 (Int32.le_of_eq q.2.symm))).resolve_right (fun ⟨k, q1, _, q3⟩ => c23 (i_p1 (by omega) q3))
        have ev : 4 * s.2.1 17 w - 2 - s.2.1 22 w = nI (4 * e 17 w + c) := by rw [h3, i_sub2, u1, show (4 : Int32) = nI 4 from rfl, pk_mul, nI_add]
        refine aw_lload d_M_valueOf_59 rfl ?_
        refine aw_ldc kc_M_194 d_M_valueOf_61 ?_
        first | refine aw_aload_n d_M_valueOf_63 rfl rfl ?_ | refine aw_aload_nQ d_M_valueOf_63 rfl rfl ?_ | refine aw_aload_nN d_M_valueOf_63 rfl rfl ?_
        refine aM_get (by assumption) fl_M_29 (by decide) rfl d_M_valueOf_64 ?_
        refine aw_iconst (v := 4) d_M_valueOf_67 (by decide) ?_
        refine aw_iload_n d_M_valueOf_68 rfl rfl ?_
        refine aw_imul d_M_valueOf_69 ?_
        refine aw_iconst (v := 2) d_M_valueOf_70 (by decide) ?_
        refine aw_isub d_M_valueOf_71 ?_
        refine aw_iload_n d_M_valueOf_72 rfl rfl ?_
        refine aw_isub d_M_valueOf_73 ?_
        refine aM_iald (by assumption) (by decide) rfl ev (show 4 * e 17 w + c < 128 by omega) (by decide) d_M_valueOf_74 ?_
        refine aw_iadd d_M_valueOf_75 ?_
        refine aw_i2l d_M_valueOf_76 ?_
        refine aw_ladd d_M_valueOf_77 ?_
        refine aw_lstore d_M_valueOf_78 (by decide) rfl ?_
        have ea : mAdr (s.2.1 3) (mT s e S) e (s.2.1 7) (s.2.1 14) w = (4194304 + s.2.1 7 (4 * e 17 w + c)).toInt64 := by rw [mAdr, if_neg (by omega), if_pos (by omega), h2]; rfl
        first | refine aw_aload_n d_M_valueOf_80 rfl rfl ?_ | refine aw_aload_nQ d_M_valueOf_80 rfl rfl ?_ | refine aw_aload_nN d_M_valueOf_80 rfl rfl ?_
        refine aM_get (by assumption) fl_M_74 (by decide) rfl d_M_valueOf_81 ?_
        refine aw_iload_n d_M_valueOf_84 rfl rfl ?_
        refine aM_iald (by assumption) (by decide) rfl rfl (show w < 4096 from ks) (by decide) d_M_valueOf_85 ?_
        refine aw_if_lt (tgt := 120) d_M_valueOf_86 (by decide) (fun c86 => ?_) (fun c86 => ?_)
        · refine aw_lload d_M_valueOf_120 rfl ?_
          refine aw_lret ?_ rfl d_M_valueOf_122
          refine ⟨rfl, ?_⟩
          rw [mVal, ea, mRel, if_pos c86, Int64.sub_zero]
        · refine aw_lload d_M_valueOf_89 rfl ?_
          refine aw_ldc kc_M_194 d_M_valueOf_91 ?_
          first | refine aw_aload_n d_M_valueOf_93 rfl rfl ?_ | refine aw_aload_nQ d_M_valueOf_93 rfl rfl ?_ | refine aw_aload_nN d_M_valueOf_93 rfl rfl ?_
          refine aM_get (by assumption) fl_M_29 (by decide) rfl d_M_valueOf_94 ?_
          refine aw_iconst (v := 4) d_M_valueOf_97 (by decide) ?_
          refine aw_iload_n d_M_valueOf_98 rfl rfl ?_
          refine aw_imul d_M_valueOf_99 ?_
          first | refine aw_aload_n d_M_valueOf_100 rfl rfl ?_ | refine aw_aload_nQ d_M_valueOf_100 rfl rfl ?_ | refine aw_aload_nN d_M_valueOf_100 rfl rfl ?_
          refine aM_get (by assumption) fl_M_65 (by decide) rfl d_M_valueOf_101 ?_
          refine aw_iload_n d_M_valueOf_104 rfl rfl ?_
          refine aM_iald (by assumption) (by decide) rfl rfl (show w < 4096 from ks) (by decide) d_M_valueOf_105 ?_
          refine aw_iadd d_M_valueOf_106 ?_
          refine aM_iald (by assumption) (by decide) rfl i1 (show 4 * e 17 w + e 18 w < 128 by omega) (by decide) d_M_valueOf_107 ?_
          refine aw_iadd d_M_valueOf_108 ?_
          first | refine aw_aload_n d_M_valueOf_109 rfl rfl ?_ | refine aw_aload_nQ d_M_valueOf_109 rfl rfl ?_ | refine aw_aload_nN d_M_valueOf_109 rfl rfl ?_
          refine aM_get (by assumption) fl_M_74 (by decide) rfl d_M_valueOf_110 ?_
          refine aw_iload_n d_M_valueOf_113 rfl rfl ?_
          refine aM_iald (by assumption) (by decide) rfl rfl (show w < 4096 from ks) (by decide) d_M_valueOf_114 ?_
          refine aw_iadd d_M_valueOf_115 ?_
          refine aw_i2l d_M_valueOf_116 ?_
          refine aw_lsub d_M_valueOf_117 ?_
          refine aw_lstore d_M_valueOf_118 (by decide) rfl ?_
          refine aw_lload d_M_valueOf_120 rfl ?_
          refine aw_lret ?_ rfl d_M_valueOf_122
          refine ⟨rfl, ?_⟩
          rw [mVal, ea, mRel, if_neg c86]
    · exact absurd (by decide) c39
/-- w waits for a symbol that is nowhere -/
abbrev mMs (tk : Nat → Int32) (g : mTab) (e : Nat → Nat → Nat) (w : Nat) : Prop := 5 ≤ e 22 w ∧ mStands tk g (e 22 w - 5) = -1
abbrev mWg (s : mSt) (e : Nat → Nat → Nat) (S w : Nat) : Prop := mMs (s.2.1 3) (mT s e S) e w ∨ (s.2.1 20 w = 4 ∧ ¬ mVal s e S w = (mVal s e S w).toInt32.toInt64)
abbrev mEar (wu wl : Nat → Int32) (b : Int32) (w : Nat) : Prop := b < 0 ∨ wu w < wu (iN b) ∨ (wu w = wu (iN b) ∧ wl w < wl (iN b))
def mWrL (s : mSt) (e : Nat → Nat → Nat) (S : Nat) : Nat → Nat → Int32 × Int32 → Int32 × Int32
  | 0, _, a => a
  | r + 1, w, a => mWrL s e S r (w + 1) (if ¬ s.2.1 4 (mSrc e w) = 0 ∧ mWg s e S w ∧ mEar (s.2.1 17) (s.2.1 23) a.1 w then (nI w, if mMs (s.2.1 3) (mT s e S) e w then 3 else 4) else a)
def mWrong (s : mSt) (e : Nat → Nat → Nat) (S W : Nat) : mSt := if (mWrL s e S W 0 (-1, 0)).1 < 0 then s else mFail s (mWrL s e S W 0 (-1, 0)).2 (s.2.1 17 (iN (mWrL s e S W 0 (-1, 0)).1)) (s.2.1 23 (iN (mWrL s e S W 0 (-1, 0)).1))
set_option maxRecDepth 20000 in
theorem t_M_wrong {G : ax_G} {x : ax_X} {h0 : ax_H} {P : Option Value → ax_H → Prop} {m : Nat} (s : mSt) (w : Nat) (ks : w < 4096) (b hw mz wz : Int32) (o5 o6 o8 : Option Value) (h : ax_H) (hR : mR m s h) (hb : b = -1 ∨ ∃ j, j < 4096 ∧ b = nI j) (k0 : ∀ o8, ¬ (¬ wz = 0 ∧ mEar (s.2.1 17) (s.2.1 23) b w) → AW G x Y_M_findWrong 4 94 h0 P h 200 [some (.ref m), some (.int b), some (.int hw), some (.int (nI w)), some (.int mz), o5, o6, some (.int wz), o8] []) (k1 : ∀ o8 (hz : Int32), hz = (if mz = 0 then 4 else 3) → ¬ wz = 0 ∧ mEar (s.2.1 17) (s.2.1 23) b w → AW G x Y_M_findWrong 4 94 h0 P h 200 [some (.ref m), some (.int (nI w)), some (.int hz), some (.int (nI w)), some (.int mz), o5, o6, some (.int wz), o8] []) : AW G x Y_M_findWrong 4 94 h0 P h 118 [some (.ref m), some (.int b), some (.int hw), some (.int (nI w)), some (.int mz), o5, o6, some (.int wz), o8] [] := by
  rcases hb with rfl | ⟨j, jb, rfl⟩
  ·
    refine aw_iload_n d_M_findWrong_118 rfl rfl ?_
    refine aw_if_lt (tgt := 167) d_M_findWrong_119 (by decide) (fun c119 => ?_) (fun c119 => ?_)
    · refine aw_iconst (v := 1) d_M_findWrong_167 (by decide) ?_
      refine aw_goto (tgt := 172) d_M_findWrong_168 (by decide) ?_
      refine aw_istore d_M_findWrong_172 (by decide) rfl ?_
      refine aw_iload d_M_findWrong_174 rfl ?_
      refine aw_if_eq (tgt := 200) d_M_findWrong_176 (by decide) (fun c176 => ?_) (fun c176 => ?_)
      · exact k0 _ (fun q => q.1 c176)
      · refine aw_iload d_M_findWrong_179 rfl ?_
        refine aw_if_ne (tgt := 187) d_M_findWrong_181 (by decide) (fun c181 => ?_) (fun c181 => ?_)
        · refine aw_iload_n d_M_findWrong_187 rfl rfl ?_
          refine aw_istore_n d_M_findWrong_188 rfl (by decide) rfl ?_
          refine aw_iload d_M_findWrong_189 rfl ?_
          refine aw_if_eq (tgt := 198) d_M_findWrong_191 (by decide) (fun c191 => ?_) (fun c191 => ?_)
          · refine aw_iconst (v := 4) d_M_findWrong_198 (by decide) ?_
            refine aw_istore_n d_M_findWrong_199 rfl (by decide) rfl ?_
            exact k1 _ _ (if_pos c191).symm ⟨c176, Or.inl (by decide)⟩
          · refine aw_iconst (v := 3) d_M_findWrong_194 (by decide) ?_
            refine aw_goto (tgt := 199) d_M_findWrong_195 (by decide) ?_
            refine aw_istore_n d_M_findWrong_199 rfl (by decide) rfl ?_
            exact k1 _ _ (if_neg c191).symm ⟨c176, Or.inl (by decide)⟩
        · exact absurd c181 (by decide)
    · exact absurd (by decide) c119
  · have ej : iN (nI j) = j := nI_clamp (by omega)
    refine aw_iload_n d_M_findWrong_118 rfl rfl ?_
    refine aw_if_lt (tgt := 167) d_M_findWrong_119 (by decide) (fun c119 => ?_) (fun c119 => ?_)
    · exact absurd c119 (nI_pos (by omega))
    · first | refine aw_aload_n d_M_findWrong_122 rfl rfl ?_ | refine aw_aload_nQ d_M_findWrong_122 rfl rfl ?_ | refine aw_aload_nN d_M_findWrong_122 rfl rfl ?_
      refine aM_get (by assumption) fl_M_62 (by decide) rfl d_M_findWrong_123 ?_
      refine aw_iload_n d_M_findWrong_126 rfl rfl ?_
      refine aM_iald (by assumption) (by decide) rfl rfl (show w < 4096 from ks) (by decide) d_M_findWrong_127 ?_
      first | refine aw_aload_n d_M_findWrong_128 rfl rfl ?_ | refine aw_aload_nQ d_M_findWrong_128 rfl rfl ?_ | refine aw_aload_nN d_M_findWrong_128 rfl rfl ?_
      refine aM_get (by assumption) fl_M_62 (by decide) rfl d_M_findWrong_129 ?_
      refine aw_iload_n d_M_findWrong_132 rfl rfl ?_
      refine aM_iald (by assumption) (by decide) rfl rfl (show j < 4096 from jb) (by decide) d_M_findWrong_133 ?_
      refine aw_icmp_lt (tgt := 167) d_M_findWrong_134 (by decide) (fun c134 => ?_) (fun c134 => ?_)
      · refine aw_iconst (v := 1) d_M_findWrong_167 (by decide) ?_
        refine aw_goto (tgt := 172) d_M_findWrong_168 (by decide) ?_
        refine aw_istore d_M_findWrong_172 (by decide) rfl ?_
        refine aw_iload d_M_findWrong_174 rfl ?_
        refine aw_if_eq (tgt := 200) d_M_findWrong_176 (by decide) (fun c176 => ?_) (fun c176 => ?_)
        · exact k0 _ (fun q => q.1 c176)
        · refine aw_iload d_M_findWrong_179 rfl ?_
          refine aw_if_ne (tgt := 187) d_M_findWrong_181 (by decide) (fun c181 => ?_) (fun c181 => ?_)
          · refine aw_iload_n d_M_findWrong_187 rfl rfl ?_
            refine aw_istore_n d_M_findWrong_188 rfl (by decide) rfl ?_
            refine aw_iload d_M_findWrong_189 rfl ?_
            refine aw_if_eq (tgt := 198) d_M_findWrong_191 (by decide) (fun c191 => ?_) (fun c191 => ?_)
            · refine aw_iconst (v := 4) d_M_findWrong_198 (by decide) ?_
              refine aw_istore_n d_M_findWrong_199 rfl (by decide) rfl ?_
              exact k1 _ _ (if_pos c191).symm ⟨c176, Or.inr (Or.inl (by rw [ej]; exact c134))⟩
            · refine aw_iconst (v := 3) d_M_findWrong_194 (by decide) ?_
              refine aw_goto (tgt := 199) d_M_findWrong_195 (by decide) ?_
              refine aw_istore_n d_M_findWrong_199 rfl (by decide) rfl ?_
              exact k1 _ _ (if_neg c191).symm ⟨c176, Or.inr (Or.inl (by rw [ej]; exact c134))⟩
          · exact absurd c181 (by decide)
      · first | refine aw_aload_n d_M_findWrong_137 rfl rfl ?_ | refine aw_aload_nQ d_M_findWrong_137 rfl rfl ?_ | refine aw_aload_nN d_M_findWrong_137 rfl rfl ?_
        refine aM_get (by assumption) fl_M_62 (by decide) rfl d_M_findWrong_138 ?_
        refine aw_iload_n d_M_findWrong_141 rfl rfl ?_
        refine aM_iald (by assumption) (by decide) rfl rfl (show w < 4096 from ks) (by decide) d_M_findWrong_142 ?_
        first | refine aw_aload_n d_M_findWrong_143 rfl rfl ?_ | refine aw_aload_nQ d_M_findWrong_143 rfl rfl ?_ | refine aw_aload_nN d_M_findWrong_143 rfl rfl ?_
        refine aM_get (by assumption) fl_M_62 (by decide) rfl d_M_findWrong_144 ?_
        refine aw_iload_n d_M_findWrong_147 rfl rfl ?_
        refine aM_iald (by assumption) (by decide) rfl rfl (show j < 4096 from jb) (by decide) d_M_findWrong_148 ?_
        refine aw_icmp_ne (tgt := 171) d_M_findWrong_149 (by decide) (fun c149 => ?_) (fun c149 => ?_)
        · refine aw_iconst (v := 0) d_M_findWrong_171 (by decide) ?_
          refine aw_istore d_M_findWrong_172 (by decide) rfl ?_
          refine aw_iload d_M_findWrong_174 rfl ?_
          refine aw_if_eq (tgt := 200) d_M_findWrong_176 (by decide) (fun c176 => ?_) (fun c176 => ?_)
          · exact k0 _ (fun q => q.1 c176)
          · refine aw_iload d_M_findWrong_179 rfl ?_
            refine aw_if_ne (tgt := 187) d_M_findWrong_181 (by decide) (fun c181 => ?_) (fun c181 => ?_)
            · exact absurd (by decide) c181
            · refine aw_goto (tgt := 200) d_M_findWrong_184 (by decide) ?_
              exact k0 _ (fun q => q.2.elim (nI_pos (by omega)) (fun z => by rw [ej] at z; exact z.elim c134 (fun y => c149 y.1)))
        · first | refine aw_aload_n d_M_findWrong_152 rfl rfl ?_ | refine aw_aload_nQ d_M_findWrong_152 rfl rfl ?_ | refine aw_aload_nN d_M_findWrong_152 rfl rfl ?_
          refine aM_get (by assumption) fl_M_80 (by decide) rfl d_M_findWrong_153 ?_
          refine aw_iload_n d_M_findWrong_156 rfl rfl ?_
          refine aM_iald (by assumption) (by decide) rfl rfl (show w < 4096 from ks) (by decide) d_M_findWrong_157 ?_
          first | refine aw_aload_n d_M_findWrong_158 rfl rfl ?_ | refine aw_aload_nQ d_M_findWrong_158 rfl rfl ?_ | refine aw_aload_nN d_M_findWrong_158 rfl rfl ?_
          refine aM_get (by assumption) fl_M_80 (by decide) rfl d_M_findWrong_159 ?_
          refine aw_iload_n d_M_findWrong_162 rfl rfl ?_
          refine aM_iald (by assumption) (by decide) rfl rfl (show j < 4096 from jb) (by decide) d_M_findWrong_163 ?_
          refine aw_icmp_ge (tgt := 171) d_M_findWrong_164 (by decide) (fun c164 => ?_) (fun c164 => ?_)
          · refine aw_iconst (v := 0) d_M_findWrong_171 (by decide) ?_
            refine aw_istore d_M_findWrong_172 (by decide) rfl ?_
            refine aw_iload d_M_findWrong_174 rfl ?_
            refine aw_if_eq (tgt := 200) d_M_findWrong_176 (by decide) (fun c176 => ?_) (fun c176 => ?_)
            · exact k0 _ (fun q => q.1 c176)
            · refine aw_iload d_M_findWrong_179 rfl ?_
              refine aw_if_ne (tgt := 187) d_M_findWrong_181 (by decide) (fun c181 => ?_) (fun c181 => ?_)
              · exact absurd (by decide) c181
              · refine aw_goto (tgt := 200) d_M_findWrong_184 (by decide) ?_
                exact k0 _ (fun q => q.2.elim (nI_pos (by omega)) (fun z => by rw [ej] at z; exact z.elim c134 (fun y => absurd y.2 (Int32.not_lt.mpr c164))))
          · refine aw_iconst (v := 1) d_M_findWrong_167 (by decide) ?_
            refine aw_goto (tgt := 172) d_M_findWrong_168 (by decide) ?_
            refine aw_istore d_M_findWrong_172 (by decide) rfl ?_
            refine aw_iload d_M_findWrong_174 rfl ?_
            refine aw_if_eq (tgt := 200) d_M_findWrong_176 (by decide) (fun c176 => ?_) (fun c176 => ?_)
            · exact k0 _ (fun q => q.1 c176)
            · refine aw_iload d_M_findWrong_179 rfl ?_
              refine aw_if_ne (tgt := 187) d_M_findWrong_181 (by decide) (fun c181 => ?_) (fun c181 => ?_)
              · refine aw_iload_n d_M_findWrong_187 rfl rfl ?_
                refine aw_istore_n d_M_findWrong_188 rfl (by decide) rfl ?_
                refine aw_iload d_M_findWrong_189 rfl ?_
                refine aw_if_eq (tgt := 198) d_M_findWrong_191 (by decide) (fun c191 => ?_) (fun c191 => ?_)
                · refine aw_iconst (v := 4) d_M_findWrong_198 (by decide) ?_
                  refine aw_istore_n d_M_findWrong_199 rfl (by decide) rfl ?_
                  exact k1 _ _ (if_pos c191).symm ⟨c176, Or.inr (Or.inr (by rw [ej]; exact ⟨c149, Int32.not_le.mp c164⟩))⟩
                · refine aw_iconst (v := 3) d_M_findWrong_194 (by decide) ?_
                  refine aw_goto (tgt := 199) d_M_findWrong_195 (by decide) ?_
                  refine aw_istore_n d_M_findWrong_199 rfl (by decide) rfl ?_
                  exact k1 _ _ (if_neg c191).symm ⟨c176, Or.inr (Or.inr (by rw [ej]; exact ⟨c149, Int32.not_le.mp c164⟩))⟩
              · exact absurd c181 (by decide)
set_option maxRecDepth 20000 in
theorem l_M_wrong {G : ax_G} {x : ax_X} {h0 : ax_H} {P : Option Value → ax_H → Prop} {m : Nat} (s : mSt) (e : Nat → Nat → Nat) (U S W : Nat) (hUb : U ≤ 32) (hS : s.1 2 = nI S) (hSb : S ≤ 2048) (hW : s.1 3 = nI W) (hWb : W ≤ 4096) (hI : mI2 s e U S) (hI3 : mI3 s e S) (hI4 : mI4 s e U S W) (h : ax_H) (hR : mR m s h) (hp : ∀ h2, mR m (mWrong s e S W) h2 → mFr m h h2 → P none h2) : ∀ r w (a : Int32 × Int32) o4 o5 o6 o7 o8, w + r = W → (a.1 = -1 ∨ ∃ j, j < 4096 ∧ a.1 = nI j) → mWrL s e S W 0 (-1, 0) = mWrL s e S r w a → AW G x Y_M_findWrong 4 94 h0 P h 6 [some (.ref m), some (.int a.1), some (.int a.2), some (.int (nI w)), o4, o5, o6, o7, o8] [] := by
  intro r
  induction r with
  | zero =>
    intro w a o4 o5 o6 o7 o8 hw hb he
    have hww : w = W := by omega
    subst hww
    have he : mWrL s e S w 0 (-1, 0) = a := he
    rw [mWrong, he] at hp
    obtain ⟨b, hh⟩ := a
    rcases hb with hb | ⟨j, jb, hb⟩
    · have hb : b = -1 := hb
      subst hb
      refine aw_iload_n d_M_findWrong_6 rfl rfl ?_
      first | refine aw_aload_n d_M_findWrong_7 rfl rfl ?_ | refine aw_aload_nQ d_M_findWrong_7 rfl rfl ?_ | refine aw_aload_nN d_M_findWrong_7 rfl rfl ?_
      refine aM_get (by assumption) fl_M_132 (by decide) rfl d_M_findWrong_8 ?_
      refine aw_icmp_ge (tgt := 206) d_M_findWrong_11 (by decide) (fun c11 => ?_) (fun c11 => ?_)
      · refine aw_iload_n d_M_findWrong_206 rfl rfl ?_
        refine aw_if_lt (tgt := 227) d_M_findWrong_207 (by decide) (fun c207 => ?_) (fun c207 => ?_)
        · refine aw_vret ?_ rfl d_M_findWrong_227
          exact hp _ (by rw [if_pos (show (-1 : Int32) < 0 by decide)]; exact hR) (mFr.rf m h)
        · exact absurd (show (-1 : Int32) < 0 by decide) c207
      · exact absurd (show s.1 3 ≤ nI w by rw [hW]; exact nI_le (Nat.le_refl _) (by omega)) c11
    · have hb : b = nI j := hb
      subst hb
      have ej : iN (nI j) = j := nI_clamp (by omega)
      have hp : ∀ h2, mR m (mFail s hh (s.2.1 17 j) (s.2.1 23 j)) h2 → mFr m h h2 → P none h2 := by
        intro h2 q1 q2
        refine hp h2 ?_ q2
        rw [if_neg (show ¬ nI j < 0 from nI_pos (by omega))]
        show mR m (mFail s hh (s.2.1 17 (iN (nI j))) (s.2.1 23 (iN (nI j)))) h2
        rw [ej]
        exact q1
      refine aw_iload_n d_M_findWrong_6 rfl rfl ?_
      first | refine aw_aload_n d_M_findWrong_7 rfl rfl ?_ | refine aw_aload_nQ d_M_findWrong_7 rfl rfl ?_ | refine aw_aload_nN d_M_findWrong_7 rfl rfl ?_
      refine aM_get (by assumption) fl_M_132 (by decide) rfl d_M_findWrong_8 ?_
      refine aw_icmp_ge (tgt := 206) d_M_findWrong_11 (by decide) (fun c11 => ?_) (fun c11 => ?_)
      · refine aw_iload_n d_M_findWrong_206 rfl rfl ?_
        refine aw_if_lt (tgt := 227) d_M_findWrong_207 (by decide) (fun c207 => ?_) (fun c207 => ?_)
        · exact absurd c207 (nI_pos (by omega))
        · first | refine aw_aload_n d_M_findWrong_210 rfl rfl ?_ | refine aw_aload_nQ d_M_findWrong_210 rfl rfl ?_ | refine aw_aload_nN d_M_findWrong_210 rfl rfl ?_
          refine aw_iload_n d_M_findWrong_211 rfl rfl ?_
          first | refine aw_aload_n d_M_findWrong_212 rfl rfl ?_ | refine aw_aload_nQ d_M_findWrong_212 rfl rfl ?_ | refine aw_aload_nN d_M_findWrong_212 rfl rfl ?_
          refine aM_get (by assumption) fl_M_62 (by decide) rfl d_M_findWrong_213 ?_
          refine aw_iload_n d_M_findWrong_216 rfl rfl ?_
          refine aM_iald (by assumption) (by decide) rfl rfl jb (by decide) d_M_findWrong_217 ?_
          first | refine aw_aload_n d_M_findWrong_218 rfl rfl ?_ | refine aw_aload_nQ d_M_findWrong_218 rfl rfl ?_ | refine aw_aload_nN d_M_findWrong_218 rfl rfl ?_
          refine aM_get (by assumption) fl_M_80 (by decide) rfl d_M_findWrong_219 ?_
          refine aw_iload_n d_M_findWrong_222 rfl rfl ?_
          refine aM_iald (by assumption) (by decide) rfl rfl jb (by decide) d_M_findWrong_223 ?_
          refine aw_callV (c_M_fail G _ m s (by assumption) _ _ _) cl_M (mR.obj (by assumption)) m_M_fail ml_M_184 rfl rfl (by decide) (by decide) (Nat.le_of_ble_eq_true rfl) d_M_findWrong_224 ?_
          rintro v h' ⟨rfl, hRg, hFg⟩
          refine aw_vret ?_ rfl d_M_findWrong_227
          exact hp _ hRg hFg
      · exact absurd (show s.1 3 ≤ nI w by rw [hW]; exact nI_le (Nat.le_refl _) (by omega)) c11
  | succ r ih =>
    intro w a o4 o5 o6 o7 o8 hw hb he
    obtain ⟨⟨u1, u2⟩, ⟨v1, v2⟩, hwt⟩ := hI4 w (by omega)
    have ks : w < 4096 := by omega
    have i1 : 4 * s.2.1 17 w + s.2.1 18 w = nI (mSrc e w) := by rw [u1, v1, show (4 : Int32) = nI 4 from rfl, pk_mul, nI_add]
    rw [mWrL] at he
    refine aw_iload_n d_M_findWrong_6 rfl rfl ?_
    first | refine aw_aload_n d_M_findWrong_7 rfl rfl ?_ | refine aw_aload_nQ d_M_findWrong_7 rfl rfl ?_ | refine aw_aload_nN d_M_findWrong_7 rfl rfl ?_
    refine aM_get (by assumption) fl_M_132 (by decide) rfl d_M_findWrong_8 ?_
    refine aw_icmp_ge (tgt := 206) d_M_findWrong_11 (by decide) (fun c11 => ?_) (fun c11 => ?_)
    · exact absurd c11 (by rw [show s.1 3 = nI W from hW]; exact nI_ge (by omega) (by omega))
    · first | refine aw_aload_n d_M_findWrong_14 rfl rfl ?_ | refine aw_aload_nQ d_M_findWrong_14 rfl rfl ?_ | refine aw_aload_nN d_M_findWrong_14 rfl rfl ?_
      refine aM_get (by assumption) fl_M_19 (by decide) rfl d_M_findWrong_15 ?_
      refine aw_iconst (v := 4) d_M_findWrong_18 (by decide) ?_
      first | refine aw_aload_n d_M_findWrong_19 rfl rfl ?_ | refine aw_aload_nQ d_M_findWrong_19 rfl rfl ?_ | refine aw_aload_nN d_M_findWrong_19 rfl rfl ?_
      refine aM_get (by assumption) fl_M_62 (by decide) rfl d_M_findWrong_20 ?_
      refine aw_iload_n d_M_findWrong_23 rfl rfl ?_
      refine aM_iald (by assumption) (by decide) rfl rfl (show w < 4096 from ks) (by decide) d_M_findWrong_24 ?_
      refine aw_imul d_M_findWrong_25 ?_
      first | refine aw_aload_n d_M_findWrong_26 rfl rfl ?_ | refine aw_aload_nQ d_M_findWrong_26 rfl rfl ?_ | refine aw_aload_nN d_M_findWrong_26 rfl rfl ?_
      refine aM_get (by assumption) fl_M_65 (by decide) rfl d_M_findWrong_27 ?_
      refine aw_iload_n d_M_findWrong_30 rfl rfl ?_
      refine aM_iald (by assumption) (by decide) rfl rfl (show w < 4096 from ks) (by decide) d_M_findWrong_31 ?_
      refine aw_iadd d_M_findWrong_32 ?_
      refine aM_zald (by assumption) (by decide) rfl i1 (show 4 * e 17 w + e 18 w < 128 by omega) (by decide) d_M_findWrong_33 ?_
      refine aw_if_ne (tgt := 40) d_M_findWrong_34 (by decide) (fun c34 => ?_) (fun c34 => ?_)
      · first | refine aw_aload_n d_M_findWrong_40 rfl rfl ?_ | refine aw_aload_nQ d_M_findWrong_40 rfl rfl ?_ | refine aw_aload_nN d_M_findWrong_40 rfl rfl ?_
        refine aM_get (by assumption) fl_M_77 (by decide) rfl d_M_findWrong_41 ?_
        refine aw_iload_n d_M_findWrong_44 rfl rfl ?_
        refine aM_iald (by assumption) (by decide) rfl rfl (show w < 4096 from ks) (by decide) d_M_findWrong_45 ?_
        refine aw_if_lt (tgt := 67) d_M_findWrong_46 (by decide) (fun c46 => ?_) (fun c46 => ?_)
        · refine aw_iconst (v := 0) d_M_findWrong_67 (by decide) ?_
          refine aw_istore d_M_findWrong_68 (by decide) rfl ?_
          refine aw_iload d_M_findWrong_70 rfl ?_
          refine aw_if_eq (tgt := 79) d_M_findWrong_72 (by decide) (fun c72 => ?_) (fun c72 => ?_)
          · first | refine aw_aload_n d_M_findWrong_79 rfl rfl ?_ | refine aw_aload_nQ d_M_findWrong_79 rfl rfl ?_ | refine aw_aload_nN d_M_findWrong_79 rfl rfl ?_
            refine aw_iload_n d_M_findWrong_80 rfl rfl ?_
            refine aw_callV (c_M_valueOf G _ m s hR e U S W hUb hS hSb hW hWb hI hI3 hI4 w (by omega)) cl_M (mR.obj (by assumption)) m_M_valueOf ml_M_198 rfl rfl (by decide) (by decide) (Nat.le_of_ble_eq_true rfl) d_M_findWrong_81 ?_
            rintro v h' ⟨rfl, rfl⟩
            refine aw_lstore d_M_findWrong_84 (by decide) rfl ?_
            refine aw_iload d_M_findWrong_86 rfl ?_
            refine aw_if_ne (tgt := 111) d_M_findWrong_88 (by decide) (fun c88 => ?_) (fun c88 => ?_)
            · exact absurd rfl c88
            · first | refine aw_aload_n d_M_findWrong_91 rfl rfl ?_ | refine aw_aload_nQ d_M_findWrong_91 rfl rfl ?_ | refine aw_aload_nN d_M_findWrong_91 rfl rfl ?_
              refine aM_get (by assumption) fl_M_71 (by decide) rfl d_M_findWrong_92 ?_
              refine aw_iload_n d_M_findWrong_95 rfl rfl ?_
              refine aM_iald (by assumption) (by decide) rfl rfl (show w < 4096 from ks) (by decide) d_M_findWrong_96 ?_
              refine aw_iconst (v := 4) d_M_findWrong_97 (by decide) ?_
              refine aw_icmp_ne (tgt := 115) d_M_findWrong_98 (by decide) (fun c98 => ?_) (fun c98 => ?_)
              · refine aw_iconst (v := 0) d_M_findWrong_115 (by decide) ?_
                refine aw_istore d_M_findWrong_116 (by decide) rfl ?_
                have hms : ¬ mMs (s.2.1 3) (mT s e S) e w := fun q => absurd c46 (by
                  rcases hwt with h1 | ⟨c, h1, h2, h3⟩ | ⟨k, h1, h2, h3⟩
                  · omega
                  · omega
                  · rw [show s.2.1 22 w = nI k from h3]
                    exact nI_pos (by omega))
                have hwg : ¬ mWg s e S w := fun q => q.elim hms (fun z => c98 z.1)
                refine t_M_wrong s w ks a.1 a.2 0 0 _ _ _ _ hR hb (fun o8 k0 => ?_) (fun o8 hz ehz k1 => ?_)
                · refine aw_iinc (v := nI (w + 1)) d_M_findWrong_200 rfl (ax_inc w) (by decide) rfl ?_
                  refine aw_goto (tgt := 6) d_M_findWrong_203 (by decide) ?_
                  rw [if_neg (fun q : ¬ s.2.1 4 (mSrc e w) = 0 ∧ mWg s e S w ∧ mEar (s.2.1 17) (s.2.1 23) a.1 w => k0 ⟨absurd q.2.1 hwg, q.2.2⟩)] at he
                  exact ih (w + 1) a _ _ _ _ _ (by omega) hb he
                · exact absurd rfl k1.1
              · refine aw_lload d_M_findWrong_101 rfl ?_
                refine aw_lload d_M_findWrong_103 rfl ?_
                refine aw_l2i d_M_findWrong_105 ?_
                refine aw_i2l d_M_findWrong_106 ?_
                refine aw_lcmp d_M_findWrong_107 ?_
                refine aw_if_eq (tgt := 115) d_M_findWrong_108 (by decide) (fun c108 => ?_) (fun c108 => ?_)
                · refine aw_iconst (v := 0) d_M_findWrong_115 (by decide) ?_
                  refine aw_istore d_M_findWrong_116 (by decide) rfl ?_
                  have hms : ¬ mMs (s.2.1 3) (mT s e S) e w := fun q => absurd c46 (by
                    rcases hwt with h1 | ⟨c, h1, h2, h3⟩ | ⟨k, h1, h2, h3⟩
                    · omega
                    · omega
                    · rw [show s.2.1 22 w = nI k from h3]
                      exact nI_pos (by omega))
                  have hwg : ¬ mWg s e S w := fun q => q.elim hms (fun z => z.2 ((lg_cmp_eq _ _).mp c108))
                  refine t_M_wrong s w ks a.1 a.2 0 0 _ _ _ _ hR hb (fun o8 k0 => ?_) (fun o8 hz ehz k1 => ?_)
                  · refine aw_iinc (v := nI (w + 1)) d_M_findWrong_200 rfl (ax_inc w) (by decide) rfl ?_
                    refine aw_goto (tgt := 6) d_M_findWrong_203 (by decide) ?_
                    rw [if_neg (fun q : ¬ s.2.1 4 (mSrc e w) = 0 ∧ mWg s e S w ∧ mEar (s.2.1 17) (s.2.1 23) a.1 w => k0 ⟨absurd q.2.1 hwg, q.2.2⟩)] at he
                    exact ih (w + 1) a _ _ _ _ _ (by omega) hb he
                  · exact absurd rfl k1.1
                · refine aw_iconst (v := 1) d_M_findWrong_111 (by decide) ?_
                  refine aw_goto (tgt := 116) d_M_findWrong_112 (by decide) ?_
                  refine aw_istore d_M_findWrong_116 (by decide) rfl ?_
                  have hms : ¬ mMs (s.2.1 3) (mT s e S) e w := fun q => absurd c46 (by
                    rcases hwt with h1 | ⟨c, h1, h2, h3⟩ | ⟨k, h1, h2, h3⟩
                    · omega
                    · omega
                    · rw [show s.2.1 22 w = nI k from h3]
                      exact nI_pos (by omega))
                  have hwg : mWg s e S w := Or.inr ⟨c98, fun q => c108 ((lg_cmp_eq _ _).mpr q)⟩
                  refine t_M_wrong s w ks a.1 a.2 0 1 _ _ _ _ hR hb (fun o8 k0 => ?_) (fun o8 hz ehz k1 => ?_)
                  · refine aw_iinc (v := nI (w + 1)) d_M_findWrong_200 rfl (ax_inc w) (by decide) rfl ?_
                    refine aw_goto (tgt := 6) d_M_findWrong_203 (by decide) ?_
                    rw [if_neg (fun q : ¬ s.2.1 4 (mSrc e w) = 0 ∧ mWg s e S w ∧ mEar (s.2.1 17) (s.2.1 23) a.1 w => k0 ⟨(by decide), q.2.2⟩)] at he
                    exact ih (w + 1) a _ _ _ _ _ (by omega) hb he
                  · refine aw_iinc (v := nI (w + 1)) d_M_findWrong_200 rfl (ax_inc w) (by decide) rfl ?_
                    refine aw_goto (tgt := 6) d_M_findWrong_203 (by decide) ?_
                    rw [if_pos (show ¬ s.2.1 4 (mSrc e w) = 0 ∧ mWg s e S w ∧ mEar (s.2.1 17) (s.2.1 23) a.1 w from ⟨c34, hwg, k1.2⟩), if_neg hms] at he
                    have ehz : hz = 4 := ehz.trans (if_pos rfl)
                    subst ehz
                    exact ih (w + 1) _ _ _ _ _ _ (by omega) (Or.inr ⟨w, ks, rfl⟩) he
          · exact absurd rfl c72
        · obtain ⟨k, h1, h2, h3⟩ : ∃ k, k < S ∧ e 22 w = k + 5 ∧ s.2.1 22 w = nI k := (hwt.resolve_left (fun q => c46 (by rw [show s.2.1 22 w = -1 from q.2]; decide))).resolve_left (fun ⟨c, q1, _, q3⟩ => i_m3 q1 (q3 ▸ Int32.not_lt.mp c46))
          first | refine aw_aload_n d_M_findWrong_49 rfl rfl ?_ | refine aw_aload_nQ d_M_findWrong_49 rfl rfl ?_ | refine aw_aload_nN d_M_findWrong_49 rfl rfl ?_
          first | refine aw_aload_n d_M_findWrong_50 rfl rfl ?_ | refine aw_aload_nQ d_M_findWrong_50 rfl rfl ?_ | refine aw_aload_nN d_M_findWrong_50 rfl rfl ?_
          refine aM_get (by assumption) fl_M_77 (by decide) rfl d_M_findWrong_51 ?_
          refine aw_iload_n d_M_findWrong_54 rfl rfl ?_
          refine aM_iald (by assumption) (by decide) rfl rfl (show w < 4096 from ks) (by decide) d_M_findWrong_55 ?_
          refine aw_callV (c_M_standsForE G _ m _ hR e U S hUb hS hSb hI k h1 _ h3) cl_M (mR.obj (by assumption)) m_M_standsFor ml_M_188 rfl rfl (by decide) (by decide) (Nat.le_of_ble_eq_true rfl) d_M_findWrong_56 ?_
          rintro v h' ⟨rfl, rfl⟩
          refine aw_iconst (v := (-1)) d_M_findWrong_59 (by decide) ?_
          refine aw_icmp_ne (tgt := 67) d_M_findWrong_60 (by decide) (fun c60 => ?_) (fun c60 => ?_)
          · refine aw_iconst (v := 0) d_M_findWrong_67 (by decide) ?_
            refine aw_istore d_M_findWrong_68 (by decide) rfl ?_
            refine aw_iload d_M_findWrong_70 rfl ?_
            refine aw_if_eq (tgt := 79) d_M_findWrong_72 (by decide) (fun c72 => ?_) (fun c72 => ?_)
            · first | refine aw_aload_n d_M_findWrong_79 rfl rfl ?_ | refine aw_aload_nQ d_M_findWrong_79 rfl rfl ?_ | refine aw_aload_nN d_M_findWrong_79 rfl rfl ?_
              refine aw_iload_n d_M_findWrong_80 rfl rfl ?_
              refine aw_callV (c_M_valueOf G _ m s hR e U S W hUb hS hSb hW hWb hI hI3 hI4 w (by omega)) cl_M (mR.obj (by assumption)) m_M_valueOf ml_M_198 rfl rfl (by decide) (by decide) (Nat.le_of_ble_eq_true rfl) d_M_findWrong_81 ?_
              rintro v h' ⟨rfl, rfl⟩
              refine aw_lstore d_M_findWrong_84 (by decide) rfl ?_
              refine aw_iload d_M_findWrong_86 rfl ?_
              refine aw_if_ne (tgt := 111) d_M_findWrong_88 (by decide) (fun c88 => ?_) (fun c88 => ?_)
              · exact absurd rfl c88
              · first | refine aw_aload_n d_M_findWrong_91 rfl rfl ?_ | refine aw_aload_nQ d_M_findWrong_91 rfl rfl ?_ | refine aw_aload_nN d_M_findWrong_91 rfl rfl ?_
                refine aM_get (by assumption) fl_M_71 (by decide) rfl d_M_findWrong_92 ?_
                refine aw_iload_n d_M_findWrong_95 rfl rfl ?_
                refine aM_iald (by assumption) (by decide) rfl rfl (show w < 4096 from ks) (by decide) d_M_findWrong_96 ?_
                refine aw_iconst (v := 4) d_M_findWrong_97 (by decide) ?_
                refine aw_icmp_ne (tgt := 115) d_M_findWrong_98 (by decide) (fun c98 => ?_) (fun c98 => ?_)
                · refine aw_iconst (v := 0) d_M_findWrong_115 (by decide) ?_
                  refine aw_istore d_M_findWrong_116 (by decide) rfl ?_
                  have hms : ¬ mMs (s.2.1 3) (mT s e S) e w := fun q => c60 (by have q := q.2; rw [h2] at q; exact q)
                  have hwg : ¬ mWg s e S w := fun q => q.elim hms (fun z => c98 z.1)
                  refine t_M_wrong s w ks a.1 a.2 0 0 _ _ _ _ hR hb (fun o8 k0 => ?_) (fun o8 hz ehz k1 => ?_)
                  · refine aw_iinc (v := nI (w + 1)) d_M_findWrong_200 rfl (ax_inc w) (by decide) rfl ?_
                    refine aw_goto (tgt := 6) d_M_findWrong_203 (by decide) ?_
                    rw [if_neg (fun q : ¬ s.2.1 4 (mSrc e w) = 0 ∧ mWg s e S w ∧ mEar (s.2.1 17) (s.2.1 23) a.1 w => k0 ⟨absurd q.2.1 hwg, q.2.2⟩)] at he
                    exact ih (w + 1) a _ _ _ _ _ (by omega) hb he
                  · exact absurd rfl k1.1
                · refine aw_lload d_M_findWrong_101 rfl ?_
                  refine aw_lload d_M_findWrong_103 rfl ?_
                  refine aw_l2i d_M_findWrong_105 ?_
                  refine aw_i2l d_M_findWrong_106 ?_
                  refine aw_lcmp d_M_findWrong_107 ?_
                  refine aw_if_eq (tgt := 115) d_M_findWrong_108 (by decide) (fun c108 => ?_) (fun c108 => ?_)
                  · refine aw_iconst (v := 0) d_M_findWrong_115 (by decide) ?_
                    refine aw_istore d_M_findWrong_116 (by decide) rfl ?_
                    have hms : ¬ mMs (s.2.1 3) (mT s e S) e w := fun q => c60 (by have q := q.2; rw [h2] at q; exact q)
                    have hwg : ¬ mWg s e S w := fun q => q.elim hms (fun z => z.2 ((lg_cmp_eq _ _).mp c108))
                    refine t_M_wrong s w ks a.1 a.2 0 0 _ _ _ _ hR hb (fun o8 k0 => ?_) (fun o8 hz ehz k1 => ?_)
                    · refine aw_iinc (v := nI (w + 1)) d_M_findWrong_200 rfl (ax_inc w) (by decide) rfl ?_
                      refine aw_goto (tgt := 6) d_M_findWrong_203 (by decide) ?_
                      rw [if_neg (fun q : ¬ s.2.1 4 (mSrc e w) = 0 ∧ mWg s e S w ∧ mEar (s.2.1 17) (s.2.1 23) a.1 w => k0 ⟨absurd q.2.1 hwg, q.2.2⟩)] at he
                      exact ih (w + 1) a _ _ _ _ _ (by omega) hb he
                    · exact absurd rfl k1.1
                  · refine aw_iconst (v := 1) d_M_findWrong_111 (by decide) ?_
                    refine aw_goto (tgt := 116) d_M_findWrong_112 (by decide) ?_
                    refine aw_istore d_M_findWrong_116 (by decide) rfl ?_
                    have hms : ¬ mMs (s.2.1 3) (mT s e S) e w := fun q => c60 (by have q := q.2; rw [h2] at q; exact q)
                    have hwg : mWg s e S w := Or.inr ⟨c98, fun q => c108 ((lg_cmp_eq _ _).mpr q)⟩
                    refine t_M_wrong s w ks a.1 a.2 0 1 _ _ _ _ hR hb (fun o8 k0 => ?_) (fun o8 hz ehz k1 => ?_)
                    · refine aw_iinc (v := nI (w + 1)) d_M_findWrong_200 rfl (ax_inc w) (by decide) rfl ?_
                      refine aw_goto (tgt := 6) d_M_findWrong_203 (by decide) ?_
                      rw [if_neg (fun q : ¬ s.2.1 4 (mSrc e w) = 0 ∧ mWg s e S w ∧ mEar (s.2.1 17) (s.2.1 23) a.1 w => k0 ⟨(by decide), q.2.2⟩)] at he
                      exact ih (w + 1) a _ _ _ _ _ (by omega) hb he
                    · refine aw_iinc (v := nI (w + 1)) d_M_findWrong_200 rfl (ax_inc w) (by decide) rfl ?_
                      refine aw_goto (tgt := 6) d_M_findWrong_203 (by decide) ?_
                      rw [if_pos (show ¬ s.2.1 4 (mSrc e w) = 0 ∧ mWg s e S w ∧ mEar (s.2.1 17) (s.2.1 23) a.1 w from ⟨c34, hwg, k1.2⟩), if_neg hms] at he
                      have ehz : hz = 4 := ehz.trans (if_pos rfl)
                      subst ehz
                      exact ih (w + 1) _ _ _ _ _ _ (by omega) (Or.inr ⟨w, ks, rfl⟩) he
            · exact absurd rfl c72
          · refine aw_iconst (v := 1) d_M_findWrong_63 (by decide) ?_
            refine aw_goto (tgt := 68) d_M_findWrong_64 (by decide) ?_
            refine aw_istore d_M_findWrong_68 (by decide) rfl ?_
            refine aw_iload d_M_findWrong_70 rfl ?_
            refine aw_if_eq (tgt := 79) d_M_findWrong_72 (by decide) (fun c72 => ?_) (fun c72 => ?_)
            · exact absurd c72 (by decide)
            · refine aw_lconst (v := 0) d_M_findWrong_75 (by decide) ?_
              refine aw_goto (tgt := 84) d_M_findWrong_76 (by decide) ?_
              refine aw_lstore d_M_findWrong_84 (by decide) rfl ?_
              refine aw_iload d_M_findWrong_86 rfl ?_
              refine aw_if_ne (tgt := 111) d_M_findWrong_88 (by decide) (fun c88 => ?_) (fun c88 => ?_)
              · refine aw_iconst (v := 1) d_M_findWrong_111 (by decide) ?_
                refine aw_goto (tgt := 116) d_M_findWrong_112 (by decide) ?_
                refine aw_istore d_M_findWrong_116 (by decide) rfl ?_
                have hms : mMs (s.2.1 3) (mT s e S) e w := ⟨by omega, by rw [h2]; exact c60⟩
                have hwg : mWg s e S w := Or.inl hms
                refine t_M_wrong s w ks a.1 a.2 1 1 _ _ _ _ hR hb (fun o8 k0 => ?_) (fun o8 hz ehz k1 => ?_)
                · refine aw_iinc (v := nI (w + 1)) d_M_findWrong_200 rfl (ax_inc w) (by decide) rfl ?_
                  refine aw_goto (tgt := 6) d_M_findWrong_203 (by decide) ?_
                  rw [if_neg (fun q : ¬ s.2.1 4 (mSrc e w) = 0 ∧ mWg s e S w ∧ mEar (s.2.1 17) (s.2.1 23) a.1 w => k0 ⟨(by decide), q.2.2⟩)] at he
                  exact ih (w + 1) a _ _ _ _ _ (by omega) hb he
                · refine aw_iinc (v := nI (w + 1)) d_M_findWrong_200 rfl (ax_inc w) (by decide) rfl ?_
                  refine aw_goto (tgt := 6) d_M_findWrong_203 (by decide) ?_
                  rw [if_pos (show ¬ s.2.1 4 (mSrc e w) = 0 ∧ mWg s e S w ∧ mEar (s.2.1 17) (s.2.1 23) a.1 w from ⟨c34, hwg, k1.2⟩), if_pos hms] at he
                  have ehz : hz = 3 := ehz.trans (if_neg (by decide))
                  subst ehz
                  exact ih (w + 1) _ _ _ _ _ _ (by omega) (Or.inr ⟨w, ks, rfl⟩) he
              · exact absurd c88 (by decide)
      · refine aw_goto (tgt := 200) d_M_findWrong_37 (by decide) ?_
        refine aw_iinc (v := nI (w + 1)) d_M_findWrong_200 rfl (ax_inc w) (by decide) rfl ?_
        refine aw_goto (tgt := 6) d_M_findWrong_203 (by decide) ?_
        rw [if_neg (fun q : ¬ s.2.1 4 (mSrc e w) = 0 ∧ mWg s e S w ∧ mEar (s.2.1 17) (s.2.1 23) a.1 w => q.1 c34)] at he
        exact ih (w + 1) a _ _ _ _ _ (by omega) hb he
set_option maxRecDepth 20000 in
theorem c_M_findWrong (G : ax_G) (h : ax_H) (m : Nat) (s : mSt) (hR : mR m s h) (e : Nat → Nat → Nat) (U S W : Nat) (hUb : U ≤ 32) (hS : s.1 2 = nI S) (hSb : S ≤ 2048) (hW : s.1 3 = nI W) (hWb : W ≤ 4096) (hI : mI2 s e U S) (hI3 : mI3 s e S) (hI4 : mI4 s e U S W) : AM G Y_M_findWrong 4 94 [.ref m] h (fun v h2 => v = none ∧ mR m (mWrong s e S W) h2 ∧ mFr m h h2) := by
  refine aw_enter (by decide) (Nat.le_of_ble_eq_true rfl) (n := 8) (ls := [some (.ref m), none, none, none, none, none, none, none, none]) rfl (fun x => ?_)
  refine aw_iconst (v := (-1)) d_M_findWrong_0 (by decide) ?_
  refine aw_istore_n d_M_findWrong_1 rfl (by decide) rfl ?_
  refine aw_iconst (v := 0) d_M_findWrong_2 (by decide) ?_
  refine aw_istore_n d_M_findWrong_3 rfl (by decide) rfl ?_
  refine aw_iconst (v := 0) d_M_findWrong_4 (by decide) ?_
  refine aw_istore_n d_M_findWrong_5 rfl (by decide) rfl ?_
  exact l_M_wrong s e U S W hUb hS hSb hW hWb hI hI3 hI4 h hR (fun h2 r1 r2 => ⟨rfl, r1, r2⟩) W 0 (-1, 0) _ _ _ _ _ (by omega) (Or.inl rfl) rfl
