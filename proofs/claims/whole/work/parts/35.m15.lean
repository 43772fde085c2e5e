/-- place so far, end, places -/
abbrev mLy : Type := Int32 × Int32 × (Nat → Int32)
abbrev mUp16 (a : Int32) : Int32 := (a + 15) &&& (-16)
abbrev mUp4k (a : Int32) : Int32 := (a + 4095) &&& (-4096)
def mLayL (sz nd : Nat → Int32) (c : Nat) : Nat → Nat → mLy → mLy
  | 0, _, L => L
  | r + 1, u, L => mLayL sz nd c r (u + 1) (if nd (4 * u + c) = 0 then L else (mUp16 L.1 + sz (4 * u + c), mUp16 L.1 + sz (4 * u + c), va_up L.2.2 (4 * u + c) (mUp16 L.1)))
def mLay1 (sz nd ad : Nat → Int32) (U : Nat) : mLy := mLayL sz nd 0 U 0 (0, 0, ad)
def mLay2 (sz nd ad : Nat → Int32) (U : Nat) : mLy := mLayL sz nd 1 U 0 (mUp4k (mLay1 sz nd ad U).1, (mLay1 sz nd ad U).2)
def mLay3 (sz nd ad : Nat → Int32) (U : Nat) : mLy := mLayL sz nd 2 U 0 (mUp4k (mLay2 sz nd ad U).1, (mLay2 sz nd ad U).2)
def mLay4 (sz nd ad : Nat → Int32) (U : Nat) : mLy := mLayL sz nd 3 U 0 (mLay3 sz nd ad U)
abbrev mLz (s : mSt) (p : Nat → Int32) (L : mLy) : mSt := (va_up s.1 39 L.2.1, va_up (va_up s.2.1 30 p) 7 L.2.2, s.2.2)
theorem mLz_p {m : Nat} {s : mSt} {p q : Nat → Int32} {L : mLy} {h : ax_H} (hR : mR m ((mLz s p L).1, va_up (mLz s p L).2.1 30 q, (mLz s p L).2.2) h) : mR m (mLz s q L) h := by
  have e : va_up (va_up (va_up s.2.1 30 p) 7 L.2.2) 30 q = va_up (va_up s.2.1 30 q) 7 L.2.2 := by
    funext u
    by_cases h1 : u = 30
    · subst h1
      rw [va_up_self]
      rfl
    · rw [va_up_ne _ _ h1]
      by_cases h2 : u = 7
      · subst h2
        rw [va_up_self, va_up_self]
      · rw [va_up_ne _ _ h2, va_up_ne _ _ h2, va_up_ne _ _ h1, va_up_ne _ _ h1]
  have hR : mR m (va_up s.1 39 L.2.1, va_up (va_up (va_up s.2.1 30 p) 7 L.2.2) 30 q, s.2.2) h := hR
  rw [e] at hR
  exact hR
/-- the image's parts -/
def mParts (sz nd ad : Nat → Int32) (U : Nat) (p : Nat → Int32) : Nat → Int32 := va_up (va_up (va_up (va_up (va_up (va_up p 0 (4194304 + (mLay1 sz nd ad U).1)) 1 (4194304 + mUp4k (mLay1 sz nd ad U).1)) 2 (4194304 + (mLay2 sz nd ad U).1)) 3 (4194304 + mUp4k (mLay2 sz nd ad U).1)) 4 (4194304 + (mLay4 sz nd ad U).1)) 6 (mLay4 sz nd ad U).2.1
def mLayOut (s : mSt) (U : Nat) : mSt := mLz s (mParts (s.2.1 5) (s.2.1 4) (s.2.1 7) U (s.2.1 30)) (mLay4 (s.2.1 5) (s.2.1 4) (s.2.1 7) U)
set_option maxRecDepth 20000 in
theorem l_M_lay {G : ax_G} {x : ax_X} {h0 : ax_H} {P : Option Value → ax_H → Prop} {m : Nat} (s : mSt) (U : Nat) (hU : s.1 1 = nI U) (hUb : U ≤ 32) (c : Nat) (hc : c < 4) (p : Nat → Int32) (hq : ax_H) (R : mLy) (hk : ∀ h2 o3, mR m (mLz s p R) h2 → mFr m hq h2 → AW G x Y_M_layOut 0 0 h0 P h2 133 [some (.ref m), some (.int R.1), some (.int (nI c)), o3] []) : ∀ r u (L : mLy) h, u + r = U → mR m (mLz s p L) h → mFr m hq h → mLayL (s.2.1 5) (s.2.1 4) c r u L = R → AW G x Y_M_layOut 0 0 h0 P h 66 [some (.ref m), some (.int L.1), some (.int (nI c)), some (.int (nI u))] [] := by
  intro r
  induction r with
  | zero =>
    intro u L h hu hR hF he
    have huu : u = U := by omega
    subst huu
    have he : L = R := he
    subst he
    refine aw_iload_n d_M_layOut_66 rfl rfl ?_
    first | refine aw_aload_n d_M_layOut_67 rfl rfl ?_ | refine aw_aload_nQ d_M_layOut_67 rfl rfl ?_ | refine aw_aload_nN d_M_layOut_67 rfl rfl ?_
    refine aM_get (by assumption) fl_M_126 (by decide) rfl d_M_layOut_68 ?_
    refine aw_icmp_ge (tgt := 133) d_M_layOut_71 (by decide) (fun c71 => ?_) (fun c71 => ?_)
    · exact hk _ _ hR hF
    · exact absurd (show s.1 1 ≤ nI u by rw [hU]; exact nI_le (Nat.le_refl _) (by omega)) c71
  | succ r ih =>
    intro u L h hu hR hF he
    rw [mLayL] at he
    have i1 : 4 * nI u + nI c = nI (4 * u + c) := by rw [show (4 : Int32) = nI 4 from rfl, pk_mul, nI_add]
    have ib : 4 * u + c < 128 := by omega
    refine aw_iload_n d_M_layOut_66 rfl rfl ?_
    first | refine aw_aload_n d_M_layOut_67 rfl rfl ?_ | refine aw_aload_nQ d_M_layOut_67 rfl rfl ?_ | refine aw_aload_nN d_M_layOut_67 rfl rfl ?_
    refine aM_get (by assumption) fl_M_126 (by decide) rfl d_M_layOut_68 ?_
    refine aw_icmp_ge (tgt := 133) d_M_layOut_71 (by decide) (fun c71 => ?_) (fun c71 => ?_)
    · exact absurd (show s.1 1 ≤ nI u from c71) (by rw [hU]; exact nI_ge (by omega) (by omega))
    · first | refine aw_aload_n d_M_layOut_74 rfl rfl ?_ | refine aw_aload_nQ d_M_layOut_74 rfl rfl ?_ | refine aw_aload_nN d_M_layOut_74 rfl rfl ?_
      refine aM_get (by assumption) fl_M_19 (by decide) rfl d_M_layOut_75 ?_
      refine aw_iconst (v := 4) d_M_layOut_78 (by decide) ?_
      refine aw_iload_n d_M_layOut_79 rfl rfl ?_
      refine aw_imul d_M_layOut_80 ?_
      refine aw_iload_n d_M_layOut_81 rfl rfl ?_
      refine aw_iadd d_M_layOut_82 ?_
      refine aM_zald (by assumption) (by decide) rfl i1 ib (by decide) d_M_layOut_83 ?_
      refine aw_if_ne (tgt := 90) d_M_layOut_84 (by decide) (fun c84 => ?_) (fun c84 => ?_)
      · refine aw_iload_n d_M_layOut_90 rfl rfl ?_
        refine aw_bipush (v := 15) d_M_layOut_91 (by decide) ?_
        refine aw_iadd d_M_layOut_93 ?_
        refine aw_bipush (v := (-16)) d_M_layOut_94 (by decide) ?_
        refine aw_iand d_M_layOut_96 ?_
        refine aw_istore_n d_M_layOut_97 rfl (by decide) rfl ?_
        first | refine aw_aload_n d_M_layOut_98 rfl rfl ?_ | refine aw_aload_nQ d_M_layOut_98 rfl rfl ?_ | refine aw_aload_nN d_M_layOut_98 rfl rfl ?_
        refine aM_get (by assumption) fl_M_29 (by decide) rfl d_M_layOut_99 ?_
        refine aw_iconst (v := 4) d_M_layOut_102 (by decide) ?_
        refine aw_iload_n d_M_layOut_103 rfl rfl ?_
        refine aw_imul d_M_layOut_104 ?_
        refine aw_iload_n d_M_layOut_105 rfl rfl ?_
        refine aw_iadd d_M_layOut_106 ?_
        refine aw_iload_n d_M_layOut_107 rfl rfl ?_
        refine aM_iast (by assumption) (by decide) rfl i1 ib (by decide) d_M_layOut_108 (fun g108 hR108 hF108 => ?_)
        refine aw_iload_n d_M_layOut_109 rfl rfl ?_
        first | refine aw_aload_n d_M_layOut_110 rfl rfl ?_ | refine aw_aload_nQ d_M_layOut_110 rfl rfl ?_ | refine aw_aload_nN d_M_layOut_110 rfl rfl ?_
        refine aM_get (by assumption) fl_M_22 (by decide) rfl d_M_layOut_111 ?_
        refine aw_iconst (v := 4) d_M_layOut_114 (by decide) ?_
        refine aw_iload_n d_M_layOut_115 rfl rfl ?_
        refine aw_imul d_M_layOut_116 ?_
        refine aw_iload_n d_M_layOut_117 rfl rfl ?_
        refine aw_iadd d_M_layOut_118 ?_
        refine aM_iald (by assumption) (by decide) rfl i1 ib (by decide) d_M_layOut_119 ?_
        refine aw_iadd d_M_layOut_120 ?_
        refine aw_istore_n d_M_layOut_121 rfl (by decide) rfl ?_
        first | refine aw_aload_n d_M_layOut_122 rfl rfl ?_ | refine aw_aload_nQ d_M_layOut_122 rfl rfl ?_ | refine aw_aload_nN d_M_layOut_122 rfl rfl ?_
        refine aw_iload_n d_M_layOut_123 rfl rfl ?_
        refine aM_put (by assumption) fl_M_191 (by decide) rfl rfl rfl rfl d_M_layOut_124 (fun g124 hR124 hF124 => ?_)
        refine aw_iinc (v := nI (u + 1)) d_M_layOut_127 rfl (ax_inc u) (by decide) rfl ?_
        refine aw_goto (tgt := 66) d_M_layOut_130 (by decide) ?_
        rw [if_neg (show ¬ s.2.1 4 (4 * u + c) = 0 from c84)] at he
        have hR124 : mR m (va_up (va_up s.1 39 L.2.1) 39 (mUp16 L.1 + s.2.1 5 (4 * u + c)), va_up (va_up (va_up s.2.1 30 p) 7 L.2.2) 7 (va_up L.2.2 (4 * u + c) (mUp16 L.1)), s.2.2) g124 := hR124
        rw [bx_uu, bx_uu] at hR124
        exact ih (u + 1) (mUp16 L.1 + s.2.1 5 (4 * u + c), mUp16 L.1 + s.2.1 5 (4 * u + c), va_up L.2.2 (4 * u + c) (mUp16 L.1)) _ (by omega) hR124 ((hF.tr hF108).tr hF124) he
      · refine aw_goto (tgt := 127) d_M_layOut_87 (by decide) ?_
        refine aw_iinc (v := nI (u + 1)) d_M_layOut_127 rfl (ax_inc u) (by decide) rfl ?_
        refine aw_goto (tgt := 66) d_M_layOut_130 (by decide) ?_
        rw [if_pos (show s.2.1 4 (4 * u + c) = 0 from c84)] at he
        exact ih (u + 1) _ _ (by omega) hR hF he
set_option maxRecDepth 20000 in
theorem t_M_lay0 {G : ax_G} {x : ax_X} {h0 : ax_H} {P : Option Value → ax_H → Prop} {m : Nat} (s : mSt) (U : Nat) (hU : s.1 1 = nI U) (hUb : U ≤ 32) (hq : ax_H) (hk : ∀ h2 o3, mR m (mLz s (va_up (s.2.1 30) 0 (4194304 + (mLay1 (s.2.1 5) (s.2.1 4) (s.2.1 7) U).1)) (mLay1 (s.2.1 5) (s.2.1 4) (s.2.1 7) U)) h2 → mFr m hq h2 → AW G x Y_M_layOut 0 0 h0 P h2 9 [some (.ref m), some (.int (mLay1 (s.2.1 5) (s.2.1 4) (s.2.1 7) U).1), some (.int 1), o3] []) (h : ax_H) (o3 : Option Value) (hR : mR m (mLz s (s.2.1 30) (0, 0, s.2.1 7)) h) (hF : mFr m hq h) : AW G x Y_M_layOut 0 0 h0 P h 9 [some (.ref m), some (.int (0, 0, s.2.1 7).1), some (.int 0), o3] [] := by
  refine aw_iload_n d_M_layOut_9 rfl rfl ?_
  refine aw_iconst (v := 4) d_M_layOut_10 (by decide) ?_
  refine aw_icmp_ge (tgt := 183) d_M_layOut_11 (by decide) (fun c11 => ?_) (fun c11 => ?_)
  · exact absurd c11 (by decide)
  · refine aw_iload_n d_M_layOut_14 rfl rfl ?_
    refine aw_iconst (v := 1) d_M_layOut_15 (by decide) ?_
    refine aw_icmp_eq (tgt := 24) d_M_layOut_16 (by decide) (fun c16 => ?_) (fun c16 => ?_)
    · exact absurd c16 (by decide)
    · refine aw_iload_n d_M_layOut_19 rfl rfl ?_
      refine aw_iconst (v := 2) d_M_layOut_20 (by decide) ?_
      refine aw_icmp_ne (tgt := 34) d_M_layOut_21 (by decide) (fun c21 => ?_) (fun c21 => ?_)
      · refine aw_iload_n d_M_layOut_34 rfl rfl ?_
        refine aw_iconst (v := 1) d_M_layOut_35 (by decide) ?_
        refine aw_icmp_ne (tgt := 49) d_M_layOut_36 (by decide) (fun c36 => ?_) (fun c36 => ?_)
        · refine aw_iload_n d_M_layOut_49 rfl rfl ?_
          refine aw_iconst (v := 2) d_M_layOut_50 (by decide) ?_
          refine aw_icmp_ne (tgt := 64) d_M_layOut_51 (by decide) (fun c51 => ?_) (fun c51 => ?_)
          · refine aw_iconst (v := 0) d_M_layOut_64 (by decide) ?_
            refine aw_istore_n d_M_layOut_65 rfl (by decide) rfl ?_
            refine l_M_lay s U hU hUb 0 (by decide) (s.2.1 30) hq (mLay1 (s.2.1 5) (s.2.1 4) (s.2.1 7) U) (fun h2 o3 hRa hFa => ?_) U 0 (0, 0, s.2.1 7) _ (by omega) hR hF rfl
            refine aw_iload_n d_M_layOut_133 rfl rfl ?_
            refine aw_if_ne (tgt := 147) d_M_layOut_134 (by decide) (fun c134 => ?_) (fun c134 => ?_)
            · exact absurd (by decide) c134
            · first | refine aw_aload_n d_M_layOut_137 rfl rfl ?_ | refine aw_aload_nQ d_M_layOut_137 rfl rfl ?_ | refine aw_aload_nN d_M_layOut_137 rfl rfl ?_
              refine aM_get (by assumption) fl_M_105 (by decide) rfl d_M_layOut_138 ?_
              refine aw_iconst (v := 0) d_M_layOut_141 (by decide) ?_
              refine aw_ldc kc_M_194 d_M_layOut_142 ?_
              refine aw_iload_n d_M_layOut_144 rfl rfl ?_
              refine aw_iadd d_M_layOut_145 ?_
              refine aM_iast (by assumption) (by decide) rfl (show _ = nI 0 from rfl) (show 0 < 7 by decide) (by decide) d_M_layOut_146 (fun g146 hR146 hF146 => ?_)
              refine aw_iload_n d_M_layOut_147 rfl rfl ?_
              refine aw_iconst (v := 1) d_M_layOut_148 (by decide) ?_
              refine aw_icmp_ne (tgt := 162) d_M_layOut_149 (by decide) (fun c149 => ?_) (fun c149 => ?_)
              · refine aw_iload_n d_M_layOut_162 rfl rfl ?_
                refine aw_iconst (v := 3) d_M_layOut_163 (by decide) ?_
                refine aw_icmp_ne (tgt := 177) d_M_layOut_164 (by decide) (fun c164 => ?_) (fun c164 => ?_)
                · refine aw_iinc (v := 1) d_M_layOut_177 rfl (by decide) (by decide) rfl ?_
                  refine aw_goto (tgt := 9) d_M_layOut_180 (by decide) ?_
                  exact hk _ _ (mLz_p hR146) (hFa.tr hF146)
                · exact absurd c164 (by decide)
              · exact absurd c149 (by decide)
          · exact absurd c51 (by decide)
        · exact absurd c36 (by decide)
      · exact absurd c21 (by decide)
set_option maxRecDepth 20000 in
theorem t_M_lay1 {G : ax_G} {x : ax_X} {h0 : ax_H} {P : Option Value → ax_H → Prop} {m : Nat} (s : mSt) (U : Nat) (hU : s.1 1 = nI U) (hUb : U ≤ 32) (hq : ax_H) (hk : ∀ h2 o3, mR m (mLz s (va_up (va_up (va_up (s.2.1 30) 0 (4194304 + (mLay1 (s.2.1 5) (s.2.1 4) (s.2.1 7) U).1)) 1 (4194304 + mUp4k (mLay1 (s.2.1 5) (s.2.1 4) (s.2.1 7) U).1)) 2 (4194304 + (mLay2 (s.2.1 5) (s.2.1 4) (s.2.1 7) U).1)) (mLay2 (s.2.1 5) (s.2.1 4) (s.2.1 7) U)) h2 → mFr m hq h2 → AW G x Y_M_layOut 0 0 h0 P h2 9 [some (.ref m), some (.int (mLay2 (s.2.1 5) (s.2.1 4) (s.2.1 7) U).1), some (.int 2), o3] []) (h : ax_H) (o3 : Option Value) (hR : mR m (mLz s (va_up (s.2.1 30) 0 (4194304 + (mLay1 (s.2.1 5) (s.2.1 4) (s.2.1 7) U).1)) (mLay1 (s.2.1 5) (s.2.1 4) (s.2.1 7) U)) h) (hF : mFr m hq h) : AW G x Y_M_layOut 0 0 h0 P h 9 [some (.ref m), some (.int (mLay1 (s.2.1 5) (s.2.1 4) (s.2.1 7) U).1), some (.int 1), o3] [] := by
  refine aw_iload_n d_M_layOut_9 rfl rfl ?_
  refine aw_iconst (v := 4) d_M_layOut_10 (by decide) ?_
  refine aw_icmp_ge (tgt := 183) d_M_layOut_11 (by decide) (fun c11 => ?_) (fun c11 => ?_)
  · exact absurd c11 (by decide)
  · refine aw_iload_n d_M_layOut_14 rfl rfl ?_
    refine aw_iconst (v := 1) d_M_layOut_15 (by decide) ?_
    refine aw_icmp_eq (tgt := 24) d_M_layOut_16 (by decide) (fun c16 => ?_) (fun c16 => ?_)
    · refine aw_iload_n d_M_layOut_24 rfl rfl ?_
      refine aw_sipush (v := 4095) d_M_layOut_25 (by decide) ?_
      refine aw_iadd d_M_layOut_28 ?_
      refine aw_sipush (v := (-4096)) d_M_layOut_29 (by decide) ?_
      refine aw_iand d_M_layOut_32 ?_
      refine aw_istore_n d_M_layOut_33 rfl (by decide) rfl ?_
      refine aw_iload_n d_M_layOut_34 rfl rfl ?_
      refine aw_iconst (v := 1) d_M_layOut_35 (by decide) ?_
      refine aw_icmp_ne (tgt := 49) d_M_layOut_36 (by decide) (fun c36 => ?_) (fun c36 => ?_)
      · exact absurd (by decide) c36
      · first | refine aw_aload_n d_M_layOut_39 rfl rfl ?_ | refine aw_aload_nQ d_M_layOut_39 rfl rfl ?_ | refine aw_aload_nN d_M_layOut_39 rfl rfl ?_
        refine aM_get (by assumption) fl_M_105 (by decide) rfl d_M_layOut_40 ?_
        refine aw_iconst (v := 1) d_M_layOut_43 (by decide) ?_
        refine aw_ldc kc_M_194 d_M_layOut_44 ?_
        refine aw_iload_n d_M_layOut_46 rfl rfl ?_
        refine aw_iadd d_M_layOut_47 ?_
        refine aM_iast (by assumption) (by decide) rfl (show _ = nI 1 from rfl) (show 1 < 7 by decide) (by decide) d_M_layOut_48 (fun g48 hR48 hF48 => ?_)
        refine aw_iload_n d_M_layOut_49 rfl rfl ?_
        refine aw_iconst (v := 2) d_M_layOut_50 (by decide) ?_
        refine aw_icmp_ne (tgt := 64) d_M_layOut_51 (by decide) (fun c51 => ?_) (fun c51 => ?_)
        · refine aw_iconst (v := 0) d_M_layOut_64 (by decide) ?_
          refine aw_istore_n d_M_layOut_65 rfl (by decide) rfl ?_
          refine l_M_lay s U hU hUb 1 (by decide) (va_up (va_up (s.2.1 30) 0 (4194304 + (mLay1 (s.2.1 5) (s.2.1 4) (s.2.1 7) U).1)) 1 (4194304 + mUp4k (mLay1 (s.2.1 5) (s.2.1 4) (s.2.1 7) U).1)) hq (mLay2 (s.2.1 5) (s.2.1 4) (s.2.1 7) U) (fun h2 o3 hRa hFa => ?_) U 0 (mUp4k (mLay1 (s.2.1 5) (s.2.1 4) (s.2.1 7) U).1, (mLay1 (s.2.1 5) (s.2.1 4) (s.2.1 7) U).2) _ (by omega) (show mR m (mLz s (va_up (va_up (s.2.1 30) 0 (4194304 + (mLay1 (s.2.1 5) (s.2.1 4) (s.2.1 7) U).1)) 1 (4194304 + mUp4k (mLay1 (s.2.1 5) (s.2.1 4) (s.2.1 7) U).1)) (mUp4k (mLay1 (s.2.1 5) (s.2.1 4) (s.2.1 7) U).1, (mLay1 (s.2.1 5) (s.2.1 4) (s.2.1 7) U).2)) _ from mLz_p hR48) (hF.tr hF48) rfl
          refine aw_iload_n d_M_layOut_133 rfl rfl ?_
          refine aw_if_ne (tgt := 147) d_M_layOut_134 (by decide) (fun c134 => ?_) (fun c134 => ?_)
          · refine aw_iload_n d_M_layOut_147 rfl rfl ?_
            refine aw_iconst (v := 1) d_M_layOut_148 (by decide) ?_
            refine aw_icmp_ne (tgt := 162) d_M_layOut_149 (by decide) (fun c149 => ?_) (fun c149 => ?_)
            · exact absurd (by decide) c149
            · first | refine aw_aload_n d_M_layOut_152 rfl rfl ?_ | refine aw_aload_nQ d_M_layOut_152 rfl rfl ?_ | refine aw_aload_nN d_M_layOut_152 rfl rfl ?_
              refine aM_get (by assumption) fl_M_105 (by decide) rfl d_M_layOut_153 ?_
              refine aw_iconst (v := 2) d_M_layOut_156 (by decide) ?_
              refine aw_ldc kc_M_194 d_M_layOut_157 ?_
              refine aw_iload_n d_M_layOut_159 rfl rfl ?_
              refine aw_iadd d_M_layOut_160 ?_
              refine aM_iast (by assumption) (by decide) rfl (show _ = nI 2 from rfl) (show 2 < 7 by decide) (by decide) d_M_layOut_161 (fun g161 hR161 hF161 => ?_)
              refine aw_iload_n d_M_layOut_162 rfl rfl ?_
              refine aw_iconst (v := 3) d_M_layOut_163 (by decide) ?_
              refine aw_icmp_ne (tgt := 177) d_M_layOut_164 (by decide) (fun c164 => ?_) (fun c164 => ?_)
              · refine aw_iinc (v := 2) d_M_layOut_177 rfl (by decide) (by decide) rfl ?_
                refine aw_goto (tgt := 9) d_M_layOut_180 (by decide) ?_
                exact hk _ _ (mLz_p hR161) (hFa.tr hF161)
              · exact absurd c164 (by decide)
          · exact absurd c134 (by decide)
        · exact absurd c51 (by decide)
    · exact absurd (by decide) c16
set_option maxRecDepth 20000 in
theorem t_M_lay2 {G : ax_G} {x : ax_X} {h0 : ax_H} {P : Option Value → ax_H → Prop} {m : Nat} (s : mSt) (U : Nat) (hU : s.1 1 = nI U) (hUb : U ≤ 32) (hq : ax_H) (hk : ∀ h2 o3, mR m (mLz s (va_up (va_up (va_up (va_up (s.2.1 30) 0 (4194304 + (mLay1 (s.2.1 5) (s.2.1 4) (s.2.1 7) U).1)) 1 (4194304 + mUp4k (mLay1 (s.2.1 5) (s.2.1 4) (s.2.1 7) U).1)) 2 (4194304 + (mLay2 (s.2.1 5) (s.2.1 4) (s.2.1 7) U).1)) 3 (4194304 + mUp4k (mLay2 (s.2.1 5) (s.2.1 4) (s.2.1 7) U).1)) (mLay3 (s.2.1 5) (s.2.1 4) (s.2.1 7) U)) h2 → mFr m hq h2 → AW G x Y_M_layOut 0 0 h0 P h2 9 [some (.ref m), some (.int (mLay3 (s.2.1 5) (s.2.1 4) (s.2.1 7) U).1), some (.int 3), o3] []) (h : ax_H) (o3 : Option Value) (hR : mR m (mLz s (va_up (va_up (va_up (s.2.1 30) 0 (4194304 + (mLay1 (s.2.1 5) (s.2.1 4) (s.2.1 7) U).1)) 1 (4194304 + mUp4k (mLay1 (s.2.1 5) (s.2.1 4) (s.2.1 7) U).1)) 2 (4194304 + (mLay2 (s.2.1 5) (s.2.1 4) (s.2.1 7) U).1)) (mLay2 (s.2.1 5) (s.2.1 4) (s.2.1 7) U)) h) (hF : mFr m hq h) : AW G x Y_M_layOut 0 0 h0 P h 9 [some (.ref m), some (.int (mLay2 (s.2.1 5) (s.2.1 4) (s.2.1 7) U).1), some (.int 2), o3] [] := by
  refine aw_iload_n d_M_layOut_9 rfl rfl ?_
  refine aw_iconst (v := 4) d_M_layOut_10 (by decide) ?_
  refine aw_icmp_ge (tgt := 183) d_M_layOut_11 (by decide) (fun c11 => ?_) (fun c11 => ?_)
  · exact absurd c11 (by decide)
  · refine aw_iload_n d_M_layOut_14 rfl rfl ?_
    refine aw_iconst (v := 1) d_M_layOut_15 (by decide) ?_
    refine aw_icmp_eq (tgt := 24) d_M_layOut_16 (by decide) (fun c16 => ?_) (fun c16 => ?_)
    · exact absurd c16 (by decide)
    · refine aw_iload_n d_M_layOut_19 rfl rfl ?_
      refine aw_iconst (v := 2) d_M_layOut_20 (by decide) ?_
      refine aw_icmp_ne (tgt := 34) d_M_layOut_21 (by decide) (fun c21 => ?_) (fun c21 => ?_)
      · exact absurd (by decide) c21
      · refine aw_iload_n d_M_layOut_24 rfl rfl ?_
        refine aw_sipush (v := 4095) d_M_layOut_25 (by decide) ?_
        refine aw_iadd d_M_layOut_28 ?_
        refine aw_sipush (v := (-4096)) d_M_layOut_29 (by decide) ?_
        refine aw_iand d_M_layOut_32 ?_
        refine aw_istore_n d_M_layOut_33 rfl (by decide) rfl ?_
        refine aw_iload_n d_M_layOut_34 rfl rfl ?_
        refine aw_iconst (v := 1) d_M_layOut_35 (by decide) ?_
        refine aw_icmp_ne (tgt := 49) d_M_layOut_36 (by decide) (fun c36 => ?_) (fun c36 => ?_)
        · refine aw_iload_n d_M_layOut_49 rfl rfl ?_
          refine aw_iconst (v := 2) d_M_layOut_50 (by decide) ?_
          refine aw_icmp_ne (tgt := 64) d_M_layOut_51 (by decide) (fun c51 => ?_) (fun c51 => ?_)
          · exact absurd (by decide) c51
          · first | refine aw_aload_n d_M_layOut_54 rfl rfl ?_ | refine aw_aload_nQ d_M_layOut_54 rfl rfl ?_ | refine aw_aload_nN d_M_layOut_54 rfl rfl ?_
            refine aM_get (by assumption) fl_M_105 (by decide) rfl d_M_layOut_55 ?_
            refine aw_iconst (v := 3) d_M_layOut_58 (by decide) ?_
            refine aw_ldc kc_M_194 d_M_layOut_59 ?_
            refine aw_iload_n d_M_layOut_61 rfl rfl ?_
            refine aw_iadd d_M_layOut_62 ?_
            refine aM_iast (by assumption) (by decide) rfl (show _ = nI 3 from rfl) (show 3 < 7 by decide) (by decide) d_M_layOut_63 (fun g63 hR63 hF63 => ?_)
            refine aw_iconst (v := 0) d_M_layOut_64 (by decide) ?_
            refine aw_istore_n d_M_layOut_65 rfl (by decide) rfl ?_
            refine l_M_lay s U hU hUb 2 (by decide) (va_up (va_up (va_up (va_up (s.2.1 30) 0 (4194304 + (mLay1 (s.2.1 5) (s.2.1 4) (s.2.1 7) U).1)) 1 (4194304 + mUp4k (mLay1 (s.2.1 5) (s.2.1 4) (s.2.1 7) U).1)) 2 (4194304 + (mLay2 (s.2.1 5) (s.2.1 4) (s.2.1 7) U).1)) 3 (4194304 + mUp4k (mLay2 (s.2.1 5) (s.2.1 4) (s.2.1 7) U).1)) hq (mLay3 (s.2.1 5) (s.2.1 4) (s.2.1 7) U) (fun h2 o3 hRa hFa => ?_) U 0 (mUp4k (mLay2 (s.2.1 5) (s.2.1 4) (s.2.1 7) U).1, (mLay2 (s.2.1 5) (s.2.1 4) (s.2.1 7) U).2) _ (by omega) (show mR m (mLz s (va_up (va_up (va_up (va_up (s.2.1 30) 0 (4194304 + (mLay1 (s.2.1 5) (s.2.1 4) (s.2.1 7) U).1)) 1 (4194304 + mUp4k (mLay1 (s.2.1 5) (s.2.1 4) (s.2.1 7) U).1)) 2 (4194304 + (mLay2 (s.2.1 5) (s.2.1 4) (s.2.1 7) U).1)) 3 (4194304 + mUp4k (mLay2 (s.2.1 5) (s.2.1 4) (s.2.1 7) U).1)) (mUp4k (mLay2 (s.2.1 5) (s.2.1 4) (s.2.1 7) U).1, (mLay2 (s.2.1 5) (s.2.1 4) (s.2.1 7) U).2)) _ from mLz_p hR63) (hF.tr hF63) rfl
            refine aw_iload_n d_M_layOut_133 rfl rfl ?_
            refine aw_if_ne (tgt := 147) d_M_layOut_134 (by decide) (fun c134 => ?_) (fun c134 => ?_)
            · refine aw_iload_n d_M_layOut_147 rfl rfl ?_
              refine aw_iconst (v := 1) d_M_layOut_148 (by decide) ?_
              refine aw_icmp_ne (tgt := 162) d_M_layOut_149 (by decide) (fun c149 => ?_) (fun c149 => ?_)
              · refine aw_iload_n d_M_layOut_162 rfl rfl ?_
                refine aw_iconst (v := 3) d_M_layOut_163 (by decide) ?_
                refine aw_icmp_ne (tgt := 177) d_M_layOut_164 (by decide) (fun c164 => ?_) (fun c164 => ?_)
                · refine aw_iinc (v := 3) d_M_layOut_177 rfl (by decide) (by decide) rfl ?_
                  refine aw_goto (tgt := 9) d_M_layOut_180 (by decide) ?_
                  exact hk _ _ hRa hFa
                · exact absurd c164 (by decide)
              · exact absurd c149 (by decide)
            · exact absurd c134 (by decide)
        · exact absurd c36 (by decide)
set_option maxRecDepth 20000 in
theorem t_M_lay3 {G : ax_G} {x : ax_X} {h0 : ax_H} {P : Option Value → ax_H → Prop} {m : Nat} (s : mSt) (U : Nat) (hU : s.1 1 = nI U) (hUb : U ≤ 32) (hq : ax_H) (hk : ∀ h2 o3, mR m (mLz s (va_up (va_up (va_up (va_up (va_up (s.2.1 30) 0 (4194304 + (mLay1 (s.2.1 5) (s.2.1 4) (s.2.1 7) U).1)) 1 (4194304 + mUp4k (mLay1 (s.2.1 5) (s.2.1 4) (s.2.1 7) U).1)) 2 (4194304 + (mLay2 (s.2.1 5) (s.2.1 4) (s.2.1 7) U).1)) 3 (4194304 + mUp4k (mLay2 (s.2.1 5) (s.2.1 4) (s.2.1 7) U).1)) 4 (4194304 + (mLay4 (s.2.1 5) (s.2.1 4) (s.2.1 7) U).1)) (mLay4 (s.2.1 5) (s.2.1 4) (s.2.1 7) U)) h2 → mFr m hq h2 → AW G x Y_M_layOut 0 0 h0 P h2 9 [some (.ref m), some (.int (mLay4 (s.2.1 5) (s.2.1 4) (s.2.1 7) U).1), some (.int 4), o3] []) (h : ax_H) (o3 : Option Value) (hR : mR m (mLz s (va_up (va_up (va_up (va_up (s.2.1 30) 0 (4194304 + (mLay1 (s.2.1 5) (s.2.1 4) (s.2.1 7) U).1)) 1 (4194304 + mUp4k (mLay1 (s.2.1 5) (s.2.1 4) (s.2.1 7) U).1)) 2 (4194304 + (mLay2 (s.2.1 5) (s.2.1 4) (s.2.1 7) U).1)) 3 (4194304 + mUp4k (mLay2 (s.2.1 5) (s.2.1 4) (s.2.1 7) U).1)) (mLay3 (s.2.1 5) (s.2.1 4) (s.2.1 7) U)) h) (hF : mFr m hq h) : AW G x Y_M_layOut 0 0 h0 P h 9 [some (.ref m), some (.int (mLay3 (s.2.1 5) (s.2.1 4) (s.2.1 7) U).1), some (.int 3), o3] [] := by
  refine aw_iload_n d_M_layOut_9 rfl rfl ?_
  refine aw_iconst (v := 4) d_M_layOut_10 (by decide) ?_
  refine aw_icmp_ge (tgt := 183) d_M_layOut_11 (by decide) (fun c11 => ?_) (fun c11 => ?_)
  · exact absurd c11 (by decide)
  · refine aw_iload_n d_M_layOut_14 rfl rfl ?_
    refine aw_iconst (v := 1) d_M_layOut_15 (by decide) ?_
    refine aw_icmp_eq (tgt := 24) d_M_layOut_16 (by decide) (fun c16 => ?_) (fun c16 => ?_)
    · exact absurd c16 (by decide)
    · refine aw_iload_n d_M_layOut_19 rfl rfl ?_
      refine aw_iconst (v := 2) d_M_layOut_20 (by decide) ?_
      refine aw_icmp_ne (tgt := 34) d_M_layOut_21 (by decide) (fun c21 => ?_) (fun c21 => ?_)
      · refine aw_iload_n d_M_layOut_34 rfl rfl ?_
        refine aw_iconst (v := 1) d_M_layOut_35 (by decide) ?_
        refine aw_icmp_ne (tgt := 49) d_M_layOut_36 (by decide) (fun c36 => ?_) (fun c36 => ?_)
        · refine aw_iload_n d_M_layOut_49 rfl rfl ?_
          refine aw_iconst (v := 2) d_M_layOut_50 (by decide) ?_
          refine aw_icmp_ne (tgt := 64) d_M_layOut_51 (by decide) (fun c51 => ?_) (fun c51 => ?_)
          · refine aw_iconst (v := 0) d_M_layOut_64 (by decide) ?_
            refine aw_istore_n d_M_layOut_65 rfl (by decide) rfl ?_
            refine l_M_lay s U hU hUb 3 (by decide) (va_up (va_up (va_up (va_up (s.2.1 30) 0 (4194304 + (mLay1 (s.2.1 5) (s.2.1 4) (s.2.1 7) U).1)) 1 (4194304 + mUp4k (mLay1 (s.2.1 5) (s.2.1 4) (s.2.1 7) U).1)) 2 (4194304 + (mLay2 (s.2.1 5) (s.2.1 4) (s.2.1 7) U).1)) 3 (4194304 + mUp4k (mLay2 (s.2.1 5) (s.2.1 4) (s.2.1 7) U).1)) hq (mLay4 (s.2.1 5) (s.2.1 4) (s.2.1 7) U) (fun h2 o3 hRa hFa => ?_) U 0 (mLay3 (s.2.1 5) (s.2.1 4) (s.2.1 7) U) _ (by omega) hR hF rfl
            refine aw_iload_n d_M_layOut_133 rfl rfl ?_
            refine aw_if_ne (tgt := 147) d_M_layOut_134 (by decide) (fun c134 => ?_) (fun c134 => ?_)
            · refine aw_iload_n d_M_layOut_147 rfl rfl ?_
              refine aw_iconst (v := 1) d_M_layOut_148 (by decide) ?_
              refine aw_icmp_ne (tgt := 162) d_M_layOut_149 (by decide) (fun c149 => ?_) (fun c149 => ?_)
              · refine aw_iload_n d_M_layOut_162 rfl rfl ?_
                refine aw_iconst (v := 3) d_M_layOut_163 (by decide) ?_
                refine aw_icmp_ne (tgt := 177) d_M_layOut_164 (by decide) (fun c164 => ?_) (fun c164 => ?_)
                · exact absurd (by decide) c164
                · first | refine aw_aload_n d_M_layOut_167 rfl rfl ?_ | refine aw_aload_nQ d_M_layOut_167 rfl rfl ?_ | refine aw_aload_nN d_M_layOut_167 rfl rfl ?_
                  refine aM_get (by assumption) fl_M_105 (by decide) rfl d_M_layOut_168 ?_
                  refine aw_iconst (v := 4) d_M_layOut_171 (by decide) ?_
                  refine aw_ldc kc_M_194 d_M_layOut_172 ?_
                  refine aw_iload_n d_M_layOut_174 rfl rfl ?_
                  refine aw_iadd d_M_layOut_175 ?_
                  refine aM_iast (by assumption) (by decide) rfl (show _ = nI 4 from rfl) (show 4 < 7 by decide) (by decide) d_M_layOut_176 (fun g176 hR176 hF176 => ?_)
                  refine aw_iinc (v := 4) d_M_layOut_177 rfl (by decide) (by decide) rfl ?_
                  refine aw_goto (tgt := 9) d_M_layOut_180 (by decide) ?_
                  exact hk _ _ (mLz_p hR176) (hFa.tr hF176)
              · exact absurd c149 (by decide)
            · exact absurd c134 (by decide)
          · exact absurd c51 (by decide)
        · exact absurd c36 (by decide)
      · exact absurd c21 (by decide)
set_option maxRecDepth 20000 in
theorem c_M_layOut (G : ax_G) (h : ax_H) (m : Nat) (s : mSt) (hR : mR m s h) (U : Nat) (hU : s.1 1 = nI U) (hUb : U ≤ 32) : AM G Y_M_layOut 0 0 [.ref m] h (fun v h2 => v = none ∧ mR m (mLayOut s U) h2 ∧ mFr m h h2) := by
  refine aw_enter (by decide) (Nat.le_of_ble_eq_true rfl) (n := 3) (ls := [some (.ref m), none, none, none]) rfl (fun x => ?_)
  refine aw_iconst (v := 0) d_M_layOut_0 (by decide) ?_
  refine aw_istore_n d_M_layOut_1 rfl (by decide) rfl ?_
  first | refine aw_aload_n d_M_layOut_2 rfl rfl ?_ | refine aw_aload_nQ d_M_layOut_2 rfl rfl ?_ | refine aw_aload_nN d_M_layOut_2 rfl rfl ?_
  refine aw_iconst (v := 0) d_M_layOut_3 (by decide) ?_
  refine aM_put (by assumption) fl_M_191 (by decide) rfl rfl rfl rfl d_M_layOut_4 (fun g4 hR4 hF4 => ?_)
  refine aw_iconst (v := 0) d_M_layOut_7 (by decide) ?_
  refine aw_istore_n d_M_layOut_8 rfl (by decide) rfl ?_
  have hR4 : mR m (mLz s (s.2.1 30) (0, 0, s.2.1 7)) g4 := by
    show mR m (va_up s.1 39 0, va_up (va_up s.2.1 30 (s.2.1 30)) 7 (s.2.1 7), s.2.2) g4
    rw [mUs, mUs]
    exact hR4
  refine t_M_lay0 s U hU hUb h (fun h2 o3 hR2 hF2 => ?_) _ _ hR4 hF4
  refine t_M_lay1 s U hU hUb h (fun h2 o3 hR2 hF2 => ?_) _ _ hR2 hF2
  refine t_M_lay2 s U hU hUb h (fun h2 o3 hR2 hF2 => ?_) _ _ hR2 hF2
  refine t_M_lay3 s U hU hUb h (fun h2 o3 hR2 hF2 => ?_) _ _ hR2 hF2
  refine aw_iload_n d_M_layOut_9 rfl rfl ?_
  refine aw_iconst (v := 4) d_M_layOut_10 (by decide) ?_
  refine aw_icmp_ge (tgt := 183) d_M_layOut_11 (by decide) (fun c11 => ?_) (fun c11 => ?_)
  · first | refine aw_aload_n d_M_layOut_183 rfl rfl ?_ | refine aw_aload_nQ d_M_layOut_183 rfl rfl ?_ | refine aw_aload_nN d_M_layOut_183 rfl rfl ?_
    refine aM_get (by assumption) fl_M_105 (by decide) rfl d_M_layOut_184 ?_
    refine aw_bipush (v := 6) d_M_layOut_187 (by decide) ?_
    first | refine aw_aload_n d_M_layOut_189 rfl rfl ?_ | refine aw_aload_nQ d_M_layOut_189 rfl rfl ?_ | refine aw_aload_nN d_M_layOut_189 rfl rfl ?_
    refine aM_get (by assumption) fl_M_191 (by decide) rfl d_M_layOut_190 ?_
    refine aM_iast (by assumption) (by decide) rfl (show _ = nI 6 from rfl) (show 6 < 7 by decide) (by decide) d_M_layOut_193 (fun g193 hR193 hF193 => ?_)
    refine aw_vret ?_ rfl d_M_layOut_194
    exact ⟨rfl, mLz_p hR193, hF2.tr hF193⟩
  · exact absurd (by decide) c11
