abbrev mAwOk (s : mSt) (U S F W : Nat) (a p n nx wh l : Int32) : Prop := (n = 4 ∨ n = 8) ∧ mLies s U a p n ∧ (0 ≤ l ∧ l ≤ 65535) ∧ ¬ W = 4096 ∧ (-1 ≤ nx ∧ nx ≤ s.2.1 5 (4 * (U - 1) + a.toNatClampNeg)) ∧ -5 ≤ wh ∧ (wh < 0 ∨ wh < nI S - nI F)
def mAwS (s : mSt) (F W : Nat) (a p n nx wh : Int32) (z : Int64) (l : Int32) : mSt := (va_up (va_up s.1 0 0) 3 (s.1 3 + 1), va_up (va_up (va_up (va_up (va_up (va_up (va_up s.2.1 17 (va_up (s.2.1 17) W (s.1 1 - 1))) 18 (va_up (s.2.1 18) W a)) 19 (va_up (s.2.1 19) W p)) 20 (va_up (s.2.1 20) W n)) 21 (va_up (s.2.1 21) W nx)) 22 (va_up (s.2.1 22) W (if wh < 0 then wh else nI F + wh))) 23 (va_up (s.2.1 23) W l), va_up s.2.2 24 (va_up (s.2.2 24) W z))
set_option maxRecDepth 20000 in
theorem t_M_await2 {G : ax_G} {x : ax_X} {h0 h : ax_H} {P : Option Value → ax_H → Prop} {m : Nat} {s : mSt} (hR : mR m (va_up s.1 0 0, s.2) h) (F W : Nat) (hW : s.1 3 = nI W) (hWl : W < 4096) (a p n nx wh l : Int32) (z : Int64) (hp : ∀ h2, mR m (mAwS s F W a p n nx wh z l) h2 → mFr m h h2 → P (some (.int 1)) h2) : AW G x Y_M_await 2 44 h0 P h 108 [some (.ref m), some (.int a), some (.int p), some (.int n), some (.int nx), some (.int wh), some (.long z), none, some (.int l), some (.int (nI F))] [] := by
  first | refine aw_aload_n d_M_await_108 rfl rfl ?_ | refine aw_aload_nQ d_M_await_108 rfl rfl ?_ | refine aw_aload_nN d_M_await_108 rfl rfl ?_
  refine aM_get (by assumption) fl_M_62 (by decide) rfl d_M_await_109 ?_
  first | refine aw_aload_n d_M_await_112 rfl rfl ?_ | refine aw_aload_nQ d_M_await_112 rfl rfl ?_ | refine aw_aload_nN d_M_await_112 rfl rfl ?_
  refine aM_get (by assumption) fl_M_132 (by decide) rfl d_M_await_113 ?_
  first | refine aw_aload_n d_M_await_116 rfl rfl ?_ | refine aw_aload_nQ d_M_await_116 rfl rfl ?_ | refine aw_aload_nN d_M_await_116 rfl rfl ?_
  refine aM_get (by assumption) fl_M_126 (by decide) rfl d_M_await_117 ?_
  refine aw_iconst (v := 1) d_M_await_120 (by decide) ?_
  refine aw_isub d_M_await_121 ?_
  refine aM_iast (by assumption) (by decide) rfl hW hWl (by decide) d_M_await_122 (fun g122 hR122 hF122 => ?_)
  first | refine aw_aload_n d_M_await_123 rfl rfl ?_ | refine aw_aload_nQ d_M_await_123 rfl rfl ?_ | refine aw_aload_nN d_M_await_123 rfl rfl ?_
  refine aM_get (by assumption) fl_M_65 (by decide) rfl d_M_await_124 ?_
  first | refine aw_aload_n d_M_await_127 rfl rfl ?_ | refine aw_aload_nQ d_M_await_127 rfl rfl ?_ | refine aw_aload_nN d_M_await_127 rfl rfl ?_
  refine aM_get (by assumption) fl_M_132 (by decide) rfl d_M_await_128 ?_
  refine aw_iload_n d_M_await_131 rfl rfl ?_
  refine aM_iast (by assumption) (by decide) rfl hW hWl (by decide) d_M_await_132 (fun g132 hR132 hF132 => ?_)
  first | refine aw_aload_n d_M_await_133 rfl rfl ?_ | refine aw_aload_nQ d_M_await_133 rfl rfl ?_ | refine aw_aload_nN d_M_await_133 rfl rfl ?_
  refine aM_get (by assumption) fl_M_68 (by decide) rfl d_M_await_134 ?_
  first | refine aw_aload_n d_M_await_137 rfl rfl ?_ | refine aw_aload_nQ d_M_await_137 rfl rfl ?_ | refine aw_aload_nN d_M_await_137 rfl rfl ?_
  refine aM_get (by assumption) fl_M_132 (by decide) rfl d_M_await_138 ?_
  refine aw_iload_n d_M_await_141 rfl rfl ?_
  refine aM_iast (by assumption) (by decide) rfl hW hWl (by decide) d_M_await_142 (fun g142 hR142 hF142 => ?_)
  first | refine aw_aload_n d_M_await_143 rfl rfl ?_ | refine aw_aload_nQ d_M_await_143 rfl rfl ?_ | refine aw_aload_nN d_M_await_143 rfl rfl ?_
  refine aM_get (by assumption) fl_M_71 (by decide) rfl d_M_await_144 ?_
  first | refine aw_aload_n d_M_await_147 rfl rfl ?_ | refine aw_aload_nQ d_M_await_147 rfl rfl ?_ | refine aw_aload_nN d_M_await_147 rfl rfl ?_
  refine aM_get (by assumption) fl_M_132 (by decide) rfl d_M_await_148 ?_
  refine aw_iload_n d_M_await_151 rfl rfl ?_
  refine aM_iast (by assumption) (by decide) rfl hW hWl (by decide) d_M_await_152 (fun g152 hR152 hF152 => ?_)
  first | refine aw_aload_n d_M_await_153 rfl rfl ?_ | refine aw_aload_nQ d_M_await_153 rfl rfl ?_ | refine aw_aload_nN d_M_await_153 rfl rfl ?_
  refine aM_get (by assumption) fl_M_74 (by decide) rfl d_M_await_154 ?_
  first | refine aw_aload_n d_M_await_157 rfl rfl ?_ | refine aw_aload_nQ d_M_await_157 rfl rfl ?_ | refine aw_aload_nN d_M_await_157 rfl rfl ?_
  refine aM_get (by assumption) fl_M_132 (by decide) rfl d_M_await_158 ?_
  refine aw_iload d_M_await_161 rfl ?_
  refine aM_iast (by assumption) (by decide) rfl hW hWl (by decide) d_M_await_163 (fun g163 hR163 hF163 => ?_)
  first | refine aw_aload_n d_M_await_164 rfl rfl ?_ | refine aw_aload_nQ d_M_await_164 rfl rfl ?_ | refine aw_aload_nN d_M_await_164 rfl rfl ?_
  refine aM_get (by assumption) fl_M_77 (by decide) rfl d_M_await_165 ?_
  first | refine aw_aload_n d_M_await_168 rfl rfl ?_ | refine aw_aload_nQ d_M_await_168 rfl rfl ?_ | refine aw_aload_nN d_M_await_168 rfl rfl ?_
  refine aM_get (by assumption) fl_M_132 (by decide) rfl d_M_await_169 ?_
  refine aw_iload d_M_await_172 rfl ?_
  refine aw_if_ge (tgt := 182) d_M_await_174 (by decide) (fun c174 => ?_) (fun c174 => ?_)
  · refine aw_iload d_M_await_182 rfl ?_
    refine aw_iload d_M_await_184 rfl ?_
    refine aw_iadd d_M_await_186 ?_
    refine aM_iast (by assumption) (by decide) rfl hW hWl (by decide) d_M_await_187 (fun g187 hR187 hF187 => ?_)
    first | refine aw_aload_n d_M_await_188 rfl rfl ?_ | refine aw_aload_nQ d_M_await_188 rfl rfl ?_ | refine aw_aload_nN d_M_await_188 rfl rfl ?_
    refine aM_get (by assumption) fl_M_83 (by decide) rfl d_M_await_189 ?_
    first | refine aw_aload_n d_M_await_192 rfl rfl ?_ | refine aw_aload_nQ d_M_await_192 rfl rfl ?_ | refine aw_aload_nN d_M_await_192 rfl rfl ?_
    refine aM_get (by assumption) fl_M_132 (by decide) rfl d_M_await_193 ?_
    refine aw_lload d_M_await_196 rfl ?_
    refine aM_last (by assumption) (by decide) rfl hW hWl (by decide) d_M_await_198 (fun g198 hR198 hF198 => ?_)
    first | refine aw_aload_n d_M_await_199 rfl rfl ?_ | refine aw_aload_nQ d_M_await_199 rfl rfl ?_ | refine aw_aload_nN d_M_await_199 rfl rfl ?_
    refine aM_get (by assumption) fl_M_80 (by decide) rfl d_M_await_200 ?_
    first | refine aw_aload_n d_M_await_203 rfl rfl ?_ | refine aw_aload_nQ d_M_await_203 rfl rfl ?_ | refine aw_aload_nN d_M_await_203 rfl rfl ?_
    refine aM_get (by assumption) fl_M_132 (by decide) rfl d_M_await_204 ?_
    refine aw_iload d_M_await_207 rfl ?_
    refine aM_iast (by assumption) (by decide) rfl hW hWl (by decide) d_M_await_209 (fun g209 hR209 hF209 => ?_)
    first | refine aw_aload_n d_M_await_210 rfl rfl ?_ | refine aw_aload_nQ d_M_await_210 rfl rfl ?_ | refine aw_aload_nN d_M_await_210 rfl rfl ?_
    refine aw_dup d_M_await_211 rfl ?_
    refine aM_get (by assumption) fl_M_132 (by decide) rfl d_M_await_212 ?_
    refine aw_iconst (v := 1) d_M_await_215 (by decide) ?_
    refine aw_iadd d_M_await_216 ?_
    refine aM_put (by assumption) fl_M_132 (by decide) rfl rfl rfl rfl d_M_await_217 (fun g217 hR217 hF217 => ?_)
    refine aw_iconst (v := 1) d_M_await_220 (by decide) ?_
    refine aw_zret ?_ rfl rfl d_M_await_221
    refine hp _ ?_ ((((((((hF122.tr hF132).tr hF142).tr hF152).tr hF163).tr hF187).tr hF198).tr hF209).tr hF217)
    rw [mAwS, if_neg (Int32.not_lt.mpr c174)]
    exact hR217
  · refine aw_iload d_M_await_177 rfl ?_
    refine aw_goto (tgt := 187) d_M_await_179 (by decide) ?_
    refine aM_iast (by assumption) (by decide) rfl hW hWl (by decide) d_M_await_187 (fun g187 hR187 hF187 => ?_)
    first | refine aw_aload_n d_M_await_188 rfl rfl ?_ | refine aw_aload_nQ d_M_await_188 rfl rfl ?_ | refine aw_aload_nN d_M_await_188 rfl rfl ?_
    refine aM_get (by assumption) fl_M_83 (by decide) rfl d_M_await_189 ?_
    first | refine aw_aload_n d_M_await_192 rfl rfl ?_ | refine aw_aload_nQ d_M_await_192 rfl rfl ?_ | refine aw_aload_nN d_M_await_192 rfl rfl ?_
    refine aM_get (by assumption) fl_M_132 (by decide) rfl d_M_await_193 ?_
    refine aw_lload d_M_await_196 rfl ?_
    refine aM_last (by assumption) (by decide) rfl hW hWl (by decide) d_M_await_198 (fun g198 hR198 hF198 => ?_)
    first | refine aw_aload_n d_M_await_199 rfl rfl ?_ | refine aw_aload_nQ d_M_await_199 rfl rfl ?_ | refine aw_aload_nN d_M_await_199 rfl rfl ?_
    refine aM_get (by assumption) fl_M_80 (by decide) rfl d_M_await_200 ?_
    first | refine aw_aload_n d_M_await_203 rfl rfl ?_ | refine aw_aload_nQ d_M_await_203 rfl rfl ?_ | refine aw_aload_nN d_M_await_203 rfl rfl ?_
    refine aM_get (by assumption) fl_M_132 (by decide) rfl d_M_await_204 ?_
    refine aw_iload d_M_await_207 rfl ?_
    refine aM_iast (by assumption) (by decide) rfl hW hWl (by decide) d_M_await_209 (fun g209 hR209 hF209 => ?_)
    first | refine aw_aload_n d_M_await_210 rfl rfl ?_ | refine aw_aload_nQ d_M_await_210 rfl rfl ?_ | refine aw_aload_nN d_M_await_210 rfl rfl ?_
    refine aw_dup d_M_await_211 rfl ?_
    refine aM_get (by assumption) fl_M_132 (by decide) rfl d_M_await_212 ?_
    refine aw_iconst (v := 1) d_M_await_215 (by decide) ?_
    refine aw_iadd d_M_await_216 ?_
    refine aM_put (by assumption) fl_M_132 (by decide) rfl rfl rfl rfl d_M_await_217 (fun g217 hR217 hF217 => ?_)
    refine aw_iconst (v := 1) d_M_await_220 (by decide) ?_
    refine aw_zret ?_ rfl rfl d_M_await_221
    refine hp _ ?_ ((((((((hF122.tr hF132).tr hF142).tr hF152).tr hF163).tr hF187).tr hF198).tr hF209).tr hF217)
    rw [mAwS, if_pos (Int32.not_le.mp c174)]
    exact hR217
set_option maxRecDepth 20000 in
theorem t_M_await {G : ax_G} {x : ax_X} {h0 h : ax_H} {P : Option Value → ax_H → Prop} {m : Nat} {s : mSt} (hR : mR m (va_up s.1 0 0, s.2) h) (U S F W : Nat) (hU : s.1 1 = nI U) (hUb : U ≤ 32) (hS : s.1 2 = nI S) (hSb : S ≤ 2048) (hW : s.1 3 = nI W) (hWb : W ≤ 4096) (hFs : 0 < U → s.2.1 16 (U - 1) = nI F) (hFS : F ≤ S) (a p n nx wh l : Int32) (z : Int64) (hp : mAwOk s U S F W a p n nx wh l → ∀ h2, mR m (mAwS s F W a p n nx wh z l) h2 → mFr m h h2 → P (some (.int 1)) h2) (hn : ¬ mAwOk s U S F W a p n nx wh l → P (some (.int 0)) h) (h48 : n = 4 ∨ n = 8) : AW G x Y_M_await 2 44 h0 P h 16 [some (.ref m), some (.int a), some (.int p), some (.int n), some (.int nx), some (.int wh), some (.long z), none, some (.int l), none] [] := by
  first | refine aw_aload_n d_M_await_16 rfl rfl ?_ | refine aw_aload_nQ d_M_await_16 rfl rfl ?_ | refine aw_aload_nN d_M_await_16 rfl rfl ?_
  refine aw_iload_n d_M_await_17 rfl rfl ?_
  refine aw_iload_n d_M_await_18 rfl rfl ?_
  refine aw_iload_n d_M_await_19 rfl rfl ?_
  refine aw_callV (c_M_lies G _ m (va_up s.1 0 0, s.2) (by assumption) U hU hUb a p n) cl_M (mR.obj (by assumption)) m_M_lies ml_M_154 rfl rfl (by decide) (by decide) (Nat.le_of_ble_eq_true rfl) d_M_await_20 ?_
  rintro v h' ⟨rfl, rfl⟩
  refine aw_if_eq (tgt := 44) d_M_await_23 (by decide) (fun c23 => ?_) (fun c23 => ?_)
  · refine aw_iconst (v := 0) d_M_await_44 (by decide) ?_
    refine aw_zret ?_ rfl rfl d_M_await_45
    exact hn (fun q => absurd c23 (by rw [zI, if_pos (show mLies (va_up s.1 0 0, s.2) U a p n from q.2.1)]; decide))
  · refine aw_iload d_M_await_26 rfl ?_
    refine aw_callS (c_M_isLine G _ l) m_M_isLine ml_M_158 rfl rfl (by decide) (by decide) (Nat.le_of_ble_eq_true rfl) d_M_await_28 ?_
    rintro v h' ⟨rfl, rfl⟩
    refine aw_if_eq (tgt := 44) d_M_await_31 (by decide) (fun c31 => ?_) (fun c31 => ?_)
    · refine aw_iconst (v := 0) d_M_await_44 (by decide) ?_
      refine aw_zret ?_ rfl rfl d_M_await_45
      exact hn (fun q => absurd c31 (by rw [zI, if_pos q.2.2.1]; decide))
    · first | refine aw_aload_n d_M_await_34 rfl rfl ?_ | refine aw_aload_nQ d_M_await_34 rfl rfl ?_ | refine aw_aload_nN d_M_await_34 rfl rfl ?_
      refine aM_get (by assumption) fl_M_132 (by decide) rfl d_M_await_35 ?_
      refine aw_sipush (v := 4096) d_M_await_38 (by decide) ?_
      refine aw_icmp_ne (tgt := 46) d_M_await_41 (by decide) (fun c41 => ?_) (fun c41 => ?_)
      · have hWl : W < 4096 := Nat.lt_of_le_of_ne hWb (fun q => c41 (by show s.1 3 = 4096; rw [hW, q]; rfl))
        have hln : 0 ≤ l ∧ l ≤ 65535 := by
          by_cases q : 0 ≤ l ∧ l ≤ 65535
          · exact q
          · exact absurd (show zI (0 ≤ l ∧ l ≤ 65535) = 0 by rw [zI, if_neg q]) c31
        have hl : mLies s U a p n := by
          by_cases q : mLies s U a p n
          · exact q
          · exact absurd (show zI (mLies (va_up s.1 0 0, s.2) U a p n) = 0 by rw [zI, if_neg q]) c23
        obtain ⟨hU0, q1, q2, -, -⟩ := id hl
        obtain ⟨i, hi, ha⟩ := ax_ix (M := 3) (by decide) (Int32.not_lt.mpr q1) (Int32.not_le.mpr q2)
        have hci : a.toNatClampNeg = i := by rw [ha]; exact nI_clamp (by omega)
        refine aw_iload d_M_await_46 rfl ?_
        refine aw_iconst (v := (-1)) d_M_await_48 (by decide) ?_
        refine aw_icmp_lt (tgt := 74) d_M_await_49 (by decide) (fun c49 => ?_) (fun c49 => ?_)
        · refine aw_iconst (v := 0) d_M_await_74 (by decide) ?_
          refine aw_zret ?_ rfl rfl d_M_await_75
          exact hn (fun q => absurd c49 (Int32.not_lt.mpr q.2.2.2.2.1.1))
        · refine aw_iload d_M_await_52 rfl ?_
          first | refine aw_aload_n d_M_await_54 rfl rfl ?_ | refine aw_aload_nQ d_M_await_54 rfl rfl ?_ | refine aw_aload_nN d_M_await_54 rfl rfl ?_
          refine aM_get (by assumption) fl_M_22 (by decide) rfl d_M_await_55 ?_
          first | refine aw_aload_n d_M_await_58 rfl rfl ?_ | refine aw_aload_nQ d_M_await_58 rfl rfl ?_ | refine aw_aload_nN d_M_await_58 rfl rfl ?_
          refine aw_iload_n d_M_await_59 rfl rfl ?_
          refine aw_callV (c_M_own G _ m _ (by assumption) _) cl_M (mR.obj (by assumption)) m_M_own ml_M_150 rfl rfl (by decide) (by decide) (Nat.le_of_ble_eq_true rfl) d_M_await_60 ?_
          rintro v h' ⟨rfl, rfl⟩
          have eo : 4 * ((va_up s.1 0 0, s.2).1 1 - 1) + a = nI (4 * (U - 1) + i) := by
            show 4 * (s.1 1 - 1) + a = _
            rw [hU, ha, ax_own hU0]
          refine aM_iald (by assumption) (by decide) rfl eo (show 4 * (U - 1) + i < 128 by omega) (by decide) d_M_await_63 ?_
          refine aw_icmp_gt (tgt := 74) d_M_await_64 (by decide) (fun c64 => ?_) (fun c64 => ?_)
          · refine aw_iconst (v := 0) d_M_await_74 (by decide) ?_
            refine aw_zret ?_ rfl rfl d_M_await_75
            exact hn (fun q => absurd c64 (Int32.not_lt.mpr (by have y := q.2.2.2.2.1.2; rw [hci] at y; exact y)))
          · refine aw_iload d_M_await_67 rfl ?_
            refine aw_bipush (v := (-5)) d_M_await_69 (by decide) ?_
            refine aw_icmp_ge (tgt := 76) d_M_await_71 (by decide) (fun c71 => ?_) (fun c71 => ?_)
            · first | refine aw_aload_n d_M_await_76 rfl rfl ?_ | refine aw_aload_nQ d_M_await_76 rfl rfl ?_ | refine aw_aload_nN d_M_await_76 rfl rfl ?_
              refine aM_get (by assumption) fl_M_59 (by decide) rfl d_M_await_77 ?_
              first | refine aw_aload_n d_M_await_80 rfl rfl ?_ | refine aw_aload_nQ d_M_await_80 rfl rfl ?_ | refine aw_aload_nN d_M_await_80 rfl rfl ?_
              refine aM_get (by assumption) fl_M_126 (by decide) rfl d_M_await_81 ?_
              refine aw_iconst (v := 1) d_M_await_84 (by decide) ?_
              refine aw_isub d_M_await_85 ?_
              have eu : (va_up s.1 0 0, s.2).1 1 - 1 = nI (U - 1) := by
                show s.1 1 - 1 = _
                rw [hU, ax_n1 U hU0]
              refine aM_iald (by assumption) (by decide) rfl eu (show U - 1 < 33 by omega) (by decide) d_M_await_86 ?_
              rw [show (va_up s.1 0 0, s.2).2.1 16 (U - 1) = nI F from hFs hU0]
              refine aw_istore d_M_await_87 (by decide) rfl ?_
              refine aw_iload d_M_await_89 rfl ?_
              refine aw_if_lt (tgt := 108) d_M_await_91 (by decide) (fun c91 => ?_) (fun c91 => ?_)
              · have hyes : mAwOk s U S F W a p n nx wh l := ⟨h48, hl, hln, fun q => c41 (by show s.1 3 = 4096; rw [hW, q]; rfl), ⟨Int32.not_lt.mp c49, by rw [hci]; exact Int32.not_lt.mp c64⟩, c71, by first | exact Or.inl c91 | exact Or.inr (by rw [← hS]; exact c103)⟩
                exact t_M_await2 hR F W hW hWl a p n nx wh l z (hp hyes)
              · refine aw_iload d_M_await_94 rfl ?_
                first | refine aw_aload_n d_M_await_96 rfl rfl ?_ | refine aw_aload_nQ d_M_await_96 rfl rfl ?_ | refine aw_aload_nN d_M_await_96 rfl rfl ?_
                refine aM_get (by assumption) fl_M_129 (by decide) rfl d_M_await_97 ?_
                refine aw_iload d_M_await_100 rfl ?_
                refine aw_isub d_M_await_102 ?_
                refine aw_icmp_lt (tgt := 108) d_M_await_103 (by decide) (fun c103 => ?_) (fun c103 => ?_)
                · have hyes : mAwOk s U S F W a p n nx wh l := ⟨h48, hl, hln, fun q => c41 (by show s.1 3 = 4096; rw [hW, q]; rfl), ⟨Int32.not_lt.mp c49, by rw [hci]; exact Int32.not_lt.mp c64⟩, c71, by first | exact Or.inl c91 | exact Or.inr (by rw [← hS]; exact c103)⟩
                  exact t_M_await2 hR F W hW hWl a p n nx wh l z (hp hyes)
                · refine aw_iconst (v := 0) d_M_await_106 (by decide) ?_
                  refine aw_zret ?_ rfl rfl d_M_await_107
                  exact hn (fun q => absurd (q.2.2.2.2.2.2.resolve_left c91) (by rw [← hS]; exact c103))
            · refine aw_iconst (v := 0) d_M_await_74 (by decide) ?_
              refine aw_zret ?_ rfl rfl d_M_await_75
              exact hn (fun q => absurd q.2.2.2.2.2.1 c71)
      · refine aw_iconst (v := 0) d_M_await_44 (by decide) ?_
        refine aw_zret ?_ rfl rfl d_M_await_45
        exact hn (fun q => q.2.2.2.1 ((nI_eq (a := W) (b := 4096) (by omega) (by omega)).mp (by rw [← hW]; exact c41)))
set_option maxRecDepth 20000 in
theorem c_M_await (G : ax_G) (h : ax_H) (m : Nat) (s : mSt) (hR : mR m s h) (U S F W : Nat) (hU : s.1 1 = nI U) (hUb : U ≤ 32) (hS : s.1 2 = nI S) (hSb : S ≤ 2048) (hW : s.1 3 = nI W) (hWb : W ≤ 4096) (hFs : 0 < U → s.2.1 16 (U - 1) = nI F) (hFS : F ≤ S) (a p n nx wh l : Int32) (z : Int64) : AM G Y_M_await 2 44 [.ref m, .int a, .int p, .int n, .int nx, .int wh, .long z, .int l] h (fun v h2 => (mAwOk s U S F W a p n nx wh l ∧ v = some (.int 1) ∧ mR m (mAwS s F W a p n nx wh z l) h2 ∧ mFr m h h2) ∨ (¬ mAwOk s U S F W a p n nx wh l ∧ v = some (.int 0) ∧ mR m (va_up s.1 0 0, s.2) h2 ∧ mFr m h h2)) := by
  refine aw_enter (by decide) (Nat.le_of_ble_eq_true rfl) (n := 1) (ls := [some (.ref m), some (.int a), some (.int p), some (.int n), some (.int nx), some (.int wh), some (.long z), none, some (.int l), none]) rfl (fun x => ?_)
  first | refine aw_aload_n d_M_await_0 rfl rfl ?_ | refine aw_aload_nQ d_M_await_0 rfl rfl ?_ | refine aw_aload_nN d_M_await_0 rfl rfl ?_
  refine aw_iconst (v := 0) d_M_await_1 (by decide) ?_
  refine aM_put (by assumption) fl_M_123 (by decide) rfl rfl rfl rfl d_M_await_2 (fun g2 hR2 hF2 => ?_)
  refine aw_iload_n d_M_await_5 rfl rfl ?_
  refine aw_iconst (v := 4) d_M_await_6 (by decide) ?_
  refine aw_icmp_eq (tgt := 16) d_M_await_7 (by decide) (fun c7 => ?_) (fun c7 => ?_)
  · refine t_M_await hR2 U S F W hU hUb hS hSb hW hWb hFs hFS a p n nx wh l z (fun q h2 r1 r2 => Or.inl ⟨q, rfl, r1, hF2.tr r2⟩) (fun q => Or.inr ⟨q, rfl, hR2, hF2⟩) ?_
    first | exact Or.inl c7 | exact Or.inr c13
  · refine aw_iload_n d_M_await_10 rfl rfl ?_
    refine aw_bipush (v := 8) d_M_await_11 (by decide) ?_
    refine aw_icmp_ne (tgt := 44) d_M_await_13 (by decide) (fun c13 => ?_) (fun c13 => ?_)
    · refine aw_iconst (v := 0) d_M_await_44 (by decide) ?_
      refine aw_zret ?_ rfl rfl d_M_await_45
      exact Or.inr ⟨fun q => q.1.elim c7 c13, rfl, hR2, hF2⟩
    · refine t_M_await hR2 U S F W hU hUb hS hSb hW hWb hFs hFS a p n nx wh l z (fun q h2 r1 r2 => Or.inl ⟨q, rfl, r1, hF2.tr r2⟩) (fun q => Or.inr ⟨q, rfl, hR2, hF2⟩) ?_
      first | exact Or.inl c7 | exact Or.inr c13
