/-- the n lowest bytes of a word -/
def mCut (w : Int64) (n : Int32) : Int64 := if n = 8 then w else w &&& ((1 : Int64) <<< ((8 * n).toInt64 &&& 63) - 1)
set_option maxRecDepth 20000 in
theorem c_M_thrown (G : ax_G) (h : ax_H) (m : Nat) (s : mSt) (hR : mR m s h) : AM G Y_M_thrown 0 0 [.ref m] h (fun v h2 => h2 = h ∧ v = some (.int (s.1 0))) := by
  refine aw_enter (by decide) (Nat.le_of_ble_eq_true rfl) (n := 0) (ls := [some (.ref m)]) rfl (fun x => ?_)
  first | refine aw_aload_n d_M_thrown_0 rfl rfl ?_ | refine aw_aload_nQ d_M_thrown_0 rfl rfl ?_ | refine aw_aload_nN d_M_thrown_0 rfl rfl ?_
  refine aM_get (by assumption) fl_M_123 (by decide) rfl d_M_thrown_1 ?_
  refine aw_iret ?_ rfl d_M_thrown_4
  exact ⟨rfl, rfl⟩
set_option maxRecDepth 20000 in
theorem c_M_give (G : ax_G) (h : ax_H) (m : Nat) (s : mSt) (hR : mR m s h) (c r : Int32) : AM G Y_M_give 0 0 [.ref m, .int c, .int r] h (fun v h2 => v = some (.int r) ∧ mR m (va_up s.1 0 c, s.2) h2 ∧ mFr m h h2) := by
  refine aw_enter (by decide) (Nat.le_of_ble_eq_true rfl) (n := 0) (ls := [some (.ref m), some (.int c), some (.int r)]) rfl (fun x => ?_)
  first | refine aw_aload_n d_M_give_0 rfl rfl ?_ | refine aw_aload_nQ d_M_give_0 rfl rfl ?_ | refine aw_aload_nN d_M_give_0 rfl rfl ?_
  refine aw_iload_n d_M_give_1 rfl rfl ?_
  refine aM_put (by assumption) fl_M_123 (by decide) rfl rfl rfl rfl d_M_give_2 (fun g2 hR2 hF2 => ?_)
  refine aw_iload_n d_M_give_5 rfl rfl ?_
  refine aw_iret ?_ rfl d_M_give_6
  exact ⟨rfl, by assumption, by assumption⟩
set_option maxRecDepth 20000 in
theorem c_M_clear (G : ax_G) (h : ax_H) (m : Nat) (s : mSt) (hR : mR m s h) : AM G Y_M_clear 0 0 [.ref m] h (fun v h2 => v = none ∧ mR m (va_up (va_up (va_up (va_up (va_up (va_up (va_up s.1 0 0) 1 0) 2 0) 3 0) 4 0) 5 0) 36 0, s.2) h2 ∧ mFr m h h2) := by
  refine aw_enter (by decide) (Nat.le_of_ble_eq_true rfl) (n := 0) (ls := [some (.ref m)]) rfl (fun x => ?_)
  first | refine aw_aload_n d_M_clear_0 rfl rfl ?_ | refine aw_aload_nQ d_M_clear_0 rfl rfl ?_ | refine aw_aload_nN d_M_clear_0 rfl rfl ?_
  refine aw_iconst (v := 0) d_M_clear_1 (by decide) ?_
  refine aM_put (by assumption) fl_M_123 (by decide) rfl rfl rfl rfl d_M_clear_2 (fun g2 hR2 hF2 => ?_)
  first | refine aw_aload_n d_M_clear_5 rfl rfl ?_ | refine aw_aload_nQ d_M_clear_5 rfl rfl ?_ | refine aw_aload_nN d_M_clear_5 rfl rfl ?_
  refine aw_iconst (v := 0) d_M_clear_6 (by decide) ?_
  refine aM_put (by assumption) fl_M_126 (by decide) rfl rfl rfl rfl d_M_clear_7 (fun g7 hR7 hF7 => ?_)
  first | refine aw_aload_n d_M_clear_10 rfl rfl ?_ | refine aw_aload_nQ d_M_clear_10 rfl rfl ?_ | refine aw_aload_nN d_M_clear_10 rfl rfl ?_
  refine aw_iconst (v := 0) d_M_clear_11 (by decide) ?_
  refine aM_put (by assumption) fl_M_129 (by decide) rfl rfl rfl rfl d_M_clear_12 (fun g12 hR12 hF12 => ?_)
  first | refine aw_aload_n d_M_clear_15 rfl rfl ?_ | refine aw_aload_nQ d_M_clear_15 rfl rfl ?_ | refine aw_aload_nN d_M_clear_15 rfl rfl ?_
  refine aw_iconst (v := 0) d_M_clear_16 (by decide) ?_
  refine aM_put (by assumption) fl_M_132 (by decide) rfl rfl rfl rfl d_M_clear_17 (fun g17 hR17 hF17 => ?_)
  first | refine aw_aload_n d_M_clear_20 rfl rfl ?_ | refine aw_aload_nQ d_M_clear_20 rfl rfl ?_ | refine aw_aload_nN d_M_clear_20 rfl rfl ?_
  refine aw_iconst (v := 0) d_M_clear_21 (by decide) ?_
  refine aM_put (by assumption) fl_M_135 (by decide) rfl rfl rfl rfl d_M_clear_22 (fun g22 hR22 hF22 => ?_)
  first | refine aw_aload_n d_M_clear_25 rfl rfl ?_ | refine aw_aload_nQ d_M_clear_25 rfl rfl ?_ | refine aw_aload_nN d_M_clear_25 rfl rfl ?_
  refine aw_iconst (v := 0) d_M_clear_26 (by decide) ?_
  refine aM_put (by assumption) fl_M_138 (by decide) rfl rfl rfl rfl d_M_clear_27 (fun g27 hR27 hF27 => ?_)
  first | refine aw_aload_n d_M_clear_30 rfl rfl ?_ | refine aw_aload_nQ d_M_clear_30 rfl rfl ?_ | refine aw_aload_nN d_M_clear_30 rfl rfl ?_
  refine aw_iconst (v := 0) d_M_clear_31 (by decide) ?_
  refine aM_put (by assumption) fl_M_141 (by decide) rfl rfl rfl rfl d_M_clear_32 (fun g32 hR32 hF32 => ?_)
  refine aw_vret ?_ rfl d_M_clear_35
  exact ⟨rfl, by assumption, (((((hF2.tr hF7).tr hF12).tr hF17).tr hF22).tr hF27).tr hF32⟩
set_option maxRecDepth 20000 in
theorem c_M_isSize (G : ax_G) (h : ax_H) (n : Int32) : AM G Y_M_isSize 0 0 [.int n] h (fun v h2 => h2 = h ∧ v = some (.int (zI (0 ≤ n ∧ n ≤ 65536)))) := by
  refine aw_enter (by decide) (Nat.le_of_ble_eq_true rfl) (n := 0) (ls := [some (.int n)]) rfl (fun x => ?_)
  refine aw_iload_n d_M_isSize_0 rfl rfl ?_
  refine aw_if_lt (tgt := 14) d_M_isSize_1 (by decide) (fun c1 => ?_) (fun c1 => ?_)
  · refine aw_iconst (v := 0) d_M_isSize_14 (by decide) ?_
    refine aw_zret ?_ rfl rfl d_M_isSize_15
    refine ⟨rfl, ?_⟩
    simp_all [zI, Int32.not_lt, Int32.not_le, Int32.lt_iff_toInt_lt, Int32.le_iff_toInt_le] <;> first | omega | (intro z; omega) | (intro z; exact absurd z (by omega))
  · refine aw_iload_n d_M_isSize_4 rfl rfl ?_
    refine aw_ldc kc_M_144 d_M_isSize_5 ?_
    refine aw_icmp_gt (tgt := 14) d_M_isSize_7 (by decide) (fun c7 => ?_) (fun c7 => ?_)
    · refine aw_iconst (v := 0) d_M_isSize_14 (by decide) ?_
      refine aw_zret ?_ rfl rfl d_M_isSize_15
      refine ⟨rfl, ?_⟩
      simp_all [zI, Int32.not_lt, Int32.not_le, Int32.lt_iff_toInt_lt, Int32.le_iff_toInt_le] <;> first | omega | (intro z; omega) | (intro z; exact absurd z (by omega))
    · refine aw_iconst (v := 1) d_M_isSize_10 (by decide) ?_
      refine aw_goto (tgt := 15) d_M_isSize_11 (by decide) ?_
      refine aw_zret ?_ rfl rfl d_M_isSize_15
      refine ⟨rfl, ?_⟩
      simp_all [zI, Int32.not_lt, Int32.not_le, Int32.lt_iff_toInt_lt, Int32.le_iff_toInt_le] <;> first | omega | (intro z; omega) | (intro z; exact absurd z (by omega))
set_option maxRecDepth 20000 in
theorem c_M_isLine (G : ax_G) (h : ax_H) (n : Int32) : AM G Y_M_isLine 0 0 [.int n] h (fun v h2 => h2 = h ∧ v = some (.int (zI (0 ≤ n ∧ n ≤ 65535)))) := by
  refine aw_enter (by decide) (Nat.le_of_ble_eq_true rfl) (n := 0) (ls := [some (.int n)]) rfl (fun x => ?_)
  refine aw_iload_n d_M_isLine_0 rfl rfl ?_
  refine aw_if_lt (tgt := 14) d_M_isLine_1 (by decide) (fun c1 => ?_) (fun c1 => ?_)
  · refine aw_iconst (v := 0) d_M_isLine_14 (by decide) ?_
    refine aw_zret ?_ rfl rfl d_M_isLine_15
    refine ⟨rfl, ?_⟩
    simp_all [zI, Int32.not_lt, Int32.not_le, Int32.lt_iff_toInt_lt, Int32.le_iff_toInt_le] <;> first | omega | (intro z; omega) | (intro z; exact absurd z (by omega))
  · refine aw_iload_n d_M_isLine_4 rfl rfl ?_
    refine aw_ldc kc_M_145 d_M_isLine_5 ?_
    refine aw_icmp_gt (tgt := 14) d_M_isLine_7 (by decide) (fun c7 => ?_) (fun c7 => ?_)
    · refine aw_iconst (v := 0) d_M_isLine_14 (by decide) ?_
      refine aw_zret ?_ rfl rfl d_M_isLine_15
      refine ⟨rfl, ?_⟩
      simp_all [zI, Int32.not_lt, Int32.not_le, Int32.lt_iff_toInt_lt, Int32.le_iff_toInt_le] <;> first | omega | (intro z; omega) | (intro z; exact absurd z (by omega))
    · refine aw_iconst (v := 1) d_M_isLine_10 (by decide) ?_
      refine aw_goto (tgt := 15) d_M_isLine_11 (by decide) ?_
      refine aw_zret ?_ rfl rfl d_M_isLine_15
      refine ⟨rfl, ?_⟩
      simp_all [zI, Int32.not_lt, Int32.not_le, Int32.lt_iff_toInt_lt, Int32.le_iff_toInt_le] <;> first | omega | (intro z; omega) | (intro z; exact absurd z (by omega))
set_option maxRecDepth 20000 in
theorem c_M_own (G : ax_G) (h : ax_H) (m : Nat) (s : mSt) (hR : mR m s h) (a : Int32) : AM G Y_M_own 0 0 [.ref m, .int a] h (fun v h2 => h2 = h ∧ v = some (.int (4 * (s.1 1 - 1) + a))) := by
  refine aw_enter (by decide) (Nat.le_of_ble_eq_true rfl) (n := 0) (ls := [some (.ref m), some (.int a)]) rfl (fun x => ?_)
  refine aw_iconst (v := 4) d_M_own_0 (by decide) ?_
  first | refine aw_aload_n d_M_own_1 rfl rfl ?_ | refine aw_aload_nQ d_M_own_1 rfl rfl ?_ | refine aw_aload_nN d_M_own_1 rfl rfl ?_
  refine aM_get (by assumption) fl_M_126 (by decide) rfl d_M_own_2 ?_
  refine aw_iconst (v := 1) d_M_own_5 (by decide) ?_
  refine aw_isub d_M_own_6 ?_
  refine aw_imul d_M_own_7 ?_
  refine aw_iload_n d_M_own_8 rfl rfl ?_
  refine aw_iadd d_M_own_9 ?_
  refine aw_iret ?_ rfl d_M_own_10
  exact ⟨rfl, rfl⟩
set_option maxRecDepth 20000 in
theorem c_M_cut (G : ax_G) (h : ax_H) (w : Int64) (n : Int32) : AM G Y_M_cut 0 0 [.long w, .int n] h (fun v h2 => h2 = h ∧ v = some (.long (mCut w n))) := by
  refine aw_enter (by decide) (Nat.le_of_ble_eq_true rfl) (n := 0) (ls := [some (.long w), none, some (.int n)]) rfl (fun x => ?_)
  refine aw_iload_n d_M_cut_0 rfl rfl ?_
  refine aw_bipush (v := 8) d_M_cut_1 (by decide) ?_
  refine aw_icmp_ne (tgt := 10) d_M_cut_3 (by decide) (fun c3 => ?_) (fun c3 => ?_)
  · refine aw_lload_n d_M_cut_10 rfl rfl ?_
    refine aw_lconst (v := 1) d_M_cut_11 (by decide) ?_
    refine aw_bipush (v := 8) d_M_cut_12 (by decide) ?_
    refine aw_iload_n d_M_cut_14 rfl rfl ?_
    refine aw_imul d_M_cut_15 ?_
    refine aw_lshl d_M_cut_16 ?_
    refine aw_lconst (v := 1) d_M_cut_17 (by decide) ?_
    refine aw_lsub d_M_cut_18 ?_
    refine aw_land d_M_cut_19 ?_
    refine aw_lret ?_ rfl d_M_cut_20
    refine ⟨rfl, ?_⟩
    simp_all [mCut]
  · refine aw_lload_n d_M_cut_6 rfl rfl ?_
    refine aw_goto (tgt := 20) d_M_cut_7 (by decide) ?_
    refine aw_lret ?_ rfl d_M_cut_20
    refine ⟨rfl, ?_⟩
    simp_all [mCut]
set_option maxRecDepth 20000 in
theorem c_M_isGlobal (G : ax_G) (h : ax_H) (m : Nat) (s : mSt) (hR : mR m s h) (j : Nat) (hj : j < 2048) : AM G Y_M_isGlobal 0 0 [.ref m, .int (nI j)] h (fun v h2 => h2 = h ∧ v = some (.int (zI (0 ≤ s.2.1 13 j ∧ s.2.1 12 j = 1)))) := by
  refine aw_enter (by decide) (Nat.le_of_ble_eq_true rfl) (n := 0) (ls := [some (.ref m), some (.int (nI j))]) rfl (fun x => ?_)
  first | refine aw_aload_n d_M_isGlobal_0 rfl rfl ?_ | refine aw_aload_nQ d_M_isGlobal_0 rfl rfl ?_ | refine aw_aload_nN d_M_isGlobal_0 rfl rfl ?_
  refine aM_get (by assumption) fl_M_50 (by decide) rfl d_M_isGlobal_1 ?_
  refine aw_iload_n d_M_isGlobal_4 rfl rfl ?_
  refine aM_iald (by assumption) (by decide) rfl rfl hj (by decide) d_M_isGlobal_5 ?_
  refine aw_if_lt (tgt := 23) d_M_isGlobal_6 (by decide) (fun c6 => ?_) (fun c6 => ?_)
  · refine aw_iconst (v := 0) d_M_isGlobal_23 (by decide) ?_
    refine aw_zret ?_ rfl rfl d_M_isGlobal_24
    refine ⟨rfl, ?_⟩
    simp_all [zI, Int32.not_lt, Int32.not_le, Int32.lt_iff_toInt_lt, Int32.le_iff_toInt_le] <;> first | omega | (intro z; omega) | (intro z; exact absurd z (by omega))
  · first | refine aw_aload_n d_M_isGlobal_9 rfl rfl ?_ | refine aw_aload_nQ d_M_isGlobal_9 rfl rfl ?_ | refine aw_aload_nN d_M_isGlobal_9 rfl rfl ?_
    refine aM_get (by assumption) fl_M_47 (by decide) rfl d_M_isGlobal_10 ?_
    refine aw_iload_n d_M_isGlobal_13 rfl rfl ?_
    refine aM_iald (by assumption) (by decide) rfl rfl hj (by decide) d_M_isGlobal_14 ?_
    refine aw_iconst (v := 1) d_M_isGlobal_15 (by decide) ?_
    refine aw_icmp_ne (tgt := 23) d_M_isGlobal_16 (by decide) (fun c16 => ?_) (fun c16 => ?_)
    · refine aw_iconst (v := 0) d_M_isGlobal_23 (by decide) ?_
      refine aw_zret ?_ rfl rfl d_M_isGlobal_24
      refine ⟨rfl, ?_⟩
      simp_all [zI, Int32.not_lt, Int32.not_le, Int32.lt_iff_toInt_lt, Int32.le_iff_toInt_le] <;> first | omega | (intro z; omega) | (intro z; exact absurd z (by omega))
    · refine aw_iconst (v := 1) d_M_isGlobal_19 (by decide) ?_
      refine aw_goto (tgt := 24) d_M_isGlobal_20 (by decide) ?_
      refine aw_zret ?_ rfl rfl d_M_isGlobal_24
      refine ⟨rfl, ?_⟩
      simp_all [zI, Int32.not_lt, Int32.not_le, Int32.lt_iff_toInt_lt, Int32.le_iff_toInt_le] <;> first | omega | (intro z; omega) | (intro z; exact absurd z (by omega))
set_option maxRecDepth 20000 in
theorem c_M_isWeak (G : ax_G) (h : ax_H) (m : Nat) (s : mSt) (hR : mR m s h) (j : Nat) (hj : j < 2048) : AM G Y_M_isWeak 0 0 [.ref m, .int (nI j)] h (fun v h2 => h2 = h ∧ v = some (.int (zI (0 ≤ s.2.1 13 j ∧ 1 < s.2.1 12 j)))) := by
  refine aw_enter (by decide) (Nat.le_of_ble_eq_true rfl) (n := 0) (ls := [some (.ref m), some (.int (nI j))]) rfl (fun x => ?_)
  first | refine aw_aload_n d_M_isWeak_0 rfl rfl ?_ | refine aw_aload_nQ d_M_isWeak_0 rfl rfl ?_ | refine aw_aload_nN d_M_isWeak_0 rfl rfl ?_
  refine aM_get (by assumption) fl_M_50 (by decide) rfl d_M_isWeak_1 ?_
  refine aw_iload_n d_M_isWeak_4 rfl rfl ?_
  refine aM_iald (by assumption) (by decide) rfl rfl hj (by decide) d_M_isWeak_5 ?_
  refine aw_if_lt (tgt := 23) d_M_isWeak_6 (by decide) (fun c6 => ?_) (fun c6 => ?_)
  · refine aw_iconst (v := 0) d_M_isWeak_23 (by decide) ?_
    refine aw_zret ?_ rfl rfl d_M_isWeak_24
    refine ⟨rfl, ?_⟩
    simp_all [zI, Int32.not_lt, Int32.not_le, Int32.lt_iff_toInt_lt, Int32.le_iff_toInt_le] <;> first | omega | (intro z; omega) | (intro z; exact absurd z (by omega))
  · first | refine aw_aload_n d_M_isWeak_9 rfl rfl ?_ | refine aw_aload_nQ d_M_isWeak_9 rfl rfl ?_ | refine aw_aload_nN d_M_isWeak_9 rfl rfl ?_
    refine aM_get (by assumption) fl_M_47 (by decide) rfl d_M_isWeak_10 ?_
    refine aw_iload_n d_M_isWeak_13 rfl rfl ?_
    refine aM_iald (by assumption) (by decide) rfl rfl hj (by decide) d_M_isWeak_14 ?_
    refine aw_iconst (v := 1) d_M_isWeak_15 (by decide) ?_
    refine aw_icmp_le (tgt := 23) d_M_isWeak_16 (by decide) (fun c16 => ?_) (fun c16 => ?_)
    · refine aw_iconst (v := 0) d_M_isWeak_23 (by decide) ?_
      refine aw_zret ?_ rfl rfl d_M_isWeak_24
      refine ⟨rfl, ?_⟩
      simp_all [zI, Int32.not_lt, Int32.not_le, Int32.lt_iff_toInt_lt, Int32.le_iff_toInt_le] <;> first | omega | (intro z; omega) | (intro z; exact absurd z (by omega))
    · refine aw_iconst (v := 1) d_M_isWeak_19 (by decide) ?_
      refine aw_goto (tgt := 24) d_M_isWeak_20 (by decide) ?_
      refine aw_zret ?_ rfl rfl d_M_isWeak_24
      refine ⟨rfl, ?_⟩
      simp_all [zI, Int32.not_lt, Int32.not_le, Int32.lt_iff_toInt_lt, Int32.le_iff_toInt_le] <;> first | omega | (intro z; omega) | (intro z; exact absurd z (by omega))
