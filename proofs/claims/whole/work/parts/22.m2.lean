theorem ax_ix {x : Int32} {M : Nat} (hM : M < 2 ^ 31) (h1 : ¬ x < 0) (h2 : ¬ nI M ≤ x) : ∃ j, j < M ∧ x = nI j := by
  obtain ⟨j, h3, h4, -⟩ := pk_mu h1 h2 hM
  exact ⟨j, h3, h4⟩
theorem ax_own {U j : Nat} (hU : 0 < U) : 4 * (nI U - 1) + nI j = nI (4 * (U - 1) + j) := by
  rw [show (1 : Int32) = nI 1 from rfl, show (4 : Int32) = nI 4 from rfl, pk_sub (by omega), pk_mul, nI_add]
theorem ax_row (u j : Nat) : 4 * nI u + nI j = nI (4 * u + j) := by
  rw [show (4 : Int32) = nI 4 from rfl, pk_mul, nI_add]
def mFault (s : mSt) (a : Int32) : Int32 := if a = 0 then s.1 33 else if a = 1 then s.1 34 else if a = 2 then s.1 35 else -1
set_option maxRecDepth 20000 in
theorem c_M_fault (G : ax_G) (h : ax_H) (m : Nat) (s : mSt) (hR : mR m s h) (a : Int32) : AM G Y_M_fault 1 22 [.ref m, .int a] h (fun v h2 => v = some (.int (mFault s a)) ∧ mR m (va_up s.1 0 0, s.2) h2 ∧ mFr m h h2) := by
  refine aw_enter (by decide) (Nat.le_of_ble_eq_true rfl) (n := 0) (ls := [some (.ref m), some (.int a)]) rfl (fun x => ?_)
  first | refine aw_aload_n d_M_fault_0 rfl rfl ?_ | refine aw_aload_nQ d_M_fault_0 rfl rfl ?_ | refine aw_aload_nN d_M_fault_0 rfl rfl ?_
  refine aw_iconst (v := 0) d_M_fault_1 (by decide) ?_
  refine aw_iload_n d_M_fault_2 rfl rfl ?_
  refine aw_if_ne (tgt := 13) d_M_fault_3 (by decide) (fun c3 => ?_) (fun c3 => ?_)
  · refine aw_iload_n d_M_fault_13 rfl rfl ?_
    refine aw_iconst (v := 1) d_M_fault_14 (by decide) ?_
    refine aw_icmp_ne (tgt := 25) d_M_fault_15 (by decide) (fun c15 => ?_) (fun c15 => ?_)
    · refine aw_iload_n d_M_fault_25 rfl rfl ?_
      refine aw_iconst (v := 2) d_M_fault_26 (by decide) ?_
      refine aw_icmp_ne (tgt := 37) d_M_fault_27 (by decide) (fun c27 => ?_) (fun c27 => ?_)
      · refine aw_iconst (v := (-1)) d_M_fault_37 (by decide) ?_
        refine aw_callV (c_M_give G _ m s (by assumption) _ _) cl_M (mR.obj (by assumption)) m_M_give ml_M_210 rfl rfl (by decide) (by decide) (Nat.le_of_ble_eq_true rfl) d_M_fault_38 ?_
        rintro v h' ⟨rfl, hRg, hFg⟩
        refine aw_iret ?_ rfl d_M_fault_41
        refine ⟨?_, hRg, hFg⟩
        simp_all [mFault]
      · first | refine aw_aload_n d_M_fault_30 rfl rfl ?_ | refine aw_aload_nQ d_M_fault_30 rfl rfl ?_ | refine aw_aload_nN d_M_fault_30 rfl rfl ?_
        refine aM_get (by assumption) fl_M_95 (by decide) rfl d_M_fault_31 ?_
        refine aw_goto (tgt := 38) d_M_fault_34 (by decide) ?_
        refine aw_callV (c_M_give G _ m s (by assumption) _ _) cl_M (mR.obj (by assumption)) m_M_give ml_M_210 rfl rfl (by decide) (by decide) (Nat.le_of_ble_eq_true rfl) d_M_fault_38 ?_
        rintro v h' ⟨rfl, hRg, hFg⟩
        refine aw_iret ?_ rfl d_M_fault_41
        refine ⟨?_, hRg, hFg⟩
        simp_all [mFault]
    · first | refine aw_aload_n d_M_fault_18 rfl rfl ?_ | refine aw_aload_nQ d_M_fault_18 rfl rfl ?_ | refine aw_aload_nN d_M_fault_18 rfl rfl ?_
      refine aM_get (by assumption) fl_M_181 (by decide) rfl d_M_fault_19 ?_
      refine aw_goto (tgt := 38) d_M_fault_22 (by decide) ?_
      refine aw_callV (c_M_give G _ m s (by assumption) _ _) cl_M (mR.obj (by assumption)) m_M_give ml_M_210 rfl rfl (by decide) (by decide) (Nat.le_of_ble_eq_true rfl) d_M_fault_38 ?_
      rintro v h' ⟨rfl, hRg, hFg⟩
      refine aw_iret ?_ rfl d_M_fault_41
      refine ⟨?_, hRg, hFg⟩
      simp_all [mFault]
  · first | refine aw_aload_n d_M_fault_6 rfl rfl ?_ | refine aw_aload_nQ d_M_fault_6 rfl rfl ?_ | refine aw_aload_nN d_M_fault_6 rfl rfl ?_
    refine aM_get (by assumption) fl_M_178 (by decide) rfl d_M_fault_7 ?_
    refine aw_goto (tgt := 38) d_M_fault_10 (by decide) ?_
    refine aw_callV (c_M_give G _ m s (by assumption) _ _) cl_M (mR.obj (by assumption)) m_M_give ml_M_210 rfl rfl (by decide) (by decide) (Nat.le_of_ble_eq_true rfl) d_M_fault_38 ?_
    rintro v h' ⟨rfl, hRg, hFg⟩
    refine aw_iret ?_ rfl d_M_fault_41
    refine ⟨?_, hRg, hFg⟩
    simp_all [mFault]
def mPart (s : mSt) (a : Int32) : Int32 := if a < 0 ∨ 6 < a then -1 else if s.1 38 = 0 then 0 else s.2.1 30 a.toNatClampNeg
set_option maxRecDepth 20000 in
theorem c_M_part (G : ax_G) (h : ax_H) (m : Nat) (s : mSt) (hR : mR m s h) (a : Int32) : AM G Y_M_part 1 22 [.ref m, .int a] h (fun v h2 => v = some (.int (mPart s a)) ∧ mR m (va_up s.1 0 0, s.2) h2 ∧ mFr m h h2) := by
  refine aw_enter (by decide) (Nat.le_of_ble_eq_true rfl) (n := 0) (ls := [some (.ref m), some (.int a)]) rfl (fun x => ?_)
  first | refine aw_aload_n d_M_part_0 rfl rfl ?_ | refine aw_aload_nQ d_M_part_0 rfl rfl ?_ | refine aw_aload_nN d_M_part_0 rfl rfl ?_
  refine aw_iconst (v := 0) d_M_part_1 (by decide) ?_
  refine aw_iload_n d_M_part_2 rfl rfl ?_
  refine aw_if_lt (tgt := 12) d_M_part_3 (by decide) (fun c3 => ?_) (fun c3 => ?_)
  · refine aw_iconst (v := (-1)) d_M_part_12 (by decide) ?_
    refine aw_goto (tgt := 33) d_M_part_13 (by decide) ?_
    refine aw_callV (c_M_give G _ m s (by assumption) _ _) cl_M (mR.obj (by assumption)) m_M_give ml_M_210 rfl rfl (by decide) (by decide) (Nat.le_of_ble_eq_true rfl) d_M_part_33 ?_
    rintro v h' ⟨rfl, hRg, hFg⟩
    refine aw_iret ?_ rfl d_M_part_36
    refine ⟨?_, hRg, hFg⟩
    first | rw [mPart, if_neg (fun q => q.elim c3 (Int32.not_lt.mpr c9)), if_neg c20, hcl] | rw [mPart, if_neg (fun q => q.elim c3 (Int32.not_lt.mpr c9)), if_pos c20] | rw [mPart, if_pos (Or.inr (Int32.not_le.mp c9))] | rw [mPart, if_pos (Or.inl c3)]
  · refine aw_iload_n d_M_part_6 rfl rfl ?_
    refine aw_bipush (v := 6) d_M_part_7 (by decide) ?_
    refine aw_icmp_le (tgt := 16) d_M_part_9 (by decide) (fun c9 => ?_) (fun c9 => ?_)
    · first | refine aw_aload_n d_M_part_16 rfl rfl ?_ | refine aw_aload_nQ d_M_part_16 rfl rfl ?_ | refine aw_aload_nN d_M_part_16 rfl rfl ?_
      refine aM_get (by assumption) fl_M_224 (by decide) rfl d_M_part_17 ?_
      refine aw_if_eq (tgt := 32) d_M_part_20 (by decide) (fun c20 => ?_) (fun c20 => ?_)
      · refine aw_iconst (v := 0) d_M_part_32 (by decide) ?_
        refine aw_callV (c_M_give G _ m s (by assumption) _ _) cl_M (mR.obj (by assumption)) m_M_give ml_M_210 rfl rfl (by decide) (by decide) (Nat.le_of_ble_eq_true rfl) d_M_part_33 ?_
        rintro v h' ⟨rfl, hRg, hFg⟩
        refine aw_iret ?_ rfl d_M_part_36
        refine ⟨?_, hRg, hFg⟩
        first | rw [mPart, if_neg (fun q => q.elim c3 (Int32.not_lt.mpr c9)), if_neg c20, hcl] | rw [mPart, if_neg (fun q => q.elim c3 (Int32.not_lt.mpr c9)), if_pos c20] | rw [mPart, if_pos (Or.inr (Int32.not_le.mp c9))] | rw [mPart, if_pos (Or.inl c3)]
      · first | refine aw_aload_n d_M_part_23 rfl rfl ?_ | refine aw_aload_nQ d_M_part_23 rfl rfl ?_ | refine aw_aload_nN d_M_part_23 rfl rfl ?_
        refine aM_get (by assumption) fl_M_105 (by decide) rfl d_M_part_24 ?_
        obtain ⟨j, hj, rfl⟩ := nI_of2 (n := 6) (by decide) c3 c9
        have hcl := nI_clamp (n := j) (by omega)
        refine aw_iload_n d_M_part_27 rfl rfl ?_
        refine aM_iald (by assumption) (by decide) rfl rfl (show j < 7 by omega) (by decide) d_M_part_28 ?_
        refine aw_goto (tgt := 33) d_M_part_29 (by decide) ?_
        refine aw_callV (c_M_give G _ m s (by assumption) _ _) cl_M (mR.obj (by assumption)) m_M_give ml_M_210 rfl rfl (by decide) (by decide) (Nat.le_of_ble_eq_true rfl) d_M_part_33 ?_
        rintro v h' ⟨rfl, hRg, hFg⟩
        refine aw_iret ?_ rfl d_M_part_36
        refine ⟨?_, hRg, hFg⟩
        first | rw [mPart, if_neg (fun q => q.elim c3 (Int32.not_lt.mpr c9)), if_neg c20, hcl] | rw [mPart, if_neg (fun q => q.elim c3 (Int32.not_lt.mpr c9)), if_pos c20] | rw [mPart, if_pos (Or.inr (Int32.not_le.mp c9))] | rw [mPart, if_pos (Or.inl c3)]
    · refine aw_iconst (v := (-1)) d_M_part_12 (by decide) ?_
      refine aw_goto (tgt := 33) d_M_part_13 (by decide) ?_
      refine aw_callV (c_M_give G _ m s (by assumption) _ _) cl_M (mR.obj (by assumption)) m_M_give ml_M_210 rfl rfl (by decide) (by decide) (Nat.le_of_ble_eq_true rfl) d_M_part_33 ?_
      rintro v h' ⟨rfl, hRg, hFg⟩
      refine aw_iret ?_ rfl d_M_part_36
      refine ⟨?_, hRg, hFg⟩
      first | rw [mPart, if_neg (fun q => q.elim c3 (Int32.not_lt.mpr c9)), if_neg c20, hcl] | rw [mPart, if_neg (fun q => q.elim c3 (Int32.not_lt.mpr c9)), if_pos c20] | rw [mPart, if_pos (Or.inr (Int32.not_le.mp c9))] | rw [mPart, if_pos (Or.inl c3)]
def mOctet (s : mSt) (a : Int32) : Int32 := if s.1 38 = 0 ∨ a < 0 ∨ s.1 39 ≤ a then -1 else s.2.1 29 a.toNatClampNeg &&& 255
set_option maxRecDepth 20000 in
theorem c_M_octet (G : ax_G) (h : ax_H) (m : Nat) (s : mSt) (hR : mR m s h) (E : Nat) (hE : s.1 39 = nI E) (hEb : E ≤ 262144) (a : Int32) : AM G Y_M_octet 1 22 [.ref m, .int a] h (fun v h2 => v = some (.int (mOctet s a)) ∧ mR m (va_up s.1 0 0, s.2) h2 ∧ mFr m h h2) := by
  refine aw_enter (by decide) (Nat.le_of_ble_eq_true rfl) (n := 0) (ls := [some (.ref m), some (.int a)]) rfl (fun x => ?_)
  first | refine aw_aload_n d_M_octet_0 rfl rfl ?_ | refine aw_aload_nQ d_M_octet_0 rfl rfl ?_ | refine aw_aload_nN d_M_octet_0 rfl rfl ?_
  refine aw_iconst (v := 0) d_M_octet_1 (by decide) ?_
  first | refine aw_aload_n d_M_octet_2 rfl rfl ?_ | refine aw_aload_nQ d_M_octet_2 rfl rfl ?_ | refine aw_aload_nN d_M_octet_2 rfl rfl ?_
  refine aM_get (by assumption) fl_M_224 (by decide) rfl d_M_octet_3 ?_
  refine aw_if_eq (tgt := 34) d_M_octet_6 (by decide) (fun c6 => ?_) (fun c6 => ?_)
  · refine aw_iconst (v := (-1)) d_M_octet_34 (by decide) ?_
    refine aw_callV (c_M_give G _ m s (by assumption) _ _) cl_M (mR.obj (by assumption)) m_M_give ml_M_210 rfl rfl (by decide) (by decide) (Nat.le_of_ble_eq_true rfl) d_M_octet_35 ?_
    rintro v h' ⟨rfl, hRg, hFg⟩
    refine aw_iret ?_ rfl d_M_octet_38
    refine ⟨?_, hRg, hFg⟩
    simp_all [mOctet, Int32.not_lt, Int32.not_le]
  · refine aw_iload_n d_M_octet_9 rfl rfl ?_
    refine aw_if_lt (tgt := 34) d_M_octet_10 (by decide) (fun c10 => ?_) (fun c10 => ?_)
    · refine aw_iconst (v := (-1)) d_M_octet_34 (by decide) ?_
      refine aw_callV (c_M_give G _ m s (by assumption) _ _) cl_M (mR.obj (by assumption)) m_M_give ml_M_210 rfl rfl (by decide) (by decide) (Nat.le_of_ble_eq_true rfl) d_M_octet_35 ?_
      rintro v h' ⟨rfl, hRg, hFg⟩
      refine aw_iret ?_ rfl d_M_octet_38
      refine ⟨?_, hRg, hFg⟩
      simp_all [mOctet, Int32.not_lt, Int32.not_le]
    · refine aw_iload_n d_M_octet_13 rfl rfl ?_
      first | refine aw_aload_n d_M_octet_14 rfl rfl ?_ | refine aw_aload_nQ d_M_octet_14 rfl rfl ?_ | refine aw_aload_nN d_M_octet_14 rfl rfl ?_
      refine aM_get (by assumption) fl_M_191 (by decide) rfl d_M_octet_15 ?_
      refine aw_icmp_ge (tgt := 34) d_M_octet_18 (by decide) (fun c18 => ?_) (fun c18 => ?_)
      · refine aw_iconst (v := (-1)) d_M_octet_34 (by decide) ?_
        refine aw_callV (c_M_give G _ m s (by assumption) _ _) cl_M (mR.obj (by assumption)) m_M_give ml_M_210 rfl rfl (by decide) (by decide) (Nat.le_of_ble_eq_true rfl) d_M_octet_35 ?_
        rintro v h' ⟨rfl, hRg, hFg⟩
        refine aw_iret ?_ rfl d_M_octet_38
        refine ⟨?_, hRg, hFg⟩
        simp_all [mOctet, Int32.not_lt, Int32.not_le]
      · first | refine aw_aload_n d_M_octet_21 rfl rfl ?_ | refine aw_aload_nQ d_M_octet_21 rfl rfl ?_ | refine aw_aload_nN d_M_octet_21 rfl rfl ?_
        refine aM_get (by assumption) fl_M_102 (by decide) rfl d_M_octet_22 ?_
        rw [hE] at c18
        obtain ⟨j, hj, rfl⟩ := ax_ix (by omega) c10 c18
        have hcl := nI_clamp (n := j) (by omega)
        refine aw_iload_n d_M_octet_25 rfl rfl ?_
        refine aM_bald (by assumption) (by decide) rfl rfl (show j < 262144 by omega) (by decide) d_M_octet_26 ?_
        refine aw_sipush (v := 255) d_M_octet_27 (by decide) ?_
        refine aw_iand d_M_octet_30 ?_
        refine aw_goto (tgt := 35) d_M_octet_31 (by decide) ?_
        refine aw_callV (c_M_give G _ m s (by assumption) _ _) cl_M (mR.obj (by assumption)) m_M_give ml_M_210 rfl rfl (by decide) (by decide) (Nat.le_of_ble_eq_true rfl) d_M_octet_35 ?_
        rintro v h' ⟨rfl, hRg, hFg⟩
        refine aw_iret ?_ rfl d_M_octet_38
        refine ⟨?_, hRg, hFg⟩
        simp_all [mOctet, Int32.not_lt, Int32.not_le]
def mNeeded (s : mSt) (u a : Int32) : Int32 := if u < 0 ∨ s.1 1 ≤ u ∨ a < 0 ∨ 3 < a then -1 else zI (u < s.1 36 ∧ ¬ s.2.1 28 (4 * u.toNatClampNeg + a.toNatClampNeg) = 0)
set_option maxRecDepth 20000 in
theorem c_M_needed (G : ax_G) (h : ax_H) (m : Nat) (s : mSt) (hR : mR m s h) (U : Nat) (hU : s.1 1 = nI U) (hUb : U ≤ 32) (u a : Int32) : AM G Y_M_needed 0 0 [.ref m, .int u, .int a] h (fun v h2 => v = some (.int (mNeeded s u a)) ∧ mR m (va_up s.1 0 0, s.2) h2 ∧ mFr m h h2) := by
  refine aw_enter (by decide) (Nat.le_of_ble_eq_true rfl) (n := 0) (ls := [some (.ref m), some (.int u), some (.int a)]) rfl (fun x => ?_)
  first | refine aw_aload_n d_M_needed_0 rfl rfl ?_ | refine aw_aload_nQ d_M_needed_0 rfl rfl ?_ | refine aw_aload_nN d_M_needed_0 rfl rfl ?_
  refine aw_iconst (v := 0) d_M_needed_1 (by decide) ?_
  refine aM_put (by assumption) fl_M_123 (by decide) rfl rfl rfl rfl d_M_needed_2 (fun g2 hR2 hF2 => ?_)
  have e1 : va_up s.1 0 0 1 = s.1 1 := rfl
  have e36 : va_up s.1 0 0 36 = s.1 36 := rfl
  refine aw_iload_n d_M_needed_5 rfl rfl ?_
  refine aw_if_lt (tgt := 26) d_M_needed_6 (by decide) (fun c6 => ?_) (fun c6 => ?_)
  · refine aw_iconst (v := (-1)) d_M_needed_26 (by decide) ?_
    refine aw_iret ?_ rfl d_M_needed_27
    refine ⟨?_, hR2, hF2⟩
    rw [mNeeded, if_pos (Or.inl c6)]
  · refine aw_iload_n d_M_needed_9 rfl rfl ?_
    first | refine aw_aload_n d_M_needed_10 rfl rfl ?_ | refine aw_aload_nQ d_M_needed_10 rfl rfl ?_ | refine aw_aload_nN d_M_needed_10 rfl rfl ?_
    refine aM_get (by assumption) fl_M_126 (by decide) rfl d_M_needed_11 ?_
    refine aw_icmp_ge (tgt := 26) d_M_needed_14 (by decide) (fun c14 => ?_) (fun c14 => ?_)
    · refine aw_iconst (v := (-1)) d_M_needed_26 (by decide) ?_
      refine aw_iret ?_ rfl d_M_needed_27
      refine ⟨?_, hR2, hF2⟩
      rw [mNeeded, if_pos (Or.inr (Or.inl (show s.1 1 ≤ u from c14)))]
    · refine aw_iload_n d_M_needed_17 rfl rfl ?_
      refine aw_if_lt (tgt := 26) d_M_needed_18 (by decide) (fun c18 => ?_) (fun c18 => ?_)
      · refine aw_iconst (v := (-1)) d_M_needed_26 (by decide) ?_
        refine aw_iret ?_ rfl d_M_needed_27
        refine ⟨?_, hR2, hF2⟩
        rw [mNeeded, if_pos (Or.inr (Or.inr (Or.inl c18)))]
      · refine aw_iload_n d_M_needed_21 rfl rfl ?_
        refine aw_iconst (v := 3) d_M_needed_22 (by decide) ?_
        refine aw_icmp_le (tgt := 28) d_M_needed_23 (by decide) (fun c23 => ?_) (fun c23 => ?_)
        · refine aw_iload_n d_M_needed_28 rfl rfl ?_
          first | refine aw_aload_n d_M_needed_29 rfl rfl ?_ | refine aw_aload_nQ d_M_needed_29 rfl rfl ?_ | refine aw_aload_nN d_M_needed_29 rfl rfl ?_
          refine aM_get (by assumption) fl_M_141 (by decide) rfl d_M_needed_30 ?_
          refine aw_icmp_ge (tgt := 53) d_M_needed_33 (by decide) (fun c33 => ?_) (fun c33 => ?_)
          · refine aw_iconst (v := 0) d_M_needed_53 (by decide) ?_
            refine aw_iret ?_ rfl d_M_needed_54
            refine ⟨?_, hR2, hF2⟩
            rw [mNeeded, if_neg (fun q => q.elim c6 (fun q => q.elim c14 (fun q => q.elim c18 (Int32.not_lt.mpr c23)))), zI, if_neg (fun q => absurd q.1 (Int32.not_lt.mpr (show s.1 36 ≤ u from c33)))]
          · first | refine aw_aload_n d_M_needed_36 rfl rfl ?_ | refine aw_aload_nQ d_M_needed_36 rfl rfl ?_ | refine aw_aload_nN d_M_needed_36 rfl rfl ?_
            refine aM_get (by assumption) fl_M_99 (by decide) rfl d_M_needed_37 ?_
            have c14 : ¬ s.1 1 ≤ u := c14
            have c33 : ¬ s.1 36 ≤ u := c33
            have c14b := c14
            rw [hU] at c14
            obtain ⟨j, hj, rfl⟩ := ax_ix (by omega) c6 c14
            obtain ⟨i, hi, rfl⟩ := nI_of2 (n := 3) (by decide) c18 c23
            have hcl := nI_clamp (n := j) (by omega)
            have hci := nI_clamp (n := i) (by omega)
            refine aw_iconst (v := 4) d_M_needed_40 (by decide) ?_
            refine aw_iload_n d_M_needed_41 rfl rfl ?_
            refine aw_imul d_M_needed_42 ?_
            refine aw_iload_n d_M_needed_43 rfl rfl ?_
            refine aw_iadd d_M_needed_44 ?_
            refine aM_zald (by assumption) (by decide) rfl (ax_row j i) (show 4 * j + i < 128 by omega) (by decide) d_M_needed_45 ?_
            refine aw_if_eq (tgt := 53) d_M_needed_46 (by decide) (fun c46 => ?_) (fun c46 => ?_)
            · refine aw_iconst (v := 0) d_M_needed_53 (by decide) ?_
              refine aw_iret ?_ rfl d_M_needed_54
              refine ⟨?_, hR2, hF2⟩
              rw [mNeeded, if_neg (fun q => q.elim c6 (fun q => q.elim c14b (fun q => q.elim c18 (Int32.not_lt.mpr c23)))), zI, if_neg (fun q => q.2 (by rw [hcl, hci]; exact c46))]
            · refine aw_iconst (v := 1) d_M_needed_49 (by decide) ?_
              refine aw_goto (tgt := 54) d_M_needed_50 (by decide) ?_
              refine aw_iret ?_ rfl d_M_needed_54
              refine ⟨?_, hR2, hF2⟩
              rw [mNeeded, if_neg (fun q => q.elim c6 (fun q => q.elim c14b (fun q => q.elim c18 (Int32.not_lt.mpr c23)))), zI, if_pos ⟨Int32.not_le.mp c33, by rw [hcl, hci]; exact c46⟩]
        · refine aw_iconst (v := (-1)) d_M_needed_26 (by decide) ?_
          refine aw_iret ?_ rfl d_M_needed_27
          refine ⟨?_, hR2, hF2⟩
          rw [mNeeded, if_pos (Or.inr (Or.inr (Or.inr (Int32.not_le.mp c23))))]
abbrev mKeepOk (U : Nat) (a : Int32) : Prop := 0 < U ∧ 0 ≤ a ∧ a ≤ 3
set_option maxRecDepth 20000 in
theorem c_M_keep (G : ax_G) (h : ax_H) (m : Nat) (s : mSt) (hR : mR m s h) (U : Nat) (hU : s.1 1 = nI U) (hUb : U ≤ 32) (a : Int32) : AM G Y_M_keep 1 21 [.ref m, .int a] h (fun v h2 => v = some (.int (zI (mKeepOk U a))) ∧ mR m (va_up s.1 0 0, (if mKeepOk U a then va_up s.2.1 2 (va_up (s.2.1 2) (4 * (U - 1) + a.toNatClampNeg) 1) else s.2.1), s.2.2) h2 ∧ mFr m h h2) := by
  refine aw_enter (by decide) (Nat.le_of_ble_eq_true rfl) (n := 0) (ls := [some (.ref m), some (.int a)]) rfl (fun x => ?_)
  first | refine aw_aload_n d_M_keep_0 rfl rfl ?_ | refine aw_aload_nQ d_M_keep_0 rfl rfl ?_ | refine aw_aload_nN d_M_keep_0 rfl rfl ?_
  refine aw_iconst (v := 0) d_M_keep_1 (by decide) ?_
  refine aM_put (by assumption) fl_M_123 (by decide) rfl rfl rfl rfl d_M_keep_2 (fun g2 hR2 hF2 => ?_)
  have e1 : va_up s.1 0 0 1 = s.1 1 := rfl
  first | refine aw_aload_n d_M_keep_5 rfl rfl ?_ | refine aw_aload_nQ d_M_keep_5 rfl rfl ?_ | refine aw_aload_nN d_M_keep_5 rfl rfl ?_
  refine aM_get (by assumption) fl_M_126 (by decide) rfl d_M_keep_6 ?_
  refine aw_if_eq (tgt := 21) d_M_keep_9 (by decide) (fun c9 => ?_) (fun c9 => ?_)
  · refine aw_iconst (v := 0) d_M_keep_21 (by decide) ?_
    refine aw_zret ?_ rfl rfl d_M_keep_22
    have hno : ¬ mKeepOk U a := by
      rintro ⟨q1, q2, q3⟩
      first | exact absurd q3 c18 | exact absurd c13 (Int32.not_lt.mpr q2) | (have c9 : s.1 1 = 0 := c9; rw [hU] at c9; exact absurd ((nI_eq (a := U) (b := 0) (by omega) (by omega)).mp c9) (by omega))
    rw [if_neg hno, zI, if_neg hno]
    exact ⟨rfl, hR2, hF2⟩
  · have c9 : ¬ s.1 1 = 0 := c9
    rw [hU] at c9
    have hU0 : 0 < U := Nat.pos_of_ne_zero (fun q => c9 (by rw [q]; rfl))
    refine aw_iload_n d_M_keep_12 rfl rfl ?_
    refine aw_if_lt (tgt := 21) d_M_keep_13 (by decide) (fun c13 => ?_) (fun c13 => ?_)
    · refine aw_iconst (v := 0) d_M_keep_21 (by decide) ?_
      refine aw_zret ?_ rfl rfl d_M_keep_22
      have hno : ¬ mKeepOk U a := by
        rintro ⟨q1, q2, q3⟩
        first | exact absurd q3 c18 | exact absurd c13 (Int32.not_lt.mpr q2) | (have c9 : s.1 1 = 0 := c9; rw [hU] at c9; exact absurd ((nI_eq (a := U) (b := 0) (by omega) (by omega)).mp c9) (by omega))
      rw [if_neg hno, zI, if_neg hno]
      exact ⟨rfl, hR2, hF2⟩
    · refine aw_iload_n d_M_keep_16 rfl rfl ?_
      refine aw_iconst (v := 3) d_M_keep_17 (by decide) ?_
      refine aw_icmp_le (tgt := 23) d_M_keep_18 (by decide) (fun c18 => ?_) (fun c18 => ?_)
      · obtain ⟨i, hi, rfl⟩ := nI_of2 (n := 3) (by decide) c13 c18
        have hci := nI_clamp (n := i) (by omega)
        first | refine aw_aload_n d_M_keep_23 rfl rfl ?_ | refine aw_aload_nQ d_M_keep_23 rfl rfl ?_ | refine aw_aload_nN d_M_keep_23 rfl rfl ?_
        refine aM_get (by assumption) fl_M_13 (by decide) rfl d_M_keep_24 ?_
        first | refine aw_aload_n d_M_keep_27 rfl rfl ?_ | refine aw_aload_nQ d_M_keep_27 rfl rfl ?_ | refine aw_aload_nN d_M_keep_27 rfl rfl ?_
        refine aw_iload_n d_M_keep_28 rfl rfl ?_
        refine aw_callV (c_M_own G _ m _ (by assumption) _) cl_M (mR.obj (by assumption)) m_M_own ml_M_150 rfl rfl (by decide) (by decide) (Nat.le_of_ble_eq_true rfl) d_M_keep_29 ?_
        rintro v h' ⟨rfl, rfl⟩
        have eo : 4 * ((va_up s.1 0 0, s.2).1 1 - 1) + nI i = nI (4 * (U - 1) + i) := by
          show 4 * (s.1 1 - 1) + nI i = _
          rw [hU, ax_own hU0]
        refine aw_iconst (v := 1) d_M_keep_32 (by decide) ?_
        refine aM_zast (by assumption) (by decide) rfl eo (show 4 * (U - 1) + i < 128 by omega) (by decide) d_M_keep_33 (fun g33 hR33 hF33 => ?_)
        refine aw_iconst (v := 1) d_M_keep_34 (by decide) ?_
        refine aw_zret ?_ rfl rfl d_M_keep_35
        have hyes : mKeepOk U (nI i) := ⟨hU0, Int32.not_lt.mp c13, c18⟩
        rw [if_pos hyes, zI, if_pos hyes, hci]
        exact ⟨rfl, hR33, hF2.tr hF33⟩
      · refine aw_iconst (v := 0) d_M_keep_21 (by decide) ?_
        refine aw_zret ?_ rfl rfl d_M_keep_22
        have hno : ¬ mKeepOk U a := by
          rintro ⟨q1, q2, q3⟩
          first | exact absurd q3 c18 | exact absurd c13 (Int32.not_lt.mpr q2) | (have c9 : s.1 1 = 0 := c9; rw [hU] at c9; exact absurd ((nI_eq (a := U) (b := 0) (by omega) (by omega)).mp c9) (by omega))
        rw [if_neg hno, zI, if_neg hno]
        exact ⟨rfl, hR2, hF2⟩
