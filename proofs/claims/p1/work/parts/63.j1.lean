/-- an ArrayList at a: k of n places of the row at d are used, f says what lies there -/
def jL (a d n k : Nat) (mc : Int32) (f : Nat → Option Nat) (h : ax_H) : Prop := h.2.2 a = some (.inr (1, [.ref d, .int (nI k), .int mc])) ∧ h.2.2 d = some (.inl (.object "java/lang/Object", n, .inr (.inr (.inr (.inr f))))) ∧ k ≤ n ∧ n < 2 ^ 30
set_option maxRecDepth 20000 in
theorem c_J_size (G : ax_G) (h : ax_H) {a d n k : Nat} {mc : Int32} {f : Nat → Option Nat} (hJ : jL a d n k mc f h) : AM G Y_JArrayList_size 0 0 [.ref a] h (fun v h2 => v = some (.int (nI k)) ∧ h2 = h) := by
  obtain ⟨ha, hd, hkn, hn⟩ := hJ
  refine aw_enter (by decide) (Nat.le_of_ble_eq_true rfl) (n := 0) (ls := [some (.ref a)]) rfl (fun x => ?_)
  first | refine aw_aload_n d_JArrayList_size_0 rfl rfl ?_ | refine aw_aload_nQ d_JArrayList_size_0 rfl rfl ?_ | refine aw_aload_nN d_JArrayList_size_0 rfl rfl ?_
  refine aw_get cl_JArrayList fl_JArrayList_48 (by decide) (by assumption) rfl d_JArrayList_size_1 ?_
  refine aw_iret ?_ rfl d_JArrayList_size_4
  exact ⟨rfl, rfl⟩
set_option maxRecDepth 20000 in
theorem c_J_isEmpty (G : ax_G) (h : ax_H) {a d n k : Nat} {mc : Int32} {f : Nat → Option Nat} (hJ : jL a d n k mc f h) : AM G Y_JArrayList_isEmpty 0 0 [.ref a] h (fun v h2 => v = some (.int (if k = 0 then 1 else 0)) ∧ h2 = h) := by
  obtain ⟨ha, hd, hkn, hn⟩ := hJ
  refine aw_enter (by decide) (Nat.le_of_ble_eq_true rfl) (n := 0) (ls := [some (.ref a)]) rfl (fun x => ?_)
  first | refine aw_aload_n d_JArrayList_isEmpty_0 rfl rfl ?_ | refine aw_aload_nQ d_JArrayList_isEmpty_0 rfl rfl ?_ | refine aw_aload_nN d_JArrayList_isEmpty_0 rfl rfl ?_
  refine aw_get cl_JArrayList fl_JArrayList_48 (by decide) (by assumption) rfl d_JArrayList_isEmpty_1 ?_
  refine aw_if_ne (tgt := 11) d_JArrayList_isEmpty_4 (by decide) (fun c4 => ?_) (fun c4 => ?_)
  · refine aw_iconst (v := 0) d_JArrayList_isEmpty_11 (by decide) ?_
    refine aw_zret ?_ rfl rfl d_JArrayList_isEmpty_12
    rw [if_neg (fun q => c4 (by rw [q]; rfl))]
    exact ⟨rfl, rfl⟩
  · refine aw_iconst (v := 1) d_JArrayList_isEmpty_7 (by decide) ?_
    refine aw_goto (tgt := 12) d_JArrayList_isEmpty_8 (by decide) ?_
    refine aw_zret ?_ rfl rfl d_JArrayList_isEmpty_12
    rw [if_pos ((nI_eq (by omega) (by decide)).mp (show nI k = nI 0 from c4))]
    exact ⟨rfl, rfl⟩
set_option maxRecDepth 20000 in
theorem c_J_check3 (G : ax_G) (h : ax_H) (i k : Nat) (hi : i < k) (hk : k < 2 ^ 30) : AM G Y_JPreconditions_checkIndex 0 0 [.int (nI i), .int (nI k), .null] h (fun v h2 => v = some (.int (nI i)) ∧ h2 = h) := by
  refine aw_enter (by decide) (Nat.le_of_ble_eq_true rfl) (n := 0) (ls := [some (.int (nI i)), some (.int (nI k)), some .null]) rfl (fun x => ?_)
  refine aw_iload_n d_JPreconditions_checkIndex_0 rfl rfl ?_
  refine aw_if_lt (tgt := 9) d_JPreconditions_checkIndex_1 (by decide) (fun c1 => ?_) (fun c1 => ?_)
  · exact absurd c1 (nI_pos (by omega))
  · refine aw_iload_n d_JPreconditions_checkIndex_4 rfl rfl ?_
    refine aw_iload_n d_JPreconditions_checkIndex_5 rfl rfl ?_
    refine aw_icmp_lt (tgt := 16) d_JPreconditions_checkIndex_6 (by decide) (fun c6 => ?_) (fun c6 => ?_)
    · refine aw_iload_n d_JPreconditions_checkIndex_16 rfl rfl ?_
      refine aw_iret ?_ rfl d_JPreconditions_checkIndex_17
      exact ⟨rfl, rfl⟩
    · exact absurd (nI_lt hi (by omega)) c6
set_option maxRecDepth 20000 in
theorem c_J_check2 (G : ax_G) (h : ax_H) (i k : Nat) (hi : i < k) (hk : k < 2 ^ 30) : AM G Y_JObjects_checkIndex 1 22 [.int (nI i), .int (nI k)] h (fun v h2 => v = some (.int (nI i)) ∧ h2 = h) := by
  refine aw_enter (by decide) (Nat.le_of_ble_eq_true rfl) (n := 0) (ls := [some (.int (nI i)), some (.int (nI k))]) rfl (fun x => ?_)
  refine aw_iload_n d_JObjects_checkIndex_0 rfl rfl ?_
  refine aw_iload_n d_JObjects_checkIndex_1 rfl rfl ?_
  refine aw_null d_JObjects_checkIndex_2 ?_
  refine aw_callS (c_J_check3 G _ i k hi hk) m_JPreconditions_checkIndex ml_JObjects_105 rfl rfl (by decide) (by decide) (Nat.le_of_ble_eq_true rfl) d_JObjects_checkIndex_3 ?_
  rintro v h' ⟨rfl, rfl⟩
  refine aw_iret ?_ rfl d_JObjects_checkIndex_6
  exact ⟨rfl, rfl⟩
set_option maxRecDepth 20000 in
theorem c_J_elem (G : ax_G) (h : ax_H) {a d n k : Nat} {mc : Int32} {f : Nat → Option Nat} (hJ : jL a d n k mc f h) (i : Nat) (hi : i < n) : AM G Y_JArrayList_elementData 0 0 [.ref a, .int (nI i)] h (fun v h2 => v = some (va_rf (f i)) ∧ h2 = h) := by
  obtain ⟨ha, hd, hkn, hn⟩ := hJ
  refine aw_enter (by decide) (Nat.le_of_ble_eq_true rfl) (n := 0) (ls := [some (.ref a), some (.int (nI i))]) rfl (fun x => ?_)
  first | refine aw_aload_n d_JArrayList_elementData_0 rfl rfl ?_ | refine aw_aload_nQ d_JArrayList_elementData_0 rfl rfl ?_ | refine aw_aload_nN d_JArrayList_elementData_0 rfl rfl ?_
  refine aw_get cl_JArrayList fl_JArrayList_9 (by decide) (by assumption) rfl d_JArrayList_elementData_1 ?_
  refine aw_iload_n d_JArrayList_elementData_4 rfl rfl ?_
  refine aw_aald (by assumption) (nI_in hi (by omega)) d_JArrayList_elementData_5 ?_
  refine aw_aret (r := _) ?_ rfl (by first | exact Or.inl ⟨_, rfl⟩ | exact Or.inr ⟨_, rfl⟩) d_JArrayList_elementData_6
  rw [nI_clamp (by omega)]
  exact ⟨rfl, rfl⟩
set_option maxRecDepth 20000 in
theorem c_J_get (G : ax_G) (h : ax_H) {a d n k : Nat} {mc : Int32} {f : Nat → Option Nat} (hJ : jL a d n k mc f h) (i : Nat) (hi : i < k) : AM G Y_JArrayList_get 2 43 [.ref a, .int (nI i)] h (fun v h2 => v = some (va_rf (f i)) ∧ h2 = h) := by
  refine aw_enter (by decide) (Nat.le_of_ble_eq_true rfl) (n := 0) (ls := [some (.ref a), some (.int (nI i))]) rfl (fun x => ?_)
  refine aw_iload_n d_JArrayList_get_0 rfl rfl ?_
  first | refine aw_aload_n d_JArrayList_get_1 rfl rfl ?_ | refine aw_aload_nQ d_JArrayList_get_1 rfl rfl ?_ | refine aw_aload_nN d_JArrayList_get_1 rfl rfl ?_
  refine aw_get cl_JArrayList fl_JArrayList_48 (by decide) hJ.1 rfl d_JArrayList_get_2 ?_
  refine aw_callS (c_J_check2 G _ i k hi (by have := hJ.2.2; omega)) m_JObjects_checkIndex ml_JArrayList_118 rfl rfl (by decide) (by decide) (Nat.le_of_ble_eq_true rfl) d_JArrayList_get_5 ?_
  rintro v h' ⟨rfl, rfl⟩
  refine aw_pop d_JArrayList_get_8 rfl ?_
  first | refine aw_aload_n d_JArrayList_get_9 rfl rfl ?_ | refine aw_aload_nQ d_JArrayList_get_9 rfl rfl ?_ | refine aw_aload_nN d_JArrayList_get_9 rfl rfl ?_
  refine aw_iload_n d_JArrayList_get_10 rfl rfl ?_
  refine aw_callV (c_J_elem G _ hJ i (by have := hJ.2.2; omega)) cl_JArrayList hJ.1 m_JArrayList_elementData ml_JArrayList_123 rfl rfl (by decide) (by decide) (Nat.le_of_ble_eq_true rfl) d_JArrayList_get_11 ?_
  rintro v h' ⟨rfl, rfl⟩
  refine aw_aret (r := _) ?_ rfl (by first | exact Or.inl ⟨_, rfl⟩ | exact Or.inr ⟨_, rfl⟩) d_JArrayList_get_14
  exact ⟨rfl, rfl⟩
