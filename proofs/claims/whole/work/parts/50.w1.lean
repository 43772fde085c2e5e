theorem d_W_link_0 : decode method_3_code 0 = .ok (.aload_n 1, 1) := by decide +kernel
theorem d_W_link_1 : decode method_3_code 1 = .ok (.iconst 0, 1) := by decide +kernel
theorem d_W_link_2 : decode method_3_code 2 = .ok (.aload_n 0, 1) := by decide +kernel
theorem d_W_link_3 : decode method_3_code 3 = .ok (.invokevirtual 7, 3) := by decide +kernel
theorem d_W_link_6 : decode method_3_code 6 = .ok (.i2l, 1) := by decide +kernel
theorem d_W_link_7 : decode method_3_code 7 = .ok (.lastore, 1) := by decide +kernel
theorem d_W_link_8 : decode method_3_code 8 = .ok (.goto 6, 3) := by decide +kernel
theorem d_W_link_11 : decode method_3_code 11 = .ok (.astore_n 2, 1) := by decide +kernel
theorem d_W_link_12 : decode method_3_code 12 = .ok (.iconst 1, 1) := by decide +kernel
theorem d_W_link_13 : decode method_3_code 13 = .ok (.ireturn, 1) := by decide +kernel
theorem d_W_link_14 : decode method_3_code 14 = .ok (.iconst 0, 1) := by decide +kernel
theorem d_W_link_15 : decode method_3_code 15 = .ok (.ireturn, 1) := by decide +kernel
theorem d_W_address_0 : decode method_4_code 0 = .ok (.aload 4, 2) := by decide +kernel
theorem d_W_address_2 : decode method_4_code 2 = .ok (.iconst 0, 1) := by decide +kernel
theorem d_W_address_3 : decode method_4_code 3 = .ok (.aload_n 0, 1) := by decide +kernel
theorem d_W_address_4 : decode method_4_code 4 = .ok (.lload_n 1, 1) := by decide +kernel
theorem d_W_address_5 : decode method_4_code 5 = .ok (.iload_n 3, 1) := by decide +kernel
theorem d_W_address_6 : decode method_4_code 6 = .ok (.invokevirtual 15, 3) := by decide +kernel
theorem d_W_address_9 : decode method_4_code 9 = .ok (.i2l, 1) := by decide +kernel
theorem d_W_address_10 : decode method_4_code 10 = .ok (.lastore, 1) := by decide +kernel
theorem d_W_address_11 : decode method_4_code 11 = .ok (.goto 7, 3) := by decide +kernel
theorem d_W_address_14 : decode method_4_code 14 = .ok (.astore 5, 2) := by decide +kernel
theorem d_W_address_16 : decode method_4_code 16 = .ok (.iconst 1, 1) := by decide +kernel
theorem d_W_address_17 : decode method_4_code 17 = .ok (.ireturn, 1) := by decide +kernel
theorem d_W_address_18 : decode method_4_code 18 = .ok (.iconst 0, 1) := by decide +kernel
theorem d_W_address_19 : decode method_4_code 19 = .ok (.ireturn, 1) := by decide +kernel
theorem mh_W_link : ax_MH Y_W_link [(0, 8, 11, 13)] 2 := ⟨(in_t_1 (List.mem_of_getElem? (i := 0) rfl)), (in_t_2 (List.mem_of_getElem? (i := 216) rfl)), ⟨by decide, by decide⟩, by decide +kernel, (in_t_2 (List.mem_of_getElem? (i := 215) rfl))⟩
theorem mh_W_address : ax_MH Y_W_address [(0, 11, 14, 19)] 4 := ⟨(in_t_1 (List.mem_of_getElem? (i := 0) rfl)), (in_t_3 (List.mem_of_getElem? (i := 196) rfl)), ⟨by decide, by decide⟩, by decide +kernel, (in_t_3 (List.mem_of_getElem? (i := 195) rfl))⟩
theorem ml_W_7p : Cond.methodLink "SymbolLinkerLaw" 7 ⟨"SymbolLinker", "link", "()I"⟩ ∈ lw_tbl := (in_t_2 (List.mem_of_getElem? (i := 218) rfl))
set_option maxRecDepth 20000 in
theorem c_W_link (G : ax_G) (h : ax_H) (o q : Nat) {fs : List Value} (ho : h.2.2 o = some (.inr (0, fs))) (f : Nat → Int64) (P1 : Int32 → ax_H → Prop) (M : AM G Y_L_link 6 138 [.ref o] h (fun v h1 => ∃ r, v = some (.int r) ∧ P1 r h1 ∧ h1.2.2 q = some (.inl (.long, 1, .inr (.inl f))))) : AMH G Y_W_link [(0, 8, 11, 13)] 7 159 [.ref o, .ref q] h (fun v h2 => v = some (.int 0) ∧ ∃ r h1, P1 r h1 ∧ h1.2.2 q = some (.inl (.long, 1, .inr (.inl f))) ∧ h2 = ax_set h1 q (.inl (.long, 1, .inr (.inl (va_up f 0 r.toInt64))))) := by
  refine aw_enterH (by decide) (Nat.le_of_ble_eq_true rfl) (n := 1) (ls := [some (.ref o), some (.ref q), none]) rfl (fun x hx => ?_)
  first | refine aw_aload_n d_W_link_0 rfl rfl ?_ | refine aw_aload_nQ d_W_link_0 rfl rfl ?_ | refine aw_aload_nN d_W_link_0 rfl rfl ?_
  refine aw_iconst (v := 0) d_W_link_1 (by decide) ?_
  first | refine aw_aload_n d_W_link_2 rfl rfl ?_ | refine aw_aload_nQ d_W_link_2 rfl rfl ?_ | refine aw_aload_nN d_W_link_2 rfl rfl ?_
  refine aw_callV M cl_L ho m_L_link ml_W_7 rfl rfl (by decide) (by decide) (Nat.le_of_ble_eq_true rfl) d_W_link_3 ?_
  rintro v h1 ⟨r, rfl, p1, hq⟩
  refine aw_i2l d_W_link_6 ?_
  refine aw_last (by assumption) (nI_in (c := 0) (N := 1) (by decide) (by decide)) d_W_link_7 ?_
  refine aw_goto (tgt := 14) d_W_link_8 (by decide) ?_
  refine aw_iconst (v := 0) d_W_link_14 (by decide) ?_
  refine aw_iret ?_ rfl d_W_link_15
  exact ⟨rfl, r, h1, p1, hq, rfl⟩
set_option maxRecDepth 20000 in
theorem c_W_linkT (G : ax_G) (h : ax_H) (o q : Nat) {fs : List Value} (ho : h.2.2 o = some (.inr (0, fs))) (PT : Nat → ax_H → Prop) (hE : ∀ a h1, PT a h1 → ∃ fs, h1.2.2 a = some (.inr (9, fs))) (M : AT G Y_L_link 6 138 [.ref o] h PT) : AMH G Y_W_link [(0, 8, 11, 13)] 7 159 [.ref o, .ref q] h (fun v h2 => v = some (.int 1) ∧ ∃ a, PT a h2) := by
  refine aw_enterH (by decide) (Nat.le_of_ble_eq_true rfl) (n := 1) (ls := [some (.ref o), some (.ref q), none]) rfl (fun x hx => ?_)
  first | refine aw_aload_n d_W_link_0 rfl rfl ?_ | refine aw_aload_nQ d_W_link_0 rfl rfl ?_ | refine aw_aload_nN d_W_link_0 rfl rfl ?_
  refine aw_iconst (v := 0) d_W_link_1 (by decide) ?_
  first | refine aw_aload_n d_W_link_2 rfl rfl ?_ | refine aw_aload_nQ d_W_link_2 rfl rfl ?_ | refine aw_aload_nN d_W_link_2 rfl rfl ?_
  refine aw_callVC M cl_L ho m_L_link ml_W_7p rfl rfl (by decide) (by decide) (Nat.le_of_ble_eq_true rfl) d_W_link_3 (z := ⟨0, 8, 11, 13⟩) (rest := []) hx (by decide) (by decide) kl_W_13 cl_JIllegalStateException hE kx_JIllegalStateException_JIllegalStateException (fun a h1 pt => ?_)
  first | refine aw_astore_n d_W_link_11 rfl (by decide) rfl ?_ | refine aw_astoreQ_n d_W_link_11 rfl (by decide) rfl ?_ | refine aw_astoreN_n d_W_link_11 rfl (by decide) rfl ?_
  refine aw_iconst (v := 1) d_W_link_12 (by decide) ?_
  refine aw_iret ?_ rfl d_W_link_13
  exact ⟨rfl, a, pt⟩
theorem ml_W_15p : Cond.methodLink "SymbolLinkerLaw" 15 ⟨"SymbolLinker", "address", "(JI)I"⟩ ∈ lw_tbl := (in_t_3 (List.mem_of_getElem? (i := 198) rfl))
set_option maxRecDepth 20000 in
theorem c_W_address (G : ax_G) (h : ax_H) (o q : Nat) (w : Int64) (n : Int32) {fs : List Value} (ho : h.2.2 o = some (.inr (0, fs))) (f : Nat → Int64) (P1 : Int32 → ax_H → Prop) (M : AM G Y_L_address 6 132 [.ref o, .long w, .int n] h (fun v h1 => ∃ r, v = some (.int r) ∧ P1 r h1 ∧ h1.2.2 q = some (.inl (.long, 1, .inr (.inl f))))) : AMH G Y_W_address [(0, 11, 14, 19)] 7 156 [.ref o, .long w, .int n, .ref q] h (fun v h2 => v = some (.int 0) ∧ ∃ r h1, P1 r h1 ∧ h1.2.2 q = some (.inl (.long, 1, .inr (.inl f))) ∧ h2 = ax_set h1 q (.inl (.long, 1, .inr (.inl (va_up f 0 r.toInt64))))) := by
  refine aw_enterH (by decide) (Nat.le_of_ble_eq_true rfl) (n := 1) (ls := [some (.ref o), some (.long w), none, some (.int n), some (.ref q), none]) rfl (fun x hx => ?_)
  first | refine aw_aload d_W_address_0 rfl ?_ | refine aw_aloadQ d_W_address_0 rfl ?_ | refine aw_aloadN d_W_address_0 rfl ?_
  refine aw_iconst (v := 0) d_W_address_2 (by decide) ?_
  first | refine aw_aload_n d_W_address_3 rfl rfl ?_ | refine aw_aload_nQ d_W_address_3 rfl rfl ?_ | refine aw_aload_nN d_W_address_3 rfl rfl ?_
  refine aw_lload_n d_W_address_4 rfl rfl ?_
  refine aw_iload_n d_W_address_5 rfl rfl ?_
  refine aw_callV M cl_L ho m_L_address ml_W_15 rfl rfl (by decide) (by decide) (Nat.le_of_ble_eq_true rfl) d_W_address_6 ?_
  rintro v h1 ⟨r, rfl, p1, hq⟩
  refine aw_i2l d_W_address_9 ?_
  refine aw_last (by assumption) (nI_in (c := 0) (N := 1) (by decide) (by decide)) d_W_address_10 ?_
  refine aw_goto (tgt := 18) d_W_address_11 (by decide) ?_
  refine aw_iconst (v := 0) d_W_address_18 (by decide) ?_
  refine aw_iret ?_ rfl d_W_address_19
  exact ⟨rfl, r, h1, p1, hq, rfl⟩
set_option maxRecDepth 20000 in
theorem c_W_addressT (G : ax_G) (h : ax_H) (o q : Nat) (w : Int64) (n : Int32) {fs : List Value} (ho : h.2.2 o = some (.inr (0, fs))) (PT : Nat → ax_H → Prop) (hE : ∀ a h1, PT a h1 → ∃ fs, h1.2.2 a = some (.inr (10, fs))) (M : AT G Y_L_address 6 132 [.ref o, .long w, .int n] h PT) : AMH G Y_W_address [(0, 11, 14, 19)] 7 156 [.ref o, .long w, .int n, .ref q] h (fun v h2 => v = some (.int 1) ∧ ∃ a, PT a h2) := by
  refine aw_enterH (by decide) (Nat.le_of_ble_eq_true rfl) (n := 1) (ls := [some (.ref o), some (.long w), none, some (.int n), some (.ref q), none]) rfl (fun x hx => ?_)
  first | refine aw_aload d_W_address_0 rfl ?_ | refine aw_aloadQ d_W_address_0 rfl ?_ | refine aw_aloadN d_W_address_0 rfl ?_
  refine aw_iconst (v := 0) d_W_address_2 (by decide) ?_
  first | refine aw_aload_n d_W_address_3 rfl rfl ?_ | refine aw_aload_nQ d_W_address_3 rfl rfl ?_ | refine aw_aload_nN d_W_address_3 rfl rfl ?_
  refine aw_lload_n d_W_address_4 rfl rfl ?_
  refine aw_iload_n d_W_address_5 rfl rfl ?_
  refine aw_callVC M cl_L ho m_L_address ml_W_15p rfl rfl (by decide) (by decide) (Nat.le_of_ble_eq_true rfl) d_W_address_6 (z := ⟨0, 11, 14, 19⟩) (rest := []) hx (by decide) (by decide) kl_W_19 cl_JNoSuchElementException hE kx_JNoSuchElementException_JNoSuchElementException (fun a h1 pt => ?_)
  first | refine aw_astore d_W_address_14 (by decide) rfl ?_ | refine aw_astoreQ d_W_address_14 (by decide) rfl ?_ | refine aw_astoreN d_W_address_14 (by decide) rfl ?_
  refine aw_iconst (v := 1) d_W_address_16 (by decide) ?_
  refine aw_iret ?_ rfl d_W_address_17
  exact ⟨rfl, a, pt⟩
