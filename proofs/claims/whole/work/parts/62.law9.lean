def lawF0 : List Value := [.null, .null, .null, .null, .null, .null, .null, .null, .null, .int 0, .int 0, .int 0, .int 0, .int 0, .int 0, .int 0]
theorem lawF0_d : ∀ j, j < 16 → defaultValue (ty_L j) = vp_V lawF0 j := by
  intro j hj
  match j, hj with
  | 0, _ => rfl
  | 1, _ => rfl
  | 2, _ => rfl
  | 3, _ => rfl
  | 4, _ => rfl
  | 5, _ => rfl
  | 6, _ => rfl
  | 7, _ => rfl
  | 8, _ => rfl
  | 9, _ => rfl
  | 10, _ => rfl
  | 11, _ => rfl
  | 12, _ => rfl
  | 13, _ => rfl
  | 14, _ => rfl
  | 15, _ => rfl
  | k + 16, hk => exact absurd hk (by omega)
theorem mFB_d (m : Nat) : ∀ j, j < 49 → defaultValue (ty_M j) = vp_V (mFB m 0 (fun _ => 0)) j := by
  intro j hj
  match j, hj with
  | 0, _ => rfl
  | 1, _ => rfl
  | 2, _ => rfl
  | 3, _ => rfl
  | 4, _ => rfl
  | 5, _ => rfl
  | 6, _ => rfl
  | 7, _ => rfl
  | 8, _ => rfl
  | 9, _ => rfl
  | 10, _ => rfl
  | 11, _ => rfl
  | 12, _ => rfl
  | 13, _ => rfl
  | 14, _ => rfl
  | 15, _ => rfl
  | 16, _ => rfl
  | 17, _ => rfl
  | 18, _ => rfl
  | 19, _ => rfl
  | 20, _ => rfl
  | 21, _ => rfl
  | 22, _ => rfl
  | 23, _ => rfl
  | 24, _ => rfl
  | 25, _ => rfl
  | 26, _ => rfl
  | 27, _ => rfl
  | 28, _ => rfl
  | 29, _ => rfl
  | 30, _ => rfl
  | 31, _ => rfl
  | 32, _ => rfl
  | 33, _ => rfl
  | 34, _ => rfl
  | 35, _ => rfl
  | 36, _ => rfl
  | 37, _ => rfl
  | 38, _ => rfl
  | 39, _ => rfl
  | 40, _ => rfl
  | 41, _ => rfl
  | 42, _ => rfl
  | 43, _ => rfl
  | 44, _ => rfl
  | 45, _ => rfl
  | 46, _ => rfl
  | 47, _ => rfl
  | 48, _ => rfl
  | k + 49, hk => exact absurd hk (by omega)
set_option maxRecDepth 20000 in
theorem law_begin {p : Program} {l : Launch} {e : Env} {s : State} {mm : MethodId} {below : List Frame} {meth : Method} {c : Code} {D : va_G} {nm : String} {C : lawP} {m b L : Nat} {xs : Nat → Int32} (hS : ax_S (lawG s D l b) b L xs) (hL : L < 2 ^ 29) (N : Nat) (hN : L < 9 * (N + 1)) (I : ax_H → Prop) (hinit : AM (lawG s D l b) Y_L_init 2 40 [.ref s.heap.size] (ax_new (lawH s) (.inr (0, lawF0)) 16) (fun v h2 => v = none ∧ I h2)) (hI0 : ∀ h2, I h2 → h2.1 = m ∧ m + 37 ≤ s.heap.size + room_1.cells ∧ h2.2.1 + 619418 ≤ room_1.slots) (hI2 : ∀ h2 h3, I h2 → (∀ a, a < m → h3.2.2 a = h2.2.2 a) → h3.1 = m + 37 → h3.2.1 = h2.2.1 + 619418 → C mNew (fun _ _ => 0) 0 0 0 0 0 N h3) (hC : lawK C s.heap.size m (m + 36)) (hd : ∀ s e U S W T B n h, C s e U S W T B (n + 1) h → C s e U S W T B n h) (A : lawAll (lawG s D l b) C s.heap.size m (m + 36)) : AW (lawG s D l b) (lawX p e s mm b below meth c) (lawY nm) 10 358 (lawH s) (fun _ _ => False) (lawH s) 0 [some (.ref b), none, none, none, none, none, none] [] := by
  refine aw_new cl_L kl_W_8 ni_L ii_L lawF0_d (show s.heap.size + 1 ≤ s.heap.size + 601024 by omega) (show 0 + 16 ≤ 7293033 by decide) d_W_law_0 ?_
  refine aw_dup d_W_law_3 rfl ?_
  refine aw_callI hinit m_L_init ml_W_21 rfl rfl (by decide) (by decide) (Nat.le_of_ble_eq_true rfl) d_W_law_4 ?_
  rintro v h2 ⟨rfl, hi⟩
  obtain ⟨i1, i2, i3⟩ := hI0 h2 hi
  refine aw_astore_n d_W_law_7 rfl (Nat.le_of_ble_eq_true rfl) rfl ?_
  refine aw_new cl_M kl_W_22 ni_M ii_M (mFB_d h2.1) (show h2.1 + 1 ≤ s.heap.size + room_1.cells by omega) (show h2.2.1 + 49 ≤ room_1.slots by omega) d_W_law_8 ?_
  refine aw_dup d_W_law_11 rfl ?_
  subst i1
  refine aw_callI (c_M_init (lawG s D l b) _ h2.1 (h2.2.1 + 49) h2 ⟨rfl, rfl, ax_new_self _ _, fun k k1 k2 => absurd k1 (by omega), fun a ha => ax_new_ne _ _ (by omega)⟩ (show h2.1 + 36 ≤ s.heap.size + room_1.cells by omega) (by omega)) m_M_init ml_W_24 rfl rfl (by decide) (by decide) (Nat.le_of_ble_eq_true rfl) d_W_law_12 ?_
  rintro v h4 ⟨rfl, hR4, j1, j2, j3⟩
  refine aw_astore_n d_W_law_15 rfl (Nat.le_of_ble_eq_true rfl) rfl ?_
  refine aw_iconst (v := 1) d_W_law_16 (by decide) ?_
  refine aw_newa (atype := .long) (f := .inr (.inl (fun _ => 0))) (N := 1) ka_long rfl (fun _ => rfl) (by decide) (by decide) (by decide) (show h4.1 + 1 ≤ s.heap.size + room_1.cells by omega) (by omega) d_W_law_17 (by intro z q; cases q) ?_
  have eq4 : h4.1 = h2.1 + 36 := by omega
  rw [eq4]
  refine aw_astore_n d_W_law_19 rfl (Nat.le_of_ble_eq_true rfl) rfl ?_
  refine aw_iconst (v := 0) d_W_law_20 (by decide) ?_
  refine aw_istore d_W_law_21 (Nat.le_of_ble_eq_true rfl) rfl ?_
  refine law_loop (m := h2.1) (q := h2.1 + 36) hS hL hC hd A N 0 _ _ _ (by omega) (by decide) ⟨mNew, fun _ _ => 0, 0, 0, 0, 0, 0, fun _ => 0, mInv.new _, ?_, ?_, ?_⟩
  · exact hR4.kept (fun a a1 a2 => ax_new_ne _ _ (by omega))
  · refine hI2 h2 _ hi (fun a ha => (ax_new_ne _ _ (by omega)).trans (j3 a ha)) ?_ ?_
    · show h4.1 + 1 = _
      omega
    · show h4.2.1 + 1 = _
      omega
  · rw [← eq4]
    exact ax_new_self _ _
