theorem cR.bytes {o : Nat} {c : cSt} {h : ax_H} (hR : cR o c h) (f : Nat → Int32) (v : Int32) : True := trivial
set_option maxRecDepth 20000 in
theorem c_L_addSection (G : ax_G) (h : ax_H) (o : Nat) (c : cSt) (hR : cR o c h) {a b n : Nat} (ju lb sb se tk z : Int32) (f : Nat → Option Nat) {kd : Nat} (kz : Int32) (hkz : kz = nI kd) (hkd : kd < 4) (ha : h.2.2 a = some (.inr (3, [.int ju, .int lb, .ref (a + 1), .ref (o + 3), .int sb, .int se, .int tk]))) (ha1 : h.2.2 (a + 1) = some (.inl (.object "SymbolLinker$Section", 4, .inr (.inr (.inr (.inr (f))))))) (hat : c.2.2.2.2.2 5 ≤ a) (hl : a + 1 < h.1) (hb : c.1 14 = nI b) (hz : z = nI n) (hn : b + n ≤ 262144) (hc : h.1 + 1 ≤ G.1 + room_1.cells) (hs : h.2.1 + 6 ≤ room_1.slots) : AM G Y_L_addSection 3 94 [.ref o, .ref a, .int kz, .int z] h (fun v h2 => v = none ∧ cR o (va_up c.1 14 (nI (b + n)), va_up c.2.1 6 (mZ (c.2.1 6) b n), c.2.2) h2 ∧ h2.1 = h.1 + 1 ∧ h2.2.1 = h.2.1 + 6 ∧ h2.2.2 (a + 1) = some (.inl (.object "SymbolLinker$Section", 4, .inr (.inr (.inr (.inr (va_up f kd (some h.1))))))) ∧ h2.2.2 h.1 = some (.inr (4, [.ref a, .int z, .int (nI b), .int 0, .int 0, .int 0])) ∧ ∀ y, ((o + 17 ≤ y ∧ y < o + 54) ∨ c.2.2.2.2.2 5 ≤ y) → y ≠ a + 1 → y ≠ h.1 → h2.2.2 y = h.2.2 y) := by
  have h54 := hR.1.2.2.1
  have htop := hR.2.1
  have hzb : nI b + z = nI (b + n) := by rw [hz, nI_add]
  refine aw_enter (by decide) (Nat.le_of_ble_eq_true rfl) (n := 1) (ls := [some (.ref o), some (.ref a), some (.int kz), some (.int z), none]) rfl (fun x => ?_)
  refine aw_aloadV_n d_L_addSection_0 rfl rfl (by first | exact Or.inl ⟨_, rfl⟩ | exact Or.inr rfl | exact rv_Q _) ?_
  refine aw_getE cl_L fl_L_78 (by decide) hR.obj rfl (congrArg Value.int hb) d_L_addSection_1 ?_
  refine aw_iload_n d_L_addSection_4 rfl rfl ?_
  refine aw_iadd d_L_addSection_5 ?_
  refine aw_istore d_L_addSection_6 (by decide) (by dsimp only [List.set]) ?_
  refine aw_aloadV_n d_L_addSection_8 rfl rfl (by first | exact Or.inl ⟨_, rfl⟩ | exact Or.inr rfl | exact rv_Q _) ?_
  refine aw_get cl_L fl_L_40 (by decide) hR.obj rfl d_L_addSection_9 ?_
  refine aw_aloadV_n d_L_addSection_12 rfl rfl (by first | exact Or.inl ⟨_, rfl⟩ | exact Or.inr rfl | exact rv_Q _) ?_
  refine aw_getE cl_L fl_L_78 (by decide) hR.obj rfl (congrArg Value.int hb) d_L_addSection_13 ?_
  refine aw_iload d_L_addSection_16 rfl ?_
  refine aw_iconst (v := 0) d_L_addSection_18 (by decide) ?_
  refine aw_callS (c_J_fill G _ hR.a6 (a := b) (N := n) hn (nI b) (nI b + z) rfl hzb) m_JArrays_fill ml_L_265 rfl rfl (by decide) (by decide) (Nat.le_of_ble_eq_true rfl) d_L_addSection_19 ?_
  rintro v h' ⟨rfl, rfl⟩
  obtain ⟨hR1, hF1⟩ := hR.w6 (mZ (c.2.1 6) b n)
  have ha2 := (hF1.2.2 a (Or.inr hat)).trans ha
  have ha3 := (hF1.2.2 (a + 1) (Or.inr (by omega))).trans ha1
  have e1 := hF1.1
  have e2 := hF1.2.1
  have hq := hF1.2.2
  generalize ax_set h (o + 6) (.inl (.byte, 262144, .inl (mZ (c.2.1 6) b n))) = g at *
  refine aw_aloadV_n d_L_addSection_22 rfl rfl (by first | exact Or.inl ⟨_, rfl⟩ | exact Or.inr rfl | exact rv_Q _) ?_
  refine aw_get cl_Unit fl_L_96 (by decide) ha2 rfl d_L_addSection_23 ?_
  refine aw_iload_n d_L_addSection_26 rfl rfl ?_
  refine aw_new cl_Section kl_L_100 ni_Section ii_Section f0_Section_d (by rw [e1]; exact hc) (by rw [e2]; exact hs) d_L_addSection_27 ?_
  refine aw_dup d_L_addSection_30 rfl ?_
  refine aw_aloadV_n d_L_addSection_31 rfl rfl (by first | exact Or.inl ⟨_, rfl⟩ | exact Or.inr rfl | exact rv_Q _) ?_
  refine aw_iload_n d_L_addSection_32 rfl rfl ?_
  refine aw_aloadV_n d_L_addSection_33 rfl rfl (by first | exact Or.inl ⟨_, rfl⟩ | exact Or.inr rfl | exact rv_Q _) ?_
  refine aw_getE cl_L fl_L_78 (by decide) ((ax_new_ne _ _ (by have : g.1 = h.1 := e1; omega)).trans hR1.obj) rfl (congrArg Value.int hb) d_L_addSection_34 ?_
  refine aw_callI (c_Section_init G _ g.1 (ax_new_self _ _) a z (nI b)) m_Section_init ml_L_102 rfl rfl (by decide) (by decide) (Nat.le_of_ble_eq_true rfl) d_L_addSection_37 ?_
  rintro v h' ⟨rfl, rfl⟩
  rw [ax_new_set]
  have hR2 : cR o (c.1, va_up c.2.1 6 (mZ (c.2.1 6) b n), c.2.2) (ax_new g (.inr (4, [.ref a, .int z, .int (nI b), .int 0, .int 0, .int 0])) 6) := hR1.frame (Nat.le_succ_of_le hR1.2.1) (fun y y1 y2 => ax_new_ne _ _ (by have := hR1.2.1; omega))
  subst hkz
  have hs2 : g.2.2 (a + 1) = some (.inl (.object "SymbolLinker$Section", 4, .inr (.inr (.inr (.inr (f)))))) := ha3
  refine aw_aast cl_Section (Or.inl rfl) ((ax_new_ne _ _ (by have : g.1 = h.1 := e1; omega)).trans hs2) (ax_new_self _ _) (vp_in_nI hkd (by decide)) d_L_addSection_40 ?_
  rw [nI_clamp (by omega)]
  have hR3 : cR o (c.1, va_up c.2.1 6 (mZ (c.2.1 6) b n), c.2.2) (ax_set (ax_new g (.inr (4, [.ref a, .int z, .int (nI b), .int 0, .int 0, .int 0])) 6) (a + 1) (.inl (.object "SymbolLinker$Section", 4, .inr (.inr (.inr (.inr (va_up f kd (some g.1)))))))) := hR2.frame hR2.2.1 (fun y y1 y2 => ax_get_ne _ (by have y1 : y < c.2.2.2.2.2 5 := y1; omega))
  refine aw_aloadV_n d_L_addSection_41 rfl rfl (by first | exact Or.inl ⟨_, rfl⟩ | exact Or.inr rfl | exact rv_Q _) ?_
  refine aw_iload d_L_addSection_42 rfl ?_
  refine aC_p14 hR3 fl_L_78 rfl rfl d_L_addSection_44 (fun g44 hR44 hF44 => ?_)
  refine aw_vret ?_ rfl d_L_addSection_47
  have q3 := hF44
  have k1 : (ax_set (ax_new g (.inr (4, [.ref a, .int z, .int (nI b), .int 0, .int 0, .int 0])) 6) (a + 1) (.inl (.object "SymbolLinker$Section", 4, .inr (.inr (.inr (.inr (va_up f kd (some g.1)))))))).2.2 (a + 1) = some (.inl (.object "SymbolLinker$Section", 4, .inr (.inr (.inr (.inr (va_up f kd (some g.1))))))) := ax_get_self _ _
  rw [hzb] at hR44
  refine ⟨rfl, hR44, ?_, ?_, ?_, ?_, ?_⟩
  · rw [q3.1]; show g.1 + 1 = _; rw [e1]
  · rw [q3.2.1]; show g.2.1 + 6 = _; rw [e2]
  · rw [q3.2.2 _ (Or.inr (Nat.le_succ_of_le hat)), k1, e1]
  · have e1 : g.1 = h.1 := e1
    rw [q3.2.2 _ (Or.inr (show _ ≤ h.1 from htop)), ← e1]
    exact (ax_get_ne _ (by omega)).trans (ax_new_self _ _)
  · intro y y1 y2 y3
    have e1 : g.1 = h.1 := e1
    rw [q3.2.2 _ y1]
    exact (ax_get_ne _ y2).trans ((ax_new_ne _ _ (by omega)).trans (hq y y1))
