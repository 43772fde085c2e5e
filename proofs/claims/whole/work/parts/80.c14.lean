/-- a wait more, in its row -/
abbrev cWt (c : cSt) (h : ax_H) (W q : Nat) (p k l nx : Int32) (z : Int64) (r1 r2 : Option Nat) : cSt := (va_up c.1 12 (nI W + 1), (cAddW c h q p k l nx z r1 r2).2.1, (cAddW c h q p k l nx z r1 r2).2.2.1, va_up (cAddW c h q p k l nx z r1 r2).2.2.2.1 4 (va_up (c.2.2.2.1 4) W (some h.1)), (cAddW c h q p k l nx z r1 r2).2.2.2.2)
theorem cJ.addW {c : cSt} {s : mSt} {e : Nat → Nat → Nat} {U S W T : Nat} {hh : ax_H} (h : cJ c s e U S W T) (F : Nat) (a p k nx wh : Int32) (z : Int64) (l : Int32) (hnx : -1 ≤ nx) (r1 r2 : Option Nat) (h1 : r1 = (if 5 ≤ mWk F wh then some (c.2.2.2.2.1 2 (mWk F wh - 5)) else none)) (h2 : r2 = (if 1 ≤ mWk F wh ∧ mWk F wh < 5 then some (cQ c.2.2.2.2 (4 * (U - 1) + (mWk F wh - 1))) else none)) : cJ (cWt c hh W (4 * (U - 1) + iN a) p k l nx z r1 r2) (mAwS s F W a p k nx wh z l) (va_up (va_up (va_up (va_up (va_up e 17 (va_up (e 17) W (U - 1))) 18 (va_up (e 18) W (iN a))) 19 (va_up (e 19) W (iN p))) 20 (va_up (e 20) W (iN k))) 22 (va_up (e 22) W (mWk F wh))) U S (W + 1) T := by
  have hW := h.nW
  obtain ⟨g1, g2, g3, g4, g5, g6, g7⟩ := h
  refine ⟨⟨g1.1, g1.2.1, ?_, g1.2.2.2.1, g1.2.2.2.2.1, g1.2.2.2.2.2.1, g1.2.2.2.2.2.2.1, g1.2.2.2.2.2.2.2.1, nI_1 W, g1.2.2.2.2.2.2.2.2.2⟩, g2, g3, g4, g5, fun j hj => ?_, g7⟩
  · show c.2.2.2.2.2 3 + 1 = W + 1
    rw [hW]
  · show va_up (c.2.2.2.1 4) W (some hh.1) j = some (va_up (c.2.2.2.2.1 3) (c.2.2.2.2.2 3) hh.1 j) ∧ va_up (c.2.2.2.2.1 6) (c.2.2.2.2.2 3) (4 * (U - 1) + iN a) j = 4 * va_up (e 17) W (U - 1) j + va_up (e 18) W (iN a) j ∧ va_up (c.2.1 36) (c.2.2.2.2.2 3) p j = va_up (s.2.1 19) W p j ∧ va_up (c.2.1 37) (c.2.2.2.2.2 3) k j = va_up (s.2.1 20) W k j ∧ va_up (c.2.2.1 43) (c.2.2.2.2.2 3) z j = va_up (s.2.2 24) W z j ∧ va_up (c.2.1 38) (c.2.2.2.2.2 3) l j = va_up (s.2.1 23) W l j ∧ va_up (c.2.1 39) (c.2.2.2.2.2 3) nx j = va_up (s.2.1 21) W nx j ∧ -1 ≤ va_up (s.2.1 21) W nx j ∧ va_up (c.2.2.2.1 47) (c.2.2.2.2.2 3) r1 j = (if 5 ≤ va_up (e 22) W (mWk F wh) j then some (c.2.2.2.2.1 2 (va_up (e 22) W (mWk F wh) j - 5)) else none) ∧ va_up (c.2.2.2.1 48) (c.2.2.2.2.2 3) r2 j = (if 1 ≤ va_up (e 22) W (mWk F wh) j ∧ va_up (e 22) W (mWk F wh) j < 5 then some (cQ c.2.2.2.2 (4 * va_up (e 17) W (U - 1) j + (va_up (e 22) W (mWk F wh) j - 1))) else none)
    rw [hW]
    by_cases e0 : j = W
    · subst e0
      simp only [va_up_self]
      exact ⟨trivial, trivial, trivial, trivial, trivial, trivial, trivial, hnx, h1, h2⟩
    · simp only [va_up_ne _ _ e0]
      exact g6 j (by omega)
set_option maxRecDepth 20000 in
theorem t_L_await {G : ax_G} {x : ax_X} {h0 : ax_H} {P : Option Value → ax_H → Prop} {o : Nat} {c : cSt} {h : ax_H} (hR : cR o c h) (s : mSt) (e : Nat → Nat → Nat) (U S W T : Nat) (hJ : cJ c s e U S W T) (hW8 : W < 4096) {q : Nat} (hq : q < 4 * c.2.2.2.2.2 0) (a p k nx wh : Int32) (z : Int64) (l : Int32) (r1 r2 : Option Nat) (o9 : Option Value) (hc : h.1 + 1 ≤ G.1 + room_1.cells) (hs : h.2.1 + 8 ≤ room_1.slots) (hp : ∀ h2, cR o (cWt c h W q p k l nx z r1 r2) h2 → cFr o (h.1 + 1) (ax_new h (.inr (7, [.ref (cQ c.2.2.2.2 q), .int p, .int k, .long z, .int l, .int nx, va_rf r1, va_rf r2])) 8) h2 → P (some (.int 1)) h2) : AW G x Y_L_await 2 46 h0 P h 138 [some (.ref o), some (.int a), some (.int p), some (.int k), some (.int nx), some (.int wh), some (.long z), none, some (.int l), o9, some (.ref (cQ c.2.2.2.2 q)), some (va_rf r1), some (va_rf r2), none] [] := by
  refine aw_new cl_Wait kl_L_27 ni_Wait ii_Wait f0_Wait_d hc hs d_L_await_138 ?_
  refine aw_dup d_L_await_141 rfl ?_
  refine aw_aloadV d_L_await_142 rfl (by first | exact Or.inl ⟨_, rfl⟩ | exact Or.inr rfl | exact rv_Q _) ?_
  refine aw_iload_n d_L_await_144 rfl rfl ?_
  refine aw_iload_n d_L_await_145 rfl rfl ?_
  refine aw_lload d_L_await_146 rfl ?_
  refine aw_iload d_L_await_148 rfl ?_
  refine aw_callI (c_Wait_init G _ h.1 (ax_new_self _ _) (cQ c.2.2.2.2 q) p k z l) m_Wait_init ml_L_170 rfl rfl (by decide) (by decide) (Nat.le_of_ble_eq_true rfl) d_L_await_150 ?_
  rintro v h' ⟨rfl, rfl⟩
  rw [ax_new_set]
  refine aw_astoreV d_L_await_153 (by decide) (by first | exact Or.inl ⟨_, rfl⟩ | exact Or.inr rfl | exact rv_Q _) (by dsimp only [List.set]) ?_
  refine aw_aloadV d_L_await_155 rfl (by first | exact Or.inl ⟨_, rfl⟩ | exact Or.inr rfl | exact rv_Q _) ?_
  refine aw_iload d_L_await_157 rfl ?_
  refine aw_put cl_Wait fl_L_173 (by decide) rfl (ax_new_self _ _) (Nat.le_of_ble_eq_true rfl) rfl rfl d_L_await_159 ?_
  refine aw_heap (h1 := ax_new h (.inr (7, [.ref (cQ c.2.2.2.2 q), .int p, .int k, .long z, .int l, .int nx, .null, .null])) 8) (by rw [ax_new_set]; rfl) ?_
  refine aw_aloadV d_L_await_162 rfl (by first | exact Or.inl ⟨_, rfl⟩ | exact Or.inr rfl | exact rv_Q _) ?_
  refine aw_aloadV d_L_await_164 rfl (by first | exact Or.inl ⟨_, rfl⟩ | exact Or.inr rfl | exact rv_Q _) ?_
  refine aw_put cl_Wait fl_L_176 (by decide) rfl (ax_new_self _ _) (Nat.le_of_ble_eq_true rfl) (va_rf_n _ r1) (va_rf_f _ r1) d_L_await_166 ?_
  refine aw_heap (h1 := ax_new h (.inr (7, [.ref (cQ c.2.2.2.2 q), .int p, .int k, .long z, .int l, .int nx, va_rf r1, .null])) 8) (by rw [ax_new_set]; rfl) ?_
  refine aw_aloadV d_L_await_169 rfl (by first | exact Or.inl ⟨_, rfl⟩ | exact Or.inr rfl | exact rv_Q _) ?_
  refine aw_aloadV d_L_await_171 rfl (by first | exact Or.inl ⟨_, rfl⟩ | exact Or.inr rfl | exact rv_Q _) ?_
  refine aw_put cl_Wait fl_L_180 (by decide) rfl (ax_new_self _ _) (Nat.le_of_ble_eq_true rfl) (va_rf_n _ r2) (va_rf_f _ r2) d_L_await_173 ?_
  refine aw_heap (h1 := ax_new h (.inr (7, [.ref (cQ c.2.2.2.2 q), .int p, .int k, .long z, .int l, .int nx, va_rf r1, va_rf r2])) 8) (by rw [ax_new_set]; rfl) ?_
  have hR1 := hR.addW (n := 8) q p k l nx z r1 r2 hq
  refine aw_aloadV_n d_L_await_176 rfl rfl (by first | exact Or.inl ⟨_, rfl⟩ | exact Or.inr rfl | exact rv_Q _) ?_
  refine aw_get cl_L fl_L_29 (by decide) hR1.obj rfl d_L_await_177 ?_
  refine aw_aloadV_n d_L_await_180 rfl rfl (by first | exact Or.inl ⟨_, rfl⟩ | exact Or.inr rfl | exact rv_Q _) ?_
  refine aw_getE cl_L fl_L_72 (by decide) hR1.obj rfl (congrArg Value.int hJ.sW) d_L_await_181 ?_
  refine aw_aloadV d_L_await_184 rfl (by first | exact Or.inl ⟨_, rfl⟩ | exact Or.inr rfl | exact rv_Q _) ?_
  refine aC_s4 hR1 rfl hW8 (ax_new_self _ _) d_L_await_186 (fun g186 hR186 hF186 => ?_)
  refine aw_aloadV_n d_L_await_187 rfl rfl (by first | exact Or.inl ⟨_, rfl⟩ | exact Or.inr rfl | exact rv_Q _) ?_
  refine aw_dup d_L_await_188 rfl ?_
  refine aw_getE cl_L fl_L_72 (by decide) hR186.obj rfl (congrArg Value.int hJ.sW) d_L_await_189 ?_
  refine aw_iconst (v := 1) d_L_await_192 (by decide) ?_
  refine aw_iadd d_L_await_193 ?_
  refine aC_p12 hR186 fl_L_72 rfl rfl d_L_await_194 (fun g194 hR194 hF194 => ?_)
  refine aw_iconst (v := 1) d_L_await_197 (by decide) ?_
  refine aw_zret ?_ rfl rfl d_L_await_198
  have e2 := hJ.nW
  exact hp _ (e2 ▸ hR194) (hF186.tr hF194)
