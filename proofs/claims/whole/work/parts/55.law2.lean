/-- a class's side of the picture: over the reference's state, the ghost, the numbers of units, symbols, waits, starts, bytes, the calls left, the heap -/
abbrev lawP : Type := mSt → (Nat → Nat → Nat) → Nat → Nat → Nat → Nat → Nat → Nat → ax_H → Prop
/-- what the class leaves alone: the reference's cells, the row for answers -/
def lawF (m q : Nat) (h h2 : ax_H) : Prop := (∀ k, k < 36 → h2.2.2 (m + k) = h.2.2 (m + k)) ∧ h2.2.2 q = h.2.2 q
/-- what is asked of the picture itself -/
def lawK (C : lawP) (o m q : Nat) : Prop := (∀ s e U S W T B n h, C s e U S W T B n h → ∃ fs, h.2.2 o = some (.inr (0, fs))) ∧ (∀ s e U S W T B n h h2, mFr m h h2 → C s e U S W T B n h → C s e U S W T B n h2) ∧ (∀ s e U S W T B n h c, C s e U S W T B n h → C (va_up s.1 0 c, s.2) e U S W T B n h) ∧ (q < m ∨ m + 36 ≤ q) ∧ ∀ s e U S W T B n h E, C s e U S W T B n h → C s e U S W T B n (ax_set h q E)
def lawI (C : lawP) (m q n : Nat) (h : ax_H) : Prop := ∃ s e U S W T B f, mInv s e U S W T B ∧ mR m s h ∧ C s e U S W T B n h ∧ h.2.2 q = some (.inl (.long, 1, .inr (.inl f)))
theorem lawF.m {m q : Nat} {s : mSt} {h h2 : ax_H} (hF : lawF m q h h2) (hR : mR m s h) : mR m s h2 := fun k hk => (hF.1 k hk).trans (hR k hk)
def lawKeep (G : ax_G) (C : lawP) (o m q : Nat) : Prop := ∀ s e U S W T B n h (a : Int32), mInv s e U S W T B → mR m s h → C s e U S W T B (n + 1) h → AM G Y_L_keep 2 43 [.ref o, .int a] h (fun v h2 => v = some (.int (zI (mKeepOk U a))) ∧ C (va_up s.1 0 0, (if mKeepOk U a then va_up s.2.1 2 (va_up (s.2.1 2) (4 * (U - 1) + a.toNatClampNeg) 1) else s.2.1), s.2.2) e U S W T B n h2 ∧ lawF m q h h2)
set_option maxRecDepth 20000 in
theorem law_keep {G : ax_G} {x : ax_X} {h0 : ax_H} {P : Option Value → ax_H → Prop} {nm : String} {C : lawP} {o m q b L : Nat} {xs : Nat → Int32} (hS : ax_S G b L xs) (hLb : L < 2 ^ 31) (hC : lawK C o m q) (i n : Nat) (hi : i + 9 ≤ L) (l5 l6 : Option Value) (hop : lawKeep G C o m q) (h : ax_H) (hI : lawI C m q (n + 1) h) (hk : ∀ h2, lawI C m q n h2 → AW G x (lawY nm) 10 358 h0 P h2 904 [some (.ref b), some (.ref o), some (.ref m), some (.ref q), some (.int (nI i)), l5, l6] []) : AW G x (lawY nm) 10 358 h0 P h 305 [some (.ref b), some (.ref o), some (.ref m), some (.ref q), some (.int (nI i)), l5, l6] [] := by
  obtain ⟨s, e, U, S, W, T, B, f, iv, hR, hc, hq⟩ := hI
  obtain ⟨fs, ho⟩ := hC.1 _ _ _ _ _ _ _ _ _ hc
  first | refine aw_aload_n d_W_law_305 rfl rfl ?_ | refine aw_aload_nQ d_W_law_305 rfl rfl ?_ | refine aw_aload_nN d_W_law_305 rfl rfl ?_
  first | refine aw_aload_n d_W_law_306 rfl rfl ?_ | refine aw_aload_nQ d_W_law_306 rfl rfl ?_ | refine aw_aload_nN d_W_law_306 rfl rfl ?_
  refine aw_iload d_W_law_307 rfl ?_
  refine aw_iconst (v := 1) d_W_law_309 (by decide) ?_
  refine aw_iadd d_W_law_310 ?_
  refine aw_sld hS (show nI i + 1 = nI (i + 1) from nI_add i 1) (show i + 1 < L by omega) hLb d_W_law_311 ?_
  refine aw_callV (hop s e U S W T B n h _ iv hR hc) cl_L ho m_L_keep ml_W_41 rfl rfl (by decide) (by decide) (Nat.le_of_ble_eq_true rfl) d_W_law_312 ?_
  rintro v h1 ⟨rfl, hc1, hF1⟩
  have hR1 := hF1.m hR
  first | refine aw_aload_n d_W_law_315 rfl rfl ?_ | refine aw_aload_nQ d_W_law_315 rfl rfl ?_ | refine aw_aload_nN d_W_law_315 rfl rfl ?_
  first | refine aw_aload_n d_W_law_316 rfl rfl ?_ | refine aw_aload_nQ d_W_law_316 rfl rfl ?_ | refine aw_aload_nN d_W_law_316 rfl rfl ?_
  refine aw_iload d_W_law_317 rfl ?_
  refine aw_iconst (v := 1) d_W_law_319 (by decide) ?_
  refine aw_iadd d_W_law_320 ?_
  refine aw_sld hS (show nI i + 1 = nI (i + 1) from nI_add i 1) (show i + 1 < L by omega) hLb d_W_law_321 ?_
  refine aw_callV (c_M_keep G _ m s hR1 U iv.1.hU iv.1.hUb _) cl_M hR1.obj m_M_keep ml_W_45 rfl rfl (by decide) (by decide) (Nat.le_of_ble_eq_true rfl) d_W_law_322 ?_
  rintro v h2 ⟨rfl, hR2, hF2⟩
  refine aw_icmp_eq (tgt := 904) d_W_law_325 (by decide) (fun c325 => ?_) (fun c325 => ?_)
  · exact hk h2 ⟨_, e, U, S, W, T, B, f, iv.keep _, hR2, hC.2.1 _ _ _ _ _ _ _ _ _ _ hF2 hc1, (hF2.2.2 q hC.2.2.2.1).trans (hF1.2.trans hq)⟩
  · exact absurd rfl c325
