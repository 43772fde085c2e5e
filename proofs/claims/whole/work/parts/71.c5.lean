theorem ax_set_id {h : ax_H} {b : Nat} {E : ax_E} (hb : h.2.2 b = some E) : ax_set h b E = h := by
  obtain ⟨h1, h2, h3⟩ := h
  show (h1, h2, va_up h3 b (some E)) = (h1, h2, h3)
  have e : va_up h3 b (some E) = h3 := by
    funext q
    by_cases hq : q = b
    · rw [hq, va_up_self]; exact hb.symm
    · rw [va_up_ne _ _ hq]
  rw [e]
theorem ax_set_set (h : ax_H) (b : Nat) (E F : ax_E) : ax_set (ax_set h b E) b F = ax_set h b F := by
  show (h.1, h.2.1, va_up (va_up h.2.2 b (some E)) b (some F)) = (h.1, h.2.1, va_up h.2.2 b (some F))
  rw [bx_uu]
theorem nI_pos0 {n : Nat} (h : ¬ nI n = 0) : 0 < n := Nat.pos_of_ne_zero (fun e => h (by rw [e]; rfl))
theorem nI_m1 {n : Nat} (h : 0 < n) : nI n - 1 = nI (n - 1) := by
  obtain ⟨k, rfl⟩ : ∃ k, n = k + 1 := ⟨n - 1, by omega⟩
  exact nI_pred k
set_option maxRecDepth 20000 in
theorem c_Unit_symbolNumbered (G : ax_G) (h : ax_H) (o : Nat) (c : cSt) (hR : cR o c h) (s : mSt) (e : Nat → Nat → Nat) (U S W T : Nat) (hJ : cJ c s e U S W T) {j : Nat} (hj : j < U) (hSb : S ≤ 2048) (a : Int32) : AM G Y_Unit_symbolNumbered 0 0 [.ref (c.2.2.2.2.1 0 j), .int a] h (fun v h2 => h2 = h ∧ v = some (va_rf (cOp (0 ≤ a ∧ a < nI (cEnd e U S j) - nI (e 16 j)) (c.2.2.2.2.1 2 (e 16 j + iN a))))) := by
  have eb := hJ.eb hj
  have ee := hJ.ee hj
  refine aw_enter (by decide) (Nat.le_of_ble_eq_true rfl) (n := 0) (ls := [some (.ref (c.2.2.2.2.1 0 j)), some (.int a)]) rfl (fun x => ?_)
  refine aw_iload_n d_Unit_symbolNumbered_0 rfl rfl ?_
  refine aw_if_lt (tgt := 17) d_Unit_symbolNumbered_1 (by decide) (fun c1 => ?_) (fun c1 => ?_)
  · refine aw_null d_Unit_symbolNumbered_17 ?_
    refine aw_goto (tgt := 32) d_Unit_symbolNumbered_18 (by decide) ?_
    refine aw_aret (r := none) ?_ rfl (by first | exact Or.inl ⟨_, rfl⟩ | exact Or.inr ⟨_, rfl⟩) d_Unit_symbolNumbered_32
    refine ⟨rfl, ?_⟩
    rw [cOp_f (fun q => absurd q.1 (Int32.not_le.mpr c1))]
  · refine aw_iload_n d_Unit_symbolNumbered_4 rfl rfl ?_
    refine aw_aloadV_n d_Unit_symbolNumbered_5 rfl rfl (by first | exact Or.inl ⟨_, rfl⟩ | exact Or.inr rfl | exact rv_Q _) ?_
    refine aw_getE cl_Unit fl_Unit_32 (by decide) (hR.unit (hJ.hu hj)) rfl (congrArg Value.int (hJ.end hj)) d_Unit_symbolNumbered_6 ?_
    refine aw_aloadV_n d_Unit_symbolNumbered_9 rfl rfl (by first | exact Or.inl ⟨_, rfl⟩ | exact Or.inr rfl | exact rv_Q _) ?_
    refine aw_getE cl_Unit fl_Unit_29 (by decide) (hR.unit (hJ.hu hj)) rfl (congrArg Value.int (hJ.beg hj)) d_Unit_symbolNumbered_10 ?_
    refine aw_isub d_Unit_symbolNumbered_13 ?_
    refine aw_icmp_lt (tgt := 21) d_Unit_symbolNumbered_14 (by decide) (fun c14 => ?_) (fun c14 => ?_)
    · refine aw_aloadV_n d_Unit_symbolNumbered_21 rfl rfl (by first | exact Or.inl ⟨_, rfl⟩ | exact Or.inr rfl | exact rv_Q _) ?_
      refine aw_get cl_Unit fl_Unit_25 (by decide) (hR.unit (hJ.hu hj)) rfl d_Unit_symbolNumbered_22 ?_
      refine aw_aloadV_n d_Unit_symbolNumbered_25 rfl rfl (by first | exact Or.inl ⟨_, rfl⟩ | exact Or.inr rfl | exact rv_Q _) ?_
      refine aw_getE cl_Unit fl_Unit_29 (by decide) (hR.unit (hJ.hu hj)) rfl (congrArg Value.int (hJ.beg hj)) d_Unit_symbolNumbered_26 ?_
      refine aw_iload_n d_Unit_symbolNumbered_29 rfl rfl ?_
      have c14 : a < nI (cEnd e U S j) - nI (e 16 j) := c14
      have ha : iN a < cEnd e U S j - e 16 j := iN_lt (by omega) (Int32.not_lt.mp c1) (by rw [← pk_sub eb]; exact c14)
      have hx : nI (e 16 j) + a = nI (e 16 j + iN a) := by rw [← nI_add, nI_iN (Int32.not_lt.mp c1)]
      refine aw_iadd d_Unit_symbolNumbered_30 ?_
      refine aC_l3 hR hx (show e 16 j + iN a < 2048 by omega) (hJ.rS (show e 16 j + iN a < S by omega)) d_Unit_symbolNumbered_31 ?_
      refine aw_aret (r := some (c.2.2.2.2.1 2 (e 16 j + iN a))) ?_ rfl (by first | exact Or.inl ⟨_, rfl⟩ | exact Or.inr ⟨_, rfl⟩) d_Unit_symbolNumbered_32
      refine ⟨rfl, ?_⟩
      rw [cOp_t ⟨Int32.not_lt.mp c1, c14⟩]
    · refine aw_null d_Unit_symbolNumbered_17 ?_
      refine aw_goto (tgt := 32) d_Unit_symbolNumbered_18 (by decide) ?_
      refine aw_aret (r := none) ?_ rfl (by first | exact Or.inl ⟨_, rfl⟩ | exact Or.inr ⟨_, rfl⟩) d_Unit_symbolNumbered_32
      refine ⟨rfl, ?_⟩
      rw [cOp_f (fun q => c14 q.2)]
set_option maxRecDepth 20000 in
theorem l_Unit_hasSymbol {G : ax_G} {x : ax_X} {h0 : ax_H} {P : Option Value → ax_H → Prop} {o : Nat} {c : cSt} {h : ax_H} (hR : cR o c h) (s : mSt) (e : Nat → Nat → Nat) (U S W T : Nat) (hJ : cJ c s e U S W T) {j : Nat} (hj : j < U) (hSb : S ≤ 2048) {i : Nat} (hi : i < c.2.2.2.2.2 1) (hy : (∃ k, e 16 j ≤ k ∧ k < cEnd e U S j ∧ c.2.2.2.2.1 5 k = i) → P (some (.int 1)) h) (hn : (¬ ∃ k, e 16 j ≤ k ∧ k < cEnd e U S j ∧ c.2.2.2.2.1 5 k = i) → P (some (.int 0)) h) : ∀ r k, k + r = cEnd e U S j → e 16 j ≤ k → (∀ q, e 16 j ≤ q → q < k → ¬ c.2.2.2.2.1 5 q = i) → AW G x Y_Unit_hasSymbol 0 0 h0 P h 5 [some (.ref (c.2.2.2.2.1 0 j)), some (.ref (c.2.2.2.2.1 1 i)), some (.int (nI k))] [] := by
  have ee := hJ.ee hj
  intro r
  induction r with
  | zero =>
    intro k hk hb hno
    refine aw_iload_n d_Unit_hasSymbol_5 rfl rfl ?_
    refine aw_aloadV_n d_Unit_hasSymbol_6 rfl rfl (by first | exact Or.inl ⟨_, rfl⟩ | exact Or.inr rfl | exact rv_Q _) ?_
    refine aw_getE cl_Unit fl_Unit_32 (by decide) (hR.unit (hJ.hu hj)) rfl (congrArg Value.int (hJ.end hj)) d_Unit_hasSymbol_7 ?_
    refine aw_icmp_ge (tgt := 34) d_Unit_hasSymbol_10 (by decide) (fun c10 => ?_) (fun c10 => ?_)
    · refine aw_iconst (v := 0) d_Unit_hasSymbol_34 (by decide) ?_
      refine aw_zret ?_ rfl rfl d_Unit_hasSymbol_35
      exact hn (fun ⟨q, q1, q2, q3⟩ => hno q q1 (by omega) q3)
    · exact absurd (nI_le (show cEnd e U S j ≤ k by omega) (by omega)) c10
  | succ r ih =>
    intro k hk hb hno
    have hkS : k < S := by omega
    refine aw_iload_n d_Unit_hasSymbol_5 rfl rfl ?_
    refine aw_aloadV_n d_Unit_hasSymbol_6 rfl rfl (by first | exact Or.inl ⟨_, rfl⟩ | exact Or.inr rfl | exact rv_Q _) ?_
    refine aw_getE cl_Unit fl_Unit_32 (by decide) (hR.unit (hJ.hu hj)) rfl (congrArg Value.int (hJ.end hj)) d_Unit_hasSymbol_7 ?_
    refine aw_icmp_ge (tgt := 34) d_Unit_hasSymbol_10 (by decide) (fun c10 => ?_) (fun c10 => ?_)
    · exact absurd c10 (nI_ge (by omega) (by omega))
    · refine aw_aloadV_n d_Unit_hasSymbol_13 rfl rfl (by first | exact Or.inl ⟨_, rfl⟩ | exact Or.inr rfl | exact rv_Q _) ?_
      refine aw_get cl_Unit fl_Unit_25 (by decide) (hR.unit (hJ.hu hj)) rfl d_Unit_hasSymbol_14 ?_
      refine aw_iload_n d_Unit_hasSymbol_17 rfl rfl ?_
      refine aC_l3 hR rfl (show k < 2048 by omega) (hJ.rS hkS) d_Unit_hasSymbol_18 ?_
      refine aw_get cl_Symbol fl_Unit_38 (by decide) (hR.sym (hJ.hk hkS)) rfl d_Unit_hasSymbol_19 ?_
      refine aw_aloadV_n d_Unit_hasSymbol_22 rfl rfl (by first | exact Or.inl ⟨_, rfl⟩ | exact Or.inr rfl | exact rv_Q _) ?_
      refine aw_acmp_ne (r1 := some (c.2.2.2.2.1 1 (c.2.2.2.2.1 5 k))) (r2 := some (c.2.2.2.2.1 1 i)) (tgt := 28) d_Unit_hasSymbol_23 (by decide) (fun c23 => ?_) (fun c23 => ?_)
      · refine aw_iinc (v := nI (k + 1)) d_Unit_hasSymbol_28 rfl (ax_inc k) (by decide) (by dsimp only [List.set]) ?_
        refine aw_goto (tgt := 5) d_Unit_hasSymbol_31 (by decide) ?_
        refine ih (k + 1) (by omega) (by omega) (fun q q1 q2 q3 => ?_)
        by_cases hqk : q = k
        · exact c23 (by rw [← hqk, q3])
        · exact hno q q1 (by omega) q3
      · refine aw_iconst (v := 1) d_Unit_hasSymbol_26 (by decide) ?_
        refine aw_zret ?_ rfl rfl d_Unit_hasSymbol_27
        refine hy ⟨k, hb, by omega, ?_⟩
        exact (hR.1.1 19 _ 19 _ ⟨by decide, hR.1.2.2.2.1 k (hJ.hk hkS)⟩ ⟨by decide, hi⟩ (Option.some.inj c23)).2
set_option maxRecDepth 20000 in
theorem c_Unit_hasSymbol (G : ax_G) (h : ax_H) (o : Nat) (c : cSt) (hR : cR o c h) (s : mSt) (e : Nat → Nat → Nat) (U S W T : Nat) (hJ : cJ c s e U S W T) {j : Nat} (hj : j < U) (hSb : S ≤ 2048) {i : Nat} (hi : i < c.2.2.2.2.2 1) : AM G Y_Unit_hasSymbol 0 0 [.ref (c.2.2.2.2.1 0 j), .ref (c.2.2.2.2.1 1 i)] h (fun v h2 => h2 = h ∧ v = some (.int (zP (∃ k, e 16 j ≤ k ∧ k < cEnd e U S j ∧ c.2.2.2.2.1 5 k = i)))) := by
  refine aw_enter (by decide) (Nat.le_of_ble_eq_true rfl) (n := 1) (ls := [some (.ref (c.2.2.2.2.1 0 j)), some (.ref (c.2.2.2.2.1 1 i)), none]) rfl (fun x => ?_)
  refine aw_aloadV_n d_Unit_hasSymbol_0 rfl rfl (by first | exact Or.inl ⟨_, rfl⟩ | exact Or.inr rfl | exact rv_Q _) ?_
  refine aw_getE cl_Unit fl_Unit_29 (by decide) (hR.unit (hJ.hu hj)) rfl (congrArg Value.int (hJ.beg hj)) d_Unit_hasSymbol_1 ?_
  refine aw_istore_n d_Unit_hasSymbol_4 rfl (by decide) (by dsimp only [List.set]) ?_
  have eb := hJ.eb hj
  exact l_Unit_hasSymbol hR s e U S W T hJ hj hSb hi (fun q => ⟨rfl, by rw [zP_1 q]⟩) (fun q => ⟨rfl, by rw [zP_0 q]⟩) (cEnd e U S j - e 16 j) _ (by omega) (Nat.le_refl _) (fun q q1 q2 => absurd q2 (by omega))
set_option maxRecDepth 20000 in
theorem c_L_latestUnit (G : ax_G) (h : ax_H) (o : Nat) (c : cSt) (hR : cR o c h) (s : mSt) (e : Nat → Nat → Nat) (U S W T : Nat) (hJ : cJ c s e U S W T) (hUb : U ≤ 32) : AM G Y_L_latestUnit 0 0 [.ref o] h (fun v h2 => h2 = h ∧ v = some (va_rf (cOp (0 < U) (c.2.2.2.2.1 0 (U - 1))))) := by
  refine aw_enter (by decide) (Nat.le_of_ble_eq_true rfl) (n := 0) (ls := [some (.ref o)]) rfl (fun x => ?_)
  refine aw_aloadV_n d_L_latestUnit_0 rfl rfl (by first | exact Or.inl ⟨_, rfl⟩ | exact Or.inr rfl | exact rv_Q _) ?_
  refine aw_getE cl_L fl_L_62 (by decide) hR.obj rfl (congrArg Value.int hJ.sU) d_L_latestUnit_1 ?_
  refine aw_if_ne (tgt := 11) d_L_latestUnit_4 (by decide) (fun c4 => ?_) (fun c4 => ?_)
  · refine aw_aloadV_n d_L_latestUnit_11 rfl rfl (by first | exact Or.inl ⟨_, rfl⟩ | exact Or.inr rfl | exact rv_Q _) ?_
    refine aw_get cl_L fl_L_11 (by decide) hR.obj rfl d_L_latestUnit_12 ?_
    refine aw_aloadV_n d_L_latestUnit_15 rfl rfl (by first | exact Or.inl ⟨_, rfl⟩ | exact Or.inr rfl | exact rv_Q _) ?_
    refine aw_getE cl_L fl_L_62 (by decide) hR.obj rfl (congrArg Value.int hJ.sU) d_L_latestUnit_16 ?_
    refine aw_iconst (v := 1) d_L_latestUnit_19 (by decide) ?_
    have hU0 := nI_pos0 c4
    refine aw_isub d_L_latestUnit_20 ?_
    refine aC_l1 hR (nI_m1 hU0) (show U - 1 < 32 by omega) (hJ.rU (show U - 1 < U by omega)) d_L_latestUnit_21 ?_
    refine aw_aret (r := some (c.2.2.2.2.1 0 (U - 1))) ?_ rfl (by first | exact Or.inl ⟨_, rfl⟩ | exact Or.inr ⟨_, rfl⟩) d_L_latestUnit_22
    refine ⟨rfl, ?_⟩
    rw [cOp_t hU0]
  · refine aw_null d_L_latestUnit_7 ?_
    refine aw_goto (tgt := 22) d_L_latestUnit_8 (by decide) ?_
    refine aw_aret (r := none) ?_ rfl (by first | exact Or.inl ⟨_, rfl⟩ | exact Or.inr ⟨_, rfl⟩) d_L_latestUnit_22
    refine ⟨rfl, ?_⟩
    rw [cOp_f (fun q => absurd c4 (nI_ne0 q (by omega)))]
set_option maxRecDepth 20000 in
theorem c_L_latestSection (G : ax_G) (h : ax_H) (o : Nat) (c : cSt) (hR : cR o c h) (s : mSt) (e : Nat → Nat → Nat) (U S W T : Nat) (hJ : cJ c s e U S W T) (hUb : U ≤ 32) (a : Int32) : AM G Y_L_latestSection 1 21 [.ref o, .int a] h (fun v h2 => h2 = h ∧ v = some (va_rf (cOp (mKeepOk U a) (cQ c.2.2.2.2 (4 * (U - 1) + iN a))))) := by
  refine aw_enter (by decide) (Nat.le_of_ble_eq_true rfl) (n := 1) (ls := [some (.ref o), some (.int a), none]) rfl (fun x => ?_)
  by_cases hU0 : 0 < U
  · have hx : va_rf (cOp (0 < U) (c.2.2.2.2.1 0 (U - 1))) = .ref (c.2.2.2.2.1 0 (U - 1)) := by rw [cOp_t hU0]; rfl
    refine aw_aloadV_n d_L_latestSection_0 rfl rfl (by first | exact Or.inl ⟨_, rfl⟩ | exact Or.inr rfl | exact rv_Q _) ?_
    refine aw_callV (c_L_latestUnit G _ o c hR s e U S W T hJ hUb) cl_L hR.obj m_L_latestUnit ml_L_126 rfl rfl (by decide) (by decide) (Nat.le_of_ble_eq_true rfl) d_L_latestSection_1 ?_
    rintro v h' ⟨rfl, rfl⟩
    rw [hx]
    refine aw_astoreV_n d_L_latestSection_4 rfl (by decide) (by first | exact Or.inl ⟨_, rfl⟩ | exact Or.inr rfl | exact rv_Q _) (by dsimp only [List.set]) ?_
    refine aw_aloadV_n d_L_latestSection_5 rfl rfl (by first | exact Or.inl ⟨_, rfl⟩ | exact Or.inr rfl | exact rv_Q _) ?_
    refine aw_ifnonnull (tgt := 13) d_L_latestSection_6 (by decide) ?_
    refine aw_aloadV_n d_L_latestSection_13 rfl rfl (by first | exact Or.inl ⟨_, rfl⟩ | exact Or.inr rfl | exact rv_Q _) ?_
    refine aw_iload_n d_L_latestSection_14 rfl rfl ?_
    refine aw_callV (c_Unit_sectionOfKind G _ o c hR (hJ.hu (show U - 1 < U by omega)) a) cl_Unit (hR.unit (hJ.hu (show U - 1 < U by omega))) m_Unit_sectionOfKind ml_L_167 rfl rfl (by decide) (by decide) (Nat.le_of_ble_eq_true rfl) d_L_latestSection_15 ?_
    rintro v h' ⟨rfl, rfl⟩
    refine aw_aret (r := (cOp (0 ≤ a ∧ a ≤ 3) (cQ c.2.2.2.2 (4 * (U - 1) + iN a)))) ?_ rfl (by first | exact Or.inl ⟨_, rfl⟩ | exact Or.inr ⟨_, rfl⟩) d_L_latestSection_18
    refine ⟨rfl, ?_⟩
    by_cases q : 0 ≤ a ∧ a ≤ 3
    · rw [cOp_t q, cOp_t (show mKeepOk U a from ⟨hU0, q⟩)]
    · rw [cOp_f q, cOp_f (fun z : mKeepOk U a => q z.2)]
  · have hx : va_rf (cOp (0 < U) (c.2.2.2.2.1 0 (U - 1))) = .null := by rw [cOp_f hU0]; rfl
    refine aw_aloadV_n d_L_latestSection_0 rfl rfl (by first | exact Or.inl ⟨_, rfl⟩ | exact Or.inr rfl | exact rv_Q _) ?_
    refine aw_callV (c_L_latestUnit G _ o c hR s e U S W T hJ hUb) cl_L hR.obj m_L_latestUnit ml_L_126 rfl rfl (by decide) (by decide) (Nat.le_of_ble_eq_true rfl) d_L_latestSection_1 ?_
    rintro v h' ⟨rfl, rfl⟩
    rw [hx]
    refine aw_astoreV_n d_L_latestSection_4 rfl (by decide) (by first | exact Or.inl ⟨_, rfl⟩ | exact Or.inr rfl | exact rv_Q _) (by dsimp only [List.set]) ?_
    refine aw_aloadV_n d_L_latestSection_5 rfl rfl (by first | exact Or.inl ⟨_, rfl⟩ | exact Or.inr rfl | exact rv_Q _) ?_
    refine aw_ifnonnullN d_L_latestSection_6 ?_
    refine aw_null d_L_latestSection_9 ?_
    refine aw_goto (tgt := 18) d_L_latestSection_10 (by decide) ?_
    refine aw_aret (r := none) ?_ rfl (by first | exact Or.inl ⟨_, rfl⟩ | exact Or.inr ⟨_, rfl⟩) d_L_latestSection_18
    refine ⟨rfl, ?_⟩
    rw [cOp_f (fun z : mKeepOk U a => hU0 z.1)]
set_option maxRecDepth 20000 in
theorem l_L_findName {G : ax_G} {x : ax_X} {h0 : ax_H} {P : Option Value → ax_H → Prop} {o : Nat} {c : cSt} {h : ax_H} (hR : cR o c h) (s : mSt) (e : Nat → Nat → Nat) (U S W T : Nat) (hJ : cJ c s e U S W T) (hSb : S ≤ 2048) (w : Int64) (n : Int32) (hy : ∀ i, i < c.2.2.2.2.2 1 → (c.2.2.1 42 i = mCut w n ∧ c.2.1 29 i = n) → P (some (.ref (c.2.2.2.2.1 1 i))) h) (hn : (∀ i, i < c.2.2.2.2.2 1 → ¬ (c.2.2.1 42 i = mCut w n ∧ c.2.1 29 i = n)) → P (some .null) h) : ∀ r i o7, i + r = c.2.2.2.2.2 1 → (∀ q, q < i → ¬ (c.2.2.1 42 q = mCut w n ∧ c.2.1 29 q = n)) → AW G x Y_L_findName 1 22 h0 P h 10 [some (.ref o), some (.long w), none, some (.int n), some (.long (mCut w n)), none, some (.int (nI i)), o7] [] := by
  have hNS := hJ.NS
  intro r
  induction r with
  | zero =>
    intro i o7 hi hno
    refine aw_iload d_L_findName_10 rfl ?_
    refine aw_aloadV_n d_L_findName_12 rfl rfl (by first | exact Or.inl ⟨_, rfl⟩ | exact Or.inr rfl | exact rv_Q _) ?_
    refine aw_getE cl_L fl_L_66 (by decide) hR.obj rfl (congrArg Value.int hJ.sN) d_L_findName_13 ?_
    refine aw_icmp_ge (tgt := 57) d_L_findName_16 (by decide) (fun c16 => ?_) (fun c16 => ?_)
    · refine aw_null d_L_findName_57 ?_
      refine aw_aret (r := none) ?_ rfl (by first | exact Or.inl ⟨_, rfl⟩ | exact Or.inr ⟨_, rfl⟩) d_L_findName_58
      exact hn (fun q hq => hno q (by omega))
    · exact absurd (nI_le (show c.2.2.2.2.2 1 ≤ i by omega) (by omega)) c16
  | succ r ih =>
    intro i o7 hi hno
    have hiN : i < c.2.2.2.2.2 1 := by omega
    refine aw_iload d_L_findName_10 rfl ?_
    refine aw_aloadV_n d_L_findName_12 rfl rfl (by first | exact Or.inl ⟨_, rfl⟩ | exact Or.inr rfl | exact rv_Q _) ?_
    refine aw_getE cl_L fl_L_66 (by decide) hR.obj rfl (congrArg Value.int hJ.sN) d_L_findName_13 ?_
    refine aw_icmp_ge (tgt := 57) d_L_findName_16 (by decide) (fun c16 => ?_) (fun c16 => ?_)
    · exact absurd c16 (nI_ge (by omega) (by omega))
    · refine aw_aloadV_n d_L_findName_19 rfl rfl (by first | exact Or.inl ⟨_, rfl⟩ | exact Or.inr rfl | exact rv_Q _) ?_
      refine aw_get cl_L fl_L_17 (by decide) hR.obj rfl d_L_findName_20 ?_
      refine aw_iload d_L_findName_23 rfl ?_
      refine aC_l2 hR rfl (show i < 2048 by omega) (hJ.rN hiN) d_L_findName_25 ?_
      refine aw_astoreV d_L_findName_26 (by decide) (by first | exact Or.inl ⟨_, rfl⟩ | exact Or.inr rfl | exact rv_Q _) (by dsimp only [List.set]) ?_
      refine aw_aloadV d_L_findName_28 rfl (by first | exact Or.inl ⟨_, rfl⟩ | exact Or.inr rfl | exact rv_Q _) ?_
      refine aw_get cl_Name fl_L_271 (by decide) (hR.name hiN) rfl d_L_findName_30 ?_
      refine aw_lload d_L_findName_33 rfl ?_
      refine aw_lcmp d_L_findName_35 ?_
      refine aw_if_ne (tgt := 51) d_L_findName_36 (by decide) (fun c36 => ?_) (fun c36 => ?_)
      · refine aw_iinc (v := nI (i + 1)) d_L_findName_51 rfl (ax_inc i) (by decide) (by dsimp only [List.set]) ?_
        refine aw_goto (tgt := 10) d_L_findName_54 (by decide) ?_
        refine ih (i + 1) _ (by omega) (fun q hq z => ?_)
        by_cases hqk : q = i
        · rw [hqk] at z; exact c36 ((lg_cmp_eq _ _).mpr z.1)
        · exact hno q (by omega) z
      · refine aw_aloadV d_L_findName_39 rfl (by first | exact Or.inl ⟨_, rfl⟩ | exact Or.inr rfl | exact rv_Q _) ?_
        refine aw_get cl_Name fl_L_275 (by decide) (hR.name hiN) rfl d_L_findName_41 ?_
        refine aw_iload_n d_L_findName_44 rfl rfl ?_
        refine aw_icmp_ne (tgt := 51) d_L_findName_45 (by decide) (fun c45 => ?_) (fun c45 => ?_)
        · refine aw_iinc (v := nI (i + 1)) d_L_findName_51 rfl (ax_inc i) (by decide) (by dsimp only [List.set]) ?_
          refine aw_goto (tgt := 10) d_L_findName_54 (by decide) ?_
          refine ih (i + 1) _ (by omega) (fun q hq z => ?_)
          by_cases hqk : q = i
          · rw [hqk] at z; exact c45 z.2
          · exact hno q (by omega) z
        · refine aw_aloadV d_L_findName_48 rfl (by first | exact Or.inl ⟨_, rfl⟩ | exact Or.inr rfl | exact rv_Q _) ?_
          refine aw_aret (r := some (c.2.2.2.2.1 1 i)) ?_ rfl (by first | exact Or.inl ⟨_, rfl⟩ | exact Or.inr ⟨_, rfl⟩) d_L_findName_50
          refine hy i hiN ⟨?_, c45⟩
          exact (lg_cmp_eq _ _).mp c36
set_option maxRecDepth 20000 in
theorem c_L_findName (G : ax_G) (h : ax_H) (o : Nat) (c : cSt) (hR : cR o c h) (s : mSt) (e : Nat → Nat → Nat) (U S W T : Nat) (hJ : cJ c s e U S W T) (hSb : S ≤ 2048) (w : Int64) (n : Int32) (hn8 : n ≤ 8) : AM G Y_L_findName 1 22 [.ref o, .long w, .int n] h (fun v h2 => h2 = h ∧ ((∃ i, i < c.2.2.2.2.2 1 ∧ (c.2.2.1 42 i = mCut w n ∧ c.2.1 29 i = n) ∧ v = some (.ref (c.2.2.2.2.1 1 i))) ∨ ((∀ i, i < c.2.2.2.2.2 1 → ¬ (c.2.2.1 42 i = mCut w n ∧ c.2.1 29 i = n)) ∧ v = some .null))) := by
  refine aw_enter (by decide) (Nat.le_of_ble_eq_true rfl) (n := 4) (ls := [some (.ref o), some (.long w), none, some (.int n), none, none, none, none]) rfl (fun x => ?_)
  refine aw_lload_n d_L_findName_0 rfl rfl ?_
  refine aw_iload_n d_L_findName_1 rfl rfl ?_
  refine aw_callS (c_L_nameWord G _ w n hn8) m_L_nameWord ml_L_147 rfl rfl (by decide) (by decide) (Nat.le_of_ble_eq_true rfl) d_L_findName_2 ?_
  rintro v h' ⟨rfl, rfl⟩
  refine aw_lstore d_L_findName_5 (by decide) (by dsimp only [List.set]) ?_
  refine aw_iconst (v := 0) d_L_findName_7 (by decide) ?_
  refine aw_istore d_L_findName_8 (by decide) (by dsimp only [List.set]) ?_
  exact l_L_findName hR s e U S W T hJ hSb w n (fun i hi z => ⟨rfl, Or.inl ⟨i, hi, z, rfl⟩⟩) (fun z => ⟨rfl, Or.inr ⟨z, rfl⟩⟩) (c.2.2.2.2.2 1) 0 none (by omega) (fun q hq => absurd hq (by omega))
set_option maxRecDepth 20000 in
theorem l_L_store {G : ax_G} {x : ax_X} {h0 : ax_H} {P : Option Value → ax_H → Prop} {h : ax_H} {b : Nat} {f : Nat → Int32} (hb : h.2.2 b = some (.inl (.byte, 262144, .inl f))) {a N : Nat} (w : Int64) (hN : N ≤ 65536) (ha : a + N ≤ 262144) (hp : P none (ax_set h b (.inl (.byte, 262144, .inl (mPutB f a w N))))) : ∀ r k, k + r = N → AW G x Y_L_storeLowestFirst 0 0 h0 P (ax_set h b (.inl (.byte, 262144, .inl (mPutB f a w k)))) 3 [some (.ref b), some (.int (nI a)), some (.long w), none, some (.int (nI N)), some (.int (nI k))] [] := by
  intro r
  induction r with
  | zero =>
    intro k hk
    have hkk : k = N := by omega
    subst hkk
    refine aw_iload d_L_storeLowestFirst_3 rfl ?_
    refine aw_iload d_L_storeLowestFirst_5 rfl ?_
    refine aw_icmp_ge (tgt := 31) d_L_storeLowestFirst_7 (by decide) (fun c7 => ?_) (fun c7 => ?_)
    · refine aw_vret ?_ rfl d_L_storeLowestFirst_31
      exact hp
    · exact absurd (nI_le (Nat.le_refl _) (by omega)) c7
  | succ r ih =>
    intro k hk
    refine aw_iload d_L_storeLowestFirst_3 rfl ?_
    refine aw_iload d_L_storeLowestFirst_5 rfl ?_
    refine aw_icmp_ge (tgt := 31) d_L_storeLowestFirst_7 (by decide) (fun c7 => ?_) (fun c7 => ?_)
    · exact absurd c7 (nI_ge (by omega) (by omega))
    · refine aw_aloadV_n d_L_storeLowestFirst_10 rfl rfl (by first | exact Or.inl ⟨_, rfl⟩ | exact Or.inr rfl | exact rv_Q _) ?_
      refine aw_iload_n d_L_storeLowestFirst_11 rfl rfl ?_
      refine aw_iload d_L_storeLowestFirst_12 rfl ?_
      refine aw_iadd d_L_storeLowestFirst_14 ?_
      refine aw_lload_n d_L_storeLowestFirst_15 rfl rfl ?_
      refine aw_bipush (v := 8) d_L_storeLowestFirst_16 (by decide) ?_
      refine aw_iload d_L_storeLowestFirst_18 rfl ?_
      refine aw_imul d_L_storeLowestFirst_20 ?_
      refine aw_lshr d_L_storeLowestFirst_21 ?_
      refine aw_l2i d_L_storeLowestFirst_22 ?_
      refine aw_i2b d_L_storeLowestFirst_23 ?_
      refine aw_bast (ax_get_self b _) (by rw [nI_add]; exact vp_in_nI (show a + k < 262144 by omega) (by decide)) d_L_storeLowestFirst_24 ?_
      refine aw_iinc (v := nI (k + 1)) d_L_storeLowestFirst_25 rfl (ax_inc k) (by decide) (by dsimp only [List.set]) ?_
      refine aw_goto (tgt := 3) d_L_storeLowestFirst_28 (by decide) ?_
      refine aw_heap ?_ (ih (k + 1) (by omega))
      rw [ax_set_set, nI_add, nI_clamp (by omega), ax_b8]
      rfl
theorem c_L_store (G : ax_G) (h : ax_H) {b : Nat} {f : Nat → Int32} (hb : h.2.2 b = some (.inl (.byte, 262144, .inl f))) {a N : Nat} (w : Int64) (hN : N ≤ 65536) (ha : a + N ≤ 262144) (z y : Int32) (hz : z = nI a) (hy : y = nI N) : AM G Y_L_storeLowestFirst 0 0 [.ref b, .int z, .long w, .int y] h (fun v h2 => v = none ∧ h2 = ax_set h b (.inl (.byte, 262144, .inl (mPutB f a w N)))) := by
  subst hz hy
  refine aw_enter (by decide) (Nat.le_of_ble_eq_true rfl) (n := 1) (ls := [some (.ref b), some (.int (nI a)), some (.long w), none, some (.int (nI N)), none]) rfl (fun x => ?_)
  refine aw_iconst (v := 0) d_L_storeLowestFirst_0 (by decide) ?_
  refine aw_istore d_L_storeLowestFirst_1 (by decide) (by dsimp only [List.set]) ?_
  refine aw_heap (ax_set_id (E := .inl (.byte, 262144, .inl f)) hb).symm ?_
  exact l_L_store hb w hN ha ⟨rfl, rfl⟩ N 0 (by omega)
set_option maxRecDepth 20000 in
theorem c_J_rangeCheck (G : ax_G) (h : ax_H) {a b n : Nat} (h1 : a ≤ b) (h2 : b ≤ n) (hn : n < 2 ^ 31) : AM G Y_JArrays_rangeCheck 0 0 [.int (nI n), .int (nI a), .int (nI b)] h (fun v h2 => v = none ∧ h2 = h) := by
  refine aw_enter (by decide) (Nat.le_of_ble_eq_true rfl) (n := 0) (ls := [some (.int (nI n)), some (.int (nI a)), some (.int (nI b))]) rfl (fun x => ?_)
  refine aw_iload_n d_JArrays_rangeCheck_0 rfl rfl ?_
  refine aw_iload_n d_JArrays_rangeCheck_1 rfl rfl ?_
  refine aw_icmp_le (tgt := 46) d_JArrays_rangeCheck_2 (by decide) (fun c2 => ?_) (fun c2 => ?_)
  · refine aw_iload_n d_JArrays_rangeCheck_46 rfl rfl ?_
    refine aw_if_ge (tgt := 59) d_JArrays_rangeCheck_47 (by decide) (fun c47 => ?_) (fun c47 => ?_)
    · refine aw_iload_n d_JArrays_rangeCheck_59 rfl rfl ?_
      refine aw_iload_n d_JArrays_rangeCheck_60 rfl rfl ?_
      refine aw_icmp_le (tgt := 73) d_JArrays_rangeCheck_61 (by decide) (fun c61 => ?_) (fun c61 => ?_)
      · refine aw_vret ?_ rfl d_JArrays_rangeCheck_73
        exact ⟨rfl, rfl⟩
      · exact absurd (nI_le h2 hn) c61
    · exact absurd (nI_pos' (by omega)) c47
  · exact absurd (nI_le h1 (by omega)) c2
set_option maxRecDepth 20000 in
theorem l_J_fill {G : ax_G} {x : ax_X} {h0 : ax_H} {P : Option Value → ax_H → Prop} {h : ax_H} {b : Nat} {f : Nat → Int32} (hb : h.2.2 b = some (.inl (.byte, 262144, .inl f))) {a N : Nat} (ha : a + N ≤ 262144) (hp : P none (ax_set h b (.inl (.byte, 262144, .inl (mZ f a N))))) : ∀ r k, k + r = N → AW G x Y_JArrays_fill 1 22 h0 P (ax_set h b (.inl (.byte, 262144, .inl (mZ f a k)))) 10 [some (.ref b), some (.int (nI a)), some (.int (nI (a + N))), some (.int 0), some (.int (nI (a + k)))] [] := by
  intro r
  induction r with
  | zero =>
    intro k hk
    have hkk : k = N := by omega
    subst hkk
    refine aw_iload d_JArrays_fill_10 rfl ?_
    refine aw_iload_n d_JArrays_fill_12 rfl rfl ?_
    refine aw_icmp_ge (tgt := 27) d_JArrays_fill_13 (by decide) (fun c13 => ?_) (fun c13 => ?_)
    · refine aw_vret ?_ rfl d_JArrays_fill_27
      exact hp
    · exact absurd (nI_le (Nat.le_refl _) (by omega)) c13
  | succ r ih =>
    intro k hk
    refine aw_iload d_JArrays_fill_10 rfl ?_
    refine aw_iload_n d_JArrays_fill_12 rfl rfl ?_
    refine aw_icmp_ge (tgt := 27) d_JArrays_fill_13 (by decide) (fun c13 => ?_) (fun c13 => ?_)
    · exact absurd c13 (nI_ge (by omega) (by omega))
    · refine aw_aloadV_n d_JArrays_fill_16 rfl rfl (by first | exact Or.inl ⟨_, rfl⟩ | exact Or.inr rfl | exact rv_Q _) ?_
      refine aw_iload d_JArrays_fill_17 rfl ?_
      refine aw_iload_n d_JArrays_fill_19 rfl rfl ?_
      refine aw_bast (ax_get_self b _) (vp_in_nI (show a + k < 262144 by omega) (by decide)) d_JArrays_fill_20 ?_
      refine aw_iinc (v := nI (a + (k + 1))) d_JArrays_fill_21 rfl (ax_inc (a + k)) (by decide) (by dsimp only [List.set]) ?_
      refine aw_goto (tgt := 10) d_JArrays_fill_24 (by decide) ?_
      refine aw_heap ?_ (ih (k + 1) (by omega))
      rw [ax_set_set, nI_clamp (by omega), show (0 : Int32).toInt8.toInt32 = 0 by decide, mZ_s]
theorem c_J_fill (G : ax_G) (h : ax_H) {b : Nat} {f : Nat → Int32} (hb : h.2.2 b = some (.inl (.byte, 262144, .inl f))) {a N : Nat} (ha : a + N ≤ 262144) (z y : Int32) (hz : z = nI a) (hy : y = nI (a + N)) : AM G Y_JArrays_fill 1 22 [.ref b, .int z, .int y, .int 0] h (fun v h2 => v = none ∧ h2 = ax_set h b (.inl (.byte, 262144, .inl (mZ f a N)))) := by
  subst hz hy
  refine aw_enter (by decide) (Nat.le_of_ble_eq_true rfl) (n := 1) (ls := [some (.ref b), some (.int (nI a)), some (.int (nI (a + N))), some (.int 0), none]) rfl (fun x => ?_)
  refine aw_aloadV_n d_JArrays_fill_0 rfl rfl (by first | exact Or.inl ⟨_, rfl⟩ | exact Or.inr rfl | exact rv_Q _) ?_
  refine aw_alen hb rfl d_JArrays_fill_1 ?_
  refine aw_iload_n d_JArrays_fill_2 rfl rfl ?_
  refine aw_iload_n d_JArrays_fill_3 rfl rfl ?_
  refine aw_callS (c_J_rangeCheck G _ (a := a) (b := a + N) (n := 262144) (by omega) (by omega) (by decide)) m_JArrays_rangeCheck ml_JArrays_13 rfl rfl (by decide) (by decide) (Nat.le_of_ble_eq_true rfl) d_JArrays_fill_4 ?_
  rintro v h' ⟨rfl, rfl⟩
  refine aw_iload_n d_JArrays_fill_7 rfl rfl ?_
  refine aw_istore d_JArrays_fill_8 (by decide) (by dsimp only [List.set]) ?_
  refine aw_heap (ax_set_id (E := .inl (.byte, 262144, .inl (mZ f a 0))) (hb.trans (by rw [mZ_0]))).symm ?_
  exact l_J_fill hb ha ⟨rfl, rfl⟩ N 0 (by omega)
set_option maxRecDepth 20000 in
theorem l_Image_row {G : ax_G} {x : ax_X} {h0 : ax_H} {P : Option Value → ax_H → Prop} {o : Nat} {c : cSt} {h : ax_H} (hR : cR o c h) {K : Nat} (hK : c.1 53 = nI K) (hKb : K ≤ 2048) (w : Int64) (n : Int32) (hy : ∀ i, i < K → mAddrL (c.2.1 12) (c.2.2.1 11) (c.2.1 13) w n 0 K = some (c.2.1 13 i) → P (some (.int (nI i))) h) (hn : mAddrL (c.2.1 12) (c.2.2.1 11) (c.2.1 13) w n 0 K = none → P (some (.int (-1))) h) : ∀ r i, i + r = K → mAddrL (c.2.1 12) (c.2.2.1 11) (c.2.1 13) w n 0 K = mAddrL (c.2.1 12) (c.2.2.1 11) (c.2.1 13) w n i r → AW G x Y_Image_rowOfName 0 0 h0 P h 3 [some (.ref (o + 8)), some (.long w), none, some (.int n), some (.int (nI i))] [] := by
  intro r
  induction r with
  | zero =>
    intro i hi he
    refine aw_iload d_Image_rowOfName_3 rfl ?_
    refine aw_aloadV_n d_Image_rowOfName_5 rfl rfl (by first | exact Or.inl ⟨_, rfl⟩ | exact Or.inr rfl | exact rv_Q _) ?_
    refine aw_getE cl_Image fl_Image_36 (by decide) hR.img rfl (congrArg Value.int hK) d_Image_rowOfName_6 ?_
    refine aw_icmp_ge (tgt := 44) d_Image_rowOfName_9 (by decide) (fun c9 => ?_) (fun c9 => ?_)
    · refine aw_iconst (v := (-1)) d_Image_rowOfName_44 (by decide) ?_
      refine aw_iret ?_ rfl d_Image_rowOfName_45
      exact hn (he.trans rfl)
    · exact absurd (nI_le (show K ≤ i by omega) (by omega)) c9
  | succ r ih =>
    intro i hi he
    refine aw_iload d_Image_rowOfName_3 rfl ?_
    refine aw_aloadV_n d_Image_rowOfName_5 rfl rfl (by first | exact Or.inl ⟨_, rfl⟩ | exact Or.inr rfl | exact rv_Q _) ?_
    refine aw_getE cl_Image fl_Image_36 (by decide) hR.img rfl (congrArg Value.int hK) d_Image_rowOfName_6 ?_
    refine aw_icmp_ge (tgt := 44) d_Image_rowOfName_9 (by decide) (fun c9 => ?_) (fun c9 => ?_)
    · exact absurd c9 (nI_ge (by omega) (by omega))
    · refine aw_aloadV_n d_Image_rowOfName_12 rfl rfl (by first | exact Or.inl ⟨_, rfl⟩ | exact Or.inr rfl | exact rv_Q _) ?_
      refine aw_get cl_Image fl_Image_20 (by decide) hR.img rfl d_Image_rowOfName_13 ?_
      refine aw_iload d_Image_rowOfName_16 rfl ?_
      refine aC_l11 hR rfl (show i < 2048 by omega) d_Image_rowOfName_18 ?_
      refine aw_lload_n d_Image_rowOfName_19 rfl rfl ?_
      refine aw_lcmp d_Image_rowOfName_20 ?_
      refine aw_if_ne (tgt := 38) d_Image_rowOfName_21 (by decide) (fun c21 => ?_) (fun c21 => ?_)
      · refine aw_iinc (v := nI (i + 1)) d_Image_rowOfName_38 rfl (ax_inc i) (by decide) (by dsimp only [List.set]) ?_
        refine aw_goto (tgt := 3) d_Image_rowOfName_41 (by decide) ?_
        refine ih (i + 1) (by omega) (he.trans ?_)
        rw [mAddrL, if_neg (fun z => c21 ((lg_cmp_eq _ _).mpr z.2))]
      · refine aw_aloadV_n d_Image_rowOfName_24 rfl rfl (by first | exact Or.inl ⟨_, rfl⟩ | exact Or.inr rfl | exact rv_Q _) ?_
        refine aw_get cl_Image fl_Image_24 (by decide) hR.img rfl d_Image_rowOfName_25 ?_
        refine aw_iload d_Image_rowOfName_28 rfl ?_
        refine aC_l12 hR rfl (show i < 2048 by omega) d_Image_rowOfName_30 ?_
        refine aw_iload_n d_Image_rowOfName_31 rfl rfl ?_
        refine aw_icmp_ne (tgt := 38) d_Image_rowOfName_32 (by decide) (fun c32 => ?_) (fun c32 => ?_)
        · refine aw_iinc (v := nI (i + 1)) d_Image_rowOfName_38 rfl (ax_inc i) (by decide) (by dsimp only [List.set]) ?_
          refine aw_goto (tgt := 3) d_Image_rowOfName_41 (by decide) ?_
          refine ih (i + 1) (by omega) (he.trans ?_)
          rw [mAddrL, if_neg (fun z => c32 z.1)]
        · refine aw_iload d_Image_rowOfName_35 rfl ?_
          refine aw_iret ?_ rfl d_Image_rowOfName_37
          refine hy i (by omega) (he.trans ?_)
          rw [mAddrL, if_pos ⟨c32, (lg_cmp_eq _ _).mp c21⟩]
set_option maxRecDepth 20000 in
theorem c_Image_rowOfName (G : ax_G) (h : ax_H) (o : Nat) (c : cSt) (hR : cR o c h) {K : Nat} (hK : c.1 53 = nI K) (hKb : K ≤ 2048) (w : Int64) (n : Int32) : AM G Y_Image_rowOfName 0 0 [.ref (o + 8), .long w, .int n] h (fun v h2 => h2 = h ∧ ((∃ i, i < K ∧ mAddrL (c.2.1 12) (c.2.2.1 11) (c.2.1 13) w n 0 K = some (c.2.1 13 i) ∧ v = some (.int (nI i))) ∨ (mAddrL (c.2.1 12) (c.2.2.1 11) (c.2.1 13) w n 0 K = none ∧ v = some (.int (-1))))) := by
  refine aw_enter (by decide) (Nat.le_of_ble_eq_true rfl) (n := 1) (ls := [some (.ref (o + 8)), some (.long w), none, some (.int n), none]) rfl (fun x => ?_)
  refine aw_iconst (v := 0) d_Image_rowOfName_0 (by decide) ?_
  refine aw_istore d_Image_rowOfName_1 (by decide) (by dsimp only [List.set]) ?_
  exact l_Image_row hR hK hKb w n (fun i hi z => ⟨rfl, Or.inl ⟨i, hi, z, rfl⟩⟩) (fun z => ⟨rfl, Or.inr ⟨z, rfl⟩⟩) K 0 (by omega) rfl
