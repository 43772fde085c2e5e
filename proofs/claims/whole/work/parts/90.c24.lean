theorem mMeant_none {tk : Nat → Int32} {g : mTab} {w : Int64} {n : Int32} (hS : g.2.2.2.2.2 ≤ 2048) (h : ∀ k, k < g.2.2.2.2.2 → ¬ mHit tk g w n k) : mMeant tk g w n = -1 := by
  have e1 : mFind (fun k => mHit tk g w n k ∧ mGlob g k) g.2.2.2.2.2 0 = none := (mFind_none _ _).mpr (fun i _ i2 q => h i (by omega) q.1)
  have e2 : mFind (fun k => mHit tk g w n k ∧ mWeak g k) g.2.2.2.2.2 0 = none := (mFind_none _ _).mpr (fun i _ i2 q => h i (by omega) q.1)
  rw [mMeant, mMeantL_find tk _ _ _ _ 0 (-1) (by omega), e1, e2]
  rfl
theorem cJ.twin {o : Nat} {c : cSt} {s : mSt} {e : Nat → Nat → Nat} {U S W T : Nat} {h : ax_H} (hJ : cJ c s e U S W T) (hR : cR o c h) (hSb : S ≤ 2048) {tk : Nat → Int32} (hB : cBk s e S c.2.2.2.2 tk c.2.2.2.1 S) {k : Nat} (hk : k < S) (ht : ¬ tk (e 11 k) = 0) (hg : mGlob (mT s e S) k) : c.2.2.2.1 44 (c.2.2.2.2.1 5 k) = some (c.2.2.2.2.1 2 k) ↔ mMeant tk (mT s e S) (s.2.2 9 k) (s.2.1 10 k) = nI k := by
  have h5 := hR.1.2.2.2.1 k (hJ.hk hk)
  have hm := hJ.meant hR hSb tk h5
  rw [hJ.word hk, hJ.len hk] at hm
  rw [hm, (hB _ h5).1]
  cases e1 : mFind (cGl s e S c.2.2.2.2 tk (c.2.2.2.2.1 5 k)) S 0 with
  | none => exact absurd ⟨⟨ht, rfl⟩, hg⟩ ((mFind_none _ _).mp e1 k (Nat.zero_le _) (by omega))
  | some j =>
    obtain ⟨b1, b2, b3, -⟩ := mFind_some _ _ _ e1
    constructor
    · intro q
      have q : c.2.2.2.2.1 2 j = c.2.2.2.2.1 2 k := Option.some.inj q
      have := (hR.1.1 20 j 20 k ⟨by decide, hJ.hk (by omega)⟩ ⟨by decide, hJ.hk hk⟩ q).2
      rw [this]
    · intro q
      have q : nI j = nI k := q
      have := (nI_eq (by omega) (by omega)).mp q
      rw [this]
      rfl
set_option maxRecDepth 20000 in
theorem c_L_entryLabel (G : ax_G) (h : ax_H) (o : Nat) (c : cSt) (hR : cR o c h) (s : mSt) (e : Nat → Nat → Nat) (U S W T : Nat) (hJ : cJ c s e U S W T) (hSb : S ≤ 2048) (tk : Nat → Int32) (hB : cBk s e S c.2.2.2.2 tk c.2.2.2.1 S) : AM G Y_L_entryLabel 2 49 [.ref o] h (fun v h2 => h2 = h ∧ ((∃ j, j < S ∧ mMeant tk (mT s e S) 495873782388 5 = nI j ∧ mGlob (mT s e S) j ∧ v = some (.ref (c.2.2.2.2.1 2 j))) ∨ (¬ (0 ≤ mMeant tk (mT s e S) 495873782388 5 ∧ mGlob (mT s e S) (iN (mMeant tk (mT s e S) 495873782388 5))) ∧ v = some .null))) := by
  have ec : mCut 495873782388 5 = 495873782388 := by decide +kernel
  refine aw_enter (by decide) (Nat.le_of_ble_eq_true rfl) (n := 1) (ls := [some (.ref o), none]) rfl (fun x => ?_)
  by_cases hf : ∃ i, i < c.2.2.2.2.2 1 ∧ (c.2.2.1 42 i = mCut 495873782388 5 ∧ c.2.1 29 i = 5)
  · obtain ⟨i, hi, hw⟩ := hf
    have hm := hJ.meant hR hSb tk hi
    rw [hw.1, hw.2, ec] at hm
    have h44 := (hB i hi).1
    have h44 : c.2.2.2.1 44 i = (mFind (cGl s e S c.2.2.2.2 tk i) S 0).map (c.2.2.2.2.1 2) := h44
    cases e1 : mFind (cGl s e S c.2.2.2.2 tk i) S 0 with
    | some j =>
      obtain ⟨b1, b2, b3, -⟩ := mFind_some _ _ _ e1
      rw [e1] at hm h44
      refine aw_aloadV_n d_L_entryLabel_0 rfl rfl (by first | exact Or.inl ⟨_, rfl⟩ | exact Or.inr rfl | exact rv_Q _) ?_
      refine aw_ldc2 kc_L_281 d_L_entryLabel_1 ?_
      refine aw_iconst (v := 5) d_L_entryLabel_4 (by decide) ?_
      refine aw_callV (c_L_findName1 G _ o c hR s e U S W T hJ hSb 495873782388 5 (by decide) hi hw) cl_L hR.obj m_L_findName ml_L_139 rfl rfl (by decide) (by decide) (Nat.le_of_ble_eq_true rfl) d_L_entryLabel_5 ?_
      rintro v h ⟨rfl, rfl⟩
      refine aw_astoreV_n d_L_entryLabel_8 rfl (by decide) (by first | exact Or.inl ⟨_, rfl⟩ | exact Or.inr rfl | exact rv_Q _) (by dsimp only [List.set]) ?_
      refine aw_aloadV_n d_L_entryLabel_9 rfl rfl (by first | exact Or.inl ⟨_, rfl⟩ | exact Or.inr rfl | exact rv_Q _) ?_
      refine aw_ifnonnull (tgt := 17) d_L_entryLabel_10 (by decide) ?_
      refine aw_aloadV_n d_L_entryLabel_17 rfl rfl (by first | exact Or.inl ⟨_, rfl⟩ | exact Or.inr rfl | exact rv_Q _) ?_
      refine aw_getE cl_Name fl_L_283 (by decide) (hR.name hi) rfl (show _ = va_rf (some (c.2.2.2.2.1 2 j)) from congrArg va_rf h44) d_L_entryLabel_18 ?_
      refine aw_aret (r := some (c.2.2.2.2.1 2 j)) ?_ rfl (by first | exact Or.inl ⟨_, rfl⟩ | exact Or.inr ⟨_, rfl⟩) d_L_entryLabel_21
      exact ⟨rfl, Or.inl ⟨j, by omega, hm, b3.2, rfl⟩⟩
    | none =>
      rw [e1] at hm h44
      have hno : ¬ (0 ≤ mMeant tk (mT s e S) 495873782388 5 ∧ mGlob (mT s e S) (iN (mMeant tk (mT s e S) 495873782388 5))) := by
        rw [hm]
        cases e2 : mFind (cWk s e S c.2.2.2.2 tk i) S 0 with
        | none => exact fun q => absurd q.1 (by decide)
        | some j =>
          obtain ⟨b1, b2, b3, -⟩ := mFind_some _ _ _ e2
          rintro ⟨-, q⟩
          have q : mGlob (mT s e S) (iN (nI j)) := q
          rw [iN, nI_clamp (by omega)] at q
          exact absurd b3.2.2 (by rw [q.2]; decide)
      refine aw_aloadV_n d_L_entryLabel_0 rfl rfl (by first | exact Or.inl ⟨_, rfl⟩ | exact Or.inr rfl | exact rv_Q _) ?_
      refine aw_ldc2 kc_L_281 d_L_entryLabel_1 ?_
      refine aw_iconst (v := 5) d_L_entryLabel_4 (by decide) ?_
      refine aw_callV (c_L_findName1 G _ o c hR s e U S W T hJ hSb 495873782388 5 (by decide) hi hw) cl_L hR.obj m_L_findName ml_L_139 rfl rfl (by decide) (by decide) (Nat.le_of_ble_eq_true rfl) d_L_entryLabel_5 ?_
      rintro v h ⟨rfl, rfl⟩
      refine aw_astoreV_n d_L_entryLabel_8 rfl (by decide) (by first | exact Or.inl ⟨_, rfl⟩ | exact Or.inr rfl | exact rv_Q _) (by dsimp only [List.set]) ?_
      refine aw_aloadV_n d_L_entryLabel_9 rfl rfl (by first | exact Or.inl ⟨_, rfl⟩ | exact Or.inr rfl | exact rv_Q _) ?_
      refine aw_ifnonnull (tgt := 17) d_L_entryLabel_10 (by decide) ?_
      refine aw_aloadV_n d_L_entryLabel_17 rfl rfl (by first | exact Or.inl ⟨_, rfl⟩ | exact Or.inr rfl | exact rv_Q _) ?_
      refine aw_getE cl_Name fl_L_283 (by decide) (hR.name hi) rfl (show _ = va_rf none from congrArg va_rf h44) d_L_entryLabel_18 ?_
      refine aw_aret (r := none) ?_ rfl (by first | exact Or.inl ⟨_, rfl⟩ | exact Or.inr ⟨_, rfl⟩) d_L_entryLabel_21
      exact ⟨rfl, Or.inr ⟨hno, rfl⟩⟩
  · have hnx : ∀ i, i < c.2.2.2.2.2 1 → ¬ (c.2.2.1 42 i = mCut 495873782388 5 ∧ c.2.1 29 i = 5) := fun i hi q => hf ⟨i, hi, q⟩
    have hm : mMeant tk (mT s e S) 495873782388 5 = -1 := mMeant_none hSb (fun k hk q => hnx _ (hR.1.2.2.2.1 k (hJ.hk hk)) ⟨by rw [hJ.word hk, ec]; exact q.2.2, by rw [hJ.len hk]; exact q.2.1⟩)
    refine aw_aloadV_n d_L_entryLabel_0 rfl rfl (by first | exact Or.inl ⟨_, rfl⟩ | exact Or.inr rfl | exact rv_Q _) ?_
    refine aw_ldc2 kc_L_281 d_L_entryLabel_1 ?_
    refine aw_iconst (v := 5) d_L_entryLabel_4 (by decide) ?_
    refine aw_callV (c_L_findName0 G _ o c hR s e U S W T hJ hSb 495873782388 5 (by decide) hnx) cl_L hR.obj m_L_findName ml_L_139 rfl rfl (by decide) (by decide) (Nat.le_of_ble_eq_true rfl) d_L_entryLabel_5 ?_
    rintro v h ⟨rfl, rfl⟩
    refine aw_astoreV_n d_L_entryLabel_8 rfl (by decide) (by first | exact Or.inl ⟨_, rfl⟩ | exact Or.inr rfl | exact rv_Q _) (by dsimp only [List.set]) ?_
    refine aw_aloadV_n d_L_entryLabel_9 rfl rfl (by first | exact Or.inl ⟨_, rfl⟩ | exact Or.inr rfl | exact rv_Q _) ?_
    refine aw_ifnonnullN d_L_entryLabel_10 ?_
    refine aw_null d_L_entryLabel_13 ?_
    refine aw_goto (tgt := 21) d_L_entryLabel_14 (by decide) ?_
    refine aw_aret (r := none) ?_ rfl (by first | exact Or.inl ⟨_, rfl⟩ | exact Or.inr ⟨_, rfl⟩) d_L_entryLabel_21
    exact ⟨rfl, Or.inr ⟨by rw [hm]; exact fun q => absurd q.1 (by decide), rfl⟩⟩
set_option maxRecDepth 20000 in
theorem l_Unit_least {G : ax_G} {x : ax_X} {h0 : ax_H} {P : Option Value → ax_H → Prop} {o : Nat} {c : cSt} {h : ax_H} (hR : cR o c h) (s : mSt) (e : Nat → Nat → Nat) (U S W T : Nat) (hJ : cJ c s e U S W T) (hSb : S ≤ 2048) {u : Nat} (hu : u < U) (tk : Nat → Int32) (hB : cBk s e S c.2.2.2.2 tk c.2.2.2.1 S) (htu : ¬ tk u = 0) (hp : ∀ z, ((z = -1 ∧ ∀ i, e 16 u ≤ i → i < cEnd e U S u → ¬ mTwin tk (mT s e S) i) ∨ (∃ j, e 16 u ≤ j ∧ j < cEnd e U S u ∧ mTwin tk (mT s e S) j ∧ z = s.2.1 15 j ∧ ∀ i, e 16 u ≤ i → i < cEnd e U S u → mTwin tk (mT s e S) i → s.2.1 15 j ≤ s.2.1 15 i)) → P (some (.int z)) h) : ∀ r k z o3 o4, k + r = cEnd e U S u → e 16 u ≤ k → ((z = -1 ∧ ∀ i, e 16 u ≤ i → i < k → ¬ mTwin tk (mT s e S) i) ∨ (∃ j, e 16 u ≤ j ∧ j < k ∧ mTwin tk (mT s e S) j ∧ z = s.2.1 15 j ∧ ∀ i, e 16 u ≤ i → i < k → mTwin tk (mT s e S) i → s.2.1 15 j ≤ s.2.1 15 i)) → AW G x Y_Unit_leastLineOfSecondGlobals 1 20 h0 P h 7 [some (.ref (c.2.2.2.2.1 0 u)), some (.int z), some (.int (nI k)), o3, o4] [] := by
  have ee := hJ.ee hu
  intro r
  induction r with
  | zero =>
    intro k z o3 o4 hk hb hz
    have hkk : k = cEnd e U S u := by omega
    subst hkk
    refine aw_iload_n d_Unit_leastLineOfSecondGlobals_7 rfl rfl ?_
    refine aw_aloadV_n d_Unit_leastLineOfSecondGlobals_8 rfl rfl (by first | exact Or.inl ⟨_, rfl⟩ | exact Or.inr rfl | exact rv_Q _) ?_
    refine aw_getE cl_Unit fl_Unit_32 (by decide) (hR.unit (hJ.hu hu)) rfl (congrArg Value.int (hJ.end hu)) d_Unit_leastLineOfSecondGlobals_9 ?_
    refine aw_icmp_ge (tgt := 76) d_Unit_leastLineOfSecondGlobals_12 (by decide) (fun c12 => ?_) (fun c12 => ?_)
    · refine aw_iload_n d_Unit_leastLineOfSecondGlobals_76 rfl rfl ?_
      refine aw_iret ?_ rfl d_Unit_leastLineOfSecondGlobals_77
      exact hp z hz
    · exact absurd (nI_le (Nat.le_refl _) (by omega)) c12
  | succ r ih =>
    intro k z o3 o4 hk hb hz
    have hkS : k < S := by omega
    have hn := hR.1.2.2.2.1 k (hJ.hk hkS)
    have eu := (hJ.ord hkS u hu).mpr ⟨hb, by omega⟩
    have htk : ¬ tk (e 11 k) = 0 := by rw [eu]; exact htu
    have keep : ¬ mTwin tk (mT s e S) k → ((z = -1 ∧ ∀ i, e 16 u ≤ i → i < k + 1 → ¬ mTwin tk (mT s e S) i) ∨ (∃ j, e 16 u ≤ j ∧ j < k + 1 ∧ mTwin tk (mT s e S) j ∧ z = s.2.1 15 j ∧ ∀ i, e 16 u ≤ i → i < k + 1 → mTwin tk (mT s e S) i → s.2.1 15 j ≤ s.2.1 15 i)) := by
      intro q
      rcases hz with ⟨a1, a2⟩ | ⟨j, a1, a2, a3, a4, a5⟩
      · refine Or.inl ⟨a1, fun i i1 i2 => ?_⟩
        by_cases ei : i = k
        · rw [ei]; exact q
        · exact a2 i i1 (by omega)
      · refine Or.inr ⟨j, a1, by omega, a3, a4, fun i i1 i2 i3 => ?_⟩
        by_cases ei : i = k
        · rw [ei] at i3; exact absurd i3 q
        · exact a5 i i1 (by omega) i3
    refine aw_iload_n d_Unit_leastLineOfSecondGlobals_7 rfl rfl ?_
    refine aw_aloadV_n d_Unit_leastLineOfSecondGlobals_8 rfl rfl (by first | exact Or.inl ⟨_, rfl⟩ | exact Or.inr rfl | exact rv_Q _) ?_
    refine aw_getE cl_Unit fl_Unit_32 (by decide) (hR.unit (hJ.hu hu)) rfl (congrArg Value.int (hJ.end hu)) d_Unit_leastLineOfSecondGlobals_9 ?_
    refine aw_icmp_ge (tgt := 76) d_Unit_leastLineOfSecondGlobals_12 (by decide) (fun c12 => ?_) (fun c12 => ?_)
    · exact absurd c12 (nI_ge (by omega) (by omega))
    · refine aw_aloadV_n d_Unit_leastLineOfSecondGlobals_15 rfl rfl (by first | exact Or.inl ⟨_, rfl⟩ | exact Or.inr rfl | exact rv_Q _) ?_
      refine aw_get cl_Unit fl_Unit_25 (by decide) (hR.unit (hJ.hu hu)) rfl d_Unit_leastLineOfSecondGlobals_16 ?_
      refine aw_iload_n d_Unit_leastLineOfSecondGlobals_19 rfl rfl ?_
      refine aC_l3 hR rfl (show k < 2048 by omega) (hJ.rS hkS) d_Unit_leastLineOfSecondGlobals_20 ?_
      refine aw_astoreV_n d_Unit_leastLineOfSecondGlobals_21 rfl (by decide) (by first | exact Or.inl ⟨_, rfl⟩ | exact Or.inr rfl | exact rv_Q _) (by dsimp only [List.set]) ?_
      refine aw_aloadV_n d_Unit_leastLineOfSecondGlobals_22 rfl rfl (by first | exact Or.inl ⟨_, rfl⟩ | exact Or.inr rfl | exact rv_Q _) ?_
      refine aw_callV (c_Symbol_isGlobalLabel G _ o _ hR s e U S W T hJ hkS) cl_Symbol (hR.sym (hJ.hk hkS)) m_Symbol_isGlobalLabel ml_Unit_63 rfl rfl (by decide) (by decide) (Nat.le_of_ble_eq_true rfl) d_Unit_leastLineOfSecondGlobals_23 ?_
      rintro v h ⟨rfl, rfl⟩
      refine aw_if_eq (tgt := 44) d_Unit_leastLineOfSecondGlobals_26 (by decide) (fun c26 => ?_) (fun c26 => ?_)
      · refine aw_iconst (v := 0) d_Unit_leastLineOfSecondGlobals_44 (by decide) ?_
        refine aw_istore d_Unit_leastLineOfSecondGlobals_45 (by decide) (by dsimp only [List.set]) ?_
        refine aw_iload d_Unit_leastLineOfSecondGlobals_47 rfl ?_
        refine aw_if_eq (tgt := 70) d_Unit_leastLineOfSecondGlobals_49 (by decide) (fun c49 => ?_) (fun c49 => ?_)
        · refine aw_iinc (v := nI (k + 1)) d_Unit_leastLineOfSecondGlobals_70 rfl (ax_inc k) (by decide) (by dsimp only [List.set]) ?_
          refine aw_goto (tgt := 7) d_Unit_leastLineOfSecondGlobals_73 (by decide) ?_
          exact ih (k + 1) z _ _ (by omega) (by omega) (keep (fun q => zP_f c26 q.2.1))
        · exact absurd rfl c49
      · refine aw_aloadV_n d_Unit_leastLineOfSecondGlobals_29 rfl rfl (by first | exact Or.inl ⟨_, rfl⟩ | exact Or.inr rfl | exact rv_Q _) ?_
        refine aw_get cl_Symbol fl_Unit_38 (by decide) (hR.sym (hJ.hk hkS)) rfl d_Unit_leastLineOfSecondGlobals_30 ?_
        refine aw_get cl_Name fl_Unit_66 (by decide) (hR.name hn) rfl d_Unit_leastLineOfSecondGlobals_33 ?_
        refine aw_aloadV_n d_Unit_leastLineOfSecondGlobals_36 rfl rfl (by first | exact Or.inl ⟨_, rfl⟩ | exact Or.inr rfl | exact rv_Q _) ?_
        refine aw_acmp_eq (r1 := c.2.2.2.1 44 (c.2.2.2.2.1 5 k)) (r2 := some (c.2.2.2.2.1 2 k)) (tgt := 44) d_Unit_leastLineOfSecondGlobals_37 (by decide) (fun c37 => ?_) (fun c37 => ?_)
        · refine aw_iconst (v := 0) d_Unit_leastLineOfSecondGlobals_44 (by decide) ?_
          refine aw_istore d_Unit_leastLineOfSecondGlobals_45 (by decide) (by dsimp only [List.set]) ?_
          refine aw_iload d_Unit_leastLineOfSecondGlobals_47 rfl ?_
          refine aw_if_eq (tgt := 70) d_Unit_leastLineOfSecondGlobals_49 (by decide) (fun c49 => ?_) (fun c49 => ?_)
          · refine aw_iinc (v := nI (k + 1)) d_Unit_leastLineOfSecondGlobals_70 rfl (ax_inc k) (by decide) (by dsimp only [List.set]) ?_
            refine aw_goto (tgt := 7) d_Unit_leastLineOfSecondGlobals_73 (by decide) ?_
            exact ih (k + 1) z _ _ (by omega) (by omega) (keep (fun q => q.2.2 ((hJ.twin hR hSb hB hkS htk (zP_t c26)).mp c37)))
          · exact absurd rfl c49
        · refine aw_iconst (v := 1) d_Unit_leastLineOfSecondGlobals_40 (by decide) ?_
          refine aw_goto (tgt := 45) d_Unit_leastLineOfSecondGlobals_41 (by decide) ?_
          refine aw_istore d_Unit_leastLineOfSecondGlobals_45 (by decide) (by dsimp only [List.set]) ?_
          refine aw_iload d_Unit_leastLineOfSecondGlobals_47 rfl ?_
          refine aw_if_eq (tgt := 70) d_Unit_leastLineOfSecondGlobals_49 (by decide) (fun c49 => ?_) (fun c49 => ?_)
          · exact absurd c49 (by decide)
          · refine aw_iload_n d_Unit_leastLineOfSecondGlobals_52 rfl rfl ?_
            refine aw_iconst (v := (-1)) d_Unit_leastLineOfSecondGlobals_53 (by decide) ?_
            refine aw_icmp_eq (tgt := 65) d_Unit_leastLineOfSecondGlobals_54 (by decide) (fun c54 => ?_) (fun c54 => ?_)
            · refine aw_aloadV_n d_Unit_leastLineOfSecondGlobals_65 rfl rfl (by first | exact Or.inl ⟨_, rfl⟩ | exact Or.inr rfl | exact rv_Q _) ?_
              refine aw_getE cl_Symbol fl_Unit_70 (by decide) (hR.sym (hJ.hk hkS)) rfl (congrArg Value.int (hJ.line hkS)) d_Unit_leastLineOfSecondGlobals_66 ?_
              refine aw_istore_n d_Unit_leastLineOfSecondGlobals_69 rfl (by decide) (by dsimp only [List.set]) ?_
              refine aw_iinc (v := nI (k + 1)) d_Unit_leastLineOfSecondGlobals_70 rfl (ax_inc k) (by decide) (by dsimp only [List.set]) ?_
              refine aw_goto (tgt := 7) d_Unit_leastLineOfSecondGlobals_73 (by decide) ?_
              have tw : mTwin tk (mT s e S) k := ⟨htk, zP_t c26, fun q => c37 ((hJ.twin hR hSb hB hkS htk (zP_t c26)).mpr q)⟩
              refine ih (k + 1) _ _ _ (by omega) (by omega) (Or.inr ⟨k, hb, by omega, tw, rfl, fun i i1 i2 i3 => ?_⟩)
              rcases hz with ⟨a1, a2⟩ | ⟨j, a1, a2, a3, a4, a5⟩
              · by_cases ei : i = k
                · rw [ei]; exact Int32.le_refl _
                · exact absurd i3 (a2 i i1 (by omega))
              · rw [c54] at a4
                exact absurd (hJ.ln0 (j := j) (by omega)) (by rw [← a4]; decide)
            · refine aw_aloadV_n d_Unit_leastLineOfSecondGlobals_57 rfl rfl (by first | exact Or.inl ⟨_, rfl⟩ | exact Or.inr rfl | exact rv_Q _) ?_
              refine aw_getE cl_Symbol fl_Unit_70 (by decide) (hR.sym (hJ.hk hkS)) rfl (congrArg Value.int (hJ.line hkS)) d_Unit_leastLineOfSecondGlobals_58 ?_
              refine aw_iload_n d_Unit_leastLineOfSecondGlobals_61 rfl rfl ?_
              refine aw_icmp_ge (tgt := 70) d_Unit_leastLineOfSecondGlobals_62 (by decide) (fun c62 => ?_) (fun c62 => ?_)
              · refine aw_iinc (v := nI (k + 1)) d_Unit_leastLineOfSecondGlobals_70 rfl (ax_inc k) (by decide) (by dsimp only [List.set]) ?_
                refine aw_goto (tgt := 7) d_Unit_leastLineOfSecondGlobals_73 (by decide) ?_
                have tw : mTwin tk (mT s e S) k := ⟨htk, zP_t c26, fun q => c37 ((hJ.twin hR hSb hB hkS htk (zP_t c26)).mpr q)⟩
                refine ih (k + 1) z _ _ (by omega) (by omega) (hz.elim (fun a => absurd a.1 c54) (fun ⟨j, a1, a2, a3, a4, a5⟩ => Or.inr ⟨j, a1, by omega, a3, a4, fun i i1 i2 i3 => ?_⟩))
                by_cases ei : i = k
                · rw [ei, ← a4]; exact c62
                · exact a5 i i1 (by omega) i3
              · refine aw_aloadV_n d_Unit_leastLineOfSecondGlobals_65 rfl rfl (by first | exact Or.inl ⟨_, rfl⟩ | exact Or.inr rfl | exact rv_Q _) ?_
                refine aw_getE cl_Symbol fl_Unit_70 (by decide) (hR.sym (hJ.hk hkS)) rfl (congrArg Value.int (hJ.line hkS)) d_Unit_leastLineOfSecondGlobals_66 ?_
                refine aw_istore_n d_Unit_leastLineOfSecondGlobals_69 rfl (by decide) (by dsimp only [List.set]) ?_
                refine aw_iinc (v := nI (k + 1)) d_Unit_leastLineOfSecondGlobals_70 rfl (ax_inc k) (by decide) (by dsimp only [List.set]) ?_
                refine aw_goto (tgt := 7) d_Unit_leastLineOfSecondGlobals_73 (by decide) ?_
                have tw : mTwin tk (mT s e S) k := ⟨htk, zP_t c26, fun q => c37 ((hJ.twin hR hSb hB hkS htk (zP_t c26)).mpr q)⟩
                refine ih (k + 1) _ _ _ (by omega) (by omega) (hz.elim (fun a => absurd a.1 c54) (fun ⟨j, a1, a2, a3, a4, a5⟩ => Or.inr ⟨k, hb, by omega, tw, rfl, fun i i1 i2 i3 => ?_⟩))
                by_cases ei : i = k
                · rw [ei]; exact Int32.le_refl _
                · rw [a4] at c62
                  exact Int32.le_trans (Int32.le_of_lt (Int32.not_le.mp c62)) (a5 i i1 (by omega) i3)
set_option maxRecDepth 20000 in
theorem c_Unit_least (G : ax_G) (h : ax_H) (o : Nat) (c : cSt) (hR : cR o c h) (s : mSt) (e : Nat → Nat → Nat) (U S W T : Nat) (hJ : cJ c s e U S W T) (hSb : S ≤ 2048) {u : Nat} (hu : u < U) (tk : Nat → Int32) (hB : cBk s e S c.2.2.2.2 tk c.2.2.2.1 S) (htu : ¬ tk u = 0) : AM G Y_Unit_leastLineOfSecondGlobals 1 20 [.ref (c.2.2.2.2.1 0 u)] h (fun v h2 => h2 = h ∧ ∃ z, v = some (.int z) ∧ ((z = -1 ∧ ∀ i, e 16 u ≤ i → i < cEnd e U S u → ¬ mTwin tk (mT s e S) i) ∨ (∃ j, e 16 u ≤ j ∧ j < cEnd e U S u ∧ mTwin tk (mT s e S) j ∧ z = s.2.1 15 j ∧ ∀ i, e 16 u ≤ i → i < cEnd e U S u → mTwin tk (mT s e S) i → s.2.1 15 j ≤ s.2.1 15 i))) := by
  refine aw_enter (by decide) (Nat.le_of_ble_eq_true rfl) (n := 4) (ls := [some (.ref (c.2.2.2.2.1 0 u)), none, none, none, none]) rfl (fun x => ?_)
  refine aw_iconst (v := (-1)) d_Unit_leastLineOfSecondGlobals_0 (by decide) ?_
  refine aw_istore_n d_Unit_leastLineOfSecondGlobals_1 rfl (by decide) (by dsimp only [List.set]) ?_
  refine aw_aloadV_n d_Unit_leastLineOfSecondGlobals_2 rfl rfl (by first | exact Or.inl ⟨_, rfl⟩ | exact Or.inr rfl | exact rv_Q _) ?_
  refine aw_getE cl_Unit fl_Unit_29 (by decide) (hR.unit (hJ.hu hu)) rfl (congrArg Value.int (hJ.beg hu)) d_Unit_leastLineOfSecondGlobals_3 ?_
  refine aw_istore_n d_Unit_leastLineOfSecondGlobals_6 rfl (by decide) (by dsimp only [List.set]) ?_
  have eb := hJ.eb hu
  exact l_Unit_least hR s e U S W T hJ hSb hu tk hB htu (fun z hz => ⟨rfl, z, rfl, hz⟩) (cEnd e U S u - e 16 u) (e 16 u) (-1) _ _ (by omega) (Nat.le_refl _) (Or.inl ⟨rfl, fun k k1 k2 => absurd k2 (by omega)⟩)
set_option maxRecDepth 20000 in
theorem c_Fault_tell (G : ax_G) (h : ax_H) (o : Nat) (c : cSt) (hR : cR o c h) (k l u : Int32) : AM G Y_Fault_tell 0 0 [.ref (o + 7), .int k, .int l, .int u] h (fun v h2 => v = none ∧ cR o (va_up (va_up (va_up c.1 50 k) 51 l) 52 u, c.2) h2 ∧ cFr o (c.2.2.2.2.2 5) h h2) := by
  refine aw_enter (by decide) (Nat.le_of_ble_eq_true rfl) (n := 0) (ls := [some (.ref (o + 7)), some (.int k), some (.int l), some (.int u)]) rfl (fun x => ?_)
  refine aw_aloadV_n d_Fault_tell_0 rfl rfl (by first | exact Or.inl ⟨_, rfl⟩ | exact Or.inr rfl | exact rv_Q _) ?_
  refine aw_iload_n d_Fault_tell_1 rfl rfl ?_
  refine aC_p50 hR fl_Fault_9 rfl rfl d_Fault_tell_2 (fun g2 hR2 hF2 => ?_)
  refine aw_aloadV_n d_Fault_tell_5 rfl rfl (by first | exact Or.inl ⟨_, rfl⟩ | exact Or.inr rfl | exact rv_Q _) ?_
  refine aw_iload_n d_Fault_tell_6 rfl rfl ?_
  refine aC_p51 hR2 fl_Fault_15 rfl rfl d_Fault_tell_7 (fun g7 hR7 hF7 => ?_)
  refine aw_aloadV_n d_Fault_tell_10 rfl rfl (by first | exact Or.inl ⟨_, rfl⟩ | exact Or.inr rfl | exact rv_Q _) ?_
  refine aw_iload_n d_Fault_tell_11 rfl rfl ?_
  refine aC_p52 hR7 fl_Fault_18 rfl rfl d_Fault_tell_12 (fun g12 hR12 hF12 => ?_)
  refine aw_vret ?_ rfl d_Fault_tell_15
  exact ⟨rfl, hR12, ((hF2.tr hF7).tr hF12)⟩
set_option maxRecDepth 20000 in
theorem l_L_two {G : ax_G} {x : ax_X} {h0 : ax_H} {P : Option Value → ax_H → Prop} {o : Nat} {c : cSt} {h : ax_H} (hR : cR o c h) (s : mSt) (e : Nat → Nat → Nat) (U S W T : Nat) (hJ : cJ c s e U S W T) (hSb : S ≤ 2048) (hUb : U ≤ 32) (h2U : ∀ k, k < S → e 11 k < U) (tk : Nat → Int32) (hB : cBk s e S c.2.2.2.2 tk c.2.2.2.1 S) (ht : ∀ u, u < U → c.2.1 23 u = tk u) (hn : (∀ k, k < S → ¬ mTwin tk (mT s e S) k) → P none h) (hy : ∀ h2, (∃ j, j < S ∧ mTwin tk (mT s e S) j ∧ (∀ k, k < S → mTwin tk (mT s e S) k → (e 11 j < e 11 k ∨ (e 11 j = e 11 k ∧ s.2.1 15 j ≤ s.2.1 15 k))) ∧ cR o (va_up (va_up (va_up c.1 50 2) 51 (s.2.1 15 j)) 52 (nI (e 11 j)), c.2) h2 ∧ cFr o (c.2.2.2.2.2 5) h h2) → P none h2) : ∀ r u o2 o3, u + r = U → (∀ k, k < S → e 11 k < u → ¬ mTwin tk (mT s e S) k) → AW G x Y_L_findTwoGlobals 2 44 h0 P h 2 [some (.ref o), some (.int (nI u)), o2, o3] [] := by
  intro r
  induction r with
  | zero =>
    intro u o2 o3 hu hno
    refine aw_iload_n d_L_findTwoGlobals_2 rfl rfl ?_
    refine aw_aloadV_n d_L_findTwoGlobals_3 rfl rfl (by first | exact Or.inl ⟨_, rfl⟩ | exact Or.inr rfl | exact rv_Q _) ?_
    refine aw_getE cl_L fl_L_62 (by decide) hR.obj rfl (congrArg Value.int hJ.sU) d_L_findTwoGlobals_4 ?_
    refine aw_icmp_ge (tgt := 55) d_L_findTwoGlobals_7 (by decide) (fun c7 => ?_) (fun c7 => ?_)
    · refine aw_vret ?_ rfl d_L_findTwoGlobals_55
      exact hn (fun k hk => hno k hk (by have := h2U k hk; omega))
    · exact absurd (nI_le (show U ≤ u by omega) (by omega)) c7
  | succ r ih =>
    intro u o2 o3 hu hno
    have huU : u < U := by omega
    have ee := hJ.ee huU
    have nxt : (∀ k, e 16 u ≤ k → k < cEnd e U S u → ¬ mTwin tk (mT s e S) k) → ∀ k, k < S → e 11 k < u + 1 → ¬ mTwin tk (mT s e S) k := by
      intro q k hk hk2
      by_cases eu : e 11 k = u
      · obtain ⟨k1, k2⟩ := (hJ.ord hk u huU).mp eu
        exact q k k1 k2
      · exact hno k hk (by omega)
    refine aw_iload_n d_L_findTwoGlobals_2 rfl rfl ?_
    refine aw_aloadV_n d_L_findTwoGlobals_3 rfl rfl (by first | exact Or.inl ⟨_, rfl⟩ | exact Or.inr rfl | exact rv_Q _) ?_
    refine aw_getE cl_L fl_L_62 (by decide) hR.obj rfl (congrArg Value.int hJ.sU) d_L_findTwoGlobals_4 ?_
    refine aw_icmp_ge (tgt := 55) d_L_findTwoGlobals_7 (by decide) (fun c7 => ?_) (fun c7 => ?_)
    · exact absurd c7 (nI_ge (by omega) (by omega))
    · refine aw_aloadV_n d_L_findTwoGlobals_10 rfl rfl (by first | exact Or.inl ⟨_, rfl⟩ | exact Or.inr rfl | exact rv_Q _) ?_
      refine aw_get cl_L fl_L_11 (by decide) hR.obj rfl d_L_findTwoGlobals_11 ?_
      refine aw_iload_n d_L_findTwoGlobals_14 rfl rfl ?_
      refine aC_l1 hR rfl (show u < 32 by omega) (hJ.rU huU) d_L_findTwoGlobals_15 ?_
      refine aw_astoreV_n d_L_findTwoGlobals_16 rfl (by decide) (by first | exact Or.inl ⟨_, rfl⟩ | exact Or.inr rfl | exact rv_Q _) (by dsimp only [List.set]) ?_
      refine aw_aloadV_n d_L_findTwoGlobals_17 rfl rfl (by first | exact Or.inl ⟨_, rfl⟩ | exact Or.inr rfl | exact rv_Q _) ?_
      refine aw_getE cl_Unit fl_L_289 (by decide) (hR.unit (hJ.hu huU)) rfl (congrArg Value.int (ht u huU)) d_L_findTwoGlobals_18 ?_
      refine aw_if_eq (tgt := 31) d_L_findTwoGlobals_21 (by decide) (fun c21 => ?_) (fun c21 => ?_)
      · refine aw_iconst (v := (-1)) d_L_findTwoGlobals_31 (by decide) ?_
        refine aw_istore_n d_L_findTwoGlobals_32 rfl (by decide) (by dsimp only [List.set]) ?_
        refine aw_iload_n d_L_findTwoGlobals_33 rfl rfl ?_
        refine aw_iconst (v := (-1)) d_L_findTwoGlobals_34 (by decide) ?_
        refine aw_icmp_eq (tgt := 49) d_L_findTwoGlobals_35 (by decide) (fun c35 => ?_) (fun c35 => ?_)
        · refine aw_iinc (v := nI (u + 1)) d_L_findTwoGlobals_49 rfl (ax_inc u) (by decide) (by dsimp only [List.set]) ?_
          refine aw_goto (tgt := 2) d_L_findTwoGlobals_52 (by decide) ?_
          exact ih (u + 1) _ _ (by omega) (nxt (fun k k1 k2 q => q.1 (by show tk (e 11 k) = 0; rw [(hJ.ord (j := k) (by omega) u huU).mpr ⟨k1, k2⟩]; exact c21)))
        · exact absurd rfl c35
      · refine aw_aloadV_n d_L_findTwoGlobals_24 rfl rfl (by first | exact Or.inl ⟨_, rfl⟩ | exact Or.inr rfl | exact rv_Q _) ?_
        refine aw_callV (c_Unit_least G _ o c hR s e U S W T hJ hSb huU tk hB c21) cl_Unit (hR.unit (hJ.hu huU)) m_Unit_leastLineOfSecondGlobals ml_L_308 rfl rfl (by decide) (by decide) (Nat.le_of_ble_eq_true rfl) d_L_findTwoGlobals_25 ?_
        rintro v h ⟨rfl, z, rfl, hz⟩
        refine aw_goto (tgt := 32) d_L_findTwoGlobals_28 (by decide) ?_
        refine aw_istore_n d_L_findTwoGlobals_32 rfl (by decide) (by dsimp only [List.set]) ?_
        refine aw_iload_n d_L_findTwoGlobals_33 rfl rfl ?_
        refine aw_iconst (v := (-1)) d_L_findTwoGlobals_34 (by decide) ?_
        refine aw_icmp_eq (tgt := 49) d_L_findTwoGlobals_35 (by decide) (fun c35 => ?_) (fun c35 => ?_)
        · refine aw_iinc (v := nI (u + 1)) d_L_findTwoGlobals_49 rfl (ax_inc u) (by decide) (by dsimp only [List.set]) ?_
          refine aw_goto (tgt := 2) d_L_findTwoGlobals_52 (by decide) ?_
          refine ih (u + 1) _ _ (by omega) (nxt ?_)
          rcases hz with ⟨a1, a2⟩ | ⟨j, a1, a2, a3, a4, a5⟩
          · exact a2
          · rw [c35] at a4
            exact absurd (hJ.ln0 (j := j) (by omega)) (by rw [← a4]; decide)
        · refine aw_aloadV_n d_L_findTwoGlobals_38 rfl rfl (by first | exact Or.inl ⟨_, rfl⟩ | exact Or.inr rfl | exact rv_Q _) ?_
          refine aw_get cl_L fl_L_47 (by decide) hR.obj rfl d_L_findTwoGlobals_39 ?_
          refine aw_iconst (v := 2) d_L_findTwoGlobals_42 (by decide) ?_
          refine aw_iload_n d_L_findTwoGlobals_43 rfl rfl ?_
          refine aw_iload_n d_L_findTwoGlobals_44 rfl rfl ?_
          refine aw_callV (c_Fault_tell G _ o c hR 2 z (nI u)) cl_Fault hR.flt m_Fault_tell ml_L_187 rfl rfl (by decide) (by decide) (Nat.le_of_ble_eq_true rfl) d_L_findTwoGlobals_45 ?_
          rintro v h2 ⟨rfl, hR2, hF2⟩
          refine aw_vret ?_ rfl d_L_findTwoGlobals_48
          rcases hz with ⟨a1, a2⟩ | ⟨j, a1, a2, a3, a4, a5⟩
          · exact absurd a1 c35
          · have ej := (hJ.ord (j := j) (by omega) u huU).mpr ⟨a1, a2⟩
            refine hy h2 ⟨j, by omega, a3, fun k hk q => ?_, by rw [← a4, ej]; exact hR2, hF2⟩
            by_cases e1 : e 11 k < u
            · exact absurd q (hno k hk e1)
            · by_cases e2 : e 11 k = u
              · obtain ⟨k1, k2⟩ := (hJ.ord hk u huU).mp e2
                exact Or.inr ⟨ej.trans e2.symm, a5 k k1 k2 q⟩
              · exact Or.inl (by omega)
set_option maxRecDepth 20000 in
theorem c_L_findTwoGlobals (G : ax_G) (h : ax_H) (o : Nat) (c : cSt) (hR : cR o c h) (s : mSt) (e : Nat → Nat → Nat) (U S W T : Nat) (hJ : cJ c s e U S W T) (hSb : S ≤ 2048) (hUb : U ≤ 32) (h2U : ∀ k, k < S → e 11 k < U) (tk : Nat → Int32) (hB : cBk s e S c.2.2.2.2 tk c.2.2.2.1 S) (ht : ∀ u, u < U → c.2.1 23 u = tk u) : AM G Y_L_findTwoGlobals 2 44 [.ref o] h (fun v h2 => v = none ∧ (((∀ k, k < S → ¬ mTwin tk (mT s e S) k) ∧ h2 = h) ∨ (∃ j, j < S ∧ mTwin tk (mT s e S) j ∧ (∀ k, k < S → mTwin tk (mT s e S) k → (e 11 j < e 11 k ∨ (e 11 j = e 11 k ∧ s.2.1 15 j ≤ s.2.1 15 k))) ∧ cR o (va_up (va_up (va_up c.1 50 2) 51 (s.2.1 15 j)) 52 (nI (e 11 j)), c.2) h2 ∧ cFr o (c.2.2.2.2.2 5) h h2))) := by
  refine aw_enter (by decide) (Nat.le_of_ble_eq_true rfl) (n := 3) (ls := [some (.ref o), none, none, none]) rfl (fun x => ?_)
  refine aw_iconst (v := 0) d_L_findTwoGlobals_0 (by decide) ?_
  refine aw_istore_n d_L_findTwoGlobals_1 rfl (by decide) (by dsimp only [List.set]) ?_
  exact l_L_two hR s e U S W T hJ hSb hUb h2U tk hB ht (fun q => ⟨rfl, Or.inl ⟨q, rfl⟩⟩) (fun h2 q => ⟨rfl, Or.inr q⟩) U 0 _ _ (by omega) (fun k _ q => absurd q (Nat.not_lt_zero _))
theorem mTwL_spec {s : mSt} {e : Nat → Nat → Nat} {U S : Nat} (i2 : mI2 s e U S) (hUb : U ≤ 32) (tk : Nat → Int32) : ∀ r k a b, k + r = S → ((a = 32 ∧ b = 0 ∧ ∀ j, j < k → ¬ mTwin tk (mT s e S) j) ∨ (∃ j, j < k ∧ mTwin tk (mT s e S) j ∧ a = nI (e 11 j) ∧ b = s.2.1 15 j ∧ ∀ i, i < k → mTwin tk (mT s e S) i → (e 11 j < e 11 i ∨ (e 11 j = e 11 i ∧ s.2.1 15 j ≤ s.2.1 15 i)))) → ((mTwL tk (mT s e S) (s.2.1 11) (s.2.1 15) r k a b).1 = 32 ∧ ∀ j, j < S → ¬ mTwin tk (mT s e S) j) ∨ (∃ j, j < S ∧ mTwin tk (mT s e S) j ∧ (mTwL tk (mT s e S) (s.2.1 11) (s.2.1 15) r k a b) = (nI (e 11 j), s.2.1 15 j) ∧ ∀ i, i < S → mTwin tk (mT s e S) i → (e 11 j < e 11 i ∨ (e 11 j = e 11 i ∧ s.2.1 15 j ≤ s.2.1 15 i))) := by
  intro r
  induction r with
  | zero =>
    intro k a b hk h
    have hkk : k = S := by omega
    subst hkk
    rcases h with ⟨h1, h2, h3⟩ | ⟨j, h1, h2, h3, h4, h5⟩
    · exact Or.inl ⟨h1, h3⟩
    · exact Or.inr ⟨j, h1, h2, by rw [mTwL, h3, h4], h5⟩
  | succ r ih =>
    intro k a b hk h
    obtain ⟨u1, u2⟩ := i2 k (by omega)
    rw [mTwL]
    by_cases q : mTwin tk (mT s e S) k ∧ (s.2.1 11 k < a ∨ (s.2.1 11 k = a ∧ s.2.1 15 k < b))
    · rw [if_pos q]
      refine ih (k + 1) _ _ (by omega) (Or.inr ⟨k, by omega, q.1, u1, rfl, fun i hi hi2 => ?_⟩)
      by_cases ei : i = k
      · rw [ei]; exact Or.inr ⟨rfl, Int32.le_refl _⟩
      · rcases h with ⟨h1, h2, h3⟩ | ⟨j, h1, h2, h3, h4, h5⟩
        · exact absurd hi2 (h3 i (by omega))
        · have l1 := (i2 j (by omega)).2
          have hj := h5 i (by omega) hi2
          rcases q.2 with q2 | ⟨q2, q3⟩
          · rw [u1, h3] at q2
            have := (nI_ltI (by omega) (by omega)).mp q2
            exact Or.inl (by omega)
          · rw [u1, h3] at q2
            have := (nI_eq (by omega) (by omega)).mp q2
            rcases hj with hj | ⟨hj, hj2⟩
            · exact Or.inl (by omega)
            · rw [h4] at q3
              exact Or.inr ⟨by omega, Int32.le_trans (Int32.le_of_lt q3) hj2⟩
    · rw [if_neg q]
      refine ih (k + 1) a b (by omega) ?_
      rcases h with ⟨h1, h2, h3⟩ | ⟨j, h1, h2, h3, h4, h5⟩
      · refine Or.inl ⟨h1, h2, fun j hj => ?_⟩
        by_cases ej : j = k
        · rw [ej]
          intro z
          refine q ⟨z, Or.inl ?_⟩
          rw [u1, h1]
          exact nI_lt (b := 32) (by omega) (by decide)
        · exact h3 j (by omega)
      · refine Or.inr ⟨j, by omega, h2, h3, h4, fun i hi hi2 => ?_⟩
        by_cases ei : i = k
        · rw [ei] at hi2 ⊢
          have l1 := (i2 j (by omega)).2
          by_cases e1 : e 11 k < e 11 j
          · exact absurd ⟨hi2, Or.inl (by rw [u1, h3]; exact nI_lt e1 (by omega))⟩ q
          · by_cases e2 : e 11 j = e 11 k
            · refine Or.inr ⟨e2, ?_⟩
              by_cases e3 : s.2.1 15 k < s.2.1 15 j
              · exact absurd ⟨hi2, Or.inr ⟨by rw [u1, h3, e2], by rw [h4]; exact e3⟩⟩ q
              · exact Int32.not_lt.mp e3
            · exact Or.inl (by omega)
        · exact h5 i (by omega) hi2
