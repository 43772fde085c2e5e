theorem cJ.mean {o : Nat} {c : cSt} {s : mSt} {e : Nat → Nat → Nat} {U S W T : Nat} {h : ax_H} (hJ : cJ c s e U S W T) (hR : cR o c h) (hSb : S ≤ 2048) {tk : Nat → Int32} (hB : cBk s e S c.2.2.2.2 tk c.2.2.2.1 S) {i : Nat} (hi : i < c.2.2.2.2.2 1) : cMean c i = (if 0 ≤ mMeant tk (mT s e S) (c.2.2.1 42 i) (c.2.1 29 i) then some (c.2.2.2.2.1 2 (iN (mMeant tk (mT s e S) (c.2.2.1 42 i) (c.2.1 29 i)))) else none) := by
  rw [hJ.meant hR hSb tk hi, cMean, (hB i hi).1, (hB i hi).2]
  cases e1 : mFind (cGl s e S c.2.2.2.2 tk i) S 0 with
  | some j =>
    obtain ⟨b1, b2, b3, -⟩ := mFind_some _ _ _ e1
    show some (c.2.2.2.2.1 2 j) = (if 0 ≤ nI j then some (c.2.2.2.2.1 2 (iN (nI j))) else none)
    rw [if_pos (nI_pos' (by omega)), iN, nI_clamp (by omega)]
  | none =>
    cases e2 : mFind (cWk s e S c.2.2.2.2 tk i) S 0 with
    | some j =>
      obtain ⟨b1, b2, b3, -⟩ := mFind_some _ _ _ e2
      show some (c.2.2.2.2.1 2 j) = (if 0 ≤ nI j then some (c.2.2.2.2.1 2 (iN (nI j))) else none)
      rw [if_pos (nI_pos' (by omega)), iN, nI_clamp (by omega)]
    | none => rfl
theorem cJ.stf {o : Nat} {c : cSt} {s : mSt} {e : Nat → Nat → Nat} {U S W T : Nat} {h : ax_H} (hJ : cJ c s e U S W T) (hR : cR o c h) (hSb : S ≤ 2048) {tk : Nat → Int32} (hB : cBk s e S c.2.2.2.2 tk c.2.2.2.1 S) {k : Nat} (hk : k < S) : cStf c s k = (if 0 ≤ mStands tk (mT s e S) k then some (c.2.2.2.2.1 2 (iN (mStands tk (mT s e S) k))) else none) := by
  have hm := hJ.mean hR hSb hB (hR.1.2.2.2.1 k (hJ.hk hk))
  rw [hJ.word hk, hJ.len hk] at hm
  rw [cStf, mStands]
  by_cases h1 : 0 ≤ s.2.1 13 k ∧ s.2.1 12 k < 2
  · rw [if_pos h1]
    have e1 : (if 0 ≤ (mT s e S).2.1 k ∧ (mT s e S).1 k < 2 then nI k else if 0 ≤ mMeant tk (mT s e S) ((mT s e S).2.2.2.1 k) ((mT s e S).2.2.1 k) then mMeant tk (mT s e S) ((mT s e S).2.2.2.1 k) ((mT s e S).2.2.1 k) else if 1 < (mT s e S).1 k then -2 else -1) = nI k := if_pos h1
    rw [e1, if_pos (nI_pos' (by omega)), iN, nI_clamp (by omega)]
  · rw [if_neg h1, hm]
    have e1 : (if 0 ≤ (mT s e S).2.1 k ∧ (mT s e S).1 k < 2 then nI k else if 0 ≤ mMeant tk (mT s e S) ((mT s e S).2.2.2.1 k) ((mT s e S).2.2.1 k) then mMeant tk (mT s e S) ((mT s e S).2.2.2.1 k) ((mT s e S).2.2.1 k) else if 1 < (mT s e S).1 k then -2 else -1) = if 0 ≤ mMeant tk (mT s e S) (s.2.2 9 k) (s.2.1 10 k) then mMeant tk (mT s e S) (s.2.2 9 k) (s.2.1 10 k) else if 1 < s.2.1 12 k then -2 else -1 := if_neg h1
    rw [e1]
    by_cases h2 : 0 ≤ mMeant tk (mT s e S) (s.2.2 9 k) (s.2.1 10 k)
    · rw [if_pos h2, if_pos h2, if_pos h2]
    · rw [if_neg h2, if_neg h2]
      by_cases h3 : 1 < s.2.1 12 k
      · rw [if_pos h3, if_neg (by decide)]
      · rw [if_neg h3, if_neg (by decide)]
set_option maxRecDepth 20000 in
theorem c_Wait_target (G : ax_G) (h : ax_H) (o : Nat) (c : cSt) (hR : cR o c h) (s : mSt) (e : Nat → Nat → Nat) (U S W T : Nat) (hJ : cJ c s e U S W T) (hSb : S ≤ 2048) (hUb : U ≤ 32) (i2 : mI2 s e U S) (i3 : mI3 s e S) (i4 : mI4 s e U S W) (tk : Nat → Int32) (hB : cBk s e S c.2.2.2.2 tk c.2.2.2.1 S) {w : Nat} (hw : w < W) : AM G Y_Wait_target 2 40 [.ref (c.2.2.2.2.1 3 w)] h (fun v h2 => h2 = h ∧ v = some (va_rf (cOp (mTq tk (mT s e S) e w < 128) (cQ c.2.2.2.2 (mTq tk (mT s e S) e w))))) := by
  have l4 := i4 w hw
  have hsy := hJ.wsym hw
  have hbg := hJ.wbeg hw
  refine aw_enter (by decide) (Nat.le_of_ble_eq_true rfl) (n := 1) (ls := [some (.ref (c.2.2.2.2.1 3 w)), none]) rfl (fun x => ?_)
  by_cases h5 : 5 ≤ e 22 w
  · rw [if_pos h5] at hsy
    obtain ⟨k, hkS, ek⟩ : ∃ k, k < S ∧ e 22 w = k + 5 := by
      rcases l4.2.2 with ⟨a1, -⟩ | ⟨d, a1, a2, -⟩ | ⟨k, a1, a2, -⟩
      · omega
      · omega
      · exact ⟨k, a1, a2⟩
    have ek5 : e 22 w - 5 = k := by omega
    rw [ek5] at hsy
    have hst := hJ.stf hR hSb hB hkS
    have htq : mTq tk (mT s e S) e w = if mStands tk (mT s e S) k < 0 then 128 else 4 * e 11 (iN (mStands tk (mT s e S) k)) + e 13 (iN (mStands tk (mT s e S) k)) := by rw [mTq, if_neg (by omega), if_neg (by omega), ek5]
    rcases mStands_lab tk (mT s e S) k hkS with ⟨a1, -⟩ | ⟨j, a1, a2, a3⟩
    · rw [if_neg (Int32.not_le.mpr a1)] at hst
      rw [if_pos a1] at htq
      refine aw_aloadV_n d_Wait_target_0 rfl rfl (by first | exact Or.inl ⟨_, rfl⟩ | exact Or.inr rfl | exact rv_Q _) ?_
      refine aw_getE cl_Wait fl_Wait_32 (by decide) (hR.wait (hJ.hw hw)) rfl (show _ = Value.ref (c.2.2.2.2.1 2 k) from by rw [hsy]; rfl) d_Wait_target_1 ?_
      refine aw_ifnonnull (tgt := 12) d_Wait_target_4 (by decide) ?_
      refine aw_aloadV_n d_Wait_target_12 rfl rfl (by first | exact Or.inl ⟨_, rfl⟩ | exact Or.inr rfl | exact rv_Q _) ?_
      refine aw_getE cl_Wait fl_Wait_32 (by decide) (hR.wait (hJ.hw hw)) rfl (show _ = Value.ref (c.2.2.2.2.1 2 k) from by rw [hsy]; rfl) d_Wait_target_13 ?_
      refine aw_callV (c_Symbol_standsFor G _ o c hR s e U S W T hJ hkS) cl_Symbol (hR.sym (hJ.hk hkS)) m_Symbol_standsFor ml_Wait_39 rfl rfl (by decide) (by decide) (Nat.le_of_ble_eq_true rfl) d_Wait_target_16 ?_
      rintro v h ⟨rfl, rfl⟩
      rw [hst]
      refine aw_astoreV_n d_Wait_target_19 rfl (by decide) (by first | exact Or.inl ⟨_, rfl⟩ | exact Or.inr rfl | exact rv_Q _) (by dsimp only [List.set]) ?_
      refine aw_aloadV_n d_Wait_target_20 rfl rfl (by first | exact Or.inl ⟨_, rfl⟩ | exact Or.inr rfl | exact rv_Q _) ?_
      refine aw_ifnonnullN d_Wait_target_21 ?_
      refine aw_null d_Wait_target_24 ?_
      refine aw_goto (tgt := 32) d_Wait_target_25 (by decide) ?_
      refine aw_aret (r := none) ?_ rfl (by first | exact Or.inl ⟨_, rfl⟩ | exact Or.inr ⟨_, rfl⟩) d_Wait_target_32
      refine ⟨rfl, ?_⟩
      rw [htq, cOp_f (by decide)]
    · rw [a2, if_pos (nI_pos' (by have : j < S := a1; omega)), show iN (nI j) = j from nI_clamp (by have : j < S := a1; omega)] at hst
      rw [a2, if_neg (nI_pos (by have : j < S := a1; omega)), show iN (nI j) = j from nI_clamp (by have : j < S := a1; omega)] at htq
      have hjS : j < S := a1
      have hsec := hJ.sec hjS
      rw [if_neg (Int32.not_lt.mpr a3)] at hsec
      have hlt : 4 * e 11 j + e 13 j < 128 := by
        have l1 := (i2 j hjS).2
        have l2 := (i3.lab hjS a3).1
        omega
      refine aw_aloadV_n d_Wait_target_0 rfl rfl (by first | exact Or.inl ⟨_, rfl⟩ | exact Or.inr rfl | exact rv_Q _) ?_
      refine aw_getE cl_Wait fl_Wait_32 (by decide) (hR.wait (hJ.hw hw)) rfl (show _ = Value.ref (c.2.2.2.2.1 2 k) from by rw [hsy]; rfl) d_Wait_target_1 ?_
      refine aw_ifnonnull (tgt := 12) d_Wait_target_4 (by decide) ?_
      refine aw_aloadV_n d_Wait_target_12 rfl rfl (by first | exact Or.inl ⟨_, rfl⟩ | exact Or.inr rfl | exact rv_Q _) ?_
      refine aw_getE cl_Wait fl_Wait_32 (by decide) (hR.wait (hJ.hw hw)) rfl (show _ = Value.ref (c.2.2.2.2.1 2 k) from by rw [hsy]; rfl) d_Wait_target_13 ?_
      refine aw_callV (c_Symbol_standsFor G _ o c hR s e U S W T hJ hkS) cl_Symbol (hR.sym (hJ.hk hkS)) m_Symbol_standsFor ml_Wait_39 rfl rfl (by decide) (by decide) (Nat.le_of_ble_eq_true rfl) d_Wait_target_16 ?_
      rintro v h ⟨rfl, rfl⟩
      rw [hst]
      refine aw_astoreV_n d_Wait_target_19 rfl (by decide) (by first | exact Or.inl ⟨_, rfl⟩ | exact Or.inr rfl | exact rv_Q _) (by dsimp only [List.set]) ?_
      refine aw_aloadV_n d_Wait_target_20 rfl rfl (by first | exact Or.inl ⟨_, rfl⟩ | exact Or.inr rfl | exact rv_Q _) ?_
      refine aw_ifnonnull (tgt := 28) d_Wait_target_21 (by decide) ?_
      refine aw_aloadV_n d_Wait_target_28 rfl rfl (by first | exact Or.inl ⟨_, rfl⟩ | exact Or.inr rfl | exact rv_Q _) ?_
      refine aw_getE cl_Symbol fl_Wait_45 (by decide) (hR.sym (hJ.hk hjS)) rfl (show _ = Value.ref (cQ c.2.2.2.2 (4 * e 11 j + e 13 j)) from by rw [hsec]; rfl) d_Wait_target_29 ?_
      refine aw_aret (r := some (cQ c.2.2.2.2 (4 * e 11 j + e 13 j))) ?_ rfl (by first | exact Or.inl ⟨_, rfl⟩ | exact Or.inr ⟨_, rfl⟩) d_Wait_target_32
      refine ⟨rfl, ?_⟩
      rw [htq, cOp_t hlt]
  · rw [if_neg h5] at hsy
    by_cases h0 : e 22 w = 0
    · rw [if_neg (by omega)] at hbg
      have htq : mTq tk (mT s e S) e w = 128 := by rw [mTq, if_pos h0]
      refine aw_aloadV_n d_Wait_target_0 rfl rfl (by first | exact Or.inl ⟨_, rfl⟩ | exact Or.inr rfl | exact rv_Q _) ?_
      refine aw_getE cl_Wait fl_Wait_32 (by decide) (hR.wait (hJ.hw hw)) rfl (show _ = Value.null from by rw [hsy]; rfl) d_Wait_target_1 ?_
      refine aw_ifnonnullN d_Wait_target_4 ?_
      refine aw_aloadV_n d_Wait_target_7 rfl rfl (by first | exact Or.inl ⟨_, rfl⟩ | exact Or.inr rfl | exact rv_Q _) ?_
      refine aw_get cl_Wait fl_Wait_36 (by decide) (hR.wait (hJ.hw hw)) rfl d_Wait_target_8 ?_
      refine aw_aret (r := c.2.2.2.1 48 w) ?_ rfl (by first | exact Or.inl ⟨_, rfl⟩ | exact Or.inr ⟨_, rfl⟩) d_Wait_target_11
      refine ⟨rfl, ?_⟩
      rw [htq, cOp_f (by decide), hbg]
    · rw [if_pos ⟨by omega, by omega⟩] at hbg
      have htq : mTq tk (mT s e S) e w = 4 * e 17 w + (e 22 w - 1) := by rw [mTq, if_neg h0, if_pos (by omega)]
      have l1 := l4.1.2
      refine aw_aloadV_n d_Wait_target_0 rfl rfl (by first | exact Or.inl ⟨_, rfl⟩ | exact Or.inr rfl | exact rv_Q _) ?_
      refine aw_getE cl_Wait fl_Wait_32 (by decide) (hR.wait (hJ.hw hw)) rfl (show _ = Value.null from by rw [hsy]; rfl) d_Wait_target_1 ?_
      refine aw_ifnonnullN d_Wait_target_4 ?_
      refine aw_aloadV_n d_Wait_target_7 rfl rfl (by first | exact Or.inl ⟨_, rfl⟩ | exact Or.inr rfl | exact rv_Q _) ?_
      refine aw_get cl_Wait fl_Wait_36 (by decide) (hR.wait (hJ.hw hw)) rfl d_Wait_target_8 ?_
      refine aw_aret (r := c.2.2.2.1 48 w) ?_ rfl (by first | exact Or.inl ⟨_, rfl⟩ | exact Or.inr ⟨_, rfl⟩) d_Wait_target_11
      refine ⟨rfl, ?_⟩
      rw [htq, cOp_t (by omega), hbg]
set_option maxRecDepth 20000 in
theorem l_Unit_need {G : ax_G} {x : ax_X} {h0 : ax_H} {P : Option Value → ax_H → Prop} {o : Nat} {c : cSt} (s : mSt) (e : Nat → Nat → Nat) (U S W T : Nat) (hJ : cJ c s e U S W T) {u : Nat} (hu : u < U) (tk old : Nat → Int32) (ht : c.2.1 23 u = tk u) (hq : ax_H) (hp : ∀ h2, cR o (cM c (va_up c.2.1 27 (mNd0 U tk (s.2.1 2) old (4 * (u + 1)))) c.2.2.2.1) h2 → cFr o (c.2.2.2.2.2 5) hq h2 → P none h2) : ∀ r k h o2, k + r = 4 → cR o (cM c (va_up c.2.1 27 (mNd0 U tk (s.2.1 2) old (4 * u + k))) c.2.2.2.1) h → cFr o (c.2.2.2.2.2 5) hq h → AW G x Y_Unit_needKeptAlone 0 0 h0 P h 2 [some (.ref (c.2.2.2.2.1 0 u)), some (.int (nI k)), o2] [] := by
  intro r
  induction r with
  | zero =>
    intro k h o2 hk hR hF
    have hkk : k = 4 := by omega
    subst hkk
    refine aw_iload_n d_Unit_needKeptAlone_2 rfl rfl ?_
    refine aw_aloadV_n d_Unit_needKeptAlone_3 rfl rfl (by first | exact Or.inl ⟨_, rfl⟩ | exact Or.inr rfl | exact rv_Q _) ?_
    refine aw_get cl_Unit fl_Unit_21 (by decide) (hR.unit (hJ.hu hu)) rfl d_Unit_needKeptAlone_4 ?_
    refine aw_alen (hR.secs (hJ.hu hu)) rfl d_Unit_needKeptAlone_7 ?_
    refine aw_icmp_ge (tgt := 51) d_Unit_needKeptAlone_8 (by decide) (fun c8 => ?_) (fun c8 => ?_)
    · refine aw_vret ?_ rfl d_Unit_needKeptAlone_51
      exact hp h hR hF
    · exact absurd (by decide) c8
  | succ r ih =>
    intro k h o2 hk hR hF
    have hk4 : k < 4 := by omega
    have hqq : 4 * u + k < 4 * U := by omega
    have hs := mNd0_s U tk (s.2.1 2) old (4 * u + k)
    rw [show (4 * u + k) / 4 = u by omega] at hs
    refine aw_iload_n d_Unit_needKeptAlone_2 rfl rfl ?_
    refine aw_aloadV_n d_Unit_needKeptAlone_3 rfl rfl (by first | exact Or.inl ⟨_, rfl⟩ | exact Or.inr rfl | exact rv_Q _) ?_
    refine aw_get cl_Unit fl_Unit_21 (by decide) (hR.unit (hJ.hu hu)) rfl d_Unit_needKeptAlone_4 ?_
    refine aw_alen (hR.secs (hJ.hu hu)) rfl d_Unit_needKeptAlone_7 ?_
    refine aw_icmp_ge (tgt := 51) d_Unit_needKeptAlone_8 (by decide) (fun c8 => ?_) (fun c8 => ?_)
    · exact absurd c8 (nI_ge (a := k) (b := 4) (by omega) (by decide))
    · refine aw_aloadV_n d_Unit_needKeptAlone_11 rfl rfl (by first | exact Or.inl ⟨_, rfl⟩ | exact Or.inr rfl | exact rv_Q _) ?_
      refine aw_get cl_Unit fl_Unit_21 (by decide) (hR.unit (hJ.hu hu)) rfl d_Unit_needKeptAlone_12 ?_
      refine aw_iload_n d_Unit_needKeptAlone_15 rfl rfl ?_
      refine aC_secs hR (hJ.hu hu) rfl hk4 d_Unit_needKeptAlone_16 ?_
      refine aw_astoreV_n d_Unit_needKeptAlone_17 rfl (by decide) (by first | exact Or.inl ⟨_, rfl⟩ | exact Or.inr rfl | exact rv_Q _) (by dsimp only [List.set]) ?_
      refine aw_aloadV_n d_Unit_needKeptAlone_18 rfl rfl (by first | exact Or.inl ⟨_, rfl⟩ | exact Or.inr rfl | exact rv_Q _) ?_
      refine aw_ifnull d_Unit_needKeptAlone_19 ?_
      refine aw_aloadV_n d_Unit_needKeptAlone_22 rfl rfl (by first | exact Or.inl ⟨_, rfl⟩ | exact Or.inr rfl | exact rv_Q _) ?_
      refine aw_aloadV_n d_Unit_needKeptAlone_23 rfl rfl (by first | exact Or.inl ⟨_, rfl⟩ | exact Or.inr rfl | exact rv_Q _) ?_
      refine aw_getE cl_Unit fl_Unit_35 (by decide) (hR.unit (hJ.hu hu)) rfl (congrArg Value.int ht) d_Unit_needKeptAlone_24 ?_
      refine aw_if_eq (tgt := 41) d_Unit_needKeptAlone_27 (by decide) (fun c27 => ?_) (fun c27 => ?_)
      · refine aw_iconst (v := 0) d_Unit_needKeptAlone_41 (by decide) ?_
        refine aC_p27 hR (hJ.hq hqq) fl_Unit_76 rfl rfl d_Unit_needKeptAlone_42 (fun g42 hR42 hF42 => ?_)
        refine aw_iinc (v := nI (k + 1)) d_Unit_needKeptAlone_45 rfl (ax_inc k) (by decide) (by dsimp only [List.set]) ?_
        refine aw_goto (tgt := 2) d_Unit_needKeptAlone_48 (by decide) ?_
        rw [if_neg (fun q => q.2.1 c27)] at hs
        refine ih (k + 1) _ _ (by omega) ?_ (hF.tr hF42)
        have hR42 : cR o (cM c (va_up (va_up c.2.1 27 (mNd0 U tk (s.2.1 2) old (4 * u + k))) 27 (va_up (mNd0 U tk (s.2.1 2) old (4 * u + k)) (4 * u + k) 0)) c.2.2.2.1) g42 := hR42
        rw [bx_uu, hs] at hR42
        exact hR42
      · refine aw_aloadV_n d_Unit_needKeptAlone_30 rfl rfl (by first | exact Or.inl ⟨_, rfl⟩ | exact Or.inr rfl | exact rv_Q _) ?_
        refine aw_getE cl_Section fl_Unit_73 (by decide) (hR.sec (hJ.hq hqq)) rfl (congrArg Value.int (hJ.kept hqq)) d_Unit_needKeptAlone_31 ?_
        refine aw_if_eq (tgt := 41) d_Unit_needKeptAlone_34 (by decide) (fun c34 => ?_) (fun c34 => ?_)
        · refine aw_iconst (v := 0) d_Unit_needKeptAlone_41 (by decide) ?_
          refine aC_p27 hR (hJ.hq hqq) fl_Unit_76 rfl rfl d_Unit_needKeptAlone_42 (fun g42 hR42 hF42 => ?_)
          refine aw_iinc (v := nI (k + 1)) d_Unit_needKeptAlone_45 rfl (ax_inc k) (by decide) (by dsimp only [List.set]) ?_
          refine aw_goto (tgt := 2) d_Unit_needKeptAlone_48 (by decide) ?_
          rw [if_neg (fun q => q.2.2 c34)] at hs
          refine ih (k + 1) _ _ (by omega) ?_ (hF.tr hF42)
          have hR42 : cR o (cM c (va_up (va_up c.2.1 27 (mNd0 U tk (s.2.1 2) old (4 * u + k))) 27 (va_up (mNd0 U tk (s.2.1 2) old (4 * u + k)) (4 * u + k) 0)) c.2.2.2.1) g42 := hR42
          rw [bx_uu, hs] at hR42
          exact hR42
        · refine aw_iconst (v := 1) d_Unit_needKeptAlone_37 (by decide) ?_
          refine aw_goto (tgt := 42) d_Unit_needKeptAlone_38 (by decide) ?_
          refine aC_p27 hR (hJ.hq hqq) fl_Unit_76 rfl rfl d_Unit_needKeptAlone_42 (fun g42 hR42 hF42 => ?_)
          refine aw_iinc (v := nI (k + 1)) d_Unit_needKeptAlone_45 rfl (ax_inc k) (by decide) (by dsimp only [List.set]) ?_
          refine aw_goto (tgt := 2) d_Unit_needKeptAlone_48 (by decide) ?_
          rw [if_pos ⟨hqq, c27, c34⟩] at hs
          refine ih (k + 1) _ _ (by omega) ?_ (hF.tr hF42)
          have hR42 : cR o (cM c (va_up (va_up c.2.1 27 (mNd0 U tk (s.2.1 2) old (4 * u + k))) 27 (va_up (mNd0 U tk (s.2.1 2) old (4 * u + k)) (4 * u + k) 1)) c.2.2.2.1) g42 := hR42
          rw [bx_uu, hs] at hR42
          exact hR42
set_option maxRecDepth 20000 in
theorem c_Unit_need (G : ax_G) (h : ax_H) (o : Nat) (c : cSt) (hR : cR o c h) (s : mSt) (e : Nat → Nat → Nat) (U S W T : Nat) (hJ : cJ c s e U S W T) {u : Nat} (hu : u < U) (tk old : Nat → Int32) (ht : c.2.1 23 u = tk u) (h27 : c.2.1 27 = mNd0 U tk (s.2.1 2) old (4 * u)) : AM G Y_Unit_needKeptAlone 0 0 [.ref (c.2.2.2.2.1 0 u)] h (fun v h2 => v = none ∧ cR o (cM c (va_up c.2.1 27 (mNd0 U tk (s.2.1 2) old (4 * (u + 1)))) c.2.2.2.1) h2 ∧ cFr o (c.2.2.2.2.2 5) h h2) := by
  refine aw_enter (by decide) (Nat.le_of_ble_eq_true rfl) (n := 2) (ls := [some (.ref (c.2.2.2.2.1 0 u)), none, none]) rfl (fun x => ?_)
  refine aw_iconst (v := 0) d_Unit_needKeptAlone_0 (by decide) ?_
  refine aw_istore_n d_Unit_needKeptAlone_1 rfl (by decide) (by dsimp only [List.set]) ?_
  have e27 : va_up c.2.1 27 (mNd0 U tk (s.2.1 2) old (4 * u + 0)) = c.2.1 := by
    funext F
    by_cases eF : F = 27
    · rw [eF, va_up_self, h27, Nat.add_zero]
    · rw [va_up_ne _ _ eF]
  refine l_Unit_need s e U S W T hJ hu tk old ht h (fun h2 a1 a2 => ⟨rfl, a1, a2⟩) 4 0 h _ (by omega) ?_ (cFr.rf _ _ _)
  rw [e27]
  exact hR
theorem mUid {A : Type} (f : Nat → A) (k : Nat) : va_up f k (f k) = f := by
  funext j
  by_cases e : j = k
  · rw [e, va_up_self]
  · rw [va_up_ne _ _ e]
theorem mPassL_01 (tq src : Nat → Nat) : ∀ r w a, (a.2 = 0 ∨ a.2 = 1) → ((mPassL tq src r w a).2 = 0 ∨ (mPassL tq src r w a).2 = 1) := by
  intro r
  induction r with
  | zero => exact fun w a h => h
  | succ r ih =>
    intro w a h
    rw [mPassL]
    refine ih (w + 1) _ ?_
    by_cases q : mHit2 tq src w a.1
    · rw [if_pos q]; exact Or.inr rfl
    · rw [if_neg q]; exact h
set_option maxRecDepth 20000 in
theorem l_L_pass {G : ax_G} {x : ax_X} {h0 : ax_H} {P : Option Value → ax_H → Prop} {o : Nat} {c : cSt} (s : mSt) (e : Nat → Nat → Nat) (U S W T : Nat) (hJ : cJ c s e U S W T) (hWb : W ≤ 4096) (hSb : S ≤ 2048) (hUb : U ≤ 32) (i2 : mI2 s e U S) (i3 : mI3 s e S) (i4 : mI4 s e U S W) (tk : Nat → Int32) (hB : cBk s e S c.2.2.2.2 tk c.2.2.2.1 S) (htq : ∀ w, w < W → mTq tk (mT s e S) e w < 128 → mTq tk (mT s e S) e w < 4 * U) (hq : ax_H) (fin : (Nat → Int32) × Int32) (hf01 : fin.2 = 0 ∨ fin.2 = 1) (hp : ∀ h2, cR o (cM c (va_up c.2.1 27 fin.1) c.2.2.2.1) h2 → cFr o (c.2.2.2.2.2 5) hq h2 → P (some (.int fin.2)) h2) : ∀ r w (a : (Nat → Int32) × Int32) h o3 o4, w + r = W → (mPassL (mTq tk (mT s e S) e) (mSrc e) r w a) = fin → cR o (cM c (va_up c.2.1 27 a.1) c.2.2.2.1) h → cFr o (c.2.2.2.2.2 5) hq h → AW G x Y_L_needWhatNeededOnesAwait 3 61 h0 P h 4 [some (.ref o), some (.int a.2), some (.int (nI w)), o3, o4] [] := by
  intro r
  induction r with
  | zero =>
    intro w a h o3 o4 hw he hR hF
    have he : a = fin := he
    subst he
    refine aw_iload_n d_L_needWhatNeededOnesAwait_4 rfl rfl ?_
    refine aw_aloadV_n d_L_needWhatNeededOnesAwait_5 rfl rfl (by first | exact Or.inl ⟨_, rfl⟩ | exact Or.inr rfl | exact rv_Q _) ?_
    refine aw_getE cl_L fl_L_72 (by decide) hR.obj rfl (congrArg Value.int hJ.sW) d_L_needWhatNeededOnesAwait_6 ?_
    refine aw_icmp_ge (tgt := 66) d_L_needWhatNeededOnesAwait_9 (by decide) (fun c9 => ?_) (fun c9 => ?_)
    · refine aw_iload_n d_L_needWhatNeededOnesAwait_66 rfl rfl ?_
      refine aw_zret ?_ rfl (by rcases hf01 with q | q <;> rw [q] <;> rfl) d_L_needWhatNeededOnesAwait_67
      exact hp h hR hF
    · exact absurd (nI_le (show W ≤ w by omega) (by omega)) c9
  | succ r ih =>
    intro w a h o3 o4 hw he hR hF
    have hwW : w < W := by omega
    have hJ1 : cJ (cM c (va_up c.2.1 27 a.1) c.2.2.2.1) s e U S W T := hJ.m (X := [27]) ((cIg.rf _ c).i (F := 27) (by decide) _) (by decide)
    have l4 := i4 w hwW
    have hsrc : mSrc e w < 4 * U := by have := l4.1.2; have := l4.2.1.2; show 4 * e 17 w + e 18 w < _; omega
    have hhome := hJ.home hwW
    have hhv : Value.ref (cQ c.2.2.2.2 (c.2.2.2.2.1 6 w)) = .ref (cQ c.2.2.2.2 (mSrc e w)) := by rw [hhome]
    rw [mPassL] at he
    by_cases g1 : a.1 (mSrc e w) = 0
    · rw [if_neg (fun q => q.1 g1)] at he
      refine aw_iload_n d_L_needWhatNeededOnesAwait_4 rfl rfl ?_
      refine aw_aloadV_n d_L_needWhatNeededOnesAwait_5 rfl rfl (by first | exact Or.inl ⟨_, rfl⟩ | exact Or.inr rfl | exact rv_Q _) ?_
      refine aw_getE cl_L fl_L_72 (by decide) hR.obj rfl (congrArg Value.int hJ.sW) d_L_needWhatNeededOnesAwait_6 ?_
      refine aw_icmp_ge (tgt := 66) d_L_needWhatNeededOnesAwait_9 (by decide) (fun c9 => ?_) (fun c9 => ?_)
      · exact absurd c9 (nI_ge (by omega) (by omega))
      · refine aw_aloadV_n d_L_needWhatNeededOnesAwait_12 rfl rfl (by first | exact Or.inl ⟨_, rfl⟩ | exact Or.inr rfl | exact rv_Q _) ?_
        refine aw_get cl_L fl_L_29 (by decide) hR.obj rfl d_L_needWhatNeededOnesAwait_13 ?_
        refine aw_iload_n d_L_needWhatNeededOnesAwait_16 rfl rfl ?_
        refine aC_l4 hR rfl (show w < 4096 by omega) (hJ.rW hwW) d_L_needWhatNeededOnesAwait_17 ?_
        refine aw_astoreV_n d_L_needWhatNeededOnesAwait_18 rfl (by decide) (by first | exact Or.inl ⟨_, rfl⟩ | exact Or.inr rfl | exact rv_Q _) (by dsimp only [List.set]) ?_
        refine aw_aloadV_n d_L_needWhatNeededOnesAwait_19 rfl rfl (by first | exact Or.inl ⟨_, rfl⟩ | exact Or.inr rfl | exact rv_Q _) ?_
        refine aw_getE cl_Wait fl_L_318 (by decide) (hR.wait (hJ.hw hwW)) rfl hhv d_L_needWhatNeededOnesAwait_20 ?_
        refine aw_get cl_Section fl_L_237 (by decide) (hR.sec (hJ.hq hsrc)) rfl d_L_needWhatNeededOnesAwait_23 ?_
        refine aw_if_eq (tgt := 36) d_L_needWhatNeededOnesAwait_26 (by decide) (fun c26 => ?_) (fun c26 => ?_)
        · refine aw_null d_L_needWhatNeededOnesAwait_36 ?_
          refine aw_astoreV d_L_needWhatNeededOnesAwait_37 (by decide) (by first | exact Or.inl ⟨_, rfl⟩ | exact Or.inr rfl | exact rv_Q _) (by dsimp only [List.set]) ?_
          refine aw_aloadV d_L_needWhatNeededOnesAwait_39 rfl (by first | exact Or.inl ⟨_, rfl⟩ | exact Or.inr rfl | exact rv_Q _) ?_
          refine aw_ifnullN (tgt := 60) d_L_needWhatNeededOnesAwait_41 (by decide) ?_
          refine aw_iinc (v := nI (w + 1)) d_L_needWhatNeededOnesAwait_60 rfl (ax_inc w) (by decide) (by dsimp only [List.set]) ?_
          refine aw_goto (tgt := 4) d_L_needWhatNeededOnesAwait_63 (by decide) ?_
          exact ih (w + 1) a _ _ _ (by omega) he hR hF
        · exact absurd g1 c26
    · by_cases g2 : mTq tk (mT s e S) e w < 128
      · have hx : va_rf (cOp (mTq tk (mT s e S) e w < 128) (cQ c.2.2.2.2 (mTq tk (mT s e S) e w))) = .ref (cQ c.2.2.2.2 (mTq tk (mT s e S) e w)) := by rw [cOp_t g2]; rfl
        have hqt := htq w hwW g2
        refine aw_iload_n d_L_needWhatNeededOnesAwait_4 rfl rfl ?_
        refine aw_aloadV_n d_L_needWhatNeededOnesAwait_5 rfl rfl (by first | exact Or.inl ⟨_, rfl⟩ | exact Or.inr rfl | exact rv_Q _) ?_
        refine aw_getE cl_L fl_L_72 (by decide) hR.obj rfl (congrArg Value.int hJ.sW) d_L_needWhatNeededOnesAwait_6 ?_
        refine aw_icmp_ge (tgt := 66) d_L_needWhatNeededOnesAwait_9 (by decide) (fun c9 => ?_) (fun c9 => ?_)
        · exact absurd c9 (nI_ge (by omega) (by omega))
        · refine aw_aloadV_n d_L_needWhatNeededOnesAwait_12 rfl rfl (by first | exact Or.inl ⟨_, rfl⟩ | exact Or.inr rfl | exact rv_Q _) ?_
          refine aw_get cl_L fl_L_29 (by decide) hR.obj rfl d_L_needWhatNeededOnesAwait_13 ?_
          refine aw_iload_n d_L_needWhatNeededOnesAwait_16 rfl rfl ?_
          refine aC_l4 hR rfl (show w < 4096 by omega) (hJ.rW hwW) d_L_needWhatNeededOnesAwait_17 ?_
          refine aw_astoreV_n d_L_needWhatNeededOnesAwait_18 rfl (by decide) (by first | exact Or.inl ⟨_, rfl⟩ | exact Or.inr rfl | exact rv_Q _) (by dsimp only [List.set]) ?_
          refine aw_aloadV_n d_L_needWhatNeededOnesAwait_19 rfl rfl (by first | exact Or.inl ⟨_, rfl⟩ | exact Or.inr rfl | exact rv_Q _) ?_
          refine aw_getE cl_Wait fl_L_318 (by decide) (hR.wait (hJ.hw hwW)) rfl hhv d_L_needWhatNeededOnesAwait_20 ?_
          refine aw_get cl_Section fl_L_237 (by decide) (hR.sec (hJ.hq hsrc)) rfl d_L_needWhatNeededOnesAwait_23 ?_
          refine aw_if_eq (tgt := 36) d_L_needWhatNeededOnesAwait_26 (by decide) (fun c26 => ?_) (fun c26 => ?_)
          · exact absurd c26 g1
          · refine aw_aloadV_n d_L_needWhatNeededOnesAwait_29 rfl rfl (by first | exact Or.inl ⟨_, rfl⟩ | exact Or.inr rfl | exact rv_Q _) ?_
            refine aw_callV (c_Wait_target G _ o _ hR s e U S W T hJ1 hSb hUb i2 i3 i4 tk hB hwW) cl_Wait (hR.wait (hJ.hw hwW)) m_Wait_target ml_L_321 rfl rfl (by decide) (by decide) (Nat.le_of_ble_eq_true rfl) d_L_needWhatNeededOnesAwait_30 ?_
            rintro v h ⟨rfl, rfl⟩
            rw [hx]
            refine aw_goto (tgt := 37) d_L_needWhatNeededOnesAwait_33 (by decide) ?_
            refine aw_astoreV d_L_needWhatNeededOnesAwait_37 (by decide) (by first | exact Or.inl ⟨_, rfl⟩ | exact Or.inr rfl | exact rv_Q _) (by dsimp only [List.set]) ?_
            refine aw_aloadV d_L_needWhatNeededOnesAwait_39 rfl (by first | exact Or.inl ⟨_, rfl⟩ | exact Or.inr rfl | exact rv_Q _) ?_
            refine aw_ifnull d_L_needWhatNeededOnesAwait_41 ?_
            refine aw_aloadV d_L_needWhatNeededOnesAwait_44 rfl (by first | exact Or.inl ⟨_, rfl⟩ | exact Or.inr rfl | exact rv_Q _) ?_
            refine aw_get cl_Section fl_L_237 (by decide) (hR.sec (hJ.hq hqt)) rfl d_L_needWhatNeededOnesAwait_46 ?_
            refine aw_if_ne (tgt := 60) d_L_needWhatNeededOnesAwait_49 (by decide) (fun c49 => ?_) (fun c49 => ?_)
            · refine aw_iinc (v := nI (w + 1)) d_L_needWhatNeededOnesAwait_60 rfl (ax_inc w) (by decide) (by dsimp only [List.set]) ?_
              refine aw_goto (tgt := 4) d_L_needWhatNeededOnesAwait_63 (by decide) ?_
              rw [if_neg (fun q => c49 q.2.2)] at he
              exact ih (w + 1) a _ _ _ (by omega) he hR hF
            · refine aw_aloadV d_L_needWhatNeededOnesAwait_52 rfl (by first | exact Or.inl ⟨_, rfl⟩ | exact Or.inr rfl | exact rv_Q _) ?_
              refine aw_iconst (v := 1) d_L_needWhatNeededOnesAwait_54 (by decide) ?_
              refine aC_p27 hR (hJ.hq hqt) fl_L_237 rfl rfl d_L_needWhatNeededOnesAwait_55 (fun g55 hR55 hF55 => ?_)
              refine aw_iconst (v := 1) d_L_needWhatNeededOnesAwait_58 (by decide) ?_
              refine aw_istore_n d_L_needWhatNeededOnesAwait_59 rfl (by decide) (by dsimp only [List.set]) ?_
              refine aw_iinc (v := nI (w + 1)) d_L_needWhatNeededOnesAwait_60 rfl (ax_inc w) (by decide) (by dsimp only [List.set]) ?_
              refine aw_goto (tgt := 4) d_L_needWhatNeededOnesAwait_63 (by decide) ?_
              rw [if_pos ⟨g1, g2, c49⟩] at he
              refine ih (w + 1) (va_up a.1 (mTq tk (mT s e S) e w) 1, 1) _ _ _ (by omega) he ?_ (hF.tr hF55)
              have hR55 : cR o (cM c (va_up (va_up c.2.1 27 a.1) 27 (va_up a.1 (mTq tk (mT s e S) e w) 1)) c.2.2.2.1) g55 := hR55
              rw [bx_uu] at hR55
              exact hR55
      · have hx : va_rf (cOp (mTq tk (mT s e S) e w < 128) (cQ c.2.2.2.2 (mTq tk (mT s e S) e w))) = .null := by rw [cOp_f g2]; rfl
        rw [if_neg (fun q => g2 q.2.1)] at he
        refine aw_iload_n d_L_needWhatNeededOnesAwait_4 rfl rfl ?_
        refine aw_aloadV_n d_L_needWhatNeededOnesAwait_5 rfl rfl (by first | exact Or.inl ⟨_, rfl⟩ | exact Or.inr rfl | exact rv_Q _) ?_
        refine aw_getE cl_L fl_L_72 (by decide) hR.obj rfl (congrArg Value.int hJ.sW) d_L_needWhatNeededOnesAwait_6 ?_
        refine aw_icmp_ge (tgt := 66) d_L_needWhatNeededOnesAwait_9 (by decide) (fun c9 => ?_) (fun c9 => ?_)
        · exact absurd c9 (nI_ge (by omega) (by omega))
        · refine aw_aloadV_n d_L_needWhatNeededOnesAwait_12 rfl rfl (by first | exact Or.inl ⟨_, rfl⟩ | exact Or.inr rfl | exact rv_Q _) ?_
          refine aw_get cl_L fl_L_29 (by decide) hR.obj rfl d_L_needWhatNeededOnesAwait_13 ?_
          refine aw_iload_n d_L_needWhatNeededOnesAwait_16 rfl rfl ?_
          refine aC_l4 hR rfl (show w < 4096 by omega) (hJ.rW hwW) d_L_needWhatNeededOnesAwait_17 ?_
          refine aw_astoreV_n d_L_needWhatNeededOnesAwait_18 rfl (by decide) (by first | exact Or.inl ⟨_, rfl⟩ | exact Or.inr rfl | exact rv_Q _) (by dsimp only [List.set]) ?_
          refine aw_aloadV_n d_L_needWhatNeededOnesAwait_19 rfl rfl (by first | exact Or.inl ⟨_, rfl⟩ | exact Or.inr rfl | exact rv_Q _) ?_
          refine aw_getE cl_Wait fl_L_318 (by decide) (hR.wait (hJ.hw hwW)) rfl hhv d_L_needWhatNeededOnesAwait_20 ?_
          refine aw_get cl_Section fl_L_237 (by decide) (hR.sec (hJ.hq hsrc)) rfl d_L_needWhatNeededOnesAwait_23 ?_
          refine aw_if_eq (tgt := 36) d_L_needWhatNeededOnesAwait_26 (by decide) (fun c26 => ?_) (fun c26 => ?_)
          · exact absurd c26 g1
          · refine aw_aloadV_n d_L_needWhatNeededOnesAwait_29 rfl rfl (by first | exact Or.inl ⟨_, rfl⟩ | exact Or.inr rfl | exact rv_Q _) ?_
            refine aw_callV (c_Wait_target G _ o _ hR s e U S W T hJ1 hSb hUb i2 i3 i4 tk hB hwW) cl_Wait (hR.wait (hJ.hw hwW)) m_Wait_target ml_L_321 rfl rfl (by decide) (by decide) (Nat.le_of_ble_eq_true rfl) d_L_needWhatNeededOnesAwait_30 ?_
            rintro v h ⟨rfl, rfl⟩
            rw [hx]
            refine aw_goto (tgt := 37) d_L_needWhatNeededOnesAwait_33 (by decide) ?_
            refine aw_astoreV d_L_needWhatNeededOnesAwait_37 (by decide) (by first | exact Or.inl ⟨_, rfl⟩ | exact Or.inr rfl | exact rv_Q _) (by dsimp only [List.set]) ?_
            refine aw_aloadV d_L_needWhatNeededOnesAwait_39 rfl (by first | exact Or.inl ⟨_, rfl⟩ | exact Or.inr rfl | exact rv_Q _) ?_
            refine aw_ifnullN (tgt := 60) d_L_needWhatNeededOnesAwait_41 (by decide) ?_
            refine aw_iinc (v := nI (w + 1)) d_L_needWhatNeededOnesAwait_60 rfl (ax_inc w) (by decide) (by dsimp only [List.set]) ?_
            refine aw_goto (tgt := 4) d_L_needWhatNeededOnesAwait_63 (by decide) ?_
            exact ih (w + 1) a _ _ _ (by omega) he hR hF
set_option maxRecDepth 20000 in
theorem c_L_pass (G : ax_G) (h : ax_H) (o : Nat) (c : cSt) (hR : cR o c h) (s : mSt) (e : Nat → Nat → Nat) (U S W T : Nat) (hJ : cJ c s e U S W T) (hWb : W ≤ 4096) (hSb : S ≤ 2048) (hUb : U ≤ 32) (i2 : mI2 s e U S) (i3 : mI3 s e S) (i4 : mI4 s e U S W) (tk : Nat → Int32) (hB : cBk s e S c.2.2.2.2 tk c.2.2.2.1 S) (htq : ∀ w, w < W → mTq tk (mT s e S) e w < 128 → mTq tk (mT s e S) e w < 4 * U) : AM G Y_L_needWhatNeededOnesAwait 3 61 [.ref o] h (fun v h2 => cR o (cM c (va_up c.2.1 27 (mPassL (mTq tk (mT s e S) e) (mSrc e) W 0 (c.2.1 27, 0)).1) c.2.2.2.1) h2 ∧ v = some (.int (mPassL (mTq tk (mT s e S) e) (mSrc e) W 0 (c.2.1 27, 0)).2) ∧ cFr o (c.2.2.2.2.2 5) h h2) := by
  refine aw_enter (by decide) (Nat.le_of_ble_eq_true rfl) (n := 4) (ls := [some (.ref o), none, none, none, none]) rfl (fun x => ?_)
  refine aw_iconst (v := 0) d_L_needWhatNeededOnesAwait_0 (by decide) ?_
  refine aw_istore_n d_L_needWhatNeededOnesAwait_1 rfl (by decide) (by dsimp only [List.set]) ?_
  refine aw_iconst (v := 0) d_L_needWhatNeededOnesAwait_2 (by decide) ?_
  refine aw_istore_n d_L_needWhatNeededOnesAwait_3 rfl (by decide) (by dsimp only [List.set]) ?_
  have e27 : va_up c.2.1 27 (c.2.1 27) = c.2.1 := mUid c.2.1 27
  refine l_L_pass s e U S W T hJ hWb hSb hUb i2 i3 i4 tk hB htq h _ (mPassL_01 _ _ W 0 (c.2.1 27, 0) (Or.inl rfl)) (fun h2 a1 a2 => ⟨a1, rfl, a2⟩) W 0 (c.2.1 27, 0) h _ _ (by omega) rfl ?_ (cFr.rf _ _ _)
  show cR o (cM c (va_up c.2.1 27 (c.2.1 27)) c.2.2.2.1) h
  rw [e27]
  exact hR
