set_option maxRecDepth 20000 in
theorem k_Needed (G : ax_G) (o : Nat) : lawNeeded G (cC o) o (o + 17) (o + 53) := by
  intro s e U S W T B n h u a hV hM hC
  obtain ⟨c, hR, hJ, hKi, hKn, hKf, hKb, hRm⟩ := hC
  have hy := hV.1
  refine aw_enter (by decide) (Nat.le_of_ble_eq_true rfl) (n := 1) (ls := [some (.ref o), some (.int u), some (.int a), none]) rfl (fun x => ?_)
  by_cases d1 : u < 0
  · refine aw_iload_n d_L_needed_0 rfl rfl ?_
    refine aw_if_lt (tgt := 12) d_L_needed_1 (by decide) (fun c1 => ?_) (fun c1 => ?_)
    · refine aw_iconst (v := (-1)) d_L_needed_12 (by decide) ?_
      refine aw_iret ?_ rfl d_L_needed_13
      exact ⟨by rw [mNeeded, if_pos (Or.inl d1)], ⟨c, hR, hJ, hKi, hKn, hKf, hKb, hRm.dn⟩, lawF.rf _ _ _⟩
    · exact absurd d1 c1
  · by_cases d9 : u < nI U
    · have hu : iN u < U := iN_lt (by have := hy.2.1; omega) (Int32.not_lt.mp d1) d9
      have hU := hy.2.1
      have eu : nI (iN u) = u := nI_iN (Int32.not_lt.mp d1)
      by_cases ha : 0 ≤ a ∧ a ≤ 3
      · have hx : va_rf (cOp (0 ≤ a ∧ a ≤ 3) (cQ c.2.2.2.2 (4 * iN u + iN a))) = .ref (cQ c.2.2.2.2 (4 * iN u + iN a)) := by rw [cOp_t ha]; rfl
        have ha3 : iN a ≤ 3 := iN_le (n := 3) (by decide) ha.1 ha.2
        have hq : 4 * iN u + iN a < 4 * U := by omega
        have hz := hKn.2.1 _ hq
        rw [show (4 * iN u + iN a) / 4 = iN u by omega, eu] at hz
        have hm : ∀ z, z = zI (u < s.1 36 ∧ ¬ s.2.1 28 (4 * iN u + iN a) = 0) → z = mNeeded s u a := by
          intro z ez
          rw [mNeeded, hy.1, if_neg (fun q => q.elim d1 (fun q => q.elim (fun z => absurd d9 (Int32.not_lt.mpr z)) (fun q => q.elim (fun z => absurd ha.1 (Int32.not_le.mpr z)) (fun z => absurd ha.2 (Int32.not_le.mpr z)))))]
          exact ez
        refine aw_iload_n d_L_needed_0 rfl rfl ?_
        refine aw_if_lt (tgt := 12) d_L_needed_1 (by decide) (fun c1 => ?_) (fun c1 => ?_)
        · exact absurd c1 d1
        · refine aw_iload_n d_L_needed_4 rfl rfl ?_
          refine aw_aloadV_n d_L_needed_5 rfl rfl (by first | exact Or.inl ⟨_, rfl⟩ | exact Or.inr rfl | exact rv_Q _) ?_
          refine aw_getE cl_L fl_L_62 (by decide) hR.obj rfl (congrArg Value.int hJ.sU) d_L_needed_6 ?_
          refine aw_icmp_lt (tgt := 14) d_L_needed_9 (by decide) (fun c9 => ?_) (fun c9 => ?_)
          · refine aw_aloadV_n d_L_needed_14 rfl rfl (by first | exact Or.inl ⟨_, rfl⟩ | exact Or.inr rfl | exact rv_Q _) ?_
            refine aw_get cl_L fl_L_11 (by decide) hR.obj rfl d_L_needed_15 ?_
            refine aw_iload_n d_L_needed_18 rfl rfl ?_
            refine aC_l1 hR eu.symm (show iN u < 32 by omega) (hJ.rU hu) d_L_needed_19 ?_
            refine aw_iload_n d_L_needed_20 rfl rfl ?_
            refine aw_callV (c_Unit_sectionOfKind G _ o c hR (hJ.hu hu) a) cl_Unit (hR.unit (hJ.hu hu)) m_Unit_sectionOfKind ml_L_167 rfl rfl (by decide) (by decide) (Nat.le_of_ble_eq_true rfl) d_L_needed_21 ?_
            rintro v h' ⟨rfl, rfl⟩
            rw [hx]
            refine aw_astoreV_n d_L_needed_24 rfl (by decide) (by first | exact Or.inl ⟨_, rfl⟩ | exact Or.inr rfl | exact rv_Q _) (by dsimp only [List.set]) ?_
            refine aw_aloadV_n d_L_needed_25 rfl rfl (by first | exact Or.inl ⟨_, rfl⟩ | exact Or.inr rfl | exact rv_Q _) ?_
            refine aw_ifnonnull (tgt := 31) d_L_needed_26 (by decide) ?_
            refine aw_aloadV_n d_L_needed_31 rfl rfl (by first | exact Or.inl ⟨_, rfl⟩ | exact Or.inr rfl | exact rv_Q _) ?_
            refine aw_get cl_Section fl_L_237 (by decide) (hR.sec (hJ.hq hq)) rfl d_L_needed_32 ?_
            refine aw_if_eq (tgt := 42) d_L_needed_35 (by decide) (fun c35 => ?_) (fun c35 => ?_)
            · refine aw_iconst (v := 0) d_L_needed_42 (by decide) ?_
              refine aw_iret ?_ rfl d_L_needed_43
              refine ⟨?_, ⟨c, hR, hJ, hKi, hKn, hKf, hKb, hRm.dn⟩, lawF.rf _ _ _⟩
              rw [← hm 0 (by rw [← hz]; exact (by assumption : c.2.1 27 (4 * iN u + iN a) = 0).symm)]
            · refine aw_iconst (v := 1) d_L_needed_38 (by decide) ?_
              refine aw_goto (tgt := 43) d_L_needed_39 (by decide) ?_
              refine aw_iret ?_ rfl d_L_needed_43
              refine ⟨?_, ⟨c, hR, hJ, hKi, hKn, hKf, hKb, hRm.dn⟩, lawF.rf _ _ _⟩
              rw [← hm 1 (by rw [zI_1 (zI_t (by rw [← hz]; assumption))])]
          · exact absurd d9 c9
      · have hx : va_rf (cOp (0 ≤ a ∧ a ≤ 3) (cQ c.2.2.2.2 (4 * iN u + iN a))) = .null := by rw [cOp_f ha]; rfl
        refine aw_iload_n d_L_needed_0 rfl rfl ?_
        refine aw_if_lt (tgt := 12) d_L_needed_1 (by decide) (fun c1 => ?_) (fun c1 => ?_)
        · exact absurd c1 d1
        · refine aw_iload_n d_L_needed_4 rfl rfl ?_
          refine aw_aloadV_n d_L_needed_5 rfl rfl (by first | exact Or.inl ⟨_, rfl⟩ | exact Or.inr rfl | exact rv_Q _) ?_
          refine aw_getE cl_L fl_L_62 (by decide) hR.obj rfl (congrArg Value.int hJ.sU) d_L_needed_6 ?_
          refine aw_icmp_lt (tgt := 14) d_L_needed_9 (by decide) (fun c9 => ?_) (fun c9 => ?_)
          · refine aw_aloadV_n d_L_needed_14 rfl rfl (by first | exact Or.inl ⟨_, rfl⟩ | exact Or.inr rfl | exact rv_Q _) ?_
            refine aw_get cl_L fl_L_11 (by decide) hR.obj rfl d_L_needed_15 ?_
            refine aw_iload_n d_L_needed_18 rfl rfl ?_
            refine aC_l1 hR eu.symm (show iN u < 32 by omega) (hJ.rU hu) d_L_needed_19 ?_
            refine aw_iload_n d_L_needed_20 rfl rfl ?_
            refine aw_callV (c_Unit_sectionOfKind G _ o c hR (hJ.hu hu) a) cl_Unit (hR.unit (hJ.hu hu)) m_Unit_sectionOfKind ml_L_167 rfl rfl (by decide) (by decide) (Nat.le_of_ble_eq_true rfl) d_L_needed_21 ?_
            rintro v h' ⟨rfl, rfl⟩
            rw [hx]
            refine aw_astoreV_n d_L_needed_24 rfl (by decide) (by first | exact Or.inl ⟨_, rfl⟩ | exact Or.inr rfl | exact rv_Q _) (by dsimp only [List.set]) ?_
            refine aw_aloadV_n d_L_needed_25 rfl rfl (by first | exact Or.inl ⟨_, rfl⟩ | exact Or.inr rfl | exact rv_Q _) ?_
            refine aw_ifnonnullN d_L_needed_26 ?_
            refine aw_iconst (v := (-1)) d_L_needed_29 (by decide) ?_
            refine aw_iret ?_ rfl d_L_needed_30
            refine ⟨?_, ⟨c, hR, hJ, hKi, hKn, hKf, hKb, hRm.dn⟩, lawF.rf _ _ _⟩
            rw [mNeeded, if_pos (Or.inr (Or.inr ?_))]
            exact Classical.byContradiction (fun q => ha ⟨Int32.not_lt.mp (fun z => q (Or.inl z)), Int32.not_lt.mp (fun z => q (Or.inr z))⟩)
          · exact absurd d9 c9
    · refine aw_iload_n d_L_needed_0 rfl rfl ?_
      refine aw_if_lt (tgt := 12) d_L_needed_1 (by decide) (fun c1 => ?_) (fun c1 => ?_)
      · exact absurd c1 d1
      · refine aw_iload_n d_L_needed_4 rfl rfl ?_
        refine aw_aloadV_n d_L_needed_5 rfl rfl (by first | exact Or.inl ⟨_, rfl⟩ | exact Or.inr rfl | exact rv_Q _) ?_
        refine aw_getE cl_L fl_L_62 (by decide) hR.obj rfl (congrArg Value.int hJ.sU) d_L_needed_6 ?_
        refine aw_icmp_lt (tgt := 14) d_L_needed_9 (by decide) (fun c9 => ?_) (fun c9 => ?_)
        · exact absurd c9 d9
        · refine aw_iconst (v := (-1)) d_L_needed_12 (by decide) ?_
          refine aw_iret ?_ rfl d_L_needed_13
          exact ⟨by rw [mNeeded, hy.1, if_pos (Or.inr (Or.inl (Int32.not_lt.mp d9)))], ⟨c, hR, hJ, hKi, hKn, hKf, hKb, hRm.dn⟩, lawF.rf _ _ _⟩
theorem cR.less {o : Nat} {c : cSt} {h : ax_H} (hR : cR o c h) (f : Nat → Int32) (hf : ∀ k, 15 ≤ k → f k = c.1 k) (h2 : ax_H) (he : cR o (f, c.2) h2) : cR o (f, c.2.1, c.2.2.1, c.2.2.2.1, (c.2.2.2.2.1, va_up (fun _ => 0) 5 (c.2.2.2.2.2 5))) h2 := by
  obtain ⟨⟨a1, a2, a3, a4⟩, b1, b2⟩ := he
  have key : ∀ k i, cV (c.2.2.2.2.1, va_up (fun _ => 0) 5 (c.2.2.2.2.2 5)) k i → k < 17 ∧ cV c.2.2.2.2 k i := by
    intro k i hv
    obtain ⟨v1, v2⟩ := hv
    match k, v1, v2 with
    | 0, _, v2 => exact ⟨by decide, by decide, v2⟩
    | 1, _, v2 => exact ⟨by decide, by decide, v2⟩
    | 2, _, v2 => exact ⟨by decide, by decide, v2⟩
    | 3, _, v2 => exact ⟨by decide, by decide, v2⟩
    | 4, _, v2 => exact ⟨by decide, by decide, v2⟩
    | 5, _, v2 => exact ⟨by decide, by decide, v2⟩
    | 6, _, v2 => exact ⟨by decide, by decide, v2⟩
    | 7, _, v2 => exact ⟨by decide, by decide, v2⟩
    | 8, _, v2 => exact ⟨by decide, by decide, v2⟩
    | 9, _, v2 => exact ⟨by decide, by decide, v2⟩
    | 10, _, v2 => exact ⟨by decide, by decide, v2⟩
    | 11, _, v2 => exact ⟨by decide, by decide, v2⟩
    | 12, _, v2 => exact ⟨by decide, by decide, v2⟩
    | 13, _, v2 => exact ⟨by decide, by decide, v2⟩
    | 14, _, v2 => exact ⟨by decide, by decide, v2⟩
    | 15, _, v2 => exact ⟨by decide, by decide, v2⟩
    | 16, _, v2 => exact ⟨by decide, by decide, v2⟩
    | 17, _, v2 => exact absurd v2 (Nat.not_lt_zero _)
    | 18, _, v2 => exact absurd v2 (Nat.not_lt_zero _)
    | 19, _, v2 => exact absurd v2 (Nat.not_lt_zero _)
    | 20, _, v2 => exact absurd v2 (Nat.not_lt_zero _)
    | 21, _, v2 => exact absurd v2 (Nat.not_lt_zero _)
    | 22, _, v2 => exact absurd v2 (Nat.not_lt_zero _)
    | 23, _, v2 => exact absurd v2 (Nat.not_lt_zero _)
    | k + 24, v1, _ => exact absurd v1 (by omega)
  refine ⟨⟨fun k i k2 i2 v1 v2 q => a1 k i k2 i2 (key k i v1).2 (key k2 i2 v2).2 q, fun k i v1 q => absurd (key k i v1).1 (by omega), a3, fun i q => absurd q (Nat.not_lt_zero _), fun i q => absurd q (Nat.not_lt_zero _), fun i q => absurd q (Nat.not_lt_zero _)⟩, b1, fun k i v1 => ?_⟩
  have := b2 k i (key k i v1).2
  have hk := (key k i v1).1
  match k, hk, this with
  | 0, _, this => exact this
  | 1, _, this => exact this
  | 2, _, this => exact this
  | 3, _, this => exact this
  | 4, _, this => exact this
  | 5, _, this => exact this
  | 6, _, this => exact this
  | 7, _, this => exact this
  | 8, _, this => exact this
  | 9, _, this => exact this
  | 10, _, this => exact this
  | 11, _, this => exact this
  | 12, _, this => exact this
  | 13, _, this => exact this
  | 14, _, this => exact this
  | 15, _, this => exact this
  | 16, _, this => exact this
  | k + 17, hk, _ => exact absurd hk (by omega)
set_option maxRecDepth 20000 in
theorem k_Clear (G : ax_G) (o : Nat) : lawClear G (cC o) o (o + 17) (o + 53) := by
  intro s e U S W T B n h hV hM hC
  obtain ⟨c, hR, hJ, hKi, hKn, hKf, hKb, hRm⟩ := hC
  refine aw_enter (by decide) (Nat.le_of_ble_eq_true rfl) (n := 0) (ls := [some (.ref o)]) rfl (fun x => ?_)
  refine aw_aloadV_n d_L_clear_0 rfl rfl (by first | exact Or.inl ⟨_, rfl⟩ | exact Or.inr rfl | exact rv_Q _) ?_
  refine aw_iconst (v := 0) d_L_clear_1 (by decide) ?_
  refine aC_p9 hR fl_L_62 rfl rfl d_L_clear_2 (fun g2 hR2 hF2 => ?_)
  refine aw_aloadV_n d_L_clear_5 rfl rfl (by first | exact Or.inl ⟨_, rfl⟩ | exact Or.inr rfl | exact rv_Q _) ?_
  refine aw_iconst (v := 0) d_L_clear_6 (by decide) ?_
  refine aC_p10 hR2 fl_L_66 rfl rfl d_L_clear_7 (fun g7 hR7 hF7 => ?_)
  refine aw_aloadV_n d_L_clear_10 rfl rfl (by first | exact Or.inl ⟨_, rfl⟩ | exact Or.inr rfl | exact rv_Q _) ?_
  refine aw_iconst (v := 0) d_L_clear_11 (by decide) ?_
  refine aC_p11 hR7 fl_L_69 rfl rfl d_L_clear_12 (fun g12 hR12 hF12 => ?_)
  refine aw_aloadV_n d_L_clear_15 rfl rfl (by first | exact Or.inl ⟨_, rfl⟩ | exact Or.inr rfl | exact rv_Q _) ?_
  refine aw_iconst (v := 0) d_L_clear_16 (by decide) ?_
  refine aC_p12 hR12 fl_L_72 rfl rfl d_L_clear_17 (fun g17 hR17 hF17 => ?_)
  refine aw_aloadV_n d_L_clear_20 rfl rfl (by first | exact Or.inl ⟨_, rfl⟩ | exact Or.inr rfl | exact rv_Q _) ?_
  refine aw_iconst (v := 0) d_L_clear_21 (by decide) ?_
  refine aC_p13 hR17 fl_L_75 rfl rfl d_L_clear_22 (fun g22 hR22 hF22 => ?_)
  refine aw_aloadV_n d_L_clear_25 rfl rfl (by first | exact Or.inl ⟨_, rfl⟩ | exact Or.inr rfl | exact rv_Q _) ?_
  refine aw_iconst (v := 0) d_L_clear_26 (by decide) ?_
  refine aC_p14 hR22 fl_L_78 rfl rfl d_L_clear_27 (fun g27 hR27 hF27 => ?_)
  refine aw_vret ?_ rfl d_L_clear_30
  have hF := (((((hF2.tr hF7).tr hF12).tr hF17).tr hF22).tr hF27)
  refine ⟨rfl, ⟨(va_up (va_up (va_up (va_up (va_up (va_up c.1 9 0) 10 0) 11 0) 12 0) 13 0) 14 0, c.2.1, c.2.2.1, c.2.2.2.1, (c.2.2.2.2.1, va_up (fun _ => 0) 5 (c.2.2.2.2.2 5))), hR.less _ (fun k hk => ?_) _ hR27, ?_, hKi, ⟨⟨0, Nat.le_refl _, rfl⟩, fun q hq => absurd hq (by omega), Nat.le_refl _⟩, hKf, ⟨rfl, fun i q => absurd q (Nat.not_lt_zero _), hKb.2.2⟩, hRm.fr hF⟩, hF.law⟩
  · rw [va_up_ne _ _ (by omega), va_up_ne _ _ (by omega), va_up_ne _ _ (by omega), va_up_ne _ _ (by omega), va_up_ne _ _ (by omega), va_up_ne _ _ (by omega)]
  · exact ⟨⟨rfl, rfl, rfl, rfl, Nat.zero_le _, rfl, rfl, rfl, rfl, rfl⟩, fun j q => absurd q (Nat.not_lt_zero _), fun j q => absurd q (by omega), fun j q => absurd q (Nat.not_lt_zero _), fun j q => absurd q (Nat.not_lt_zero _), fun j q => absurd q (Nat.not_lt_zero _), fun j q => absurd q (Nat.not_lt_zero _)⟩
theorem cJ.keep {c : cSt} {s : mSt} {e : Nat → Nat → Nat} {U S W T : Nat} (h : cJ c s e U S W T) (q : Nat) (z : Nat → Int32) : cJ (c.1, va_up c.2.1 26 (va_up (c.2.1 26) q 1), c.2.2) (z, va_up s.2.1 2 (va_up (s.2.1 2) q 1), s.2.2) e U S W T := by
  obtain ⟨h1, h2, h3, h4, h5, h6, h7⟩ := h
  refine ⟨h1, h2, fun j hj => ⟨(h3 j hj).1, (h3 j hj).2.1, ?_⟩, h4, h5, h6, h7⟩
  have := (h3 j hj).2.2
  show va_up (c.2.1 26) q 1 j = va_up (s.2.1 2) q 1 j
  by_cases hq : j = q
  · rw [hq, va_up_self, va_up_self]
  · rw [va_up_ne _ _ hq, va_up_ne _ _ hq]
    exact this
set_option maxRecDepth 20000 in
theorem k_Keep (G : ax_G) (o : Nat) : lawKeep G (cC o) o (o + 17) (o + 53) := by
  intro s e U S W T B n h a hV hM hC
  obtain ⟨c, hR, hJ, hKi, hKn, hKf, hKb, hRm⟩ := hC
  have hy := hV.1
  refine aw_enter (by decide) (Nat.le_of_ble_eq_true rfl) (n := 1) (ls := [some (.ref o), some (.int a), none]) rfl (fun x => ?_)
  by_cases hk : mKeepOk U a
  · have hx : va_rf (cOp (mKeepOk U a) (cQ c.2.2.2.2 (4 * (U - 1) + iN a))) = .ref (cQ c.2.2.2.2 (4 * (U - 1) + iN a)) := by rw [cOp_t hk]; rfl
    have ha3 : iN a ≤ 3 := iN_le (n := 3) (by decide) hk.2.1 hk.2.2
    have hU0 := hk.1
    have hq : 4 * (U - 1) + iN a < 4 * U := by omega
    refine aw_aloadV_n d_L_keep_0 rfl rfl (by first | exact Or.inl ⟨_, rfl⟩ | exact Or.inr rfl | exact rv_Q _) ?_
    refine aw_iload_n d_L_keep_1 rfl rfl ?_
    refine aw_callV (c_L_latestSection G _ o c hR s e U S W T hJ hy.2.1 a) cl_L hR.obj m_L_latestSection ml_L_107 rfl rfl (by decide) (by decide) (Nat.le_of_ble_eq_true rfl) d_L_keep_2 ?_
    rintro v h' ⟨rfl, rfl⟩
    rw [hx]
    refine aw_astoreV_n d_L_keep_5 rfl (by decide) (by first | exact Or.inl ⟨_, rfl⟩ | exact Or.inr rfl | exact rv_Q _) (by dsimp only [List.set]) ?_
    refine aw_aloadV_n d_L_keep_6 rfl rfl (by first | exact Or.inl ⟨_, rfl⟩ | exact Or.inr rfl | exact rv_Q _) ?_
    refine aw_ifnonnull (tgt := 12) d_L_keep_7 (by decide) ?_
    refine aw_aloadV_n d_L_keep_12 rfl rfl (by first | exact Or.inl ⟨_, rfl⟩ | exact Or.inr rfl | exact rv_Q _) ?_
    refine aw_iconst (v := 1) d_L_keep_13 (by decide) ?_
    refine aC_p26 hR (hJ.hq hq) fl_L_122 rfl rfl d_L_keep_14 (fun g14 hR14 hF14 => ?_)
    refine aw_iconst (v := 1) d_L_keep_17 (by decide) ?_
    refine aw_zret ?_ rfl rfl d_L_keep_18
    have hF := hF14
    rw [if_pos hk]
    exact ⟨by rw [zI_1 hk], ⟨_, hR14, hJ.keep _ _, hKi, hKn, hKf, hKb, hRm.fr hF⟩, hF.law⟩
  · have hx : va_rf (cOp (mKeepOk U a) (cQ c.2.2.2.2 (4 * (U - 1) + iN a))) = .null := by rw [cOp_f hk]; rfl
    refine aw_aloadV_n d_L_keep_0 rfl rfl (by first | exact Or.inl ⟨_, rfl⟩ | exact Or.inr rfl | exact rv_Q _) ?_
    refine aw_iload_n d_L_keep_1 rfl rfl ?_
    refine aw_callV (c_L_latestSection G _ o c hR s e U S W T hJ hy.2.1 a) cl_L hR.obj m_L_latestSection ml_L_107 rfl rfl (by decide) (by decide) (Nat.le_of_ble_eq_true rfl) d_L_keep_2 ?_
    rintro v h' ⟨rfl, rfl⟩
    rw [hx]
    refine aw_astoreV_n d_L_keep_5 rfl (by decide) (by first | exact Or.inl ⟨_, rfl⟩ | exact Or.inr rfl | exact rv_Q _) (by dsimp only [List.set]) ?_
    refine aw_aloadV_n d_L_keep_6 rfl rfl (by first | exact Or.inl ⟨_, rfl⟩ | exact Or.inr rfl | exact rv_Q _) ?_
    refine aw_ifnonnullN d_L_keep_7 ?_
    refine aw_iconst (v := 0) d_L_keep_10 (by decide) ?_
    refine aw_zret ?_ rfl rfl d_L_keep_11
    rw [if_neg hk]
    exact ⟨by rw [zI_0 hk], ⟨c, hR, hJ, hKi, hKn, hKf, hKb, hRm.dn⟩, lawF.rf _ _ _⟩
theorem mPutB_fits {f : Nat → Int32} (a : Nat) (v : Int64) (hf : ∀ i, fits .byte (.int (f i)) = true) : ∀ k i, fits .byte (.int (mPutB f a v k i)) = true := by
  intro k
  induction k with
  | zero => exact hf
  | succ k ih =>
    intro i
    rw [mPutB]
    by_cases hi : i = a + k
    · rw [hi, va_up_self, mByte]
      exact pk_fb _
    · rw [va_up_ne _ _ hi]
      exact ih i
theorem mPutB_eq {f g : Nat → Int32} {B : Nat} (a : Nat) (v : Int64) (hf : ∀ i, i < B → f i = g i) : ∀ k i, i < B → mPutB f a v k i = mPutB g a v k i := by
  intro k
  induction k with
  | zero => exact hf
  | succ k ih =>
    intro i hB
    rw [mPutB, mPutB]
    by_cases hi : i = a + k
    · rw [hi, va_up_self, va_up_self]
    · rw [va_up_ne _ _ hi, va_up_ne _ _ hi]
      exact ih i hB
theorem i32_18 {k : Int32} (h1 : 1 ≤ k) (h8 : k ≤ 8) : ∃ N : Nat, k = nI N ∧ 1 ≤ N ∧ N ≤ 8 := by
  have h0 : (0 : Int32) ≤ k := Int32.le_trans (by decide) h1
  refine ⟨iN k, (nI_iN h0).symm, ?_, iN_le (n := 8) (by decide) h0 h8⟩
  obtain ⟨j, j1, rfl⟩ := nI_of (Int32.not_lt.mpr h0)
  have := (nI_leI (a := 1) (by decide) j1).mp h1
  rw [iN, nI_clamp j1]
  exact this
theorem i32_sub {p z : Int32} {m N : Nat} (hz : z = nI m) (hm : m ≤ 65536) (hN : N ≤ 65536) (h0 : 0 ≤ p) (h : p ≤ z - nI N) : iN p + N ≤ m := by
  obtain ⟨j, j1, rfl⟩ := nI_of (Int32.not_lt.mpr h0)
  rw [hz] at h
  have h := Int32.le_iff_toInt_le.mp h
  rw [pk_sub_toInt (by omega) (by omega), nI_toInt j1] at h
  rw [iN, nI_clamp j1]
  omega
theorem i32_lt3 {a : Int32} (h : a ≤ 3) (h2 : ¬ a = 3) : a < 3 := Int32.lt_of_le_of_ne h h2
theorem i32_le3b {a : Int32} (h : a < 3) : a ≤ 3 := Int32.le_of_lt h
set_option maxRecDepth 20000 in
theorem k_Put (G : ax_G) (o : Nat) : lawPut G (cC o) o (o + 17) (o + 53) := by
  intro s e U S W T B n h a p w k hV hM hC
  obtain ⟨c, hR, hJ, hKi, hKn, hKf, hKb, hRm⟩ := hC
  have hy := hV.1
  refine aw_enter (by decide) (Nat.le_of_ble_eq_true rfl) (n := 1) (ls := [some (.ref o), some (.int a), some (.int p), some (.long w), none, some (.int k), none]) rfl (fun x => ?_)
  by_cases hk : mKeepOk U a
  · have hx : va_rf (cOp (mKeepOk U a) (cQ c.2.2.2.2 (4 * (U - 1) + iN a))) = .ref (cQ c.2.2.2.2 (4 * (U - 1) + iN a)) := by rw [cOp_t hk]; rfl
    have ha3 : iN a ≤ 3 := iN_le (n := 3) (by decide) hk.2.1 hk.2.2
    have hU0 := hk.1
    have hq : 4 * (U - 1) + iN a < 4 * U := by omega
    have hsz := hJ.size hq
    refine aw_aloadV_n d_L_put_0 rfl rfl (by first | exact Or.inl ⟨_, rfl⟩ | exact Or.inr rfl | exact rv_Q _) ?_
    refine aw_iload_n d_L_put_1 rfl rfl ?_
    refine aw_callV (c_L_latestSection G _ o c hR s e U S W T hJ hy.2.1 a) cl_L hR.obj m_L_latestSection ml_L_107 rfl rfl (by decide) (by decide) (Nat.le_of_ble_eq_true rfl) d_L_put_2 ?_
    rintro v h' ⟨rfl, rfl⟩
    rw [hx]
    refine aw_astoreV d_L_put_5 (by decide) (by first | exact Or.inl ⟨_, rfl⟩ | exact Or.inr rfl | exact rv_Q _) (by dsimp only [List.set]) ?_
    refine aw_aloadV d_L_put_7 rfl (by first | exact Or.inl ⟨_, rfl⟩ | exact Or.inr rfl | exact rv_Q _) ?_
    refine aw_ifnull d_L_put_9 ?_
    refine aw_iload_n d_L_put_12 rfl rfl ?_
    refine aw_iconst (v := 3) d_L_put_13 (by decide) ?_
    refine aw_icmp_eq (tgt := 41) d_L_put_14 (by decide) (fun c14 => ?_) (fun c14 => ?_)
    · refine aw_iconst (v := 0) d_L_put_41 (by decide) ?_
      refine aw_zret ?_ rfl rfl d_L_put_42
      have hok : ¬ mPutOk s U a p k := fun q => absurd q.2.2.2.1 (by rw [c14]; decide)
      rw [mPut, if_neg hok]
      exact ⟨by rw [zI_0 hok], ⟨c, hR, hJ, hKi, hKn, hKf, hKb, hRm.dn⟩, lawF.rf _ _ _⟩
    · refine aw_iload d_L_put_17 rfl ?_
      refine aw_iconst (v := 1) d_L_put_19 (by decide) ?_
      refine aw_icmp_lt (tgt := 41) d_L_put_20 (by decide) (fun c20 => ?_) (fun c20 => ?_)
      · refine aw_iconst (v := 0) d_L_put_41 (by decide) ?_
        refine aw_zret ?_ rfl rfl d_L_put_42
        have hok : ¬ mPutOk s U a p k := fun q => absurd q.1.1 (Int32.not_le.mpr c20)
        rw [mPut, if_neg hok]
        exact ⟨by rw [zI_0 hok], ⟨c, hR, hJ, hKi, hKn, hKf, hKb, hRm.dn⟩, lawF.rf _ _ _⟩
      · refine aw_iload d_L_put_23 rfl ?_
        refine aw_bipush (v := 8) d_L_put_25 (by decide) ?_
        refine aw_icmp_gt (tgt := 41) d_L_put_27 (by decide) (fun c27 => ?_) (fun c27 => ?_)
        · refine aw_iconst (v := 0) d_L_put_41 (by decide) ?_
          refine aw_zret ?_ rfl rfl d_L_put_42
          have hok : ¬ mPutOk s U a p k := fun q => absurd q.1.2 (Int32.not_le.mpr c27)
          rw [mPut, if_neg hok]
          exact ⟨by rw [zI_0 hok], ⟨c, hR, hJ, hKi, hKn, hKf, hKb, hRm.dn⟩, lawF.rf _ _ _⟩
        · refine aw_aloadV d_L_put_30 rfl (by first | exact Or.inl ⟨_, rfl⟩ | exact Or.inr rfl | exact rv_Q _) ?_
          refine aw_iload_n d_L_put_32 rfl rfl ?_
          refine aw_iload d_L_put_33 rfl ?_
          refine aw_callV (c_Section_holds G _ o c hR (hJ.hq hq) p k) cl_Section (hR.sec (hJ.hq hq)) m_Section_holds ml_L_111 rfl rfl (by decide) (by decide) (Nat.le_of_ble_eq_true rfl) d_L_put_35 ?_
          rintro v h' ⟨rfl, rfl⟩
          refine aw_if_ne (tgt := 43) d_L_put_38 (by decide) (fun c38 => ?_) (fun c38 => ?_)
          · have hp := zI_t c38
            have hp : 0 ≤ p ∧ p ≤ c.2.1 24 (4 * (U - 1) + iN a) - k := hp
            obtain ⟨N, hN, N1, N8⟩ := i32_18 (Int32.not_lt.mp c20) (Int32.not_lt.mp c27)
            have hi1 := hy.2.2.2.2.2.2.2.2.2.1 _ hq
            have ha2 : iN a < 3 := by have := i32_lt3 hk.2.2 c14; exact iN_lt (n := 3) (by decide) hk.2.1 this
            have hin : iN p + N ≤ e 5 (4 * (U - 1) + iN a) := i32_sub (hsz.trans hi1.1.1) hi1.1.2 (by omega) hp.1 (by rw [← hN]; exact hp.2)
            have hBb := hy.2.2.2.2.2.2.2.2.1
            have h3 := hi1.2.2
            rw [show (4 * (U - 1) + iN a) % 4 = iN a by omega, if_pos ha2] at h3
            have hfb := hJ.fb hq (by omega)
            refine aw_aloadV_n d_L_put_43 rfl rfl (by first | exact Or.inl ⟨_, rfl⟩ | exact Or.inr rfl | exact rv_Q _) ?_
            refine aw_get cl_L fl_L_40 (by decide) hR.obj rfl d_L_put_44 ?_
            refine aw_aloadV d_L_put_47 rfl (by first | exact Or.inl ⟨_, rfl⟩ | exact Or.inr rfl | exact rv_Q _) ?_
            refine aw_getE cl_Section fl_L_115 (by decide) (hR.sec (hJ.hq hq)) rfl (congrArg Value.int (hfb.trans hi1.2.1)) d_L_put_49 ?_
            refine aw_iload_n d_L_put_52 rfl rfl ?_
            refine aw_iadd d_L_put_53 ?_
            refine aw_lload_n d_L_put_54 rfl rfl ?_
            refine aw_iload d_L_put_55 rfl ?_
            refine aw_callS (c_L_store G _ hR.a6 (a := e 6 (4 * (U - 1) + iN a) + iN p) (N := N) w (by omega) (by omega) (nI (e 6 (4 * (U - 1) + iN a)) + p) k (by rw [← nI_add, nI_iN hp.1]) hN) m_L_storeLowestFirst ml_L_118 rfl rfl (by decide) (by decide) (Nat.le_of_ble_eq_true rfl) d_L_put_57 ?_
            rintro v h' ⟨rfl, rfl⟩
            refine aw_iconst (v := 1) d_L_put_60 (by decide) ?_
            refine aw_zret ?_ rfl rfl d_L_put_61
            have hF := (hR.w6 (mPutB (c.2.1 6) (e 6 (4 * (U - 1) + iN a) + iN p) w N)).2
            have hok : mPutOk s U a p k := ⟨⟨Int32.not_lt.mp c20, Int32.not_lt.mp c27⟩, hU0, hk.2.1, i32_lt3 hk.2.2 c14, hp.1, by rw [← hsz]; exact hp.2⟩
            rw [mPut, if_pos hok]
            refine ⟨by rw [zI_1 hok], ⟨_, (hR.w6 _).1, hJ, hKi, hKn, hKf, ⟨hKb.1, ?_, mPutB_fits _ _ hKb.2.2 _⟩, hRm.fr hF⟩, hF.law⟩
            have e6 : (s.2.1 6 (4 * (U - 1) + a.toNatClampNeg)).toNatClampNeg = e 6 (4 * (U - 1) + iN a) := by rw [hi1.2.1]; exact nI_clamp (by have := hi1.2.2; have := hy.2.2.2.2.2.2.2.2.1; omega)
            rw [e6, show k.toNatClampNeg = N by rw [hN]; exact nI_clamp (by omega)]
            exact mPutB_eq _ _ hKb.2.1 N
          · refine aw_iconst (v := 0) d_L_put_41 (by decide) ?_
            refine aw_zret ?_ rfl rfl d_L_put_42
            have hok : ¬ mPutOk s U a p k := fun q => zI_f c38 ⟨q.2.2.2.2.1, by rw [hsz]; exact q.2.2.2.2.2⟩
            rw [mPut, if_neg hok]
            exact ⟨by rw [zI_0 hok], ⟨c, hR, hJ, hKi, hKn, hKf, hKb, hRm.dn⟩, lawF.rf _ _ _⟩
  · have hx : va_rf (cOp (mKeepOk U a) (cQ c.2.2.2.2 (4 * (U - 1) + iN a))) = .null := by rw [cOp_f hk]; rfl
    have hok : ¬ mPutOk s U a p k := fun q => hk ⟨q.2.1, q.2.2.1, i32_le3b q.2.2.2.1⟩
    refine aw_aloadV_n d_L_put_0 rfl rfl (by first | exact Or.inl ⟨_, rfl⟩ | exact Or.inr rfl | exact rv_Q _) ?_
    refine aw_iload_n d_L_put_1 rfl rfl ?_
    refine aw_callV (c_L_latestSection G _ o c hR s e U S W T hJ hy.2.1 a) cl_L hR.obj m_L_latestSection ml_L_107 rfl rfl (by decide) (by decide) (Nat.le_of_ble_eq_true rfl) d_L_put_2 ?_
    rintro v h' ⟨rfl, rfl⟩
    rw [hx]
    refine aw_astoreV d_L_put_5 (by decide) (by first | exact Or.inl ⟨_, rfl⟩ | exact Or.inr rfl | exact rv_Q _) (by dsimp only [List.set]) ?_
    refine aw_aloadV d_L_put_7 rfl (by first | exact Or.inl ⟨_, rfl⟩ | exact Or.inr rfl | exact rv_Q _) ?_
    refine aw_ifnullN (tgt := 41) d_L_put_9 (by decide) ?_
    refine aw_iconst (v := 0) d_L_put_41 (by decide) ?_
    refine aw_zret ?_ rfl rfl d_L_put_42
    rw [mPut, if_neg hok]
    exact ⟨by rw [zI_0 hok], ⟨c, hR, hJ, hKi, hKn, hKf, hKb, hRm.dn⟩, lawF.rf _ _ _⟩
