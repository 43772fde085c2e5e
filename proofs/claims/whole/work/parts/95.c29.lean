set_option maxRecDepth 20000 in
theorem c_Wait_value (G : ax_G) (h : ax_H) (o : Nat) (c : cSt) (hR : cR o c h) (s : mSt) (e : Nat → Nat → Nat) (U S W T : Nat) (hJ : cJ c s e U S W T) (hSb : S ≤ 2048) (hUb : U ≤ 32) (i2 : mI2 s e U S) (i3 : mI3 s e S) (i4 : mI4 s e U S W) (hB : cBk s e S c.2.2.2.2 (s.2.1 3) c.2.2.2.1 S) (hnd : ∀ q, q < 4 * U → c.2.1 27 q = s.2.1 4 q) (hbg : ∀ q, q < 4 * U → ¬ s.2.1 4 q = 0 → c.2.1 28 q = 4194304 + s.2.1 7 q) (hcl : ∀ w, w < W → ¬ s.2.1 4 (mSrc e w) = 0 → mTq (s.2.1 3) (mT s e S) e w < 128 → ¬ s.2.1 4 (mTq (s.2.1 3) (mT s e S) e w) = 0) {w : Nat} (hw : w < W) (hnw : ¬ s.2.1 4 (mSrc e w) = 0) : AM G Y_Wait_value 2 40 [.ref (c.2.2.2.2.1 3 w)] h (fun v h2 => h2 = h ∧ v = some (.long (mVal s e S w))) := by
  have l4 := i4 w hw
  have hsy := hJ.wsym hw
  have hbb := hJ.wbeg hw
  have hsrc : mSrc e w < 4 * U := by have := l4.1.2; have := l4.2.1.2; show 4 * e 17 w + e 18 w < _; omega
  have hhv : Value.ref (cQ c.2.2.2.2 (c.2.2.2.2.1 6 w)) = .ref (cQ c.2.2.2.2 (mSrc e w)) := by rw [hJ.home hw]
  have hbs := hbg _ hsrc hnw
  have hnx := hJ.nx hw
  have hrel0 : s.2.1 21 w = -1 → mRel e (s.2.1 7) (s.2.1 21) w = 0 := fun q => by rw [mRel, if_pos (by rw [q]; decide)]
  have hrel1 : ¬ s.2.1 21 w = -1 → mRel e (s.2.1 7) (s.2.1 21) w = (4194304 + s.2.1 7 (mSrc e w) + s.2.1 21 w).toInt64 := fun q => by rw [mRel, if_neg (Int32.not_lt.mpr (Classical.byContradiction (fun z => q (i32_neg1 hnx z))))]
  have hcl := hcl w hw hnw
  refine aw_enter (by decide) (Nat.le_of_ble_eq_true rfl) (n := 3) (ls := [some (.ref (c.2.2.2.2.1 3 w)), none, none, none]) rfl (fun x => ?_)
  by_cases h5 : 5 ≤ e 22 w
  · rw [if_pos h5] at hsy
    rw [if_neg (by omega)] at hbb
    obtain ⟨k, hkS, ek⟩ : ∃ k, k < S ∧ e 22 w = k + 5 := by
      rcases l4.2.2 with ⟨a1, -⟩ | ⟨d, a1, a2, -⟩ | ⟨k, a1, a2, -⟩
      · omega
      · omega
      · exact ⟨k, a1, a2⟩
    have ek5 : e 22 w - 5 = k := by omega
    rw [ek5] at hsy
    have hst := hJ.stf hR hSb hB hkS
    have htq : mTq (s.2.1 3) (mT s e S) e w = if mStands (s.2.1 3) (mT s e S) k < 0 then 128 else 4 * e 11 (iN (mStands (s.2.1 3) (mT s e S) k)) + e 13 (iN (mStands (s.2.1 3) (mT s e S) k)) := by rw [mTq, if_neg (by omega), if_neg (by omega), ek5]
    have hadr : mAdr (s.2.1 3) (mT s e S) e (s.2.1 7) (s.2.1 14) w = if mStands (s.2.1 3) (mT s e S) k < 0 then 0 else (mLab1 (s.2.1 7) (s.2.1 14) e (iN (mStands (s.2.1 3) (mT s e S) k))).toInt64 := by rw [mAdr, if_neg (by omega), if_neg (by omega), ek5]
    rcases mStands_lab (s.2.1 3) (mT s e S) k hkS with ⟨a1, -⟩ | ⟨j, a1, a2, a3⟩
    · rw [if_neg (Int32.not_le.mpr a1)] at hst
      rw [if_pos a1] at hadr
      refine aw_aloadV_n d_Wait_value_0 rfl rfl (by first | exact Or.inl ⟨_, rfl⟩ | exact Or.inr rfl | exact rv_Q _) ?_
      refine aw_getE cl_Wait fl_Wait_22 (by decide) (hR.wait (hJ.hw hw)) rfl (congrArg Value.long (hJ.num hw)) d_Wait_value_1 ?_
      refine aw_lstore_n d_Wait_value_4 rfl (by decide) (by dsimp only [List.set]) ?_
      refine aw_aloadV_n d_Wait_value_5 rfl rfl (by first | exact Or.inl ⟨_, rfl⟩ | exact Or.inr rfl | exact rv_Q _) ?_
      refine aw_getE cl_Wait fl_Wait_32 (by decide) (hR.wait (hJ.hw hw)) rfl (show _ = Value.ref (c.2.2.2.2.1 2 k) from by rw [hsy]; rfl) d_Wait_value_6 ?_
      refine aw_ifnonnull (tgt := 16) d_Wait_value_9 (by decide) ?_
      refine aw_aloadV_n d_Wait_value_16 rfl rfl (by first | exact Or.inl ⟨_, rfl⟩ | exact Or.inr rfl | exact rv_Q _) ?_
      refine aw_getE cl_Wait fl_Wait_32 (by decide) (hR.wait (hJ.hw hw)) rfl (show _ = Value.ref (c.2.2.2.2.1 2 k) from by rw [hsy]; rfl) d_Wait_value_17 ?_
      refine aw_callV (c_Symbol_standsFor G _ o c hR s e U S W T hJ hkS) cl_Symbol (hR.sym (hJ.hk hkS)) m_Symbol_standsFor ml_Wait_39 rfl rfl (by decide) (by decide) (Nat.le_of_ble_eq_true rfl) d_Wait_value_20 ?_
      rintro v h ⟨rfl, rfl⟩
      rw [hst]
      refine aw_astoreV_n d_Wait_value_23 rfl (by decide) (by first | exact Or.inl ⟨_, rfl⟩ | exact Or.inr rfl | exact rv_Q _) (by dsimp only [List.set]) ?_
      refine aw_aloadV_n d_Wait_value_24 rfl rfl (by first | exact Or.inl ⟨_, rfl⟩ | exact Or.inr rfl | exact rv_Q _) ?_
      refine aw_ifnullN (tgt := 39) d_Wait_value_25 (by decide) ?_
      refine aw_aloadV_n d_Wait_value_39 rfl rfl (by first | exact Or.inl ⟨_, rfl⟩ | exact Or.inr rfl | exact rv_Q _) ?_
      refine aw_getE cl_Wait fl_Wait_36 (by decide) (hR.wait (hJ.hw hw)) rfl (show _ = Value.null from by rw [hbb]; rfl) d_Wait_value_40 ?_
      refine aw_ifnullN (tgt := 57) d_Wait_value_43 (by decide) ?_
      refine aw_aloadV_n d_Wait_value_57 rfl rfl (by first | exact Or.inl ⟨_, rfl⟩ | exact Or.inr rfl | exact rv_Q _) ?_
      refine aw_getE cl_Wait fl_Wait_29 (by decide) (hR.wait (hJ.hw hw)) rfl (congrArg Value.int (hJ.next hw)) d_Wait_value_58 ?_
      refine aw_iconst (v := (-1)) d_Wait_value_61 (by decide) ?_
      refine aw_icmp_ne (tgt := 69) d_Wait_value_62 (by decide) (fun c62 => ?_) (fun c62 => ?_)
      · refine aw_lload_n d_Wait_value_69 rfl rfl ?_
        refine aw_aloadV_n d_Wait_value_70 rfl rfl (by first | exact Or.inl ⟨_, rfl⟩ | exact Or.inr rfl | exact rv_Q _) ?_
        refine aw_getE cl_Wait fl_Wait_9 (by decide) (hR.wait (hJ.hw hw)) rfl hhv d_Wait_value_71 ?_
        refine aw_getE cl_Section fl_Wait_52 (by decide) (hR.sec (hJ.hq hsrc)) rfl (congrArg Value.int hbs) d_Wait_value_74 ?_
        refine aw_aloadV_n d_Wait_value_77 rfl rfl (by first | exact Or.inl ⟨_, rfl⟩ | exact Or.inr rfl | exact rv_Q _) ?_
        refine aw_getE cl_Wait fl_Wait_29 (by decide) (hR.wait (hJ.hw hw)) rfl (congrArg Value.int (hJ.next hw)) d_Wait_value_78 ?_
        refine aw_iadd d_Wait_value_81 ?_
        refine aw_i2l d_Wait_value_82 ?_
        refine aw_lsub d_Wait_value_83 ?_
        refine aw_lret ?_ rfl d_Wait_value_84
        refine ⟨rfl, ?_⟩
        rw [mVal, hadr, hrel1 c62]
        rw [Int64.add_zero]
      · refine aw_lload_n d_Wait_value_65 rfl rfl ?_
        refine aw_goto (tgt := 84) d_Wait_value_66 (by decide) ?_
        refine aw_lret ?_ rfl d_Wait_value_84
        refine ⟨rfl, ?_⟩
        rw [mVal, hadr, hrel0 c62]
        rw [Int64.sub_zero, Int64.add_zero]
    · have hjS : j < S := a1
      rw [a2, if_pos (nI_pos' (by omega)), show iN (nI j) = j from nI_clamp (by omega)] at hst
      rw [a2, if_neg (nI_pos (by omega)), show iN (nI j) = j from nI_clamp (by omega)] at htq hadr
      have hqj : 4 * e 11 j + e 13 j < 4 * U := by
        have l1 := (i2 j hjS).2
        have l2 := (i3.lab hjS a3).1
        omega
      have hbj := hbg _ hqj (by rw [← htq]; exact hcl (by rw [htq]; omega))
      refine aw_aloadV_n d_Wait_value_0 rfl rfl (by first | exact Or.inl ⟨_, rfl⟩ | exact Or.inr rfl | exact rv_Q _) ?_
      refine aw_getE cl_Wait fl_Wait_22 (by decide) (hR.wait (hJ.hw hw)) rfl (congrArg Value.long (hJ.num hw)) d_Wait_value_1 ?_
      refine aw_lstore_n d_Wait_value_4 rfl (by decide) (by dsimp only [List.set]) ?_
      refine aw_aloadV_n d_Wait_value_5 rfl rfl (by first | exact Or.inl ⟨_, rfl⟩ | exact Or.inr rfl | exact rv_Q _) ?_
      refine aw_getE cl_Wait fl_Wait_32 (by decide) (hR.wait (hJ.hw hw)) rfl (show _ = Value.ref (c.2.2.2.2.1 2 k) from by rw [hsy]; rfl) d_Wait_value_6 ?_
      refine aw_ifnonnull (tgt := 16) d_Wait_value_9 (by decide) ?_
      refine aw_aloadV_n d_Wait_value_16 rfl rfl (by first | exact Or.inl ⟨_, rfl⟩ | exact Or.inr rfl | exact rv_Q _) ?_
      refine aw_getE cl_Wait fl_Wait_32 (by decide) (hR.wait (hJ.hw hw)) rfl (show _ = Value.ref (c.2.2.2.2.1 2 k) from by rw [hsy]; rfl) d_Wait_value_17 ?_
      refine aw_callV (c_Symbol_standsFor G _ o c hR s e U S W T hJ hkS) cl_Symbol (hR.sym (hJ.hk hkS)) m_Symbol_standsFor ml_Wait_39 rfl rfl (by decide) (by decide) (Nat.le_of_ble_eq_true rfl) d_Wait_value_20 ?_
      rintro v h ⟨rfl, rfl⟩
      rw [hst]
      refine aw_astoreV_n d_Wait_value_23 rfl (by decide) (by first | exact Or.inl ⟨_, rfl⟩ | exact Or.inr rfl | exact rv_Q _) (by dsimp only [List.set]) ?_
      refine aw_aloadV_n d_Wait_value_24 rfl rfl (by first | exact Or.inl ⟨_, rfl⟩ | exact Or.inr rfl | exact rv_Q _) ?_
      refine aw_ifnull d_Wait_value_25 ?_
      refine aw_lload_n d_Wait_value_28 rfl rfl ?_
      refine aw_aloadV_n d_Wait_value_29 rfl rfl (by first | exact Or.inl ⟨_, rfl⟩ | exact Or.inr rfl | exact rv_Q _) ?_
      refine aw_callV (c_Symbol_placeInImage G _ o c hR s e U S W T hJ hjS hqj) cl_Symbol (hR.sym (hJ.hk hjS)) m_Symbol_placeInImage ml_Wait_48 rfl rfl (by decide) (by decide) (Nat.le_of_ble_eq_true rfl) d_Wait_value_30 ?_
      rintro v h ⟨rfl, rfl⟩
      rw [if_neg (Int32.not_lt.mpr a3), hbj]
      refine aw_i2l d_Wait_value_33 ?_
      refine aw_ladd d_Wait_value_34 ?_
      refine aw_lstore_n d_Wait_value_35 rfl (by decide) (by dsimp only [List.set]) ?_
      refine aw_goto (tgt := 57) d_Wait_value_36 (by decide) ?_
      refine aw_aloadV_n d_Wait_value_57 rfl rfl (by first | exact Or.inl ⟨_, rfl⟩ | exact Or.inr rfl | exact rv_Q _) ?_
      refine aw_getE cl_Wait fl_Wait_29 (by decide) (hR.wait (hJ.hw hw)) rfl (congrArg Value.int (hJ.next hw)) d_Wait_value_58 ?_
      refine aw_iconst (v := (-1)) d_Wait_value_61 (by decide) ?_
      refine aw_icmp_ne (tgt := 69) d_Wait_value_62 (by decide) (fun c62 => ?_) (fun c62 => ?_)
      · refine aw_lload_n d_Wait_value_69 rfl rfl ?_
        refine aw_aloadV_n d_Wait_value_70 rfl rfl (by first | exact Or.inl ⟨_, rfl⟩ | exact Or.inr rfl | exact rv_Q _) ?_
        refine aw_getE cl_Wait fl_Wait_9 (by decide) (hR.wait (hJ.hw hw)) rfl hhv d_Wait_value_71 ?_
        refine aw_getE cl_Section fl_Wait_52 (by decide) (hR.sec (hJ.hq hsrc)) rfl (congrArg Value.int hbs) d_Wait_value_74 ?_
        refine aw_aloadV_n d_Wait_value_77 rfl rfl (by first | exact Or.inl ⟨_, rfl⟩ | exact Or.inr rfl | exact rv_Q _) ?_
        refine aw_getE cl_Wait fl_Wait_29 (by decide) (hR.wait (hJ.hw hw)) rfl (congrArg Value.int (hJ.next hw)) d_Wait_value_78 ?_
        refine aw_iadd d_Wait_value_81 ?_
        refine aw_i2l d_Wait_value_82 ?_
        refine aw_lsub d_Wait_value_83 ?_
        refine aw_lret ?_ rfl d_Wait_value_84
        refine ⟨rfl, ?_⟩
        rw [mVal, hadr, hrel1 c62]
        rfl
      · refine aw_lload_n d_Wait_value_65 rfl rfl ?_
        refine aw_goto (tgt := 84) d_Wait_value_66 (by decide) ?_
        refine aw_lret ?_ rfl d_Wait_value_84
        refine ⟨rfl, ?_⟩
        rw [mVal, hadr, hrel0 c62]
        rw [Int64.sub_zero]
        rfl
  · rw [if_neg h5] at hsy
    by_cases h0 : e 22 w = 0
    · rw [if_neg (by omega)] at hbb
      have hadr : mAdr (s.2.1 3) (mT s e S) e (s.2.1 7) (s.2.1 14) w = 0 := by rw [mAdr, if_pos h0]
      refine aw_aloadV_n d_Wait_value_0 rfl rfl (by first | exact Or.inl ⟨_, rfl⟩ | exact Or.inr rfl | exact rv_Q _) ?_
      refine aw_getE cl_Wait fl_Wait_22 (by decide) (hR.wait (hJ.hw hw)) rfl (congrArg Value.long (hJ.num hw)) d_Wait_value_1 ?_
      refine aw_lstore_n d_Wait_value_4 rfl (by decide) (by dsimp only [List.set]) ?_
      refine aw_aloadV_n d_Wait_value_5 rfl rfl (by first | exact Or.inl ⟨_, rfl⟩ | exact Or.inr rfl | exact rv_Q _) ?_
      refine aw_getE cl_Wait fl_Wait_32 (by decide) (hR.wait (hJ.hw hw)) rfl (show _ = Value.null from by rw [hsy]; rfl) d_Wait_value_6 ?_
      refine aw_ifnonnullN d_Wait_value_9 ?_
      refine aw_null d_Wait_value_12 ?_
      refine aw_goto (tgt := 23) d_Wait_value_13 (by decide) ?_
      refine aw_astoreV_n d_Wait_value_23 rfl (by decide) (by first | exact Or.inl ⟨_, rfl⟩ | exact Or.inr rfl | exact rv_Q _) (by dsimp only [List.set]) ?_
      refine aw_aloadV_n d_Wait_value_24 rfl rfl (by first | exact Or.inl ⟨_, rfl⟩ | exact Or.inr rfl | exact rv_Q _) ?_
      refine aw_ifnullN (tgt := 39) d_Wait_value_25 (by decide) ?_
      refine aw_aloadV_n d_Wait_value_39 rfl rfl (by first | exact Or.inl ⟨_, rfl⟩ | exact Or.inr rfl | exact rv_Q _) ?_
      refine aw_getE cl_Wait fl_Wait_36 (by decide) (hR.wait (hJ.hw hw)) rfl (show _ = Value.null from by rw [hbb]; rfl) d_Wait_value_40 ?_
      refine aw_ifnullN (tgt := 57) d_Wait_value_43 (by decide) ?_
      refine aw_aloadV_n d_Wait_value_57 rfl rfl (by first | exact Or.inl ⟨_, rfl⟩ | exact Or.inr rfl | exact rv_Q _) ?_
      refine aw_getE cl_Wait fl_Wait_29 (by decide) (hR.wait (hJ.hw hw)) rfl (congrArg Value.int (hJ.next hw)) d_Wait_value_58 ?_
      refine aw_iconst (v := (-1)) d_Wait_value_61 (by decide) ?_
      refine aw_icmp_ne (tgt := 69) d_Wait_value_62 (by decide) (fun c62 => ?_) (fun c62 => ?_)
      · refine aw_lload_n d_Wait_value_69 rfl rfl ?_
        refine aw_aloadV_n d_Wait_value_70 rfl rfl (by first | exact Or.inl ⟨_, rfl⟩ | exact Or.inr rfl | exact rv_Q _) ?_
        refine aw_getE cl_Wait fl_Wait_9 (by decide) (hR.wait (hJ.hw hw)) rfl hhv d_Wait_value_71 ?_
        refine aw_getE cl_Section fl_Wait_52 (by decide) (hR.sec (hJ.hq hsrc)) rfl (congrArg Value.int hbs) d_Wait_value_74 ?_
        refine aw_aloadV_n d_Wait_value_77 rfl rfl (by first | exact Or.inl ⟨_, rfl⟩ | exact Or.inr rfl | exact rv_Q _) ?_
        refine aw_getE cl_Wait fl_Wait_29 (by decide) (hR.wait (hJ.hw hw)) rfl (congrArg Value.int (hJ.next hw)) d_Wait_value_78 ?_
        refine aw_iadd d_Wait_value_81 ?_
        refine aw_i2l d_Wait_value_82 ?_
        refine aw_lsub d_Wait_value_83 ?_
        refine aw_lret ?_ rfl d_Wait_value_84
        refine ⟨rfl, ?_⟩
        rw [mVal, hadr, hrel1 c62]
        rw [Int64.add_zero]
      · refine aw_lload_n d_Wait_value_65 rfl rfl ?_
        refine aw_goto (tgt := 84) d_Wait_value_66 (by decide) ?_
        refine aw_lret ?_ rfl d_Wait_value_84
        refine ⟨rfl, ?_⟩
        rw [mVal, hadr, hrel0 c62]
        rw [Int64.sub_zero, Int64.add_zero]
    · rw [if_pos ⟨by omega, by omega⟩] at hbb
      have htq : mTq (s.2.1 3) (mT s e S) e w = 4 * e 17 w + (e 22 w - 1) := by rw [mTq, if_neg h0, if_pos (by omega)]
      have hadr : mAdr (s.2.1 3) (mT s e S) e (s.2.1 7) (s.2.1 14) w = (4194304 + s.2.1 7 (4 * e 17 w + (e 22 w - 1))).toInt64 := by rw [mAdr, if_neg h0, if_pos (by omega)]
      have l1 := l4.1.2
      have hqb : 4 * e 17 w + (e 22 w - 1) < 4 * U := by omega
      have hbq := hbg _ hqb (by rw [← htq]; exact hcl (by rw [htq]; omega))
      refine aw_aloadV_n d_Wait_value_0 rfl rfl (by first | exact Or.inl ⟨_, rfl⟩ | exact Or.inr rfl | exact rv_Q _) ?_
      refine aw_getE cl_Wait fl_Wait_22 (by decide) (hR.wait (hJ.hw hw)) rfl (congrArg Value.long (hJ.num hw)) d_Wait_value_1 ?_
      refine aw_lstore_n d_Wait_value_4 rfl (by decide) (by dsimp only [List.set]) ?_
      refine aw_aloadV_n d_Wait_value_5 rfl rfl (by first | exact Or.inl ⟨_, rfl⟩ | exact Or.inr rfl | exact rv_Q _) ?_
      refine aw_getE cl_Wait fl_Wait_32 (by decide) (hR.wait (hJ.hw hw)) rfl (show _ = Value.null from by rw [hsy]; rfl) d_Wait_value_6 ?_
      refine aw_ifnonnullN d_Wait_value_9 ?_
      refine aw_null d_Wait_value_12 ?_
      refine aw_goto (tgt := 23) d_Wait_value_13 (by decide) ?_
      refine aw_astoreV_n d_Wait_value_23 rfl (by decide) (by first | exact Or.inl ⟨_, rfl⟩ | exact Or.inr rfl | exact rv_Q _) (by dsimp only [List.set]) ?_
      refine aw_aloadV_n d_Wait_value_24 rfl rfl (by first | exact Or.inl ⟨_, rfl⟩ | exact Or.inr rfl | exact rv_Q _) ?_
      refine aw_ifnullN (tgt := 39) d_Wait_value_25 (by decide) ?_
      refine aw_aloadV_n d_Wait_value_39 rfl rfl (by first | exact Or.inl ⟨_, rfl⟩ | exact Or.inr rfl | exact rv_Q _) ?_
      refine aw_getE cl_Wait fl_Wait_36 (by decide) (hR.wait (hJ.hw hw)) rfl (show _ = Value.ref (cQ c.2.2.2.2 (4 * e 17 w + (e 22 w - 1))) from by rw [hbb]; rfl) d_Wait_value_40 ?_
      refine aw_ifnull d_Wait_value_43 ?_
      refine aw_lload_n d_Wait_value_46 rfl rfl ?_
      refine aw_aloadV_n d_Wait_value_47 rfl rfl (by first | exact Or.inl ⟨_, rfl⟩ | exact Or.inr rfl | exact rv_Q _) ?_
      refine aw_getE cl_Wait fl_Wait_36 (by decide) (hR.wait (hJ.hw hw)) rfl (show _ = Value.ref (cQ c.2.2.2.2 (4 * e 17 w + (e 22 w - 1))) from by rw [hbb]; rfl) d_Wait_value_48 ?_
      refine aw_getE cl_Section fl_Wait_52 (by decide) (hR.sec (hJ.hq hqb)) rfl (congrArg Value.int hbq) d_Wait_value_51 ?_
      refine aw_i2l d_Wait_value_54 ?_
      refine aw_ladd d_Wait_value_55 ?_
      refine aw_lstore_n d_Wait_value_56 rfl (by decide) (by dsimp only [List.set]) ?_
      refine aw_aloadV_n d_Wait_value_57 rfl rfl (by first | exact Or.inl ⟨_, rfl⟩ | exact Or.inr rfl | exact rv_Q _) ?_
      refine aw_getE cl_Wait fl_Wait_29 (by decide) (hR.wait (hJ.hw hw)) rfl (congrArg Value.int (hJ.next hw)) d_Wait_value_58 ?_
      refine aw_iconst (v := (-1)) d_Wait_value_61 (by decide) ?_
      refine aw_icmp_ne (tgt := 69) d_Wait_value_62 (by decide) (fun c62 => ?_) (fun c62 => ?_)
      · refine aw_lload_n d_Wait_value_69 rfl rfl ?_
        refine aw_aloadV_n d_Wait_value_70 rfl rfl (by first | exact Or.inl ⟨_, rfl⟩ | exact Or.inr rfl | exact rv_Q _) ?_
        refine aw_getE cl_Wait fl_Wait_9 (by decide) (hR.wait (hJ.hw hw)) rfl hhv d_Wait_value_71 ?_
        refine aw_getE cl_Section fl_Wait_52 (by decide) (hR.sec (hJ.hq hsrc)) rfl (congrArg Value.int hbs) d_Wait_value_74 ?_
        refine aw_aloadV_n d_Wait_value_77 rfl rfl (by first | exact Or.inl ⟨_, rfl⟩ | exact Or.inr rfl | exact rv_Q _) ?_
        refine aw_getE cl_Wait fl_Wait_29 (by decide) (hR.wait (hJ.hw hw)) rfl (congrArg Value.int (hJ.next hw)) d_Wait_value_78 ?_
        refine aw_iadd d_Wait_value_81 ?_
        refine aw_i2l d_Wait_value_82 ?_
        refine aw_lsub d_Wait_value_83 ?_
        refine aw_lret ?_ rfl d_Wait_value_84
        refine ⟨rfl, ?_⟩
        rw [mVal, hadr, hrel1 c62]
      · refine aw_lload_n d_Wait_value_65 rfl rfl ?_
        refine aw_goto (tgt := 84) d_Wait_value_66 (by decide) ?_
        refine aw_lret ?_ rfl d_Wait_value_84
        refine ⟨rfl, ?_⟩
        rw [mVal, hadr, hrel0 c62]
        rw [Int64.sub_zero]
def cFk (s : mSt) (e : Nat → Nat → Nat) (S w : Nat) : Int32 := if mMs (s.2.1 3) (mT s e S) e w then 3 else if s.2.1 20 w = 4 ∧ ¬ mVal s e S w = (mVal s e S w).toInt32.toInt64 then 4 else 0
set_option maxRecDepth 20000 in
theorem c_Wait_faultKind (G : ax_G) (h : ax_H) (o : Nat) (c : cSt) (hR : cR o c h) (s : mSt) (e : Nat → Nat → Nat) (U S W T : Nat) (hJ : cJ c s e U S W T) (hSb : S ≤ 2048) (hUb : U ≤ 32) (i2 : mI2 s e U S) (i3 : mI3 s e S) (i4 : mI4 s e U S W) (hB : cBk s e S c.2.2.2.2 (s.2.1 3) c.2.2.2.1 S) (hnd : ∀ q, q < 4 * U → c.2.1 27 q = s.2.1 4 q) (hbg : ∀ q, q < 4 * U → ¬ s.2.1 4 q = 0 → c.2.1 28 q = 4194304 + s.2.1 7 q) (hcl : ∀ w, w < W → ¬ s.2.1 4 (mSrc e w) = 0 → mTq (s.2.1 3) (mT s e S) e w < 128 → ¬ s.2.1 4 (mTq (s.2.1 3) (mT s e S) e w) = 0) {w : Nat} (hw : w < W) (hnw : ¬ s.2.1 4 (mSrc e w) = 0) : AM G Y_Wait_faultKind 3 63 [.ref (c.2.2.2.2.1 3 w)] h (fun v h2 => h2 = h ∧ v = some (.int (cFk s e S w))) := by
  have l4 := i4 w hw
  have hsy := hJ.wsym hw
  refine aw_enter (by decide) (Nat.le_of_ble_eq_true rfl) (n := 2) (ls := [some (.ref (c.2.2.2.2.1 3 w)), none, none]) rfl (fun x => ?_)
  by_cases h5 : 5 ≤ e 22 w
  · rw [if_pos h5] at hsy
    obtain ⟨k, hkS, ek⟩ : ∃ k, k < S ∧ e 22 w = k + 5 := by
      rcases l4.2.2 with ⟨a1, -⟩ | ⟨d, a1, a2, -⟩ | ⟨k, a1, a2, -⟩
      · omega
      · omega
      · exact ⟨k, a1, a2⟩
    have ek5 : e 22 w - 5 = k := by omega
    rw [ek5] at hsy
    have hst := hJ.stf hR hSb hB hkS
    have key : (s.2.1 13 k < 0 ∧ s.2.1 12 k < 2) → (0 ≤ mStands (s.2.1 3) (mT s e S) k ∨ mStands (s.2.1 3) (mT s e S) k = -1) := by
      rintro ⟨a1, a2⟩
      have e1 : mStands (s.2.1 3) (mT s e S) k = if 0 ≤ mMeant (s.2.1 3) (mT s e S) (s.2.2 9 k) (s.2.1 10 k) then mMeant (s.2.1 3) (mT s e S) (s.2.2 9 k) (s.2.1 10 k) else if 1 < s.2.1 12 k then -2 else -1 := by
        rw [mStands]
        exact if_neg (fun q => absurd q.1 (Int32.not_le.mpr a1))
      rw [e1]
      by_cases h2 : 0 ≤ mMeant (s.2.1 3) (mT s e S) (s.2.2 9 k) (s.2.1 10 k)
      · rw [if_pos h2]; exact Or.inl h2
      · rw [if_neg h2, if_neg (fun z => i32_2 a2 z)]; exact Or.inr rfl
    have key2 : mStands (s.2.1 3) (mT s e S) k = -1 → (s.2.1 13 k < 0 ∧ s.2.1 12 k < 2) := by
      intro q
      rw [mStands] at q
      by_cases h1 : 0 ≤ s.2.1 13 k ∧ s.2.1 12 k < 2
      · have q : nI k = -1 := (if_pos (c := 0 ≤ (mT s e S).2.1 k ∧ (mT s e S).1 k < 2) h1).symm.trans q
        exact absurd (nI_pos' (n := k) (by omega)) (by rw [q]; decide)
      · have q := (if_neg (c := 0 ≤ (mT s e S).2.1 k ∧ (mT s e S).1 k < 2) h1).symm.trans q
        by_cases h2 : 0 ≤ mMeant (s.2.1 3) (mT s e S) (s.2.2 9 k) (s.2.1 10 k)
        · have q := (if_pos (c := 0 ≤ mMeant (s.2.1 3) (mT s e S) ((mT s e S).2.2.2.1 k) ((mT s e S).2.2.1 k)) h2).symm.trans q
          have h2 : 0 ≤ mMeant (s.2.1 3) (mT s e S) ((mT s e S).2.2.2.1 k) ((mT s e S).2.2.1 k) := h2
          rw [q] at h2
          exact absurd h2 (by decide)
        · have q := (if_neg (c := 0 ≤ mMeant (s.2.1 3) (mT s e S) ((mT s e S).2.2.2.1 k) ((mT s e S).2.2.1 k)) h2).symm.trans q
          by_cases h3 : 1 < s.2.1 12 k
          · have q := (if_pos (c := 1 < (mT s e S).1 k) h3).symm.trans q
            exact absurd q (by decide)
          · exact ⟨Int32.not_le.mp (fun z => h1 ⟨z, i32_2n h3⟩), i32_2n h3⟩
    by_cases hm : mStands (s.2.1 3) (mT s e S) k = -1
    · have hms : mMs (s.2.1 3) (mT s e S) e w := ⟨h5, by rw [ek5]; exact hm⟩
      rw [hm, if_neg (by decide)] at hst
      refine aw_aloadV_n d_Wait_faultKind_0 rfl rfl (by first | exact Or.inl ⟨_, rfl⟩ | exact Or.inr rfl | exact rv_Q _) ?_
      refine aw_getE cl_Wait fl_Wait_32 (by decide) (hR.wait (hJ.hw hw)) rfl (show _ = Value.ref (c.2.2.2.2.1 2 k) from by rw [hsy]; rfl) d_Wait_faultKind_1 ?_
      refine aw_ifnull d_Wait_faultKind_4 ?_
      refine aw_aloadV_n d_Wait_faultKind_7 rfl rfl (by first | exact Or.inl ⟨_, rfl⟩ | exact Or.inr rfl | exact rv_Q _) ?_
      refine aw_getE cl_Wait fl_Wait_32 (by decide) (hR.wait (hJ.hw hw)) rfl (show _ = Value.ref (c.2.2.2.2.1 2 k) from by rw [hsy]; rfl) d_Wait_faultKind_8 ?_
      refine aw_callV (c_Symbol_isMissed G _ o c hR s e U S W T hJ hkS) cl_Symbol (hR.sym (hJ.hk hkS)) m_Symbol_isMissed ml_Wait_57 rfl rfl (by decide) (by decide) (Nat.le_of_ble_eq_true rfl) d_Wait_faultKind_11 ?_
      rintro v h ⟨rfl, rfl⟩
      refine aw_if_eq (tgt := 29) d_Wait_faultKind_14 (by decide) (fun c14 => ?_) (fun c14 => ?_)
      · exact absurd (key2 hm) (zP_f c14)
      · refine aw_aloadV_n d_Wait_faultKind_17 rfl rfl (by first | exact Or.inl ⟨_, rfl⟩ | exact Or.inr rfl | exact rv_Q _) ?_
        refine aw_getE cl_Wait fl_Wait_32 (by decide) (hR.wait (hJ.hw hw)) rfl (show _ = Value.ref (c.2.2.2.2.1 2 k) from by rw [hsy]; rfl) d_Wait_faultKind_18 ?_
        refine aw_callV (c_Symbol_standsFor G _ o c hR s e U S W T hJ hkS) cl_Symbol (hR.sym (hJ.hk hkS)) m_Symbol_standsFor ml_Wait_39 rfl rfl (by decide) (by decide) (Nat.le_of_ble_eq_true rfl) d_Wait_faultKind_21 ?_
        rintro v h ⟨rfl, rfl⟩
        rw [hst]
        refine aw_ifnonnullN d_Wait_faultKind_24 ?_
        refine aw_iconst (v := 3) d_Wait_faultKind_27 (by decide) ?_
        refine aw_iret ?_ rfl d_Wait_faultKind_28
        exact ⟨rfl, by rw [cFk, if_pos hms]⟩
    · have hms : ¬ mMs (s.2.1 3) (mT s e S) e w := fun q => hm (by rw [← ek5]; exact q.2)
      refine aw_aloadV_n d_Wait_faultKind_0 rfl rfl (by first | exact Or.inl ⟨_, rfl⟩ | exact Or.inr rfl | exact rv_Q _) ?_
      refine aw_getE cl_Wait fl_Wait_32 (by decide) (hR.wait (hJ.hw hw)) rfl (show _ = Value.ref (c.2.2.2.2.1 2 k) from by rw [hsy]; rfl) d_Wait_faultKind_1 ?_
      refine aw_ifnull d_Wait_faultKind_4 ?_
      refine aw_aloadV_n d_Wait_faultKind_7 rfl rfl (by first | exact Or.inl ⟨_, rfl⟩ | exact Or.inr rfl | exact rv_Q _) ?_
      refine aw_getE cl_Wait fl_Wait_32 (by decide) (hR.wait (hJ.hw hw)) rfl (show _ = Value.ref (c.2.2.2.2.1 2 k) from by rw [hsy]; rfl) d_Wait_faultKind_8 ?_
      refine aw_callV (c_Symbol_isMissed G _ o c hR s e U S W T hJ hkS) cl_Symbol (hR.sym (hJ.hk hkS)) m_Symbol_isMissed ml_Wait_57 rfl rfl (by decide) (by decide) (Nat.le_of_ble_eq_true rfl) d_Wait_faultKind_11 ?_
      rintro v h ⟨rfl, rfl⟩
      refine aw_if_eq (tgt := 29) d_Wait_faultKind_14 (by decide) (fun c14 => ?_) (fun c14 => ?_)
      · refine aw_aloadV_n d_Wait_faultKind_29 rfl rfl (by first | exact Or.inl ⟨_, rfl⟩ | exact Or.inr rfl | exact rv_Q _) ?_
        refine aw_callV (c_Wait_value G _ o c hR s e U S W T hJ hSb hUb i2 i3 i4 hB hnd hbg hcl hw hnw) cl_Wait (hR.wait (hJ.hw hw)) m_Wait_value ml_Wait_61 rfl rfl (by decide) (by decide) (Nat.le_of_ble_eq_true rfl) d_Wait_faultKind_30 ?_
        rintro v h ⟨rfl, rfl⟩
        refine aw_lstore_n d_Wait_faultKind_33 rfl (by decide) (by dsimp only [List.set]) ?_
        refine aw_aloadV_n d_Wait_faultKind_34 rfl rfl (by first | exact Or.inl ⟨_, rfl⟩ | exact Or.inr rfl | exact rv_Q _) ?_
        refine aw_getE cl_Wait fl_Wait_19 (by decide) (hR.wait (hJ.hw hw)) rfl (congrArg Value.int (hJ.wsiz hw)) d_Wait_faultKind_35 ?_
        refine aw_iconst (v := 4) d_Wait_faultKind_38 (by decide) ?_
        refine aw_icmp_ne (tgt := 54) d_Wait_faultKind_39 (by decide) (fun c39 => ?_) (fun c39 => ?_)
        · refine aw_iconst (v := 0) d_Wait_faultKind_54 (by decide) ?_
          refine aw_iret ?_ rfl d_Wait_faultKind_55
          refine ⟨rfl, ?_⟩
          rw [cFk, if_neg hms, if_neg (fun q => c39 q.1)]
        · refine aw_lload_n d_Wait_faultKind_42 rfl rfl ?_
          refine aw_lload_n d_Wait_faultKind_43 rfl rfl ?_
          refine aw_l2i d_Wait_faultKind_44 ?_
          refine aw_i2l d_Wait_faultKind_45 ?_
          refine aw_lcmp d_Wait_faultKind_46 ?_
          refine aw_if_eq (tgt := 54) d_Wait_faultKind_47 (by decide) (fun c47 => ?_) (fun c47 => ?_)
          · refine aw_iconst (v := 0) d_Wait_faultKind_54 (by decide) ?_
            refine aw_iret ?_ rfl d_Wait_faultKind_55
            refine ⟨rfl, ?_⟩
            rw [cFk, if_neg hms, if_neg (fun q => q.2 ((lg_cmp_eq _ _).mp c47))]
          · refine aw_iconst (v := 4) d_Wait_faultKind_50 (by decide) ?_
            refine aw_goto (tgt := 55) d_Wait_faultKind_51 (by decide) ?_
            refine aw_iret ?_ rfl d_Wait_faultKind_55
            refine ⟨rfl, ?_⟩
            rw [cFk, if_neg hms, if_pos ⟨c39, fun q => c47 ((lg_cmp_eq _ _).mpr q)⟩]
      · refine aw_aloadV_n d_Wait_faultKind_17 rfl rfl (by first | exact Or.inl ⟨_, rfl⟩ | exact Or.inr rfl | exact rv_Q _) ?_
        refine aw_getE cl_Wait fl_Wait_32 (by decide) (hR.wait (hJ.hw hw)) rfl (show _ = Value.ref (c.2.2.2.2.1 2 k) from by rw [hsy]; rfl) d_Wait_faultKind_18 ?_
        refine aw_callV (c_Symbol_standsFor G _ o c hR s e U S W T hJ hkS) cl_Symbol (hR.sym (hJ.hk hkS)) m_Symbol_standsFor ml_Wait_39 rfl rfl (by decide) (by decide) (Nat.le_of_ble_eq_true rfl) d_Wait_faultKind_21 ?_
        rintro v h ⟨rfl, rfl⟩
        rw [hst, if_pos ((key (zP_t c14)).resolve_right hm)]
        refine aw_ifnonnull (tgt := 29) d_Wait_faultKind_24 (by decide) ?_
        refine aw_aloadV_n d_Wait_faultKind_29 rfl rfl (by first | exact Or.inl ⟨_, rfl⟩ | exact Or.inr rfl | exact rv_Q _) ?_
        refine aw_callV (c_Wait_value G _ o c hR s e U S W T hJ hSb hUb i2 i3 i4 hB hnd hbg hcl hw hnw) cl_Wait (hR.wait (hJ.hw hw)) m_Wait_value ml_Wait_61 rfl rfl (by decide) (by decide) (Nat.le_of_ble_eq_true rfl) d_Wait_faultKind_30 ?_
        rintro v h ⟨rfl, rfl⟩
        refine aw_lstore_n d_Wait_faultKind_33 rfl (by decide) (by dsimp only [List.set]) ?_
        refine aw_aloadV_n d_Wait_faultKind_34 rfl rfl (by first | exact Or.inl ⟨_, rfl⟩ | exact Or.inr rfl | exact rv_Q _) ?_
        refine aw_getE cl_Wait fl_Wait_19 (by decide) (hR.wait (hJ.hw hw)) rfl (congrArg Value.int (hJ.wsiz hw)) d_Wait_faultKind_35 ?_
        refine aw_iconst (v := 4) d_Wait_faultKind_38 (by decide) ?_
        refine aw_icmp_ne (tgt := 54) d_Wait_faultKind_39 (by decide) (fun c39 => ?_) (fun c39 => ?_)
        · refine aw_iconst (v := 0) d_Wait_faultKind_54 (by decide) ?_
          refine aw_iret ?_ rfl d_Wait_faultKind_55
          refine ⟨rfl, ?_⟩
          rw [cFk, if_neg hms, if_neg (fun q => c39 q.1)]
        · refine aw_lload_n d_Wait_faultKind_42 rfl rfl ?_
          refine aw_lload_n d_Wait_faultKind_43 rfl rfl ?_
          refine aw_l2i d_Wait_faultKind_44 ?_
          refine aw_i2l d_Wait_faultKind_45 ?_
          refine aw_lcmp d_Wait_faultKind_46 ?_
          refine aw_if_eq (tgt := 54) d_Wait_faultKind_47 (by decide) (fun c47 => ?_) (fun c47 => ?_)
          · refine aw_iconst (v := 0) d_Wait_faultKind_54 (by decide) ?_
            refine aw_iret ?_ rfl d_Wait_faultKind_55
            refine ⟨rfl, ?_⟩
            rw [cFk, if_neg hms, if_neg (fun q => q.2 ((lg_cmp_eq _ _).mp c47))]
          · refine aw_iconst (v := 4) d_Wait_faultKind_50 (by decide) ?_
            refine aw_goto (tgt := 55) d_Wait_faultKind_51 (by decide) ?_
            refine aw_iret ?_ rfl d_Wait_faultKind_55
            refine ⟨rfl, ?_⟩
            rw [cFk, if_neg hms, if_pos ⟨c39, fun q => c47 ((lg_cmp_eq _ _).mpr q)⟩]
  · rw [if_neg h5] at hsy
    have hms : ¬ mMs (s.2.1 3) (mT s e S) e w := fun q => h5 q.1
    refine aw_aloadV_n d_Wait_faultKind_0 rfl rfl (by first | exact Or.inl ⟨_, rfl⟩ | exact Or.inr rfl | exact rv_Q _) ?_
    refine aw_getE cl_Wait fl_Wait_32 (by decide) (hR.wait (hJ.hw hw)) rfl (show _ = Value.null from by rw [hsy]; rfl) d_Wait_faultKind_1 ?_
    refine aw_ifnullN (tgt := 29) d_Wait_faultKind_4 (by decide) ?_
    refine aw_aloadV_n d_Wait_faultKind_29 rfl rfl (by first | exact Or.inl ⟨_, rfl⟩ | exact Or.inr rfl | exact rv_Q _) ?_
    refine aw_callV (c_Wait_value G _ o c hR s e U S W T hJ hSb hUb i2 i3 i4 hB hnd hbg hcl hw hnw) cl_Wait (hR.wait (hJ.hw hw)) m_Wait_value ml_Wait_61 rfl rfl (by decide) (by decide) (Nat.le_of_ble_eq_true rfl) d_Wait_faultKind_30 ?_
    rintro v h ⟨rfl, rfl⟩
    refine aw_lstore_n d_Wait_faultKind_33 rfl (by decide) (by dsimp only [List.set]) ?_
    refine aw_aloadV_n d_Wait_faultKind_34 rfl rfl (by first | exact Or.inl ⟨_, rfl⟩ | exact Or.inr rfl | exact rv_Q _) ?_
    refine aw_getE cl_Wait fl_Wait_19 (by decide) (hR.wait (hJ.hw hw)) rfl (congrArg Value.int (hJ.wsiz hw)) d_Wait_faultKind_35 ?_
    refine aw_iconst (v := 4) d_Wait_faultKind_38 (by decide) ?_
    refine aw_icmp_ne (tgt := 54) d_Wait_faultKind_39 (by decide) (fun c39 => ?_) (fun c39 => ?_)
    · refine aw_iconst (v := 0) d_Wait_faultKind_54 (by decide) ?_
      refine aw_iret ?_ rfl d_Wait_faultKind_55
      refine ⟨rfl, ?_⟩
      rw [cFk, if_neg hms, if_neg (fun q => c39 q.1)]
    · refine aw_lload_n d_Wait_faultKind_42 rfl rfl ?_
      refine aw_lload_n d_Wait_faultKind_43 rfl rfl ?_
      refine aw_l2i d_Wait_faultKind_44 ?_
      refine aw_i2l d_Wait_faultKind_45 ?_
      refine aw_lcmp d_Wait_faultKind_46 ?_
      refine aw_if_eq (tgt := 54) d_Wait_faultKind_47 (by decide) (fun c47 => ?_) (fun c47 => ?_)
      · refine aw_iconst (v := 0) d_Wait_faultKind_54 (by decide) ?_
        refine aw_iret ?_ rfl d_Wait_faultKind_55
        refine ⟨rfl, ?_⟩
        rw [cFk, if_neg hms, if_neg (fun q => q.2 ((lg_cmp_eq _ _).mp c47))]
      · refine aw_iconst (v := 4) d_Wait_faultKind_50 (by decide) ?_
        refine aw_goto (tgt := 55) d_Wait_faultKind_51 (by decide) ?_
        refine aw_iret ?_ rfl d_Wait_faultKind_55
        refine ⟨rfl, ?_⟩
        rw [cFk, if_neg hms, if_pos ⟨c39, fun q => c47 ((lg_cmp_eq _ _).mpr q)⟩]
set_option maxRecDepth 20000 in
theorem c_Wait_isBefore (G : ax_G) (h : ax_H) (o : Nat) (c : cSt) (hR : cR o c h) (s : mSt) (e : Nat → Nat → Nat) (U S W T : Nat) (hJ : cJ c s e U S W T) (hUb : U ≤ 32) (i4 : mI4 s e U S W) {w w2 : Nat} (hw : w < W) (hw2 : w2 < W) : AM G Y_Wait_isBefore 0 0 [.ref (c.2.2.2.2.1 3 w), .ref (c.2.2.2.2.1 3 w2)] h (fun v h2 => h2 = h ∧ v = some (.int (zP (e 17 w < e 17 w2 ∨ (e 17 w = e 17 w2 ∧ s.2.1 23 w < s.2.1 23 w2))))) := by
  have l1 := i4 w hw
  have hs1 : mSrc e w < 4 * U := by have := l1.1.2; have := l1.2.1.2; show 4 * e 17 w + e 18 w < _; omega
  have hv1 : Value.ref (cQ c.2.2.2.2 (c.2.2.2.2.1 6 w)) = .ref (cQ c.2.2.2.2 (mSrc e w)) := by rw [hJ.home hw]
  have hd1 : mSrc e w / 4 = e 17 w := by have := l1.2.1.2; show (4 * e 17 w + e 18 w) / 4 = _; omega
  have hu1 := l1.1.2
  have l2 := i4 w2 hw2
  have hs2 : mSrc e w2 < 4 * U := by have := l2.1.2; have := l2.2.1.2; show 4 * e 17 w2 + e 18 w2 < _; omega
  have hv2 : Value.ref (cQ c.2.2.2.2 (c.2.2.2.2.1 6 w2)) = .ref (cQ c.2.2.2.2 (mSrc e w2)) := by rw [hJ.home hw2]
  have hd2 : mSrc e w2 / 4 = e 17 w2 := by have := l2.2.1.2; show (4 * e 17 w2 + e 18 w2) / 4 = _; omega
  have hu2 := l2.1.2
  refine aw_enter (by decide) (Nat.le_of_ble_eq_true rfl) (n := 0) (ls := [some (.ref (c.2.2.2.2.1 3 w)), some (.ref (c.2.2.2.2.1 3 w2))]) rfl (fun x => ?_)
  refine aw_aloadV_n d_Wait_isBefore_0 rfl rfl (by first | exact Or.inl ⟨_, rfl⟩ | exact Or.inr rfl | exact rv_Q _) ?_
  refine aw_getE cl_Wait fl_Wait_9 (by decide) (hR.wait (hJ.hw hw)) rfl hv1 d_Wait_isBefore_1 ?_
  refine aw_getE cl_Section fl_Wait_65 (by decide) (hR.sec (hJ.hq hs1)) rfl (show _ = Value.ref (c.2.2.2.2.1 0 (e 17 w)) from by show Value.ref (c.2.2.2.2.1 0 (mSrc e w / 4)) = _; rw [hd1]) d_Wait_isBefore_4 ?_
  refine aw_get cl_Unit fl_Wait_69 (by decide) (hR.unit (hJ.hu hu1)) rfl d_Wait_isBefore_7 ?_
  refine aw_aloadV_n d_Wait_isBefore_10 rfl rfl (by first | exact Or.inl ⟨_, rfl⟩ | exact Or.inr rfl | exact rv_Q _) ?_
  refine aw_getE cl_Wait fl_Wait_9 (by decide) (hR.wait (hJ.hw hw2)) rfl hv2 d_Wait_isBefore_11 ?_
  refine aw_getE cl_Section fl_Wait_65 (by decide) (hR.sec (hJ.hq hs2)) rfl (show _ = Value.ref (c.2.2.2.2.1 0 (e 17 w2)) from by show Value.ref (c.2.2.2.2.1 0 (mSrc e w2 / 4)) = _; rw [hd2]) d_Wait_isBefore_14 ?_
  refine aw_get cl_Unit fl_Wait_69 (by decide) (hR.unit (hJ.hu hu2)) rfl d_Wait_isBefore_17 ?_
  refine aw_icmp_eq (tgt := 52) d_Wait_isBefore_20 (by decide) (fun c20 => ?_) (fun c20 => ?_)
  · refine aw_aloadV_n d_Wait_isBefore_52 rfl rfl (by first | exact Or.inl ⟨_, rfl⟩ | exact Or.inr rfl | exact rv_Q _) ?_
    refine aw_getE cl_Wait fl_Wait_26 (by decide) (hR.wait (hJ.hw hw)) rfl (congrArg Value.int (hJ.wlin hw)) d_Wait_isBefore_53 ?_
    refine aw_aloadV_n d_Wait_isBefore_56 rfl rfl (by first | exact Or.inl ⟨_, rfl⟩ | exact Or.inr rfl | exact rv_Q _) ?_
    refine aw_getE cl_Wait fl_Wait_26 (by decide) (hR.wait (hJ.hw hw2)) rfl (congrArg Value.int (hJ.wlin hw2)) d_Wait_isBefore_57 ?_
    refine aw_icmp_ge (tgt := 67) d_Wait_isBefore_60 (by decide) (fun c60 => ?_) (fun c60 => ?_)
    · refine aw_iconst (v := 0) d_Wait_isBefore_67 (by decide) ?_
      refine aw_zret ?_ rfl rfl d_Wait_isBefore_68
      have eu := (nI_eq (a := e 17 w) (b := e 17 w2) (by omega) (by omega)).mp c20
      exact ⟨rfl, by rw [zP_0 (fun q => q.elim (fun z => by omega) (fun z => absurd z.2 (Int32.not_lt.mpr c60)))]⟩
    · refine aw_iconst (v := 1) d_Wait_isBefore_63 (by decide) ?_
      refine aw_goto (tgt := 68) d_Wait_isBefore_64 (by decide) ?_
      refine aw_zret ?_ rfl rfl d_Wait_isBefore_68
      have eu := (nI_eq (a := e 17 w) (b := e 17 w2) (by omega) (by omega)).mp c20
      exact ⟨rfl, by rw [zP_1 (Or.inr ⟨eu, Int32.not_le.mp c60⟩)]⟩
  · refine aw_aloadV_n d_Wait_isBefore_23 rfl rfl (by first | exact Or.inl ⟨_, rfl⟩ | exact Or.inr rfl | exact rv_Q _) ?_
    refine aw_getE cl_Wait fl_Wait_9 (by decide) (hR.wait (hJ.hw hw)) rfl hv1 d_Wait_isBefore_24 ?_
    refine aw_getE cl_Section fl_Wait_65 (by decide) (hR.sec (hJ.hq hs1)) rfl (show _ = Value.ref (c.2.2.2.2.1 0 (e 17 w)) from by show Value.ref (c.2.2.2.2.1 0 (mSrc e w / 4)) = _; rw [hd1]) d_Wait_isBefore_27 ?_
    refine aw_get cl_Unit fl_Wait_69 (by decide) (hR.unit (hJ.hu hu1)) rfl d_Wait_isBefore_30 ?_
    refine aw_aloadV_n d_Wait_isBefore_33 rfl rfl (by first | exact Or.inl ⟨_, rfl⟩ | exact Or.inr rfl | exact rv_Q _) ?_
    refine aw_getE cl_Wait fl_Wait_9 (by decide) (hR.wait (hJ.hw hw2)) rfl hv2 d_Wait_isBefore_34 ?_
    refine aw_getE cl_Section fl_Wait_65 (by decide) (hR.sec (hJ.hq hs2)) rfl (show _ = Value.ref (c.2.2.2.2.1 0 (e 17 w2)) from by show Value.ref (c.2.2.2.2.1 0 (mSrc e w2 / 4)) = _; rw [hd2]) d_Wait_isBefore_37 ?_
    refine aw_get cl_Unit fl_Wait_69 (by decide) (hR.unit (hJ.hu hu2)) rfl d_Wait_isBefore_40 ?_
    refine aw_icmp_ge (tgt := 50) d_Wait_isBefore_43 (by decide) (fun c43 => ?_) (fun c43 => ?_)
    · refine aw_iconst (v := 0) d_Wait_isBefore_50 (by decide) ?_
      refine aw_zret ?_ rfl rfl d_Wait_isBefore_51
      have eu : ¬ e 17 w = e 17 w2 := fun z => c20 (by rw [z])
      exact ⟨rfl, by rw [zP_0 (fun q => q.elim (fun z => absurd c43 (nI_ge z (by omega))) (fun z => eu z.1))]⟩
    · refine aw_iconst (v := 1) d_Wait_isBefore_46 (by decide) ?_
      refine aw_goto (tgt := 51) d_Wait_isBefore_47 (by decide) ?_
      refine aw_zret ?_ rfl rfl d_Wait_isBefore_51
      have eu : ¬ e 17 w = e 17 w2 := fun z => c20 (by rw [z])
      exact ⟨rfl, by rw [zP_1 (Or.inl (Nat.lt_of_not_le (fun z => c43 (nI_le z (by omega)))))]⟩
