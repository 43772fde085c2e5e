theorem i32_2 {a : Int32} (h : a < 2) (h2 : 1 < a) : False := by
  have h := Int32.lt_iff_toInt_lt.mp h
  have h2 := Int32.lt_iff_toInt_lt.mp h2
  have e2 : (2 : Int32).toInt = 2 := by decide
  have e1 : (1 : Int32).toInt = 1 := by decide
  omega
theorem i32_2n {a : Int32} (h2 : ¬ 1 < a) : a < 2 := by
  have h2 := Int32.le_iff_toInt_le.mp (Int32.not_lt.mp h2)
  have e2 : (2 : Int32).toInt = 2 := by decide
  have e1 : (1 : Int32).toInt = 1 := by decide
  exact Int32.lt_iff_toInt_lt.mpr (by omega)
/-- what name i means -/
def cMean (c : cSt) (i : Nat) : Option Nat := match c.2.2.2.1 44 i with
  | some a => some a
  | none => c.2.2.2.1 45 i
/-- what symbol k stands for -/
def cStf (c : cSt) (s : mSt) (k : Nat) : Option Nat := if 0 ≤ s.2.1 13 k ∧ s.2.1 12 k < 2 then some (c.2.2.2.2.1 2 k) else cMean c (c.2.2.2.2.1 5 k)
set_option maxRecDepth 20000 in
theorem c_Symbol_isSharedLabel (G : ax_G) (h : ax_H) (o : Nat) (c : cSt) (hR : cR o c h) (s : mSt) (e : Nat → Nat → Nat) (U S W T : Nat) (hJ : cJ c s e U S W T) {k : Nat} (hk : k < S) : AM G Y_Symbol_isSharedLabel 0 0 [.ref (c.2.2.2.2.1 2 k)] h (fun v h2 => h2 = h ∧ v = some (.int (zP (mGlob (mT s e S) k ∨ mWeak (mT s e S) k)))) := by
  have hk2 := hJ.hk hk
  refine aw_enter (by decide) (Nat.le_of_ble_eq_true rfl) (n := 0) (ls := [some (.ref (c.2.2.2.2.1 2 k))]) rfl (fun x => ?_)
  by_cases hs : s.2.1 13 k < 0
  · have hx : va_rf (c.2.2.2.1 46 k) = .null := by rw [hJ.sec hk, if_pos hs]; rfl
    refine aw_aloadV_n d_Symbol_isSharedLabel_0 rfl rfl (by first | exact Or.inl ⟨_, rfl⟩ | exact Or.inr rfl | exact rv_Q _) ?_
    refine aw_getE cl_Symbol fl_Symbol_22 (by decide) (hR.sym hk2) rfl hx d_Symbol_isSharedLabel_1 ?_
    refine aw_ifnullN (tgt := 25) d_Symbol_isSharedLabel_4 (by decide) ?_
    refine aw_iconst (v := 0) d_Symbol_isSharedLabel_25 (by decide) ?_
    refine aw_zret ?_ rfl rfl d_Symbol_isSharedLabel_26
    exact ⟨rfl, by rw [zP_0 (fun q => q.elim (fun r => absurd r.1 (Int32.not_le.mpr hs)) (fun r => absurd r.1 (Int32.not_le.mpr hs)))]⟩
  · have hx : va_rf (c.2.2.2.1 46 k) = .ref (cQ c.2.2.2.2 (4 * e 11 k + e 13 k)) := by rw [hJ.sec hk, if_neg hs]; rfl
    refine aw_aloadV_n d_Symbol_isSharedLabel_0 rfl rfl (by first | exact Or.inl ⟨_, rfl⟩ | exact Or.inr rfl | exact rv_Q _) ?_
    refine aw_getE cl_Symbol fl_Symbol_22 (by decide) (hR.sym hk2) rfl hx d_Symbol_isSharedLabel_1 ?_
    refine aw_ifnull d_Symbol_isSharedLabel_4 ?_
    refine aw_aloadV_n d_Symbol_isSharedLabel_7 rfl rfl (by first | exact Or.inl ⟨_, rfl⟩ | exact Or.inr rfl | exact rv_Q _) ?_
    refine aw_getE cl_Symbol fl_Symbol_19 (by decide) (hR.sym hk2) rfl (congrArg Value.int (hJ.glob hk)) d_Symbol_isSharedLabel_8 ?_
    refine aw_if_ne (tgt := 21) d_Symbol_isSharedLabel_11 (by decide) (fun c11 => ?_) (fun c11 => ?_)
    · refine aw_iconst (v := 1) d_Symbol_isSharedLabel_21 (by decide) ?_
      refine aw_goto (tgt := 26) d_Symbol_isSharedLabel_22 (by decide) ?_
      refine aw_zret ?_ rfl rfl d_Symbol_isSharedLabel_26
      exact ⟨rfl, by rw [zP_1 (Or.inl ⟨Int32.not_lt.mp hs, zI_t c11⟩)]⟩
    · refine aw_aloadV_n d_Symbol_isSharedLabel_14 rfl rfl (by first | exact Or.inl ⟨_, rfl⟩ | exact Or.inr rfl | exact rv_Q _) ?_
      refine aw_getE cl_Symbol fl_Symbol_15 (by decide) (hR.sym hk2) rfl (congrArg Value.int (hJ.weak hk)) d_Symbol_isSharedLabel_15 ?_
      refine aw_if_eq (tgt := 25) d_Symbol_isSharedLabel_18 (by decide) (fun c18 => ?_) (fun c18 => ?_)
      · refine aw_iconst (v := 0) d_Symbol_isSharedLabel_25 (by decide) ?_
        refine aw_zret ?_ rfl rfl d_Symbol_isSharedLabel_26
        exact ⟨rfl, by rw [zP_0 (fun q => q.elim (fun r => zI_f c11 r.2) (fun r => zI_f c18 r.2))]⟩
      · refine aw_iconst (v := 1) d_Symbol_isSharedLabel_21 (by decide) ?_
        refine aw_goto (tgt := 26) d_Symbol_isSharedLabel_22 (by decide) ?_
        refine aw_zret ?_ rfl rfl d_Symbol_isSharedLabel_26
        exact ⟨rfl, by rw [zP_1 (Or.inr ⟨Int32.not_lt.mp hs, zI_t c18⟩)]⟩
set_option maxRecDepth 20000 in
theorem c_Symbol_isMissed (G : ax_G) (h : ax_H) (o : Nat) (c : cSt) (hR : cR o c h) (s : mSt) (e : Nat → Nat → Nat) (U S W T : Nat) (hJ : cJ c s e U S W T) {k : Nat} (hk : k < S) : AM G Y_Symbol_isMissed 0 0 [.ref (c.2.2.2.2.1 2 k)] h (fun v h2 => h2 = h ∧ v = some (.int (zP (s.2.1 13 k < 0 ∧ s.2.1 12 k < 2)))) := by
  have hk2 := hJ.hk hk
  refine aw_enter (by decide) (Nat.le_of_ble_eq_true rfl) (n := 0) (ls := [some (.ref (c.2.2.2.2.1 2 k))]) rfl (fun x => ?_)
  by_cases hs : s.2.1 13 k < 0
  · have hx : va_rf (c.2.2.2.1 46 k) = .null := by rw [hJ.sec hk, if_pos hs]; rfl
    refine aw_aloadV_n d_Symbol_isMissed_0 rfl rfl (by first | exact Or.inl ⟨_, rfl⟩ | exact Or.inr rfl | exact rv_Q _) ?_
    refine aw_getE cl_Symbol fl_Symbol_22 (by decide) (hR.sym hk2) rfl hx d_Symbol_isMissed_1 ?_
    refine aw_ifnonnullN d_Symbol_isMissed_4 ?_
    refine aw_aloadV_n d_Symbol_isMissed_7 rfl rfl (by first | exact Or.inl ⟨_, rfl⟩ | exact Or.inr rfl | exact rv_Q _) ?_
    refine aw_getE cl_Symbol fl_Symbol_15 (by decide) (hR.sym hk2) rfl (congrArg Value.int (hJ.weak hk)) d_Symbol_isMissed_8 ?_
    refine aw_if_ne (tgt := 18) d_Symbol_isMissed_11 (by decide) (fun c11 => ?_) (fun c11 => ?_)
    · refine aw_iconst (v := 0) d_Symbol_isMissed_18 (by decide) ?_
      refine aw_zret ?_ rfl rfl d_Symbol_isMissed_19
      exact ⟨rfl, by rw [zP_0 (fun q => i32_2 q.2 (zI_t c11))]⟩
    · refine aw_iconst (v := 1) d_Symbol_isMissed_14 (by decide) ?_
      refine aw_goto (tgt := 19) d_Symbol_isMissed_15 (by decide) ?_
      refine aw_zret ?_ rfl rfl d_Symbol_isMissed_19
      exact ⟨rfl, by rw [zP_1 ⟨hs, i32_2n (zI_f c11)⟩]⟩
  · have hx : va_rf (c.2.2.2.1 46 k) = .ref (cQ c.2.2.2.2 (4 * e 11 k + e 13 k)) := by rw [hJ.sec hk, if_neg hs]; rfl
    refine aw_aloadV_n d_Symbol_isMissed_0 rfl rfl (by first | exact Or.inl ⟨_, rfl⟩ | exact Or.inr rfl | exact rv_Q _) ?_
    refine aw_getE cl_Symbol fl_Symbol_22 (by decide) (hR.sym hk2) rfl hx d_Symbol_isMissed_1 ?_
    refine aw_ifnonnull (tgt := 18) d_Symbol_isMissed_4 (by decide) ?_
    refine aw_iconst (v := 0) d_Symbol_isMissed_18 (by decide) ?_
    refine aw_zret ?_ rfl rfl d_Symbol_isMissed_19
    exact ⟨rfl, by rw [zP_0 (fun q => hs q.1)]⟩
set_option maxRecDepth 20000 in
theorem c_Symbol_isGlobalLabel (G : ax_G) (h : ax_H) (o : Nat) (c : cSt) (hR : cR o c h) (s : mSt) (e : Nat → Nat → Nat) (U S W T : Nat) (hJ : cJ c s e U S W T) {k : Nat} (hk : k < S) : AM G Y_Symbol_isGlobalLabel 0 0 [.ref (c.2.2.2.2.1 2 k)] h (fun v h2 => h2 = h ∧ v = some (.int (zP (mGlob (mT s e S) k)))) := by
  have hk2 := hJ.hk hk
  refine aw_enter (by decide) (Nat.le_of_ble_eq_true rfl) (n := 0) (ls := [some (.ref (c.2.2.2.2.1 2 k))]) rfl (fun x => ?_)
  by_cases hs : s.2.1 13 k < 0
  · have hx : va_rf (c.2.2.2.1 46 k) = .null := by rw [hJ.sec hk, if_pos hs]; rfl
    refine aw_aloadV_n d_Symbol_isGlobalLabel_0 rfl rfl (by first | exact Or.inl ⟨_, rfl⟩ | exact Or.inr rfl | exact rv_Q _) ?_
    refine aw_getE cl_Symbol fl_Symbol_22 (by decide) (hR.sym hk2) rfl hx d_Symbol_isGlobalLabel_1 ?_
    refine aw_ifnullN (tgt := 18) d_Symbol_isGlobalLabel_4 (by decide) ?_
    refine aw_iconst (v := 0) d_Symbol_isGlobalLabel_18 (by decide) ?_
    refine aw_zret ?_ rfl rfl d_Symbol_isGlobalLabel_19
    exact ⟨rfl, by rw [zP_0 (fun r => absurd r.1 (Int32.not_le.mpr hs))]⟩
  · have hx : va_rf (c.2.2.2.1 46 k) = .ref (cQ c.2.2.2.2 (4 * e 11 k + e 13 k)) := by rw [hJ.sec hk, if_neg hs]; rfl
    refine aw_aloadV_n d_Symbol_isGlobalLabel_0 rfl rfl (by first | exact Or.inl ⟨_, rfl⟩ | exact Or.inr rfl | exact rv_Q _) ?_
    refine aw_getE cl_Symbol fl_Symbol_22 (by decide) (hR.sym hk2) rfl hx d_Symbol_isGlobalLabel_1 ?_
    refine aw_ifnull d_Symbol_isGlobalLabel_4 ?_
    refine aw_aloadV_n d_Symbol_isGlobalLabel_7 rfl rfl (by first | exact Or.inl ⟨_, rfl⟩ | exact Or.inr rfl | exact rv_Q _) ?_
    refine aw_getE cl_Symbol fl_Symbol_19 (by decide) (hR.sym hk2) rfl (congrArg Value.int (hJ.glob hk)) d_Symbol_isGlobalLabel_8 ?_
    refine aw_if_eq (tgt := 18) d_Symbol_isGlobalLabel_11 (by decide) (fun c11 => ?_) (fun c11 => ?_)
    · refine aw_iconst (v := 0) d_Symbol_isGlobalLabel_18 (by decide) ?_
      refine aw_zret ?_ rfl rfl d_Symbol_isGlobalLabel_19
      exact ⟨rfl, by rw [zP_0 (fun r => zI_f c11 r.2)]⟩
    · refine aw_iconst (v := 1) d_Symbol_isGlobalLabel_14 (by decide) ?_
      refine aw_goto (tgt := 19) d_Symbol_isGlobalLabel_15 (by decide) ?_
      refine aw_zret ?_ rfl rfl d_Symbol_isGlobalLabel_19
      exact ⟨rfl, by rw [zP_1 ⟨Int32.not_lt.mp hs, zI_t c11⟩]⟩
set_option maxRecDepth 20000 in
theorem c_Name_meaning (G : ax_G) (h : ax_H) (o : Nat) (c : cSt) (hR : cR o c h) {i : Nat} (hi : i < c.2.2.2.2.2 1) : AM G Y_Name_meaning 0 0 [.ref (c.2.2.2.2.1 1 i)] h (fun v h2 => h2 = h ∧ v = some (va_rf (cMean c i))) := by
  refine aw_enter (by decide) (Nat.le_of_ble_eq_true rfl) (n := 0) (ls := [some (.ref (c.2.2.2.2.1 1 i))]) rfl (fun x => ?_)
  refine aw_aloadV_n d_Name_meaning_0 rfl rfl (by first | exact Or.inl ⟨_, rfl⟩ | exact Or.inr rfl | exact rv_Q _) ?_
  refine aw_get cl_Name fl_Name_24 (by decide) (hR.name hi) rfl d_Name_meaning_1 ?_
  refine aw_ifnullQ (tgt := 14) d_Name_meaning_4 (by decide) (fun c4 => ?_) (fun z4 c4 => ?_)
  · refine aw_aloadV_n d_Name_meaning_14 rfl rfl (by first | exact Or.inl ⟨_, rfl⟩ | exact Or.inr rfl | exact rv_Q _) ?_
    refine aw_get cl_Name fl_Name_28 (by decide) (hR.name hi) rfl d_Name_meaning_15 ?_
    refine aw_aret (r := c.2.2.2.1 45 i) ?_ rfl (by first | exact Or.inl ⟨_, rfl⟩ | exact Or.inr ⟨_, rfl⟩) d_Name_meaning_18
    exact ⟨rfl, by rw [cMean, c4]⟩
  · refine aw_aloadV_n d_Name_meaning_7 rfl rfl (by first | exact Or.inl ⟨_, rfl⟩ | exact Or.inr rfl | exact rv_Q _) ?_
    refine aw_get cl_Name fl_Name_24 (by decide) (hR.name hi) rfl d_Name_meaning_8 ?_
    refine aw_goto (tgt := 18) d_Name_meaning_11 (by decide) ?_
    refine aw_aret (r := c.2.2.2.1 44 i) ?_ rfl (by first | exact Or.inl ⟨_, rfl⟩ | exact Or.inr ⟨_, rfl⟩) d_Name_meaning_18
    exact ⟨rfl, by rw [cMean, c4]⟩
set_option maxRecDepth 20000 in
theorem c_Symbol_standsFor (G : ax_G) (h : ax_H) (o : Nat) (c : cSt) (hR : cR o c h) (s : mSt) (e : Nat → Nat → Nat) (U S W T : Nat) (hJ : cJ c s e U S W T) {k : Nat} (hk : k < S) : AM G Y_Symbol_standsFor 1 20 [.ref (c.2.2.2.2.1 2 k)] h (fun v h2 => h2 = h ∧ v = some (va_rf (cStf c s k))) := by
  have hn := hR.1.2.2.2.1 k (hJ.hk hk)
  have hk2 := hJ.hk hk
  refine aw_enter (by decide) (Nat.le_of_ble_eq_true rfl) (n := 0) (ls := [some (.ref (c.2.2.2.2.1 2 k))]) rfl (fun x => ?_)
  by_cases hs : s.2.1 13 k < 0
  · have hx : va_rf (c.2.2.2.1 46 k) = .null := by rw [hJ.sec hk, if_pos hs]; rfl
    refine aw_aloadV_n d_Symbol_standsFor_0 rfl rfl (by first | exact Or.inl ⟨_, rfl⟩ | exact Or.inr rfl | exact rv_Q _) ?_
    refine aw_getE cl_Symbol fl_Symbol_22 (by decide) (hR.sym hk2) rfl hx d_Symbol_standsFor_1 ?_
    refine aw_ifnullN (tgt := 18) d_Symbol_standsFor_4 (by decide) ?_
    refine aw_aloadV_n d_Symbol_standsFor_18 rfl rfl (by first | exact Or.inl ⟨_, rfl⟩ | exact Or.inr rfl | exact rv_Q _) ?_
    refine aw_get cl_Symbol fl_Symbol_9 (by decide) (hR.sym hk2) rfl d_Symbol_standsFor_19 ?_
    refine aw_callV (c_Name_meaning G _ o c hR hn) cl_Name (hR.name hn) m_Name_meaning ml_Symbol_33 rfl rfl (by decide) (by decide) (Nat.le_of_ble_eq_true rfl) d_Symbol_standsFor_22 ?_
    rintro v h' ⟨rfl, rfl⟩
    refine aw_aret (r := cMean c (c.2.2.2.2.1 5 k)) ?_ rfl (by first | exact Or.inl ⟨_, rfl⟩ | exact Or.inr ⟨_, rfl⟩) d_Symbol_standsFor_25
    exact ⟨rfl, by rw [cStf, if_neg (fun q => absurd q.1 (Int32.not_le.mpr hs))]⟩
  · have hx : va_rf (c.2.2.2.1 46 k) = .ref (cQ c.2.2.2.2 (4 * e 11 k + e 13 k)) := by rw [hJ.sec hk, if_neg hs]; rfl
    refine aw_aloadV_n d_Symbol_standsFor_0 rfl rfl (by first | exact Or.inl ⟨_, rfl⟩ | exact Or.inr rfl | exact rv_Q _) ?_
    refine aw_getE cl_Symbol fl_Symbol_22 (by decide) (hR.sym hk2) rfl hx d_Symbol_standsFor_1 ?_
    refine aw_ifnull d_Symbol_standsFor_4 ?_
    refine aw_aloadV_n d_Symbol_standsFor_7 rfl rfl (by first | exact Or.inl ⟨_, rfl⟩ | exact Or.inr rfl | exact rv_Q _) ?_
    refine aw_getE cl_Symbol fl_Symbol_15 (by decide) (hR.sym hk2) rfl (congrArg Value.int (hJ.weak hk)) d_Symbol_standsFor_8 ?_
    refine aw_if_ne (tgt := 18) d_Symbol_standsFor_11 (by decide) (fun c11 => ?_) (fun c11 => ?_)
    · refine aw_aloadV_n d_Symbol_standsFor_18 rfl rfl (by first | exact Or.inl ⟨_, rfl⟩ | exact Or.inr rfl | exact rv_Q _) ?_
      refine aw_get cl_Symbol fl_Symbol_9 (by decide) (hR.sym hk2) rfl d_Symbol_standsFor_19 ?_
      refine aw_callV (c_Name_meaning G _ o c hR hn) cl_Name (hR.name hn) m_Name_meaning ml_Symbol_33 rfl rfl (by decide) (by decide) (Nat.le_of_ble_eq_true rfl) d_Symbol_standsFor_22 ?_
      rintro v h' ⟨rfl, rfl⟩
      refine aw_aret (r := cMean c (c.2.2.2.2.1 5 k)) ?_ rfl (by first | exact Or.inl ⟨_, rfl⟩ | exact Or.inr ⟨_, rfl⟩) d_Symbol_standsFor_25
      exact ⟨rfl, by rw [cStf, if_neg (fun q => i32_2 q.2 (zI_t c11))]⟩
    · refine aw_aloadV_n d_Symbol_standsFor_14 rfl rfl (by first | exact Or.inl ⟨_, rfl⟩ | exact Or.inr rfl | exact rv_Q _) ?_
      refine aw_goto (tgt := 25) d_Symbol_standsFor_15 (by decide) ?_
      refine aw_aret (r := some (c.2.2.2.2.1 2 k)) ?_ rfl (by first | exact Or.inl ⟨_, rfl⟩ | exact Or.inr ⟨_, rfl⟩) d_Symbol_standsFor_25
      exact ⟨rfl, by rw [cStf, if_pos ⟨Int32.not_lt.mp hs, i32_2n (zI_f c11)⟩]⟩
set_option maxRecDepth 20000 in
theorem c_Symbol_placeInImage (G : ax_G) (h : ax_H) (o : Nat) (c : cSt) (hR : cR o c h) (s : mSt) (e : Nat → Nat → Nat) (U S W T : Nat) (hJ : cJ c s e U S W T) {k : Nat} (hk : k < S) (hq : 4 * e 11 k + e 13 k < 4 * U) : AM G Y_Symbol_placeInImage 0 0 [.ref (c.2.2.2.2.1 2 k)] h (fun v h2 => h2 = h ∧ v = some (.int (if s.2.1 13 k < 0 then 0 else c.2.1 28 (4 * e 11 k + e 13 k) + s.2.1 14 k))) := by
  have hk2 := hJ.hk hk
  refine aw_enter (by decide) (Nat.le_of_ble_eq_true rfl) (n := 0) (ls := [some (.ref (c.2.2.2.2.1 2 k))]) rfl (fun x => ?_)
  by_cases hs : s.2.1 13 k < 0
  · have hx : va_rf (c.2.2.2.1 46 k) = .null := by rw [hJ.sec hk, if_pos hs]; rfl
    refine aw_aloadV_n d_Symbol_placeInImage_0 rfl rfl (by first | exact Or.inl ⟨_, rfl⟩ | exact Or.inr rfl | exact rv_Q _) ?_
    refine aw_getE cl_Symbol fl_Symbol_22 (by decide) (hR.sym hk2) rfl hx d_Symbol_placeInImage_1 ?_
    refine aw_ifnonnullN d_Symbol_placeInImage_4 ?_
    refine aw_iconst (v := 0) d_Symbol_placeInImage_7 (by decide) ?_
    refine aw_goto (tgt := 23) d_Symbol_placeInImage_8 (by decide) ?_
    refine aw_iret ?_ rfl d_Symbol_placeInImage_23
    exact ⟨rfl, by rw [if_pos hs]⟩
  · have hx : va_rf (c.2.2.2.1 46 k) = .ref (cQ c.2.2.2.2 (4 * e 11 k + e 13 k)) := by rw [hJ.sec hk, if_neg hs]; rfl
    refine aw_aloadV_n d_Symbol_placeInImage_0 rfl rfl (by first | exact Or.inl ⟨_, rfl⟩ | exact Or.inr rfl | exact rv_Q _) ?_
    refine aw_getE cl_Symbol fl_Symbol_22 (by decide) (hR.sym hk2) rfl hx d_Symbol_placeInImage_1 ?_
    refine aw_ifnonnull (tgt := 11) d_Symbol_placeInImage_4 (by decide) ?_
    refine aw_aloadV_n d_Symbol_placeInImage_11 rfl rfl (by first | exact Or.inl ⟨_, rfl⟩ | exact Or.inr rfl | exact rv_Q _) ?_
    refine aw_getE cl_Symbol fl_Symbol_22 (by decide) (hR.sym hk2) rfl hx d_Symbol_placeInImage_12 ?_
    refine aw_get cl_Section fl_Symbol_39 (by decide) (hR.sec (hJ.hq hq)) rfl d_Symbol_placeInImage_15 ?_
    refine aw_aloadV_n d_Symbol_placeInImage_18 rfl rfl (by first | exact Or.inl ⟨_, rfl⟩ | exact Or.inr rfl | exact rv_Q _) ?_
    refine aw_getE cl_Symbol fl_Symbol_26 (by decide) (hR.sym hk2) rfl (congrArg Value.int (hJ.plc hk (Int32.not_lt.mp hs))) d_Symbol_placeInImage_19 ?_
    refine aw_iadd d_Symbol_placeInImage_22 ?_
    refine aw_iret ?_ rfl d_Symbol_placeInImage_23
    exact ⟨rfl, by rw [if_neg hs]⟩
