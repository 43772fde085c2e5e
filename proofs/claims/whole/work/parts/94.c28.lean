def cPs (c : cSt) (U : Nat) (nd : Nat → Int32) (k : Nat) (L : Int32 × (Nat → Int32)) (pl : Nat → Int32) (w : Nat → Int32) (I : Nat → Nat → Int32) : Prop := (∀ k, ¬ k = 15 → w k = c.1 k) ∧ w 15 = 4194304 + L.1 ∧ (∀ F, ¬ F = 28 → ¬ F = 16 → I F = c.2.1 F) ∧ (∀ q, q < 4 * U → q % 4 < k → ¬ nd q = 0 → I 28 q = 4194304 + L.2 q) ∧ I 16 = pl
theorem cPs.ag {c : cSt} {U k : Nat} {nd pl w : Nat → Int32} {L : Int32 × (Nat → Int32)} {I : Nat → Nat → Int32} (h : cPs c U nd k L pl w I) : cAg [16, 28, 115] c (w, I, c.2.2) := ⟨fun k q => h.1 k (fun e => q (by rw [e]; decide)), fun k q => h.2.2.1 k (fun e => q (by rw [e]; decide)) (fun e => q (by rw [e]; decide)), fun _ _ => rfl, fun _ _ => rfl, rfl⟩
theorem cPs.plan {c : cSt} {U k : Nat} {nd pl w : Nat → Int32} {L : Int32 × (Nat → Int32)} {I : Nat → Nat → Int32} (h : cPs c U nd k L pl w I) (j : Nat) (z : Int32) : cPs c U nd k L (va_up pl j z) w (va_up I 16 (va_up (I 16) j z)) := ⟨h.1, h.2.1, fun F q1 q2 => (va_up_ne _ _ q2).trans (h.2.2.1 F q1 q2), h.2.2.2.1, by rw [va_up_self, h.2.2.2.2]⟩
theorem c_L_placeP (G : ax_G) (h : ax_H) (o : Nat) (c : cSt) (w : Nat → Int32) (I : Nat → Nat → Int32) (hR : cR o (w, I, c.2.2) h) (s : mSt) (e : Nat → Nat → Nat) (U S W T : Nat) (hJ : cJ c s e U S W T) (hUb : U ≤ 32) (nd : Nat → Int32) (hnd : ∀ q, q < 4 * U → c.2.1 27 q = nd q) {kd : Nat} (hkd : kd < 4) (L : mLy) (pl : Nat → Int32) (hP : cPs c U nd kd L.2 pl w I) (zk z : Int32) (hzk : zk = nI kd) (hz : z = 4194304 + L.1) : AM G Y_L_placeSections 1 21 [.ref o, .int zk, .int z] h (fun v h2 => v = some (.int (4194304 + (mLayL (s.2.1 5) nd kd U 0 L).1)) ∧ ∃ w2 I2, cR o (w2, I2, c.2.2) h2 ∧ cPs c U nd (kd + 1) (mLayL (s.2.1 5) nd kd U 0 L).2 pl w2 I2 ∧ cFr o (c.2.2.2.2.2 5) h h2) := by
  have hJ1 : cJ (w, I, c.2.2) s e U S W T := hJ.ag hP.ag (by decide)
  refine am_mono ?_ (c_L_place G h o (w, I, c.2.2) hR s e U S W T hJ1 hUb nd (fun q hq => by show I 27 q = _; rw [hP.2.2.1 27 (by decide) (by decide)]; exact hnd q hq) hkd (fun q => q % 4 < kd) (fun q h1 h2 => by omega) L zk z hzk hz hP.2.1 hP.2.2.2.1)
  rintro v h2 ⟨e1, w2, I2, a1, a2, a3, a4, a5, a6⟩
  refine ⟨e1, w2, I2, a1, ⟨fun k q => (a2 k q).trans (hP.1 k q), a3, fun F q1 q2 => (a4 F q1).trans (hP.2.2.1 F q1 q2), fun q q1 q2 q3 => a5 q q1 ?_ q3, (a4 16 (by decide)).trans hP.2.2.2.2⟩, a6⟩
  by_cases e2 : q % 4 = kd
  · exact Or.inr e2
  · exact Or.inl (by omega)
set_option maxRecDepth 20000 in
theorem c_L_placeParts (G : ax_G) (h : ax_H) (o : Nat) (c : cSt) (hR : cR o c h) (s : mSt) (e : Nat → Nat → Nat) (U S W T : Nat) (hJ : cJ c s e U S W T) (hSb : S ≤ 2048) (hUb : U ≤ 32) (nd ad : Nat → Int32) (hnd : ∀ q, q < 4 * U → c.2.1 27 q = nd q) {E : Nat} (hE : E < S) (hE0 : 0 ≤ s.2.1 13 E) (hEq : 4 * e 11 E + e 13 E < 4 * U) (hEn : ¬ nd (4 * e 11 E + e 13 E) = 0) : AM G Y_L_placeParts 2 46 [.ref o, .ref (c.2.2.2.2.1 2 E)] h (fun v h2 => v = none ∧ ∃ w I, cR o (w, I, c.2.2) h2 ∧ cPs c U nd 4 (mLay4 (s.2.1 5) nd ad U).2 (va_up (va_up (va_up (va_up (va_up (va_up (va_up (c.2.1 16) 0 (4194304 + (mLay1 (s.2.1 5) nd ad U).1)) 1 (4194304 + mUp4k (mLay1 (s.2.1 5) nd ad U).1)) 2 (4194304 + (mLay2 (s.2.1 5) nd ad U).1)) 3 (4194304 + mUp4k (mLay2 (s.2.1 5) nd ad U).1)) 4 (4194304 + (mLay4 (s.2.1 5) nd ad U).1)) 5 (mLab1 (mLay4 (s.2.1 5) nd ad U).2.2 (s.2.1 14) e E)) 6 (mLay4 (s.2.1 5) nd ad U).2.1) w I ∧ cFr o (c.2.2.2.2.2 5) h h2) := by
  refine aw_enter (by decide) (Nat.le_of_ble_eq_true rfl) (n := 1) (ls := [some (.ref o), some (.ref (c.2.2.2.2.1 2 E)), none]) rfl (fun x => ?_)
  refine aw_aloadV_n d_L_placeParts_0 rfl rfl (by first | exact Or.inl ⟨_, rfl⟩ | exact Or.inr rfl | exact rv_Q _) ?_
  refine aw_ldc kc_L_81 d_L_placeParts_1 ?_
  refine aC_p15 hR fl_L_82 rfl rfl d_L_placeParts_3 (fun g3 hR3 hF3 => ?_)
  refine aw_aloadV_n d_L_placeParts_6 rfl rfl (by first | exact Or.inl ⟨_, rfl⟩ | exact Or.inr rfl | exact rv_Q _) ?_
  refine aw_get cl_L fl_L_58 (by decide) hR3.obj rfl d_L_placeParts_7 ?_
  refine aw_iconst (v := 0) d_L_placeParts_10 (by decide) ?_
  refine aw_aloadV_n d_L_placeParts_11 rfl rfl (by first | exact Or.inl ⟨_, rfl⟩ | exact Or.inr rfl | exact rv_Q _) ?_
  refine aw_iconst (v := 0) d_L_placeParts_12 (by decide) ?_
  refine aw_ldc kc_L_81 d_L_placeParts_13 ?_
  refine aw_callV (c_L_placeP G _ o c (va_up c.1 15 4194304) c.2.1 hR3 s e U S W T hJ hUb nd hnd (kd := 0) (by decide) (0, 0, ad) (c.2.1 16) ⟨fun k q => va_up_ne _ _ q, (va_up_self c.1 _ _).trans (show (4194304 : Int32) = 4194304 + 0 by decide), fun _ _ _ => rfl, fun q _ q2 => absurd q2 (Nat.not_lt_zero _), rfl⟩ 0 4194304 rfl (show (4194304 : Int32) = 4194304 + 0 by decide)) cl_L hR3.obj m_L_placeSections ml_L_325 rfl rfl (by decide) (by decide) (Nat.le_of_ble_eq_true rfl) d_L_placeParts_15 ?_
  rintro v h1 ⟨rfl, w1, I1, hR_1, hP1, hF_1⟩
  refine aC_s16 hR_1 (rfl : (0 : Int32) = nI 0) (by decide) d_L_placeParts_18 (fun g18 hR18 hF18 => ?_)
  have hP18 := hP1.plan 0 (4194304 + (mLay1 (s.2.1 5) nd ad U).1)
  refine aw_aloadV_n d_L_placeParts_19 rfl rfl (by first | exact Or.inl ⟨_, rfl⟩ | exact Or.inr rfl | exact rv_Q _) ?_
  refine aw_get cl_L fl_L_58 (by decide) hR18.obj rfl d_L_placeParts_20 ?_
  refine aw_iconst (v := 1) d_L_placeParts_23 (by decide) ?_
  refine aw_aloadV_n d_L_placeParts_24 rfl rfl (by first | exact Or.inl ⟨_, rfl⟩ | exact Or.inr rfl | exact rv_Q _) ?_
  refine aw_get cl_L fl_L_58 (by decide) hR18.obj rfl d_L_placeParts_25 ?_
  refine aw_iconst (v := 0) d_L_placeParts_28 (by decide) ?_
  refine aC_l16 hR18 (rfl : (0 : Int32) = nI 0) (by decide) d_L_placeParts_29 ?_
  have er18 : (va_up I1 16 (va_up (I1 16) 0 (4194304 + (mLay1 (s.2.1 5) nd ad U).1))) 16 0 = 4194304 + (mLay1 (s.2.1 5) nd ad U).1 := by rw [hP18.2.2.2.2]; rfl
  show AW G x Y_L_placeParts _ _ _ _ _ _ _ (.int ((va_up I1 16 (va_up (I1 16) 0 (4194304 + (mLay1 (s.2.1 5) nd ad U).1))) 16 0) :: _)
  rw [er18]
  refine aw_sipush (v := 4096) d_L_placeParts_30 (by decide) ?_
  refine aw_callS (c_L_roundUp G _ (4194304 + (mLay1 (s.2.1 5) nd ad U).1) 4096) m_L_roundUp ml_L_329 rfl rfl (by decide) (by decide) (Nat.le_of_ble_eq_true rfl) d_L_placeParts_33 ?_
  rintro v h' ⟨rfl, rfl⟩
  rw [cUp4k]
  refine aC_s16 hR18 (rfl : (1 : Int32) = nI 1) (by decide) d_L_placeParts_36 (fun g36 hR36 hF36 => ?_)
  have hP36 := hP18.plan 1 (4194304 + mUp4k (mLay1 (s.2.1 5) nd ad U).1)
  refine aw_aloadV_n d_L_placeParts_37 rfl rfl (by first | exact Or.inl ⟨_, rfl⟩ | exact Or.inr rfl | exact rv_Q _) ?_
  refine aw_get cl_L fl_L_58 (by decide) hR36.obj rfl d_L_placeParts_38 ?_
  refine aw_iconst (v := 2) d_L_placeParts_41 (by decide) ?_
  refine aw_aloadV_n d_L_placeParts_42 rfl rfl (by first | exact Or.inl ⟨_, rfl⟩ | exact Or.inr rfl | exact rv_Q _) ?_
  refine aw_iconst (v := 1) d_L_placeParts_43 (by decide) ?_
  refine aw_aloadV_n d_L_placeParts_44 rfl rfl (by first | exact Or.inl ⟨_, rfl⟩ | exact Or.inr rfl | exact rv_Q _) ?_
  refine aw_get cl_L fl_L_58 (by decide) hR36.obj rfl d_L_placeParts_45 ?_
  refine aw_iconst (v := 1) d_L_placeParts_48 (by decide) ?_
  refine aC_l16 hR36 (rfl : (1 : Int32) = nI 1) (by decide) d_L_placeParts_49 ?_
  have er36 : (va_up (va_up I1 16 (va_up (I1 16) 0 (4194304 + (mLay1 (s.2.1 5) nd ad U).1))) 16 (va_up ((va_up I1 16 (va_up (I1 16) 0 (4194304 + (mLay1 (s.2.1 5) nd ad U).1))) 16) 1 (4194304 + mUp4k (mLay1 (s.2.1 5) nd ad U).1))) 16 1 = 4194304 + mUp4k (mLay1 (s.2.1 5) nd ad U).1 := by rw [hP36.2.2.2.2]; rfl
  show AW G x Y_L_placeParts _ _ _ _ _ _ _ (.int ((va_up (va_up I1 16 (va_up (I1 16) 0 (4194304 + (mLay1 (s.2.1 5) nd ad U).1))) 16 (va_up ((va_up I1 16 (va_up (I1 16) 0 (4194304 + (mLay1 (s.2.1 5) nd ad U).1))) 16) 1 (4194304 + mUp4k (mLay1 (s.2.1 5) nd ad U).1))) 16 1) :: _)
  rw [er36]
  refine aw_callV (c_L_placeP G _ o c _ _ hR36 s e U S W T hJ hUb nd hnd (kd := 1) (by decide) (mUp4k (mLay1 (s.2.1 5) nd ad U).1, (mLay1 (s.2.1 5) nd ad U).2) (va_up (va_up (c.2.1 16) 0 (4194304 + (mLay1 (s.2.1 5) nd ad U).1)) 1 (4194304 + mUp4k (mLay1 (s.2.1 5) nd ad U).1)) hP36 1 _ rfl rfl) cl_L hR36.obj m_L_placeSections ml_L_325 rfl rfl (by decide) (by decide) (Nat.le_of_ble_eq_true rfl) d_L_placeParts_50 ?_
  rintro v h2 ⟨rfl, w2, I2, hR_2, hP2, hF_2⟩
  refine aC_s16 hR_2 (rfl : (2 : Int32) = nI 2) (by decide) d_L_placeParts_53 (fun g53 hR53 hF53 => ?_)
  have hP53 := hP2.plan 2 (4194304 + (mLay2 (s.2.1 5) nd ad U).1)
  refine aw_aloadV_n d_L_placeParts_54 rfl rfl (by first | exact Or.inl ⟨_, rfl⟩ | exact Or.inr rfl | exact rv_Q _) ?_
  refine aw_get cl_L fl_L_58 (by decide) hR53.obj rfl d_L_placeParts_55 ?_
  refine aw_iconst (v := 3) d_L_placeParts_58 (by decide) ?_
  refine aw_aloadV_n d_L_placeParts_59 rfl rfl (by first | exact Or.inl ⟨_, rfl⟩ | exact Or.inr rfl | exact rv_Q _) ?_
  refine aw_get cl_L fl_L_58 (by decide) hR53.obj rfl d_L_placeParts_60 ?_
  refine aw_iconst (v := 2) d_L_placeParts_63 (by decide) ?_
  refine aC_l16 hR53 (rfl : (2 : Int32) = nI 2) (by decide) d_L_placeParts_64 ?_
  have er53 : (va_up I2 16 (va_up (I2 16) 2 (4194304 + (mLay2 (s.2.1 5) nd ad U).1))) 16 2 = 4194304 + (mLay2 (s.2.1 5) nd ad U).1 := by rw [hP53.2.2.2.2]; rfl
  show AW G x Y_L_placeParts _ _ _ _ _ _ _ (.int ((va_up I2 16 (va_up (I2 16) 2 (4194304 + (mLay2 (s.2.1 5) nd ad U).1))) 16 2) :: _)
  rw [er53]
  refine aw_sipush (v := 4096) d_L_placeParts_65 (by decide) ?_
  refine aw_callS (c_L_roundUp G _ (4194304 + (mLay2 (s.2.1 5) nd ad U).1) 4096) m_L_roundUp ml_L_329 rfl rfl (by decide) (by decide) (Nat.le_of_ble_eq_true rfl) d_L_placeParts_68 ?_
  rintro v h' ⟨rfl, rfl⟩
  rw [cUp4k]
  refine aC_s16 hR53 (rfl : (3 : Int32) = nI 3) (by decide) d_L_placeParts_71 (fun g71 hR71 hF71 => ?_)
  have hP71 := hP53.plan 3 (4194304 + mUp4k (mLay2 (s.2.1 5) nd ad U).1)
  refine aw_aloadV_n d_L_placeParts_72 rfl rfl (by first | exact Or.inl ⟨_, rfl⟩ | exact Or.inr rfl | exact rv_Q _) ?_
  refine aw_iconst (v := 2) d_L_placeParts_73 (by decide) ?_
  refine aw_aloadV_n d_L_placeParts_74 rfl rfl (by first | exact Or.inl ⟨_, rfl⟩ | exact Or.inr rfl | exact rv_Q _) ?_
  refine aw_get cl_L fl_L_58 (by decide) hR71.obj rfl d_L_placeParts_75 ?_
  refine aw_iconst (v := 3) d_L_placeParts_78 (by decide) ?_
  refine aC_l16 hR71 (rfl : (3 : Int32) = nI 3) (by decide) d_L_placeParts_79 ?_
  have er71 : (va_up (va_up I2 16 (va_up (I2 16) 2 (4194304 + (mLay2 (s.2.1 5) nd ad U).1))) 16 (va_up ((va_up I2 16 (va_up (I2 16) 2 (4194304 + (mLay2 (s.2.1 5) nd ad U).1))) 16) 3 (4194304 + mUp4k (mLay2 (s.2.1 5) nd ad U).1))) 16 3 = 4194304 + mUp4k (mLay2 (s.2.1 5) nd ad U).1 := by rw [hP71.2.2.2.2]; rfl
  show AW G x Y_L_placeParts _ _ _ _ _ _ _ (.int ((va_up (va_up I2 16 (va_up (I2 16) 2 (4194304 + (mLay2 (s.2.1 5) nd ad U).1))) 16 (va_up ((va_up I2 16 (va_up (I2 16) 2 (4194304 + (mLay2 (s.2.1 5) nd ad U).1))) 16) 3 (4194304 + mUp4k (mLay2 (s.2.1 5) nd ad U).1))) 16 3) :: _)
  rw [er71]
  refine aw_callV (c_L_placeP G _ o c _ _ hR71 s e U S W T hJ hUb nd hnd (kd := 2) (by decide) (mUp4k (mLay2 (s.2.1 5) nd ad U).1, (mLay2 (s.2.1 5) nd ad U).2) (va_up (va_up (va_up (va_up (c.2.1 16) 0 (4194304 + (mLay1 (s.2.1 5) nd ad U).1)) 1 (4194304 + mUp4k (mLay1 (s.2.1 5) nd ad U).1)) 2 (4194304 + (mLay2 (s.2.1 5) nd ad U).1)) 3 (4194304 + mUp4k (mLay2 (s.2.1 5) nd ad U).1)) hP71 2 _ rfl rfl) cl_L hR71.obj m_L_placeSections ml_L_325 rfl rfl (by decide) (by decide) (Nat.le_of_ble_eq_true rfl) d_L_placeParts_80 ?_
  rintro v h3 ⟨rfl, w3, I3, hR_3, hP3, hF_3⟩
  refine aw_istore_n d_L_placeParts_83 rfl (by decide) (by dsimp only [List.set]) ?_
  refine aw_aloadV_n d_L_placeParts_84 rfl rfl (by first | exact Or.inl ⟨_, rfl⟩ | exact Or.inr rfl | exact rv_Q _) ?_
  refine aw_get cl_L fl_L_58 (by decide) hR_3.obj rfl d_L_placeParts_85 ?_
  refine aw_iconst (v := 4) d_L_placeParts_88 (by decide) ?_
  refine aw_aloadV_n d_L_placeParts_89 rfl rfl (by first | exact Or.inl ⟨_, rfl⟩ | exact Or.inr rfl | exact rv_Q _) ?_
  refine aw_iconst (v := 3) d_L_placeParts_90 (by decide) ?_
  refine aw_iload_n d_L_placeParts_91 rfl rfl ?_
  refine aw_callV (c_L_placeP G _ o c _ _ hR_3 s e U S W T hJ hUb nd hnd (kd := 3) (by decide) (mLay3 (s.2.1 5) nd ad U) (va_up (va_up (va_up (va_up (c.2.1 16) 0 (4194304 + (mLay1 (s.2.1 5) nd ad U).1)) 1 (4194304 + mUp4k (mLay1 (s.2.1 5) nd ad U).1)) 2 (4194304 + (mLay2 (s.2.1 5) nd ad U).1)) 3 (4194304 + mUp4k (mLay2 (s.2.1 5) nd ad U).1)) hP3 3 _ rfl rfl) cl_L hR_3.obj m_L_placeSections ml_L_325 rfl rfl (by decide) (by decide) (Nat.le_of_ble_eq_true rfl) d_L_placeParts_92 ?_
  rintro v h4 ⟨rfl, w4, I4, hR_4, hP4, hF_4⟩
  refine aC_s16 hR_4 (rfl : (4 : Int32) = nI 4) (by decide) d_L_placeParts_95 (fun g95 hR95 hF95 => ?_)
  have hP95 := hP4.plan 4 (4194304 + (mLay4 (s.2.1 5) nd ad U).1)
  have hJ95 := hJ.ag hP95.ag (by decide)
  refine aw_aloadV_n d_L_placeParts_96 rfl rfl (by first | exact Or.inl ⟨_, rfl⟩ | exact Or.inr rfl | exact rv_Q _) ?_
  refine aw_get cl_L fl_L_58 (by decide) hR95.obj rfl d_L_placeParts_97 ?_
  refine aw_iconst (v := 5) d_L_placeParts_100 (by decide) ?_
  refine aw_aloadV_n d_L_placeParts_101 rfl rfl (by first | exact Or.inl ⟨_, rfl⟩ | exact Or.inr rfl | exact rv_Q _) ?_
  refine aw_callV (c_Symbol_placeInImage G _ o _ hR95 s e U S W T hJ95 hE hEq) cl_Symbol (hR95.sym (hJ95.hk hE)) m_Symbol_placeInImage ml_L_332 rfl rfl (by decide) (by decide) (Nat.le_of_ble_eq_true rfl) d_L_placeParts_102 ?_
  rintro v h' ⟨rfl, rfl⟩
  rw [if_neg (Int32.not_lt.mpr hE0)]
  have e28 : I4 28 (4 * e 11 E + e 13 E) = 4194304 + (mLay4 (s.2.1 5) nd ad U).2.2 (4 * e 11 E + e 13 E) := hP4.2.2.2.1 _ hEq (by omega) hEn
  show AW G x Y_L_placeParts _ _ _ _ _ 105 _ (.int (I4 28 (4 * e 11 E + e 13 E) + s.2.1 14 E) :: _)
  rw [e28]
  show AW G x Y_L_placeParts _ _ _ _ _ 105 _ (.int (mLab1 (mLay4 (s.2.1 5) nd ad U).2.2 (s.2.1 14) e E) :: _)
  refine aC_s16 hR95 (rfl : (5 : Int32) = nI 5) (by decide) d_L_placeParts_105 (fun g105 hR105 hF105 => ?_)
  have hP105 := hP95.plan 5 (mLab1 (mLay4 (s.2.1 5) nd ad U).2.2 (s.2.1 14) e E)
  refine aw_aloadV_n d_L_placeParts_106 rfl rfl (by first | exact Or.inl ⟨_, rfl⟩ | exact Or.inr rfl | exact rv_Q _) ?_
  refine aw_get cl_L fl_L_58 (by decide) hR105.obj rfl d_L_placeParts_107 ?_
  refine aw_bipush (v := 6) d_L_placeParts_110 (by decide) ?_
  refine aw_aloadV_n d_L_placeParts_112 rfl rfl (by first | exact Or.inl ⟨_, rfl⟩ | exact Or.inr rfl | exact rv_Q _) ?_
  refine aw_get cl_L fl_L_82 (by decide) hR105.obj rfl d_L_placeParts_113 ?_
  refine aw_ldc kc_L_81 d_L_placeParts_116 ?_
  refine aw_isub d_L_placeParts_118 ?_
  have e15 : w4 15 = 4194304 + (mLay4 (s.2.1 5) nd ad U).2.1 := hP4.2.1
  show AW G x Y_L_placeParts _ _ _ _ _ _ _ (.int (w4 15 - 4194304) :: _)
  rw [e15, show 4194304 + (mLay4 (s.2.1 5) nd ad U).2.1 - 4194304 = (mLay4 (s.2.1 5) nd ad U).2.1 by rw [Int32.add_comm, Int32.add_sub_cancel]]
  refine aC_s16 hR105 (rfl : (6 : Int32) = nI 6) (by decide) d_L_placeParts_119 (fun g119 hR119 hF119 => ?_)
  have hP119 := hP105.plan 6 (mLay4 (s.2.1 5) nd ad U).2.1
  refine aw_vret ?_ rfl d_L_placeParts_120
  exact ⟨rfl, _, _, hR119, hP119, (((((((((((hF3.tr hF_1).tr hF18).tr hF36).tr hF_2).tr hF53).tr hF71).tr hF_3).tr hF_4).tr hF95).tr hF105).tr hF119)⟩
