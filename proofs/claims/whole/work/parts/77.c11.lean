theorem cJ.addT {c : cSt} {s : mSt} {e : Nat → Nat → Nat} {U S W T : Nat} (h : cJ c s e U S W T) (hU : 0 < U) (p l : Int32) (z : Nat → Int32) (b : Int32) (hh : ax_H) : cJ (va_up c.1 13 (nI T + 1), (cAddT c hh (4 * (U - 1)) p l).2.1, c.2.2.1, va_up c.2.2.2.1 5 (va_up (c.2.2.2.1 5) T (some hh.1)), (cAddT c hh (4 * (U - 1)) p l).2.2.2.2) (z, va_up (va_up (va_up s.2.1 25 (va_up (s.2.1 25) T b)) 26 (va_up (s.2.1 26) T p)) 27 (va_up (s.2.1 27) T l), s.2.2) (va_up e 25 (va_up (e 25) T (U - 1))) U S W (T + 1) := by
  have hT := h.nT
  obtain ⟨h1, h2, h3, h4, h5, h6, h7⟩ := h
  refine ⟨⟨h1.1, h1.2.1, h1.2.2.1, ?_, h1.2.2.2.2.1, h1.2.2.2.2.2.1, h1.2.2.2.2.2.2.1, h1.2.2.2.2.2.2.2.1, h1.2.2.2.2.2.2.2.2.1, nI_1 T⟩, h2, h3, h4, h5, h6, fun j hj => ?_⟩
  · show c.2.2.2.2.2 4 + 1 = T + 1
    rw [hT]
  · show va_up (c.2.2.2.1 5) T (some hh.1) j = some (va_up (c.2.2.2.2.1 4) (c.2.2.2.2.2 4) hh.1 j) ∧ va_up (c.2.2.2.2.1 7) (c.2.2.2.2.2 4) (4 * (U - 1)) j = 4 * va_up (e 25) T (U - 1) j ∧ va_up (c.2.1 40) (c.2.2.2.2.2 4) p j = va_up (s.2.1 26) T p j ∧ va_up (c.2.1 41) (c.2.2.2.2.2 4) l j = va_up (s.2.1 27) T l j
    rw [hT]
    by_cases e0 : j = T
    · subst e0
      rw [va_up_self, va_up_self, va_up_self, va_up_self, va_up_self, va_up_self, va_up_self, va_up_self]
      exact ⟨rfl, rfl, rfl, rfl⟩
    · rw [va_up_ne _ _ e0, va_up_ne _ _ e0, va_up_ne _ _ e0, va_up_ne _ _ e0, va_up_ne _ _ e0, va_up_ne _ _ e0, va_up_ne _ _ e0, va_up_ne _ _ e0]
      exact h7 j (by omega)
theorem i32_le1 {p z : Int32} {m : Nat} (hz : z = nI m) (hm : m ≤ 65536) : p ≤ z - 1 ↔ p < z := by
  subst hz
  rw [Int32.le_iff_toInt_le, Int32.lt_iff_toInt_lt, show (1 : Int32) = nI 1 from rfl, pk_sub_toInt (by omega) (by decide), nI_toInt (by omega)]
  omega
set_option maxRecDepth 20000 in
theorem k_Start (G : ax_G) (o : Nat) (hG : G.1 = o) : lawStart G (cC o) o (o + 17) (o + 53) := by
  intro s e U S W T B n h p l hV hM hC
  obtain ⟨c, hR, hJ, hKi, hKn, hKf, hKb, hRm⟩ := hC
  have hy := hV.1
  refine aw_enter (by decide) (Nat.le_of_ble_eq_true rfl) (n := 1) (ls := [some (.ref o), some (.int p), some (.int l), none]) rfl (fun x => ?_)
  have hTb := hy.hTb
  by_cases hk : mKeepOk U 0
  · have hx : va_rf (cOp (mKeepOk U 0) (cQ c.2.2.2.2 (4 * (U - 1) + iN 0))) = .ref (cQ c.2.2.2.2 (4 * (U - 1))) := by rw [cOp_t hk]; rfl
    have hU0 := hk.1
    have hq : 4 * (U - 1) < 4 * U := by omega
    have hsz := hJ.size hq
    have hi1 := hy.i1 _ hq
    refine aw_aloadV_n d_L_start_0 rfl rfl (by first | exact Or.inl ⟨_, rfl⟩ | exact Or.inr rfl | exact rv_Q _) ?_
    refine aw_iconst (v := 0) d_L_start_1 (by decide) ?_
    refine aw_callV (c_L_latestSection G _ o c hR s e U S W T hJ hy.2.1 0) cl_L hR.obj m_L_latestSection ml_L_107 rfl rfl (by decide) (by decide) (Nat.le_of_ble_eq_true rfl) d_L_start_2 ?_
    rintro v h ⟨rfl, rfl⟩
    rw [hx]
    refine aw_astoreV_n d_L_start_5 rfl (by decide) (by first | exact Or.inl ⟨_, rfl⟩ | exact Or.inr rfl | exact rv_Q _) (by dsimp only [List.set]) ?_
    refine aw_aloadV_n d_L_start_6 rfl rfl (by first | exact Or.inl ⟨_, rfl⟩ | exact Or.inr rfl | exact rv_Q _) ?_
    refine aw_ifnull d_L_start_7 ?_
    refine aw_aloadV_n d_L_start_10 rfl rfl (by first | exact Or.inl ⟨_, rfl⟩ | exact Or.inr rfl | exact rv_Q _) ?_
    refine aw_iload_n d_L_start_11 rfl rfl ?_
    refine aw_iconst (v := 1) d_L_start_12 (by decide) ?_
    refine aw_callV (c_Section_holds G _ o c hR (hJ.hq hq) p 1) cl_Section (hR.sec (hJ.hq hq)) m_Section_holds ml_L_111 rfl rfl (by decide) (by decide) (Nat.le_of_ble_eq_true rfl) d_L_start_13 ?_
    rintro v h ⟨rfl, rfl⟩
    refine aw_if_eq (tgt := 36) d_L_start_16 (by decide) (fun c16 => ?_) (fun c16 => ?_)
    · refine aw_iconst (v := 0) d_L_start_36 (by decide) ?_
      refine aw_zret ?_ rfl rfl d_L_start_37
      have hok : ¬ mStartOk s U T p l := fun q => zI_f c16 ⟨q.2.1, (i32_le1 (hsz.trans hi1.1.1) hi1.1.2).mpr (by rw [hsz]; exact q.2.2.1)⟩
      exact ⟨by rw [zI_0 hok], Or.inr ⟨hok, ⟨c, hR, hJ, hKi, hKn, hKf, hKb, hRm.dn⟩⟩, lawF.rf _ _ _⟩
    · refine aw_iload_n d_L_start_19 rfl rfl ?_
      refine aw_callS (c_L_isLine G _ l) m_L_isLine ml_L_133 rfl rfl (by decide) (by decide) (Nat.le_of_ble_eq_true rfl) d_L_start_20 ?_
      rintro v h ⟨rfl, rfl⟩
      refine aw_if_eq (tgt := 36) d_L_start_23 (by decide) (fun c23 => ?_) (fun c23 => ?_)
      · refine aw_iconst (v := 0) d_L_start_36 (by decide) ?_
        refine aw_zret ?_ rfl rfl d_L_start_37
        have hok : ¬ mStartOk s U T p l := fun q => zI_f c23 q.2.2.2.1
        exact ⟨by rw [zI_0 hok], Or.inr ⟨hok, ⟨c, hR, hJ, hKi, hKn, hKf, hKb, hRm.dn⟩⟩, lawF.rf _ _ _⟩
      · refine aw_aloadV_n d_L_start_26 rfl rfl (by first | exact Or.inl ⟨_, rfl⟩ | exact Or.inr rfl | exact rv_Q _) ?_
        refine aw_getE cl_L fl_L_75 (by decide) hR.obj rfl (congrArg Value.int hJ.sT) d_L_start_27 ?_
        refine aw_sipush (v := 8192) d_L_start_30 (by decide) ?_
        refine aw_icmp_lt (tgt := 38) d_L_start_33 (by decide) (fun c33 => ?_) (fun c33 => ?_)
        · have hT8 : T < 8192 := (nI_ltI (by omega) (by decide)).mp c33
          have hr1 := hRm.1
          have hr2 := hRm.2
          refine aw_aloadV_n d_L_start_38 rfl rfl (by first | exact Or.inl ⟨_, rfl⟩ | exact Or.inr rfl | exact rv_Q _) ?_
          refine aw_get cl_L fl_L_35 (by decide) hR.obj rfl d_L_start_39 ?_
          refine aw_aloadV_n d_L_start_42 rfl rfl (by first | exact Or.inl ⟨_, rfl⟩ | exact Or.inr rfl | exact rv_Q _) ?_
          refine aw_getE cl_L fl_L_75 (by decide) hR.obj rfl (congrArg Value.int hJ.sT) d_L_start_43 ?_
          refine aw_new cl_Start kl_L_33 ni_Start ii_Start f0_Start_d (by rw [hG]; omega) (by omega) d_L_start_46 ?_
          refine aw_dup d_L_start_49 rfl ?_
          refine aw_aloadV_n d_L_start_50 rfl rfl (by first | exact Or.inl ⟨_, rfl⟩ | exact Or.inr rfl | exact rv_Q _) ?_
          refine aw_iload_n d_L_start_51 rfl rfl ?_
          refine aw_iload_n d_L_start_52 rfl rfl ?_
          refine aw_callI (c_Start_init G _ h.1 (ax_new_self _ _) (cQ c.2.2.2.2 (4 * (U - 1))) p l) m_Start_init ml_L_184 rfl rfl (by decide) (by decide) (Nat.le_of_ble_eq_true rfl) d_L_start_53 ?_
          rintro v h ⟨rfl, rfl⟩
          rw [ax_new_set]
          have hR1 := hR.addT (n := 3) (4 * (U - 1)) p l (hJ.hq hq)
          refine aC_s5 hR1 rfl hT8 (ax_new_self _ _) d_L_start_56 (fun g56 hR56 hF56 => ?_)
          refine aw_aloadV_n d_L_start_57 rfl rfl (by first | exact Or.inl ⟨_, rfl⟩ | exact Or.inr rfl | exact rv_Q _) ?_
          refine aw_dup d_L_start_58 rfl ?_
          refine aw_getE cl_L fl_L_75 (by decide) hR56.obj rfl (congrArg Value.int hJ.sT) d_L_start_59 ?_
          refine aw_iconst (v := 1) d_L_start_62 (by decide) ?_
          refine aw_iadd d_L_start_63 ?_
          refine aC_p13 hR56 fl_L_75 rfl rfl d_L_start_64 (fun g64 hR64 hF64 => ?_)
          refine aw_iconst (v := 1) d_L_start_67 (by decide) ?_
          refine aw_zret ?_ rfl rfl d_L_start_68
          have hF := (hF56.tr hF64)
          have hp := zI_t c16
          have hok : mStartOk s U T p l := ⟨hU0, hp.1, by rw [← hsz]; exact (i32_le1 (hsz.trans hi1.1.1) hi1.1.2).mp hp.2, zI_t c23, by omega⟩
          rw [mStart, if_pos hok]
          exact ⟨by rw [zI_1 hok], Or.inl ⟨hok, ⟨_, hR64, hJ.addT hU0 p l _ _ h, hKi, hKn, hKf, hKb, hRm.frN hF (by decide)⟩⟩, hF.lawN hR.h54⟩
        · refine aw_iconst (v := 0) d_L_start_36 (by decide) ?_
          refine aw_zret ?_ rfl rfl d_L_start_37
          have hok : ¬ mStartOk s U T p l := fun q => c33 (nI_lt (show T < 8192 by have := q.2.2.2.2; omega) (by decide))
          exact ⟨by rw [zI_0 hok], Or.inr ⟨hok, ⟨c, hR, hJ, hKi, hKn, hKf, hKb, hRm.dn⟩⟩, lawF.rf _ _ _⟩
  · have hx : va_rf (cOp (mKeepOk U 0) (cQ c.2.2.2.2 (4 * (U - 1) + iN 0))) = .null := by rw [cOp_f hk]; rfl
    have hok : ¬ mStartOk s U T p l := fun q => hk ⟨q.1, by decide, by decide⟩
    refine aw_aloadV_n d_L_start_0 rfl rfl (by first | exact Or.inl ⟨_, rfl⟩ | exact Or.inr rfl | exact rv_Q _) ?_
    refine aw_iconst (v := 0) d_L_start_1 (by decide) ?_
    refine aw_callV (c_L_latestSection G _ o c hR s e U S W T hJ hy.2.1 0) cl_L hR.obj m_L_latestSection ml_L_107 rfl rfl (by decide) (by decide) (Nat.le_of_ble_eq_true rfl) d_L_start_2 ?_
    rintro v h ⟨rfl, rfl⟩
    rw [hx]
    refine aw_astoreV_n d_L_start_5 rfl (by decide) (by first | exact Or.inl ⟨_, rfl⟩ | exact Or.inr rfl | exact rv_Q _) (by dsimp only [List.set]) ?_
    refine aw_aloadV_n d_L_start_6 rfl rfl (by first | exact Or.inl ⟨_, rfl⟩ | exact Or.inr rfl | exact rv_Q _) ?_
    refine aw_ifnullN (tgt := 36) d_L_start_7 (by decide) ?_
    refine aw_iconst (v := 0) d_L_start_36 (by decide) ?_
    refine aw_zret ?_ rfl rfl d_L_start_37
    exact ⟨by rw [zI_0 hok], Or.inr ⟨hok, ⟨c, hR, hJ, hKi, hKn, hKf, hKb, hRm.dn⟩⟩, lawF.rf _ _ _⟩
