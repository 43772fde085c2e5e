theorem cFk_wg {s : mSt} {e : Nat → Nat → Nat} {S w : Nat} : ¬ cFk s e S w = 0 ↔ mWg s e S w := by
  rw [cFk]
  by_cases h1 : mMs (s.2.1 3) (mT s e S) e w
  · rw [if_pos h1]
    exact ⟨fun _ => Or.inl h1, fun _ => by decide⟩
  · rw [if_neg h1]
    by_cases h2 : s.2.1 20 w = 4 ∧ ¬ mVal s e S w = (mVal s e S w).toInt32.toInt64
    · rw [if_pos h2]
      exact ⟨fun _ => Or.inr h2, fun _ => by decide⟩
    · rw [if_neg h2]
      exact ⟨fun q => absurd rfl q, fun q => absurd q (fun z => z.elim h1 h2)⟩
theorem cFk_v {s : mSt} {e : Nat → Nat → Nat} {S w : Nat} (h : mWg s e S w) : cFk s e S w = if mMs (s.2.1 3) (mT s e S) e w then 3 else 4 := by
  rw [cFk]
  by_cases h1 : mMs (s.2.1 3) (mT s e S) e w
  · rw [if_pos h1, if_pos h1]
  · rw [if_neg h1, if_neg h1, if_pos (h.resolve_left h1)]
set_option maxRecDepth 20000 in
theorem l_L_wf {G : ax_G} {x : ax_X} {h0 : ax_H} {P : Option Value → ax_H → Prop} {o : Nat} {c : cSt} {h : ax_H} (hR : cR o c h) (s : mSt) (e : Nat → Nat → Nat) (U S W T : Nat) (hJ : cJ c s e U S W T) (hWb : W ≤ 4096) (hSb : S ≤ 2048) (hUb : U ≤ 32) (i2 : mI2 s e U S) (i3 : mI3 s e S) (i4 : mI4 s e U S W) (hB : cBk s e S c.2.2.2.2 (s.2.1 3) c.2.2.2.1 S) (hnd : ∀ q, q < 4 * U → c.2.1 27 q = s.2.1 4 q) (hbg : ∀ q, q < 4 * U → ¬ s.2.1 4 q = 0 → c.2.1 28 q = 4194304 + s.2.1 7 q) (hcl : ∀ w, w < W → ¬ s.2.1 4 (mSrc e w) = 0 → mTq (s.2.1 3) (mT s e S) e w < 128 → ¬ s.2.1 4 (mTq (s.2.1 3) (mT s e S) e w) = 0) (fin : Int32 × Int32) (hn : fin.1 < 0 → P none h) (hy : ¬ fin.1 < 0 → ∀ h2, cR o (va_up (va_up (va_up c.1 50 fin.2) 51 (s.2.1 23 (iN fin.1))) 52 (s.2.1 17 (iN fin.1)), c.2) h2 → cFr o (c.2.2.2.2.2 5) h h2 → P none h2) : ∀ r w (a : Int32 × Int32) lo1 o3, w + r = W → mWrL s e S r w a = fin → ((a.1 = -1 ∧ lo1 = .null) ∨ (∃ b, b < W ∧ a.1 = nI b ∧ ¬ s.2.1 4 (mSrc e b) = 0 ∧ a.2 = cFk s e S b ∧ lo1 = .ref (c.2.2.2.2.1 3 b))) → AW G x Y_L_findWaitFault 4 85 h0 P h 4 [some (.ref o), some lo1, some (.int (nI w)), o3] [] := by
  intro r
  induction r with
  | zero =>
    intro w a lo1 o3 hw he hI
    have he : a = fin := he
    subst he
    rcases hI with ⟨a1, rfl⟩ | ⟨b, hb, b1, b2, b3, rfl⟩
    · refine aw_iload_n d_L_findWaitFault_4 rfl rfl ?_
      refine aw_aloadV_n d_L_findWaitFault_5 rfl rfl (by first | exact Or.inl ⟨_, rfl⟩ | exact Or.inr rfl | exact rv_Q _) ?_
      refine aw_getE cl_L fl_L_72 (by decide) hR.obj rfl (congrArg Value.int hJ.sW) d_L_findWaitFault_6 ?_
      refine aw_icmp_ge (tgt := 56) d_L_findWaitFault_9 (by decide) (fun c9 => ?_) (fun c9 => ?_)
      · refine aw_aloadV_n d_L_findWaitFault_56 rfl rfl (by first | exact Or.inl ⟨_, rfl⟩ | exact Or.inr rfl | exact rv_Q _) ?_
        refine aw_ifnullN (tgt := 85) d_L_findWaitFault_57 (by decide) ?_
        refine aw_vret ?_ rfl d_L_findWaitFault_85
        exact hn (by rw [a1]; decide)
      · exact absurd (nI_le (show W ≤ w by omega) (by omega)) c9
    · have l4 := i4 b hb
      have hs1 : mSrc e b < 4 * U := by have := l4.1.2; have := l4.2.1.2; show 4 * e 17 b + e 18 b < _; omega
      have hv1 : Value.ref (cQ c.2.2.2.2 (c.2.2.2.2.1 6 b)) = .ref (cQ c.2.2.2.2 (mSrc e b)) := by rw [hJ.home hb]
      have hd1 : mSrc e b / 4 = e 17 b := by have := l4.2.1.2; show (4 * e 17 b + e 18 b) / 4 = _; omega
      have hu1 := l4.1.2
      refine aw_iload_n d_L_findWaitFault_4 rfl rfl ?_
      refine aw_aloadV_n d_L_findWaitFault_5 rfl rfl (by first | exact Or.inl ⟨_, rfl⟩ | exact Or.inr rfl | exact rv_Q _) ?_
      refine aw_getE cl_L fl_L_72 (by decide) hR.obj rfl (congrArg Value.int hJ.sW) d_L_findWaitFault_6 ?_
      refine aw_icmp_ge (tgt := 56) d_L_findWaitFault_9 (by decide) (fun c9 => ?_) (fun c9 => ?_)
      · refine aw_aloadV_n d_L_findWaitFault_56 rfl rfl (by first | exact Or.inl ⟨_, rfl⟩ | exact Or.inr rfl | exact rv_Q _) ?_
        refine aw_ifnull d_L_findWaitFault_57 ?_
        refine aw_aloadV_n d_L_findWaitFault_60 rfl rfl (by first | exact Or.inl ⟨_, rfl⟩ | exact Or.inr rfl | exact rv_Q _) ?_
        refine aw_get cl_L fl_L_47 (by decide) hR.obj rfl d_L_findWaitFault_61 ?_
        refine aw_aloadV_n d_L_findWaitFault_64 rfl rfl (by first | exact Or.inl ⟨_, rfl⟩ | exact Or.inr rfl | exact rv_Q _) ?_
        refine aw_callV (c_Wait_faultKind G _ o c hR s e U S W T hJ hSb hUb i2 i3 i4 hB hnd hbg hcl hb b2) cl_Wait (hR.wait (hJ.hw hb)) m_Wait_faultKind ml_L_341 rfl rfl (by decide) (by decide) (Nat.le_of_ble_eq_true rfl) d_L_findWaitFault_65 ?_
        rintro v h ⟨rfl, rfl⟩
        refine aw_aloadV_n d_L_findWaitFault_68 rfl rfl (by first | exact Or.inl ⟨_, rfl⟩ | exact Or.inr rfl | exact rv_Q _) ?_
        refine aw_getE cl_Wait fl_L_348 (by decide) (hR.wait (hJ.hw hb)) rfl (congrArg Value.int (hJ.wlin hb)) d_L_findWaitFault_69 ?_
        refine aw_aloadV_n d_L_findWaitFault_72 rfl rfl (by first | exact Or.inl ⟨_, rfl⟩ | exact Or.inr rfl | exact rv_Q _) ?_
        refine aw_getE cl_Wait fl_L_318 (by decide) (hR.wait (hJ.hw hb)) rfl hv1 d_L_findWaitFault_73 ?_
        refine aw_getE cl_Section fl_L_349 (by decide) (hR.sec (hJ.hq hs1)) rfl (show _ = Value.ref (c.2.2.2.2.1 0 (e 17 b)) from by show Value.ref (c.2.2.2.2.1 0 (mSrc e b / 4)) = _; rw [hd1]) d_L_findWaitFault_76 ?_
        refine aw_getE cl_Unit fl_L_104 (by decide) (hR.unit (hJ.hu hu1)) rfl (congrArg Value.int l4.1.1.symm) d_L_findWaitFault_79 ?_
        refine aw_callV (c_Fault_tell G _ o c hR (cFk s e S b) (s.2.1 23 b) (s.2.1 17 b)) cl_Fault hR.flt m_Fault_tell ml_L_187 rfl rfl (by decide) (by decide) (Nat.le_of_ble_eq_true rfl) d_L_findWaitFault_82 ?_
        rintro v h2 ⟨rfl, hR2, hF2⟩
        refine aw_vret ?_ rfl d_L_findWaitFault_85
        refine hy (by rw [b1]; exact nI_pos (by omega)) h2 ?_ hF2
        rw [b3, b1, show iN (nI b) = b from nI_clamp (by omega)]
        exact hR2
      · exact absurd (nI_le (show W ≤ w by omega) (by omega)) c9
  | succ r ih =>
    intro w a lo1 o3 hw he hI
    have hwW : w < W := by omega
    have l4 := i4 w hwW
    have hsrc : mSrc e w < 4 * U := by have := l4.1.2; have := l4.2.1.2; show 4 * e 17 w + e 18 w < _; omega
    have hhv : Value.ref (cQ c.2.2.2.2 (c.2.2.2.2.1 6 w)) = .ref (cQ c.2.2.2.2 (mSrc e w)) := by rw [hJ.home hwW]
    rw [mWrL] at he
    rcases hI with ⟨a1, rfl⟩ | ⟨b, hb, b1, b2, b3, rfl⟩
    · refine aw_iload_n d_L_findWaitFault_4 rfl rfl ?_
      refine aw_aloadV_n d_L_findWaitFault_5 rfl rfl (by first | exact Or.inl ⟨_, rfl⟩ | exact Or.inr rfl | exact rv_Q _) ?_
      refine aw_getE cl_L fl_L_72 (by decide) hR.obj rfl (congrArg Value.int hJ.sW) d_L_findWaitFault_6 ?_
      refine aw_icmp_ge (tgt := 56) d_L_findWaitFault_9 (by decide) (fun c9 => ?_) (fun c9 => ?_)
      · exact absurd c9 (nI_ge (by omega) (by omega))
      · refine aw_aloadV_n d_L_findWaitFault_12 rfl rfl (by first | exact Or.inl ⟨_, rfl⟩ | exact Or.inr rfl | exact rv_Q _) ?_
        refine aw_get cl_L fl_L_29 (by decide) hR.obj rfl d_L_findWaitFault_13 ?_
        refine aw_iload_n d_L_findWaitFault_16 rfl rfl ?_
        refine aC_l4 hR rfl (show w < 4096 by omega) (hJ.rW hwW) d_L_findWaitFault_17 ?_
        refine aw_astoreV_n d_L_findWaitFault_18 rfl (by decide) (by first | exact Or.inl ⟨_, rfl⟩ | exact Or.inr rfl | exact rv_Q _) (by dsimp only [List.set]) ?_
        refine aw_aloadV_n d_L_findWaitFault_19 rfl rfl (by first | exact Or.inl ⟨_, rfl⟩ | exact Or.inr rfl | exact rv_Q _) ?_
        refine aw_getE cl_Wait fl_L_318 (by decide) (hR.wait (hJ.hw hwW)) rfl hhv d_L_findWaitFault_20 ?_
        refine aw_getE cl_Section fl_L_237 (by decide) (hR.sec (hJ.hq hsrc)) rfl (congrArg Value.int (hnd _ hsrc)) d_L_findWaitFault_23 ?_
        refine aw_if_eq (tgt := 50) d_L_findWaitFault_26 (by decide) (fun c26 => ?_) (fun c26 => ?_)
        · refine aw_iinc (v := nI (w + 1)) d_L_findWaitFault_50 rfl (ax_inc w) (by decide) (by dsimp only [List.set]) ?_
          refine aw_goto (tgt := 4) d_L_findWaitFault_53 (by decide) ?_
          rw [if_neg (fun q => q.1 c26)] at he
          exact ih (w + 1) a _ _ (by omega) he (Or.inl ⟨a1, rfl⟩)
        · refine aw_aloadV_n d_L_findWaitFault_29 rfl rfl (by first | exact Or.inl ⟨_, rfl⟩ | exact Or.inr rfl | exact rv_Q _) ?_
          refine aw_callV (c_Wait_faultKind G _ o c hR s e U S W T hJ hSb hUb i2 i3 i4 hB hnd hbg hcl hwW c26) cl_Wait (hR.wait (hJ.hw hwW)) m_Wait_faultKind ml_L_341 rfl rfl (by decide) (by decide) (Nat.le_of_ble_eq_true rfl) d_L_findWaitFault_30 ?_
          rintro v h ⟨rfl, rfl⟩
          refine aw_if_eq (tgt := 50) d_L_findWaitFault_33 (by decide) (fun c33 => ?_) (fun c33 => ?_)
          · refine aw_iinc (v := nI (w + 1)) d_L_findWaitFault_50 rfl (ax_inc w) (by decide) (by dsimp only [List.set]) ?_
            refine aw_goto (tgt := 4) d_L_findWaitFault_53 (by decide) ?_
            rw [if_neg (fun q => cFk_wg.mpr q.2.1 c33)] at he
            exact ih (w + 1) a _ _ (by omega) he (Or.inl ⟨a1, rfl⟩)
          · refine aw_aloadV_n d_L_findWaitFault_36 rfl rfl (by first | exact Or.inl ⟨_, rfl⟩ | exact Or.inr rfl | exact rv_Q _) ?_
            refine aw_ifnullN (tgt := 48) d_L_findWaitFault_37 (by decide) ?_
            refine aw_aloadV_n d_L_findWaitFault_48 rfl rfl (by first | exact Or.inl ⟨_, rfl⟩ | exact Or.inr rfl | exact rv_Q _) ?_
            refine aw_astoreV_n d_L_findWaitFault_49 rfl (by decide) (by first | exact Or.inl ⟨_, rfl⟩ | exact Or.inr rfl | exact rv_Q _) (by dsimp only [List.set]) ?_
            refine aw_iinc (v := nI (w + 1)) d_L_findWaitFault_50 rfl (ax_inc w) (by decide) (by dsimp only [List.set]) ?_
            refine aw_goto (tgt := 4) d_L_findWaitFault_53 (by decide) ?_
            rw [if_pos ⟨c26, cFk_wg.mp c33, Or.inl (by rw [a1]; decide)⟩] at he
            exact ih (w + 1) _ _ _ (by omega) he (Or.inr ⟨w, hwW, rfl, c26, (cFk_v (cFk_wg.mp c33)).symm, rfl⟩)
    · have ear : mEar (s.2.1 17) (s.2.1 23) a.1 w ↔ (e 17 w < e 17 b ∨ (e 17 w = e 17 b ∧ s.2.1 23 w < s.2.1 23 b)) := by
        have u1 := l4.1
        have u2 := (i4 b hb).1
        rw [mEar, b1, show iN (nI b) = b from nI_clamp (by omega), u1.1, u2.1, nI_ltI (by omega) (by omega), nI_eq (by omega) (by omega)]
        exact ⟨fun q => q.resolve_left (nI_pos (by omega)), Or.inr⟩
      refine aw_iload_n d_L_findWaitFault_4 rfl rfl ?_
      refine aw_aloadV_n d_L_findWaitFault_5 rfl rfl (by first | exact Or.inl ⟨_, rfl⟩ | exact Or.inr rfl | exact rv_Q _) ?_
      refine aw_getE cl_L fl_L_72 (by decide) hR.obj rfl (congrArg Value.int hJ.sW) d_L_findWaitFault_6 ?_
      refine aw_icmp_ge (tgt := 56) d_L_findWaitFault_9 (by decide) (fun c9 => ?_) (fun c9 => ?_)
      · exact absurd c9 (nI_ge (by omega) (by omega))
      · refine aw_aloadV_n d_L_findWaitFault_12 rfl rfl (by first | exact Or.inl ⟨_, rfl⟩ | exact Or.inr rfl | exact rv_Q _) ?_
        refine aw_get cl_L fl_L_29 (by decide) hR.obj rfl d_L_findWaitFault_13 ?_
        refine aw_iload_n d_L_findWaitFault_16 rfl rfl ?_
        refine aC_l4 hR rfl (show w < 4096 by omega) (hJ.rW hwW) d_L_findWaitFault_17 ?_
        refine aw_astoreV_n d_L_findWaitFault_18 rfl (by decide) (by first | exact Or.inl ⟨_, rfl⟩ | exact Or.inr rfl | exact rv_Q _) (by dsimp only [List.set]) ?_
        refine aw_aloadV_n d_L_findWaitFault_19 rfl rfl (by first | exact Or.inl ⟨_, rfl⟩ | exact Or.inr rfl | exact rv_Q _) ?_
        refine aw_getE cl_Wait fl_L_318 (by decide) (hR.wait (hJ.hw hwW)) rfl hhv d_L_findWaitFault_20 ?_
        refine aw_getE cl_Section fl_L_237 (by decide) (hR.sec (hJ.hq hsrc)) rfl (congrArg Value.int (hnd _ hsrc)) d_L_findWaitFault_23 ?_
        refine aw_if_eq (tgt := 50) d_L_findWaitFault_26 (by decide) (fun c26 => ?_) (fun c26 => ?_)
        · refine aw_iinc (v := nI (w + 1)) d_L_findWaitFault_50 rfl (ax_inc w) (by decide) (by dsimp only [List.set]) ?_
          refine aw_goto (tgt := 4) d_L_findWaitFault_53 (by decide) ?_
          rw [if_neg (fun q => q.1 c26)] at he
          exact ih (w + 1) a _ _ (by omega) he (Or.inr ⟨b, hb, b1, b2, b3, rfl⟩)
        · refine aw_aloadV_n d_L_findWaitFault_29 rfl rfl (by first | exact Or.inl ⟨_, rfl⟩ | exact Or.inr rfl | exact rv_Q _) ?_
          refine aw_callV (c_Wait_faultKind G _ o c hR s e U S W T hJ hSb hUb i2 i3 i4 hB hnd hbg hcl hwW c26) cl_Wait (hR.wait (hJ.hw hwW)) m_Wait_faultKind ml_L_341 rfl rfl (by decide) (by decide) (Nat.le_of_ble_eq_true rfl) d_L_findWaitFault_30 ?_
          rintro v h ⟨rfl, rfl⟩
          refine aw_if_eq (tgt := 50) d_L_findWaitFault_33 (by decide) (fun c33 => ?_) (fun c33 => ?_)
          · refine aw_iinc (v := nI (w + 1)) d_L_findWaitFault_50 rfl (ax_inc w) (by decide) (by dsimp only [List.set]) ?_
            refine aw_goto (tgt := 4) d_L_findWaitFault_53 (by decide) ?_
            rw [if_neg (fun q => cFk_wg.mpr q.2.1 c33)] at he
            exact ih (w + 1) a _ _ (by omega) he (Or.inr ⟨b, hb, b1, b2, b3, rfl⟩)
          · refine aw_aloadV_n d_L_findWaitFault_36 rfl rfl (by first | exact Or.inl ⟨_, rfl⟩ | exact Or.inr rfl | exact rv_Q _) ?_
            refine aw_ifnull d_L_findWaitFault_37 ?_
            refine aw_aloadV_n d_L_findWaitFault_40 rfl rfl (by first | exact Or.inl ⟨_, rfl⟩ | exact Or.inr rfl | exact rv_Q _) ?_
            refine aw_aloadV_n d_L_findWaitFault_41 rfl rfl (by first | exact Or.inl ⟨_, rfl⟩ | exact Or.inr rfl | exact rv_Q _) ?_
            refine aw_callV (c_Wait_isBefore G _ o c hR s e U S W T hJ hUb i4 hwW hb) cl_Wait (hR.wait (hJ.hw hwW)) m_Wait_isBefore ml_L_344 rfl rfl (by decide) (by decide) (Nat.le_of_ble_eq_true rfl) d_L_findWaitFault_42 ?_
            rintro v h ⟨rfl, rfl⟩
            refine aw_if_eq (tgt := 50) d_L_findWaitFault_45 (by decide) (fun c45 => ?_) (fun c45 => ?_)
            · refine aw_iinc (v := nI (w + 1)) d_L_findWaitFault_50 rfl (ax_inc w) (by decide) (by dsimp only [List.set]) ?_
              refine aw_goto (tgt := 4) d_L_findWaitFault_53 (by decide) ?_
              rw [if_neg (fun q => zP_f c45 (ear.mp q.2.2))] at he
              exact ih (w + 1) a _ _ (by omega) he (Or.inr ⟨b, hb, b1, b2, b3, rfl⟩)
            · refine aw_aloadV_n d_L_findWaitFault_48 rfl rfl (by first | exact Or.inl ⟨_, rfl⟩ | exact Or.inr rfl | exact rv_Q _) ?_
              refine aw_astoreV_n d_L_findWaitFault_49 rfl (by decide) (by first | exact Or.inl ⟨_, rfl⟩ | exact Or.inr rfl | exact rv_Q _) (by dsimp only [List.set]) ?_
              refine aw_iinc (v := nI (w + 1)) d_L_findWaitFault_50 rfl (ax_inc w) (by decide) (by dsimp only [List.set]) ?_
              refine aw_goto (tgt := 4) d_L_findWaitFault_53 (by decide) ?_
              rw [if_pos ⟨c26, cFk_wg.mp c33, ear.mpr (zP_t c45)⟩] at he
              exact ih (w + 1) _ _ _ (by omega) he (Or.inr ⟨w, hwW, rfl, c26, (cFk_v (cFk_wg.mp c33)).symm, rfl⟩)
set_option maxRecDepth 20000 in
theorem c_L_findWaitFault (G : ax_G) (h : ax_H) (o : Nat) (c : cSt) (hR : cR o c h) (s : mSt) (e : Nat → Nat → Nat) (U S W T : Nat) (hJ : cJ c s e U S W T) (hWb : W ≤ 4096) (hSb : S ≤ 2048) (hUb : U ≤ 32) (i2 : mI2 s e U S) (i3 : mI3 s e S) (i4 : mI4 s e U S W) (hB : cBk s e S c.2.2.2.2 (s.2.1 3) c.2.2.2.1 S) (hnd : ∀ q, q < 4 * U → c.2.1 27 q = s.2.1 4 q) (hbg : ∀ q, q < 4 * U → ¬ s.2.1 4 q = 0 → c.2.1 28 q = 4194304 + s.2.1 7 q) (hcl : ∀ w, w < W → ¬ s.2.1 4 (mSrc e w) = 0 → mTq (s.2.1 3) (mT s e S) e w < 128 → ¬ s.2.1 4 (mTq (s.2.1 3) (mT s e S) e w) = 0) : AM G Y_L_findWaitFault 4 85 [.ref o] h (fun v h2 => v = none ∧ (((mWrL s e S W 0 (-1, 0)).1 < 0 ∧ h2 = h) ∨ (¬ (mWrL s e S W 0 (-1, 0)).1 < 0 ∧ cR o (va_up (va_up (va_up c.1 50 (mWrL s e S W 0 (-1, 0)).2) 51 (s.2.1 23 (iN (mWrL s e S W 0 (-1, 0)).1))) 52 (s.2.1 17 (iN (mWrL s e S W 0 (-1, 0)).1)), c.2) h2 ∧ cFr o (c.2.2.2.2.2 5) h h2))) := by
  refine aw_enter (by decide) (Nat.le_of_ble_eq_true rfl) (n := 3) (ls := [some (.ref o), none, none, none]) rfl (fun x => ?_)
  refine aw_null d_L_findWaitFault_0 ?_
  refine aw_astoreV_n d_L_findWaitFault_1 rfl (by decide) (by first | exact Or.inl ⟨_, rfl⟩ | exact Or.inr rfl | exact rv_Q _) (by dsimp only [List.set]) ?_
  refine aw_iconst (v := 0) d_L_findWaitFault_2 (by decide) ?_
  refine aw_istore_n d_L_findWaitFault_3 rfl (by decide) (by dsimp only [List.set]) ?_
  exact l_L_wf hR s e U S W T hJ hWb hSb hUb i2 i3 i4 hB hnd hbg hcl _ (fun q => ⟨rfl, Or.inl ⟨q, rfl⟩⟩) (fun q h2 a1 a2 => ⟨rfl, Or.inr ⟨q, a1, a2⟩⟩) W 0 (-1, 0) _ _ (by omega) rfl (Or.inl ⟨rfl, rfl⟩)
