theorem wd_s223 : Cond.stringRef "SymbolLinker" 223 "the units have a fault" ∈ lw_tbl := (in_t_3 (List.mem_of_getElem? (i := 140) rfl))
theorem wd_s250 : Cond.stringRef "SymbolLinker" 250 "the image has no such name" ∈ lw_tbl := (in_t_3 (List.mem_of_getElem? (i := 215) rfl))
theorem nx_0 : decode prog_19_method_4_code 0 = .ok (.aload_n 0, 1) := by decide +kernel
theorem nx_1 : decode prog_19_method_4_code 1 = .ok (.aload_n 1, 1) := by decide +kernel
theorem nx_2 : decode prog_19_method_4_code 2 = .ok (.invokespecial 13, 3) := by decide +kernel
theorem nx_5 : decode prog_19_method_4_code 5 = .ok (.return_, 1) := by decide +kernel
theorem wd_atN : ∀ a ∈ ax_tA "SymbolLinker" 252 "java/util/NoSuchElementException" 13 prog_19_method_4_code "java/lang/RuntimeException" ["java/lang/Exception"], (a ∈ lw_tbl ∧ ax_ok a = true) ∨ a = zS1 ∨ a = zS2 := by decide +kernel
theorem wd_atI : ∀ a ∈ ax_tA "SymbolLinker" 225 "java/lang/IllegalStateException" 7 Bundle.six "java/lang/RuntimeException" ["java/lang/Exception"], (a ∈ lw_tbl ∧ ax_ok a = true) ∨ a = zS1 ∨ a = zS2 := by decide +kernel
theorem cR.thrown {o : Nat} {c : cSt} {h : ax_H} (hR : cR o c h) (E : ax_E) (k : Nat) : cR o c (ax_new h E k) := hR.frame (Nat.le_succ_of_le hR.2.1) (fun a q1 _ => ax_new_ne _ _ (by have := hR.2.1; omega))
theorem cRm.thrown {o n : Nat} {h : ax_H} (r : cRm o (n + 1) h) (E : ax_E) : cRm o n (ax_new h E 6) := by
  have := r.1
  have := r.2
  exact ⟨by show h.1 + 1 + 7 * n ≤ _; omega, by show h.2.1 + 6 + 40 * n ≤ _; omega⟩
theorem lawF.thrown {o : Nat} {h : ax_H} (h54 : o + 54 ≤ h.1) (E : ax_E) (k : Nat) : lawF (o + 17) (o + 53) h (ax_new h E k) := ⟨fun j hj => ax_new_ne _ _ (by omega), ax_new_ne _ _ (by omega)⟩
theorem mAddrR_s {r : Option Int32} (h : (mAddrR r).1 = 0) : ∃ z, r = some z ∧ (mAddrR r).2 = z := by
  cases r with
  | none => exact absurd h (by decide)
  | some z => exact ⟨z, rfl, rfl⟩
theorem mAddrR_n {r : Option Int32} (h : ¬ (mAddrR r).1 = 0) : r = none := by
  cases r with
  | none => rfl
  | some z => exact absurd rfl h
set_option maxRecDepth 20000 in
theorem k_Address (G : ax_G) (o : Nat) (hG : G.1 = o) (hsz : G.2.1.heap.size ≤ G.1) (z1 : ax_ZS G "UNASSIGNED_STACK" "[Ljava/lang/StackTraceElement;") (z2 : ax_ZS G "SUPPRESSED_SENTINEL" "Ljava/util/List;") (hfl : G.2.2.2.1.flags = pinnedFlags ++ [noTraceFlag]) : lawAddress G (cC o) o (o + 17) (o + 53) := by
  intro s e U S W T B n h w a hV hM hC
  obtain ⟨c, hR, hJ, hKi, hKn, hKf, hKb, hRm⟩ := hC
  obtain ⟨K, hK1, hK2, hK3⟩ := hKi.2.2.2.1
  have hr1 := hRm.1
  have hr2 := hRm.2
  refine ⟨fun hz => ?_, fun hz => ?_⟩
  · obtain ⟨z, hz1, hz2⟩ := mAddrR_s hz
    rw [hz2]
    rw [mAddr] at hz1
    have hno : ¬ (s.1 38 = 0 ∨ a < 1 ∨ 8 < a) := fun q => by rw [if_pos q] at hz1; cases hz1
    rw [if_neg hno] at hz1
    have hlk : mAddrL (c.2.1 12) (c.2.2.1 11) (c.2.1 13) (mCut w a) a 0 K = some z := by rw [hK3, if_neg (fun q => hno (Or.inl q)), hz1]
    have ha : 1 ≤ a ∧ a ≤ 8 := ⟨Int32.not_lt.mp (fun q => hno (Or.inr (Or.inl q))), Int32.not_lt.mp (fun q => hno (Or.inr (Or.inr q)))⟩
    have crow : AM G Y_Image_rowOfName 0 0 [.ref (o + 8), .long (mCut w a), .int a] h (fun v h2 => h2 = h ∧ ∃ i, i < K ∧ c.2.1 13 i = z ∧ v = some (.int (nI i))) := by
      refine am_mono ?_ (c_Image_rowOfName G h o c hR hK2 hK1 (mCut w a) a)
      rintro v h2 ⟨rfl, ⟨i, i1, i2, rfl⟩ | ⟨i1, -⟩⟩
      · rw [hlk] at i2
        exact ⟨rfl, i, i1, (Option.some.inj i2).symm, rfl⟩
      · rw [hlk] at i1
        cases i1
    refine aw_enter (by decide) (Nat.le_of_ble_eq_true rfl) (n := 1) (ls := [some (.ref o), some (.long w), none, some (.int a), none]) rfl (fun x => ?_)
    refine aw_iload_n d_L_address_0 rfl rfl ?_
    refine aw_callS (c_L_isNameLength G _ a) m_L_isNameLength ml_L_130 rfl rfl (by decide) (by decide) (Nat.le_of_ble_eq_true rfl) d_L_address_1 ?_
    rintro v h ⟨rfl, rfl⟩
    refine aw_if_eq (tgt := 23) d_L_address_4 (by decide) (fun c4 => ?_) (fun c4 => ?_)
    · exact absurd ha (zI_f c4)
    · refine aw_aloadV_n d_L_address_7 rfl rfl (by first | exact Or.inl ⟨_, rfl⟩ | exact Or.inr rfl | exact rv_Q _) ?_
      refine aw_get cl_L fl_L_54 (by decide) hR.obj rfl d_L_address_8 ?_
      refine aw_lload_n d_L_address_11 rfl rfl ?_
      refine aw_iload_n d_L_address_12 rfl rfl ?_
      refine aw_callS (c_L_nameWord G _ w a ha.2) m_L_nameWord ml_L_147 rfl rfl (by decide) (by decide) (Nat.le_of_ble_eq_true rfl) d_L_address_13 ?_
      rintro v h ⟨rfl, rfl⟩
      refine aw_iload_n d_L_address_16 rfl rfl ?_
      refine aw_callV crow cl_Image hR.img m_Image_rowOfName ml_L_244 rfl rfl (by decide) (by decide) (Nat.le_of_ble_eq_true rfl) d_L_address_17 ?_
      rintro v h ⟨rfl, i, i1, i2, rfl⟩
      have ni : ¬ nI i = -1 := fun q => absurd (nI_pos' (n := i) (by omega)) (by rw [q]; decide)
      refine aw_goto (tgt := 24) d_L_address_20 (by decide) ?_
      refine aw_istore d_L_address_24 (by decide) (by dsimp only [List.set]) ?_
      refine aw_iload d_L_address_26 rfl ?_
      refine aw_iconst (v := (-1)) d_L_address_28 (by decide) ?_
      refine aw_icmp_ne (tgt := 42) d_L_address_29 (by decide) (fun c29 => ?_) (fun c29 => ?_)
      · refine aw_aloadV_n d_L_address_42 rfl rfl (by first | exact Or.inl ⟨_, rfl⟩ | exact Or.inr rfl | exact rv_Q _) ?_
        refine aw_get cl_L fl_L_54 (by decide) hR.obj rfl d_L_address_43 ?_
        refine aw_get cl_Image fl_L_253 (by decide) hR.img rfl d_L_address_46 ?_
        refine aw_iload d_L_address_49 rfl ?_
        refine aC_l13 hR rfl (show i < 2048 by omega) d_L_address_51 ?_
        refine aw_iret ?_ rfl d_L_address_52
        rw [i2]
        exact ⟨rfl, ⟨c, hR, hJ, hKi, hKn, hKf, hKb, hRm.dn⟩, lawF.rf _ _ _⟩
      · exact absurd c29 ni
  · have hn := mAddrR_n hz
    have hp : ∀ fs, (∃ fs2, (ax_new h (.inr (10, fs)) 6).2.2 h.1 = some (.inr (10, fs2))) ∧ cC o s e U S W T B n (ax_new h (.inr (10, fs)) 6) ∧ lawF (o + 17) (o + 53) h (ax_new h (.inr (10, fs)) 6) := fun fs => ⟨⟨fs, ax_new_self _ _⟩, ⟨c, hR.thrown _ _, hJ, hKi, hKn, hKf, hKb, hRm.thrown _⟩, lawF.thrown hR.h54 _ _⟩
    refine aw_enterT (by decide) (Nat.le_of_ble_eq_true rfl) (n := 1) (ls := [some (.ref o), some (.long w), none, some (.int a), none]) rfl (fun x hO => ?_)
    by_cases ha : 1 ≤ a ∧ a ≤ 8
    · have hlk : mAddrL (c.2.1 12) (c.2.2.1 11) (c.2.1 13) (mCut w a) a 0 K = none := by
        rw [hK3]
        by_cases h38 : s.1 38 = 0
        · rw [if_pos h38]
        · rw [if_neg h38]
          rw [mAddr, if_neg (fun q => q.elim h38 (fun q => q.elim (fun z => absurd ha.1 (Int32.not_le.mpr z)) (fun z => absurd ha.2 (Int32.not_le.mpr z))))] at hn
          exact hn
      have crow : AM G Y_Image_rowOfName 0 0 [.ref (o + 8), .long (mCut w a), .int a] h (fun v h2 => h2 = h ∧ v = some (.int (-1))) := by
        refine am_mono ?_ (c_Image_rowOfName G h o c hR hK2 hK1 (mCut w a) a)
        rintro v h2 ⟨rfl, ⟨i, i1, i2, rfl⟩ | ⟨-, rfl⟩⟩
        · rw [hlk] at i2
          cases i2
        · exact ⟨rfl, rfl⟩
      refine aw_iload_n d_L_address_0 rfl rfl ?_
      refine aw_callS (c_L_isNameLength G _ a) m_L_isNameLength ml_L_130 rfl rfl (by decide) (by decide) (Nat.le_of_ble_eq_true rfl) d_L_address_1 ?_
      rintro v h ⟨rfl, rfl⟩
      refine aw_if_eq (tgt := 23) d_L_address_4 (by decide) (fun c4 => ?_) (fun c4 => ?_)
      · exact absurd ha (zI_f c4)
      · refine aw_aloadV_n d_L_address_7 rfl rfl (by first | exact Or.inl ⟨_, rfl⟩ | exact Or.inr rfl | exact rv_Q _) ?_
        refine aw_get cl_L fl_L_54 (by decide) hR.obj rfl d_L_address_8 ?_
        refine aw_lload_n d_L_address_11 rfl rfl ?_
        refine aw_iload_n d_L_address_12 rfl rfl ?_
        refine aw_callS (c_L_nameWord G _ w a ha.2) m_L_nameWord ml_L_147 rfl rfl (by decide) (by decide) (Nat.le_of_ble_eq_true rfl) d_L_address_13 ?_
        rintro v h ⟨rfl, rfl⟩
        refine aw_iload_n d_L_address_16 rfl rfl ?_
        refine aw_callV crow cl_Image hR.img m_Image_rowOfName ml_L_244 rfl rfl (by decide) (by decide) (Nat.le_of_ble_eq_true rfl) d_L_address_17 ?_
        rintro v h ⟨rfl, rfl⟩
        refine aw_goto (tgt := 24) d_L_address_20 (by decide) ?_
        refine aw_istore d_L_address_24 (by decide) (by dsimp only [List.set]) ?_
        refine aw_iload d_L_address_26 rfl ?_
        refine aw_iconst (v := (-1)) d_L_address_28 (by decide) ?_
        refine aw_icmp_ne (tgt := 42) d_L_address_29 (by decide) (fun c29 => ?_) (fun c29 => ?_)
        · exact absurd rfl c29
        · refine aw_throw (names := ["java/lang/Exception"]) cl_JNoSuchElementException hO kl_L_248 ni_JNoSuchElementException ii_JNoSuchElementException wd_s250 (by decide) (by decide) nx_0 nx_1 nx_2 nx_5 wd_atN hsz z1 z2 hfl (by rw [hG]; omega) (by omega) (by decide) (Nat.le_of_ble_eq_true rfl) d_L_address_32 d_L_address_35 d_L_address_36 d_L_address_38 d_L_address_41 (fun fs => ?_)
          exact hp fs
    · refine aw_iload_n d_L_address_0 rfl rfl ?_
      refine aw_callS (c_L_isNameLength G _ a) m_L_isNameLength ml_L_130 rfl rfl (by decide) (by decide) (Nat.le_of_ble_eq_true rfl) d_L_address_1 ?_
      rintro v h ⟨rfl, rfl⟩
      refine aw_if_eq (tgt := 23) d_L_address_4 (by decide) (fun c4 => ?_) (fun c4 => ?_)
      · refine aw_iconst (v := (-1)) d_L_address_23 (by decide) ?_
        refine aw_istore d_L_address_24 (by decide) (by dsimp only [List.set]) ?_
        refine aw_iload d_L_address_26 rfl ?_
        refine aw_iconst (v := (-1)) d_L_address_28 (by decide) ?_
        refine aw_icmp_ne (tgt := 42) d_L_address_29 (by decide) (fun c29 => ?_) (fun c29 => ?_)
        · exact absurd rfl c29
        · refine aw_throw (names := ["java/lang/Exception"]) cl_JNoSuchElementException hO kl_L_248 ni_JNoSuchElementException ii_JNoSuchElementException wd_s250 (by decide) (by decide) nx_0 nx_1 nx_2 nx_5 wd_atN hsz z1 z2 hfl (by rw [hG]; omega) (by omega) (by decide) (Nat.le_of_ble_eq_true rfl) d_L_address_32 d_L_address_35 d_L_address_36 d_L_address_38 d_L_address_41 (fun fs => ?_)
          exact hp fs
      · exact absurd (zI_t c4) ha
