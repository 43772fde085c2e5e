set_option maxRecDepth 20000 in
theorem t_L_unit {G : ax_G} {x : ax_X} {h0 : ax_H} {P : Option Value → ax_H → Prop} {o : Nat} {c : cSt} {h : ax_H} (hR : cR o c h) {U a : Nat} (hU : c.2.2.2.2.2 0 = U) (hU1 : c.1 9 = nI U) (hU32 : U < 32) (lb t r d z mo sb : Int32) (zt bt : Nat → Int32) (hat : c.2.2.2.2.2 5 ≤ a) (hl : a + 6 ≤ h.1) (hu : h.2.2 a = some (.inr (3, [.int (nI U), .int lb, .ref (a + 1), .ref (o + 3), .int sb, .int sb, .int 0]))) (h1 : h.2.2 (a + 1) = some (.inl (.object "SymbolLinker$Section", 4, .inr (.inr (.inr (.inr (fun k => if k < 4 then some (a + 2 + k) else none))))))) (hs : ∀ j, j < 4 → h.2.2 (a + 2 + j) = some (.inr (4, [.ref a, .int (zt j), .int (bt j), .int 0, .int 0, .int 0]))) (hp : ∀ h2, cR o (va_up c.1 9 (nI U + 1), (cAddU c a lb sb zt bt).2.1, c.2.2.1, va_up c.2.2.2.1 1 (va_up (c.2.2.2.1 1) U (some a)), (cAddU c a lb sb zt bt).2.2.2.2) h2 → cFr o (a + 6) h h2 → P (some (.int (nI U))) h2) : AW G x Y_L_unit 4 118 h0 P h 129 [some (.ref o), some (.int lb), some (.int t), some (.int r), some (.int d), some (.int z), some (.int mo), some (.ref a)] [] := by
  have hR5 := hR.addU (a := a) lb sb zt bt hat hl (by rw [hU]; exact hu) h1 hs
  refine aw_aloadV_n d_L_unit_129 rfl rfl (by first | exact Or.inl ⟨_, rfl⟩ | exact Or.inr rfl | exact rv_Q _) ?_
  refine aw_get cl_L fl_L_11 (by decide) hR5.obj rfl d_L_unit_130 ?_
  refine aw_aloadV_n d_L_unit_133 rfl rfl (by first | exact Or.inl ⟨_, rfl⟩ | exact Or.inr rfl | exact rv_Q _) ?_
  refine aw_getE cl_L fl_L_62 (by decide) hR5.obj rfl (congrArg Value.int hU1) d_L_unit_134 ?_
  refine aw_aloadV d_L_unit_137 rfl (by first | exact Or.inl ⟨_, rfl⟩ | exact Or.inr rfl | exact rv_Q _) ?_
  refine aC_s1 hR5 rfl hU32 hu d_L_unit_139 (fun g139 hR139 hF139 => ?_)
  refine aw_aloadV_n d_L_unit_140 rfl rfl (by first | exact Or.inl ⟨_, rfl⟩ | exact Or.inr rfl | exact rv_Q _) ?_
  refine aw_dup d_L_unit_141 rfl ?_
  refine aw_getE cl_L fl_L_62 (by decide) hR139.obj rfl (congrArg Value.int hU1) d_L_unit_142 ?_
  refine aw_iconst (v := 1) d_L_unit_145 (by decide) ?_
  refine aw_iadd d_L_unit_146 ?_
  refine aC_p9 hR139 fl_L_62 rfl rfl d_L_unit_147 (fun g147 hR147 hF147 => ?_)
  have hz := hR147.unit (i := c.2.2.2.2.2 0) (Nat.lt_succ_self _)
  have ez : va_up (c.2.2.2.2.1 0) (c.2.2.2.2.2 0) a (c.2.2.2.2.2 0) = a := va_up_self _ _ _
  have hz : g147.2.2 (va_up (c.2.2.2.2.1 0) (c.2.2.2.2.2 0) a (c.2.2.2.2.2 0)) = _ := hz
  rw [ez] at hz
  refine aw_aloadV d_L_unit_150 rfl (by first | exact Or.inl ⟨_, rfl⟩ | exact Or.inr rfl | exact rv_Q _) ?_
  refine aw_get cl_Unit fl_L_104 (by decide) hz rfl d_L_unit_152 ?_
  refine aw_iret ?_ rfl d_L_unit_155
  rw [hU]
  exact hp _ hR147 (hF139.tr hF147)
theorem bt4 (B t r : Nat) (z : Nat → Nat) : True := trivial
set_option maxRecDepth 20000 in
theorem k_Unit (G : ax_G) (o : Nat) (hG : G.1 = o) : lawUnit G (cC o) o (o + 17) (o + 53) := by
  intro s e U S W T B n h lb t r d z hV hM hC hlb
  obtain ⟨c, hR, hJ, hKi, hKn, hKf, hKb, hRm⟩ := hC
  have hy := hV.1
  have hBb := hy.hB
  have hUb := hy.hUb
  refine aw_enter (by decide) (Nat.le_of_ble_eq_true rfl) (n := 2) (ls := [some (.ref o), some (.int lb), some (.int t), some (.int r), some (.int d), some (.int z), none, none]) rfl (fun x => ?_)
  refine aw_iload_n d_L_unit_0 rfl rfl ?_
  refine aw_callS (c_L_isSectionSize G _ t) m_L_isSectionSize ml_L_85 rfl rfl (by decide) (by decide) (Nat.le_of_ble_eq_true rfl) d_L_unit_1 ?_
  rintro v h ⟨rfl, rfl⟩
  refine aw_if_eq (tgt := 30) d_L_unit_4 (by decide) (fun c4 => ?_) (fun c4 => ?_)
  · refine aw_iconst (v := (-1)) d_L_unit_30 (by decide) ?_
    refine aw_iret ?_ rfl d_L_unit_31
    have hok : ¬ mUnitOk s U t r d z := fun q => zI_f c4 q.1
    exact ⟨by rw [pIf_f hok], Or.inr ⟨hok, ⟨c, hR, hJ, hKi, hKn, hKf, hKb, hRm.dn⟩⟩, lawF.rf _ _ _⟩
  · refine aw_iload_n d_L_unit_7 rfl rfl ?_
    refine aw_callS (c_L_isSectionSize G _ r) m_L_isSectionSize ml_L_85 rfl rfl (by decide) (by decide) (Nat.le_of_ble_eq_true rfl) d_L_unit_8 ?_
    rintro v h ⟨rfl, rfl⟩
    refine aw_if_eq (tgt := 30) d_L_unit_11 (by decide) (fun c11 => ?_) (fun c11 => ?_)
    · refine aw_iconst (v := (-1)) d_L_unit_30 (by decide) ?_
      refine aw_iret ?_ rfl d_L_unit_31
      have hok : ¬ mUnitOk s U t r d z := fun q => zI_f c11 q.2.1
      exact ⟨by rw [pIf_f hok], Or.inr ⟨hok, ⟨c, hR, hJ, hKi, hKn, hKf, hKb, hRm.dn⟩⟩, lawF.rf _ _ _⟩
    · refine aw_iload d_L_unit_14 rfl ?_
      refine aw_callS (c_L_isSectionSize G _ d) m_L_isSectionSize ml_L_85 rfl rfl (by decide) (by decide) (Nat.le_of_ble_eq_true rfl) d_L_unit_16 ?_
      rintro v h ⟨rfl, rfl⟩
      refine aw_if_eq (tgt := 30) d_L_unit_19 (by decide) (fun c19 => ?_) (fun c19 => ?_)
      · refine aw_iconst (v := (-1)) d_L_unit_30 (by decide) ?_
        refine aw_iret ?_ rfl d_L_unit_31
        have hok : ¬ mUnitOk s U t r d z := fun q => zI_f c19 q.2.2.1
        exact ⟨by rw [pIf_f hok], Or.inr ⟨hok, ⟨c, hR, hJ, hKi, hKn, hKf, hKb, hRm.dn⟩⟩, lawF.rf _ _ _⟩
      · refine aw_iload d_L_unit_22 rfl ?_
        refine aw_callS (c_L_isSectionSize G _ z) m_L_isSectionSize ml_L_85 rfl rfl (by decide) (by decide) (Nat.le_of_ble_eq_true rfl) d_L_unit_24 ?_
        rintro v h ⟨rfl, rfl⟩
        refine aw_if_ne (tgt := 32) d_L_unit_27 (by decide) (fun c27 => ?_) (fun c27 => ?_)
        · obtain ⟨t1, t2⟩ := zI_t c4
          obtain ⟨r1, r2⟩ := zI_t c11
          obtain ⟨d1, d2⟩ := zI_t c19
          obtain ⟨z1, z2⟩ := zI_t c27
          have te := nI_iN t1
          have re := nI_iN r1
          have de := nI_iN d1
          have ze := nI_iN z1
          have tb := iN_le (n := 65536) (by decide) t1 t2
          have rb := iN_le (n := 65536) (by decide) r1 r2
          have db := iN_le (n := 65536) (by decide) d1 d2
          have zb := iN_le (n := 65536) (by decide) z1 z2
          have hmore : t + r + d ≤ 262144 - nI B ↔ nI B + t + r + d ≤ 262144 := by
            rw [← te, ← re, ← de, show (262144 : Int32) = nI 262144 from rfl, pk_sub hBb, nI_add, nI_add, nI_add, nI_add, nI_add, nI_leI (by omega) (by omega), nI_leI (by omega) (by omega)]
            omega
          refine aw_iload_n d_L_unit_32 rfl rfl ?_
          refine aw_iload_n d_L_unit_33 rfl rfl ?_
          refine aw_iadd d_L_unit_34 ?_
          refine aw_iload d_L_unit_35 rfl ?_
          refine aw_iadd d_L_unit_37 ?_
          refine aw_istore d_L_unit_38 (by decide) (by dsimp only [List.set]) ?_
          refine aw_iload d_L_unit_40 rfl ?_
          refine aw_ldc kc_L_39 d_L_unit_42 ?_
          refine aw_aloadV_n d_L_unit_44 rfl rfl (by first | exact Or.inl ⟨_, rfl⟩ | exact Or.inr rfl | exact rv_Q _) ?_
          refine aw_getE cl_L fl_L_78 (by decide) hR.obj rfl (congrArg Value.int hKb.1) d_L_unit_45 ?_
          refine aw_isub d_L_unit_48 ?_
          refine aw_icmp_gt (tgt := 61) d_L_unit_49 (by decide) (fun c49 => ?_) (fun c49 => ?_)
          · refine aw_iconst (v := (-1)) d_L_unit_61 (by decide) ?_
            refine aw_iret ?_ rfl d_L_unit_62
            have hok : ¬ mUnitOk s U t r d z := fun q => absurd (hmore.mpr (by rw [← hV.2.1]; exact q.2.2.2.2.2)) (Int32.not_le.mpr c49)
            exact ⟨by rw [pIf_f hok], Or.inr ⟨hok, ⟨c, hR, hJ, hKi, hKn, hKf, hKb, hRm.dn⟩⟩, lawF.rf _ _ _⟩
          · refine aw_aloadV_n d_L_unit_52 rfl rfl (by first | exact Or.inl ⟨_, rfl⟩ | exact Or.inr rfl | exact rv_Q _) ?_
            refine aw_getE cl_L fl_L_62 (by decide) hR.obj rfl (congrArg Value.int hJ.sU) d_L_unit_53 ?_
            refine aw_bipush (v := 32) d_L_unit_56 (by decide) ?_
            refine aw_icmp_lt (tgt := 63) d_L_unit_58 (by decide) (fun c58 => ?_) (fun c58 => ?_)
            · have hU32 : U < 32 := (nI_ltI (by omega) (by decide)).mp c58
              have hok : mUnitOk s U t r d z := ⟨⟨t1, t2⟩, ⟨r1, r2⟩, ⟨d1, d2⟩, ⟨z1, z2⟩, by omega, by rw [hV.2.1]; exact hmore.mp (Int32.not_lt.mp c49)⟩
              have hsum : B + iN t + iN r + iN d ≤ 262144 := by
                have := hmore.mp (Int32.not_lt.mp c49)
                rw [← te, ← re, ← de, nI_add, nI_add, nI_add] at this
                exact (nI_leI (b := 262144) (by omega) (by decide)).mp this
              have hr1 := hRm.1
              have hr2 := hRm.2
              have h54 := hR.h54
              have htop := hR.2.1
              refine aw_new cl_Unit kl_L_9 ni_Unit ii_Unit f0_Unit_d (show h.1 + 1 ≤ _ by rw [hG]; omega) (show h.2.1 + 7 ≤ _ by omega) d_L_unit_63 ?_
              refine aw_dup d_L_unit_66 rfl ?_
              refine aw_aloadV_n d_L_unit_67 rfl rfl (by first | exact Or.inl ⟨_, rfl⟩ | exact Or.inr rfl | exact rv_Q _) ?_
              refine aw_getE cl_L fl_L_62 (by decide) ((ax_new_ne _ _ (by omega)).trans hR.obj) rfl (congrArg Value.int hJ.sU) d_L_unit_68 ?_
              refine aw_iload_n d_L_unit_71 rfl rfl ?_
              refine aw_aloadV_n d_L_unit_72 rfl rfl (by first | exact Or.inl ⟨_, rfl⟩ | exact Or.inr rfl | exact rv_Q _) ?_
              refine aw_get cl_L fl_L_23 (by decide) ((ax_new_ne _ _ (by omega)).trans hR.obj) rfl d_L_unit_73 ?_
              refine aw_aloadV_n d_L_unit_76 rfl rfl (by first | exact Or.inl ⟨_, rfl⟩ | exact Or.inr rfl | exact rv_Q _) ?_
              refine aw_getE cl_L fl_L_69 (by decide) ((ax_new_ne _ _ (by omega)).trans hR.obj) rfl (congrArg Value.int hJ.sS) d_L_unit_77 ?_
              refine aw_callI (c_Unit_init G _ h.1 (ax_new_self _ _) (Nat.lt_succ_self _) (nI U) lb hlb (o + 3) (nI S) (show h.1 + 1 + 1 ≤ _ by rw [hG]; omega) (show h.2.1 + 7 + 4 ≤ _ by omega)) m_Unit_init ml_L_89 rfl rfl (by decide) (by decide) (Nat.le_of_ble_eq_true rfl) d_L_unit_80 ?_
              rintro v g0 ⟨rfl, hB⟩
              obtain ⟨-, b2, b3, b4, b5, b6⟩ := hB
              have b2 : g0.1 = h.1 + 2 := b2
              have b3 : g0.2.1 = h.2.1 + 11 := b3
              have u0 : g0.2.2 h.1 = some (.inr (3, [.int (nI U), .int lb, .ref (h.1 + 1), .ref (o + 3), .int (nI S), .int (nI S), .int 0])) := b4
              have s0 : g0.2.2 (h.1 + 1) = some (.inl (.object "SymbolLinker$Section", 4, .inr (.inr (.inr (.inr (fun _ => none)))))) := b5 0 _ rfl
              have f0 : ∀ y, y < h.1 → g0.2.2 y = h.2.2 y := fun y hy => (b6 y (Nat.lt_succ_of_lt hy) (Nat.ne_of_lt hy)).trans (ax_new_ne _ _ (Nat.ne_of_lt hy))
              have hR0 : cR o c g0 := hR.frame (by omega) (fun y y1 y2 => f0 y (by omega))
              refine aw_astoreV d_L_unit_83 (by decide) (by first | exact Or.inl ⟨_, rfl⟩ | exact Or.inr rfl | exact rv_Q _) (by dsimp only [List.set]) ?_
              refine aw_aloadV_n d_L_unit_85 rfl rfl (by first | exact Or.inl ⟨_, rfl⟩ | exact Or.inr rfl | exact rv_Q _) ?_
              refine aw_aloadV d_L_unit_86 rfl (by first | exact Or.inl ⟨_, rfl⟩ | exact Or.inr rfl | exact rv_Q _) ?_
              refine aw_iconst (v := 0) d_L_unit_88 (by decide) ?_
              refine aw_iload_n d_L_unit_89 rfl rfl ?_
              refine aw_callV (c_L_addSection G g0 o c hR0 (a := h.1) (b := B) (n := iN t) (nI U) lb (nI S) (nI S) 0 t (fun _ => none) (kd := 0) 0 rfl (by decide) u0 s0 htop (by omega) hKb.1 te.symm (by omega) (by rw [hG]; omega) (by omega)) cl_L hR0.obj m_L_addSection ml_L_92 rfl rfl (by decide) (by decide) (Nat.le_of_ble_eq_true rfl) d_L_unit_90 ?_
              rintro v g1 ⟨rfl, hR1, n1, m1, s1, e1, q1⟩
              have e1 : g1.2.2 (h.1 + 2) = some (.inr (4, [.ref h.1, .int (nI (iN t)), .int (nI (B)), .int 0, .int 0, .int 0])) := by rw [te, ← b2]; exact e1
              have s1 : g1.2.2 (h.1 + 1) = some (.inl (.object "SymbolLinker$Section", 4, .inr (.inr (.inr (.inr (va_up (fun _ => none) 0 (some (h.1 + 2)))))))) := by rw [s1, b2]
              have u1 : g1.2.2 h.1 = some (.inr (3, [.int (nI U), .int lb, .ref (h.1 + 1), .ref (o + 3), .int (nI S), .int (nI S), .int 0])) := (q1 h.1 (Or.inr htop) (by omega) (by omega)).trans u0
              have n1 : g1.1 = h.1 + 3 := by rw [n1, b2]
              have m1 : g1.2.1 = h.2.1 + 17 := by rw [m1, b3]
              refine aw_aloadV_n d_L_unit_93 rfl rfl (by first | exact Or.inl ⟨_, rfl⟩ | exact Or.inr rfl | exact rv_Q _) ?_
              refine aw_aloadV d_L_unit_94 rfl (by first | exact Or.inl ⟨_, rfl⟩ | exact Or.inr rfl | exact rv_Q _) ?_
              refine aw_iconst (v := 1) d_L_unit_96 (by decide) ?_
              refine aw_iload_n d_L_unit_97 rfl rfl ?_
              refine aw_callV (c_L_addSection G g1 o (va_up (c).1 14 (nI (B + (iN t))), va_up (c).2.1 6 (mZ ((c).2.1 6) (B) (iN t)), (c).2.2) hR1 (a := h.1) (b := B + iN t) (n := iN r) (nI U) lb (nI S) (nI S) 0 r (va_up (fun _ => none) 0 (some (h.1 + 2))) (kd := 1) 1 rfl (by decide) u1 s1 htop (by omega) rfl re.symm (by omega) (by rw [hG]; omega) (by omega)) cl_L hR1.obj m_L_addSection ml_L_92 rfl rfl (by decide) (by decide) (Nat.le_of_ble_eq_true rfl) d_L_unit_98 ?_
              rintro v g2 ⟨rfl, hR2, n2, m2, s2, e2, q2⟩
              have e2 : g2.2.2 (h.1 + 3) = some (.inr (4, [.ref h.1, .int (nI (iN r)), .int (nI (B + iN t)), .int 0, .int 0, .int 0])) := by rw [re, ← n1]; exact e2
              have s2 : g2.2.2 (h.1 + 1) = some (.inl (.object "SymbolLinker$Section", 4, .inr (.inr (.inr (.inr (va_up (va_up (fun _ => none) 0 (some (h.1 + 2))) 1 (some (h.1 + 3)))))))) := by rw [s2, n1]
              have u2 : g2.2.2 h.1 = some (.inr (3, [.int (nI U), .int lb, .ref (h.1 + 1), .ref (o + 3), .int (nI S), .int (nI S), .int 0])) := (q2 h.1 (Or.inr htop) (by omega) (by omega)).trans u1
              have n2 : g2.1 = h.1 + 4 := by rw [n2, n1]
              have m2 : g2.2.1 = h.2.1 + 23 := by rw [m2, m1]
              refine aw_aloadV_n d_L_unit_101 rfl rfl (by first | exact Or.inl ⟨_, rfl⟩ | exact Or.inr rfl | exact rv_Q _) ?_
              refine aw_aloadV d_L_unit_102 rfl (by first | exact Or.inl ⟨_, rfl⟩ | exact Or.inr rfl | exact rv_Q _) ?_
              refine aw_iconst (v := 2) d_L_unit_104 (by decide) ?_
              refine aw_iload d_L_unit_105 rfl ?_
              refine aw_callV (c_L_addSection G g2 o (va_up ((va_up (c).1 14 (nI (B + (iN t))), va_up (c).2.1 6 (mZ ((c).2.1 6) (B) (iN t)), (c).2.2)).1 14 (nI (B + iN t + (iN r))), va_up ((va_up (c).1 14 (nI (B + (iN t))), va_up (c).2.1 6 (mZ ((c).2.1 6) (B) (iN t)), (c).2.2)).2.1 6 (mZ (((va_up (c).1 14 (nI (B + (iN t))), va_up (c).2.1 6 (mZ ((c).2.1 6) (B) (iN t)), (c).2.2)).2.1 6) (B + iN t) (iN r)), ((va_up (c).1 14 (nI (B + (iN t))), va_up (c).2.1 6 (mZ ((c).2.1 6) (B) (iN t)), (c).2.2)).2.2) hR2 (a := h.1) (b := B + iN t + iN r) (n := iN d) (nI U) lb (nI S) (nI S) 0 d (va_up (va_up (fun _ => none) 0 (some (h.1 + 2))) 1 (some (h.1 + 3))) (kd := 2) 2 rfl (by decide) u2 s2 htop (by omega) rfl de.symm (by omega) (by rw [hG]; omega) (by omega)) cl_L hR2.obj m_L_addSection ml_L_92 rfl rfl (by decide) (by decide) (Nat.le_of_ble_eq_true rfl) d_L_unit_107 ?_
              rintro v g3 ⟨rfl, hR3, n3, m3, s3, e3, q3⟩
              have e3 : g3.2.2 (h.1 + 4) = some (.inr (4, [.ref h.1, .int (nI (iN d)), .int (nI (B + iN t + iN r)), .int 0, .int 0, .int 0])) := by rw [de, ← n2]; exact e3
              have s3 : g3.2.2 (h.1 + 1) = some (.inl (.object "SymbolLinker$Section", 4, .inr (.inr (.inr (.inr (va_up (va_up (va_up (fun _ => none) 0 (some (h.1 + 2))) 1 (some (h.1 + 3))) 2 (some (h.1 + 4)))))))) := by rw [s3, n2]
              have u3 : g3.2.2 h.1 = some (.inr (3, [.int (nI U), .int lb, .ref (h.1 + 1), .ref (o + 3), .int (nI S), .int (nI S), .int 0])) := (q3 h.1 (Or.inr htop) (by omega) (by omega)).trans u2
              have n3 : g3.1 = h.1 + 5 := by rw [n3, n2]
              have m3 : g3.2.1 = h.2.1 + 29 := by rw [m3, m2]
              refine aw_aloadV d_L_unit_110 rfl (by first | exact Or.inl ⟨_, rfl⟩ | exact Or.inr rfl | exact rv_Q _) ?_
              refine aw_get cl_Unit fl_L_96 (by decide) u3 rfl d_L_unit_112 ?_
              refine aw_iconst (v := 3) d_L_unit_115 (by decide) ?_
              refine aw_new cl_Section kl_L_100 ni_Section ii_Section f0_Section_d (by rw [n3, hG]; omega) (by rw [m3]; omega) d_L_unit_116 ?_
              refine aw_dup d_L_unit_119 rfl ?_
              refine aw_aloadV d_L_unit_120 rfl (by first | exact Or.inl ⟨_, rfl⟩ | exact Or.inr rfl | exact rv_Q _) ?_
              refine aw_iload d_L_unit_122 rfl ?_
              refine aw_iconst (v := 0) d_L_unit_124 (by decide) ?_
              refine aw_callI (c_Section_init G _ g3.1 (ax_new_self _ _) h.1 z 0) m_Section_init ml_L_102 rfl rfl (by decide) (by decide) (Nat.le_of_ble_eq_true rfl) d_L_unit_125 ?_
              rintro v g' ⟨rfl, rfl⟩
              rw [ax_new_set]
              refine aw_aast cl_Section (Or.inl rfl) ((ax_new_ne _ _ (by omega)).trans s3) (ax_new_self _ _) (vp_in_nI (n := 3) (N := 4) (by decide) (by decide)) d_L_unit_128 ?_
              show AW G x Y_L_unit 4 118 _ _ (ax_set (ax_new g3 (.inr (4, [.ref h.1, .int z, .int 0, .int 0, .int 0, .int 0])) 6) (h.1 + 1) (.inl (.object "SymbolLinker$Section", 4, .inr (.inr (.inr (.inr (va_up (va_up (va_up (va_up (fun _ => none) 0 (some (h.1 + 2))) 1 (some (h.1 + 3))) 2 (some (h.1 + 4))) 3 (some g3.1)))))))) 129 _ _
              have k4 : ∀ y, y ≠ h.1 + 1 → y < h.1 + 5 → (ax_set (ax_new g3 (.inr (4, [.ref h.1, .int z, .int 0, .int 0, .int 0, .int 0])) 6) (h.1 + 1) (.inl (.object "SymbolLinker$Section", 4, .inr (.inr (.inr (.inr (va_up (va_up (va_up (va_up (fun _ => none) 0 (some (h.1 + 2))) 1 (some (h.1 + 3))) 2 (some (h.1 + 4))) 3 (some g3.1)))))))).2.2 y = g3.2.2 y := fun y y1 y2 => (ax_get_ne _ y1).trans (ax_new_ne _ _ (by omega))
              have s4 : (ax_set (ax_new g3 (.inr (4, [.ref h.1, .int z, .int 0, .int 0, .int 0, .int 0])) 6) (h.1 + 1) (.inl (.object "SymbolLinker$Section", 4, .inr (.inr (.inr (.inr (va_up (va_up (va_up (va_up (fun _ => none) 0 (some (h.1 + 2))) 1 (some (h.1 + 3))) 2 (some (h.1 + 4))) 3 (some g3.1)))))))).2.2 (h.1 + 1) = some (.inl (.object "SymbolLinker$Section", 4, .inr (.inr (.inr (.inr (va_up (va_up (va_up (va_up (fun _ => none) 0 (some (h.1 + 2))) 1 (some (h.1 + 3))) 2 (some (h.1 + 4))) 3 (some (h.1 + 5)))))))) := by rw [← n3]; exact ax_get_self _ _
              have e4 : (ax_set (ax_new g3 (.inr (4, [.ref h.1, .int z, .int 0, .int 0, .int 0, .int 0])) 6) (h.1 + 1) (.inl (.object "SymbolLinker$Section", 4, .inr (.inr (.inr (.inr (va_up (va_up (va_up (va_up (fun _ => none) 0 (some (h.1 + 2))) 1 (some (h.1 + 3))) 2 (some (h.1 + 4))) 3 (some g3.1)))))))).2.2 (h.1 + 5) = some (.inr (4, [.ref h.1, .int (nI (iN z)), .int 0, .int 0, .int 0, .int 0])) := by rw [ze, ← n3]; exact (ax_get_ne _ (by omega)).trans (ax_new_self _ _)
              have n4 : (ax_set (ax_new g3 (.inr (4, [.ref h.1, .int z, .int 0, .int 0, .int 0, .int 0])) 6) (h.1 + 1) (.inl (.object "SymbolLinker$Section", 4, .inr (.inr (.inr (.inr (va_up (va_up (va_up (va_up (fun _ => none) 0 (some (h.1 + 2))) 1 (some (h.1 + 3))) 2 (some (h.1 + 4))) 3 (some g3.1)))))))).1 = h.1 + 6 := by show g3.1 + 1 = _; omega
              have m4 : (ax_set (ax_new g3 (.inr (4, [.ref h.1, .int z, .int 0, .int 0, .int 0, .int 0])) 6) (h.1 + 1) (.inl (.object "SymbolLinker$Section", 4, .inr (.inr (.inr (.inr (va_up (va_up (va_up (va_up (fun _ => none) 0 (some (h.1 + 2))) 1 (some (h.1 + 3))) 2 (some (h.1 + 4))) 3 (some g3.1)))))))).2.1 = h.2.1 + 35 := by show g3.2.1 + 6 = _; omega
              generalize (ax_set (ax_new g3 (.inr (4, [.ref h.1, .int z, .int 0, .int 0, .int 0, .int 0])) 6) (h.1 + 1) (.inl (.object "SymbolLinker$Section", 4, .inr (.inr (.inr (.inr (va_up (va_up (va_up (va_up (fun _ => none) 0 (some (h.1 + 2))) 1 (some (h.1 + 3))) 2 (some (h.1 + 4))) 3 (some g3.1)))))))) = g4 at *
              have hR4 := hR3.frame (h1 := g4) (show c.2.2.2.2.2 5 ≤ g4.1 by omega) (fun y y1 y2 => k4 y (by have y1 : y < c.2.2.2.2.2 5 := y1; omega) (by have y1 : y < c.2.2.2.2.2 5 := y1; omega))
              have hU := hJ.nU
              refine t_L_unit hR4 hU hJ.sU hU32 lb t r d z _ (nI S) (fun j => nI ((mSz (iN t) (iN r) (iN d) (iN z)) j)) (fun j => match j with | 0 => nI B | 1 => nI (B + iN t) | 2 => nI (B + iN t + iN r) | _ => 0) htop (by omega) ((k4 h.1 (by omega) (by omega)).trans u3) (s4.trans (by rw [cSA])) (fun j hj => ?_) (fun h2 hR6 hF6 => ?_)
              · have w1 : g4.2.2 (h.1 + 2) = _ := (k4 (h.1 + 2) (by omega) (by omega)).trans ((q3 (h.1 + 2) (Or.inr (show c.2.2.2.2.2 5 ≤ _ by omega)) (by omega) (by omega)).trans ((q2 (h.1 + 2) (Or.inr (show c.2.2.2.2.2 5 ≤ _ by omega)) (by omega) (by omega)).trans e1))
                have w2 : g4.2.2 (h.1 + 3) = _ := (k4 (h.1 + 3) (by omega) (by omega)).trans ((q3 (h.1 + 3) (Or.inr (show c.2.2.2.2.2 5 ≤ _ by omega)) (by omega) (by omega)).trans e2)
                have w3 : g4.2.2 (h.1 + 4) = _ := (k4 (h.1 + 4) (by omega) (by omega)).trans e3
                match j, hj with
                | 0, _ => exact w1
                | 1, _ => exact w2
                | 2, _ => exact w3
                | 3, _ => exact e4
                | k + 4, hk => exact absurd hk (by omega)
              · refine ⟨by rw [pIf_t hok], Or.inl ⟨hok, ?_⟩, ?_⟩
                · refine ⟨_, hR6, cJ.addU (c := (va_up ((va_up ((va_up (c).1 14 (nI (B + (iN t))), va_up (c).2.1 6 (mZ ((c).2.1 6) (B) (iN t)), (c).2.2)).1 14 (nI (B + iN t + (iN r))), va_up ((va_up (c).1 14 (nI (B + (iN t))), va_up (c).2.1 6 (mZ ((c).2.1 6) (B) (iN t)), (c).2.2)).2.1 6 (mZ (((va_up (c).1 14 (nI (B + (iN t))), va_up (c).2.1 6 (mZ ((c).2.1 6) (B) (iN t)), (c).2.2)).2.1 6) (B + iN t) (iN r)), ((va_up (c).1 14 (nI (B + (iN t))), va_up (c).2.1 6 (mZ ((c).2.1 6) (B) (iN t)), (c).2.2)).2.2)).1 14 (nI (B + iN t + iN r + (iN d))), va_up ((va_up ((va_up (c).1 14 (nI (B + (iN t))), va_up (c).2.1 6 (mZ ((c).2.1 6) (B) (iN t)), (c).2.2)).1 14 (nI (B + iN t + (iN r))), va_up ((va_up (c).1 14 (nI (B + (iN t))), va_up (c).2.1 6 (mZ ((c).2.1 6) (B) (iN t)), (c).2.2)).2.1 6 (mZ (((va_up (c).1 14 (nI (B + (iN t))), va_up (c).2.1 6 (mZ ((c).2.1 6) (B) (iN t)), (c).2.2)).2.1 6) (B + iN t) (iN r)), ((va_up (c).1 14 (nI (B + (iN t))), va_up (c).2.1 6 (mZ ((c).2.1 6) (B) (iN t)), (c).2.2)).2.2)).2.1 6 (mZ (((va_up ((va_up (c).1 14 (nI (B + (iN t))), va_up (c).2.1 6 (mZ ((c).2.1 6) (B) (iN t)), (c).2.2)).1 14 (nI (B + iN t + (iN r))), va_up ((va_up (c).1 14 (nI (B + (iN t))), va_up (c).2.1 6 (mZ ((c).2.1 6) (B) (iN t)), (c).2.2)).2.1 6 (mZ (((va_up (c).1 14 (nI (B + (iN t))), va_up (c).2.1 6 (mZ ((c).2.1 6) (B) (iN t)), (c).2.2)).2.1 6) (B + iN t) (iN r)), ((va_up (c).1 14 (nI (B + (iN t))), va_up (c).2.1 6 (mZ ((c).2.1 6) (B) (iN t)), (c).2.2)).2.2)).2.1 6) (B + iN t + iN r) (iN d)), ((va_up ((va_up (c).1 14 (nI (B + (iN t))), va_up (c).2.1 6 (mZ ((c).2.1 6) (B) (iN t)), (c).2.2)).1 14 (nI (B + iN t + (iN r))), va_up ((va_up (c).1 14 (nI (B + (iN t))), va_up (c).2.1 6 (mZ ((c).2.1 6) (B) (iN t)), (c).2.2)).2.1 6 (mZ (((va_up (c).1 14 (nI (B + (iN t))), va_up (c).2.1 6 (mZ ((c).2.1 6) (B) (iN t)), (c).2.2)).2.1 6) (B + iN t) (iN r)), ((va_up (c).1 14 (nI (B + (iN t))), va_up (c).2.1 6 (mZ ((c).2.1 6) (B) (iN t)), (c).2.2)).2.2)).2.2)) hJ hy h.1 lb hlb (mSz (iN t) (iN r) (iN d) (iN z)) (fun j => nI ((mSz (iN t) (iN r) (iN d) (iN z)) j)) (fun j => match j with | 0 => nI B | 1 => nI (B + iN t) | 2 => nI (B + iN t + iN r) | _ => 0) (fun i _ => rfl) (fun i hi => ?_) _ _ _, hKi, ⟨?_, fun q hq => ?_, hKn.2.2⟩, hKf, ⟨rfl, ?_, ?_⟩, ?_⟩
                  · match i, hi with
                    | 0, _ => rfl
                    | 1, _ => rfl
                    | 2, _ => rfl
                    | k + 3, hk => exact absurd hk (by omega)
                  · obtain ⟨J, j1, j2⟩ := hKn.1
                    exact ⟨J, by omega, j2⟩
                  · show cUp4 (c.2.1 27) (c.2.2.2.2.2 0) (fun _ => 0) q = zI (nI (q / 4) < s.1 36 ∧ ¬ s.2.1 28 q = 0)
                    rw [hU, cUp4]
                    by_cases q0 : q / 4 = U
                    · rw [if_pos q0, zI_0]
                      rintro ⟨y1, -⟩
                      obtain ⟨J, j1, j2⟩ := hKn.1
                      rw [j2, q0] at y1
                      exact absurd y1 (nI_nlt j1 (by omega))
                    · rw [if_neg q0]
                      exact hKn.2.1 q (by omega)
                  · exact mZ_eq (mZ_eq (mZ_eq hKb.2.1))
                  · exact mZ_fits _ _ (mZ_fits _ _ (mZ_fits _ _ hKb.2.2))
                  · have f1 := hF6.1
                    have f2 := hF6.2.1
                    exact ⟨by omega, by omega⟩
                · have fin : ∀ y, o + 17 ≤ y → y < o + 54 → h2.2.2 y = h.2.2 y := fun y y1 y2 => (hF6.2.2 y (Or.inl ⟨y1, y2⟩)).trans ((k4 y (by omega) (by omega)).trans ((q3 y (Or.inl ⟨y1, y2⟩) (by omega) (by omega)).trans ((q2 y (Or.inl ⟨y1, y2⟩) (by omega) (by omega)).trans ((q1 y (Or.inl ⟨y1, y2⟩) (by omega) (by omega)).trans (f0 y (by omega))))))
                  exact ⟨fun k hk => fin _ (by omega) (by omega), fin _ (by omega) (by omega)⟩
            · refine aw_iconst (v := (-1)) d_L_unit_61 (by decide) ?_
              refine aw_iret ?_ rfl d_L_unit_62
              have hok : ¬ mUnitOk s U t r d z := fun q => c58 (nI_lt (b := 32) (by have := q.2.2.2.2.1; omega) (by decide))
              exact ⟨by rw [pIf_f hok], Or.inr ⟨hok, ⟨c, hR, hJ, hKi, hKn, hKf, hKb, hRm.dn⟩⟩, lawF.rf _ _ _⟩
        · refine aw_iconst (v := (-1)) d_L_unit_30 (by decide) ?_
          refine aw_iret ?_ rfl d_L_unit_31
          have hok : ¬ mUnitOk s U t r d z := fun q => zI_f c27 q.2.2.2.1
          exact ⟨by rw [pIf_f hok], Or.inr ⟨hok, ⟨c, hR, hJ, hKi, hKn, hKf, hKb, hRm.dn⟩⟩, lawF.rf _ _ _⟩
