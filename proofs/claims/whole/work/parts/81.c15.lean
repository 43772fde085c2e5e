theorem i32_m2 {wh : Int32} (h : wh < -1) : (-2 - wh).toInt = -2 - wh.toInt := by
  have h := Int32.lt_iff_toInt_lt.mp h
  have e1 : (-1 : Int32).toInt = -1 := by decide
  have e2 : (-2 : Int32).toInt = -2 := by decide
  have l1 := Int32.minValue_le_toInt wh
  have e3 : Int32.minValue.toInt = -2147483648 := by decide
  rw [Int32.toInt_sub, e2]
  apply Int.bmod_eq_of_le <;> omega
theorem i32_m2a {wh : Int32} (h : wh < -1) : 0 ≤ -2 - wh := by
  have e0 : (0 : Int32).toInt = 0 := by decide
  have e1 : (-1 : Int32).toInt = -1 := by decide
  have h2 := Int32.lt_iff_toInt_lt.mp h
  exact Int32.le_iff_toInt_le.mpr (by rw [i32_m2 h]; omega)
theorem i32_m2b {wh : Int32} (h : wh < -1) : -2 - wh ≤ 3 ↔ -5 ≤ wh := by
  have e0 : (3 : Int32).toInt = 3 := by decide
  have e1 : (-5 : Int32).toInt = -5 := by decide
  rw [Int32.le_iff_toInt_le, Int32.le_iff_toInt_le, i32_m2 h]
  omega
theorem i32_tri (wh : Int32) (h1 : ¬ wh = -1) (h2 : ¬ 0 ≤ wh) : wh < -1 := by
  have h2 := Int32.lt_iff_toInt_lt.mp (Int32.not_le.mp h2)
  have e0 : (0 : Int32).toInt = 0 := by decide
  have e1 : (-1 : Int32).toInt = -1 := by decide
  have h3 : ¬ wh.toInt = -1 := fun q => h1 (Int32.toInt_inj.mp (q.trans e1.symm))
  exact Int32.lt_iff_toInt_lt.mpr (by omega)
theorem i32_0m1 {wh : Int32} (h : 0 ≤ wh) : ¬ wh = -1 ∧ ¬ wh < -1 ∧ -5 ≤ wh := by
  have h := Int32.le_iff_toInt_le.mp h
  have e0 : (0 : Int32).toInt = 0 := by decide
  have e1 : (-1 : Int32).toInt = -1 := by decide
  have e5 : (-5 : Int32).toInt = -5 := by decide
  refine ⟨fun q => ?_, fun q => ?_, Int32.le_iff_toInt_le.mpr (by omega)⟩
  · rw [q] at h
    omega
  · have := Int32.lt_iff_toInt_lt.mp q
    omega
theorem i32_ltm1 {wh : Int32} (h : wh < -1) : ¬ wh = -1 ∧ wh < 0 ∧ ¬ 0 ≤ wh := by
  have h := Int32.lt_iff_toInt_lt.mp h
  have e0 : (0 : Int32).toInt = 0 := by decide
  have e1 : (-1 : Int32).toInt = -1 := by decide
  have h2 : wh < 0 := Int32.lt_iff_toInt_lt.mpr (by omega)
  refine ⟨fun q => ?_, h2, Int32.not_le.mpr h2⟩
  rw [q] at h
  omega
set_option maxRecDepth 20000 in
theorem t_L_await2 {G : ax_G} {x : ax_X} {h0 : ax_H} {P : Option Value → ax_H → Prop} {o : Nat} {c : cSt} {h : ax_H} (hR : cR o c h) (s : mSt) (e : Nat → Nat → Nat) (U S W T : Nat) (hJ : cJ c s e U S W T) (hU0 : 0 < U) (hSb : S ≤ 2048) (hW8 : W < 4096) {q : Nat} (hq : q < 4 * c.2.2.2.2.2 0) (a p k nx wh : Int32) (z : Int64) (l : Int32) (hc : h.1 + 1 ≤ G.1 + room_1.cells) (hs : h.2.1 + 8 ≤ room_1.slots) (hn : ¬ (-5 ≤ wh ∧ (wh < 0 ∨ wh < nI S - nI (e 16 (U - 1)))) → P (some (.int 0)) h) (hp : (-5 ≤ wh ∧ (wh < 0 ∨ wh < nI S - nI (e 16 (U - 1)))) → ∀ h2, cR o (cWt c h W q p k l nx z (if 5 ≤ mWk (e 16 (U - 1)) wh then some (c.2.2.2.2.1 2 (mWk (e 16 (U - 1)) wh - 5)) else none) (if 1 ≤ mWk (e 16 (U - 1)) wh ∧ mWk (e 16 (U - 1)) wh < 5 then some (cQ c.2.2.2.2 (4 * (U - 1) + (mWk (e 16 (U - 1)) wh - 1))) else none)) h2 → cFr o (h.1 + 1) (ax_new h (.inr (7, [.ref (cQ c.2.2.2.2 q), .int p, .int k, .long z, .int l, .int nx, va_rf (if 5 ≤ mWk (e 16 (U - 1)) wh then some (c.2.2.2.2.1 2 (mWk (e 16 (U - 1)) wh - 5)) else none), va_rf (if 1 ≤ mWk (e 16 (U - 1)) wh ∧ mWk (e 16 (U - 1)) wh < 5 then some (cQ c.2.2.2.2 (4 * (U - 1) + (mWk (e 16 (U - 1)) wh - 1))) else none)])) 8) h2 → P (some (.int 1)) h2) : AW G x Y_L_await 2 46 h0 P h 89 [some (.ref o), some (.int a), some (.int p), some (.int k), some (.int nx), some (.int wh), some (.long z), none, some (.int l), some (.ref (c.2.2.2.2.1 0 (U - 1))), some (.ref (cQ c.2.2.2.2 q)), none, none, none] [] := by
  have hj : U - 1 < U := by omega
  have cl0 : cEnd e U S (U - 1) = S := by rw [cEnd, if_neg (by omega)]
  by_cases g1 : wh = -1
  · have hx1 : va_rf (cOp (0 ≤ wh ∧ wh < nI S - nI (e 16 (U - 1))) (c.2.2.2.2.1 2 (e 16 (U - 1) + iN wh))) = .null := by rw [cOp_f (fun q => absurd q.1 (by rw [g1]; decide))]; rfl
    refine aw_aloadV d_L_await_89 rfl (by first | exact Or.inl ⟨_, rfl⟩ | exact Or.inr rfl | exact rv_Q _) ?_
    refine aw_iload d_L_await_91 rfl ?_
    refine aw_callV (c_Unit_symbolNumbered G _ o c hR s e U S W T hJ hj hSb wh) cl_Unit (hR.unit (hJ.hu hj)) m_Unit_symbolNumbered ml_L_163 rfl rfl (by decide) (by decide) (Nat.le_of_ble_eq_true rfl) d_L_await_93 ?_
    rintro v h ⟨rfl, rfl⟩
    rw [cl0, hx1]
    refine aw_astoreV d_L_await_96 (by decide) (by first | exact Or.inl ⟨_, rfl⟩ | exact Or.inr rfl | exact rv_Q _) (by dsimp only [List.set]) ?_
    refine aw_iload d_L_await_98 rfl ?_
    refine aw_iconst (v := (-1)) d_L_await_100 (by decide) ?_
    refine aw_icmp_ge (tgt := 117) d_L_await_101 (by decide) (fun c101 => ?_) (fun c101 => ?_)
    · refine aw_null d_L_await_117 ?_
      refine aw_astoreV d_L_await_118 (by decide) (by first | exact Or.inl ⟨_, rfl⟩ | exact Or.inr rfl | exact rv_Q _) (by dsimp only [List.set]) ?_
      refine aw_iload d_L_await_120 rfl ?_
      refine aw_iconst (v := (-1)) d_L_await_122 (by decide) ?_
      refine aw_icmp_eq (tgt := 138) d_L_await_123 (by decide) (fun c123 => ?_) (fun c123 => ?_)
      · have hm : mWk (e 16 (U - 1)) wh = 0 := by rw [mWk, if_pos g1]
        have er1 : (if 5 ≤ mWk (e 16 (U - 1)) wh then some (c.2.2.2.2.1 2 (mWk (e 16 (U - 1)) wh - 5)) else none) = none := by rw [hm]; rfl
        have er2 : (if 1 ≤ mWk (e 16 (U - 1)) wh ∧ mWk (e 16 (U - 1)) wh < 5 then some (cQ c.2.2.2.2 (4 * (U - 1) + (mWk (e 16 (U - 1)) wh - 1))) else none) = none := by rw [hm]; rfl
        refine aw_ls (ls' := [some (.ref o), some (.int a), some (.int p), some (.int k), some (.int nx), some (.int wh), some (.long z), none, some (.int l), some (.ref (c.2.2.2.2.1 0 (U - 1))), some (.ref (cQ c.2.2.2.2 q)), some (va_rf (if 5 ≤ mWk (e 16 (U - 1)) wh then some (c.2.2.2.2.1 2 (mWk (e 16 (U - 1)) wh - 5)) else none)), some (va_rf (if 1 ≤ mWk (e 16 (U - 1)) wh ∧ mWk (e 16 (U - 1)) wh < 5 then some (cQ c.2.2.2.2 (4 * (U - 1) + (mWk (e 16 (U - 1)) wh - 1))) else none)), none]) (by rw [er1, er2]; rfl) ?_
        exact t_L_await hR s e U S W T hJ hW8 hq a p k nx wh z l _ _ _ hc hs (hp ⟨by rw [g1]; decide, Or.inl (by rw [g1]; decide)⟩)
      · exact absurd g1 c123
    · exact absurd (by rw [g1]; decide) c101
  · by_cases g2 : 0 ≤ wh
    · obtain ⟨f1, f2, f3⟩ := i32_0m1 g2
      by_cases g3 : wh < nI S - nI (e 16 (U - 1))
      · have hx1 : va_rf (cOp (0 ≤ wh ∧ wh < nI S - nI (e 16 (U - 1))) (c.2.2.2.2.1 2 (e 16 (U - 1) + iN wh))) = .ref (c.2.2.2.2.1 2 (e 16 (U - 1) + iN wh)) := by rw [cOp_t ⟨g2, g3⟩]; rfl
        refine aw_aloadV d_L_await_89 rfl (by first | exact Or.inl ⟨_, rfl⟩ | exact Or.inr rfl | exact rv_Q _) ?_
        refine aw_iload d_L_await_91 rfl ?_
        refine aw_callV (c_Unit_symbolNumbered G _ o c hR s e U S W T hJ hj hSb wh) cl_Unit (hR.unit (hJ.hu hj)) m_Unit_symbolNumbered ml_L_163 rfl rfl (by decide) (by decide) (Nat.le_of_ble_eq_true rfl) d_L_await_93 ?_
        rintro v h ⟨rfl, rfl⟩
        rw [cl0, hx1]
        refine aw_astoreV d_L_await_96 (by decide) (by first | exact Or.inl ⟨_, rfl⟩ | exact Or.inr rfl | exact rv_Q _) (by dsimp only [List.set]) ?_
        refine aw_iload d_L_await_98 rfl ?_
        refine aw_iconst (v := (-1)) d_L_await_100 (by decide) ?_
        refine aw_icmp_ge (tgt := 117) d_L_await_101 (by decide) (fun c101 => ?_) (fun c101 => ?_)
        · refine aw_null d_L_await_117 ?_
          refine aw_astoreV d_L_await_118 (by decide) (by first | exact Or.inl ⟨_, rfl⟩ | exact Or.inr rfl | exact rv_Q _) (by dsimp only [List.set]) ?_
          refine aw_iload d_L_await_120 rfl ?_
          refine aw_iconst (v := (-1)) d_L_await_122 (by decide) ?_
          refine aw_icmp_eq (tgt := 138) d_L_await_123 (by decide) (fun c123 => ?_) (fun c123 => ?_)
          · exact absurd c123 g1
          · refine aw_aloadV d_L_await_126 rfl (by first | exact Or.inl ⟨_, rfl⟩ | exact Or.inr rfl | exact rv_Q _) ?_
            refine aw_ifnonnull (tgt := 138) d_L_await_128 (by decide) ?_
            have hm : mWk (e 16 (U - 1)) wh = e 16 (U - 1) + iN wh + 5 := by rw [mWk, if_neg g1, if_neg (Int32.not_lt.mpr g2)]
            have er1 : (if 5 ≤ mWk (e 16 (U - 1)) wh then some (c.2.2.2.2.1 2 (mWk (e 16 (U - 1)) wh - 5)) else none) = some (c.2.2.2.2.1 2 (e 16 (U - 1) + iN wh)) := by rw [hm]; rw [if_pos (by omega), show e 16 (U - 1) + iN wh + 5 - 5 = e 16 (U - 1) + iN wh by omega]
            have er2 : (if 1 ≤ mWk (e 16 (U - 1)) wh ∧ mWk (e 16 (U - 1)) wh < 5 then some (cQ c.2.2.2.2 (4 * (U - 1) + (mWk (e 16 (U - 1)) wh - 1))) else none) = none := by rw [hm]; rw [if_neg (by omega)]
            refine aw_ls (ls' := [some (.ref o), some (.int a), some (.int p), some (.int k), some (.int nx), some (.int wh), some (.long z), none, some (.int l), some (.ref (c.2.2.2.2.1 0 (U - 1))), some (.ref (cQ c.2.2.2.2 q)), some (va_rf (if 5 ≤ mWk (e 16 (U - 1)) wh then some (c.2.2.2.2.1 2 (mWk (e 16 (U - 1)) wh - 5)) else none)), some (va_rf (if 1 ≤ mWk (e 16 (U - 1)) wh ∧ mWk (e 16 (U - 1)) wh < 5 then some (cQ c.2.2.2.2 (4 * (U - 1) + (mWk (e 16 (U - 1)) wh - 1))) else none)), none]) (by rw [er1, er2]; rfl) ?_
            exact t_L_await hR s e U S W T hJ hW8 hq a p k nx wh z l _ _ _ hc hs (hp ⟨f3, Or.inr g3⟩)
        · exact absurd (Int32.not_lt.mp f2) c101
      · have hx1 : va_rf (cOp (0 ≤ wh ∧ wh < nI S - nI (e 16 (U - 1))) (c.2.2.2.2.1 2 (e 16 (U - 1) + iN wh))) = .null := by rw [cOp_f (fun q => g3 q.2)]; rfl
        refine aw_aloadV d_L_await_89 rfl (by first | exact Or.inl ⟨_, rfl⟩ | exact Or.inr rfl | exact rv_Q _) ?_
        refine aw_iload d_L_await_91 rfl ?_
        refine aw_callV (c_Unit_symbolNumbered G _ o c hR s e U S W T hJ hj hSb wh) cl_Unit (hR.unit (hJ.hu hj)) m_Unit_symbolNumbered ml_L_163 rfl rfl (by decide) (by decide) (Nat.le_of_ble_eq_true rfl) d_L_await_93 ?_
        rintro v h ⟨rfl, rfl⟩
        rw [cl0, hx1]
        refine aw_astoreV d_L_await_96 (by decide) (by first | exact Or.inl ⟨_, rfl⟩ | exact Or.inr rfl | exact rv_Q _) (by dsimp only [List.set]) ?_
        refine aw_iload d_L_await_98 rfl ?_
        refine aw_iconst (v := (-1)) d_L_await_100 (by decide) ?_
        refine aw_icmp_ge (tgt := 117) d_L_await_101 (by decide) (fun c101 => ?_) (fun c101 => ?_)
        · refine aw_null d_L_await_117 ?_
          refine aw_astoreV d_L_await_118 (by decide) (by first | exact Or.inl ⟨_, rfl⟩ | exact Or.inr rfl | exact rv_Q _) (by dsimp only [List.set]) ?_
          refine aw_iload d_L_await_120 rfl ?_
          refine aw_iconst (v := (-1)) d_L_await_122 (by decide) ?_
          refine aw_icmp_eq (tgt := 138) d_L_await_123 (by decide) (fun c123 => ?_) (fun c123 => ?_)
          · exact absurd c123 g1
          · refine aw_aloadV d_L_await_126 rfl (by first | exact Or.inl ⟨_, rfl⟩ | exact Or.inr rfl | exact rv_Q _) ?_
            refine aw_ifnonnullN d_L_await_128 ?_
            refine aw_aloadV d_L_await_131 rfl (by first | exact Or.inl ⟨_, rfl⟩ | exact Or.inr rfl | exact rv_Q _) ?_
            refine aw_ifnonnullN d_L_await_133 ?_
            refine aw_iconst (v := 0) d_L_await_136 (by decide) ?_
            refine aw_zret ?_ rfl rfl d_L_await_137
            exact hn (fun q => q.2.elim (fun y => absurd g2 (Int32.not_le.mpr y)) g3)
        · exact absurd (Int32.not_lt.mp f2) c101
    · have g4 := i32_tri wh g1 g2
      obtain ⟨f1, f2, f3⟩ := i32_ltm1 g4
      have hx1 : va_rf (cOp (0 ≤ wh ∧ wh < nI S - nI (e 16 (U - 1))) (c.2.2.2.2.1 2 (e 16 (U - 1) + iN wh))) = .null := by rw [cOp_f (fun q => g2 q.1)]; rfl
      by_cases g5 : -5 ≤ wh
      · have g6 := (i32_m2b g4).mpr g5
        have hx2 : va_rf (cOp (0 ≤ -2 - wh ∧ -2 - wh ≤ 3) (cQ c.2.2.2.2 (4 * (U - 1) + iN (-2 - wh)))) = .ref (cQ c.2.2.2.2 (4 * (U - 1) + iN (-2 - wh))) := by rw [cOp_t ⟨i32_m2a g4, g6⟩]; rfl
        have h3 : iN (-2 - wh) ≤ 3 := iN_le (n := 3) (by decide) (i32_m2a g4) g6
        refine aw_aloadV d_L_await_89 rfl (by first | exact Or.inl ⟨_, rfl⟩ | exact Or.inr rfl | exact rv_Q _) ?_
        refine aw_iload d_L_await_91 rfl ?_
        refine aw_callV (c_Unit_symbolNumbered G _ o c hR s e U S W T hJ hj hSb wh) cl_Unit (hR.unit (hJ.hu hj)) m_Unit_symbolNumbered ml_L_163 rfl rfl (by decide) (by decide) (Nat.le_of_ble_eq_true rfl) d_L_await_93 ?_
        rintro v h ⟨rfl, rfl⟩
        rw [cl0, hx1]
        refine aw_astoreV d_L_await_96 (by decide) (by first | exact Or.inl ⟨_, rfl⟩ | exact Or.inr rfl | exact rv_Q _) (by dsimp only [List.set]) ?_
        refine aw_iload d_L_await_98 rfl ?_
        refine aw_iconst (v := (-1)) d_L_await_100 (by decide) ?_
        refine aw_icmp_ge (tgt := 117) d_L_await_101 (by decide) (fun c101 => ?_) (fun c101 => ?_)
        · exact absurd g4 (Int32.not_lt.mpr c101)
        · refine aw_aloadV d_L_await_104 rfl (by first | exact Or.inl ⟨_, rfl⟩ | exact Or.inr rfl | exact rv_Q _) ?_
          refine aw_bipush (v := (-2)) d_L_await_106 (by decide) ?_
          refine aw_iload d_L_await_108 rfl ?_
          refine aw_isub d_L_await_110 ?_
          refine aw_callV (c_Unit_sectionOfKind G _ o c hR (hJ.hu hj) (-2 - wh)) cl_Unit (hR.unit (hJ.hu hj)) m_Unit_sectionOfKind ml_L_167 rfl rfl (by decide) (by decide) (Nat.le_of_ble_eq_true rfl) d_L_await_111 ?_
          rintro v h ⟨rfl, rfl⟩
          rw [hx2]
          refine aw_goto (tgt := 118) d_L_await_114 (by decide) ?_
          refine aw_astoreV d_L_await_118 (by decide) (by first | exact Or.inl ⟨_, rfl⟩ | exact Or.inr rfl | exact rv_Q _) (by dsimp only [List.set]) ?_
          refine aw_iload d_L_await_120 rfl ?_
          refine aw_iconst (v := (-1)) d_L_await_122 (by decide) ?_
          refine aw_icmp_eq (tgt := 138) d_L_await_123 (by decide) (fun c123 => ?_) (fun c123 => ?_)
          · exact absurd c123 g1
          · refine aw_aloadV d_L_await_126 rfl (by first | exact Or.inl ⟨_, rfl⟩ | exact Or.inr rfl | exact rv_Q _) ?_
            refine aw_ifnonnullN d_L_await_128 ?_
            refine aw_aloadV d_L_await_131 rfl (by first | exact Or.inl ⟨_, rfl⟩ | exact Or.inr rfl | exact rv_Q _) ?_
            refine aw_ifnonnull (tgt := 138) d_L_await_133 (by decide) ?_
            have hm : mWk (e 16 (U - 1)) wh = iN (-2 - wh) + 1 := by rw [mWk, if_neg g1, if_pos f2]
            have er1 : (if 5 ≤ mWk (e 16 (U - 1)) wh then some (c.2.2.2.2.1 2 (mWk (e 16 (U - 1)) wh - 5)) else none) = none := by rw [hm]; rw [if_neg (by omega)]
            have er2 : (if 1 ≤ mWk (e 16 (U - 1)) wh ∧ mWk (e 16 (U - 1)) wh < 5 then some (cQ c.2.2.2.2 (4 * (U - 1) + (mWk (e 16 (U - 1)) wh - 1))) else none) = some (cQ c.2.2.2.2 (4 * (U - 1) + iN (-2 - wh))) := by rw [hm]; rw [if_pos ⟨by omega, by omega⟩, show iN (-2 - wh) + 1 - 1 = iN (-2 - wh) by omega]
            refine aw_ls (ls' := [some (.ref o), some (.int a), some (.int p), some (.int k), some (.int nx), some (.int wh), some (.long z), none, some (.int l), some (.ref (c.2.2.2.2.1 0 (U - 1))), some (.ref (cQ c.2.2.2.2 q)), some (va_rf (if 5 ≤ mWk (e 16 (U - 1)) wh then some (c.2.2.2.2.1 2 (mWk (e 16 (U - 1)) wh - 5)) else none)), some (va_rf (if 1 ≤ mWk (e 16 (U - 1)) wh ∧ mWk (e 16 (U - 1)) wh < 5 then some (cQ c.2.2.2.2 (4 * (U - 1) + (mWk (e 16 (U - 1)) wh - 1))) else none)), none]) (by rw [er1, er2]; rfl) ?_
            exact t_L_await hR s e U S W T hJ hW8 hq a p k nx wh z l _ _ _ hc hs (hp ⟨g5, Or.inl f2⟩)
      · have hx2 : va_rf (cOp (0 ≤ -2 - wh ∧ -2 - wh ≤ 3) (cQ c.2.2.2.2 (4 * (U - 1) + iN (-2 - wh)))) = .null := by rw [cOp_f (fun q => g5 ((i32_m2b g4).mp q.2))]; rfl
        refine aw_aloadV d_L_await_89 rfl (by first | exact Or.inl ⟨_, rfl⟩ | exact Or.inr rfl | exact rv_Q _) ?_
        refine aw_iload d_L_await_91 rfl ?_
        refine aw_callV (c_Unit_symbolNumbered G _ o c hR s e U S W T hJ hj hSb wh) cl_Unit (hR.unit (hJ.hu hj)) m_Unit_symbolNumbered ml_L_163 rfl rfl (by decide) (by decide) (Nat.le_of_ble_eq_true rfl) d_L_await_93 ?_
        rintro v h ⟨rfl, rfl⟩
        rw [cl0, hx1]
        refine aw_astoreV d_L_await_96 (by decide) (by first | exact Or.inl ⟨_, rfl⟩ | exact Or.inr rfl | exact rv_Q _) (by dsimp only [List.set]) ?_
        refine aw_iload d_L_await_98 rfl ?_
        refine aw_iconst (v := (-1)) d_L_await_100 (by decide) ?_
        refine aw_icmp_ge (tgt := 117) d_L_await_101 (by decide) (fun c101 => ?_) (fun c101 => ?_)
        · exact absurd g4 (Int32.not_lt.mpr c101)
        · refine aw_aloadV d_L_await_104 rfl (by first | exact Or.inl ⟨_, rfl⟩ | exact Or.inr rfl | exact rv_Q _) ?_
          refine aw_bipush (v := (-2)) d_L_await_106 (by decide) ?_
          refine aw_iload d_L_await_108 rfl ?_
          refine aw_isub d_L_await_110 ?_
          refine aw_callV (c_Unit_sectionOfKind G _ o c hR (hJ.hu hj) (-2 - wh)) cl_Unit (hR.unit (hJ.hu hj)) m_Unit_sectionOfKind ml_L_167 rfl rfl (by decide) (by decide) (Nat.le_of_ble_eq_true rfl) d_L_await_111 ?_
          rintro v h ⟨rfl, rfl⟩
          rw [hx2]
          refine aw_goto (tgt := 118) d_L_await_114 (by decide) ?_
          refine aw_astoreV d_L_await_118 (by decide) (by first | exact Or.inl ⟨_, rfl⟩ | exact Or.inr rfl | exact rv_Q _) (by dsimp only [List.set]) ?_
          refine aw_iload d_L_await_120 rfl ?_
          refine aw_iconst (v := (-1)) d_L_await_122 (by decide) ?_
          refine aw_icmp_eq (tgt := 138) d_L_await_123 (by decide) (fun c123 => ?_) (fun c123 => ?_)
          · exact absurd c123 g1
          · refine aw_aloadV d_L_await_126 rfl (by first | exact Or.inl ⟨_, rfl⟩ | exact Or.inr rfl | exact rv_Q _) ?_
            refine aw_ifnonnullN d_L_await_128 ?_
            refine aw_aloadV d_L_await_131 rfl (by first | exact Or.inl ⟨_, rfl⟩ | exact Or.inr rfl | exact rv_Q _) ?_
            refine aw_ifnonnullN d_L_await_133 ?_
            refine aw_iconst (v := 0) d_L_await_136 (by decide) ?_
            refine aw_zret ?_ rfl rfl d_L_await_137
            exact hn (fun q => g5 q.1)
set_option maxRecDepth 20000 in
theorem k_Await (G : ax_G) (o : Nat) (hG : G.1 = o) : lawAwait G (cC o) o (o + 17) (o + 53) := by
  intro s e U S W T B n h a p k nx wh z l hV hM hC
  obtain ⟨c, hR, hJ, hKi, hKn, hKf, hKb, hRm⟩ := hC
  have hy := hV.1
  refine aw_enter (by decide) (Nat.le_of_ble_eq_true rfl) (n := 5) (ls := [some (.ref o), some (.int a), some (.int p), some (.int k), some (.int nx), some (.int wh), some (.long z), none, some (.int l), none, none, none, none, none]) rfl (fun x => ?_)
  have hSb := hy.hSb
  have hUb := hy.2.1
  have hWb := hy.hWb
  by_cases hU0 : 0 < U
  · have hxU : va_rf (cOp (0 < U) (c.2.2.2.2.1 0 (U - 1))) = .ref (c.2.2.2.2.1 0 (U - 1)) := by rw [cOp_t hU0]; rfl
    by_cases hk : mKeepOk U a
    · have hx : va_rf (cOp (mKeepOk U a) (cQ c.2.2.2.2 (4 * (U - 1) + iN a))) = .ref (cQ c.2.2.2.2 (4 * (U - 1) + iN a)) := by rw [cOp_t hk]; rfl
      have ha3 : iN a ≤ 3 := iN_le (n := 3) (by decide) hk.2.1 hk.2.2
      have hq : 4 * (U - 1) + iN a < 4 * U := by omega
      have hsz := hJ.size hq
      have hi1 := hy.i1 _ hq
      refine aw_aloadV_n d_L_await_0 rfl rfl (by first | exact Or.inl ⟨_, rfl⟩ | exact Or.inr rfl | exact rv_Q _) ?_
      refine aw_callV (c_L_latestUnit G _ o c hR s e U S W T hJ hy.2.1) cl_L hR.obj m_L_latestUnit ml_L_126 rfl rfl (by decide) (by decide) (Nat.le_of_ble_eq_true rfl) d_L_await_1 ?_
      rintro v h ⟨rfl, rfl⟩
      rw [hxU]
      refine aw_astoreV d_L_await_4 (by decide) (by first | exact Or.inl ⟨_, rfl⟩ | exact Or.inr rfl | exact rv_Q _) (by dsimp only [List.set]) ?_
      refine aw_aloadV_n d_L_await_6 rfl rfl (by first | exact Or.inl ⟨_, rfl⟩ | exact Or.inr rfl | exact rv_Q _) ?_
      refine aw_iload_n d_L_await_7 rfl rfl ?_
      refine aw_callV (c_L_latestSection G _ o c hR s e U S W T hJ hy.2.1 a) cl_L hR.obj m_L_latestSection ml_L_107 rfl rfl (by decide) (by decide) (Nat.le_of_ble_eq_true rfl) d_L_await_8 ?_
      rintro v h ⟨rfl, rfl⟩
      rw [hx]
      refine aw_astoreV d_L_await_11 (by decide) (by first | exact Or.inl ⟨_, rfl⟩ | exact Or.inr rfl | exact rv_Q _) (by dsimp only [List.set]) ?_
      refine aw_aloadV d_L_await_13 rfl (by first | exact Or.inl ⟨_, rfl⟩ | exact Or.inr rfl | exact rv_Q _) ?_
      refine aw_ifnull d_L_await_15 ?_
      refine aw_aloadV d_L_await_18 rfl (by first | exact Or.inl ⟨_, rfl⟩ | exact Or.inr rfl | exact rv_Q _) ?_
      refine aw_ifnull d_L_await_20 ?_
      refine aw_iload_n d_L_await_23 rfl rfl ?_
      refine aw_iconst (v := 3) d_L_await_24 (by decide) ?_
      refine aw_icmp_eq (tgt := 38) d_L_await_25 (by decide) (fun c25 => ?_) (fun c25 => ?_)
      · refine aw_iconst (v := 0) d_L_await_38 (by decide) ?_
        refine aw_zret ?_ rfl rfl d_L_await_39
        have hok : ¬ mAwOk s U S (mFst e U) W a p k nx wh l := fun q => absurd q.2.1.2.2.1 (by rw [c25]; decide)
        exact ⟨by rw [pIf_f hok], Or.inr ⟨hok, ⟨c, hR, hJ, hKi, hKn, hKf, hKb, hRm.dn⟩⟩, lawF.rf _ _ _⟩
      · refine aw_aloadV_n d_L_await_28 rfl rfl (by first | exact Or.inl ⟨_, rfl⟩ | exact Or.inr rfl | exact rv_Q _) ?_
        refine aw_getE cl_L fl_L_72 (by decide) hR.obj rfl (congrArg Value.int hJ.sW) d_L_await_29 ?_
        refine aw_sipush (v := 4096) d_L_await_32 (by decide) ?_
        refine aw_icmp_lt (tgt := 40) d_L_await_35 (by decide) (fun c35 => ?_) (fun c35 => ?_)
        · refine aw_iload_n d_L_await_40 rfl rfl ?_
          refine aw_iconst (v := 4) d_L_await_41 (by decide) ?_
          refine aw_icmp_eq (tgt := 51) d_L_await_42 (by decide) (fun c42 => ?_) (fun c42 => ?_)
          · refine aw_aloadV d_L_await_51 rfl (by first | exact Or.inl ⟨_, rfl⟩ | exact Or.inr rfl | exact rv_Q _) ?_
            refine aw_iload_n d_L_await_53 rfl rfl ?_
            refine aw_iload_n d_L_await_54 rfl rfl ?_
            refine aw_callV (c_Section_holds G _ o c hR (hJ.hq hq) p k) cl_Section (hR.sec (hJ.hq hq)) m_Section_holds ml_L_111 rfl rfl (by decide) (by decide) (Nat.le_of_ble_eq_true rfl) d_L_await_55 ?_
            rintro v h ⟨rfl, rfl⟩
            refine aw_if_eq (tgt := 69) d_L_await_58 (by decide) (fun c58 => ?_) (fun c58 => ?_)
            · refine aw_iconst (v := 0) d_L_await_69 (by decide) ?_
              refine aw_zret ?_ rfl rfl d_L_await_70
              have hok : ¬ mAwOk s U S (mFst e U) W a p k nx wh l := fun q => zI_f c58 ⟨q.2.1.2.2.2.1, by rw [hsz]; exact q.2.1.2.2.2.2⟩
              exact ⟨by rw [pIf_f hok], Or.inr ⟨hok, ⟨c, hR, hJ, hKi, hKn, hKf, hKb, hRm.dn⟩⟩, lawF.rf _ _ _⟩
            · refine aw_iload d_L_await_61 rfl ?_
              refine aw_callS (c_L_isLine G _ l) m_L_isLine ml_L_133 rfl rfl (by decide) (by decide) (Nat.le_of_ble_eq_true rfl) d_L_await_63 ?_
              rintro v h ⟨rfl, rfl⟩
              refine aw_if_ne (tgt := 71) d_L_await_66 (by decide) (fun c66 => ?_) (fun c66 => ?_)
              · refine aw_iload d_L_await_71 rfl ?_
                refine aw_iconst (v := (-1)) d_L_await_73 (by decide) ?_
                refine aw_icmp_eq (tgt := 89) d_L_await_74 (by decide) (fun c74 => ?_) (fun c74 => ?_)
                · have hW8 : W < 4096 := (nI_ltI (by omega) (by decide)).mp c35
                  have hr1 := hRm.1
                  have hr2 := hRm.2
                  have eF : mFst e U = e 16 (U - 1) := by rw [mFst, if_pos hU0]
                  have hh := zI_t c58
                  have hnx : -1 ≤ nx ∧ nx ≤ s.2.1 5 (4 * (U - 1) + iN a) := ⟨by rw [c74]; decide, by rw [c74]; exact Int32.le_trans (show (-1 : Int32) ≤ 0 by decide) (by rw [hi1.1.1]; exact nI_pos' (by have := hi1.1.2; omega))⟩
                  refine t_L_await2 hR s e U S W T hJ hU0 hSb hW8 (hJ.hq hq) a p k nx wh z l (by rw [hG]; omega) (by omega) (fun hw => ?_) (fun hw h2 hR2 hF2 => ?_)
                  · have hok : ¬ mAwOk s U S (mFst e U) W a p k nx wh l := fun q => hw (by rw [eF] at q; exact q.2.2.2.2.2)
                    exact ⟨by rw [pIf_f hok], Or.inr ⟨hok, ⟨c, hR, hJ, hKi, hKn, hKf, hKb, hRm.dn⟩⟩, lawF.rf _ _ _⟩
                  · have hok : mAwOk s U S (mFst e U) W a p k nx wh l := ⟨Or.inl c42, ⟨hU0, hk.2.1, i32_lt3 hk.2.2 c25, hh.1, by rw [← hsz]; exact hh.2⟩, zI_t c66, by omega, hnx, by rw [eF]; exact hw⟩
                    refine ⟨by rw [pIf_t hok], Or.inl ⟨hok, ?_⟩, hF2.lawN hR.h54⟩
                    rw [eF]
                    exact ⟨_, hR2, hJ.addW (e 16 (U - 1)) a p k nx wh z l hnx.1 _ _ rfl rfl, hKi, hKn, hKf, hKb, hRm.frN hF2 (by decide)⟩
                · refine aw_aloadV d_L_await_77 rfl (by first | exact Or.inl ⟨_, rfl⟩ | exact Or.inr rfl | exact rv_Q _) ?_
                  refine aw_iload d_L_await_79 rfl ?_
                  refine aw_callV (c_Section_hasPlace G _ o c hR (hJ.hq hq) nx) cl_Section (hR.sec (hJ.hq hq)) m_Section_hasPlace ml_L_136 rfl rfl (by decide) (by decide) (Nat.le_of_ble_eq_true rfl) d_L_await_81 ?_
                  rintro v h ⟨rfl, rfl⟩
                  refine aw_if_ne (tgt := 89) d_L_await_84 (by decide) (fun c84 => ?_) (fun c84 => ?_)
                  · have hW8 : W < 4096 := (nI_ltI (by omega) (by decide)).mp c35
                    have hr1 := hRm.1
                    have hr2 := hRm.2
                    have eF : mFst e U = e 16 (U - 1) := by rw [mFst, if_pos hU0]
                    have hh := zI_t c58
                    have hnx : -1 ≤ nx ∧ nx ≤ s.2.1 5 (4 * (U - 1) + iN a) := ⟨Int32.le_trans (by decide) (zI_t c84).1, by rw [← hsz]; exact (zI_t c84).2⟩
                    refine t_L_await2 hR s e U S W T hJ hU0 hSb hW8 (hJ.hq hq) a p k nx wh z l (by rw [hG]; omega) (by omega) (fun hw => ?_) (fun hw h2 hR2 hF2 => ?_)
                    · have hok : ¬ mAwOk s U S (mFst e U) W a p k nx wh l := fun q => hw (by rw [eF] at q; exact q.2.2.2.2.2)
                      exact ⟨by rw [pIf_f hok], Or.inr ⟨hok, ⟨c, hR, hJ, hKi, hKn, hKf, hKb, hRm.dn⟩⟩, lawF.rf _ _ _⟩
                    · have hok : mAwOk s U S (mFst e U) W a p k nx wh l := ⟨Or.inl c42, ⟨hU0, hk.2.1, i32_lt3 hk.2.2 c25, hh.1, by rw [← hsz]; exact hh.2⟩, zI_t c66, by omega, hnx, by rw [eF]; exact hw⟩
                      refine ⟨by rw [pIf_t hok], Or.inl ⟨hok, ?_⟩, hF2.lawN hR.h54⟩
                      rw [eF]
                      exact ⟨_, hR2, hJ.addW (e 16 (U - 1)) a p k nx wh z l hnx.1 _ _ rfl rfl, hKi, hKn, hKf, hKb, hRm.frN hF2 (by decide)⟩
                  · refine aw_iconst (v := 0) d_L_await_87 (by decide) ?_
                    refine aw_zret ?_ rfl rfl d_L_await_88
                    have hok : ¬ mAwOk s U S (mFst e U) W a p k nx wh l := fun q => zI_f c84 ⟨Classical.byContradiction (fun y => c74 (i32_neg1 q.2.2.2.2.1.1 y)), by rw [hsz]; exact q.2.2.2.2.1.2⟩
                    exact ⟨by rw [pIf_f hok], Or.inr ⟨hok, ⟨c, hR, hJ, hKi, hKn, hKf, hKb, hRm.dn⟩⟩, lawF.rf _ _ _⟩
              · refine aw_iconst (v := 0) d_L_await_69 (by decide) ?_
                refine aw_zret ?_ rfl rfl d_L_await_70
                have hok : ¬ mAwOk s U S (mFst e U) W a p k nx wh l := fun q => zI_f c66 q.2.2.1
                exact ⟨by rw [pIf_f hok], Or.inr ⟨hok, ⟨c, hR, hJ, hKi, hKn, hKf, hKb, hRm.dn⟩⟩, lawF.rf _ _ _⟩
          · refine aw_iload_n d_L_await_45 rfl rfl ?_
            refine aw_bipush (v := 8) d_L_await_46 (by decide) ?_
            refine aw_icmp_ne (tgt := 69) d_L_await_48 (by decide) (fun c48 => ?_) (fun c48 => ?_)
            · refine aw_iconst (v := 0) d_L_await_69 (by decide) ?_
              refine aw_zret ?_ rfl rfl d_L_await_70
              have hok : ¬ mAwOk s U S (mFst e U) W a p k nx wh l := fun q => q.1.elim c42 c48
              exact ⟨by rw [pIf_f hok], Or.inr ⟨hok, ⟨c, hR, hJ, hKi, hKn, hKf, hKb, hRm.dn⟩⟩, lawF.rf _ _ _⟩
            · refine aw_aloadV d_L_await_51 rfl (by first | exact Or.inl ⟨_, rfl⟩ | exact Or.inr rfl | exact rv_Q _) ?_
              refine aw_iload_n d_L_await_53 rfl rfl ?_
              refine aw_iload_n d_L_await_54 rfl rfl ?_
              refine aw_callV (c_Section_holds G _ o c hR (hJ.hq hq) p k) cl_Section (hR.sec (hJ.hq hq)) m_Section_holds ml_L_111 rfl rfl (by decide) (by decide) (Nat.le_of_ble_eq_true rfl) d_L_await_55 ?_
              rintro v h ⟨rfl, rfl⟩
              refine aw_if_eq (tgt := 69) d_L_await_58 (by decide) (fun c58 => ?_) (fun c58 => ?_)
              · refine aw_iconst (v := 0) d_L_await_69 (by decide) ?_
                refine aw_zret ?_ rfl rfl d_L_await_70
                have hok : ¬ mAwOk s U S (mFst e U) W a p k nx wh l := fun q => zI_f c58 ⟨q.2.1.2.2.2.1, by rw [hsz]; exact q.2.1.2.2.2.2⟩
                exact ⟨by rw [pIf_f hok], Or.inr ⟨hok, ⟨c, hR, hJ, hKi, hKn, hKf, hKb, hRm.dn⟩⟩, lawF.rf _ _ _⟩
              · refine aw_iload d_L_await_61 rfl ?_
                refine aw_callS (c_L_isLine G _ l) m_L_isLine ml_L_133 rfl rfl (by decide) (by decide) (Nat.le_of_ble_eq_true rfl) d_L_await_63 ?_
                rintro v h ⟨rfl, rfl⟩
                refine aw_if_ne (tgt := 71) d_L_await_66 (by decide) (fun c66 => ?_) (fun c66 => ?_)
                · refine aw_iload d_L_await_71 rfl ?_
                  refine aw_iconst (v := (-1)) d_L_await_73 (by decide) ?_
                  refine aw_icmp_eq (tgt := 89) d_L_await_74 (by decide) (fun c74 => ?_) (fun c74 => ?_)
                  · have hW8 : W < 4096 := (nI_ltI (by omega) (by decide)).mp c35
                    have hr1 := hRm.1
                    have hr2 := hRm.2
                    have eF : mFst e U = e 16 (U - 1) := by rw [mFst, if_pos hU0]
                    have hh := zI_t c58
                    have hnx : -1 ≤ nx ∧ nx ≤ s.2.1 5 (4 * (U - 1) + iN a) := ⟨by rw [c74]; decide, by rw [c74]; exact Int32.le_trans (show (-1 : Int32) ≤ 0 by decide) (by rw [hi1.1.1]; exact nI_pos' (by have := hi1.1.2; omega))⟩
                    refine t_L_await2 hR s e U S W T hJ hU0 hSb hW8 (hJ.hq hq) a p k nx wh z l (by rw [hG]; omega) (by omega) (fun hw => ?_) (fun hw h2 hR2 hF2 => ?_)
                    · have hok : ¬ mAwOk s U S (mFst e U) W a p k nx wh l := fun q => hw (by rw [eF] at q; exact q.2.2.2.2.2)
                      exact ⟨by rw [pIf_f hok], Or.inr ⟨hok, ⟨c, hR, hJ, hKi, hKn, hKf, hKb, hRm.dn⟩⟩, lawF.rf _ _ _⟩
                    · have hok : mAwOk s U S (mFst e U) W a p k nx wh l := ⟨Or.inr c48, ⟨hU0, hk.2.1, i32_lt3 hk.2.2 c25, hh.1, by rw [← hsz]; exact hh.2⟩, zI_t c66, by omega, hnx, by rw [eF]; exact hw⟩
                      refine ⟨by rw [pIf_t hok], Or.inl ⟨hok, ?_⟩, hF2.lawN hR.h54⟩
                      rw [eF]
                      exact ⟨_, hR2, hJ.addW (e 16 (U - 1)) a p k nx wh z l hnx.1 _ _ rfl rfl, hKi, hKn, hKf, hKb, hRm.frN hF2 (by decide)⟩
                  · refine aw_aloadV d_L_await_77 rfl (by first | exact Or.inl ⟨_, rfl⟩ | exact Or.inr rfl | exact rv_Q _) ?_
                    refine aw_iload d_L_await_79 rfl ?_
                    refine aw_callV (c_Section_hasPlace G _ o c hR (hJ.hq hq) nx) cl_Section (hR.sec (hJ.hq hq)) m_Section_hasPlace ml_L_136 rfl rfl (by decide) (by decide) (Nat.le_of_ble_eq_true rfl) d_L_await_81 ?_
                    rintro v h ⟨rfl, rfl⟩
                    refine aw_if_ne (tgt := 89) d_L_await_84 (by decide) (fun c84 => ?_) (fun c84 => ?_)
                    · have hW8 : W < 4096 := (nI_ltI (by omega) (by decide)).mp c35
                      have hr1 := hRm.1
                      have hr2 := hRm.2
                      have eF : mFst e U = e 16 (U - 1) := by rw [mFst, if_pos hU0]
                      have hh := zI_t c58
                      have hnx : -1 ≤ nx ∧ nx ≤ s.2.1 5 (4 * (U - 1) + iN a) := ⟨Int32.le_trans (by decide) (zI_t c84).1, by rw [← hsz]; exact (zI_t c84).2⟩
                      refine t_L_await2 hR s e U S W T hJ hU0 hSb hW8 (hJ.hq hq) a p k nx wh z l (by rw [hG]; omega) (by omega) (fun hw => ?_) (fun hw h2 hR2 hF2 => ?_)
                      · have hok : ¬ mAwOk s U S (mFst e U) W a p k nx wh l := fun q => hw (by rw [eF] at q; exact q.2.2.2.2.2)
                        exact ⟨by rw [pIf_f hok], Or.inr ⟨hok, ⟨c, hR, hJ, hKi, hKn, hKf, hKb, hRm.dn⟩⟩, lawF.rf _ _ _⟩
                      · have hok : mAwOk s U S (mFst e U) W a p k nx wh l := ⟨Or.inr c48, ⟨hU0, hk.2.1, i32_lt3 hk.2.2 c25, hh.1, by rw [← hsz]; exact hh.2⟩, zI_t c66, by omega, hnx, by rw [eF]; exact hw⟩
                        refine ⟨by rw [pIf_t hok], Or.inl ⟨hok, ?_⟩, hF2.lawN hR.h54⟩
                        rw [eF]
                        exact ⟨_, hR2, hJ.addW (e 16 (U - 1)) a p k nx wh z l hnx.1 _ _ rfl rfl, hKi, hKn, hKf, hKb, hRm.frN hF2 (by decide)⟩
                    · refine aw_iconst (v := 0) d_L_await_87 (by decide) ?_
                      refine aw_zret ?_ rfl rfl d_L_await_88
                      have hok : ¬ mAwOk s U S (mFst e U) W a p k nx wh l := fun q => zI_f c84 ⟨Classical.byContradiction (fun y => c74 (i32_neg1 q.2.2.2.2.1.1 y)), by rw [hsz]; exact q.2.2.2.2.1.2⟩
                      exact ⟨by rw [pIf_f hok], Or.inr ⟨hok, ⟨c, hR, hJ, hKi, hKn, hKf, hKb, hRm.dn⟩⟩, lawF.rf _ _ _⟩
                · refine aw_iconst (v := 0) d_L_await_69 (by decide) ?_
                  refine aw_zret ?_ rfl rfl d_L_await_70
                  have hok : ¬ mAwOk s U S (mFst e U) W a p k nx wh l := fun q => zI_f c66 q.2.2.1
                  exact ⟨by rw [pIf_f hok], Or.inr ⟨hok, ⟨c, hR, hJ, hKi, hKn, hKf, hKb, hRm.dn⟩⟩, lawF.rf _ _ _⟩
        · refine aw_iconst (v := 0) d_L_await_38 (by decide) ?_
          refine aw_zret ?_ rfl rfl d_L_await_39
          have hok : ¬ mAwOk s U S (mFst e U) W a p k nx wh l := fun q => c35 (nI_lt (b := 4096) (by have := q.2.2.2.1; omega) (by decide))
          exact ⟨by rw [pIf_f hok], Or.inr ⟨hok, ⟨c, hR, hJ, hKi, hKn, hKf, hKb, hRm.dn⟩⟩, lawF.rf _ _ _⟩
    · have hx : va_rf (cOp (mKeepOk U a) (cQ c.2.2.2.2 (4 * (U - 1) + iN a))) = .null := by rw [cOp_f hk]; rfl
      have hok : ¬ mAwOk s U S (mFst e U) W a p k nx wh l := fun q => hk ⟨hU0, q.2.1.2.1, i32_le3b q.2.1.2.2.1⟩
      refine aw_aloadV_n d_L_await_0 rfl rfl (by first | exact Or.inl ⟨_, rfl⟩ | exact Or.inr rfl | exact rv_Q _) ?_
      refine aw_callV (c_L_latestUnit G _ o c hR s e U S W T hJ hy.2.1) cl_L hR.obj m_L_latestUnit ml_L_126 rfl rfl (by decide) (by decide) (Nat.le_of_ble_eq_true rfl) d_L_await_1 ?_
      rintro v h ⟨rfl, rfl⟩
      rw [hxU]
      refine aw_astoreV d_L_await_4 (by decide) (by first | exact Or.inl ⟨_, rfl⟩ | exact Or.inr rfl | exact rv_Q _) (by dsimp only [List.set]) ?_
      refine aw_aloadV_n d_L_await_6 rfl rfl (by first | exact Or.inl ⟨_, rfl⟩ | exact Or.inr rfl | exact rv_Q _) ?_
      refine aw_iload_n d_L_await_7 rfl rfl ?_
      refine aw_callV (c_L_latestSection G _ o c hR s e U S W T hJ hy.2.1 a) cl_L hR.obj m_L_latestSection ml_L_107 rfl rfl (by decide) (by decide) (Nat.le_of_ble_eq_true rfl) d_L_await_8 ?_
      rintro v h ⟨rfl, rfl⟩
      rw [hx]
      refine aw_astoreV d_L_await_11 (by decide) (by first | exact Or.inl ⟨_, rfl⟩ | exact Or.inr rfl | exact rv_Q _) (by dsimp only [List.set]) ?_
      refine aw_aloadV d_L_await_13 rfl (by first | exact Or.inl ⟨_, rfl⟩ | exact Or.inr rfl | exact rv_Q _) ?_
      refine aw_ifnull d_L_await_15 ?_
      refine aw_aloadV d_L_await_18 rfl (by first | exact Or.inl ⟨_, rfl⟩ | exact Or.inr rfl | exact rv_Q _) ?_
      refine aw_ifnullN (tgt := 38) d_L_await_20 (by decide) ?_
      refine aw_iconst (v := 0) d_L_await_38 (by decide) ?_
      refine aw_zret ?_ rfl rfl d_L_await_39
      exact ⟨by rw [pIf_f hok], Or.inr ⟨hok, ⟨c, hR, hJ, hKi, hKn, hKf, hKb, hRm.dn⟩⟩, lawF.rf _ _ _⟩
  · have hxU : va_rf (cOp (0 < U) (c.2.2.2.2.1 0 (U - 1))) = .null := by rw [cOp_f hU0]; rfl
    have hx : va_rf (cOp (mKeepOk U a) (cQ c.2.2.2.2 (4 * (U - 1) + iN a))) = .null := by rw [cOp_f (fun q => hU0 q.1)]; rfl
    have hok : ¬ mAwOk s U S (mFst e U) W a p k nx wh l := fun q => hU0 q.2.1.1
    refine aw_aloadV_n d_L_await_0 rfl rfl (by first | exact Or.inl ⟨_, rfl⟩ | exact Or.inr rfl | exact rv_Q _) ?_
    refine aw_callV (c_L_latestUnit G _ o c hR s e U S W T hJ hy.2.1) cl_L hR.obj m_L_latestUnit ml_L_126 rfl rfl (by decide) (by decide) (Nat.le_of_ble_eq_true rfl) d_L_await_1 ?_
    rintro v h ⟨rfl, rfl⟩
    rw [hxU]
    refine aw_astoreV d_L_await_4 (by decide) (by first | exact Or.inl ⟨_, rfl⟩ | exact Or.inr rfl | exact rv_Q _) (by dsimp only [List.set]) ?_
    refine aw_aloadV_n d_L_await_6 rfl rfl (by first | exact Or.inl ⟨_, rfl⟩ | exact Or.inr rfl | exact rv_Q _) ?_
    refine aw_iload_n d_L_await_7 rfl rfl ?_
    refine aw_callV (c_L_latestSection G _ o c hR s e U S W T hJ hy.2.1 a) cl_L hR.obj m_L_latestSection ml_L_107 rfl rfl (by decide) (by decide) (Nat.le_of_ble_eq_true rfl) d_L_await_8 ?_
    rintro v h ⟨rfl, rfl⟩
    rw [hx]
    refine aw_astoreV d_L_await_11 (by decide) (by first | exact Or.inl ⟨_, rfl⟩ | exact Or.inr rfl | exact rv_Q _) (by dsimp only [List.set]) ?_
    refine aw_aloadV d_L_await_13 rfl (by first | exact Or.inl ⟨_, rfl⟩ | exact Or.inr rfl | exact rv_Q _) ?_
    refine aw_ifnullN (tgt := 38) d_L_await_15 (by decide) ?_
    refine aw_iconst (v := 0) d_L_await_38 (by decide) ?_
    refine aw_zret ?_ rfl rfl d_L_await_39
    exact ⟨by rw [pIf_f hok], Or.inr ⟨hok, ⟨c, hR, hJ, hKi, hKn, hKf, hKb, hRm.dn⟩⟩, lawF.rf _ _ _⟩
