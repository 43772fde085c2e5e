theorem cJ.dup {o : Nat} {c : cSt} {s : mSt} {e : Nat → Nat → Nat} {U S W T : Nat} {h : ax_H} (hJ : cJ c s e U S W T) (hR : cR o c h) (hU : 0 < U) {i : Nat} (hi : i < c.2.2.2.2.2 1) {w : Int64} {k : Int32} (hw : c.2.2.1 42 i = w) (hk : c.2.1 29 i = k) : mDupL (s.2.1 10) (s.2.2 9) k w (e 16 (U - 1)) (S - e 16 (U - 1)) ↔ ∃ j, e 16 (U - 1) ≤ j ∧ j < cEnd e U S (U - 1) ∧ c.2.2.2.2.1 5 j = i := by
  have cl0 : cEnd e U S (U - 1) = S := by rw [cEnd, if_neg (by omega)]
  have h1 := hJ.eb (j := U - 1) (by omega)
  rw [mDupL_iff, cl0] at *
  constructor
  · rintro ⟨j, a, b, d1, d2⟩
    have hj : j < S := by omega
    refine ⟨j, a, hj, hJ.uni hi _ (hR.1.2.2.2.1 j (hJ.hk hj)) ?_ ?_⟩
    · rw [hJ.word hj, d2, hw]
    · rw [hJ.len hj, d1, hk]
  · rintro ⟨j, a, hj, rfl⟩
    exact ⟨j, a, by omega, by rw [← hJ.len hj, hk], by rw [← hJ.word hj, hw]⟩
theorem cJ.nodup {o : Nat} {c : cSt} {s : mSt} {e : Nat → Nat → Nat} {U S W T : Nat} {h : ax_H} (hJ : cJ c s e U S W T) (hR : cR o c h) (hU : 0 < U) {w : Int64} {k : Int32} (hno : ∀ i, i < c.2.2.2.2.2 1 → ¬ (c.2.2.1 42 i = w ∧ c.2.1 29 i = k)) : ¬ mDupL (s.2.1 10) (s.2.2 9) k w (e 16 (U - 1)) (S - e 16 (U - 1)) := by
  rw [mDupL_iff]
  rintro ⟨j, a, b, d1, d2⟩
  have hj : j < S := by omega
  exact hno _ (hR.1.2.2.2.1 j (hJ.hk hj)) ⟨by rw [hJ.word hj, d2], by rw [hJ.len hj, d1]⟩
set_option maxRecDepth 20000 in
theorem t_L_symbol2 {G : ax_G} {x : ax_X} {h0 : ax_H} {P : Option Value → ax_H → Prop} {o : Nat} {c : cSt} {h : ax_H} (hR : cR o c h) (s : mSt) (e : Nat → Nat → Nat) (U S W T : Nat) (hJ : cJ c s e U S W T) (hU0 : 0 < U) (hS8 : S < 2048) (hNS : c.2.2.2.2.2 1 ≤ S) (w : Int64) (k mk a p l : Int32) (hk8 : k ≤ 8) (hm : mk = 0 ∨ mk = 1 ∨ mk = 2 ∨ mk = 3) (r : Option Nat) (hc : h.1 + 2 ≤ G.1 + room_1.cells) (hs : h.2.1 + 12 ≤ room_1.slots) (hd : mDupL (s.2.1 10) (s.2.2 9) k (mCut w k) (e 16 (U - 1)) (S - e 16 (U - 1)) → P (some (.int (-1))) h) (hp : ¬ mDupL (s.2.1 10) (s.2.2 9) k (mCut w k) (e 16 (U - 1)) (S - e 16 (U - 1)) → ∀ c2 h2 h3 i, (c2 = c ∨ c2 = cNm c h (mCut w k) k) → i < c2.2.2.2.2.2 1 → c2.2.2.1 42 i = mCut w k → c2.2.1 29 i = k → c2.2.2.2.2.2 1 ≤ S + 1 → cJ c2 s e U S W T → cR o (cSy c2 h3 U S i (zI (mk = 1)) (zI (1 < mk)) p l r) h2 → (∀ b, o + 17 ≤ b → b < o + 54 → h2.2.2 b = h.2.2 b) → h2.1 ≤ h.1 + 2 → h2.2.1 ≤ h.2.1 + 12 → P (some (.int (nI S - nI (e 16 (U - 1))))) h2) : AW G x Y_L_symbol 3 67 h0 P h 82 [some (.ref o), some (.long w), none, some (.int k), some (.int mk), some (.int a), some (.int p), some (.int l), some (.ref (c.2.2.2.2.1 0 (U - 1))), some (va_rf r), none] [] := by
  have hSb : S ≤ 2048 := by omega
  have hj : U - 1 < U := by omega
  have h54 := hR.h54
  by_cases hf : ∃ i, i < c.2.2.2.2.2 1 ∧ (c.2.2.1 42 i = mCut w k ∧ c.2.1 29 i = k)
  · obtain ⟨i, hi, hw⟩ := hf
    refine aw_aloadV_n d_L_symbol_82 rfl rfl (by first | exact Or.inl ⟨_, rfl⟩ | exact Or.inr rfl | exact rv_Q _) ?_
    refine aw_lload_n d_L_symbol_83 rfl rfl ?_
    refine aw_iload_n d_L_symbol_84 rfl rfl ?_
    refine aw_callV (c_L_findName1 G _ o c hR s e U S W T hJ hSb w k hk8 hi hw) cl_L hR.obj m_L_findName ml_L_139 rfl rfl (by decide) (by decide) (Nat.le_of_ble_eq_true rfl) d_L_symbol_85 ?_
    rintro v h ⟨rfl, rfl⟩
    refine aw_astoreV d_L_symbol_88 (by decide) (by first | exact Or.inl ⟨_, rfl⟩ | exact Or.inr rfl | exact rv_Q _) (by dsimp only [List.set]) ?_
    refine aw_aloadV d_L_symbol_90 rfl (by first | exact Or.inl ⟨_, rfl⟩ | exact Or.inr rfl | exact rv_Q _) ?_
    refine aw_ifnull d_L_symbol_92 ?_
    refine aw_aloadV d_L_symbol_95 rfl (by first | exact Or.inl ⟨_, rfl⟩ | exact Or.inr rfl | exact rv_Q _) ?_
    refine aw_aloadV d_L_symbol_97 rfl (by first | exact Or.inl ⟨_, rfl⟩ | exact Or.inr rfl | exact rv_Q _) ?_
    refine aw_callV (c_Unit_hasSymbol G _ o c hR s e U S W T hJ hj hSb hi) cl_Unit (hR.unit (hJ.hu hj)) m_Unit_hasSymbol ml_L_143 rfl rfl (by decide) (by decide) (Nat.le_of_ble_eq_true rfl) d_L_symbol_99 ?_
    rintro v h ⟨rfl, rfl⟩
    refine aw_if_eq (tgt := 107) d_L_symbol_102 (by decide) (fun c102 => ?_) (fun c102 => ?_)
    · refine aw_aloadV d_L_symbol_107 rfl (by first | exact Or.inl ⟨_, rfl⟩ | exact Or.inr rfl | exact rv_Q _) ?_
      refine aw_ifnonnull (tgt := 124) d_L_symbol_109 (by decide) ?_
      refine t_L_symbol hR s e U S W T hJ hU0 hS8 hi w k mk a p l hm r (by omega) (by omega) (fun h2 hR2 hF2 => ?_)
      refine hp (fun q => zP_f c102 ((hJ.dup hR hU0 hi hw.1 hw.2).mp q)) c h2 h i (Or.inl rfl) hi hw.1 hw.2 (by omega) hJ hR2 (fun b b1 b2 => (hF2.2.2 b (Or.inl ⟨b1, b2⟩)).trans (ax_new_ne _ _ (by omega))) ?_ ?_
      · rw [hF2.1]; exact Nat.le_succ _
      · rw [hF2.2.1]; show h.2.1 + 6 ≤ _; omega
    · refine aw_iconst (v := (-1)) d_L_symbol_105 (by decide) ?_
      refine aw_iret ?_ rfl d_L_symbol_106
      exact hd ((hJ.dup hR hU0 hi hw.1 hw.2).mpr (zP_t c102))
  · have hno : ∀ i, i < c.2.2.2.2.2 1 → ¬ (c.2.2.1 42 i = mCut w k ∧ c.2.1 29 i = k) := fun i hi q => hf ⟨i, hi, q⟩
    refine aw_aloadV_n d_L_symbol_82 rfl rfl (by first | exact Or.inl ⟨_, rfl⟩ | exact Or.inr rfl | exact rv_Q _) ?_
    refine aw_lload_n d_L_symbol_83 rfl rfl ?_
    refine aw_iload_n d_L_symbol_84 rfl rfl ?_
    refine aw_callV (c_L_findName0 G _ o c hR s e U S W T hJ hSb w k hk8 hno) cl_L hR.obj m_L_findName ml_L_139 rfl rfl (by decide) (by decide) (Nat.le_of_ble_eq_true rfl) d_L_symbol_85 ?_
    rintro v h ⟨rfl, rfl⟩
    refine aw_astoreV d_L_symbol_88 (by decide) (by first | exact Or.inl ⟨_, rfl⟩ | exact Or.inr rfl | exact rv_Q _) (by dsimp only [List.set]) ?_
    refine aw_aloadV d_L_symbol_90 rfl (by first | exact Or.inl ⟨_, rfl⟩ | exact Or.inr rfl | exact rv_Q _) ?_
    refine aw_ifnullN (tgt := 107) d_L_symbol_92 (by decide) ?_
    refine aw_aloadV d_L_symbol_107 rfl (by first | exact Or.inl ⟨_, rfl⟩ | exact Or.inr rfl | exact rv_Q _) ?_
    refine aw_ifnonnullN d_L_symbol_109 ?_
    refine aw_aloadV_n d_L_symbol_112 rfl rfl (by first | exact Or.inl ⟨_, rfl⟩ | exact Or.inr rfl | exact rv_Q _) ?_
    refine aw_lload_n d_L_symbol_113 rfl rfl ?_
    refine aw_iload_n d_L_symbol_114 rfl rfl ?_
    refine aw_callS (c_L_nameWord G _ w k hk8) m_L_nameWord ml_L_147 rfl rfl (by decide) (by decide) (Nat.le_of_ble_eq_true rfl) d_L_symbol_115 ?_
    rintro v h ⟨rfl, rfl⟩
    refine aw_iload_n d_L_symbol_118 rfl rfl ?_
    refine aw_callV (c_L_addName G _ o c hR rfl hJ.sN (by omega) (mCut w k) k (by omega) (by omega)) cl_L hR.obj m_L_addName ml_L_151 rfl rfl (by decide) (by decide) (Nat.le_of_ble_eq_true rfl) d_L_symbol_119 ?_
    rintro v h' ⟨rfl, hR1, hF1⟩
    refine aw_astoreV d_L_symbol_122 (by decide) (by first | exact Or.inl ⟨_, rfl⟩ | exact Or.inr rfl | exact rv_Q _) (by dsimp only [List.set]) ?_
    refine aw_ls (ls' := [some (.ref o), some (.long w), none, some (.int k), some (.int mk), some (.int a), some (.int p), some (.int l), some (.ref (c.2.2.2.2.1 0 (U - 1))), some (va_rf r), some (.ref (va_up (c.2.2.2.2.1 1) (c.2.2.2.2.2 1) h.1 (c.2.2.2.2.2 1)))]) (by rw [va_up_self]) ?_
    have e1 : h'.1 = h.1 + 1 := hF1.1
    have e2 : h'.2.1 = h.2.1 + 6 := hF1.2.1
    have hJ1 := hJ.addN hR (mCut w k) k (by omega) hno
    refine t_L_symbol (i := c.2.2.2.2.2 1) (c := cNm c h (mCut w k) k) hR1 s e U S W T hJ1 hU0 hS8 (show _ < c.2.2.2.2.2 1 + 1 by omega) w k mk a p l hm r (by omega) (by omega) (fun h2 hR2 hF2 => ?_)
    refine hp (hJ.nodup hR hU0 hno) _ h2 h' (c.2.2.2.2.2 1) (Or.inr rfl) (show _ < c.2.2.2.2.2 1 + 1 by omega) (va_up_self (c.2.2.1 42) _ _) (va_up_self (c.2.1 29) _ _) (show c.2.2.2.2.2 1 + 1 ≤ S + 1 by omega) hJ1 hR2 (fun b b1 b2 => (hF2.2.2 b (Or.inl ⟨b1, b2⟩)).trans ((ax_new_ne _ _ (by omega)).trans ((hF1.2.2 b (Or.inl ⟨b1, b2⟩)).trans (ax_new_ne _ _ (by omega))))) ?_ ?_
    · rw [hF2.1]; show h'.1 + 1 ≤ _; omega
    · rw [hF2.2.1]; show h'.2.1 + 6 ≤ _; omega
theorem i32_03 {z : Int32} (h0 : 0 ≤ z) (h3 : z ≤ 3) : z = 0 ∨ z = 1 ∨ z = 2 ∨ z = 3 := by
  obtain ⟨j, j1, rfl⟩ := nI_of (Int32.not_lt.mpr h0)
  have := (nI_leI (b := 3) j1 (by decide)).mp h3
  match j, this with
  | 0, _ => exact Or.inl rfl
  | 1, _ => exact Or.inr (Or.inl rfl)
  | 2, _ => exact Or.inr (Or.inr (Or.inl rfl))
  | 3, _ => exact Or.inr (Or.inr (Or.inr rfl))
  | k + 4, q => exact absurd q (by omega)
theorem i32_neg1 {z : Int32} (h : -1 ≤ z) (h0 : ¬ 0 ≤ z) : z = -1 := by
  have h := Int32.le_iff_toInt_le.mp h
  have h0 := Int32.lt_iff_toInt_lt.mp (Int32.not_le.mp h0)
  have e1 : (-1 : Int32).toInt = -1 := by decide
  have e2 : (0 : Int32).toInt = 0 := by decide
  exact Int32.toInt_inj.mp (by omega)
set_option maxRecDepth 20000 in
theorem k_Symbol (G : ax_G) (o : Nat) (hG : G.1 = o) : lawSymbol G (cC o) o (o + 17) (o + 53) := by
  intro s e U S W T B n h w k mk a p l hV hM hC
  obtain ⟨c, hR, hJ, hKi, hKn, hKf, hKb, hRm⟩ := hC
  have hy := hV.1
  refine aw_enter (by decide) (Nat.le_of_ble_eq_true rfl) (n := 3) (ls := [some (.ref o), some (.long w), none, some (.int k), some (.int mk), some (.int a), some (.int p), some (.int l), none, none, none]) rfl (fun x => ?_)
  have hSb := hy.hSb
  have hUb := hy.2.1
  by_cases hU0 : 0 < U
  · have hxU : va_rf (cOp (0 < U) (c.2.2.2.2.1 0 (U - 1))) = .ref (c.2.2.2.2.1 0 (U - 1)) := by rw [cOp_t hU0]; rfl
    by_cases hk : mKeepOk U a
    · have hx : va_rf (cOp (mKeepOk U a) (cQ c.2.2.2.2 (4 * (U - 1) + iN a))) = .ref (cQ c.2.2.2.2 (4 * (U - 1) + iN a)) := by rw [cOp_t hk]; rfl
      have ha3 : iN a ≤ 3 := iN_le (n := 3) (by decide) hk.2.1 hk.2.2
      have hq : 4 * (U - 1) + iN a < 4 * U := by omega
      have hsz := hJ.size hq
      refine aw_aloadV_n d_L_symbol_0 rfl rfl (by first | exact Or.inl ⟨_, rfl⟩ | exact Or.inr rfl | exact rv_Q _) ?_
      refine aw_callV (c_L_latestUnit G _ o c hR s e U S W T hJ hy.2.1) cl_L hR.obj m_L_latestUnit ml_L_126 rfl rfl (by decide) (by decide) (Nat.le_of_ble_eq_true rfl) d_L_symbol_1 ?_
      rintro v h ⟨rfl, rfl⟩
      rw [hxU]
      refine aw_astoreV d_L_symbol_4 (by decide) (by first | exact Or.inl ⟨_, rfl⟩ | exact Or.inr rfl | exact rv_Q _) (by dsimp only [List.set]) ?_
      refine aw_aloadV d_L_symbol_6 rfl (by first | exact Or.inl ⟨_, rfl⟩ | exact Or.inr rfl | exact rv_Q _) ?_
      refine aw_ifnull d_L_symbol_8 ?_
      refine aw_aloadV_n d_L_symbol_11 rfl rfl (by first | exact Or.inl ⟨_, rfl⟩ | exact Or.inr rfl | exact rv_Q _) ?_
      refine aw_getE cl_L fl_L_69 (by decide) hR.obj rfl (congrArg Value.int hJ.sS) d_L_symbol_12 ?_
      refine aw_sipush (v := 2048) d_L_symbol_15 (by decide) ?_
      refine aw_icmp_ge (tgt := 28) d_L_symbol_18 (by decide) (fun c18 => ?_) (fun c18 => ?_)
      · refine aw_iconst (v := (-1)) d_L_symbol_28 (by decide) ?_
        refine aw_iret ?_ rfl d_L_symbol_29
        have hok : ¬ mSymOk s U S (mFst e U) w k mk a p l := fun q => absurd (nI_lt (b := 2048) q.1.2.2.2.2.2 (by decide)) (Int32.not_lt.mpr c18)
        exact ⟨by rw [pIf_f hok], Or.inr ⟨hok, ⟨c, hR, hJ, hKi, hKn, hKf, hKb, hRm.dn⟩⟩, lawF.rf _ _ _⟩
      · refine aw_iload_n d_L_symbol_21 rfl rfl ?_
        refine aw_callS (c_L_isNameLength G _ k) m_L_isNameLength ml_L_130 rfl rfl (by decide) (by decide) (Nat.le_of_ble_eq_true rfl) d_L_symbol_22 ?_
        rintro v h ⟨rfl, rfl⟩
        refine aw_if_ne (tgt := 30) d_L_symbol_25 (by decide) (fun c25 => ?_) (fun c25 => ?_)
        · refine aw_iload d_L_symbol_30 rfl ?_
          refine aw_if_lt (tgt := 49) d_L_symbol_32 (by decide) (fun c32 => ?_) (fun c32 => ?_)
          · refine aw_iconst (v := (-1)) d_L_symbol_49 (by decide) ?_
            refine aw_iret ?_ rfl d_L_symbol_50
            have hok : ¬ mSymOk s U S (mFst e U) w k mk a p l := fun q => absurd q.1.2.2.1.1 (Int32.not_le.mpr c32)
            exact ⟨by rw [pIf_f hok], Or.inr ⟨hok, ⟨c, hR, hJ, hKi, hKn, hKf, hKb, hRm.dn⟩⟩, lawF.rf _ _ _⟩
          · refine aw_iload d_L_symbol_35 rfl ?_
            refine aw_iconst (v := 3) d_L_symbol_37 (by decide) ?_
            refine aw_icmp_gt (tgt := 49) d_L_symbol_38 (by decide) (fun c38 => ?_) (fun c38 => ?_)
            · refine aw_iconst (v := (-1)) d_L_symbol_49 (by decide) ?_
              refine aw_iret ?_ rfl d_L_symbol_50
              have hok : ¬ mSymOk s U S (mFst e U) w k mk a p l := fun q => absurd q.1.2.2.1.2 (Int32.not_le.mpr c38)
              exact ⟨by rw [pIf_f hok], Or.inr ⟨hok, ⟨c, hR, hJ, hKi, hKn, hKf, hKb, hRm.dn⟩⟩, lawF.rf _ _ _⟩
            · refine aw_iload d_L_symbol_41 rfl ?_
              refine aw_callS (c_L_isLine G _ l) m_L_isLine ml_L_133 rfl rfl (by decide) (by decide) (Nat.le_of_ble_eq_true rfl) d_L_symbol_43 ?_
              rintro v h ⟨rfl, rfl⟩
              refine aw_if_ne (tgt := 51) d_L_symbol_46 (by decide) (fun c46 => ?_) (fun c46 => ?_)
              · refine aw_aloadV_n d_L_symbol_51 rfl rfl (by first | exact Or.inl ⟨_, rfl⟩ | exact Or.inr rfl | exact rv_Q _) ?_
                refine aw_iload d_L_symbol_52 rfl ?_
                refine aw_callV (c_L_latestSection G _ o c hR s e U S W T hJ hy.2.1 a) cl_L hR.obj m_L_latestSection ml_L_107 rfl rfl (by decide) (by decide) (Nat.le_of_ble_eq_true rfl) d_L_symbol_54 ?_
                rintro v h ⟨rfl, rfl⟩
                rw [hx]
                refine aw_astoreV d_L_symbol_57 (by decide) (by first | exact Or.inl ⟨_, rfl⟩ | exact Or.inr rfl | exact rv_Q _) (by dsimp only [List.set]) ?_
                refine aw_iload d_L_symbol_59 rfl ?_
                refine aw_iconst (v := (-1)) d_L_symbol_61 (by decide) ?_
                refine aw_icmp_eq (tgt := 82) d_L_symbol_62 (by decide) (fun c62 => ?_) (fun c62 => ?_)
                · exact absurd hk.2.1 (by rw [c62]; decide)
                · refine aw_aloadV d_L_symbol_65 rfl (by first | exact Or.inl ⟨_, rfl⟩ | exact Or.inr rfl | exact rv_Q _) ?_
                  refine aw_ifnull d_L_symbol_67 ?_
                  refine aw_aloadV d_L_symbol_70 rfl (by first | exact Or.inl ⟨_, rfl⟩ | exact Or.inr rfl | exact rv_Q _) ?_
                  refine aw_iload d_L_symbol_72 rfl ?_
                  refine aw_callV (c_Section_hasPlace G _ o c hR (hJ.hq hq) p) cl_Section (hR.sec (hJ.hq hq)) m_Section_hasPlace ml_L_136 rfl rfl (by decide) (by decide) (Nat.le_of_ble_eq_true rfl) d_L_symbol_74 ?_
                  rintro v h ⟨rfl, rfl⟩
                  refine aw_if_ne (tgt := 82) d_L_symbol_77 (by decide) (fun c77 => ?_) (fun c77 => ?_)
                  · have hS8 : S < 2048 := (nI_ltI (by omega) (by decide)).mp (Int32.not_le.mp c18)
                    have hm := i32_03 (Int32.not_lt.mp c32) (Int32.not_lt.mp c38)
                    have hr : (if a < 0 then none else some (cQ c.2.2.2.2 (4 * (U - 1) + iN a)) : Option Nat) = some (cQ c.2.2.2.2 (4 * (U - 1) + iN a)) := if_neg (Int32.not_lt.mpr hk.2.1)
                    refine aw_ls (ls' := [some (.ref o), some (.long w), none, some (.int k), some (.int mk), some (.int a), some (.int p), some (.int l), some (.ref (c.2.2.2.2.1 0 (U - 1))), some (va_rf (if a < 0 then none else some (cQ c.2.2.2.2 (4 * (U - 1) + iN a)))), none]) (by rw [hr]; rfl) ?_
                    have hr1 := hRm.1
                    have hr2 := hRm.2
                    have eF : mFst e U = e 16 (U - 1) := by rw [mFst, if_pos hU0]
                    refine t_L_symbol2 hR s e U S W T hJ hU0 hS8 hKn.2.2 w k mk a p l (zI_t c25).2 hm _ (by rw [hG]; omega) (by omega) (fun hd => ?_) (fun hd c2 h2 h3 i hcc hi hw hk2 hN2 hJ2 hR2 hFr e1 e2 => ?_)
                    · have hok : ¬ mSymOk s U S (mFst e U) w k mk a p l := fun q => q.2.2 (by rw [eF]; exact hd)
                      exact ⟨by rw [pIf_f hok], Or.inr ⟨hok, ⟨c, hR, hJ, hKi, hKn, hKf, hKb, hRm.dn⟩⟩, lawF.rf _ _ _⟩
                    · have hok : mSymOk s U S (mFst e U) w k mk a p l := ⟨⟨hU0, zI_t c25, ⟨Int32.not_lt.mp c32, Int32.not_lt.mp c38⟩, ⟨Int32.le_trans (by decide) hk.2.1, hk.2.2⟩, zI_t c46, hS8⟩, Or.inr ⟨(zI_t c77).1, by rw [← hsz]; exact (zI_t c77).2⟩, by rw [eF]; exact hd⟩
                      refine ⟨?_, Or.inl ⟨hok, ?_⟩, ⟨fun q hq => hFr _ (by omega) (by omega), hFr _ (by omega) (by omega)⟩⟩
                      · rw [pIf_t hok, eF, pk_sub]
                        have := hJ.eb (j := U - 1) (by omega)
                        have := hJ.ee (j := U - 1) (by omega)
                        omega
                      · have hRm2 : cRm o n h2 := ⟨by omega, by omega⟩
                        rcases hcc with rfl | rfl
                        · exact ⟨_, hR2, hJ2.addS hy.i4 hU0 i w k mk a p l hw hk2 (zI_t c46).1, hKi, ⟨hKn.1, hKn.2.1, hN2⟩, hKf, hKb, hRm2⟩
                        · exact ⟨_, hR2, hJ2.addS hy.i4 hU0 i w k mk a p l hw hk2 (zI_t c46).1, hKi, ⟨hKn.1, hKn.2.1, hN2⟩, hKf, hKb, hRm2⟩
                  · refine aw_iconst (v := (-1)) d_L_symbol_80 (by decide) ?_
                    refine aw_iret ?_ rfl d_L_symbol_81
                    have hok : ¬ mSymOk s U S (mFst e U) w k mk a p l := fun q => zI_f c77 (q.2.1.elim (fun z => absurd hk.2.1 (Int32.not_le.mpr z)) (fun z => ⟨z.1, by rw [hsz]; exact z.2⟩))
                    exact ⟨by rw [pIf_f hok], Or.inr ⟨hok, ⟨c, hR, hJ, hKi, hKn, hKf, hKb, hRm.dn⟩⟩, lawF.rf _ _ _⟩
              · refine aw_iconst (v := (-1)) d_L_symbol_49 (by decide) ?_
                refine aw_iret ?_ rfl d_L_symbol_50
                have hok : ¬ mSymOk s U S (mFst e U) w k mk a p l := fun q => zI_f c46 q.1.2.2.2.2.1
                exact ⟨by rw [pIf_f hok], Or.inr ⟨hok, ⟨c, hR, hJ, hKi, hKn, hKf, hKb, hRm.dn⟩⟩, lawF.rf _ _ _⟩
        · refine aw_iconst (v := (-1)) d_L_symbol_28 (by decide) ?_
          refine aw_iret ?_ rfl d_L_symbol_29
          have hok : ¬ mSymOk s U S (mFst e U) w k mk a p l := fun q => zI_f c25 q.1.2.1
          exact ⟨by rw [pIf_f hok], Or.inr ⟨hok, ⟨c, hR, hJ, hKi, hKn, hKf, hKb, hRm.dn⟩⟩, lawF.rf _ _ _⟩
    · have hx : va_rf (cOp (mKeepOk U a) (cQ c.2.2.2.2 (4 * (U - 1) + iN a))) = .null := by rw [cOp_f hk]; rfl
      refine aw_aloadV_n d_L_symbol_0 rfl rfl (by first | exact Or.inl ⟨_, rfl⟩ | exact Or.inr rfl | exact rv_Q _) ?_
      refine aw_callV (c_L_latestUnit G _ o c hR s e U S W T hJ hy.2.1) cl_L hR.obj m_L_latestUnit ml_L_126 rfl rfl (by decide) (by decide) (Nat.le_of_ble_eq_true rfl) d_L_symbol_1 ?_
      rintro v h ⟨rfl, rfl⟩
      rw [hxU]
      refine aw_astoreV d_L_symbol_4 (by decide) (by first | exact Or.inl ⟨_, rfl⟩ | exact Or.inr rfl | exact rv_Q _) (by dsimp only [List.set]) ?_
      refine aw_aloadV d_L_symbol_6 rfl (by first | exact Or.inl ⟨_, rfl⟩ | exact Or.inr rfl | exact rv_Q _) ?_
      refine aw_ifnull d_L_symbol_8 ?_
      refine aw_aloadV_n d_L_symbol_11 rfl rfl (by first | exact Or.inl ⟨_, rfl⟩ | exact Or.inr rfl | exact rv_Q _) ?_
      refine aw_getE cl_L fl_L_69 (by decide) hR.obj rfl (congrArg Value.int hJ.sS) d_L_symbol_12 ?_
      refine aw_sipush (v := 2048) d_L_symbol_15 (by decide) ?_
      refine aw_icmp_ge (tgt := 28) d_L_symbol_18 (by decide) (fun c18 => ?_) (fun c18 => ?_)
      · refine aw_iconst (v := (-1)) d_L_symbol_28 (by decide) ?_
        refine aw_iret ?_ rfl d_L_symbol_29
        have hok : ¬ mSymOk s U S (mFst e U) w k mk a p l := fun q => absurd (nI_lt (b := 2048) q.1.2.2.2.2.2 (by decide)) (Int32.not_lt.mpr c18)
        exact ⟨by rw [pIf_f hok], Or.inr ⟨hok, ⟨c, hR, hJ, hKi, hKn, hKf, hKb, hRm.dn⟩⟩, lawF.rf _ _ _⟩
      · refine aw_iload_n d_L_symbol_21 rfl rfl ?_
        refine aw_callS (c_L_isNameLength G _ k) m_L_isNameLength ml_L_130 rfl rfl (by decide) (by decide) (Nat.le_of_ble_eq_true rfl) d_L_symbol_22 ?_
        rintro v h ⟨rfl, rfl⟩
        refine aw_if_ne (tgt := 30) d_L_symbol_25 (by decide) (fun c25 => ?_) (fun c25 => ?_)
        · refine aw_iload d_L_symbol_30 rfl ?_
          refine aw_if_lt (tgt := 49) d_L_symbol_32 (by decide) (fun c32 => ?_) (fun c32 => ?_)
          · refine aw_iconst (v := (-1)) d_L_symbol_49 (by decide) ?_
            refine aw_iret ?_ rfl d_L_symbol_50
            have hok : ¬ mSymOk s U S (mFst e U) w k mk a p l := fun q => absurd q.1.2.2.1.1 (Int32.not_le.mpr c32)
            exact ⟨by rw [pIf_f hok], Or.inr ⟨hok, ⟨c, hR, hJ, hKi, hKn, hKf, hKb, hRm.dn⟩⟩, lawF.rf _ _ _⟩
          · refine aw_iload d_L_symbol_35 rfl ?_
            refine aw_iconst (v := 3) d_L_symbol_37 (by decide) ?_
            refine aw_icmp_gt (tgt := 49) d_L_symbol_38 (by decide) (fun c38 => ?_) (fun c38 => ?_)
            · refine aw_iconst (v := (-1)) d_L_symbol_49 (by decide) ?_
              refine aw_iret ?_ rfl d_L_symbol_50
              have hok : ¬ mSymOk s U S (mFst e U) w k mk a p l := fun q => absurd q.1.2.2.1.2 (Int32.not_le.mpr c38)
              exact ⟨by rw [pIf_f hok], Or.inr ⟨hok, ⟨c, hR, hJ, hKi, hKn, hKf, hKb, hRm.dn⟩⟩, lawF.rf _ _ _⟩
            · refine aw_iload d_L_symbol_41 rfl ?_
              refine aw_callS (c_L_isLine G _ l) m_L_isLine ml_L_133 rfl rfl (by decide) (by decide) (Nat.le_of_ble_eq_true rfl) d_L_symbol_43 ?_
              rintro v h ⟨rfl, rfl⟩
              refine aw_if_ne (tgt := 51) d_L_symbol_46 (by decide) (fun c46 => ?_) (fun c46 => ?_)
              · refine aw_aloadV_n d_L_symbol_51 rfl rfl (by first | exact Or.inl ⟨_, rfl⟩ | exact Or.inr rfl | exact rv_Q _) ?_
                refine aw_iload d_L_symbol_52 rfl ?_
                refine aw_callV (c_L_latestSection G _ o c hR s e U S W T hJ hy.2.1 a) cl_L hR.obj m_L_latestSection ml_L_107 rfl rfl (by decide) (by decide) (Nat.le_of_ble_eq_true rfl) d_L_symbol_54 ?_
                rintro v h ⟨rfl, rfl⟩
                rw [hx]
                refine aw_astoreV d_L_symbol_57 (by decide) (by first | exact Or.inl ⟨_, rfl⟩ | exact Or.inr rfl | exact rv_Q _) (by dsimp only [List.set]) ?_
                refine aw_iload d_L_symbol_59 rfl ?_
                refine aw_iconst (v := (-1)) d_L_symbol_61 (by decide) ?_
                refine aw_icmp_eq (tgt := 82) d_L_symbol_62 (by decide) (fun c62 => ?_) (fun c62 => ?_)
                · have hS8 : S < 2048 := (nI_ltI (by omega) (by decide)).mp (Int32.not_le.mp c18)
                  have hm := i32_03 (Int32.not_lt.mp c32) (Int32.not_lt.mp c38)
                  have hr : (if a < 0 then none else some (cQ c.2.2.2.2 (4 * (U - 1) + iN a)) : Option Nat) = none := if_pos (by rw [c62]; decide)
                  refine aw_ls (ls' := [some (.ref o), some (.long w), none, some (.int k), some (.int mk), some (.int a), some (.int p), some (.int l), some (.ref (c.2.2.2.2.1 0 (U - 1))), some (va_rf (if a < 0 then none else some (cQ c.2.2.2.2 (4 * (U - 1) + iN a)))), none]) (by rw [hr]; rfl) ?_
                  have hr1 := hRm.1
                  have hr2 := hRm.2
                  have eF : mFst e U = e 16 (U - 1) := by rw [mFst, if_pos hU0]
                  refine t_L_symbol2 hR s e U S W T hJ hU0 hS8 hKn.2.2 w k mk a p l (zI_t c25).2 hm _ (by rw [hG]; omega) (by omega) (fun hd => ?_) (fun hd c2 h2 h3 i hcc hi hw hk2 hN2 hJ2 hR2 hFr e1 e2 => ?_)
                  · have hok : ¬ mSymOk s U S (mFst e U) w k mk a p l := fun q => q.2.2 (by rw [eF]; exact hd)
                    exact ⟨by rw [pIf_f hok], Or.inr ⟨hok, ⟨c, hR, hJ, hKi, hKn, hKf, hKb, hRm.dn⟩⟩, lawF.rf _ _ _⟩
                  · have hok : mSymOk s U S (mFst e U) w k mk a p l := ⟨⟨hU0, zI_t c25, ⟨Int32.not_lt.mp c32, Int32.not_lt.mp c38⟩, ⟨by rw [c62]; decide, by rw [c62]; decide⟩, zI_t c46, hS8⟩, Or.inl (by rw [c62]; decide), by rw [eF]; exact hd⟩
                    refine ⟨?_, Or.inl ⟨hok, ?_⟩, ⟨fun q hq => hFr _ (by omega) (by omega), hFr _ (by omega) (by omega)⟩⟩
                    · rw [pIf_t hok, eF, pk_sub]
                      have := hJ.eb (j := U - 1) (by omega)
                      have := hJ.ee (j := U - 1) (by omega)
                      omega
                    · have hRm2 : cRm o n h2 := ⟨by omega, by omega⟩
                      rcases hcc with rfl | rfl
                      · exact ⟨_, hR2, hJ2.addS hy.i4 hU0 i w k mk a p l hw hk2 (zI_t c46).1, hKi, ⟨hKn.1, hKn.2.1, hN2⟩, hKf, hKb, hRm2⟩
                      · exact ⟨_, hR2, hJ2.addS hy.i4 hU0 i w k mk a p l hw hk2 (zI_t c46).1, hKi, ⟨hKn.1, hKn.2.1, hN2⟩, hKf, hKb, hRm2⟩
                · refine aw_aloadV d_L_symbol_65 rfl (by first | exact Or.inl ⟨_, rfl⟩ | exact Or.inr rfl | exact rv_Q _) ?_
                  refine aw_ifnullN (tgt := 80) d_L_symbol_67 (by decide) ?_
                  refine aw_iconst (v := (-1)) d_L_symbol_80 (by decide) ?_
                  refine aw_iret ?_ rfl d_L_symbol_81
                  have hok : ¬ mSymOk s U S (mFst e U) w k mk a p l := fun q => hk ⟨hU0, Classical.byContradiction (fun z => c62 (i32_neg1 q.1.2.2.2.1.1 z)), q.1.2.2.2.1.2⟩
                  exact ⟨by rw [pIf_f hok], Or.inr ⟨hok, ⟨c, hR, hJ, hKi, hKn, hKf, hKb, hRm.dn⟩⟩, lawF.rf _ _ _⟩
              · refine aw_iconst (v := (-1)) d_L_symbol_49 (by decide) ?_
                refine aw_iret ?_ rfl d_L_symbol_50
                have hok : ¬ mSymOk s U S (mFst e U) w k mk a p l := fun q => zI_f c46 q.1.2.2.2.2.1
                exact ⟨by rw [pIf_f hok], Or.inr ⟨hok, ⟨c, hR, hJ, hKi, hKn, hKf, hKb, hRm.dn⟩⟩, lawF.rf _ _ _⟩
        · refine aw_iconst (v := (-1)) d_L_symbol_28 (by decide) ?_
          refine aw_iret ?_ rfl d_L_symbol_29
          have hok : ¬ mSymOk s U S (mFst e U) w k mk a p l := fun q => zI_f c25 q.1.2.1
          exact ⟨by rw [pIf_f hok], Or.inr ⟨hok, ⟨c, hR, hJ, hKi, hKn, hKf, hKb, hRm.dn⟩⟩, lawF.rf _ _ _⟩
  · have hxU : va_rf (cOp (0 < U) (c.2.2.2.2.1 0 (U - 1))) = .null := by rw [cOp_f hU0]; rfl
    have hok : ¬ mSymOk s U S (mFst e U) w k mk a p l := fun q => hU0 q.1.1
    refine aw_aloadV_n d_L_symbol_0 rfl rfl (by first | exact Or.inl ⟨_, rfl⟩ | exact Or.inr rfl | exact rv_Q _) ?_
    refine aw_callV (c_L_latestUnit G _ o c hR s e U S W T hJ hy.2.1) cl_L hR.obj m_L_latestUnit ml_L_126 rfl rfl (by decide) (by decide) (Nat.le_of_ble_eq_true rfl) d_L_symbol_1 ?_
    rintro v h ⟨rfl, rfl⟩
    rw [hxU]
    refine aw_astoreV d_L_symbol_4 (by decide) (by first | exact Or.inl ⟨_, rfl⟩ | exact Or.inr rfl | exact rv_Q _) (by dsimp only [List.set]) ?_
    refine aw_aloadV d_L_symbol_6 rfl (by first | exact Or.inl ⟨_, rfl⟩ | exact Or.inr rfl | exact rv_Q _) ?_
    refine aw_ifnullN (tgt := 28) d_L_symbol_8 (by decide) ?_
    refine aw_iconst (v := (-1)) d_L_symbol_28 (by decide) ?_
    refine aw_iret ?_ rfl d_L_symbol_29
    exact ⟨by rw [pIf_f hok], Or.inr ⟨hok, ⟨c, hR, hJ, hKi, hKn, hKf, hKb, hRm.dn⟩⟩, lawF.rf _ _ _⟩
