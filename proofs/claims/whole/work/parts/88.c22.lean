theorem cFl.congr {s : mSt} {e : Nat → Nat → Nat} {S U : Nat} {A : cG} {I : Nat → Nat → Int32} {tk tk2 : Nat → Int32} (h : cFl s e S A I tk) (h2 : ∀ k, k < S → e 11 k < U) (ht : ∀ u, u < U → tk u = tk2 u) : cFl s e S A I tk2 := by
  have key : ∀ i k, k < S → (cOf e A tk i k ↔ cOf e A tk2 i k) := fun i k hk => by rw [cOf, cOf, ht _ (h2 k hk)]
  intro i hi
  refine ⟨(h i hi).1.trans (zP_i ?_), (h i hi).2.trans (zP_i ?_)⟩
  · exact exists_congr (fun k => and_congr_right (fun hk => and_congr_left' (key i k hk)))
  · exact exists_congr (fun k => and_congr_right (fun hk => and_congr_left' (key i k hk)))
set_option maxRecDepth 20000 in
theorem l_L_first {G : ax_G} {x : ax_X} {h0 : ax_H} {P : Option Value → ax_H → Prop} {o : Nat} {c : cSt} {h : ax_H} (hR : cR o c h) (s : mSt) (e : Nat → Nat → Nat) (U S W T : Nat) (hJ : cJ c s e U S W T) (hSb : S ≤ 2048) (hUb : U ≤ 32) (tk : Nat → Int32) (hf : cFl s e S c.2.2.2.2 c.2.1 tk) (ht : ∀ u, u < U → c.2.1 23 u = tk u) (hp : P (some (va_rf ((mFind (mWants tk (mT s e S) (e 16)) U 0).map (c.2.2.2.2.1 0)))) h) : ∀ r u o2, u + r = U → mFind (mWants tk (mT s e S) (e 16)) U 0 = mFind (mWants tk (mT s e S) (e 16)) r u → AW G x Y_L_firstWantedUnit 2 42 h0 P h 2 [some (.ref o), some (.int (nI u)), o2] [] := by
  intro r
  induction r with
  | zero =>
    intro u o2 hu he
    refine aw_iload_n d_L_firstWantedUnit_2 rfl rfl ?_
    refine aw_aloadV_n d_L_firstWantedUnit_3 rfl rfl (by first | exact Or.inl ⟨_, rfl⟩ | exact Or.inr rfl | exact rv_Q _) ?_
    refine aw_getE cl_L fl_L_62 (by decide) hR.obj rfl (congrArg Value.int hJ.sU) d_L_firstWantedUnit_4 ?_
    refine aw_icmp_ge (tgt := 39) d_L_firstWantedUnit_7 (by decide) (fun c7 => ?_) (fun c7 => ?_)
    · refine aw_null d_L_firstWantedUnit_39 ?_
      refine aw_aret (r := none) ?_ rfl (by first | exact Or.inl ⟨_, rfl⟩ | exact Or.inr ⟨_, rfl⟩) d_L_firstWantedUnit_40
      rw [he] at hp
      exact hp
    · exact absurd (nI_le (show U ≤ u by omega) (by omega)) c7
  | succ r ih =>
    intro u o2 hu he
    have huU : u < U := by omega
    refine aw_iload_n d_L_firstWantedUnit_2 rfl rfl ?_
    refine aw_aloadV_n d_L_firstWantedUnit_3 rfl rfl (by first | exact Or.inl ⟨_, rfl⟩ | exact Or.inr rfl | exact rv_Q _) ?_
    refine aw_getE cl_L fl_L_62 (by decide) hR.obj rfl (congrArg Value.int hJ.sU) d_L_firstWantedUnit_4 ?_
    refine aw_icmp_ge (tgt := 39) d_L_firstWantedUnit_7 (by decide) (fun c7 => ?_) (fun c7 => ?_)
    · exact absurd c7 (nI_ge (by omega) (by omega))
    · refine aw_aloadV_n d_L_firstWantedUnit_10 rfl rfl (by first | exact Or.inl ⟨_, rfl⟩ | exact Or.inr rfl | exact rv_Q _) ?_
      refine aw_get cl_L fl_L_11 (by decide) hR.obj rfl d_L_firstWantedUnit_11 ?_
      refine aw_iload_n d_L_firstWantedUnit_14 rfl rfl ?_
      refine aC_l1 hR rfl (show u < 32 by omega) (hJ.rU huU) d_L_firstWantedUnit_15 ?_
      refine aw_astoreV_n d_L_firstWantedUnit_16 rfl (by decide) (by first | exact Or.inl ⟨_, rfl⟩ | exact Or.inr rfl | exact rv_Q _) (by dsimp only [List.set]) ?_
      refine aw_aloadV_n d_L_firstWantedUnit_17 rfl rfl (by first | exact Or.inl ⟨_, rfl⟩ | exact Or.inr rfl | exact rv_Q _) ?_
      refine aw_getE cl_Unit fl_L_289 (by decide) (hR.unit (hJ.hu huU)) rfl (congrArg Value.int (ht u huU)) d_L_firstWantedUnit_18 ?_
      refine aw_if_ne (tgt := 33) d_L_firstWantedUnit_21 (by decide) (fun c21 => ?_) (fun c21 => ?_)
      · refine aw_iinc (v := nI (u + 1)) d_L_firstWantedUnit_33 rfl (ax_inc u) (by decide) (by dsimp only [List.set]) ?_
        refine aw_goto (tgt := 2) d_L_firstWantedUnit_36 (by decide) ?_
        refine ih (u + 1) _ (by omega) (he.trans (mFind_f (fun q => c21 q.1)))
      · refine aw_aloadV_n d_L_firstWantedUnit_24 rfl rfl (by first | exact Or.inl ⟨_, rfl⟩ | exact Or.inr rfl | exact rv_Q _) ?_
        refine aw_callV (c_Unit_isWanted G _ o c hR s e U S W T hJ huU hSb tk hf) cl_Unit (hR.unit (hJ.hu huU)) m_Unit_isWanted ml_L_301 rfl rfl (by decide) (by decide) (Nat.le_of_ble_eq_true rfl) d_L_firstWantedUnit_25 ?_
        rintro v h ⟨rfl, rfl⟩
        refine aw_if_eq (tgt := 33) d_L_firstWantedUnit_28 (by decide) (fun c28 => ?_) (fun c28 => ?_)
        · refine aw_iinc (v := nI (u + 1)) d_L_firstWantedUnit_33 rfl (ax_inc u) (by decide) (by dsimp only [List.set]) ?_
          refine aw_goto (tgt := 2) d_L_firstWantedUnit_36 (by decide) ?_
          refine ih (u + 1) _ (by omega) (he.trans (mFind_f (fun q => zP_f c28 q.2)))
        · refine aw_aloadV_n d_L_firstWantedUnit_31 rfl rfl (by first | exact Or.inl ⟨_, rfl⟩ | exact Or.inr rfl | exact rv_Q _) ?_
          refine aw_aret (r := some (c.2.2.2.2.1 0 u)) ?_ rfl (by first | exact Or.inl ⟨_, rfl⟩ | exact Or.inr ⟨_, rfl⟩) d_L_firstWantedUnit_32
          rw [he, mFind_t ⟨c21, zP_t c28⟩] at hp
          exact hp
set_option maxRecDepth 20000 in
theorem c_L_first (G : ax_G) (h : ax_H) (o : Nat) (c : cSt) (hR : cR o c h) (s : mSt) (e : Nat → Nat → Nat) (U S W T : Nat) (hJ : cJ c s e U S W T) (hSb : S ≤ 2048) (hUb : U ≤ 32) (tk : Nat → Int32) (hf : cFl s e S c.2.2.2.2 c.2.1 tk) (ht : ∀ u, u < U → c.2.1 23 u = tk u) : AM G Y_L_firstWantedUnit 2 42 [.ref o] h (fun v h2 => h2 = h ∧ v = some (va_rf ((mFind (mWants tk (mT s e S) (e 16)) U 0).map (c.2.2.2.2.1 0)))) := by
  refine aw_enter (by decide) (Nat.le_of_ble_eq_true rfl) (n := 2) (ls := [some (.ref o), none, none]) rfl (fun x => ?_)
  refine aw_iconst (v := 0) d_L_firstWantedUnit_0 (by decide) ?_
  refine aw_istore_n d_L_firstWantedUnit_1 rfl (by decide) (by dsimp only [List.set]) ?_
  exact l_L_first hR s e U S W T hJ hSb hUb tk hf ht ⟨rfl, rfl⟩ U 0 _ (by omega) rfl
theorem sub3 {F : Nat} (h : F ∈ [23, 30, 31]) : F ∈ [23, 30, 31, 44, 45] := by
  simp only [List.mem_cons, List.not_mem_nil, or_false] at h ⊢
  omega
set_option maxRecDepth 20000 in
theorem l_L_take3 {G : ax_G} {x : ax_X} {h0 : ax_H} {P : Option Value → ax_H → Prop} {o : Nat} {c : cSt} (s : mSt) (e : Nat → Nat → Nat) (U S W T : Nat) (hJ : cJ c s e U S W T) (hSb : S ≤ 2048) (hUb : U ≤ 32) (R : Nat → Nat → Option Nat) (hq : ax_H) (hn : ∀ i, i < c.2.2.2.2.2 1 → R 44 i = none ∧ R 45 i = none) (F : Nat → Int32) (hp : ∀ I h2, cR o (cM c I R) h2 → cIg [23, 30, 31, 44, 45] c I R → (∀ u, u < U → I 23 u = F u) → (∀ i, i < c.2.2.2.2.2 1 → R 44 i = none ∧ R 45 i = none) → cFr o (c.2.2.2.2.2 5) hq h2 → P none h2) : ∀ n r I tk h, r + n = 32 → cR o (cM c I R) h → cIg [23, 30, 31, 44, 45] c I R → (∀ u, u < U → I 23 u = tk u) → cFl s e S c.2.2.2.2 I tk → mTakeL (mT s e S) (e 16) U n tk = F → cFr o (c.2.2.2.2.2 5) hq h → AW G x Y_L_takeUnits 3 64 h0 P h 71 [some (.ref o), some (va_rf ((mFind (mWants tk (mT s e S) (e 16)) U 0).map (c.2.2.2.2.1 0))), some (.int (nI r))] [] := by
  intro n
  induction n with
  | zero =>
    intro r I tk h hr hR hg ht hf hF hFr
    have hr2 : r = 32 := by omega
    subst hr2
    refine aw_iload_n d_L_takeUnits_71 rfl rfl ?_
    refine aw_bipush (v := 32) d_L_takeUnits_72 (by decide) ?_
    refine aw_icmp_ge (tgt := 96) d_L_takeUnits_74 (by decide) (fun c74 => ?_) (fun c74 => ?_)
    · refine aw_vret ?_ rfl d_L_takeUnits_96
      exact hp I h hR hg (by rw [← hF]; exact ht) hn hFr
    · exact absurd (by decide) c74
  | succ n ih =>
    intro r I tk h hr hR hg ht hf hF hFr
    have hJ1 := hJ.m hg (by decide)
    cases ef : mFind (mWants tk (mT s e S) (e 16)) U 0 with
    | none =>
      have hx : (va_rf ((none : Option Nat).map (c.2.2.2.2.1 0))) = .null := rfl
      rw [hx]
      rw [mTakeL_n ef] at hF
      refine aw_iload_n d_L_takeUnits_71 rfl rfl ?_
      refine aw_bipush (v := 32) d_L_takeUnits_72 (by decide) ?_
      refine aw_icmp_ge (tgt := 96) d_L_takeUnits_74 (by decide) (fun c74 => ?_) (fun c74 => ?_)
      · exact absurd c74 (nI_ge (a := r) (b := 32) (by omega) (by decide))
      · refine aw_aloadV_n d_L_takeUnits_77 rfl rfl (by first | exact Or.inl ⟨_, rfl⟩ | exact Or.inr rfl | exact rv_Q _) ?_
        refine aw_ifnullN (tgt := 96) d_L_takeUnits_78 (by decide) ?_
        refine aw_vret ?_ rfl d_L_takeUnits_96
        exact hp I h hR hg (by rw [← hF]; exact ht) hn hFr
    | some u =>
      obtain ⟨-, u2, -, -⟩ := mFind_some _ _ _ ef
      have huU : u < U := by omega
      have hx : (va_rf ((some u : Option Nat).map (c.2.2.2.2.1 0))) = .ref (c.2.2.2.2.1 0 u) := rfl
      rw [hx]
      rw [mTakeL_s ef] at hF
      refine aw_iload_n d_L_takeUnits_71 rfl rfl ?_
      refine aw_bipush (v := 32) d_L_takeUnits_72 (by decide) ?_
      refine aw_icmp_ge (tgt := 96) d_L_takeUnits_74 (by decide) (fun c74 => ?_) (fun c74 => ?_)
      · exact absurd c74 (nI_ge (a := r) (b := 32) (by omega) (by decide))
      · refine aw_aloadV_n d_L_takeUnits_77 rfl rfl (by first | exact Or.inl ⟨_, rfl⟩ | exact Or.inr rfl | exact rv_Q _) ?_
        refine aw_ifnull d_L_takeUnits_78 ?_
        refine aw_aloadV_n d_L_takeUnits_81 rfl rfl (by first | exact Or.inl ⟨_, rfl⟩ | exact Or.inr rfl | exact rv_Q _) ?_
        refine aw_callV (c_Unit_take G _ o _ hR s e U S W T hJ1 huU hSb tk hf) cl_Unit (hR.unit (hJ1.hu huU)) m_Unit_take ml_L_295 rfl rfl (by decide) (by decide) (Nat.le_of_ble_eq_true rfl) d_L_takeUnits_82 ?_
        rintro v h2 ⟨rfl, I2, hR2, hg2, h23, hf2, hF2⟩
        have hg3 : cIg [23, 30, 31, 44, 45] c I2 R := ⟨fun F q => (hg2.1 F (fun z => q (sub3 z))).trans (hg.1 F q), hg.2⟩
        have hJ2 := hJ.m hg3 (by decide)
        have ht2 : ∀ v, v < U → I2 23 v = va_up tk u 1 v := fun v hv => by
          rw [h23]
          by_cases ev : v = u
          · rw [ev, va_up_self, va_up_self]
          · rw [va_up_ne _ _ ev, va_up_ne _ _ ev]; exact ht v hv
        refine aw_aloadV_n d_L_takeUnits_85 rfl rfl (by first | exact Or.inl ⟨_, rfl⟩ | exact Or.inr rfl | exact rv_Q _) ?_
        refine aw_callV (c_L_first G _ o (cM c I2 R) hR2 s e U S W T hJ2 hSb hUb (va_up tk u 1) hf2 ht2) cl_L hR2.obj m_L_firstWantedUnit ml_L_298 rfl rfl (by decide) (by decide) (Nat.le_of_ble_eq_true rfl) d_L_takeUnits_86 ?_
        rintro v h2 ⟨rfl, rfl⟩
        refine aw_astoreV_n d_L_takeUnits_89 rfl (by decide) (by first | exact Or.inl ⟨_, rfl⟩ | exact Or.inr rfl | exact rv_Q _) (by dsimp only [List.set]) ?_
        refine aw_iinc (v := nI (r + 1)) d_L_takeUnits_90 rfl (ax_inc r) (by decide) (by dsimp only [List.set]) ?_
        refine aw_goto (tgt := 71) d_L_takeUnits_93 (by decide) ?_
        exact ih (r + 1) I2 (va_up tk u 1) h2 (by omega) hR2 hg3 ht2 hf2 hF (hFr.tr hF2)
set_option maxRecDepth 20000 in
theorem l_L_take2 {G : ax_G} {x : ax_X} {h0 : ax_H} {P : Option Value → ax_H → Prop} {o : Nat} {c : cSt} (s : mSt) (e : Nat → Nat → Nat) (U S W T : Nat) (hJ : cJ c s e U S W T) (hSb : S ≤ 2048) (hUb : U ≤ 32) (R : Nat → Nat → Option Nat) (hq : ax_H) (hk : ∀ I h2 o1 o2, cR o (cM c I R) h2 → cIg [23, 30, 31, 44, 45] c I R → (∀ u, u < U → I 23 u = mTk0 (s.2.1 1) (fun _ => 0) U u) → cFl s e S c.2.2.2.2 I (mTk0 (s.2.1 1) (fun _ => 0) U) → cFr o (c.2.2.2.2.2 5) hq h2 → AW G x Y_L_takeUnits 3 64 h0 P h2 64 [some (.ref o), some (.int o1), o2] []) : ∀ r u I h o2, u + r = U → cR o (cM c I R) h → cIg [23, 30, 31, 44, 45] c I R → (∀ j, j < u → I 23 j = mTk0 (s.2.1 1) (fun _ => 0) u j) → cFl s e S c.2.2.2.2 I (mTk0 (s.2.1 1) (fun _ => 0) u) → cFr o (c.2.2.2.2.2 5) hq h → AW G x Y_L_takeUnits 3 64 h0 P h 27 [some (.ref o), some (.int (nI u)), o2] [] := by
  intro r
  induction r with
  | zero =>
    intro u I h o2 hu hR hg ht hf hF
    have huu : u = U := by omega
    subst huu
    have hJ1 := hJ.m hg (by decide)
    refine aw_iload_n d_L_takeUnits_27 rfl rfl ?_
    refine aw_aloadV_n d_L_takeUnits_28 rfl rfl (by first | exact Or.inl ⟨_, rfl⟩ | exact Or.inr rfl | exact rv_Q _) ?_
    refine aw_getE cl_L fl_L_62 (by decide) hR.obj rfl (congrArg Value.int hJ1.sU) d_L_takeUnits_29 ?_
    refine aw_icmp_ge (tgt := 64) d_L_takeUnits_32 (by decide) (fun c32 => ?_) (fun c32 => ?_)
    · exact hk I h _ _ hR hg ht hf hF
    · exact absurd (nI_le (Nat.le_refl _) (by omega)) c32
  | succ r ih =>
    intro u I h o2 hu hR hg ht hf hF
    have huU : u < U := by omega
    have hJ1 := hJ.m hg (by decide)
    have hs1 := mTk0_s (s.2.1 1) (fun _ => 0) u
    have h00 : mTk0 (s.2.1 1) (fun _ => 0) u u = 0 := by rw [mTk0, if_neg (by omega)]
    refine aw_iload_n d_L_takeUnits_27 rfl rfl ?_
    refine aw_aloadV_n d_L_takeUnits_28 rfl rfl (by first | exact Or.inl ⟨_, rfl⟩ | exact Or.inr rfl | exact rv_Q _) ?_
    refine aw_getE cl_L fl_L_62 (by decide) hR.obj rfl (congrArg Value.int hJ1.sU) d_L_takeUnits_29 ?_
    refine aw_icmp_ge (tgt := 64) d_L_takeUnits_32 (by decide) (fun c32 => ?_) (fun c32 => ?_)
    · exact absurd c32 (nI_ge (by omega) (by omega))
    · refine aw_aloadV_n d_L_takeUnits_35 rfl rfl (by first | exact Or.inl ⟨_, rfl⟩ | exact Or.inr rfl | exact rv_Q _) ?_
      refine aw_get cl_L fl_L_11 (by decide) hR.obj rfl d_L_takeUnits_36 ?_
      refine aw_iload_n d_L_takeUnits_39 rfl rfl ?_
      refine aC_l1 hR rfl (show u < 32 by omega) (hJ1.rU huU) d_L_takeUnits_40 ?_
      refine aw_astoreV_n d_L_takeUnits_41 rfl (by decide) (by first | exact Or.inl ⟨_, rfl⟩ | exact Or.inr rfl | exact rv_Q _) (by dsimp only [List.set]) ?_
      refine aw_aloadV_n d_L_takeUnits_42 rfl rfl (by first | exact Or.inl ⟨_, rfl⟩ | exact Or.inr rfl | exact rv_Q _) ?_
      refine aw_iconst (v := 0) d_L_takeUnits_43 (by decide) ?_
      refine aC_p23 hR (hJ1.hu huU) fl_L_289 rfl rfl d_L_takeUnits_44 (fun g44 hR44 hF44 => ?_)
      refine aw_aloadV_n d_L_takeUnits_47 rfl rfl (by first | exact Or.inl ⟨_, rfl⟩ | exact Or.inr rfl | exact rv_Q _) ?_
      refine aw_getE cl_Unit fl_L_292 (by decide) (hR44.unit (hJ1.hu huU)) rfl (show _ = Value.int (c.2.1 20 u) from congrArg Value.int (congrFun (hg.1 20 (by decide)) u)) d_L_takeUnits_48 ?_
      refine aw_if_ne (tgt := 58) d_L_takeUnits_51 (by decide) (fun c51 => ?_) (fun c51 => ?_)
      · refine aw_iinc (v := nI (u + 1)) d_L_takeUnits_58 rfl (ax_inc u) (by decide) (by dsimp only [List.set]) ?_
        refine aw_goto (tgt := 27) d_L_takeUnits_61 (by decide) ?_
        have hl : ¬ s.2.1 1 u = 0 := fun q => c51 ((hJ.lib huU).mpr q)
        rw [if_neg hl] at hs1
        have e0 : mTk0 (s.2.1 1) (fun _ => 0) (u + 1) = mTk0 (s.2.1 1) (fun _ => 0) u := by
          rw [← hs1]
          funext j
          by_cases ej : j = u
          · rw [ej, va_up_self, h00]
          · rw [va_up_ne _ _ ej]
        refine ih (u + 1) _ _ _ (by omega) hR44 (hg.i (F := 23) (by decide) _) (fun j hj => ?_) ?_ (hF.tr hF44)
        · show va_up (I 23) u 0 j = _
          rw [e0]
          by_cases ej : j = u
          · rw [ej, va_up_self, h00]
          · rw [va_up_ne _ _ ej]; exact ht j (by omega)
        · rw [e0]; exact hf
      · refine aw_aloadV_n d_L_takeUnits_54 rfl rfl (by first | exact Or.inl ⟨_, rfl⟩ | exact Or.inr rfl | exact rv_Q _) ?_
        refine aw_callV (c_Unit_take G _ o _ hR44 s e U S W T (hJ.m (hg.i (F := 23) (by decide) _) (by decide)) huU hSb (mTk0 (s.2.1 1) (fun _ => 0) u) hf) cl_Unit (hR44.unit (hJ1.hu huU)) m_Unit_take ml_L_295 rfl rfl (by decide) (by decide) (Nat.le_of_ble_eq_true rfl) d_L_takeUnits_55 ?_
        rintro v h2 ⟨rfl, I2, hR2, hg2, h23, hf2, hF2⟩
        have hl : s.2.1 1 u = 0 := (hJ.lib huU).mp c51
        have hg3 : cIg [23, 30, 31, 44, 45] c I2 R := ⟨fun F q => (hg2.1 F (fun z => q (sub3 z))).trans ((hg.i (F := 23) (by decide) _).1 F q), hg.2⟩
        refine aw_iinc (v := nI (u + 1)) d_L_takeUnits_58 rfl (ax_inc u) (by decide) (by dsimp only [List.set]) ?_
        refine aw_goto (tgt := 27) d_L_takeUnits_61 (by decide) ?_
        refine ih (u + 1) I2 _ _ (by omega) hR2 hg3 (fun j hj => ?_) ?_ ((hF.tr hF44).tr hF2)
        · rw [h23]
          show va_up (va_up (I 23) u 0) u 1 j = _
          rw [← hs1, if_pos hl]
          by_cases ej : j = u
          · rw [ej, va_up_self, va_up_self]
          · rw [va_up_ne _ _ ej, va_up_ne _ _ ej, va_up_ne _ _ ej]; exact ht j (by omega)
        · rw [← hs1, if_pos hl]; exact hf2
set_option maxRecDepth 20000 in
theorem l_L_take1 {G : ax_G} {x : ax_X} {h0 : ax_H} {P : Option Value → ax_H → Prop} {o : Nat} {c : cSt} (s : mSt) (e : Nat → Nat → Nat) (U S W T : Nat) (hJ : cJ c s e U S W T) (hSb : S ≤ 2048) (hq : ax_H) (hk : ∀ I R h2 o1, cR o (cM c I R) h2 → cIg [23, 30, 31, 44, 45] c I R → (∀ i, i < c.2.2.2.2.2 1 → (I 30 i = 0 ∧ I 31 i = 0) ∧ R 44 i = none ∧ R 45 i = none) → cFr o (c.2.2.2.2.2 5) hq h2 → AW G x Y_L_takeUnits 3 64 h0 P h2 25 [some (.ref o), some (.int o1), none] []) : ∀ r i I R h, i + r = c.2.2.2.2.2 1 → cR o (cM c I R) h → cIg [23, 30, 31, 44, 45] c I R → (∀ j, j < i → (I 30 j = 0 ∧ I 31 j = 0) ∧ R 44 j = none ∧ R 45 j = none) → cFr o (c.2.2.2.2.2 5) hq h → AW G x Y_L_takeUnits 3 64 h0 P h 2 [some (.ref o), some (.int (nI i)), none] [] := by
  have hNS := hJ.NS
  intro r
  induction r with
  | zero =>
    intro i I R h hi hR hg hz hF
    have hJ1 := hJ.m hg (by decide)
    refine aw_iload_n d_L_takeUnits_2 rfl rfl ?_
    refine aw_aloadV_n d_L_takeUnits_3 rfl rfl (by first | exact Or.inl ⟨_, rfl⟩ | exact Or.inr rfl | exact rv_Q _) ?_
    refine aw_getE cl_L fl_L_66 (by decide) hR.obj rfl (show _ = Value.int (nI (c.2.2.2.2.2 1)) from congrArg Value.int hJ1.sN) d_L_takeUnits_4 ?_
    refine aw_icmp_ge (tgt := 25) d_L_takeUnits_7 (by decide) (fun c7 => ?_) (fun c7 => ?_)
    · exact hk I R h _ hR hg (fun j hj => hz j (by omega)) hF
    · exact absurd (nI_le (show c.2.2.2.2.2 1 ≤ i by omega) (by omega)) c7
  | succ r ih =>
    intro i I R h hi hR hg hz hF
    have hJ1 := hJ.m hg (by decide)
    have hiN : i < c.2.2.2.2.2 1 := by omega
    refine aw_iload_n d_L_takeUnits_2 rfl rfl ?_
    refine aw_aloadV_n d_L_takeUnits_3 rfl rfl (by first | exact Or.inl ⟨_, rfl⟩ | exact Or.inr rfl | exact rv_Q _) ?_
    refine aw_getE cl_L fl_L_66 (by decide) hR.obj rfl (show _ = Value.int (nI (c.2.2.2.2.2 1)) from congrArg Value.int hJ1.sN) d_L_takeUnits_4 ?_
    refine aw_icmp_ge (tgt := 25) d_L_takeUnits_7 (by decide) (fun c7 => ?_) (fun c7 => ?_)
    · exact absurd c7 (nI_ge (by omega) (by omega))
    · refine aw_aloadV_n d_L_takeUnits_10 rfl rfl (by first | exact Or.inl ⟨_, rfl⟩ | exact Or.inr rfl | exact rv_Q _) ?_
      refine aw_get cl_L fl_L_17 (by decide) hR.obj rfl d_L_takeUnits_11 ?_
      refine aw_iload_n d_L_takeUnits_14 rfl rfl ?_
      refine aC_l2 hR rfl (show i < 2048 by omega) (hJ1.rN hiN) d_L_takeUnits_15 ?_
      refine aw_callV (c_Name_forget G _ o _ hR hiN) cl_Name (hR.name hiN) m_Name_forget ml_L_286 rfl rfl (by decide) (by decide) (Nat.le_of_ble_eq_true rfl) d_L_takeUnits_16 ?_
      rintro v h2 ⟨rfl, hR2, hF2⟩
      refine aw_iinc (v := nI (i + 1)) d_L_takeUnits_19 rfl (ax_inc i) (by decide) (by dsimp only [List.set]) ?_
      refine aw_goto (tgt := 2) d_L_takeUnits_22 (by decide) ?_
      refine ih (i + 1) _ _ _ (by omega) hR2 (((hg.i (F := 30) (by decide) _).i (F := 31) (by decide) _).r (F := 44) (by decide) _ |>.r (F := 45) (by decide) _) (fun j hj => ?_) (hF.tr hF2)
      show (va_up (I 30) i 0 j = 0 ∧ va_up (I 31) i 0 j = 0) ∧ va_up (R 44) i none j = none ∧ va_up (R 45) i none j = none
      by_cases ej : j = i
      · rw [ej, va_up_self, va_up_self, va_up_self, va_up_self]; exact ⟨⟨rfl, rfl⟩, rfl, rfl⟩
      · rw [va_up_ne _ _ ej, va_up_ne _ _ ej, va_up_ne _ _ ej, va_up_ne _ _ ej]; exact hz j (by omega)
set_option maxRecDepth 20000 in
theorem c_L_takeUnits (G : ax_G) (h : ax_H) (o : Nat) (c : cSt) (hR : cR o c h) (s : mSt) (e : Nat → Nat → Nat) (U S W T : Nat) (hJ : cJ c s e U S W T) (hSb : S ≤ 2048) (hUb : U ≤ 32) (h2U : ∀ k, k < S → e 11 k < U) : AM G Y_L_takeUnits 3 64 [.ref o] h (fun v h2 => v = none ∧ ∃ I R, cR o (cM c I R) h2 ∧ cIg [23, 30, 31, 44, 45] c I R ∧ (∀ u, u < U → I 23 u = mTake s e U S u) ∧ (∀ i, i < c.2.2.2.2.2 1 → R 44 i = none ∧ R 45 i = none) ∧ cFr o (c.2.2.2.2.2 5) h h2) := by
  refine aw_enter (by decide) (Nat.le_of_ble_eq_true rfl) (n := 2) (ls := [some (.ref o), none, none]) rfl (fun x => ?_)
  refine aw_iconst (v := 0) d_L_takeUnits_0 (by decide) ?_
  refine aw_istore_n d_L_takeUnits_1 rfl (by decide) (by dsimp only [List.set]) ?_
  refine l_L_take1 s e U S W T hJ hSb h (fun I R h2 o1 hR2 hg hz hF => ?_) (c.2.2.2.2.2 1) 0 _ _ _ (by omega) hR (cIg.rf _ c) (fun j hj => absurd hj (by omega)) (cFr.rf _ _ _)
  refine aw_iconst (v := 0) d_L_takeUnits_25 (by decide) ?_
  refine aw_istore_n d_L_takeUnits_26 rfl (by decide) (by dsimp only [List.set]) ?_
  refine l_L_take2 s e U S W T hJ hSb hUb R h (fun I3 h3 o1 o2 hR3 hg3 ht3 hf3 hF3 => ?_) U 0 I h2 _ (by omega) hR2 hg (fun j hj => absurd hj (by omega)) (fun i hi => ?_) hF
  have hJ3 := hJ.m hg3 (by decide)
  have ht4 : ∀ u, u < U → mTk0 (s.2.1 1) (fun _ => 0) U u = mTk0 (s.2.1 1) (s.2.1 3) U u := fun u hu => by rw [mTk0, mTk0, if_pos hu, if_pos hu]
  have hf4 := hf3.congr h2U ht4
  have ht5 : ∀ u, u < U → I3 23 u = mTk0 (s.2.1 1) (s.2.1 3) U u := fun u hu => (ht3 u hu).trans (ht4 u hu)
  refine aw_aloadV_n d_L_takeUnits_64 rfl rfl (by first | exact Or.inl ⟨_, rfl⟩ | exact Or.inr rfl | exact rv_Q _) ?_
  refine aw_callV (c_L_first G _ o (cM c I3 R) hR3 s e U S W T hJ3 hSb hUb _ hf4 ht5) cl_L hR3.obj m_L_firstWantedUnit ml_L_298 rfl rfl (by decide) (by decide) (Nat.le_of_ble_eq_true rfl) d_L_takeUnits_65 ?_
  rintro v h3 ⟨rfl, rfl⟩
  refine aw_astoreV_n d_L_takeUnits_68 rfl (by decide) (by first | exact Or.inl ⟨_, rfl⟩ | exact Or.inr rfl | exact rv_Q _) (by dsimp only [List.set]) ?_
  refine aw_iconst (v := 0) d_L_takeUnits_69 (by decide) ?_
  refine aw_istore_n d_L_takeUnits_70 rfl (by decide) (by dsimp only [List.set]) ?_
  exact l_L_take3 s e U S W T hJ hSb hUb R h (fun i hi => (hz i hi).2) _ (fun I4 h4 a1 a2 a3 a4 a5 => ⟨rfl, I4, R, a1, a2, a3, a4, a5⟩) 32 0 I3 _ h3 (by omega) hR3 hg3 ht5 hf4 rfl hF3
  · refine ⟨(hz i hi).1.2.trans (zP_0 ?_).symm, (hz i hi).1.1.trans (zP_0 ?_).symm⟩
    · rintro ⟨k, -, ⟨k1, -⟩, -⟩
      exact k1 (by rw [mTk0, if_neg (by omega)])
    · rintro ⟨k, -, ⟨k1, -⟩, -⟩
      exact k1 (by rw [mTk0, if_neg (by omega)])
