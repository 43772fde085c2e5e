theorem ml_W_61p : Cond.methodLink "SymbolLinkerLaw" 61 ⟨"SymbolLinkerLaw", "link", "(LSymbolLinker;[J)I"⟩ ∈ lw_tbl := (in_t_2 (List.mem_of_getElem? (i := 214) rfl))
theorem mLink_01 (s : mSt) (e : Nat → Nat → Nat) (U S W T : Nat) : (mLink s e U S W T).1.1 0 = 0 ∨ (mLink s e U S W T).1.1 0 = 1 := by
  rw [mLink, mLinkB]
  by_cases h : (mS3 (mS2 s e U S) e S).1 33 = 0
  · rw [if_pos h, mLinkA]
    by_cases h2 : (mS9 (mNd (mS3 (mS2 s e U S) e S) (mNeed (mS3 (mS2 s e U S) e S) e U S W (iN (mEnt (mS2 s e U S) e S)))) e U S W).1 33 = 0
    · rw [if_pos h2]
      exact Or.inl rfl
    · rw [if_neg h2]
      exact Or.inr rfl
  · rw [if_neg h]
    exact Or.inr rfl
theorem lawQ {C : lawP} {o m q : Nat} (hC : lawK C o m q) {s : mSt} {h : ax_H} (E : ax_E) (hR : mR m s h) : mR m s (ax_set h q E) := hR.kept (fun a h1 h2 => ax_get_ne _ (by have := hC.2.2.2.1; omega))
def lawLink (G : ax_G) (C : lawP) (o m q : Nat) : Prop := ∀ s e U S W T B n h, mInv s e U S W T B → mR m s h → C s e U S W T B (n + 1) h → ((mLink s e U S W T).1.1 0 = 0 → AM G Y_L_link 6 138 [.ref o] h (fun v h2 => v = some (.int (mLink s e U S W T).2) ∧ C (mLink s e U S W T).1 e U S W T B n h2 ∧ lawF m q h h2)) ∧ (¬ (mLink s e U S W T).1.1 0 = 0 → AT G Y_L_link 6 138 [.ref o] h (fun a h2 => (∃ fs, h2.2.2 a = some (.inr (9, fs))) ∧ C (mLink s e U S W T).1 e U S W T B n h2 ∧ lawF m q h h2))
set_option maxRecDepth 20000 in
theorem law_link {G : ax_G} {x : ax_X} {h0 : ax_H} {P : Option Value → ax_H → Prop} {nm : String} {C : lawP} {o m q b L : Nat} {xs : Nat → Int32} (hS : ax_S G b L xs) (hLb : L < 2 ^ 31) (hC : lawK C o m q) (i n : Nat) (hi : i + 9 ≤ L) (l5 l6 : Option Value) (hop : lawLink G C o m q) (h : ax_H) (hI : lawI C m q (n + 1) h) (hk : ∀ h2 l5 l6, lawI C m q n h2 → AW G x (lawY nm) 10 358 h0 P h2 904 [some (.ref b), some (.ref o), some (.ref m), some (.ref q), some (.int (nI i)), l5, l6] []) : AW G x (lawY nm) 10 358 h0 P h 623 [some (.ref b), some (.ref o), some (.ref m), some (.ref q), some (.int (nI i)), l5, l6] [] := by
  obtain ⟨s, e, U, S, W, T, B, f, iv, hR, hc, hq⟩ := hI
  obtain ⟨fs, ho⟩ := hC.1 _ _ _ _ _ _ _ _ _ hc
  obtain ⟨hop1, hop2⟩ := hop s e U S W T B n h iv hR hc
  by_cases ht : (mLink s e U S W T).1.1 0 = 0
  · first | refine aw_aload_n d_W_law_623 rfl rfl ?_ | refine aw_aload_nQ d_W_law_623 rfl rfl ?_ | refine aw_aload_nN d_W_law_623 rfl rfl ?_
    first | refine aw_aload_n d_W_law_624 rfl rfl ?_ | refine aw_aload_nQ d_W_law_624 rfl rfl ?_ | refine aw_aload_nN d_W_law_624 rfl rfl ?_
    refine aw_callSH (c_W_link G h o q ho f (fun r h1 => r = (mLink s e U S W T).2 ∧ C (mLink s e U S W T).1 e U S W T B n h1 ∧ lawF m q h h1) (am_mono (fun v h1 z => ⟨_, z.1, ⟨rfl, z.2.1, z.2.2⟩, z.2.2.2.trans hq⟩) (hop1 ht))) mh_W_link ml_W_61p rfl rfl (by decide) (by decide) (Nat.le_of_ble_eq_true rfl) d_W_law_625 ?_
    rintro v h2 ⟨rfl, r, h1, ⟨rfl, hc1, hF1⟩, hq1, rfl⟩
    have hR1 := lawQ hC (.inl (.long, 1, .inr (.inl (va_up f 0 (mLink s e U S W T).2.toInt64)))) (hF1.m hR)
    refine aw_istore d_W_law_628 (Nat.le_of_ble_eq_true rfl) rfl ?_
    first | refine aw_aload_n d_W_law_630 rfl rfl ?_ | refine aw_aload_nQ d_W_law_630 rfl rfl ?_ | refine aw_aload_nN d_W_law_630 rfl rfl ?_
    refine aw_callV (c_M_link G _ m s hR1 e U S W T B iv.1) cl_M hR1.obj m_M_link ml_W_66 rfl rfl (by decide) (by decide) (Nat.le_of_ble_eq_true rfl) d_W_law_631 ?_
    rintro v h3 ⟨rfl, hR3, hF3⟩
    have hq3 : h3.2.2 q = some (.inl (.long, 1, .inr (.inl (va_up f 0 (mLink s e U S W T).2.toInt64)))) := (hF3.2.2 q hC.2.2.2.1).trans (ax_get_self _ _)
    refine aw_istore d_W_law_634 (Nat.le_of_ble_eq_true rfl) rfl ?_
    first | refine aw_aload_n d_W_law_636 rfl rfl ?_ | refine aw_aload_nQ d_W_law_636 rfl rfl ?_ | refine aw_aload_nN d_W_law_636 rfl rfl ?_
    refine aw_callV (c_M_thrown G _ m _ hR3) cl_M hR3.obj m_M_thrown ml_W_67 rfl rfl (by decide) (by decide) (Nat.le_of_ble_eq_true rfl) d_W_law_637 ?_
    rintro v h' ⟨rfl, rfl⟩
    refine aw_iload d_W_law_640 rfl ?_
    refine aw_icmp_eq (tgt := 647) d_W_law_642 (by decide) (fun c642 => ?_) (fun c642 => ?_)
    · refine aw_iload d_W_law_647 rfl ?_
      refine aw_if_ne (tgt := 664) d_W_law_649 (by decide) (fun c649 => ?_) (fun c649 => ?_)
      · exact absurd rfl c649
      · first | refine aw_aload_n d_W_law_652 rfl rfl ?_ | refine aw_aload_nQ d_W_law_652 rfl rfl ?_ | refine aw_aload_nN d_W_law_652 rfl rfl ?_
        refine aw_iconst (v := 0) d_W_law_653 (by decide) ?_
        refine aw_lald hq3 (nI_in (c := 0) (N := 1) (by decide) (by decide)) d_W_law_654 ?_
        refine aw_iload d_W_law_655 rfl ?_
        refine aw_i2l d_W_law_657 ?_
        refine aw_lcmp d_W_law_658 ?_
        refine aw_if_eq (tgt := 664) d_W_law_659 (by decide) (fun c659 => ?_) (fun c659 => ?_)
        · refine aw_goto (tgt := 904) d_W_law_664 (by decide) ?_
          exact hk _ _ _ ⟨_, e, U, S, W, T, B, _, iv.link, hR3, hC.2.1 _ _ _ _ _ _ _ _ _ _ hF3 (hC.2.2.2.2 _ _ _ _ _ _ _ _ _ _ hc1), hq3⟩
        · exact absurd ((lg_cmp_eq _ _).mpr rfl) c659
    · exact absurd ht c642
  · first | refine aw_aload_n d_W_law_623 rfl rfl ?_ | refine aw_aload_nQ d_W_law_623 rfl rfl ?_ | refine aw_aload_nN d_W_law_623 rfl rfl ?_
    first | refine aw_aload_n d_W_law_624 rfl rfl ?_ | refine aw_aload_nQ d_W_law_624 rfl rfl ?_ | refine aw_aload_nN d_W_law_624 rfl rfl ?_
    refine aw_callSH (c_W_linkT G h o q ho _ (fun a h1 z => z.1) (hop2 ht)) mh_W_link ml_W_61p rfl rfl (by decide) (by decide) (Nat.le_of_ble_eq_true rfl) d_W_law_625 ?_
    rintro v h1 ⟨rfl, a, hfa, hc1, hF1⟩
    have hR1 := hF1.m hR
    have ht := (mLink_01 s e U S W T).resolve_left ht
    refine aw_istore d_W_law_628 (Nat.le_of_ble_eq_true rfl) rfl ?_
    first | refine aw_aload_n d_W_law_630 rfl rfl ?_ | refine aw_aload_nQ d_W_law_630 rfl rfl ?_ | refine aw_aload_nN d_W_law_630 rfl rfl ?_
    refine aw_callV (c_M_link G _ m s hR1 e U S W T B iv.1) cl_M hR1.obj m_M_link ml_W_66 rfl rfl (by decide) (by decide) (Nat.le_of_ble_eq_true rfl) d_W_law_631 ?_
    rintro v h3 ⟨rfl, hR3, hF3⟩
    refine aw_istore d_W_law_634 (Nat.le_of_ble_eq_true rfl) rfl ?_
    first | refine aw_aload_n d_W_law_636 rfl rfl ?_ | refine aw_aload_nQ d_W_law_636 rfl rfl ?_ | refine aw_aload_nN d_W_law_636 rfl rfl ?_
    refine aw_callV (c_M_thrown G _ m _ hR3) cl_M hR3.obj m_M_thrown ml_W_67 rfl rfl (by decide) (by decide) (Nat.le_of_ble_eq_true rfl) d_W_law_637 ?_
    rintro v h' ⟨rfl, rfl⟩
    refine aw_iload d_W_law_640 rfl ?_
    refine aw_icmp_eq (tgt := 647) d_W_law_642 (by decide) (fun c642 => ?_) (fun c642 => ?_)
    · refine aw_iload d_W_law_647 rfl ?_
      refine aw_if_ne (tgt := 664) d_W_law_649 (by decide) (fun c649 => ?_) (fun c649 => ?_)
      · refine aw_goto (tgt := 904) d_W_law_664 (by decide) ?_
        exact hk _ _ _ ⟨_, e, U, S, W, T, B, f, iv.link, hR3, hC.2.1 _ _ _ _ _ _ _ _ _ _ hF3 hc1, (hF3.2.2 q hC.2.2.2.1).trans (hF1.2.trans hq)⟩
      · exact absurd c649 (by decide)
    · exact absurd ht c642
