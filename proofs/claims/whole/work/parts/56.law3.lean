theorem c_M_lineE (G : ax_G) (h : ax_H) (m : Nat) (s : mSt) (hR : mR m s h) {e : Nat → Nat → Nat} {U S W T B : Nat} (iv : mInv s e U S W T B) (a : Int32) : AM G Y_M_line 0 0 [.ref m, .int a] h (fun v h2 => v = some (.int (mLine s a (iN (s.1 43)))) ∧ mR m (va_up s.1 0 0, s.2) h2 ∧ mFr m h h2) := by
  obtain ⟨K, hKb, hK⟩ := iv.2.2.2.2
  rw [show iN (s.1 43) = K by rw [hK, iN, nI_clamp (by omega)]]
  exact c_M_line G h m s hR K hK hKb a
def lawFault (G : ax_G) (C : lawP) (o m q : Nat) : Prop := ∀ s e U S W T B n h (a : Int32), mInv s e U S W T B → mR m s h → C s e U S W T B (n + 1) h → AM G Y_L_fault 0 0 [.ref o, .int a] h (fun v h2 => v = some (.int (mFault s a)) ∧ C s e U S W T B n h2 ∧ lawF m q h h2)
set_option maxRecDepth 20000 in
theorem law_fault {G : ax_G} {x : ax_X} {h0 : ax_H} {P : Option Value → ax_H → Prop} {nm : String} {C : lawP} {o m q b L : Nat} {xs : Nat → Int32} (hS : ax_S G b L xs) (hLb : L < 2 ^ 31) (hC : lawK C o m q) (i n : Nat) (hi : i + 9 ≤ L) (l5 l6 : Option Value) (hop : lawFault G C o m q) (h : ax_H) (hI : lawI C m q (n + 1) h) (hk : ∀ h2, lawI C m q n h2 → AW G x (lawY nm) 10 358 h0 P h2 904 [some (.ref b), some (.ref o), some (.ref m), some (.ref q), some (.int (nI i)), l5, l6] []) : AW G x (lawY nm) 10 358 h0 P h 667 [some (.ref b), some (.ref o), some (.ref m), some (.ref q), some (.int (nI i)), l5, l6] [] := by
  obtain ⟨s, e, U, S, W, T, B, f, iv, hR, hc, hq⟩ := hI
  obtain ⟨fs, ho⟩ := hC.1 _ _ _ _ _ _ _ _ _ hc
  first | refine aw_aload_n d_W_law_667 rfl rfl ?_ | refine aw_aload_nQ d_W_law_667 rfl rfl ?_ | refine aw_aload_nN d_W_law_667 rfl rfl ?_
  first | refine aw_aload_n d_W_law_668 rfl rfl ?_ | refine aw_aload_nQ d_W_law_668 rfl rfl ?_ | refine aw_aload_nN d_W_law_668 rfl rfl ?_
  refine aw_iload d_W_law_669 rfl ?_
  refine aw_iconst (v := 1) d_W_law_671 (by decide) ?_
  refine aw_iadd d_W_law_672 ?_
  refine aw_sld hS (show nI i + 1 = nI (i + 1) from nI_add i 1) (show i + 1 < L by omega) hLb d_W_law_673 ?_
  refine aw_callV (hop s e U S W T B n h _ iv hR hc) cl_L ho m_L_fault ml_W_70 rfl rfl (by decide) (by decide) (Nat.le_of_ble_eq_true rfl) d_W_law_674 ?_
  rintro v h1 ⟨rfl, hc1, hF1⟩
  have hR1 := hF1.m hR
  first | refine aw_aload_n d_W_law_677 rfl rfl ?_ | refine aw_aload_nQ d_W_law_677 rfl rfl ?_ | refine aw_aload_nN d_W_law_677 rfl rfl ?_
  first | refine aw_aload_n d_W_law_678 rfl rfl ?_ | refine aw_aload_nQ d_W_law_678 rfl rfl ?_ | refine aw_aload_nN d_W_law_678 rfl rfl ?_
  refine aw_iload d_W_law_679 rfl ?_
  refine aw_iconst (v := 1) d_W_law_681 (by decide) ?_
  refine aw_iadd d_W_law_682 ?_
  refine aw_sld hS (show nI i + 1 = nI (i + 1) from nI_add i 1) (show i + 1 < L by omega) hLb d_W_law_683 ?_
  refine aw_callV (c_M_fault G _ m s hR1 _) cl_M hR1.obj m_M_fault ml_W_74 rfl rfl (by decide) (by decide) (Nat.le_of_ble_eq_true rfl) d_W_law_684 ?_
  rintro v h2 ⟨rfl, hR2, hF2⟩
  refine aw_icmp_eq (tgt := 904) d_W_law_687 (by decide) (fun c687 => ?_) (fun c687 => ?_)
  · exact hk h2 ⟨_, e, U, S, W, T, B, f, iv.ret 0, hR2, hC.2.1 _ _ _ _ _ _ _ _ _ _ hF2 (hC.2.2.1 _ _ _ _ _ _ _ _ _ 0 hc1), (hF2.2.2 q hC.2.2.2.1).trans (hF1.2.trans hq)⟩
  · exact absurd rfl c687
def lawNeeded (G : ax_G) (C : lawP) (o m q : Nat) : Prop := ∀ s e U S W T B n h (u a : Int32), mInv s e U S W T B → mR m s h → C s e U S W T B (n + 1) h → AM G Y_L_needed 1 21 [.ref o, .int u, .int a] h (fun v h2 => v = some (.int (mNeeded s u a)) ∧ C s e U S W T B n h2 ∧ lawF m q h h2)
set_option maxRecDepth 20000 in
theorem law_needed {G : ax_G} {x : ax_X} {h0 : ax_H} {P : Option Value → ax_H → Prop} {nm : String} {C : lawP} {o m q b L : Nat} {xs : Nat → Int32} (hS : ax_S G b L xs) (hLb : L < 2 ^ 31) (hC : lawK C o m q) (i n : Nat) (hi : i + 9 ≤ L) (l5 l6 : Option Value) (hop : lawNeeded G C o m q) (h : ax_H) (hI : lawI C m q (n + 1) h) (hk : ∀ h2, lawI C m q n h2 → AW G x (lawY nm) 10 358 h0 P h2 904 [some (.ref b), some (.ref o), some (.ref m), some (.ref q), some (.int (nI i)), l5, l6] []) : AW G x (lawY nm) 10 358 h0 P h 692 [some (.ref b), some (.ref o), some (.ref m), some (.ref q), some (.int (nI i)), l5, l6] [] := by
  obtain ⟨s, e, U, S, W, T, B, f, iv, hR, hc, hq⟩ := hI
  obtain ⟨fs, ho⟩ := hC.1 _ _ _ _ _ _ _ _ _ hc
  first | refine aw_aload_n d_W_law_692 rfl rfl ?_ | refine aw_aload_nQ d_W_law_692 rfl rfl ?_ | refine aw_aload_nN d_W_law_692 rfl rfl ?_
  first | refine aw_aload_n d_W_law_693 rfl rfl ?_ | refine aw_aload_nQ d_W_law_693 rfl rfl ?_ | refine aw_aload_nN d_W_law_693 rfl rfl ?_
  refine aw_iload d_W_law_694 rfl ?_
  refine aw_iconst (v := 1) d_W_law_696 (by decide) ?_
  refine aw_iadd d_W_law_697 ?_
  refine aw_sld hS (show nI i + 1 = nI (i + 1) from nI_add i 1) (show i + 1 < L by omega) hLb d_W_law_698 ?_
  first | refine aw_aload_n d_W_law_699 rfl rfl ?_ | refine aw_aload_nQ d_W_law_699 rfl rfl ?_ | refine aw_aload_nN d_W_law_699 rfl rfl ?_
  refine aw_iload d_W_law_700 rfl ?_
  refine aw_iconst (v := 2) d_W_law_702 (by decide) ?_
  refine aw_iadd d_W_law_703 ?_
  refine aw_sld hS (show nI i + 2 = nI (i + 2) from nI_add i 2) (show i + 2 < L by omega) hLb d_W_law_704 ?_
  refine aw_callV (hop s e U S W T B n h _ _ iv hR hc) cl_L ho m_L_needed ml_W_75 rfl rfl (by decide) (by decide) (Nat.le_of_ble_eq_true rfl) d_W_law_705 ?_
  rintro v h1 ⟨rfl, hc1, hF1⟩
  have hR1 := hF1.m hR
  first | refine aw_aload_n d_W_law_708 rfl rfl ?_ | refine aw_aload_nQ d_W_law_708 rfl rfl ?_ | refine aw_aload_nN d_W_law_708 rfl rfl ?_
  first | refine aw_aload_n d_W_law_709 rfl rfl ?_ | refine aw_aload_nQ d_W_law_709 rfl rfl ?_ | refine aw_aload_nN d_W_law_709 rfl rfl ?_
  refine aw_iload d_W_law_710 rfl ?_
  refine aw_iconst (v := 1) d_W_law_712 (by decide) ?_
  refine aw_iadd d_W_law_713 ?_
  refine aw_sld hS (show nI i + 1 = nI (i + 1) from nI_add i 1) (show i + 1 < L by omega) hLb d_W_law_714 ?_
  first | refine aw_aload_n d_W_law_715 rfl rfl ?_ | refine aw_aload_nQ d_W_law_715 rfl rfl ?_ | refine aw_aload_nN d_W_law_715 rfl rfl ?_
  refine aw_iload d_W_law_716 rfl ?_
  refine aw_iconst (v := 2) d_W_law_718 (by decide) ?_
  refine aw_iadd d_W_law_719 ?_
  refine aw_sld hS (show nI i + 2 = nI (i + 2) from nI_add i 2) (show i + 2 < L by omega) hLb d_W_law_720 ?_
  refine aw_callV (c_M_needed G _ m s hR1 U iv.1.hU iv.1.hUb _ _) cl_M hR1.obj m_M_needed ml_W_79 rfl rfl (by decide) (by decide) (Nat.le_of_ble_eq_true rfl) d_W_law_721 ?_
  rintro v h2 ⟨rfl, hR2, hF2⟩
  refine aw_icmp_eq (tgt := 904) d_W_law_724 (by decide) (fun c724 => ?_) (fun c724 => ?_)
  · exact hk h2 ⟨_, e, U, S, W, T, B, f, iv.ret 0, hR2, hC.2.1 _ _ _ _ _ _ _ _ _ _ hF2 (hC.2.2.1 _ _ _ _ _ _ _ _ _ 0 hc1), (hF2.2.2 q hC.2.2.2.1).trans (hF1.2.trans hq)⟩
  · exact absurd rfl c724
def lawOctet (G : ax_G) (C : lawP) (o m q : Nat) : Prop := ∀ s e U S W T B n h (a : Int32), mInv s e U S W T B → mR m s h → C s e U S W T B (n + 1) h → AM G Y_L_octet 0 0 [.ref o, .int a] h (fun v h2 => v = some (.int (mOctet s a)) ∧ C s e U S W T B n h2 ∧ lawF m q h h2)
set_option maxRecDepth 20000 in
theorem law_octet {G : ax_G} {x : ax_X} {h0 : ax_H} {P : Option Value → ax_H → Prop} {nm : String} {C : lawP} {o m q b L : Nat} {xs : Nat → Int32} (hS : ax_S G b L xs) (hLb : L < 2 ^ 31) (hC : lawK C o m q) (i n : Nat) (hi : i + 9 ≤ L) (l5 l6 : Option Value) (hop : lawOctet G C o m q) (h : ax_H) (hI : lawI C m q (n + 1) h) (hk : ∀ h2, lawI C m q n h2 → AW G x (lawY nm) 10 358 h0 P h2 904 [some (.ref b), some (.ref o), some (.ref m), some (.ref q), some (.int (nI i)), l5, l6] []) : AW G x (lawY nm) 10 358 h0 P h 729 [some (.ref b), some (.ref o), some (.ref m), some (.ref q), some (.int (nI i)), l5, l6] [] := by
  obtain ⟨s, e, U, S, W, T, B, f, iv, hR, hc, hq⟩ := hI
  obtain ⟨fs, ho⟩ := hC.1 _ _ _ _ _ _ _ _ _ hc
  obtain ⟨En, hEb, hEn⟩ := iv.2.2.1
  first | refine aw_aload_n d_W_law_729 rfl rfl ?_ | refine aw_aload_nQ d_W_law_729 rfl rfl ?_ | refine aw_aload_nN d_W_law_729 rfl rfl ?_
  first | refine aw_aload_n d_W_law_730 rfl rfl ?_ | refine aw_aload_nQ d_W_law_730 rfl rfl ?_ | refine aw_aload_nN d_W_law_730 rfl rfl ?_
  refine aw_iload d_W_law_731 rfl ?_
  refine aw_iconst (v := 1) d_W_law_733 (by decide) ?_
  refine aw_iadd d_W_law_734 ?_
  refine aw_sld hS (show nI i + 1 = nI (i + 1) from nI_add i 1) (show i + 1 < L by omega) hLb d_W_law_735 ?_
  refine aw_callV (hop s e U S W T B n h _ iv hR hc) cl_L ho m_L_octet ml_W_80 rfl rfl (by decide) (by decide) (Nat.le_of_ble_eq_true rfl) d_W_law_736 ?_
  rintro v h1 ⟨rfl, hc1, hF1⟩
  have hR1 := hF1.m hR
  first | refine aw_aload_n d_W_law_739 rfl rfl ?_ | refine aw_aload_nQ d_W_law_739 rfl rfl ?_ | refine aw_aload_nN d_W_law_739 rfl rfl ?_
  first | refine aw_aload_n d_W_law_740 rfl rfl ?_ | refine aw_aload_nQ d_W_law_740 rfl rfl ?_ | refine aw_aload_nN d_W_law_740 rfl rfl ?_
  refine aw_iload d_W_law_741 rfl ?_
  refine aw_iconst (v := 1) d_W_law_743 (by decide) ?_
  refine aw_iadd d_W_law_744 ?_
  refine aw_sld hS (show nI i + 1 = nI (i + 1) from nI_add i 1) (show i + 1 < L by omega) hLb d_W_law_745 ?_
  refine aw_callV (c_M_octet G _ m s hR1 En hEn hEb _) cl_M hR1.obj m_M_octet ml_W_83 rfl rfl (by decide) (by decide) (Nat.le_of_ble_eq_true rfl) d_W_law_746 ?_
  rintro v h2 ⟨rfl, hR2, hF2⟩
  refine aw_icmp_eq (tgt := 904) d_W_law_749 (by decide) (fun c749 => ?_) (fun c749 => ?_)
  · exact hk h2 ⟨_, e, U, S, W, T, B, f, iv.ret 0, hR2, hC.2.1 _ _ _ _ _ _ _ _ _ _ hF2 (hC.2.2.1 _ _ _ _ _ _ _ _ _ 0 hc1), (hF2.2.2 q hC.2.2.2.1).trans (hF1.2.trans hq)⟩
  · exact absurd rfl c749
def lawLine (G : ax_G) (C : lawP) (o m q : Nat) : Prop := ∀ s e U S W T B n h (a : Int32), mInv s e U S W T B → mR m s h → C s e U S W T B (n + 1) h → AM G Y_L_line 0 0 [.ref o, .int a] h (fun v h2 => v = some (.int (mLine s a (iN (s.1 43)))) ∧ C s e U S W T B n h2 ∧ lawF m q h h2)
set_option maxRecDepth 20000 in
theorem law_line {G : ax_G} {x : ax_X} {h0 : ax_H} {P : Option Value → ax_H → Prop} {nm : String} {C : lawP} {o m q b L : Nat} {xs : Nat → Int32} (hS : ax_S G b L xs) (hLb : L < 2 ^ 31) (hC : lawK C o m q) (i n : Nat) (hi : i + 9 ≤ L) (l5 l6 : Option Value) (hop : lawLine G C o m q) (h : ax_H) (hI : lawI C m q (n + 1) h) (hk : ∀ h2, lawI C m q n h2 → AW G x (lawY nm) 10 358 h0 P h2 904 [some (.ref b), some (.ref o), some (.ref m), some (.ref q), some (.int (nI i)), l5, l6] []) : AW G x (lawY nm) 10 358 h0 P h 854 [some (.ref b), some (.ref o), some (.ref m), some (.ref q), some (.int (nI i)), l5, l6] [] := by
  obtain ⟨s, e, U, S, W, T, B, f, iv, hR, hc, hq⟩ := hI
  obtain ⟨fs, ho⟩ := hC.1 _ _ _ _ _ _ _ _ _ hc
  first | refine aw_aload_n d_W_law_854 rfl rfl ?_ | refine aw_aload_nQ d_W_law_854 rfl rfl ?_ | refine aw_aload_nN d_W_law_854 rfl rfl ?_
  first | refine aw_aload_n d_W_law_855 rfl rfl ?_ | refine aw_aload_nQ d_W_law_855 rfl rfl ?_ | refine aw_aload_nN d_W_law_855 rfl rfl ?_
  refine aw_iload d_W_law_856 rfl ?_
  refine aw_iconst (v := 1) d_W_law_858 (by decide) ?_
  refine aw_iadd d_W_law_859 ?_
  refine aw_sld hS (show nI i + 1 = nI (i + 1) from nI_add i 1) (show i + 1 < L by omega) hLb d_W_law_860 ?_
  refine aw_callV (hop s e U S W T B n h _ iv hR hc) cl_L ho m_L_line ml_W_88 rfl rfl (by decide) (by decide) (Nat.le_of_ble_eq_true rfl) d_W_law_861 ?_
  rintro v h1 ⟨rfl, hc1, hF1⟩
  have hR1 := hF1.m hR
  first | refine aw_aload_n d_W_law_864 rfl rfl ?_ | refine aw_aload_nQ d_W_law_864 rfl rfl ?_ | refine aw_aload_nN d_W_law_864 rfl rfl ?_
  first | refine aw_aload_n d_W_law_865 rfl rfl ?_ | refine aw_aload_nQ d_W_law_865 rfl rfl ?_ | refine aw_aload_nN d_W_law_865 rfl rfl ?_
  refine aw_iload d_W_law_866 rfl ?_
  refine aw_iconst (v := 1) d_W_law_868 (by decide) ?_
  refine aw_iadd d_W_law_869 ?_
  refine aw_sld hS (show nI i + 1 = nI (i + 1) from nI_add i 1) (show i + 1 < L by omega) hLb d_W_law_870 ?_
  refine aw_callV (c_M_lineE G _ m s hR1 iv _) cl_M hR1.obj m_M_line ml_W_91 rfl rfl (by decide) (by decide) (Nat.le_of_ble_eq_true rfl) d_W_law_871 ?_
  rintro v h2 ⟨rfl, hR2, hF2⟩
  refine aw_icmp_eq (tgt := 904) d_W_law_874 (by decide) (fun c874 => ?_) (fun c874 => ?_)
  · exact hk h2 ⟨_, e, U, S, W, T, B, f, iv.ret 0, hR2, hC.2.1 _ _ _ _ _ _ _ _ _ _ hF2 (hC.2.2.1 _ _ _ _ _ _ _ _ _ 0 hc1), (hF2.2.2 q hC.2.2.2.1).trans (hF1.2.trans hq)⟩
  · exact absurd rfl c874
def lawPart (G : ax_G) (C : lawP) (o m q : Nat) : Prop := ∀ s e U S W T B n h (a : Int32), mInv s e U S W T B → mR m s h → C s e U S W T B (n + 1) h → AM G Y_L_part 0 0 [.ref o, .int a] h (fun v h2 => v = some (.int (mPart s a)) ∧ C s e U S W T B n h2 ∧ lawF m q h h2)
set_option maxRecDepth 20000 in
theorem law_part {G : ax_G} {x : ax_X} {h0 : ax_H} {P : Option Value → ax_H → Prop} {nm : String} {C : lawP} {o m q b L : Nat} {xs : Nat → Int32} (hS : ax_S G b L xs) (hLb : L < 2 ^ 31) (hC : lawK C o m q) (i n : Nat) (hi : i + 9 ≤ L) (l5 l6 : Option Value) (hop : lawPart G C o m q) (h : ax_H) (hI : lawI C m q (n + 1) h) (hk : ∀ h2, lawI C m q n h2 → AW G x (lawY nm) 10 358 h0 P h2 904 [some (.ref b), some (.ref o), some (.ref m), some (.ref q), some (.int (nI i)), l5, l6] []) : AW G x (lawY nm) 10 358 h0 P h 879 [some (.ref b), some (.ref o), some (.ref m), some (.ref q), some (.int (nI i)), l5, l6] [] := by
  obtain ⟨s, e, U, S, W, T, B, f, iv, hR, hc, hq⟩ := hI
  obtain ⟨fs, ho⟩ := hC.1 _ _ _ _ _ _ _ _ _ hc
  first | refine aw_aload_n d_W_law_879 rfl rfl ?_ | refine aw_aload_nQ d_W_law_879 rfl rfl ?_ | refine aw_aload_nN d_W_law_879 rfl rfl ?_
  first | refine aw_aload_n d_W_law_880 rfl rfl ?_ | refine aw_aload_nQ d_W_law_880 rfl rfl ?_ | refine aw_aload_nN d_W_law_880 rfl rfl ?_
  refine aw_iload d_W_law_881 rfl ?_
  refine aw_iconst (v := 1) d_W_law_883 (by decide) ?_
  refine aw_iadd d_W_law_884 ?_
  refine aw_sld hS (show nI i + 1 = nI (i + 1) from nI_add i 1) (show i + 1 < L by omega) hLb d_W_law_885 ?_
  refine aw_callV (hop s e U S W T B n h _ iv hR hc) cl_L ho m_L_part ml_W_92 rfl rfl (by decide) (by decide) (Nat.le_of_ble_eq_true rfl) d_W_law_886 ?_
  rintro v h1 ⟨rfl, hc1, hF1⟩
  have hR1 := hF1.m hR
  first | refine aw_aload_n d_W_law_889 rfl rfl ?_ | refine aw_aload_nQ d_W_law_889 rfl rfl ?_ | refine aw_aload_nN d_W_law_889 rfl rfl ?_
  first | refine aw_aload_n d_W_law_890 rfl rfl ?_ | refine aw_aload_nQ d_W_law_890 rfl rfl ?_ | refine aw_aload_nN d_W_law_890 rfl rfl ?_
  refine aw_iload d_W_law_891 rfl ?_
  refine aw_iconst (v := 1) d_W_law_893 (by decide) ?_
  refine aw_iadd d_W_law_894 ?_
  refine aw_sld hS (show nI i + 1 = nI (i + 1) from nI_add i 1) (show i + 1 < L by omega) hLb d_W_law_895 ?_
  refine aw_callV (c_M_part G _ m s hR1 _) cl_M hR1.obj m_M_part ml_W_95 rfl rfl (by decide) (by decide) (Nat.le_of_ble_eq_true rfl) d_W_law_896 ?_
  rintro v h2 ⟨rfl, hR2, hF2⟩
  refine aw_icmp_eq (tgt := 904) d_W_law_899 (by decide) (fun c899 => ?_) (fun c899 => ?_)
  · exact hk h2 ⟨_, e, U, S, W, T, B, f, iv.ret 0, hR2, hC.2.1 _ _ _ _ _ _ _ _ _ _ hF2 (hC.2.2.1 _ _ _ _ _ _ _ _ _ 0 hc1), (hF2.2.2 q hC.2.2.2.1).trans (hF1.2.trans hq)⟩
  · exact absurd rfl c899
def lawPut (G : ax_G) (C : lawP) (o m q : Nat) : Prop := ∀ s e U S W T B n h (a p : Int32) (w : Int64) (k : Int32), mInv s e U S W T B → mR m s h → C s e U S W T B (n + 1) h → AM G Y_L_put 2 43 [.ref o, .int a, .int p, .long w, .int k] h (fun v h2 => v = some (.int (zI (mPutOk s U a p k))) ∧ C (mPut s U a p w k) e U S W T B n h2 ∧ lawF m q h h2)
set_option maxRecDepth 20000 in
theorem law_put {G : ax_G} {x : ax_X} {h0 : ax_H} {P : Option Value → ax_H → Prop} {nm : String} {C : lawP} {o m q b L : Nat} {xs : Nat → Int32} (hS : ax_S G b L xs) (hLb : L < 2 ^ 31) (hC : lawK C o m q) (i n : Nat) (hi : i + 9 ≤ L) (l5 l6 : Option Value) (hop : lawPut G C o m q) (h : ax_H) (hI : lawI C m q (n + 1) h) (hk : ∀ h2, lawI C m q n h2 → AW G x (lawY nm) 10 358 h0 P h2 904 [some (.ref b), some (.ref o), some (.ref m), some (.ref q), some (.int (nI i)), l5, l6] []) : AW G x (lawY nm) 10 358 h0 P h 212 [some (.ref b), some (.ref o), some (.ref m), some (.ref q), some (.int (nI i)), l5, l6] [] := by
  obtain ⟨s, e, U, S, W, T, B, f, iv, hR, hc, hq⟩ := hI
  obtain ⟨fs, ho⟩ := hC.1 _ _ _ _ _ _ _ _ _ hc
  first | refine aw_aload_n d_W_law_212 rfl rfl ?_ | refine aw_aload_nQ d_W_law_212 rfl rfl ?_ | refine aw_aload_nN d_W_law_212 rfl rfl ?_
  first | refine aw_aload_n d_W_law_213 rfl rfl ?_ | refine aw_aload_nQ d_W_law_213 rfl rfl ?_ | refine aw_aload_nN d_W_law_213 rfl rfl ?_
  refine aw_iload d_W_law_214 rfl ?_
  refine aw_iconst (v := 1) d_W_law_216 (by decide) ?_
  refine aw_iadd d_W_law_217 ?_
  refine aw_sld hS (show nI i + 1 = nI (i + 1) from nI_add i 1) (show i + 1 < L by omega) hLb d_W_law_218 ?_
  first | refine aw_aload_n d_W_law_219 rfl rfl ?_ | refine aw_aload_nQ d_W_law_219 rfl rfl ?_ | refine aw_aload_nN d_W_law_219 rfl rfl ?_
  refine aw_iload d_W_law_220 rfl ?_
  refine aw_iconst (v := 2) d_W_law_222 (by decide) ?_
  refine aw_iadd d_W_law_223 ?_
  refine aw_sld hS (show nI i + 2 = nI (i + 2) from nI_add i 2) (show i + 2 < L by omega) hLb d_W_law_224 ?_
  first | refine aw_aload_n d_W_law_225 rfl rfl ?_ | refine aw_aload_nQ d_W_law_225 rfl rfl ?_ | refine aw_aload_nN d_W_law_225 rfl rfl ?_
  refine aw_iload d_W_law_226 rfl ?_
  refine aw_iconst (v := 3) d_W_law_228 (by decide) ?_
  refine aw_iadd d_W_law_229 ?_
  refine aw_sld hS (show nI i + 3 = nI (i + 3) from nI_add i 3) (show i + 3 < L by omega) hLb d_W_law_230 ?_
  refine aw_i2l d_W_law_231 ?_
  refine aw_bipush (v := 32) d_W_law_232 (by decide) ?_
  refine aw_lshl d_W_law_234 ?_
  first | refine aw_aload_n d_W_law_235 rfl rfl ?_ | refine aw_aload_nQ d_W_law_235 rfl rfl ?_ | refine aw_aload_nN d_W_law_235 rfl rfl ?_
  refine aw_iload d_W_law_236 rfl ?_
  refine aw_iconst (v := 4) d_W_law_238 (by decide) ?_
  refine aw_iadd d_W_law_239 ?_
  refine aw_sld hS (show nI i + 4 = nI (i + 4) from nI_add i 4) (show i + 4 < L by omega) hLb d_W_law_240 ?_
  refine aw_i2l d_W_law_241 ?_
  refine aw_ldc2 kc_W_34 d_W_law_242 ?_
  refine aw_land d_W_law_245 ?_
  refine aw_lor d_W_law_246 ?_
  first | refine aw_aload_n d_W_law_247 rfl rfl ?_ | refine aw_aload_nQ d_W_law_247 rfl rfl ?_ | refine aw_aload_nN d_W_law_247 rfl rfl ?_
  refine aw_iload d_W_law_248 rfl ?_
  refine aw_iconst (v := 5) d_W_law_250 (by decide) ?_
  refine aw_iadd d_W_law_251 ?_
  refine aw_sld hS (show nI i + 5 = nI (i + 5) from nI_add i 5) (show i + 5 < L by omega) hLb d_W_law_252 ?_
  refine aw_callV (hop s e U S W T B n h _ _ _ _ iv hR hc) cl_L ho m_L_put ml_W_36 rfl rfl (by decide) (by decide) (Nat.le_of_ble_eq_true rfl) d_W_law_253 ?_
  rintro v h1 ⟨rfl, hc1, hF1⟩
  have hR1 := hF1.m hR
  first | refine aw_aload_n d_W_law_256 rfl rfl ?_ | refine aw_aload_nQ d_W_law_256 rfl rfl ?_ | refine aw_aload_nN d_W_law_256 rfl rfl ?_
  first | refine aw_aload_n d_W_law_257 rfl rfl ?_ | refine aw_aload_nQ d_W_law_257 rfl rfl ?_ | refine aw_aload_nN d_W_law_257 rfl rfl ?_
  refine aw_iload d_W_law_258 rfl ?_
  refine aw_iconst (v := 1) d_W_law_260 (by decide) ?_
  refine aw_iadd d_W_law_261 ?_
  refine aw_sld hS (show nI i + 1 = nI (i + 1) from nI_add i 1) (show i + 1 < L by omega) hLb d_W_law_262 ?_
  first | refine aw_aload_n d_W_law_263 rfl rfl ?_ | refine aw_aload_nQ d_W_law_263 rfl rfl ?_ | refine aw_aload_nN d_W_law_263 rfl rfl ?_
  refine aw_iload d_W_law_264 rfl ?_
  refine aw_iconst (v := 2) d_W_law_266 (by decide) ?_
  refine aw_iadd d_W_law_267 ?_
  refine aw_sld hS (show nI i + 2 = nI (i + 2) from nI_add i 2) (show i + 2 < L by omega) hLb d_W_law_268 ?_
  first | refine aw_aload_n d_W_law_269 rfl rfl ?_ | refine aw_aload_nQ d_W_law_269 rfl rfl ?_ | refine aw_aload_nN d_W_law_269 rfl rfl ?_
  refine aw_iload d_W_law_270 rfl ?_
  refine aw_iconst (v := 3) d_W_law_272 (by decide) ?_
  refine aw_iadd d_W_law_273 ?_
  refine aw_sld hS (show nI i + 3 = nI (i + 3) from nI_add i 3) (show i + 3 < L by omega) hLb d_W_law_274 ?_
  refine aw_i2l d_W_law_275 ?_
  refine aw_bipush (v := 32) d_W_law_276 (by decide) ?_
  refine aw_lshl d_W_law_278 ?_
  first | refine aw_aload_n d_W_law_279 rfl rfl ?_ | refine aw_aload_nQ d_W_law_279 rfl rfl ?_ | refine aw_aload_nN d_W_law_279 rfl rfl ?_
  refine aw_iload d_W_law_280 rfl ?_
  refine aw_iconst (v := 4) d_W_law_282 (by decide) ?_
  refine aw_iadd d_W_law_283 ?_
  refine aw_sld hS (show nI i + 4 = nI (i + 4) from nI_add i 4) (show i + 4 < L by omega) hLb d_W_law_284 ?_
  refine aw_i2l d_W_law_285 ?_
  refine aw_ldc2 kc_W_34 d_W_law_286 ?_
  refine aw_land d_W_law_289 ?_
  refine aw_lor d_W_law_290 ?_
  first | refine aw_aload_n d_W_law_291 rfl rfl ?_ | refine aw_aload_nQ d_W_law_291 rfl rfl ?_ | refine aw_aload_nN d_W_law_291 rfl rfl ?_
  refine aw_iload d_W_law_292 rfl ?_
  refine aw_iconst (v := 5) d_W_law_294 (by decide) ?_
  refine aw_iadd d_W_law_295 ?_
  refine aw_sld hS (show nI i + 5 = nI (i + 5) from nI_add i 5) (show i + 5 < L by omega) hLb d_W_law_296 ?_
  refine aw_callV (c_M_put G _ m s hR1 U B e iv.1.hU iv.1.hUb iv.1.hB iv.1.i1 _ _ _ _) cl_M hR1.obj m_M_put ml_W_40 rfl rfl (by decide) (by decide) (Nat.le_of_ble_eq_true rfl) d_W_law_297 ?_
  rintro v h2 ⟨rfl, hR2, hF2⟩
  refine aw_icmp_eq (tgt := 904) d_W_law_300 (by decide) (fun c300 => ?_) (fun c300 => ?_)
  · exact hk h2 ⟨_, e, U, S, W, T, B, f, iv.put _ _ _ _, hR2, hC.2.1 _ _ _ _ _ _ _ _ _ _ hF2 (hc1), (hF2.2.2 q hC.2.2.2.1).trans (hF1.2.trans hq)⟩
  · exact absurd rfl c300
