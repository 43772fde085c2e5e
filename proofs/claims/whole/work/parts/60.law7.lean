theorem ml_W_84p : Cond.methodLink "SymbolLinkerLaw" 84 ⟨"SymbolLinkerLaw", "address", "(LSymbolLinker;JI[J)I"⟩ ∈ lw_tbl := (in_t_3 (List.mem_of_getElem? (i := 194) rfl))
set_option maxRecDepth 20000 in
theorem c_M_addressE (G : ax_G) (h : ax_H) (m : Nat) (s : mSt) (hR : mR m s h) {e : Nat → Nat → Nat} {U S W T B : Nat} (iv : mInv s e U S W T B) (w : Int64) (a : Int32) : AM G Y_M_address 1 24 [.ref m, .long w, .int a] h (fun v h2 => v = some (.int (mAddrR (mAddr s w a (iN (s.1 42)))).2) ∧ mR m (va_up s.1 0 (mAddrR (mAddr s w a (iN (s.1 42)))).1, s.2) h2 ∧ mFr m h h2) := by
  obtain ⟨K, hKb, hK⟩ := iv.2.2.2.1
  rw [show iN (s.1 42) = K by rw [hK, iN, nI_clamp (by omega)]]
  exact c_M_address G h m s hR w a K hK hKb
theorem mAddrR_01 (r : Option Int32) : (mAddrR r).1 = 0 ∨ (mAddrR r).1 = 1 := by
  cases r with
  | none => exact Or.inr rfl
  | some v => exact Or.inl rfl
def lawAddress (G : ax_G) (C : lawP) (o m q : Nat) : Prop := ∀ s e U S W T B n h (w : Int64) (a : Int32), mInv s e U S W T B → mR m s h → C s e U S W T B (n + 1) h → ((mAddrR (mAddr s w a (iN (s.1 42)))).1 = 0 → AM G Y_L_address 6 132 [.ref o, .long w, .int a] h (fun v h2 => v = some (.int (mAddrR (mAddr s w a (iN (s.1 42)))).2) ∧ C s e U S W T B n h2 ∧ lawF m q h h2)) ∧ (¬ (mAddrR (mAddr s w a (iN (s.1 42)))).1 = 0 → AT G Y_L_address 6 132 [.ref o, .long w, .int a] h (fun z h2 => (∃ fs, h2.2.2 z = some (.inr (10, fs))) ∧ C s e U S W T B n h2 ∧ lawF m q h h2))
set_option maxRecDepth 20000 in
theorem law_address {G : ax_G} {x : ax_X} {h0 : ax_H} {P : Option Value → ax_H → Prop} {nm : String} {C : lawP} {o m q b L : Nat} {xs : Nat → Int32} (hS : ax_S G b L xs) (hLb : L < 2 ^ 31) (hC : lawK C o m q) (i n : Nat) (hi : i + 9 ≤ L) (l5 l6 : Option Value) (hop : lawAddress G C o m q) (h : ax_H) (hI : lawI C m q (n + 1) h) (hk : ∀ h2 l5 l6, lawI C m q n h2 → AW G x (lawY nm) 10 358 h0 P h2 904 [some (.ref b), some (.ref o), some (.ref m), some (.ref q), some (.int (nI i)), l5, l6] []) : AW G x (lawY nm) 10 358 h0 P h 754 [some (.ref b), some (.ref o), some (.ref m), some (.ref q), some (.int (nI i)), l5, l6] [] := by
  obtain ⟨s, e, U, S, W, T, B, f, iv, hR, hc, hq⟩ := hI
  obtain ⟨fs, ho⟩ := hC.1 _ _ _ _ _ _ _ _ _ hc
  obtain ⟨hop1, hop2⟩ := hop s e U S W T B n h ((xs (i + 1)).toInt64 <<< ((32 : Int32).toInt64 &&& 63) ||| (xs (i + 2)).toInt64 &&& 4294967295) (xs (i + 3)) iv hR hc
  by_cases ht : (mAddrR (mAddr s ((xs (i + 1)).toInt64 <<< ((32 : Int32).toInt64 &&& 63) ||| (xs (i + 2)).toInt64 &&& 4294967295) (xs (i + 3)) (iN (s.1 42)))).1 = 0
  · first | refine aw_aload_n d_W_law_754 rfl rfl ?_ | refine aw_aload_nQ d_W_law_754 rfl rfl ?_ | refine aw_aload_nN d_W_law_754 rfl rfl ?_
    first | refine aw_aload_n d_W_law_755 rfl rfl ?_ | refine aw_aload_nQ d_W_law_755 rfl rfl ?_ | refine aw_aload_nN d_W_law_755 rfl rfl ?_
    refine aw_iload d_W_law_756 rfl ?_
    refine aw_iconst (v := 1) d_W_law_758 (by decide) ?_
    refine aw_iadd d_W_law_759 ?_
    refine aw_sld hS (show nI i + 1 = nI (i + 1) from nI_add i 1) (show i + 1 < L by omega) hLb d_W_law_760 ?_
    refine aw_i2l d_W_law_761 ?_
    refine aw_bipush (v := 32) d_W_law_762 (by decide) ?_
    refine aw_lshl d_W_law_764 ?_
    first | refine aw_aload_n d_W_law_765 rfl rfl ?_ | refine aw_aload_nQ d_W_law_765 rfl rfl ?_ | refine aw_aload_nN d_W_law_765 rfl rfl ?_
    refine aw_iload d_W_law_766 rfl ?_
    refine aw_iconst (v := 2) d_W_law_768 (by decide) ?_
    refine aw_iadd d_W_law_769 ?_
    refine aw_sld hS (show nI i + 2 = nI (i + 2) from nI_add i 2) (show i + 2 < L by omega) hLb d_W_law_770 ?_
    refine aw_i2l d_W_law_771 ?_
    refine aw_ldc2 kc_W_34 d_W_law_772 ?_
    refine aw_land d_W_law_775 ?_
    refine aw_lor d_W_law_776 ?_
    first | refine aw_aload_n d_W_law_777 rfl rfl ?_ | refine aw_aload_nQ d_W_law_777 rfl rfl ?_ | refine aw_aload_nN d_W_law_777 rfl rfl ?_
    refine aw_iload d_W_law_778 rfl ?_
    refine aw_iconst (v := 3) d_W_law_780 (by decide) ?_
    refine aw_iadd d_W_law_781 ?_
    refine aw_sld hS (show nI i + 3 = nI (i + 3) from nI_add i 3) (show i + 3 < L by omega) hLb d_W_law_782 ?_
    first | refine aw_aload_n d_W_law_783 rfl rfl ?_ | refine aw_aload_nQ d_W_law_783 rfl rfl ?_ | refine aw_aload_nN d_W_law_783 rfl rfl ?_
    refine aw_callSH (c_W_address G h o q _ _ ho f (fun r h1 => r = (mAddrR (mAddr s ((xs (i + 1)).toInt64 <<< ((32 : Int32).toInt64 &&& 63) ||| (xs (i + 2)).toInt64 &&& 4294967295) (xs (i + 3)) (iN (s.1 42)))).2 ∧ C s e U S W T B n h1 ∧ lawF m q h h1) (am_mono (fun v h1 z => ⟨_, z.1, ⟨rfl, z.2.1, z.2.2⟩, z.2.2.2.trans hq⟩) (hop1 ht))) mh_W_address ml_W_84p rfl rfl (by decide) (by decide) (Nat.le_of_ble_eq_true rfl) d_W_law_784 ?_
    rintro v h2 ⟨rfl, r, h1, ⟨rfl, hc1, hF1⟩, hq1, rfl⟩
    have hR1 := lawQ hC (.inl (.long, 1, .inr (.inl (va_up f 0 (mAddrR (mAddr s ((xs (i + 1)).toInt64 <<< ((32 : Int32).toInt64 &&& 63) ||| (xs (i + 2)).toInt64 &&& 4294967295) (xs (i + 3)) (iN (s.1 42)))).2.toInt64)))) (hF1.m hR)
    refine aw_istore d_W_law_787 (Nat.le_of_ble_eq_true rfl) rfl ?_
    first | refine aw_aload_n d_W_law_789 rfl rfl ?_ | refine aw_aload_nQ d_W_law_789 rfl rfl ?_ | refine aw_aload_nN d_W_law_789 rfl rfl ?_
    first | refine aw_aload_n d_W_law_790 rfl rfl ?_ | refine aw_aload_nQ d_W_law_790 rfl rfl ?_ | refine aw_aload_nN d_W_law_790 rfl rfl ?_
    refine aw_iload d_W_law_791 rfl ?_
    refine aw_iconst (v := 1) d_W_law_793 (by decide) ?_
    refine aw_iadd d_W_law_794 ?_
    refine aw_sld hS (show nI i + 1 = nI (i + 1) from nI_add i 1) (show i + 1 < L by omega) hLb d_W_law_795 ?_
    refine aw_i2l d_W_law_796 ?_
    refine aw_bipush (v := 32) d_W_law_797 (by decide) ?_
    refine aw_lshl d_W_law_799 ?_
    first | refine aw_aload_n d_W_law_800 rfl rfl ?_ | refine aw_aload_nQ d_W_law_800 rfl rfl ?_ | refine aw_aload_nN d_W_law_800 rfl rfl ?_
    refine aw_iload d_W_law_801 rfl ?_
    refine aw_iconst (v := 2) d_W_law_803 (by decide) ?_
    refine aw_iadd d_W_law_804 ?_
    refine aw_sld hS (show nI i + 2 = nI (i + 2) from nI_add i 2) (show i + 2 < L by omega) hLb d_W_law_805 ?_
    refine aw_i2l d_W_law_806 ?_
    refine aw_ldc2 kc_W_34 d_W_law_807 ?_
    refine aw_land d_W_law_810 ?_
    refine aw_lor d_W_law_811 ?_
    first | refine aw_aload_n d_W_law_812 rfl rfl ?_ | refine aw_aload_nQ d_W_law_812 rfl rfl ?_ | refine aw_aload_nN d_W_law_812 rfl rfl ?_
    refine aw_iload d_W_law_813 rfl ?_
    refine aw_iconst (v := 3) d_W_law_815 (by decide) ?_
    refine aw_iadd d_W_law_816 ?_
    refine aw_sld hS (show nI i + 3 = nI (i + 3) from nI_add i 3) (show i + 3 < L by omega) hLb d_W_law_817 ?_
    refine aw_callV (c_M_addressE G _ m s hR1 iv _ _) cl_M hR1.obj m_M_address ml_W_87 rfl rfl (by decide) (by decide) (Nat.le_of_ble_eq_true rfl) d_W_law_818 ?_
    rintro v h3 ⟨rfl, hR3, hF3⟩
    have hq3 : h3.2.2 q = some (.inl (.long, 1, .inr (.inl (va_up f 0 (mAddrR (mAddr s ((xs (i + 1)).toInt64 <<< ((32 : Int32).toInt64 &&& 63) ||| (xs (i + 2)).toInt64 &&& 4294967295) (xs (i + 3)) (iN (s.1 42)))).2.toInt64)))) := (hF3.2.2 q hC.2.2.2.1).trans (ax_get_self _ _)
    refine aw_istore d_W_law_821 (Nat.le_of_ble_eq_true rfl) rfl ?_
    first | refine aw_aload_n d_W_law_823 rfl rfl ?_ | refine aw_aload_nQ d_W_law_823 rfl rfl ?_ | refine aw_aload_nN d_W_law_823 rfl rfl ?_
    refine aw_callV (c_M_thrown G _ m _ hR3) cl_M hR3.obj m_M_thrown ml_W_67 rfl rfl (by decide) (by decide) (Nat.le_of_ble_eq_true rfl) d_W_law_824 ?_
    rintro v h' ⟨rfl, rfl⟩
    refine aw_iload d_W_law_827 rfl ?_
    refine aw_icmp_eq (tgt := 834) d_W_law_829 (by decide) (fun c829 => ?_) (fun c829 => ?_)
    · refine aw_iload d_W_law_834 rfl ?_
      refine aw_if_ne (tgt := 851) d_W_law_836 (by decide) (fun c836 => ?_) (fun c836 => ?_)
      · exact absurd rfl c836
      · first | refine aw_aload_n d_W_law_839 rfl rfl ?_ | refine aw_aload_nQ d_W_law_839 rfl rfl ?_ | refine aw_aload_nN d_W_law_839 rfl rfl ?_
        refine aw_iconst (v := 0) d_W_law_840 (by decide) ?_
        refine aw_lald hq3 (nI_in (c := 0) (N := 1) (by decide) (by decide)) d_W_law_841 ?_
        refine aw_iload d_W_law_842 rfl ?_
        refine aw_i2l d_W_law_844 ?_
        refine aw_lcmp d_W_law_845 ?_
        refine aw_if_eq (tgt := 851) d_W_law_846 (by decide) (fun c846 => ?_) (fun c846 => ?_)
        · refine aw_goto (tgt := 904) d_W_law_851 (by decide) ?_
          exact hk _ _ _ ⟨_, e, U, S, W, T, B, _, iv.ret _, hR3, hC.2.1 _ _ _ _ _ _ _ _ _ _ hF3 (hC.2.2.1 _ _ _ _ _ _ _ _ _ _ (hC.2.2.2.2 _ _ _ _ _ _ _ _ _ _ hc1)), hq3⟩
        · exact absurd ((lg_cmp_eq _ _).mpr rfl) c846
    · exact absurd ht c829
  · first | refine aw_aload_n d_W_law_754 rfl rfl ?_ | refine aw_aload_nQ d_W_law_754 rfl rfl ?_ | refine aw_aload_nN d_W_law_754 rfl rfl ?_
    first | refine aw_aload_n d_W_law_755 rfl rfl ?_ | refine aw_aload_nQ d_W_law_755 rfl rfl ?_ | refine aw_aload_nN d_W_law_755 rfl rfl ?_
    refine aw_iload d_W_law_756 rfl ?_
    refine aw_iconst (v := 1) d_W_law_758 (by decide) ?_
    refine aw_iadd d_W_law_759 ?_
    refine aw_sld hS (show nI i + 1 = nI (i + 1) from nI_add i 1) (show i + 1 < L by omega) hLb d_W_law_760 ?_
    refine aw_i2l d_W_law_761 ?_
    refine aw_bipush (v := 32) d_W_law_762 (by decide) ?_
    refine aw_lshl d_W_law_764 ?_
    first | refine aw_aload_n d_W_law_765 rfl rfl ?_ | refine aw_aload_nQ d_W_law_765 rfl rfl ?_ | refine aw_aload_nN d_W_law_765 rfl rfl ?_
    refine aw_iload d_W_law_766 rfl ?_
    refine aw_iconst (v := 2) d_W_law_768 (by decide) ?_
    refine aw_iadd d_W_law_769 ?_
    refine aw_sld hS (show nI i + 2 = nI (i + 2) from nI_add i 2) (show i + 2 < L by omega) hLb d_W_law_770 ?_
    refine aw_i2l d_W_law_771 ?_
    refine aw_ldc2 kc_W_34 d_W_law_772 ?_
    refine aw_land d_W_law_775 ?_
    refine aw_lor d_W_law_776 ?_
    first | refine aw_aload_n d_W_law_777 rfl rfl ?_ | refine aw_aload_nQ d_W_law_777 rfl rfl ?_ | refine aw_aload_nN d_W_law_777 rfl rfl ?_
    refine aw_iload d_W_law_778 rfl ?_
    refine aw_iconst (v := 3) d_W_law_780 (by decide) ?_
    refine aw_iadd d_W_law_781 ?_
    refine aw_sld hS (show nI i + 3 = nI (i + 3) from nI_add i 3) (show i + 3 < L by omega) hLb d_W_law_782 ?_
    first | refine aw_aload_n d_W_law_783 rfl rfl ?_ | refine aw_aload_nQ d_W_law_783 rfl rfl ?_ | refine aw_aload_nN d_W_law_783 rfl rfl ?_
    refine aw_callSH (c_W_addressT G h o q _ _ ho _ (fun z h1 y => y.1) (hop2 ht)) mh_W_address ml_W_84p rfl rfl (by decide) (by decide) (Nat.le_of_ble_eq_true rfl) d_W_law_784 ?_
    rintro v h1 ⟨rfl, z, hfa, hc1, hF1⟩
    have hR1 := hF1.m hR
    have ht := (mAddrR_01 (mAddr s ((xs (i + 1)).toInt64 <<< ((32 : Int32).toInt64 &&& 63) ||| (xs (i + 2)).toInt64 &&& 4294967295) (xs (i + 3)) (iN (s.1 42)))).resolve_left ht
    refine aw_istore d_W_law_787 (Nat.le_of_ble_eq_true rfl) rfl ?_
    first | refine aw_aload_n d_W_law_789 rfl rfl ?_ | refine aw_aload_nQ d_W_law_789 rfl rfl ?_ | refine aw_aload_nN d_W_law_789 rfl rfl ?_
    first | refine aw_aload_n d_W_law_790 rfl rfl ?_ | refine aw_aload_nQ d_W_law_790 rfl rfl ?_ | refine aw_aload_nN d_W_law_790 rfl rfl ?_
    refine aw_iload d_W_law_791 rfl ?_
    refine aw_iconst (v := 1) d_W_law_793 (by decide) ?_
    refine aw_iadd d_W_law_794 ?_
    refine aw_sld hS (show nI i + 1 = nI (i + 1) from nI_add i 1) (show i + 1 < L by omega) hLb d_W_law_795 ?_
    refine aw_i2l d_W_law_796 ?_
    refine aw_bipush (v := 32) d_W_law_797 (by decide) ?_
    refine aw_lshl d_W_law_799 ?_
    first | refine aw_aload_n d_W_law_800 rfl rfl ?_ | refine aw_aload_nQ d_W_law_800 rfl rfl ?_ | refine aw_aload_nN d_W_law_800 rfl rfl ?_
    refine aw_iload d_W_law_801 rfl ?_
    refine aw_iconst (v := 2) d_W_law_803 (by decide) ?_
    refine aw_iadd d_W_law_804 ?_
    refine aw_sld hS (show nI i + 2 = nI (i + 2) from nI_add i 2) (show i + 2 < L by omega) hLb d_W_law_805 ?_
    refine aw_i2l d_W_law_806 ?_
    refine aw_ldc2 kc_W_34 d_W_law_807 ?_
    refine aw_land d_W_law_810 ?_
    refine aw_lor d_W_law_811 ?_
    first | refine aw_aload_n d_W_law_812 rfl rfl ?_ | refine aw_aload_nQ d_W_law_812 rfl rfl ?_ | refine aw_aload_nN d_W_law_812 rfl rfl ?_
    refine aw_iload d_W_law_813 rfl ?_
    refine aw_iconst (v := 3) d_W_law_815 (by decide) ?_
    refine aw_iadd d_W_law_816 ?_
    refine aw_sld hS (show nI i + 3 = nI (i + 3) from nI_add i 3) (show i + 3 < L by omega) hLb d_W_law_817 ?_
    refine aw_callV (c_M_addressE G _ m s hR1 iv _ _) cl_M hR1.obj m_M_address ml_W_87 rfl rfl (by decide) (by decide) (Nat.le_of_ble_eq_true rfl) d_W_law_818 ?_
    rintro v h3 ⟨rfl, hR3, hF3⟩
    refine aw_istore d_W_law_821 (Nat.le_of_ble_eq_true rfl) rfl ?_
    first | refine aw_aload_n d_W_law_823 rfl rfl ?_ | refine aw_aload_nQ d_W_law_823 rfl rfl ?_ | refine aw_aload_nN d_W_law_823 rfl rfl ?_
    refine aw_callV (c_M_thrown G _ m _ hR3) cl_M hR3.obj m_M_thrown ml_W_67 rfl rfl (by decide) (by decide) (Nat.le_of_ble_eq_true rfl) d_W_law_824 ?_
    rintro v h' ⟨rfl, rfl⟩
    refine aw_iload d_W_law_827 rfl ?_
    refine aw_icmp_eq (tgt := 834) d_W_law_829 (by decide) (fun c829 => ?_) (fun c829 => ?_)
    · refine aw_iload d_W_law_834 rfl ?_
      refine aw_if_ne (tgt := 851) d_W_law_836 (by decide) (fun c836 => ?_) (fun c836 => ?_)
      · refine aw_goto (tgt := 904) d_W_law_851 (by decide) ?_
        exact hk _ _ _ ⟨_, e, U, S, W, T, B, f, iv.ret _, hR3, hC.2.1 _ _ _ _ _ _ _ _ _ _ hF3 (hC.2.2.1 _ _ _ _ _ _ _ _ _ _ hc1), (hF3.2.2 q hC.2.2.2.1).trans (hF1.2.trans hq)⟩
      · exact absurd c836 (by decide)
    · exact absurd ht c829
