def mTk0 (lib tk : Nat → Int32) (j : Nat) : Nat → Int32 := fun u => if u < j then (if lib u = 0 then 1 else 0) else tk u
theorem mTk0_0 (lib tk : Nat → Int32) : mTk0 lib tk 0 = tk := by
  funext u
  rw [mTk0, if_neg (by omega)]
theorem mTk0_s (lib tk : Nat → Int32) (j : Nat) : va_up (mTk0 lib tk j) j (if lib j = 0 then 1 else 0) = mTk0 lib tk (j + 1) := by
  funext u
  by_cases hu : u = j
  · subst hu
    rw [va_up_self, mTk0]
    exact (if_pos (Nat.lt_succ_self u)).symm
  · rw [va_up_ne _ _ hu, mTk0, mTk0]
    by_cases q : u < j
    · rw [if_pos q, if_pos (show u < j + 1 by omega)]
    · rw [if_neg q, if_neg (show ¬ u < j + 1 by omega)]
/-- the first of r numbers from k on with Q -/
noncomputable def mFind (Q : Nat → Prop) : Nat → Nat → Option Nat
  | 0, _ => none
  | r + 1, k => @ite _ (Q k) (Classical.propDecidable _) (some k) (mFind Q r (k + 1))
theorem mFind_t {Q : Nat → Prop} {r k : Nat} (h : Q k) : mFind Q (r + 1) k = some k := by rw [mFind, if_pos h]
theorem mFind_f {Q : Nat → Prop} {r k : Nat} (h : ¬ Q k) : mFind Q (r + 1) k = mFind Q r (k + 1) := by rw [mFind, if_neg h]
abbrev mWants (tk : Nat → Int32) (g : mTab) (F : Nat → Nat) (u : Nat) : Prop := tk u = 0 ∧ mHelps tk g F u
noncomputable def mTakeL (g : mTab) (F : Nat → Nat) (U : Nat) : Nat → (Nat → Int32) → Nat → Int32
  | 0, tk => tk
  | n + 1, tk => match mFind (mWants tk g F) U 0 with
    | none => tk
    | some u => mTakeL g F U n (va_up tk u 1)
theorem mTakeL_n {g : mTab} {F : Nat → Nat} {U n : Nat} {tk : Nat → Int32} (h : mFind (mWants tk g F) U 0 = none) : mTakeL g F U (n + 1) tk = tk := by rw [mTakeL, h]
theorem mTakeL_s {g : mTab} {F : Nat → Nat} {U n u : Nat} {tk : Nat → Int32} (h : mFind (mWants tk g F) U 0 = some u) : mTakeL g F U (n + 1) tk = mTakeL g F U n (va_up tk u 1) := by rw [mTakeL, h]
noncomputable def mTake (s : mSt) (e : Nat → Nat → Nat) (U S : Nat) : Nat → Int32 := mTakeL (mT s e S) (e 16) U 32 (mTk0 (s.2.1 1) (s.2.1 3) U)
set_option maxRecDepth 20000 in
theorem l_M_take0 {G : ax_G} {x : ax_X} {h0 : ax_H} {P : Option Value → ax_H → Prop} {m : Nat} (s : mSt) (U : Nat) (hU : s.1 1 = nI U) (hUb : U ≤ 32) (hq : ax_H) (hk : ∀ h2 o1, mR m (s.1, va_up s.2.1 3 (mTk0 (s.2.1 1) (s.2.1 3) U), s.2.2) h2 → mFr m hq h2 → AW G x Y_M_take 3 70 h0 P h2 36 [some (.ref m), some (.int o1), none] []) : ∀ r j h, j + r = U → mR m (s.1, va_up s.2.1 3 (mTk0 (s.2.1 1) (s.2.1 3) j), s.2.2) h → mFr m hq h → AW G x Y_M_take 3 70 h0 P h 2 [some (.ref m), some (.int (nI j)), none] [] := by
  intro r
  induction r with
  | zero =>
    intro j h hj hR hF
    have hjj : j = U := by omega
    subst hjj
    refine aw_iload_n d_M_take_2 rfl rfl ?_
    first | refine aw_aload_n d_M_take_3 rfl rfl ?_ | refine aw_aload_nQ d_M_take_3 rfl rfl ?_ | refine aw_aload_nN d_M_take_3 rfl rfl ?_
    refine aM_get (by assumption) fl_M_126 (by decide) rfl d_M_take_4 ?_
    refine aw_icmp_ge (tgt := 36) d_M_take_7 (by decide) (fun c7 => ?_) (fun c7 => ?_)
    · exact hk _ _ hR hF
    · exact absurd (show s.1 1 ≤ nI j by rw [hU]; exact nI_le (Nat.le_refl _) (by omega)) c7
  | succ r ih =>
    intro j h hj hR hF
    refine aw_iload_n d_M_take_2 rfl rfl ?_
    first | refine aw_aload_n d_M_take_3 rfl rfl ?_ | refine aw_aload_nQ d_M_take_3 rfl rfl ?_ | refine aw_aload_nN d_M_take_3 rfl rfl ?_
    refine aM_get (by assumption) fl_M_126 (by decide) rfl d_M_take_4 ?_
    refine aw_icmp_ge (tgt := 36) d_M_take_7 (by decide) (fun c7 => ?_) (fun c7 => ?_)
    · exact absurd c7 (by rw [show s.1 1 = nI U from hU]; exact nI_ge (by omega) (by omega))
    · first | refine aw_aload_n d_M_take_10 rfl rfl ?_ | refine aw_aload_nQ d_M_take_10 rfl rfl ?_ | refine aw_aload_nN d_M_take_10 rfl rfl ?_
      refine aM_get (by assumption) fl_M_16 (by decide) rfl d_M_take_11 ?_
      refine aw_iload_n d_M_take_14 rfl rfl ?_
      first | refine aw_aload_n d_M_take_15 rfl rfl ?_ | refine aw_aload_nQ d_M_take_15 rfl rfl ?_ | refine aw_aload_nN d_M_take_15 rfl rfl ?_
      refine aM_get (by assumption) fl_M_7 (by decide) rfl d_M_take_16 ?_
      refine aw_iload_n d_M_take_19 rfl rfl ?_
      refine aM_zald (by assumption) (by decide) rfl rfl (show j < 32 by omega) (by decide) d_M_take_20 ?_
      refine aw_if_ne (tgt := 28) d_M_take_21 (by decide) (fun c21 => ?_) (fun c21 => ?_)
      · refine aw_iconst (v := 0) d_M_take_28 (by decide) ?_
        refine aM_zast (by assumption) (by decide) rfl rfl (show j < 32 by omega) (by decide) d_M_take_29 (fun g29 hR29 hF29 => ?_)
        refine aw_iinc (v := nI (j + 1)) d_M_take_30 rfl (ax_inc j) (by decide) rfl ?_
        refine aw_goto (tgt := 2) d_M_take_33 (by decide) ?_
        refine ih (j + 1) _ (by omega) ?_ (hF.tr hF29)
        have hR29 : mR m (s.1, va_up (va_up s.2.1 3 (mTk0 (s.2.1 1) (s.2.1 3) j)) 3 (va_up (mTk0 (s.2.1 1) (s.2.1 3) j) j (0 &&& 1)), s.2.2) g29 := hR29
        rw [bx_uu, show ((0 : Int32) &&& 1) = (if s.2.1 1 j = 0 then 1 else 0) by rw [if_neg (show ¬ s.2.1 1 j = 0 from c21)]; rfl, mTk0_s] at hR29
        exact hR29
      · refine aw_iconst (v := 1) d_M_take_24 (by decide) ?_
        refine aw_goto (tgt := 29) d_M_take_25 (by decide) ?_
        refine aM_zast (by assumption) (by decide) rfl rfl (show j < 32 by omega) (by decide) d_M_take_29 (fun g29 hR29 hF29 => ?_)
        refine aw_iinc (v := nI (j + 1)) d_M_take_30 rfl (ax_inc j) (by decide) rfl ?_
        refine aw_goto (tgt := 2) d_M_take_33 (by decide) ?_
        refine ih (j + 1) _ (by omega) ?_ (hF.tr hF29)
        have hR29 : mR m (s.1, va_up (va_up s.2.1 3 (mTk0 (s.2.1 1) (s.2.1 3) j)) 3 (va_up (mTk0 (s.2.1 1) (s.2.1 3) j) j (1 &&& 1)), s.2.2) g29 := hR29
        rw [bx_uu, show ((1 : Int32) &&& 1) = (if s.2.1 1 j = 0 then 1 else 0) by rw [if_pos (show s.2.1 1 j = 0 from c21)]; rfl, mTk0_s] at hR29
        exact hR29
set_option maxRecDepth 20000 in
theorem l_M_take1 {G : ax_G} {x : ax_X} {h0 : ax_H} {P : Option Value → ax_H → Prop} {m : Nat} (s : mSt) (e : Nat → Nat → Nat) (U S : Nat) (hU : s.1 1 = nI U) (hUb : U ≤ 32) (hS : s.1 2 = nI S) (hSb : S ≤ 2048) (hI : mI2 s e U S) (hF : ∀ u, u < U → s.2.1 16 u = nI (e 16 u) ∧ e 16 u ≤ S) (hq : ax_H) (tk : Nat → Int32) (h : ax_H) (hR : mR m (s.1, va_up s.2.1 3 tk, s.2.2) h) (hFq : mFr m hq h) (n t : Nat) (ht : t < 32) (hp : ∀ h2, mR m (s.1, va_up s.2.1 3 (mTakeL (mT s e S) (e 16) U (n + 1) tk), s.2.2) h2 → mFr m hq h2 → P none h2) (ih : ∀ u, u < U → ∀ h2, mFind (mWants tk (mT s e S) (e 16)) U 0 = some u → mR m (s.1, va_up s.2.1 3 (va_up tk u 1), s.2.2) h2 → mFr m hq h2 → ∀ o2, AW G x Y_M_take 3 70 h0 P h2 38 [some (.ref m), some (.int (nI (t + 1))), some (.int o2)] []) : ∀ r u, u + r = U → mFind (mWants tk (mT s e S) (e 16)) U 0 = mFind (mWants tk (mT s e S) (e 16)) r u → AW G x Y_M_take 3 70 h0 P h 46 [some (.ref m), some (.int (nI t)), some (.int (nI u))] [] := by
  intro r
  induction r with
  | zero =>
    intro u hu he
    have huu : u = U := by omega
    subst huu
    refine aw_iload_n d_M_take_46 rfl rfl ?_
    first | refine aw_aload_n d_M_take_47 rfl rfl ?_ | refine aw_aload_nQ d_M_take_47 rfl rfl ?_ | refine aw_aload_nN d_M_take_47 rfl rfl ?_
    refine aM_get (by assumption) fl_M_126 (by decide) rfl d_M_take_48 ?_
    refine aw_icmp_ge (tgt := 77) d_M_take_51 (by decide) (fun c51 => ?_) (fun c51 => ?_)
    · refine aw_iload_n d_M_take_77 rfl rfl ?_
      first | refine aw_aload_n d_M_take_78 rfl rfl ?_ | refine aw_aload_nQ d_M_take_78 rfl rfl ?_ | refine aw_aload_nN d_M_take_78 rfl rfl ?_
      refine aM_get (by assumption) fl_M_126 (by decide) rfl d_M_take_79 ?_
      refine aw_icmp_ne (tgt := 86) d_M_take_82 (by decide) (fun c82 => ?_) (fun c82 => ?_)
      · exact absurd (show nI u = s.1 1 from hU.symm) c82
      · refine aw_vret ?_ rfl d_M_take_85
        rw [mTakeL_n (he.trans rfl)] at hp
        exact hp _ hR hFq
    · exact absurd (show s.1 1 ≤ nI u by rw [hU]; exact nI_le (Nat.le_refl _) (by omega)) c51
  | succ r ihr =>
    intro u hu he
    refine aw_iload_n d_M_take_46 rfl rfl ?_
    first | refine aw_aload_n d_M_take_47 rfl rfl ?_ | refine aw_aload_nQ d_M_take_47 rfl rfl ?_ | refine aw_aload_nN d_M_take_47 rfl rfl ?_
    refine aM_get (by assumption) fl_M_126 (by decide) rfl d_M_take_48 ?_
    refine aw_icmp_ge (tgt := 77) d_M_take_51 (by decide) (fun c51 => ?_) (fun c51 => ?_)
    · exact absurd c51 (by rw [show s.1 1 = nI U from hU]; exact nI_ge (by omega) (by omega))
    · first | refine aw_aload_n d_M_take_54 rfl rfl ?_ | refine aw_aload_nQ d_M_take_54 rfl rfl ?_ | refine aw_aload_nN d_M_take_54 rfl rfl ?_
      refine aM_get (by assumption) fl_M_16 (by decide) rfl d_M_take_55 ?_
      refine aw_iload_n d_M_take_58 rfl rfl ?_
      refine aM_zald (by assumption) (by decide) rfl rfl (show u < 32 by omega) (by decide) d_M_take_59 ?_
      refine aw_if_ne (tgt := 71) d_M_take_60 (by decide) (fun c60 => ?_) (fun c60 => ?_)
      · refine aw_iinc (v := nI (u + 1)) d_M_take_71 rfl (ax_inc u) (by decide) rfl ?_
        refine aw_goto (tgt := 46) d_M_take_74 (by decide) ?_
        exact ihr (u + 1) (by omega) (he.trans (mFind_f (fun q : mWants tk (mT s e S) (e 16) u => c60 q.1)))
      · first | refine aw_aload_n d_M_take_63 rfl rfl ?_ | refine aw_aload_nQ d_M_take_63 rfl rfl ?_ | refine aw_aload_nN d_M_take_63 rfl rfl ?_
        refine aw_iload_n d_M_take_64 rfl rfl ?_
        refine aw_callV (c_M_helps G _ m (s.1, va_up s.2.1 3 tk, s.2.2) (by assumption) e U S hUb hS hSb hI u (by omega) (hF u (by omega)).1 (hF u (by omega)).2) cl_M (mR.obj (by assumption)) m_M_helps ml_M_175 rfl rfl (by decide) (by decide) (Nat.le_of_ble_eq_true rfl) d_M_take_65 ?_
        rintro v h' ⟨rfl, rfl⟩
        refine aw_if_ne (tgt := 77) d_M_take_68 (by decide) (fun c68 => ?_) (fun c68 => ?_)
        · refine aw_iload_n d_M_take_77 rfl rfl ?_
          first | refine aw_aload_n d_M_take_78 rfl rfl ?_ | refine aw_aload_nQ d_M_take_78 rfl rfl ?_ | refine aw_aload_nN d_M_take_78 rfl rfl ?_
          refine aM_get (by assumption) fl_M_126 (by decide) rfl d_M_take_79 ?_
          refine aw_icmp_ne (tgt := 86) d_M_take_82 (by decide) (fun c82 => ?_) (fun c82 => ?_)
          · first | refine aw_aload_n d_M_take_86 rfl rfl ?_ | refine aw_aload_nQ d_M_take_86 rfl rfl ?_ | refine aw_aload_nN d_M_take_86 rfl rfl ?_
            refine aM_get (by assumption) fl_M_16 (by decide) rfl d_M_take_87 ?_
            refine aw_iload_n d_M_take_90 rfl rfl ?_
            refine aw_iconst (v := 1) d_M_take_91 (by decide) ?_
            refine aM_zast (by assumption) (by decide) rfl rfl (show u < 32 by omega) (by decide) d_M_take_92 (fun g92 hR92 hF92 => ?_)
            refine aw_iinc (v := nI (t + 1)) d_M_take_93 rfl (ax_inc t) (by decide) rfl ?_
            refine aw_goto (tgt := 38) d_M_take_96 (by decide) ?_
            have hR92 : mR m (s.1, va_up (va_up s.2.1 3 tk) 3 (va_up tk u (1 &&& 1)), s.2.2) g92 := hR92
            rw [bx_uu] at hR92
            exact ih u (by omega) _ (he.trans (mFind_t ⟨c60, zP_t c68⟩)) hR92 (hFq.tr hF92) _
          · exact absurd ((nI_eq (by omega) (by omega)).mp (show nI u = nI U by rw [← hU]; exact c82)) (by omega)
        · refine aw_iinc (v := nI (u + 1)) d_M_take_71 rfl (ax_inc u) (by decide) rfl ?_
          refine aw_goto (tgt := 46) d_M_take_74 (by decide) ?_
          exact ihr (u + 1) (by omega) (he.trans (mFind_f (fun q : mWants tk (mT s e S) (e 16) u => zP_f c68 q.2)))
set_option maxRecDepth 20000 in
theorem l_M_take {G : ax_G} {x : ax_X} {h0 : ax_H} {P : Option Value → ax_H → Prop} {m : Nat} (s : mSt) (e : Nat → Nat → Nat) (U S : Nat) (hU : s.1 1 = nI U) (hUb : U ≤ 32) (hS : s.1 2 = nI S) (hSb : S ≤ 2048) (hI : mI2 s e U S) (hF : ∀ u, u < U → s.2.1 16 u = nI (e 16 u) ∧ e 16 u ≤ S) (hq : ax_H) : ∀ n t tk h o2, t + n = 32 → mR m (s.1, va_up s.2.1 3 tk, s.2.2) h → mFr m hq h → (∀ h2, mR m (s.1, va_up s.2.1 3 (mTakeL (mT s e S) (e 16) U n tk), s.2.2) h2 → mFr m hq h2 → P none h2) → ax_c1 [none, none, o2] 3 → AW G x Y_M_take 3 70 h0 P h 38 [some (.ref m), some (.int (nI t)), o2] [] := by
  intro n
  induction n with
  | zero =>
    intro t tk h o2 ht hR hFq hp _
    have htt : t = 32 := by omega
    subst htt
    refine aw_iload_n d_M_take_38 rfl rfl ?_
    refine aw_bipush (v := 32) d_M_take_39 (by decide) ?_
    refine aw_icmp_ge (tgt := 99) d_M_take_41 (by decide) (fun c41 => ?_) (fun c41 => ?_)
    · refine aw_vret ?_ rfl d_M_take_99
      exact hp _ hR hFq
    · exact absurd (by decide) c41
  | succ n ih =>
    intro t tk h o2 ht hR hFq hp _
    refine aw_iload_n d_M_take_38 rfl rfl ?_
    refine aw_bipush (v := 32) d_M_take_39 (by decide) ?_
    refine aw_icmp_ge (tgt := 99) d_M_take_41 (by decide) (fun c41 => ?_) (fun c41 => ?_)
    · exact absurd c41 (nI_ge (a := t) (b := 32) (by omega) (by decide))
    · refine aw_iconst (v := 0) d_M_take_44 (by decide) ?_
      refine aw_istore_n d_M_take_45 rfl (by decide) rfl ?_
      refine l_M_take1 s e U S hU hUb hS hSb hI hF hq tk h hR hFq n t (by omega) hp (fun u hu h2 hf hR2 hF2 o3 => ih (t + 1) (va_up tk u 1) h2 _ (by omega) hR2 hF2 ?_ (fun j w ej h1 => by match j, ej, h1 with | 2, _, h1 => cases h1; rfl)) U 0 (by omega) rfl
      rw [mTakeL_s hf] at hp
      exact hp
set_option maxRecDepth 20000 in
theorem c_M_take (G : ax_G) (h : ax_H) (m : Nat) (s : mSt) (hR : mR m s h) (e : Nat → Nat → Nat) (U S : Nat) (hU : s.1 1 = nI U) (hUb : U ≤ 32) (hS : s.1 2 = nI S) (hSb : S ≤ 2048) (hI : mI2 s e U S) (hF : ∀ u, u < U → s.2.1 16 u = nI (e 16 u) ∧ e 16 u ≤ S) : AM G Y_M_take 3 70 [.ref m] h (fun v h2 => v = none ∧ mR m (s.1, va_up s.2.1 3 (mTake s e U S), s.2.2) h2 ∧ mFr m h h2) := by
  refine aw_enter (by decide) (Nat.le_of_ble_eq_true rfl) (n := 2) (ls := [some (.ref m), none, none]) rfl (fun x => ?_)
  refine aw_iconst (v := 0) d_M_take_0 (by decide) ?_
  refine aw_istore_n d_M_take_1 rfl (by decide) rfl ?_
  refine l_M_take0 s U hU hUb h (fun h2 o1 hR2 hF2 => ?_) U 0 h (by omega) ?_ (mFr.rf m h)
  · refine aw_iconst (v := 0) d_M_take_36 (by decide) ?_
    refine aw_istore_n d_M_take_37 rfl (by decide) rfl ?_
    exact l_M_take s e U S hU hUb hS hSb hI hF h 32 0 _ h2 _ (by omega) hR2 hF2 (fun h3 r1 r2 => ⟨rfl, r1, r2⟩) (fun j w ej h1 => by match j, ej, h1 with | 2, _, h1 => cases h1)
  · refine hR.same (fun k => ?_) (fun k => rfl)
    by_cases hk : k = 3
    · subst hk; rw [va_up_self, mTk0_0]
    · exact va_up_ne _ _ hk
