set_option maxRecDepth 20000 in
theorem l_M_helps {G : ax_G} {x : ax_X} {h0 : ax_H} {P : Option Value → ax_H → Prop} {m : Nat} (s : mSt) (e : Nat → Nat → Nat) (U S : Nat) (hUb : U ≤ 32) (hS : s.1 2 = nI S) (hSb : S ≤ 2048) (hI : mI2 s e U S) (h : ax_H) (hR : mR m s h) (u : Nat) (hu : u < U) : ∀ r k (Q : Prop) (o4 : Option Value), k + r = S → P (some (.int (zP (Q ∨ mHelpsL (s.2.1 3) (mT s e S) u r k)))) h → AW G x Y_M_helps 2 46 h0 P h 9 [some (.ref m), some (.int (nI u)), some (.int (zP Q)), some (.int (nI k)), o4] [] := by
  intro r
  induction r with
  | zero =>
    intro k Q o4 hk hp
    have hkk : k = S := by omega
    subst hkk
    refine aw_iload_n d_M_helps_9 rfl rfl ?_
    first | refine aw_aload_n d_M_helps_10 rfl rfl ?_ | refine aw_aload_nQ d_M_helps_10 rfl rfl ?_ | refine aw_aload_nN d_M_helps_10 rfl rfl ?_
    refine aM_get (by assumption) fl_M_129 (by decide) rfl d_M_helps_11 ?_
    refine aw_icmp_ge (tgt := 168) d_M_helps_14 (by decide) (fun c14 => ?_) (fun c14 => ?_)
    · refine aw_iload_n d_M_helps_168 rfl rfl ?_
      refine aw_zret ?_ rfl (zP_n _) d_M_helps_169
      rw [zP_i (show (Q ∨ mHelpsL (s.2.1 3) (mT s e k) u 0 k) ↔ Q from ⟨fun q => q.elim id (fun z => absurd z id), Or.inl⟩)] at hp
      exact hp
    · exact absurd (show s.1 2 ≤ nI k by rw [hS]; exact nI_le (Nat.le_refl _) (by omega)) c14
  | succ r ih =>
    intro k Q o4 hk hp
    obtain ⟨u1, u2⟩ := hI k (by omega)
    have ks : k < 2048 := by omega
    rw [mHelpsL] at hp
    refine aw_iload_n d_M_helps_9 rfl rfl ?_
    first | refine aw_aload_n d_M_helps_10 rfl rfl ?_ | refine aw_aload_nQ d_M_helps_10 rfl rfl ?_ | refine aw_aload_nN d_M_helps_10 rfl rfl ?_
    refine aM_get (by assumption) fl_M_129 (by decide) rfl d_M_helps_11 ?_
    refine aw_icmp_ge (tgt := 168) d_M_helps_14 (by decide) (fun c14 => ?_) (fun c14 => ?_)
    · exact absurd c14 (by rw [show s.1 2 = nI S from hS]; exact nI_ge (by omega) (by omega))
    · first | refine aw_aload_n d_M_helps_17 rfl rfl ?_ | refine aw_aload_nQ d_M_helps_17 rfl rfl ?_ | refine aw_aload_nN d_M_helps_17 rfl rfl ?_
      refine aM_get (by assumption) fl_M_44 (by decide) rfl d_M_helps_18 ?_
      refine aw_iload_n d_M_helps_21 rfl rfl ?_
      refine aM_iald (by assumption) (by decide) rfl rfl (show k < 2048 from ks) (by decide) d_M_helps_22 ?_
      refine aw_iload_n d_M_helps_23 rfl rfl ?_
      refine aw_icmp_ne (tgt := 168) d_M_helps_24 (by decide) (fun c24 => ?_) (fun c24 => ?_)
      · refine aw_iload_n d_M_helps_168 rfl rfl ?_
        refine aw_zret ?_ rfl (zP_n _) d_M_helps_169
        rw [zP_i (show (Q ∨ ((mT s e S).2.2.2.2.1 k = u ∧ (mHelpK (s.2.1 3) (mT s e S) k ∨ mHelpsL (s.2.1 3) (mT s e S) u r (k + 1)))) ↔ Q from ⟨fun q => q.elim id (fun z => absurd (show s.2.1 11 k = nI u by rw [u1]; exact congrArg nI z.1) c24), Or.inl⟩)] at hp
        exact hp
      · first | refine aw_aload_n d_M_helps_27 rfl rfl ?_ | refine aw_aload_nQ d_M_helps_27 rfl rfl ?_ | refine aw_aload_nN d_M_helps_27 rfl rfl ?_
        refine aw_iload_n d_M_helps_28 rfl rfl ?_
        refine aw_callV (c_M_isGlobal G _ m s (by assumption) k ks) cl_M (mR.obj (by assumption)) m_M_isGlobal ml_M_165 rfl rfl (by decide) (by decide) (Nat.le_of_ble_eq_true rfl) d_M_helps_29 ?_
        rintro v h' ⟨rfl, rfl⟩
        refine aw_if_ne (tgt := 43) d_M_helps_32 (by decide) (fun c32 => ?_) (fun c32 => ?_)
        · first | refine aw_aload_n d_M_helps_43 rfl rfl ?_ | refine aw_aload_nQ d_M_helps_43 rfl rfl ?_ | refine aw_aload_nN d_M_helps_43 rfl rfl ?_
          first | refine aw_aload_n d_M_helps_44 rfl rfl ?_ | refine aw_aload_nQ d_M_helps_44 rfl rfl ?_ | refine aw_aload_nN d_M_helps_44 rfl rfl ?_
          refine aM_get (by assumption) fl_M_37 (by decide) rfl d_M_helps_45 ?_
          refine aw_iload_n d_M_helps_48 rfl rfl ?_
          refine aM_lald (by assumption) (by decide) rfl rfl (show k < 2048 from ks) (by decide) d_M_helps_49 ?_
          first | refine aw_aload_n d_M_helps_50 rfl rfl ?_ | refine aw_aload_nQ d_M_helps_50 rfl rfl ?_ | refine aw_aload_nN d_M_helps_50 rfl rfl ?_
          refine aM_get (by assumption) fl_M_41 (by decide) rfl d_M_helps_51 ?_
          refine aw_iload_n d_M_helps_54 rfl rfl ?_
          refine aM_iald (by assumption) (by decide) rfl rfl (show k < 2048 from ks) (by decide) d_M_helps_55 ?_
          refine aw_callV (c_M_meant G _ m s (by assumption) e U S hUb hS hSb hI _ _) cl_M (mR.obj (by assumption)) m_M_meant ml_M_171 rfl rfl (by decide) (by decide) (Nat.le_of_ble_eq_true rfl) d_M_helps_56 ?_
          rintro v h' ⟨rfl, rfl⟩
          refine aw_if_lt (tgt := 65) d_M_helps_59 (by decide) (fun c59 => ?_) (fun c59 => ?_)
          · refine aw_iconst (v := 0) d_M_helps_65 (by decide) ?_
            refine aw_istore d_M_helps_66 (by decide) rfl ?_
            have ek : e 11 k = u := (nI_eq (by omega) (by omega)).mp (by rw [← u1]; exact c24)
            have hgw : mGlob (mT s e S) k ∨ mWeak (mT s e S) k := by
              by_cases q : mGlob (mT s e S) k
              · exact Or.inl q
              · exact absurd (show zI (0 ≤ s.2.1 13 k ∧ s.2.1 12 k = 1) = 0 by rw [zI, if_neg q]) c32
            refine l_M_helps1 s e U S hUb hS hSb hI _ hR u k (by omega) S 0 Q (by omega) (fun o4 => ?_)
            rw [zP_i (show (Q ∨ ((mT s e S).2.2.2.2.1 k = u ∧ (mHelpK (s.2.1 3) (mT s e S) k ∨ mHelpsL (s.2.1 3) (mT s e S) u r (k + 1)))) ↔ ((Q ∨ ∃ i, 0 ≤ i ∧ i < S ∧ mSame (s.2.1 3) (mT s e S) k i) ∨ mHelpsL (s.2.1 3) (mT s e S) u r (k + 1)) from ⟨fun q => q.elim (fun z => Or.inl (Or.inl z)) (fun z => z.2.elim (fun y => Or.inl (Or.inr (y.2.imp (fun i yi => ⟨Nat.zero_le _, yi⟩)))) Or.inr), fun q => q.elim (fun z => z.elim Or.inl (fun y => Or.inr ⟨ek, Or.inl ⟨⟨hgw, c59⟩, y.imp (fun i yi => yi.2)⟩⟩)) (fun z => Or.inr ⟨ek, Or.inr z⟩)⟩)] at hp
            refine aw_iinc (v := nI (k + 1)) d_M_helps_162 rfl (ax_inc k) (by decide) rfl ?_
            refine aw_goto (tgt := 9) d_M_helps_165 (by decide) ?_
            exact ih (k + 1) _ _ (by omega) hp
          · refine aw_goto (tgt := 162) d_M_helps_62 (by decide) ?_
            refine aw_iinc (v := nI (k + 1)) d_M_helps_162 rfl (ax_inc k) (by decide) rfl ?_
            refine aw_goto (tgt := 9) d_M_helps_165 (by decide) ?_
            have ek : e 11 k = u := (nI_eq (by omega) (by omega)).mp (by rw [← u1]; exact c24)
            have nk : ¬ mHelpK (s.2.1 3) (mT s e S) k := fun q => absurd q.1.2 c59
            refine ih (k + 1) Q _ (by omega) ?_
            rw [zP_i (show (Q ∨ ((mT s e S).2.2.2.2.1 k = u ∧ (mHelpK (s.2.1 3) (mT s e S) k ∨ mHelpsL (s.2.1 3) (mT s e S) u r (k + 1)))) ↔ (Q ∨ mHelpsL (s.2.1 3) (mT s e S) u r (k + 1)) from ⟨fun q => q.elim Or.inl (fun z => Or.inr (z.2.resolve_left nk)), fun q => q.elim Or.inl (fun z => Or.inr ⟨ek, Or.inr z⟩)⟩)] at hp
            exact hp
        · first | refine aw_aload_n d_M_helps_35 rfl rfl ?_ | refine aw_aload_nQ d_M_helps_35 rfl rfl ?_ | refine aw_aload_nN d_M_helps_35 rfl rfl ?_
          refine aw_iload_n d_M_helps_36 rfl rfl ?_
          refine aw_callV (c_M_isWeak G _ m s (by assumption) k ks) cl_M (mR.obj (by assumption)) m_M_isWeak ml_M_168 rfl rfl (by decide) (by decide) (Nat.le_of_ble_eq_true rfl) d_M_helps_37 ?_
          rintro v h' ⟨rfl, rfl⟩
          refine aw_if_eq (tgt := 162) d_M_helps_40 (by decide) (fun c40 => ?_) (fun c40 => ?_)
          · refine aw_iinc (v := nI (k + 1)) d_M_helps_162 rfl (ax_inc k) (by decide) rfl ?_
            refine aw_goto (tgt := 9) d_M_helps_165 (by decide) ?_
            have ek : e 11 k = u := (nI_eq (by omega) (by omega)).mp (by rw [← u1]; exact c24)
            have nk : ¬ mHelpK (s.2.1 3) (mT s e S) k := fun q => q.1.1.elim (fun z => absurd c32 (by rw [zI, if_pos z]; decide)) (fun z => absurd c40 (by rw [zI, if_pos z]; decide))
            refine ih (k + 1) Q _ (by omega) ?_
            rw [zP_i (show (Q ∨ ((mT s e S).2.2.2.2.1 k = u ∧ (mHelpK (s.2.1 3) (mT s e S) k ∨ mHelpsL (s.2.1 3) (mT s e S) u r (k + 1)))) ↔ (Q ∨ mHelpsL (s.2.1 3) (mT s e S) u r (k + 1)) from ⟨fun q => q.elim Or.inl (fun z => Or.inr (z.2.resolve_left nk)), fun q => q.elim Or.inl (fun z => Or.inr ⟨ek, Or.inr z⟩)⟩)] at hp
            exact hp
          · first | refine aw_aload_n d_M_helps_43 rfl rfl ?_ | refine aw_aload_nQ d_M_helps_43 rfl rfl ?_ | refine aw_aload_nN d_M_helps_43 rfl rfl ?_
            first | refine aw_aload_n d_M_helps_44 rfl rfl ?_ | refine aw_aload_nQ d_M_helps_44 rfl rfl ?_ | refine aw_aload_nN d_M_helps_44 rfl rfl ?_
            refine aM_get (by assumption) fl_M_37 (by decide) rfl d_M_helps_45 ?_
            refine aw_iload_n d_M_helps_48 rfl rfl ?_
            refine aM_lald (by assumption) (by decide) rfl rfl (show k < 2048 from ks) (by decide) d_M_helps_49 ?_
            first | refine aw_aload_n d_M_helps_50 rfl rfl ?_ | refine aw_aload_nQ d_M_helps_50 rfl rfl ?_ | refine aw_aload_nN d_M_helps_50 rfl rfl ?_
            refine aM_get (by assumption) fl_M_41 (by decide) rfl d_M_helps_51 ?_
            refine aw_iload_n d_M_helps_54 rfl rfl ?_
            refine aM_iald (by assumption) (by decide) rfl rfl (show k < 2048 from ks) (by decide) d_M_helps_55 ?_
            refine aw_callV (c_M_meant G _ m s (by assumption) e U S hUb hS hSb hI _ _) cl_M (mR.obj (by assumption)) m_M_meant ml_M_171 rfl rfl (by decide) (by decide) (Nat.le_of_ble_eq_true rfl) d_M_helps_56 ?_
            rintro v h' ⟨rfl, rfl⟩
            refine aw_if_lt (tgt := 65) d_M_helps_59 (by decide) (fun c59 => ?_) (fun c59 => ?_)
            · refine aw_iconst (v := 0) d_M_helps_65 (by decide) ?_
              refine aw_istore d_M_helps_66 (by decide) rfl ?_
              have ek : e 11 k = u := (nI_eq (by omega) (by omega)).mp (by rw [← u1]; exact c24)
              have hgw : mGlob (mT s e S) k ∨ mWeak (mT s e S) k := by
                by_cases q : mWeak (mT s e S) k
                · exact Or.inr q
                · exact absurd (show zI (0 ≤ s.2.1 13 k ∧ 1 < s.2.1 12 k) = 0 by rw [zI, if_neg q]) c40
              refine l_M_helps1 s e U S hUb hS hSb hI _ hR u k (by omega) S 0 Q (by omega) (fun o4 => ?_)
              rw [zP_i (show (Q ∨ ((mT s e S).2.2.2.2.1 k = u ∧ (mHelpK (s.2.1 3) (mT s e S) k ∨ mHelpsL (s.2.1 3) (mT s e S) u r (k + 1)))) ↔ ((Q ∨ ∃ i, 0 ≤ i ∧ i < S ∧ mSame (s.2.1 3) (mT s e S) k i) ∨ mHelpsL (s.2.1 3) (mT s e S) u r (k + 1)) from ⟨fun q => q.elim (fun z => Or.inl (Or.inl z)) (fun z => z.2.elim (fun y => Or.inl (Or.inr (y.2.imp (fun i yi => ⟨Nat.zero_le _, yi⟩)))) Or.inr), fun q => q.elim (fun z => z.elim Or.inl (fun y => Or.inr ⟨ek, Or.inl ⟨⟨hgw, c59⟩, y.imp (fun i yi => yi.2)⟩⟩)) (fun z => Or.inr ⟨ek, Or.inr z⟩)⟩)] at hp
              refine aw_iinc (v := nI (k + 1)) d_M_helps_162 rfl (ax_inc k) (by decide) rfl ?_
              refine aw_goto (tgt := 9) d_M_helps_165 (by decide) ?_
              exact ih (k + 1) _ _ (by omega) hp
            · refine aw_goto (tgt := 162) d_M_helps_62 (by decide) ?_
              refine aw_iinc (v := nI (k + 1)) d_M_helps_162 rfl (ax_inc k) (by decide) rfl ?_
              refine aw_goto (tgt := 9) d_M_helps_165 (by decide) ?_
              have ek : e 11 k = u := (nI_eq (by omega) (by omega)).mp (by rw [← u1]; exact c24)
              have nk : ¬ mHelpK (s.2.1 3) (mT s e S) k := fun q => absurd q.1.2 c59
              refine ih (k + 1) Q _ (by omega) ?_
              rw [zP_i (show (Q ∨ ((mT s e S).2.2.2.2.1 k = u ∧ (mHelpK (s.2.1 3) (mT s e S) k ∨ mHelpsL (s.2.1 3) (mT s e S) u r (k + 1)))) ↔ (Q ∨ mHelpsL (s.2.1 3) (mT s e S) u r (k + 1)) from ⟨fun q => q.elim Or.inl (fun z => Or.inr (z.2.resolve_left nk)), fun q => q.elim Or.inl (fun z => Or.inr ⟨ek, Or.inr z⟩)⟩)] at hp
              exact hp
def mHelps (tk : Nat → Int32) (g : mTab) (F : Nat → Nat) (u : Nat) : Prop := mHelpsL tk g u (g.2.2.2.2.2 - F u) (F u)
set_option maxRecDepth 20000 in
theorem c_M_helps (G : ax_G) (h : ax_H) (m : Nat) (s : mSt) (hR : mR m s h) (e : Nat → Nat → Nat) (U S : Nat) (hUb : U ≤ 32) (hS : s.1 2 = nI S) (hSb : S ≤ 2048) (hI : mI2 s e U S) (u : Nat) (hu : u < U) (hF : s.2.1 16 u = nI (e 16 u)) (hFS : e 16 u ≤ S) : AM G Y_M_helps 2 46 [.ref m, .int (nI u)] h (fun v h2 => h2 = h ∧ v = some (.int (zP (mHelps (s.2.1 3) (mT s e S) (e 16) u)))) := by
  refine aw_enter (by decide) (Nat.le_of_ble_eq_true rfl) (n := 3) (ls := [some (.ref m), some (.int (nI u)), none, none, none]) rfl (fun x => ?_)
  refine aw_iconst (v := 0) d_M_helps_0 (by decide) ?_
  refine aw_istore_n d_M_helps_1 rfl (by decide) rfl ?_
  first | refine aw_aload_n d_M_helps_2 rfl rfl ?_ | refine aw_aload_nQ d_M_helps_2 rfl rfl ?_ | refine aw_aload_nN d_M_helps_2 rfl rfl ?_
  refine aM_get (by assumption) fl_M_59 (by decide) rfl d_M_helps_3 ?_
  refine aw_iload_n d_M_helps_6 rfl rfl ?_
  refine aM_iald (by assumption) (by decide) rfl rfl (show u < 33 by omega) (by decide) d_M_helps_7 ?_
  refine aw_istore_n d_M_helps_8 rfl (by decide) rfl ?_
  refine aw_ls (ls' := [some (.ref m), some (.int (nI u)), some (.int (zP False)), some (.int (nI (e 16 u))), none]) (by rw [hF, zP_0 id]; rfl) ?_
  refine l_M_helps s e U S hUb hS hSb hI h hR u hu (S - e 16 u) (e 16 u) False _ (by omega) ⟨rfl, ?_⟩
  rw [mHelps, zP_i (show (False ∨ mHelpsL (s.2.1 3) (mT s e S) u (S - e 16 u) (e 16 u)) ↔ _ from ⟨fun q => q.resolve_left id, Or.inr⟩)]
