/-- of what begins at a: the latest of the first k -/
def mLineL (f g : Nat → Int32) (a : Int32) : Nat → Int32
  | 0 => -1
  | k + 1 => if f k = a then g k else mLineL f g a k
def mLine (s : mSt) (a : Int32) (K : Nat) : Int32 := if s.1 38 = 0 then -1 else mLineL (s.2.1 34) (s.2.1 35) a K
theorem ax_dec (z : Int32) : z + Int32.ofInt (-1) = z - 1 := by rw [Int32.sub_eq_add_neg]; rfl
theorem ax_inc (k : Nat) : nI k + Int32.ofInt 1 = nI (k + 1) := nI_1 k
set_option maxRecDepth 20000 in
theorem l_M_line {G : ax_G} {x : ax_X} {fr lo : Nat} {h0 h : ax_H} {P : Option Value → ax_H → Prop} {m : Nat} {s : mSt} (hR : mR m s h) (a : Int32) (K : Nat) (hKb : K ≤ 8192) (hp : ∀ v, v = some (.int (mLine s a K)) → P v h) : ∀ k, k ≤ K → (s.1 38 = 0 ∨ mLineL (s.2.1 34) (s.2.1 35) a K = mLineL (s.2.1 34) (s.2.1 35) a k) → AW G x Y_M_line fr lo h0 P h 12 [some (.ref m), some (.int a), some (.int (nI k - 1))] [] := by
  intro k
  induction k with
  | zero =>
    intro hk he
    refine aw_iload_n d_M_line_12 rfl rfl ?_
    refine aw_if_lt (tgt := 46) d_M_line_13 (by decide) (fun c13 => ?_) (fun c13 => ?_)
    · refine aw_iconst (v := (-1)) d_M_line_46 (by decide) ?_
      refine aw_iret ?_ rfl d_M_line_47
      refine hp _ ?_
      rw [mLine]
      rcases he with he | he
      · rw [if_pos he]
      · split
        · rfl
        · rw [he]; rfl
    · exact absurd (by decide) c13
  | succ k ih =>
    intro hk he
    refine aw_ls (ls' := [some (.ref m), some (.int a), some (.int (nI k))]) (by rw [nI_pred]) ?_
    refine aw_iload_n d_M_line_12 rfl rfl ?_
    refine aw_if_lt (tgt := 46) d_M_line_13 (by decide) (fun c13 => ?_) (fun c13 => ?_)
    · exact absurd c13 (nI_pos (by omega))
    · first | refine aw_aload_n d_M_line_16 rfl rfl ?_ | refine aw_aload_nQ d_M_line_16 rfl rfl ?_ | refine aw_aload_nN d_M_line_16 rfl rfl ?_
      refine aM_get (by assumption) fl_M_224 (by decide) rfl d_M_line_17 ?_
      refine aw_if_eq (tgt := 46) d_M_line_20 (by decide) (fun c20 => ?_) (fun c20 => ?_)
      · refine aw_iconst (v := (-1)) d_M_line_46 (by decide) ?_
        refine aw_iret ?_ rfl d_M_line_47
        refine hp _ ?_
        rw [mLine, if_pos c20]
      · first | refine aw_aload_n d_M_line_23 rfl rfl ?_ | refine aw_aload_nQ d_M_line_23 rfl rfl ?_ | refine aw_aload_nN d_M_line_23 rfl rfl ?_
        refine aM_get (by assumption) fl_M_117 (by decide) rfl d_M_line_24 ?_
        refine aw_iload_n d_M_line_27 rfl rfl ?_
        refine aM_iald (by assumption) (by decide) rfl rfl (show k < 8192 by omega) (by decide) d_M_line_28 ?_
        refine aw_iload_n d_M_line_29 rfl rfl ?_
        refine aw_icmp_ne (tgt := 40) d_M_line_30 (by decide) (fun c30 => ?_) (fun c30 => ?_)
        · refine aw_iinc (v := nI k - 1) d_M_line_40 rfl (ax_dec _) (by decide) rfl ?_
          refine aw_goto (tgt := 12) d_M_line_43 (by decide) ?_
          refine aw_ls (ls' := [some (.ref m), some (.int a), some (.int (nI k - 1))]) rfl ?_
          exact ih (by omega) (he.elim Or.inl (fun q => Or.inr (by rw [q, mLineL, if_neg c30])))
        · first | refine aw_aload_n d_M_line_33 rfl rfl ?_ | refine aw_aload_nQ d_M_line_33 rfl rfl ?_ | refine aw_aload_nN d_M_line_33 rfl rfl ?_
          refine aM_get (by assumption) fl_M_120 (by decide) rfl d_M_line_34 ?_
          refine aw_iload_n d_M_line_37 rfl rfl ?_
          refine aM_iald (by assumption) (by decide) rfl rfl (show k < 8192 by omega) (by decide) d_M_line_38 ?_
          refine aw_iret ?_ rfl d_M_line_39
          refine hp _ ?_
          rcases he with he | he
          · exact absurd he c20
          · rw [mLine, if_neg c20, he, mLineL, if_pos c30]
set_option maxRecDepth 20000 in
theorem c_M_line (G : ax_G) (h : ax_H) (m : Nat) (s : mSt) (hR : mR m s h) (K : Nat) (hK : s.1 43 = nI K) (hKb : K ≤ 8192) (a : Int32) : AM G Y_M_line 0 0 [.ref m, .int a] h (fun v h2 => v = some (.int (mLine s a K)) ∧ mR m (va_up s.1 0 0, s.2) h2 ∧ mFr m h h2) := by
  refine aw_enter (by decide) (Nat.le_of_ble_eq_true rfl) (n := 1) (ls := [some (.ref m), some (.int a), none]) rfl (fun x => ?_)
  first | refine aw_aload_n d_M_line_0 rfl rfl ?_ | refine aw_aload_nQ d_M_line_0 rfl rfl ?_ | refine aw_aload_nN d_M_line_0 rfl rfl ?_
  refine aw_iconst (v := 0) d_M_line_1 (by decide) ?_
  refine aM_put (by assumption) fl_M_123 (by decide) rfl rfl rfl rfl d_M_line_2 (fun g2 hR2 hF2 => ?_)
  first | refine aw_aload_n d_M_line_5 rfl rfl ?_ | refine aw_aload_nQ d_M_line_5 rfl rfl ?_ | refine aw_aload_nN d_M_line_5 rfl rfl ?_
  refine aM_get (by assumption) fl_M_234 (by decide) rfl d_M_line_6 ?_
  refine aw_iconst (v := 1) d_M_line_9 (by decide) ?_
  refine aw_isub d_M_line_10 ?_
  refine aw_istore_n d_M_line_11 rfl (by decide) rfl ?_
  have e43 : (va_up s.1 0 0, s.2).1 43 = nI K := hK
  rw [e43]
  refine l_M_line hR2 a K hKb ?_ K (Nat.le_refl _) (Or.inr rfl)
  rintro v rfl
  refine ⟨rfl, hR2, hF2⟩
/-- the first of the image's names from k on, n of them -/
def mAddrL (f : Nat → Int32) (g : Nat → Int64) (r : Nat → Int32) (w : Int64) (a : Int32) : Nat → Nat → Option Int32
  | _, 0 => none
  | k, n + 1 => if f k = a ∧ g k = w then some (r k) else mAddrL f g r w a (k + 1) n
def mAddr (s : mSt) (w : Int64) (a : Int32) (K : Nat) : Option Int32 := if s.1 38 = 0 ∨ a < 1 ∨ 8 < a then none else mAddrL (s.2.1 32) (s.2.2 31) (s.2.1 33) (mCut w a) a 0 K
/-- its answer, and the mark that it threw -/
def mAddrR (r : Option Int32) : Int32 × Int32 := match r with
  | none => (1, 0)
  | some v => (0, v)
set_option maxRecDepth 20000 in
theorem l_M_address {G : ax_G} {x : ax_X} {h0 h : ax_H} {P : Option Value → ax_H → Prop} {m : Nat} {s : mSt} (hR : mR m s h) (w : Int64) (a : Int32) (K : Nat) (hK : s.1 42 = nI K) (hKb : K ≤ 2048) (hp : ∀ h2, mR m (va_up s.1 0 (mAddrR (mAddr s w a K)).1, s.2) h2 → mFr m h h2 → P (some (.int (mAddrR (mAddr s w a K)).2)) h2) : ∀ n k, k + n = K → (s.1 38 = 0 ∨ a < 1 ∨ 8 < a ∨ mAddrL (s.2.1 32) (s.2.2 31) (s.2.1 33) (mCut w a) a 0 K = mAddrL (s.2.1 32) (s.2.2 31) (s.2.1 33) (mCut w a) a k n) → AW G x Y_M_address 1 24 h0 P h 3 [some (.ref m), some (.long w), none, some (.int a), some (.int (nI k))] [] := by
  intro n
  induction n with
  | zero =>
    intro k hk he
    have e : mAddr s w a K = none := by
      rw [mAddr]
      split
      · rfl
      · next q => rcases he with he | he | he | he
                  · exact absurd (Or.inl he) q
                  · exact absurd (Or.inr (Or.inl he)) q
                  · exact absurd (Or.inr (Or.inr he)) q
                  · rw [he]; rfl
    have hkk : k = K := by omega
    subst hkk
    refine aw_iload d_M_address_3 rfl ?_
    first | refine aw_aload_n d_M_address_5 rfl rfl ?_ | refine aw_aload_nQ d_M_address_5 rfl rfl ?_ | refine aw_aload_nN d_M_address_5 rfl rfl ?_
    refine aM_get (by assumption) fl_M_231 (by decide) rfl d_M_address_6 ?_
    refine aw_icmp_ge (tgt := 76) d_M_address_9 (by decide) (fun c9 => ?_) (fun c9 => ?_)
    · first | refine aw_aload_n d_M_address_76 rfl rfl ?_ | refine aw_aload_nQ d_M_address_76 rfl rfl ?_ | refine aw_aload_nN d_M_address_76 rfl rfl ?_
      refine aw_iconst (v := 1) d_M_address_77 (by decide) ?_
      refine aw_iconst (v := 0) d_M_address_78 (by decide) ?_
      refine aw_callV (c_M_give G _ m s (by assumption) _ _) cl_M (mR.obj (by assumption)) m_M_give ml_M_210 rfl rfl (by decide) (by decide) (Nat.le_of_ble_eq_true rfl) d_M_address_79 ?_
      rintro v h' ⟨rfl, hRg, hFg⟩
      refine aw_iret ?_ rfl d_M_address_82
      have hp := hp h'
      rw [e] at hp
      exact hp hRg hFg
    · exact absurd (show s.1 42 ≤ nI k by rw [hK]; exact nI_le (Nat.le_refl _) (by omega)) c9
  | succ n ih =>
    intro k hk he
    refine aw_iload d_M_address_3 rfl ?_
    first | refine aw_aload_n d_M_address_5 rfl rfl ?_ | refine aw_aload_nQ d_M_address_5 rfl rfl ?_ | refine aw_aload_nN d_M_address_5 rfl rfl ?_
    refine aM_get (by assumption) fl_M_231 (by decide) rfl d_M_address_6 ?_
    refine aw_icmp_ge (tgt := 76) d_M_address_9 (by decide) (fun c9 => ?_) (fun c9 => ?_)
    · exact absurd c9 (by rw [show s.1 42 = nI K from hK]; exact nI_ge (by omega) (by omega))
    · first | refine aw_aload_n d_M_address_12 rfl rfl ?_ | refine aw_aload_nQ d_M_address_12 rfl rfl ?_ | refine aw_aload_nN d_M_address_12 rfl rfl ?_
      refine aM_get (by assumption) fl_M_224 (by decide) rfl d_M_address_13 ?_
      refine aw_if_eq (tgt := 76) d_M_address_16 (by decide) (fun c16 => ?_) (fun c16 => ?_)
      · first | refine aw_aload_n d_M_address_76 rfl rfl ?_ | refine aw_aload_nQ d_M_address_76 rfl rfl ?_ | refine aw_aload_nN d_M_address_76 rfl rfl ?_
        refine aw_iconst (v := 1) d_M_address_77 (by decide) ?_
        refine aw_iconst (v := 0) d_M_address_78 (by decide) ?_
        refine aw_callV (c_M_give G _ m s (by assumption) _ _) cl_M (mR.obj (by assumption)) m_M_give ml_M_210 rfl rfl (by decide) (by decide) (Nat.le_of_ble_eq_true rfl) d_M_address_79 ?_
        rintro v h' ⟨rfl, hRg, hFg⟩
        refine aw_iret ?_ rfl d_M_address_82
        have e : mAddr s w a K = none := by rw [mAddr, if_pos (Or.inl c16)]
        have hp := hp h'
        rw [e] at hp
        exact hp hRg hFg
      · refine aw_iload_n d_M_address_19 rfl rfl ?_
        refine aw_iconst (v := 1) d_M_address_20 (by decide) ?_
        refine aw_icmp_lt (tgt := 76) d_M_address_21 (by decide) (fun c21 => ?_) (fun c21 => ?_)
        · first | refine aw_aload_n d_M_address_76 rfl rfl ?_ | refine aw_aload_nQ d_M_address_76 rfl rfl ?_ | refine aw_aload_nN d_M_address_76 rfl rfl ?_
          refine aw_iconst (v := 1) d_M_address_77 (by decide) ?_
          refine aw_iconst (v := 0) d_M_address_78 (by decide) ?_
          refine aw_callV (c_M_give G _ m s (by assumption) _ _) cl_M (mR.obj (by assumption)) m_M_give ml_M_210 rfl rfl (by decide) (by decide) (Nat.le_of_ble_eq_true rfl) d_M_address_79 ?_
          rintro v h' ⟨rfl, hRg, hFg⟩
          refine aw_iret ?_ rfl d_M_address_82
          have e : mAddr s w a K = none := by rw [mAddr, if_pos (Or.inr (Or.inl c21))]
          have hp := hp h'
          rw [e] at hp
          exact hp hRg hFg
        · refine aw_iload_n d_M_address_24 rfl rfl ?_
          refine aw_bipush (v := 8) d_M_address_25 (by decide) ?_
          refine aw_icmp_gt (tgt := 76) d_M_address_27 (by decide) (fun c27 => ?_) (fun c27 => ?_)
          · first | refine aw_aload_n d_M_address_76 rfl rfl ?_ | refine aw_aload_nQ d_M_address_76 rfl rfl ?_ | refine aw_aload_nN d_M_address_76 rfl rfl ?_
            refine aw_iconst (v := 1) d_M_address_77 (by decide) ?_
            refine aw_iconst (v := 0) d_M_address_78 (by decide) ?_
            refine aw_callV (c_M_give G _ m s (by assumption) _ _) cl_M (mR.obj (by assumption)) m_M_give ml_M_210 rfl rfl (by decide) (by decide) (Nat.le_of_ble_eq_true rfl) d_M_address_79 ?_
            rintro v h' ⟨rfl, hRg, hFg⟩
            refine aw_iret ?_ rfl d_M_address_82
            have e : mAddr s w a K = none := by rw [mAddr, if_pos (Or.inr (Or.inr c27))]
            have hp := hp h'
            rw [e] at hp
            exact hp hRg hFg
          · first | refine aw_aload_n d_M_address_30 rfl rfl ?_ | refine aw_aload_nQ d_M_address_30 rfl rfl ?_ | refine aw_aload_nN d_M_address_30 rfl rfl ?_
            refine aM_get (by assumption) fl_M_111 (by decide) rfl d_M_address_31 ?_
            refine aw_iload d_M_address_34 rfl ?_
            refine aM_iald (by assumption) (by decide) rfl rfl (show k < 2048 by omega) (by decide) d_M_address_36 ?_
            refine aw_iload_n d_M_address_37 rfl rfl ?_
            refine aw_icmp_ne (tgt := 70) d_M_address_38 (by decide) (fun c38 => ?_) (fun c38 => ?_)
            · refine aw_iinc (v := nI (k + 1)) d_M_address_70 rfl (ax_inc k) (by decide) rfl ?_
              refine aw_goto (tgt := 3) d_M_address_73 (by decide) ?_
              refine ih (k + 1) (by omega) (Or.inr (Or.inr (Or.inr ?_)))
              rw [(he.resolve_left c16).resolve_left c21 |>.resolve_left c27, mAddrL, if_neg]
              first | exact fun q => c38 q.1 | exact fun q => c54 ((lg_cmp_eq _ _).mpr q.2)
            · first | refine aw_aload_n d_M_address_41 rfl rfl ?_ | refine aw_aload_nQ d_M_address_41 rfl rfl ?_ | refine aw_aload_nN d_M_address_41 rfl rfl ?_
              refine aM_get (by assumption) fl_M_108 (by decide) rfl d_M_address_42 ?_
              refine aw_iload d_M_address_45 rfl ?_
              refine aM_lald (by assumption) (by decide) rfl rfl (show k < 2048 by omega) (by decide) d_M_address_47 ?_
              refine aw_lload_n d_M_address_48 rfl rfl ?_
              refine aw_iload_n d_M_address_49 rfl rfl ?_
              refine aw_callS (c_M_cut G _ w a) m_M_cut ml_M_161 rfl rfl (by decide) (by decide) (Nat.le_of_ble_eq_true rfl) d_M_address_50 ?_
              rintro v h' ⟨rfl, rfl⟩
              refine aw_lcmp d_M_address_53 ?_
              refine aw_if_ne (tgt := 70) d_M_address_54 (by decide) (fun c54 => ?_) (fun c54 => ?_)
              · refine aw_iinc (v := nI (k + 1)) d_M_address_70 rfl (ax_inc k) (by decide) rfl ?_
                refine aw_goto (tgt := 3) d_M_address_73 (by decide) ?_
                refine ih (k + 1) (by omega) (Or.inr (Or.inr (Or.inr ?_)))
                rw [(he.resolve_left c16).resolve_left c21 |>.resolve_left c27, mAddrL, if_neg]
                first | exact fun q => c38 q.1 | exact fun q => c54 ((lg_cmp_eq _ _).mpr q.2)
              · first | refine aw_aload_n d_M_address_57 rfl rfl ?_ | refine aw_aload_nQ d_M_address_57 rfl rfl ?_ | refine aw_aload_nN d_M_address_57 rfl rfl ?_
                refine aw_iconst (v := 0) d_M_address_58 (by decide) ?_
                first | refine aw_aload_n d_M_address_59 rfl rfl ?_ | refine aw_aload_nQ d_M_address_59 rfl rfl ?_ | refine aw_aload_nN d_M_address_59 rfl rfl ?_
                refine aM_get (by assumption) fl_M_114 (by decide) rfl d_M_address_60 ?_
                refine aw_iload d_M_address_63 rfl ?_
                refine aM_iald (by assumption) (by decide) rfl rfl (show k < 2048 by omega) (by decide) d_M_address_65 ?_
                refine aw_callV (c_M_give G _ m s (by assumption) _ _) cl_M (mR.obj (by assumption)) m_M_give ml_M_210 rfl rfl (by decide) (by decide) (Nat.le_of_ble_eq_true rfl) d_M_address_66 ?_
                rintro v h' ⟨rfl, hRg, hFg⟩
                refine aw_iret ?_ rfl d_M_address_69
                have e : mAddr s w a K = some (s.2.1 33 k) := by rw [mAddr, if_neg (fun q => q.elim c16 (fun q => q.elim c21 c27)), (he.resolve_left c16).resolve_left c21 |>.resolve_left c27, mAddrL, if_pos ⟨c38, (lg_cmp_eq _ _).mp c54⟩]
                have hp := hp h'
                rw [e] at hp
                exact hp hRg hFg
set_option maxRecDepth 20000 in
theorem c_M_address (G : ax_G) (h : ax_H) (m : Nat) (s : mSt) (hR : mR m s h) (w : Int64) (a : Int32) (K : Nat) (hK : s.1 42 = nI K) (hKb : K ≤ 2048) : AM G Y_M_address 1 24 [.ref m, .long w, .int a] h (fun v h2 => v = some (.int (mAddrR (mAddr s w a K)).2) ∧ mR m (va_up s.1 0 (mAddrR (mAddr s w a K)).1, s.2) h2 ∧ mFr m h h2) := by
  refine aw_enter (by decide) (Nat.le_of_ble_eq_true rfl) (n := 1) (ls := [some (.ref m), some (.long w), none, some (.int a), none]) rfl (fun x => ?_)
  refine aw_iconst (v := 0) d_M_address_0 (by decide) ?_
  refine aw_istore d_M_address_1 (by decide) rfl ?_
  exact l_M_address hR w a K hK hKb (fun h2 q1 q2 => ⟨rfl, q1, q2⟩) K 0 (by omega) (Or.inr (Or.inr (Or.inr rfl)))
