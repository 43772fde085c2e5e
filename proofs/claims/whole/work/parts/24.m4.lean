/-- sections: sizes and begins -/
def mI1 (s : mSt) (e : Nat → Nat → Nat) (U B : Nat) : Prop := ∀ q, q < 4 * U → (s.2.1 5 q = nI (e 5 q) ∧ e 5 q ≤ 65536) ∧ s.2.1 6 q = nI (e 6 q) ∧ e 6 q + (if q % 4 < 3 then e 5 q else 0) ≤ B
theorem ax_le3 {a b c : Nat} (ha : a < 2 ^ 31) (hb : b ≤ 65536) (hc : c ≤ 65536) (h : nI a ≤ nI c - nI b) : a + b ≤ c := by
  rw [Int32.le_iff_toInt_le, pk_sub_toInt (by omega) (by omega), nI_toInt ha] at h
  omega
theorem mA.same {m : Nat} {s t : mSt} (e1 : s.1 = t.1) (e2 : ∀ k, s.2.1 k = t.2.1 k) (e3 : ∀ k, s.2.2 k = t.2.2 k) (k : Nat) : mA m s k = mA m t k := by
  obtain ⟨a, b, c⟩ := s
  obtain ⟨a', b', c'⟩ := t
  obtain rfl : a = a' := e1
  obtain rfl : b = b' := funext e2
  obtain rfl : c = c' := funext e3
  rfl
theorem mR.same {m : Nat} {a : Nat → Int32} {b b' : Nat → Nat → Int32} {c c' : Nat → Nat → Int64} {h : ax_H} (hR : mR m (a, b, c) h) (e2 : ∀ k, b' k = b k) (e3 : ∀ k, c' k = c k) : mR m (a, b', c') h := fun k hk => (hR k hk).trans (by rw [mA.same (s := (a, b', c')) (t := (a, b, c)) rfl e2 e3 k])
abbrev mLies (s : mSt) (U : Nat) (a p n : Int32) : Prop := 0 < U ∧ 0 ≤ a ∧ a < 3 ∧ 0 ≤ p ∧ p ≤ s.2.1 5 (4 * (U - 1) + a.toNatClampNeg) - n
theorem ax_n1 (n : Nat) (hn : 0 < n) : nI n - 1 = nI (n - 1) := by rw [show (1 : Int32) = nI 1 from rfl, pk_sub (by omega)]
set_option maxRecDepth 20000 in
theorem c_M_lies (G : ax_G) (h : ax_H) (m : Nat) (s : mSt) (hR : mR m s h) (U : Nat) (hU : s.1 1 = nI U) (hUb : U ≤ 32) (a p n : Int32) : AM G Y_M_lies 1 21 [.ref m, .int a, .int p, .int n] h (fun v h2 => h2 = h ∧ v = some (.int (zI (mLies s U a p n)))) := by
  refine aw_enter (by decide) (Nat.le_of_ble_eq_true rfl) (n := 0) (ls := [some (.ref m), some (.int a), some (.int p), some (.int n)]) rfl (fun x => ?_)
  first | refine aw_aload_n d_M_lies_0 rfl rfl ?_ | refine aw_aload_nQ d_M_lies_0 rfl rfl ?_ | refine aw_aload_nN d_M_lies_0 rfl rfl ?_
  refine aM_get (by assumption) fl_M_126 (by decide) rfl d_M_lies_1 ?_
  refine aw_if_le (tgt := 40) d_M_lies_4 (by decide) (fun c4 => ?_) (fun c4 => ?_)
  · refine aw_iconst (v := 0) d_M_lies_40 (by decide) ?_
    refine aw_zret ?_ rfl rfl d_M_lies_41
    refine ⟨rfl, ?_⟩
    rw [zI, if_neg (fun q => absurd c4 (by rw [hU]; exact nI_nle q.1 (by omega)))]
  · refine aw_iload_n d_M_lies_7 rfl rfl ?_
    refine aw_if_lt (tgt := 40) d_M_lies_8 (by decide) (fun c8 => ?_) (fun c8 => ?_)
    · refine aw_iconst (v := 0) d_M_lies_40 (by decide) ?_
      refine aw_zret ?_ rfl rfl d_M_lies_41
      refine ⟨rfl, ?_⟩
      rw [zI, if_neg (fun q => absurd c8 (Int32.not_lt.mpr q.2.1))]
    · refine aw_iload_n d_M_lies_11 rfl rfl ?_
      refine aw_iconst (v := 3) d_M_lies_12 (by decide) ?_
      refine aw_icmp_ge (tgt := 40) d_M_lies_13 (by decide) (fun c13 => ?_) (fun c13 => ?_)
      · refine aw_iconst (v := 0) d_M_lies_40 (by decide) ?_
        refine aw_zret ?_ rfl rfl d_M_lies_41
        refine ⟨rfl, ?_⟩
        rw [zI, if_neg (fun q => absurd q.2.2.1 (Int32.not_lt.mpr c13))]
      · refine aw_iload_n d_M_lies_16 rfl rfl ?_
        refine aw_if_lt (tgt := 40) d_M_lies_17 (by decide) (fun c17 => ?_) (fun c17 => ?_)
        · refine aw_iconst (v := 0) d_M_lies_40 (by decide) ?_
          refine aw_zret ?_ rfl rfl d_M_lies_41
          refine ⟨rfl, ?_⟩
          rw [zI, if_neg (fun q => absurd c17 (Int32.not_lt.mpr q.2.2.2.1))]
        · have hU0 : 0 < U := Nat.pos_of_ne_zero (fun q => c4 (by rw [hU, q]; decide))
          obtain ⟨i, hi, rfl⟩ := ax_ix (M := 3) (by decide) c8 c13
          have hci := nI_clamp (n := i) (by omega)
          refine aw_iload_n d_M_lies_20 rfl rfl ?_
          first | refine aw_aload_n d_M_lies_21 rfl rfl ?_ | refine aw_aload_nQ d_M_lies_21 rfl rfl ?_ | refine aw_aload_nN d_M_lies_21 rfl rfl ?_
          refine aM_get (by assumption) fl_M_22 (by decide) rfl d_M_lies_22 ?_
          first | refine aw_aload_n d_M_lies_25 rfl rfl ?_ | refine aw_aload_nQ d_M_lies_25 rfl rfl ?_ | refine aw_aload_nN d_M_lies_25 rfl rfl ?_
          refine aw_iload_n d_M_lies_26 rfl rfl ?_
          refine aw_callV (c_M_own G _ m _ (by assumption) _) cl_M (mR.obj (by assumption)) m_M_own ml_M_150 rfl rfl (by decide) (by decide) (Nat.le_of_ble_eq_true rfl) d_M_lies_27 ?_
          rintro v h' ⟨rfl, rfl⟩
          have eo : 4 * (s.1 1 - 1) + nI i = nI (4 * (U - 1) + i) := by rw [hU, ax_own hU0]
          refine aM_iald (by assumption) (by decide) rfl eo (show 4 * (U - 1) + i < 128 by omega) (by decide) d_M_lies_30 ?_
          refine aw_iload_n d_M_lies_31 rfl rfl ?_
          refine aw_isub d_M_lies_32 ?_
          refine aw_icmp_gt (tgt := 40) d_M_lies_33 (by decide) (fun c33 => ?_) (fun c33 => ?_)
          · refine aw_iconst (v := 0) d_M_lies_40 (by decide) ?_
            refine aw_zret ?_ rfl rfl d_M_lies_41
            refine ⟨rfl, ?_⟩
            rw [zI, if_neg (fun q => absurd c33 (Int32.not_lt.mpr (by have z := q.2.2.2.2; rw [hci] at z; exact z)))]
          · refine aw_iconst (v := 1) d_M_lies_36 (by decide) ?_
            refine aw_goto (tgt := 41) d_M_lies_37 (by decide) ?_
            refine aw_zret ?_ rfl rfl d_M_lies_41
            refine ⟨rfl, ?_⟩
            rw [zI, if_pos ⟨hU0, Int32.not_lt.mp c8, Int32.not_le.mp c13, Int32.not_lt.mp c17, by rw [hci]; exact Int32.not_lt.mp c33⟩]
abbrev mStartOk (s : mSt) (U T : Nat) (p l : Int32) : Prop := 0 < U ∧ 0 ≤ p ∧ p < s.2.1 5 (4 * (U - 1)) ∧ (0 ≤ l ∧ l ≤ 65535) ∧ ¬ T = 8192
def mStart (s : mSt) (U T : Nat) (p l : Int32) : mSt := if mStartOk s U T p l then (va_up (va_up s.1 0 0) 4 (s.1 4 + 1), va_up (va_up (va_up s.2.1 25 (va_up (s.2.1 25) T (s.1 1 - 1))) 26 (va_up (s.2.1 26) T p)) 27 (va_up (s.2.1 27) T l), s.2.2) else (va_up s.1 0 0, s.2)
set_option maxRecDepth 20000 in
theorem c_M_start (G : ax_G) (h : ax_H) (m : Nat) (s : mSt) (hR : mR m s h) (U T : Nat) (hU : s.1 1 = nI U) (hUb : U ≤ 32) (hT : s.1 4 = nI T) (hTb : T ≤ 8192) (p l : Int32) : AM G Y_M_start 1 21 [.ref m, .int p, .int l] h (fun v h2 => v = some (.int (zI (mStartOk s U T p l))) ∧ mR m (mStart s U T p l) h2 ∧ mFr m h h2) := by
  refine aw_enter (by decide) (Nat.le_of_ble_eq_true rfl) (n := 0) (ls := [some (.ref m), some (.int p), some (.int l)]) rfl (fun x => ?_)
  first | refine aw_aload_n d_M_start_0 rfl rfl ?_ | refine aw_aload_nQ d_M_start_0 rfl rfl ?_ | refine aw_aload_nN d_M_start_0 rfl rfl ?_
  refine aw_iconst (v := 0) d_M_start_1 (by decide) ?_
  refine aM_put (by assumption) fl_M_123 (by decide) rfl rfl rfl rfl d_M_start_2 (fun g2 hR2 hF2 => ?_)
  first | refine aw_aload_n d_M_start_5 rfl rfl ?_ | refine aw_aload_nQ d_M_start_5 rfl rfl ?_ | refine aw_aload_nN d_M_start_5 rfl rfl ?_
  refine aM_get (by assumption) fl_M_126 (by decide) rfl d_M_start_6 ?_
  refine aw_if_eq (tgt := 47) d_M_start_9 (by decide) (fun c9 => ?_) (fun c9 => ?_)
  · refine aw_iconst (v := 0) d_M_start_47 (by decide) ?_
    refine aw_zret ?_ rfl rfl d_M_start_48
    have hno : ¬ mStartOk s U T p l := fun q => absurd ((nI_eq (a := U) (b := 0) (by omega) (by omega)).mp (by rw [← hU]; exact c9)) (by have := q.1; omega)
    rw [mStart, if_neg hno, zI, if_neg hno]
    exact ⟨rfl, hR2, hF2⟩
  · have hU0 : 0 < U := Nat.pos_of_ne_zero (fun q => c9 (by show s.1 1 = 0; rw [hU, q]; rfl))
    refine aw_iload_n d_M_start_12 rfl rfl ?_
    refine aw_if_lt (tgt := 47) d_M_start_13 (by decide) (fun c13 => ?_) (fun c13 => ?_)
    · refine aw_iconst (v := 0) d_M_start_47 (by decide) ?_
      refine aw_zret ?_ rfl rfl d_M_start_48
      have hno : ¬ mStartOk s U T p l := fun q => absurd c13 (Int32.not_lt.mpr q.2.1)
      rw [mStart, if_neg hno, zI, if_neg hno]
      exact ⟨rfl, hR2, hF2⟩
    · refine aw_iload_n d_M_start_16 rfl rfl ?_
      first | refine aw_aload_n d_M_start_17 rfl rfl ?_ | refine aw_aload_nQ d_M_start_17 rfl rfl ?_ | refine aw_aload_nN d_M_start_17 rfl rfl ?_
      refine aM_get (by assumption) fl_M_22 (by decide) rfl d_M_start_18 ?_
      first | refine aw_aload_n d_M_start_21 rfl rfl ?_ | refine aw_aload_nQ d_M_start_21 rfl rfl ?_ | refine aw_aload_nN d_M_start_21 rfl rfl ?_
      refine aw_iconst (v := 0) d_M_start_22 (by decide) ?_
      refine aw_callV (c_M_own G _ m _ (by assumption) _) cl_M (mR.obj (by assumption)) m_M_own ml_M_150 rfl rfl (by decide) (by decide) (Nat.le_of_ble_eq_true rfl) d_M_start_23 ?_
      rintro v h' ⟨rfl, rfl⟩
      have eo : 4 * ((va_up s.1 0 0, s.2).1 1 - 1) + 0 = nI (4 * (U - 1)) := by
        show 4 * (s.1 1 - 1) + nI 0 = _
        rw [hU, ax_own hU0, Nat.add_zero]
      refine aM_iald (by assumption) (by decide) rfl eo (show 4 * (U - 1) < 128 by omega) (by decide) d_M_start_26 ?_
      refine aw_icmp_ge (tgt := 47) d_M_start_27 (by decide) (fun c27 => ?_) (fun c27 => ?_)
      · refine aw_iconst (v := 0) d_M_start_47 (by decide) ?_
        refine aw_zret ?_ rfl rfl d_M_start_48
        have hno : ¬ mStartOk s U T p l := fun q => absurd c27 (Int32.not_le.mpr q.2.2.1)
        rw [mStart, if_neg hno, zI, if_neg hno]
        exact ⟨rfl, hR2, hF2⟩
      · refine aw_iload_n d_M_start_30 rfl rfl ?_
        refine aw_callS (c_M_isLine G _ l) m_M_isLine ml_M_158 rfl rfl (by decide) (by decide) (Nat.le_of_ble_eq_true rfl) d_M_start_31 ?_
        rintro v h' ⟨rfl, rfl⟩
        refine aw_if_eq (tgt := 47) d_M_start_34 (by decide) (fun c34 => ?_) (fun c34 => ?_)
        · refine aw_iconst (v := 0) d_M_start_47 (by decide) ?_
          refine aw_zret ?_ rfl rfl d_M_start_48
          have hno : ¬ mStartOk s U T p l := fun q => absurd c34 (by rw [zI, if_pos q.2.2.2.1]; decide)
          rw [mStart, if_neg hno, zI, if_neg hno]
          exact ⟨rfl, hR2, hF2⟩
        · first | refine aw_aload_n d_M_start_37 rfl rfl ?_ | refine aw_aload_nQ d_M_start_37 rfl rfl ?_ | refine aw_aload_nN d_M_start_37 rfl rfl ?_
          refine aM_get (by assumption) fl_M_135 (by decide) rfl d_M_start_38 ?_
          refine aw_sipush (v := 8192) d_M_start_41 (by decide) ?_
          refine aw_icmp_ne (tgt := 49) d_M_start_44 (by decide) (fun c44 => ?_) (fun c44 => ?_)
          · have hTl : T < 8192 := Nat.lt_of_le_of_ne hTb (fun q => c44 (by show s.1 4 = 8192; rw [hT, q]; rfl))
            first | refine aw_aload_n d_M_start_49 rfl rfl ?_ | refine aw_aload_nQ d_M_start_49 rfl rfl ?_ | refine aw_aload_nN d_M_start_49 rfl rfl ?_
            refine aM_get (by assumption) fl_M_86 (by decide) rfl d_M_start_50 ?_
            first | refine aw_aload_n d_M_start_53 rfl rfl ?_ | refine aw_aload_nQ d_M_start_53 rfl rfl ?_ | refine aw_aload_nN d_M_start_53 rfl rfl ?_
            refine aM_get (by assumption) fl_M_135 (by decide) rfl d_M_start_54 ?_
            first | refine aw_aload_n d_M_start_57 rfl rfl ?_ | refine aw_aload_nQ d_M_start_57 rfl rfl ?_ | refine aw_aload_nN d_M_start_57 rfl rfl ?_
            refine aM_get (by assumption) fl_M_126 (by decide) rfl d_M_start_58 ?_
            refine aw_iconst (v := 1) d_M_start_61 (by decide) ?_
            refine aw_isub d_M_start_62 ?_
            refine aM_iast (by assumption) (by decide) rfl hT (show T < 8192 from hTl) (by decide) d_M_start_63 (fun g63 hR63 hF63 => ?_)
            first | refine aw_aload_n d_M_start_64 rfl rfl ?_ | refine aw_aload_nQ d_M_start_64 rfl rfl ?_ | refine aw_aload_nN d_M_start_64 rfl rfl ?_
            refine aM_get (by assumption) fl_M_89 (by decide) rfl d_M_start_65 ?_
            first | refine aw_aload_n d_M_start_68 rfl rfl ?_ | refine aw_aload_nQ d_M_start_68 rfl rfl ?_ | refine aw_aload_nN d_M_start_68 rfl rfl ?_
            refine aM_get (by assumption) fl_M_135 (by decide) rfl d_M_start_69 ?_
            refine aw_iload_n d_M_start_72 rfl rfl ?_
            refine aM_iast (by assumption) (by decide) rfl hT (show T < 8192 from hTl) (by decide) d_M_start_73 (fun g73 hR73 hF73 => ?_)
            first | refine aw_aload_n d_M_start_74 rfl rfl ?_ | refine aw_aload_nQ d_M_start_74 rfl rfl ?_ | refine aw_aload_nN d_M_start_74 rfl rfl ?_
            refine aM_get (by assumption) fl_M_92 (by decide) rfl d_M_start_75 ?_
            first | refine aw_aload_n d_M_start_78 rfl rfl ?_ | refine aw_aload_nQ d_M_start_78 rfl rfl ?_ | refine aw_aload_nN d_M_start_78 rfl rfl ?_
            refine aM_get (by assumption) fl_M_135 (by decide) rfl d_M_start_79 ?_
            refine aw_iload_n d_M_start_82 rfl rfl ?_
            refine aM_iast (by assumption) (by decide) rfl hT (show T < 8192 from hTl) (by decide) d_M_start_83 (fun g83 hR83 hF83 => ?_)
            first | refine aw_aload_n d_M_start_84 rfl rfl ?_ | refine aw_aload_nQ d_M_start_84 rfl rfl ?_ | refine aw_aload_nN d_M_start_84 rfl rfl ?_
            refine aw_dup d_M_start_85 rfl ?_
            refine aM_get (by assumption) fl_M_135 (by decide) rfl d_M_start_86 ?_
            refine aw_iconst (v := 1) d_M_start_89 (by decide) ?_
            refine aw_iadd d_M_start_90 ?_
            refine aM_put (by assumption) fl_M_135 (by decide) rfl rfl rfl rfl d_M_start_91 (fun g91 hR91 hF91 => ?_)
            refine aw_iconst (v := 1) d_M_start_94 (by decide) ?_
            refine aw_zret ?_ rfl rfl d_M_start_95
            have hyes : mStartOk s U T p l := ⟨hU0, Int32.not_lt.mp c13, Int32.not_le.mp c27, by
              by_cases q : 0 ≤ l ∧ l ≤ 65535
              · exact q
              · exact absurd (show zI (0 ≤ l ∧ l ≤ 65535) = 0 by rw [zI, if_neg q]) c34, fun q => c44 (by show s.1 4 = 8192; rw [hT, q]; rfl)⟩
            rw [mStart, if_pos hyes, zI, if_pos hyes]
            exact ⟨rfl, hR91, ((((hF2.tr hF63).tr hF73).tr hF83).tr hF91)⟩
          · refine aw_iconst (v := 0) d_M_start_47 (by decide) ?_
            refine aw_zret ?_ rfl rfl d_M_start_48
            have hno : ¬ mStartOk s U T p l := fun q => q.2.2.2.2 ((nI_eq (a := T) (b := 8192) (by omega) (by omega)).mp (by rw [← hT]; exact c44))
            rw [mStart, if_neg hno, zI, if_neg hno]
            exact ⟨rfl, hR2, hF2⟩
/-- byte k of a long, lowest first -/
def mByte (v : Int64) (k : Nat) : Int32 := (v >>> ((8 * nI k).toInt64 &&& 63)).toInt32.toInt8.toInt32
/-- bytes from a place on become the n lowest of v -/
def mPutB (f : Nat → Int32) (a : Nat) (v : Int64) : Nat → Nat → Int32
  | 0 => f
  | k + 1 => va_up (mPutB f a v k) (a + k) (mByte v k)
theorem ax_b8 (x : Int32) : x.toInt8.toInt32.toInt8.toInt32 = x.toInt8.toInt32 := Value.int.inj (pk_nb x)
abbrev mPutOk (s : mSt) (U : Nat) (a p n : Int32) : Prop := (1 ≤ n ∧ n ≤ 8) ∧ mLies s U a p n
def mPut (s : mSt) (U : Nat) (a p : Int32) (v : Int64) (n : Int32) : mSt := if mPutOk s U a p n then (va_up s.1 0 0, va_up s.2.1 8 (mPutB (s.2.1 8) ((s.2.1 6 (4 * (U - 1) + a.toNatClampNeg)).toNatClampNeg + p.toNatClampNeg) v n.toNatClampNeg), s.2.2) else (va_up s.1 0 0, s.2)
set_option maxRecDepth 20000 in
theorem l_M_put {G : ax_G} {x : ax_X} {h0 : ax_H} {P : Option Value → ax_H → Prop} {m : Nat} (s : mSt) (U : Nat) (hU : s.1 1 = nI U) (hU0 : 0 < U) (hUb : U ≤ 32) (i j N b : Nat) (v : Int64) (hi : i < 3) (hN : N ≤ 8) (hbg : s.2.1 6 (4 * (U - 1) + i) = nI b) (hin : b + j + N ≤ 262144) (hq : ax_H) (hp : ∀ h2, mR m (s.1, va_up s.2.1 8 (mPutB (s.2.1 8) (b + j) v N), s.2.2) h2 → mFr m hq h2 → P (some (.int 1)) h2) : ∀ r k h, k + r = N → mR m (s.1, va_up s.2.1 8 (mPutB (s.2.1 8) (b + j) v k), s.2.2) h → mFr m hq h → AW G x Y_M_put 2 44 h0 P h 34 [some (.ref m), some (.int (nI i)), some (.int (nI j)), some (.long v), none, some (.int (nI N)), some (.int (nI k))] [] := by
  intro r
  induction r with
  | zero =>
    intro k h hk hR hF
    have hkk : k = N := by omega
    subst hkk
    refine aw_iload d_M_put_34 rfl ?_
    refine aw_iload d_M_put_36 rfl ?_
    refine aw_icmp_ge (tgt := 76) d_M_put_38 (by decide) (fun c38 => ?_) (fun c38 => ?_)
    · refine aw_iconst (v := 1) d_M_put_76 (by decide) ?_
      refine aw_zret ?_ rfl rfl d_M_put_77
      exact hp _ hR hF
    · exact absurd (nI_le (Nat.le_refl _) (by omega)) c38
  | succ r ih =>
    intro k h hk hR hF
    refine aw_iload d_M_put_34 rfl ?_
    refine aw_iload d_M_put_36 rfl ?_
    refine aw_icmp_ge (tgt := 76) d_M_put_38 (by decide) (fun c38 => ?_) (fun c38 => ?_)
    · exact absurd c38 (nI_ge (by omega) (by omega))
    · first | refine aw_aload_n d_M_put_41 rfl rfl ?_ | refine aw_aload_nQ d_M_put_41 rfl rfl ?_ | refine aw_aload_nN d_M_put_41 rfl rfl ?_
      refine aM_get (by assumption) fl_M_33 (by decide) rfl d_M_put_42 ?_
      first | refine aw_aload_n d_M_put_45 rfl rfl ?_ | refine aw_aload_nQ d_M_put_45 rfl rfl ?_ | refine aw_aload_nN d_M_put_45 rfl rfl ?_
      refine aM_get (by assumption) fl_M_26 (by decide) rfl d_M_put_46 ?_
      first | refine aw_aload_n d_M_put_49 rfl rfl ?_ | refine aw_aload_nQ d_M_put_49 rfl rfl ?_ | refine aw_aload_nN d_M_put_49 rfl rfl ?_
      refine aw_iload_n d_M_put_50 rfl rfl ?_
      refine aw_callV (c_M_own G _ m _ (by assumption) _) cl_M (mR.obj (by assumption)) m_M_own ml_M_150 rfl rfl (by decide) (by decide) (Nat.le_of_ble_eq_true rfl) d_M_put_51 ?_
      rintro v h' ⟨rfl, rfl⟩
      have eo : 4 * (s.1 1 - 1) + nI i = nI (4 * (U - 1) + i) := by rw [hU, ax_own hU0]
      refine aM_iald (by assumption) (by decide) rfl eo (show 4 * (U - 1) + i < 128 by omega) (by decide) d_M_put_54 ?_
      refine aw_iload_n d_M_put_55 rfl rfl ?_
      refine aw_iadd d_M_put_56 ?_
      refine aw_iload d_M_put_57 rfl ?_
      refine aw_iadd d_M_put_59 ?_
      refine aw_lload_n d_M_put_60 rfl rfl ?_
      refine aw_bipush (v := 8) d_M_put_61 (by decide) ?_
      refine aw_iload d_M_put_63 rfl ?_
      refine aw_imul d_M_put_65 ?_
      refine aw_lshr d_M_put_66 ?_
      refine aw_l2i d_M_put_67 ?_
      refine aw_i2b d_M_put_68 ?_
      have ej : s.2.1 6 (4 * (U - 1) + i) + nI j + nI k = nI (b + j + k) := by rw [hbg, nI_add, nI_add]
      refine aM_bast (by assumption) (by decide) rfl ej (show b + j + k < 262144 by omega) (by decide) d_M_put_69 (fun g69 hR69 hF69 => ?_)
      refine aw_iinc (v := nI (k + 1)) d_M_put_70 rfl (ax_inc k) (by decide) rfl ?_
      refine aw_goto (tgt := 34) d_M_put_73 (by decide) ?_
      refine ih (k + 1) _ (by omega) ?_ (hF.tr hF69)
      have hR69 : mR m (s.1, va_up (va_up s.2.1 8 (mPutB (s.2.1 8) (b + j) v k)) 8 (va_up (mPutB (s.2.1 8) (b + j) v k) (b + j + k) (v >>> ((8 * nI k).toInt64 &&& 63)).toInt32.toInt8.toInt32.toInt8.toInt32), s.2.2) g69 := hR69
      rw [bx_uu, ax_b8] at hR69
      exact hR69
set_option maxRecDepth 20000 in
theorem c_M_put (G : ax_G) (h : ax_H) (m : Nat) (s : mSt) (hR : mR m s h) (U B : Nat) (e : Nat → Nat → Nat) (hU : s.1 1 = nI U) (hUb : U ≤ 32) (hBb : B ≤ 262144) (hI : mI1 s e U B) (a p : Int32) (w : Int64) (n : Int32) : AM G Y_M_put 2 44 [.ref m, .int a, .int p, .long w, .int n] h (fun v h2 => v = some (.int (zI (mPutOk s U a p n))) ∧ mR m (mPut s U a p w n) h2 ∧ mFr m h h2) := by
  refine aw_enter (by decide) (Nat.le_of_ble_eq_true rfl) (n := 1) (ls := [some (.ref m), some (.int a), some (.int p), some (.long w), none, some (.int n), none]) rfl (fun x => ?_)
  first | refine aw_aload_n d_M_put_0 rfl rfl ?_ | refine aw_aload_nQ d_M_put_0 rfl rfl ?_ | refine aw_aload_nN d_M_put_0 rfl rfl ?_
  refine aw_iconst (v := 0) d_M_put_1 (by decide) ?_
  refine aM_put (by assumption) fl_M_123 (by decide) rfl rfl rfl rfl d_M_put_2 (fun g2 hR2 hF2 => ?_)
  refine aw_iload d_M_put_5 rfl ?_
  refine aw_iconst (v := 1) d_M_put_7 (by decide) ?_
  refine aw_icmp_lt (tgt := 29) d_M_put_8 (by decide) (fun c8 => ?_) (fun c8 => ?_)
  · refine aw_iconst (v := 0) d_M_put_29 (by decide) ?_
    refine aw_zret ?_ rfl rfl d_M_put_30
    have hno : ¬ mPutOk s U a p n := fun q => absurd c8 (Int32.not_lt.mpr q.1.1)
    rw [mPut, if_neg hno, zI, if_neg hno]
    exact ⟨rfl, hR2, hF2⟩
  · refine aw_iload d_M_put_11 rfl ?_
    refine aw_bipush (v := 8) d_M_put_13 (by decide) ?_
    refine aw_icmp_gt (tgt := 29) d_M_put_15 (by decide) (fun c15 => ?_) (fun c15 => ?_)
    · refine aw_iconst (v := 0) d_M_put_29 (by decide) ?_
      refine aw_zret ?_ rfl rfl d_M_put_30
      have hno : ¬ mPutOk s U a p n := fun q => absurd c15 (Int32.not_lt.mpr q.1.2)
      rw [mPut, if_neg hno, zI, if_neg hno]
      exact ⟨rfl, hR2, hF2⟩
    · first | refine aw_aload_n d_M_put_18 rfl rfl ?_ | refine aw_aload_nQ d_M_put_18 rfl rfl ?_ | refine aw_aload_nN d_M_put_18 rfl rfl ?_
      refine aw_iload_n d_M_put_19 rfl rfl ?_
      refine aw_iload_n d_M_put_20 rfl rfl ?_
      refine aw_iload d_M_put_21 rfl ?_
      refine aw_callV (c_M_lies G _ m (va_up s.1 0 0, s.2) hR2 U hU hUb a p n) cl_M (mR.obj (by assumption)) m_M_lies ml_M_154 rfl rfl (by decide) (by decide) (Nat.le_of_ble_eq_true rfl) d_M_put_23 ?_
      rintro v h' ⟨rfl, rfl⟩
      refine aw_if_ne (tgt := 31) d_M_put_26 (by decide) (fun c26 => ?_) (fun c26 => ?_)
      · refine aw_iconst (v := 0) d_M_put_31 (by decide) ?_
        refine aw_istore d_M_put_32 (by decide) rfl ?_
        have hl : mLies s U a p n := by
          by_cases q : mLies s U a p n
          · exact q
          · exact absurd (show zI (mLies (va_up s.1 0 0, s.2) U a p n) = 0 by rw [zI, if_neg q]) c26
        obtain ⟨hU0, q1, q2, q3, q4⟩ := id hl
        obtain ⟨i, hi, rfl⟩ := ax_ix (M := 3) (by decide) (Int32.not_lt.mpr q1) (Int32.not_le.mpr q2)
        obtain ⟨j, hj, rfl⟩ := nI_of (Int32.not_lt.mpr q3)
        obtain ⟨N, hN, rfl⟩ := nI_of2 (n := 8) (by decide) (fun z => absurd (Int32.lt_of_lt_of_le z (by decide : (0 : Int32) ≤ 1)) c8) (Int32.not_lt.mp c15)
        obtain ⟨⟨z1, z2⟩, z3, z4⟩ := hI (4 * (U - 1) + i) (by omega)
        have hci := nI_clamp (n := i) (by omega)
        have hcj := nI_clamp hj
        have hcN := nI_clamp (n := N) (by omega)
        rw [hci, z1] at q4
        have hjn : j + N ≤ e 5 (4 * (U - 1) + i) := ax_le3 hj (by omega) (by omega) q4
        rw [if_pos (show (4 * (U - 1) + i) % 4 < 3 by omega)] at z4
        have hb := nI_clamp (n := e 6 (4 * (U - 1) + i)) (by omega)
        have hyes : mPutOk s U (nI i) (nI j) (nI N) := ⟨⟨Int32.not_lt.mp c8, Int32.not_lt.mp c15⟩, hl⟩
        rw [mPut, if_pos hyes, zI, if_pos hyes, hci, hcj, hcN, z3, hb]
        refine l_M_put (va_up s.1 0 0, s.2) U hU hU0 hUb i j N (e 6 (4 * (U - 1) + i)) w hi hN z3 (by omega) h (fun h2 r1 r2 => ⟨rfl, r1, r2⟩) N 0 _ (by omega) ?_ hF2
        refine hR2.same (fun k => ?_) (fun k => rfl)
        by_cases hk : k = 8
        · subst hk
          exact va_up_self _ _ _
        · exact va_up_ne _ _ hk
      · refine aw_iconst (v := 0) d_M_put_29 (by decide) ?_
        refine aw_zret ?_ rfl rfl d_M_put_30
        have hno : ¬ mPutOk s U a p n := fun q => absurd c26 (by rw [zI, if_pos q.2]; decide)
        rw [mPut, if_neg hno, zI, if_neg hno]
        exact ⟨rfl, hR2, hF2⟩
