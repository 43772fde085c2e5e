/-- the image -/
def cKi (c : cSt) (s : mSt) : Prop := (∀ k, k < 7 → c.2.1 9 k = if s.1 38 = 0 then 0 else s.2.1 30 k) ∧ (c.2.1 9 6 = if s.1 38 = 0 then 0 else s.1 39) ∧ (¬ s.1 38 = 0 → ∀ i, i < iN (s.1 39) → c.2.1 10 i &&& 255 = s.2.1 29 i &&& 255) ∧ (∃ K, K ≤ 2048 ∧ c.1 53 = nI K ∧ ∀ w a, mAddrL (c.2.1 12) (c.2.2.1 11) (c.2.1 13) w a 0 K = if s.1 38 = 0 then none else mAddrL (s.2.1 32) (s.2.2 31) (s.2.1 33) w a 0 (iN (s.1 42))) ∧ (∃ K, K ≤ 8192 ∧ c.1 54 = nI K ∧ (s.1 38 = 0 → K = 0) ∧ (¬ s.1 38 = 0 → s.1 43 = nI K) ∧ ∀ i, i < K → c.2.1 14 i = s.2.1 34 i ∧ c.2.1 15 i = s.2.1 35 i)
/-- which sections the latest link needed -/
def cKn (c : cSt) (s : mSt) (U S : Nat) : Prop := (∃ J, J ≤ U ∧ s.1 36 = nI J) ∧ (∀ q, q < 4 * U → c.2.1 27 q = zI (nI (q / 4) < s.1 36 ∧ ¬ s.2.1 28 q = 0)) ∧ c.2.2.2.2.2 1 ≤ S
def cKf (c : cSt) (s : mSt) : Prop := c.1 50 = s.1 33 ∧ c.1 51 = s.1 34 ∧ c.1 52 = s.1 35
def cKb (c : cSt) (s : mSt) (B : Nat) : Prop := c.1 14 = nI B ∧ (∀ i, i < B → c.2.1 6 i = s.2.1 8 i) ∧ ∀ i, fits .byte (.int (c.2.1 6 i)) = true
def cRm (o n : Nat) (h : ax_H) : Prop := h.1 + 7 * n ≤ o + room_1.cells ∧ h.2.1 + 40 * n ≤ room_1.slots
def cC (o : Nat) : lawP := fun s e U S W T B n h => ∃ c, cR o c h ∧ cJ c s e U S W T ∧ cKi c s ∧ cKn c s U S ∧ cKf c s ∧ cKb c s B ∧ cRm o n h
theorem cRm.dn {o n : Nat} {h : ax_H} (r : cRm o (n + 1) h) : cRm o n h := ⟨by have := r.1; omega, by have := r.2; omega⟩
theorem cRm.fr {o n t : Nat} {h h2 : ax_H} (r : cRm o (n + 1) h) (f : cFr o t h h2) : cRm o n h2 := by
  have := r.dn
  unfold cRm at this ⊢
  rw [f.1, f.2.1]
  exact this
theorem lawF.rf (m q : Nat) (h : ax_H) : lawF m q h h := ⟨fun _ _ => rfl, rfl⟩
theorem cFr.law {o t : Nat} {h h2 : ax_H} (f : cFr o t h h2) : lawF (o + 17) (o + 53) h h2 := ⟨fun k hk => f.2.2 _ (Or.inl (by omega)), f.2.2 _ (Or.inl (by omega))⟩
theorem cC.dn {o : Nat} {s : mSt} {e : Nat → Nat → Nat} {U S W T B n : Nat} {h : ax_H} (x : cC o s e U S W T B (n + 1) h) : cC o s e U S W T B n h := by
  obtain ⟨c, a1, a2, a3, a4, a5, a6, a7⟩ := x
  exact ⟨c, a1, a2, a3, a4, a5, a6, a7.dn⟩
theorem cC.law {o : Nat} : lawK (cC o) o (o + 17) (o + 53) := by
  refine ⟨?_, ?_, ?_, Or.inr (by omega), ?_⟩
  · rintro s e U S W T B n h ⟨c, a1, -⟩
    exact ⟨_, a1.obj⟩
  · rintro s e U S W T B n h h2 ⟨f1, f2, f3⟩ ⟨c, a1, a2, a3, a4, a5, a6, a7⟩
    refine ⟨c, a1.frame (by rw [f1]; exact a1.2.1) (fun a q1 q2 => f3 a (by omega)), a2, a3, a4, a5, a6, ?_⟩
    unfold cRm at a7 ⊢
    rw [f1, f2]
    exact a7
  · rintro s e U S W T B n h z ⟨c, a1, a2, a3, a4, a5, a6, a7⟩
    exact ⟨c, a1, a2, a3, a4, a5, a6, a7⟩
  · rintro s e U S W T B n h E ⟨c, a1, a2, a3, a4, a5, a6, a7⟩
    exact ⟨c, a1.frame a1.2.1 (fun a q1 q2 => ax_get_ne _ (by omega)), a2, a3, a4, a5, a6, a7⟩
theorem i32_012 {a : Int32} (h0 : ¬ a = 0) (h1 : ¬ a = 1) (h2 : ¬ a = 2) : a.toInt < 0 ∨ 2 < a.toInt := by
  have e0 : (0 : Int32).toInt = 0 := by decide
  have e1 : (1 : Int32).toInt = 1 := by decide
  have e2 : (2 : Int32).toInt = 2 := by decide
  have g0 : ¬ a.toInt = 0 := fun q => h0 (Int32.toInt_inj.mp (q.trans e0.symm))
  have g1 : ¬ a.toInt = 1 := fun q => h1 (Int32.toInt_inj.mp (q.trans e1.symm))
  have g2 : ¬ a.toInt = 2 := fun q => h2 (Int32.toInt_inj.mp (q.trans e2.symm))
  omega
set_option maxRecDepth 20000 in
theorem k_Fault (G : ax_G) (o : Nat) : lawFault G (cC o) o (o + 17) (o + 53) := by
  intro s e U S W T B n h a hV hM hC
  obtain ⟨c, hR, hJ, hKi, hKn, hKf, hKb, hRm⟩ := hC
  have hy := hV.1
  refine aw_enter (by decide) (Nat.le_of_ble_eq_true rfl) (n := 0) (ls := [some (.ref o), some (.int a)]) rfl (fun x => ?_)
  by_cases e0 : a = 0
  · subst e0
    refine aw_iload_n d_L_fault_0 rfl rfl ?_
    refine aw_tin (tgt := 28) d_L_fault_1 (by decide) (by decide) rfl (by decide) ?_
    refine aw_aloadV_n d_L_fault_28 rfl rfl (by first | exact Or.inl ⟨_, rfl⟩ | exact Or.inr rfl | exact rv_Q _) ?_
    refine aw_get cl_L fl_L_47 (by decide) hR.obj rfl d_L_fault_29 ?_
    refine aw_get cl_Fault fl_L_204 (by decide) hR.flt rfl d_L_fault_32 ?_
    refine aw_iret ?_ rfl d_L_fault_35
    exact ⟨by rw [mFault, if_pos rfl, hKf.1], ⟨c, hR, hJ, hKi, hKn, hKf, hKb, hRm.dn⟩, lawF.rf _ _ _⟩
  · by_cases e1 : a = 1
    · subst e1
      refine aw_iload_n d_L_fault_0 rfl rfl ?_
      refine aw_tin (tgt := 36) d_L_fault_1 (by decide) (by decide) rfl (by decide) ?_
      refine aw_aloadV_n d_L_fault_36 rfl rfl (by first | exact Or.inl ⟨_, rfl⟩ | exact Or.inr rfl | exact rv_Q _) ?_
      refine aw_get cl_L fl_L_47 (by decide) hR.obj rfl d_L_fault_37 ?_
      refine aw_get cl_Fault fl_L_231 (by decide) hR.flt rfl d_L_fault_40 ?_
      refine aw_iret ?_ rfl d_L_fault_43
      exact ⟨by rw [mFault, if_neg (by decide), if_pos rfl, hKf.2.1], ⟨c, hR, hJ, hKi, hKn, hKf, hKb, hRm.dn⟩, lawF.rf _ _ _⟩
    · by_cases e2 : a = 2
      · subst e2
        refine aw_iload_n d_L_fault_0 rfl rfl ?_
        refine aw_tin (tgt := 44) d_L_fault_1 (by decide) (by decide) rfl (by decide) ?_
        refine aw_aloadV_n d_L_fault_44 rfl rfl (by first | exact Or.inl ⟨_, rfl⟩ | exact Or.inr rfl | exact rv_Q _) ?_
        refine aw_get cl_L fl_L_47 (by decide) hR.obj rfl d_L_fault_45 ?_
        refine aw_get cl_Fault fl_L_234 (by decide) hR.flt rfl d_L_fault_48 ?_
        refine aw_iret ?_ rfl d_L_fault_51
        exact ⟨by rw [mFault, if_neg (by decide), if_neg (by decide), if_pos rfl, hKf.2.2], ⟨c, hR, hJ, hKi, hKn, hKf, hKb, hRm.dn⟩, lawF.rf _ _ _⟩
      · refine aw_iload_n d_L_fault_0 rfl rfl ?_
        refine aw_tout (tgt := 52) d_L_fault_1 (i32_012 e0 e1 e2) (by decide) ?_
        refine aw_iconst (v := (-1)) d_L_fault_52 (by decide) ?_
        refine aw_iret ?_ rfl d_L_fault_53
        exact ⟨by rw [mFault, if_neg e0, if_neg e1, if_neg e2], ⟨c, hR, hJ, hKi, hKn, hKf, hKb, hRm.dn⟩, lawF.rf _ _ _⟩
theorem i32_gt6 {a : Int32} (h : 7 ≤ a) : 6 < a := by
  have := Int32.le_iff_toInt_le.mp h
  have e1 : (7 : Int32).toInt = 7 := by decide
  have e2 : (6 : Int32).toInt = 6 := by decide
  exact Int32.lt_iff_toInt_lt.mpr (by omega)
theorem i32_gt6n {a : Int32} (h : 6 < a) (h2 : a < 7) : False := by
  have := Int32.lt_iff_toInt_lt.mp h
  have := Int32.lt_iff_toInt_lt.mp h2
  have e1 : (7 : Int32).toInt = 7 := by decide
  have e2 : (6 : Int32).toInt = 6 := by decide
  omega
set_option maxRecDepth 20000 in
theorem k_Part (G : ax_G) (o : Nat) : lawPart G (cC o) o (o + 17) (o + 53) := by
  intro s e U S W T B n h a hV hM hC
  obtain ⟨c, hR, hJ, hKi, hKn, hKf, hKb, hRm⟩ := hC
  have hy := hV.1
  refine aw_enter (by decide) (Nat.le_of_ble_eq_true rfl) (n := 0) (ls := [some (.ref o), some (.int a)]) rfl (fun x => ?_)
  refine aw_iload_n d_L_part_0 rfl rfl ?_
  refine aw_if_lt (tgt := 10) d_L_part_1 (by decide) (fun c1 => ?_) (fun c1 => ?_)
  · refine aw_iconst (v := (-1)) d_L_part_10 (by decide) ?_
    refine aw_iret ?_ rfl d_L_part_11
    exact ⟨by rw [mPart, if_pos (Or.inl c1)], ⟨c, hR, hJ, hKi, hKn, hKf, hKb, hRm.dn⟩, lawF.rf _ _ _⟩
  · refine aw_iload_n d_L_part_4 rfl rfl ?_
    refine aw_bipush (v := 7) d_L_part_5 (by decide) ?_
    refine aw_icmp_lt (tgt := 12) d_L_part_7 (by decide) (fun c7 => ?_) (fun c7 => ?_)
    · have hk7 : iN a < 7 := iN_lt (n := 7) (by decide) (Int32.not_lt.mp c1) c7
      refine aw_aloadV_n d_L_part_12 rfl rfl (by first | exact Or.inl ⟨_, rfl⟩ | exact Or.inr rfl | exact rv_Q _) ?_
      refine aw_get cl_L fl_L_54 (by decide) hR.obj rfl d_L_part_13 ?_
      refine aw_get cl_Image fl_L_240 (by decide) hR.img rfl d_L_part_16 ?_
      refine aw_iload_n d_L_part_19 rfl rfl ?_
      refine aC_l9 hR (nI_iN (Int32.not_lt.mp c1)).symm hk7 d_L_part_20 ?_
      refine aw_iret ?_ rfl d_L_part_21
      refine ⟨?_, ⟨c, hR, hJ, hKi, hKn, hKf, hKb, hRm.dn⟩, lawF.rf _ _ _⟩
      rw [mPart, if_neg (fun q => q.elim c1 (fun z => i32_gt6n z c7)), hKi.1 _ hk7]
    · refine aw_iconst (v := (-1)) d_L_part_10 (by decide) ?_
      refine aw_iret ?_ rfl d_L_part_11
      exact ⟨by rw [mPart, if_pos (Or.inr (i32_gt6 (Int32.not_lt.mp c7)))], ⟨c, hR, hJ, hKi, hKn, hKf, hKb, hRm.dn⟩, lawF.rf _ _ _⟩
set_option maxRecDepth 20000 in
theorem k_Octet (G : ax_G) (o : Nat) : lawOctet G (cC o) o (o + 17) (o + 53) := by
  intro s e U S W T B n h a hV hM hC
  obtain ⟨c, hR, hJ, hKi, hKn, hKf, hKb, hRm⟩ := hC
  have hy := hV.1
  refine aw_enter (by decide) (Nat.le_of_ble_eq_true rfl) (n := 0) (ls := [some (.ref o), some (.int a)]) rfl (fun x => ?_)
  refine aw_iload_n d_L_octet_0 rfl rfl ?_
  refine aw_if_lt (tgt := 18) d_L_octet_1 (by decide) (fun c1 => ?_) (fun c1 => ?_)
  · refine aw_iconst (v := (-1)) d_L_octet_18 (by decide) ?_
    refine aw_iret ?_ rfl d_L_octet_19
    exact ⟨by rw [mOctet, if_pos (Or.inr (Or.inl c1))], ⟨c, hR, hJ, hKi, hKn, hKf, hKb, hRm.dn⟩, lawF.rf _ _ _⟩
  · refine aw_iload_n d_L_octet_4 rfl rfl ?_
    refine aw_aloadV_n d_L_octet_5 rfl rfl (by first | exact Or.inl ⟨_, rfl⟩ | exact Or.inr rfl | exact rv_Q _) ?_
    refine aw_get cl_L fl_L_54 (by decide) hR.obj rfl d_L_octet_6 ?_
    refine aw_get cl_Image fl_L_240 (by decide) hR.img rfl d_L_octet_9 ?_
    refine aw_bipush (v := 6) d_L_octet_12 (by decide) ?_
    refine aC_l9 hR (rfl : (6 : Int32) = nI 6) (by decide) d_L_octet_14 ?_
    refine aw_icmp_lt (tgt := 20) d_L_octet_15 (by decide) (fun c15 => ?_) (fun c15 => ?_)
    · have c15 : a < c.2.1 9 6 := c15
      have h38 : ¬ s.1 38 = 0 := fun q => absurd c15 (by rw [hKi.2.1, if_pos q]; exact c1)
      rw [hKi.2.1, if_neg h38] at c15
      obtain ⟨n39, hn39, en39⟩ := hV.2.2.1
      have hlt : iN a < iN (s.1 39) := by rw [en39, iN, iN, nI_clamp (by omega)]; exact iN_lt (by omega) (Int32.not_lt.mp c1) (by rw [← en39]; exact c15)
      have hb : iN a < 262144 := by rw [en39, iN, iN, nI_clamp (by omega)] at hlt; exact Nat.lt_of_lt_of_le hlt hn39
      refine aw_aloadV_n d_L_octet_20 rfl rfl (by first | exact Or.inl ⟨_, rfl⟩ | exact Or.inr rfl | exact rv_Q _) ?_
      refine aw_get cl_L fl_L_54 (by decide) hR.obj rfl d_L_octet_21 ?_
      refine aw_get cl_Image fl_L_243 (by decide) hR.img rfl d_L_octet_24 ?_
      refine aw_iload_n d_L_octet_27 rfl rfl ?_
      refine aC_l10 hR (nI_iN (Int32.not_lt.mp c1)).symm hb d_L_octet_28 ?_
      refine aw_sipush (v := 255) d_L_octet_29 (by decide) ?_
      refine aw_iand d_L_octet_32 ?_
      refine aw_iret ?_ rfl d_L_octet_33
      refine ⟨?_, ⟨c, hR, hJ, hKi, hKn, hKf, hKb, hRm.dn⟩, lawF.rf _ _ _⟩
      rw [mOctet, if_neg (fun q => q.elim h38 (fun q => q.elim c1 (fun z => absurd c15 (Int32.not_lt.mpr z)))), hKi.2.2.1 h38 _ hlt]
    · refine aw_iconst (v := (-1)) d_L_octet_18 (by decide) ?_
      refine aw_iret ?_ rfl d_L_octet_19
      refine ⟨?_, ⟨c, hR, hJ, hKi, hKn, hKf, hKb, hRm.dn⟩, lawF.rf _ _ _⟩
      have c15 : ¬ a < c.2.1 9 6 := c15
      by_cases h38 : s.1 38 = 0
      · rw [mOctet, if_pos (Or.inl h38)]
      · rw [hKi.2.1, if_neg h38] at c15
        rw [mOctet, if_pos (Or.inr (Or.inr (Int32.not_lt.mp c15)))]
theorem i32_dec (k : Nat) : nI k + Int32.ofInt (-1) = nI k - 1 := by rw [show Int32.ofInt (-1) = -1 by decide, Int32.sub_eq_add_neg]
theorem mLineL_eq {f g f2 g2 : Nat → Int32} (a : Int32) : ∀ K, (∀ i, i < K → f i = f2 i ∧ g i = g2 i) → mLineL f g a K = mLineL f2 g2 a K := by
  intro K
  induction K with
  | zero => exact fun _ => rfl
  | succ K ih =>
    intro h
    rw [mLineL, mLineL, (h K (by omega)).1, (h K (by omega)).2, ih (fun i hi => h i (by omega))]
set_option maxRecDepth 20000 in
theorem l_L_line {G : ax_G} {x : ax_X} {h0 : ax_H} {P : Option Value → ax_H → Prop} {o : Nat} {c : cSt} {h : ax_H} (hR : cR o c h) {K : Nat} (hKb : K ≤ 8192) (a : Int32) (hp : P (some (.int (mLineL (c.2.1 14) (c.2.1 15) a K))) h) : ∀ k, k ≤ K → mLineL (c.2.1 14) (c.2.1 15) a K = mLineL (c.2.1 14) (c.2.1 15) a k → AW G x Y_L_line 0 0 h0 P h 10 [some (.ref o), some (.int a), some (.int (nI k - 1))] [] := by
  intro k
  induction k with
  | zero =>
    intro hk he
    refine aw_iload_n d_L_line_10 rfl rfl ?_
    refine aw_if_lt (tgt := 43) d_L_line_11 (by decide) (fun c11 => ?_) (fun c11 => ?_)
    · refine aw_iconst (v := (-1)) d_L_line_43 (by decide) ?_
      refine aw_iret ?_ rfl d_L_line_44
      rw [he] at hp
      exact hp
    · exact absurd (by decide) c11
  | succ k ih =>
    intro hk he
    have ek : nI (k + 1) - 1 = nI k := nI_pred k
    rw [ek]
    refine aw_iload_n d_L_line_10 rfl rfl ?_
    refine aw_if_lt (tgt := 43) d_L_line_11 (by decide) (fun c11 => ?_) (fun c11 => ?_)
    · exact absurd c11 (nI_pos (by omega))
    · refine aw_aloadV_n d_L_line_14 rfl rfl (by first | exact Or.inl ⟨_, rfl⟩ | exact Or.inr rfl | exact rv_Q _) ?_
      refine aw_get cl_L fl_L_54 (by decide) hR.obj rfl d_L_line_15 ?_
      refine aw_get cl_Image fl_L_257 (by decide) hR.img rfl d_L_line_18 ?_
      refine aw_iload_n d_L_line_21 rfl rfl ?_
      refine aC_l14 hR rfl (show k < 8192 by omega) d_L_line_22 ?_
      refine aw_iload_n d_L_line_23 rfl rfl ?_
      refine aw_icmp_ne (tgt := 37) d_L_line_24 (by decide) (fun c24 => ?_) (fun c24 => ?_)
      · refine aw_iinc (v := nI k - 1) d_L_line_37 rfl (i32_dec k) (by decide) (by dsimp only [List.set]) ?_
        refine aw_goto (tgt := 10) d_L_line_40 (by decide) ?_
        refine ih (by omega) (he.trans ?_)
        rw [mLineL, if_neg c24]
      · refine aw_aloadV_n d_L_line_27 rfl rfl (by first | exact Or.inl ⟨_, rfl⟩ | exact Or.inr rfl | exact rv_Q _) ?_
        refine aw_get cl_L fl_L_54 (by decide) hR.obj rfl d_L_line_28 ?_
        refine aw_get cl_Image fl_L_260 (by decide) hR.img rfl d_L_line_31 ?_
        refine aw_iload_n d_L_line_34 rfl rfl ?_
        refine aC_l15 hR rfl (show k < 8192 by omega) d_L_line_35 ?_
        refine aw_iret ?_ rfl d_L_line_36
        rw [he, mLineL, if_pos c24] at hp
        exact hp
set_option maxRecDepth 20000 in
theorem k_Line (G : ax_G) (o : Nat) : lawLine G (cC o) o (o + 17) (o + 53) := by
  intro s e U S W T B n h a hV hM hC
  obtain ⟨c, hR, hJ, hKi, hKn, hKf, hKb, hRm⟩ := hC
  have hy := hV.1
  refine aw_enter (by decide) (Nat.le_of_ble_eq_true rfl) (n := 1) (ls := [some (.ref o), some (.int a), none]) rfl (fun x => ?_)
  obtain ⟨K, k1, k2, k3, k4, k5⟩ := hKi.2.2.2.2
  refine aw_aloadV_n d_L_line_0 rfl rfl (by first | exact Or.inl ⟨_, rfl⟩ | exact Or.inr rfl | exact rv_Q _) ?_
  refine aw_get cl_L fl_L_54 (by decide) hR.obj rfl d_L_line_1 ?_
  refine aw_getE cl_Image fl_L_256 (by decide) hR.img rfl (congrArg Value.int k2) d_L_line_4 ?_
  refine aw_iconst (v := 1) d_L_line_7 (by decide) ?_
  refine aw_isub d_L_line_8 ?_
  refine aw_istore_n d_L_line_9 rfl (by decide) (by dsimp only [List.set]) ?_
  refine l_L_line hR k1 a ?_ K (Nat.le_refl _) rfl
  refine ⟨?_, ⟨c, hR, hJ, hKi, hKn, hKf, hKb, hRm.dn⟩, lawF.rf _ _ _⟩
  by_cases h38 : s.1 38 = 0
  · rw [mLine, if_pos h38, k3 h38]
    rfl
  · rw [mLine, if_neg h38, k4 h38, show iN (nI K) = K from nI_clamp (by omega), mLineL_eq a K k5]
