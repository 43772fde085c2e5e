theorem mDupL_iff (f : Nat → Int32) (g : Nat → Int64) (n : Int32) (w : Int64) : ∀ r k, mDupL f g n w k r ↔ ∃ j, k ≤ j ∧ j < k + r ∧ f j = n ∧ g j = w := by
  intro r
  induction r with
  | zero => exact fun k => ⟨fun q => q.elim, fun ⟨j, a, b, _⟩ => absurd a (by omega)⟩
  | succ r ih =>
    intro k
    rw [mDupL, ih]
    constructor
    · rintro (⟨a, b⟩ | ⟨j, a, b, d⟩)
      · exact ⟨k, Nat.le_refl _, by omega, a, b⟩
      · exact ⟨j, by omega, by omega, d⟩
    · rintro ⟨j, a, b, d⟩
      by_cases hj : j = k
      · subst hj
        exact Or.inl d
      · exact Or.inr ⟨j, by omega, by omega, d⟩
/-- a name more, in its row -/
abbrev cNm (c : cSt) (h : ax_H) (w : Int64) (z : Int32) : cSt := (va_up c.1 10 (c.1 10 + 1), (cAddN c h w z).2.1, (cAddN c h w z).2.2.1, va_up (cAddN c h w z).2.2.2.1 2 (va_up (c.2.2.2.1 2) (c.2.2.2.2.2 1) (some h.1)), (cAddN c h w z).2.2.2.2)
set_option maxRecDepth 20000 in
theorem c_L_addName (G : ax_G) (h : ax_H) (o : Nat) (c : cSt) (hR : cR o c h) {N : Nat} (hNe : c.2.2.2.2.2 1 = N) (hN : c.1 10 = nI N) (hNb : N < 2048) (w : Int64) (z : Int32) (hc : h.1 + 1 ≤ G.1 + room_1.cells) (hs : h.2.1 + 6 ≤ room_1.slots) : AM G Y_L_addName 2 43 [.ref o, .long w, .int z] h (fun v h2 => v = some (.ref h.1) ∧ cR o (cNm c h w z) h2 ∧ cFr o (h.1 + 1) (ax_new h (.inr (5, [.long w, .int z, .int 0, .int 0, .null, .null])) 6) h2) := by
  refine aw_enter (by decide) (Nat.le_of_ble_eq_true rfl) (n := 1) (ls := [some (.ref o), some (.long w), none, some (.int z), none]) rfl (fun x => ?_)
  refine aw_new cl_Name kl_L_15 ni_Name ii_Name f0_Name_d hc hs d_L_addName_0 ?_
  refine aw_dup d_L_addName_3 rfl ?_
  refine aw_lload_n d_L_addName_4 rfl rfl ?_
  refine aw_iload_n d_L_addName_5 rfl rfl ?_
  refine aw_callI (c_Name_init G _ h.1 (ax_new_self _ _) w z) m_Name_init ml_L_278 rfl rfl (by decide) (by decide) (Nat.le_of_ble_eq_true rfl) d_L_addName_6 ?_
  rintro v h' ⟨rfl, rfl⟩
  rw [ax_new_set]
  have hR1 := hR.addN (n := 6) w z
  refine aw_astoreV d_L_addName_9 (by decide) (by first | exact Or.inl ⟨_, rfl⟩ | exact Or.inr rfl | exact rv_Q _) (by dsimp only [List.set]) ?_
  refine aw_aloadV_n d_L_addName_11 rfl rfl (by first | exact Or.inl ⟨_, rfl⟩ | exact Or.inr rfl | exact rv_Q _) ?_
  refine aw_getE cl_L fl_L_66 (by decide) hR1.obj rfl (congrArg Value.int hN) d_L_addName_12 ?_
  refine aw_sipush (v := 2048) d_L_addName_15 (by decide) ?_
  refine aw_icmp_ge (tgt := 42) d_L_addName_18 (by decide) (fun c18 => ?_) (fun c18 => ?_)
  · exact absurd c18 (nI_ge (a := N) (b := 2048) hNb (by decide))
  · refine aw_aloadV_n d_L_addName_21 rfl rfl (by first | exact Or.inl ⟨_, rfl⟩ | exact Or.inr rfl | exact rv_Q _) ?_
    refine aw_get cl_L fl_L_17 (by decide) hR1.obj rfl d_L_addName_22 ?_
    refine aw_aloadV_n d_L_addName_25 rfl rfl (by first | exact Or.inl ⟨_, rfl⟩ | exact Or.inr rfl | exact rv_Q _) ?_
    refine aw_getE cl_L fl_L_66 (by decide) hR1.obj rfl (congrArg Value.int hN) d_L_addName_26 ?_
    refine aw_aloadV d_L_addName_29 rfl (by first | exact Or.inl ⟨_, rfl⟩ | exact Or.inr rfl | exact rv_Q _) ?_
    refine aC_s2 hR1 rfl hNb (ax_new_self _ _) d_L_addName_31 (fun g31 hR31 hF31 => ?_)
    refine aw_aloadV_n d_L_addName_32 rfl rfl (by first | exact Or.inl ⟨_, rfl⟩ | exact Or.inr rfl | exact rv_Q _) ?_
    refine aw_dup d_L_addName_33 rfl ?_
    refine aw_get cl_L fl_L_66 (by decide) hR31.obj rfl d_L_addName_34 ?_
    refine aw_iconst (v := 1) d_L_addName_37 (by decide) ?_
    refine aw_iadd d_L_addName_38 ?_
    refine aC_p10 hR31 fl_L_66 rfl rfl d_L_addName_39 (fun g39 hR39 hF39 => ?_)
    refine aw_aloadV d_L_addName_42 rfl (by first | exact Or.inl ⟨_, rfl⟩ | exact Or.inr rfl | exact rv_Q _) ?_
    refine aw_aret (r := some h.1) ?_ rfl (by first | exact Or.inl ⟨_, rfl⟩ | exact Or.inr ⟨_, rfl⟩) d_L_addName_44
    subst hNe
    exact ⟨rfl, hR39, hF31.tr hF39⟩
theorem cJ.addN {o : Nat} {c : cSt} {s : mSt} {e : Nat → Nat → Nat} {U S W T : Nat} {hh : ax_H} (h : cJ c s e U S W T) (hR : cR o c hh) (w : Int64) (z : Int32) (hN : c.2.2.2.2.2 1 < 2048) (hno : ∀ i, i < c.2.2.2.2.2 1 → ¬ (c.2.2.1 42 i = w ∧ c.2.1 29 i = z)) : cJ (cNm c hh w z) s e U S W T := by
  have hsN := h.sN
  have hnS := h.nS
  have lt5 : ∀ j, j < S → c.2.2.2.2.1 5 j < c.2.2.2.2.2 1 := fun j hj => hR.1.2.2.2.1 j (by rw [hnS]; exact hj)
  obtain ⟨h1, h2, h3, h4, h5, h6, h7⟩ := h
  refine ⟨⟨h1.1, h1.2.1, h1.2.2.1, h1.2.2.2.1, hN, h1.2.2.2.2.2.1, ?_, h1.2.2.2.2.2.2.2⟩, h2, h3, ?_, ?_, h6, h7⟩
  · show c.1 10 + 1 = nI (c.2.2.2.2.2 1 + 1)
    rw [hsN, nI_1]
  · intro j hj
    have hj : j < c.2.2.2.2.2 1 + 1 := hj
    show va_up (c.2.2.2.1 2) (c.2.2.2.2.2 1) (some hh.1) j = some (va_up (c.2.2.2.2.1 1) (c.2.2.2.2.2 1) hh.1 j) ∧ ∀ i, i < c.2.2.2.2.2 1 + 1 → va_up (c.2.2.1 42) (c.2.2.2.2.2 1) w i = va_up (c.2.2.1 42) (c.2.2.2.2.2 1) w j → va_up (c.2.1 29) (c.2.2.2.2.2 1) z i = va_up (c.2.1 29) (c.2.2.2.2.2 1) z j → i = j
    by_cases e0 : j = c.2.2.2.2.2 1
    · subst e0
      rw [va_up_self, va_up_self, va_up_self, va_up_self]
      refine ⟨rfl, fun i hi a b => ?_⟩
      by_cases e1 : i = c.2.2.2.2.2 1
      · exact e1
      · rw [va_up_ne _ _ e1] at a b
        exact absurd ⟨a, b⟩ (hno i (by omega))
    · rw [va_up_ne _ _ e0, va_up_ne _ _ e0, va_up_ne _ _ e0, va_up_ne _ _ e0]
      refine ⟨(h4 j (by omega)).1, fun i hi a b => ?_⟩
      by_cases e1 : i = c.2.2.2.2.2 1
      · rw [e1, va_up_self] at a b
        exact absurd ⟨a.symm, b.symm⟩ (hno j (by omega))
      · rw [va_up_ne _ _ e1] at a b
        exact (h4 j (by omega)).2 i (by omega) a b
  · intro j hj
    have := h5 j hj
    have ne : ¬ c.2.2.2.2.1 5 j = c.2.2.2.2.2 1 := by have := lt5 j hj; omega
    refine ⟨this.1, ?_, ?_, this.2.2.2⟩
    · show va_up (c.2.2.1 42) (c.2.2.2.2.2 1) w (c.2.2.2.2.1 5 j) = _
      rw [va_up_ne _ _ ne]
      exact this.2.1
    · show va_up (c.2.1 29) (c.2.2.2.2.2 1) z (c.2.2.2.2.1 5 j) = _
      rw [va_up_ne _ _ ne]
      exact this.2.2.1
/-- a symbol more, in its row; its unit's end -/
abbrev cSy (c : cSt) (h : ax_H) (U S q : Nat) (gl wk p l : Int32) (r : Option Nat) : cSt := (va_up c.1 11 (nI S + 1), va_up (cAddS c h q gl wk p l r).2.1 22 (va_up (c.2.1 22) (U - 1) (nI S + 1)), c.2.2.1, va_up (cAddS c h q gl wk p l r).2.2.2.1 3 (va_up (c.2.2.2.1 3) S (some h.1)), (cAddS c h q gl wk p l r).2.2.2.2)
theorem cJ.addS {c : cSt} {s : mSt} {e : Nat → Nat → Nat} {U S W T : Nat} {hh : ax_H} (h : cJ c s e U S W T) (i4 : mI4 s e U S W) (hU : 0 < U) (q : Nat) (w : Int64) (n mk a p l : Int32) (hw : c.2.2.1 42 q = mCut w n) (hn : c.2.1 29 q = n) (hl : 0 ≤ l) : cJ (cSy c hh U S q (zI (mk = 1)) (zI (1 < mk)) p l (if a < 0 then none else some (cQ c.2.2.2.2 (4 * (U - 1) + iN a)))) (mSymS s S w n mk a p l) (va_up (va_up e 11 (va_up (e 11) S (U - 1))) 13 (va_up (e 13) S (iN a))) U (S + 1) W T := by
  have hS := h.nS
  have heb := fun j hj => h.eb (j := j) hj
  have hee := fun j hj => h.ee (j := j) hj
  obtain ⟨h1, h2, h3, h4, h5, h6, h7⟩ := h
  have ce : ∀ j, j + 1 < U → cEnd (va_up (va_up e 11 (va_up (e 11) S (U - 1))) 13 (va_up (e 13) S (iN a))) U (S + 1) j = cEnd e U S j := fun j hj => by
    rw [cEnd, cEnd, if_pos hj, if_pos hj]
    rfl
  have cl : cEnd (va_up (va_up e 11 (va_up (e 11) S (U - 1))) 13 (va_up (e 13) S (iN a))) U (S + 1) (U - 1) = S + 1 := by rw [cEnd, if_neg (by omega)]
  have cl0 : cEnd e U S (U - 1) = S := by rw [cEnd, if_neg (by omega)]
  refine ⟨⟨h1.1, ?_, h1.2.2.1, h1.2.2.2.1, h1.2.2.2.2.1, h1.2.2.2.2.2.1, h1.2.2.2.2.2.2.1, nI_1 S, h1.2.2.2.2.2.2.2.2⟩, ?_, h3, h4, ?_, ?_, h7⟩
  · show c.2.2.2.2.2 2 + 1 = S + 1
    rw [hS]
  · intro j hj
    have z := h2 j hj
    have b1 := heb j hj
    have b2 := hee j hj
    refine ⟨z.1, z.2.1, z.2.2.1, ?_, ?_, ?_⟩
    · show va_up (c.2.1 22) (U - 1) (nI S + 1) j = _
      by_cases e0 : j = U - 1
      · rw [e0, va_up_self, cl, nI_1]
      · rw [va_up_ne _ _ e0, ce j (by omega)]
        exact z.2.2.2.1
    · show e 16 j ≤ _
      by_cases e0 : j = U - 1
      · rw [e0] at b1 ⊢
        rw [cl]
        rw [cl0] at b1
        omega
      · rw [ce j (by omega)]
        exact b1
    · by_cases e0 : j = U - 1
      · rw [e0, cl]
        exact Nat.le_refl _
      · rw [ce j (by omega)]
        omega
  · intro j hj
    show va_up (c.2.2.2.1 3) S (some hh.1) j = some (va_up (c.2.2.2.2.1 2) (c.2.2.2.2.2 2) hh.1 j) ∧ c.2.2.1 42 (va_up (c.2.2.2.2.1 5) (c.2.2.2.2.2 2) q j) = va_up (s.2.2 9) S (mCut w n) j ∧ c.2.1 29 (va_up (c.2.2.2.2.1 5) (c.2.2.2.2.2 2) q j) = va_up (s.2.1 10) S n j ∧ va_up (c.2.1 32) (c.2.2.2.2.2 2) (zI (mk = 1)) j = zI (va_up (s.2.1 12) S mk j = 1) ∧ va_up (c.2.1 33) (c.2.2.2.2.2 2) (zI (1 < mk)) j = zI (1 < va_up (s.2.1 12) S mk j) ∧ va_up (c.2.2.2.1 46) (c.2.2.2.2.2 2) (if a < 0 then none else some (cQ c.2.2.2.2 (4 * (U - 1) + iN a))) j = (if va_up (s.2.1 13) S a j < 0 then none else some (cQ c.2.2.2.2 (4 * va_up (e 11) S (U - 1) j + va_up (e 13) S (iN a) j))) ∧ (0 ≤ va_up (s.2.1 13) S a j → va_up (c.2.1 34) (c.2.2.2.2.2 2) p j = va_up (s.2.1 14) S (if a < 0 then 0 else p) j) ∧ va_up (c.2.1 35) (c.2.2.2.2.2 2) l j = va_up (s.2.1 15) S l j ∧ (∀ u, u < U → (va_up (e 11) S (U - 1) j = u ↔ e 16 u ≤ j ∧ j < cEnd (va_up (va_up e 11 (va_up (e 11) S (U - 1))) 13 (va_up (e 13) S (iN a))) U (S + 1) u)) ∧ 0 ≤ va_up (s.2.1 15) S l j
    rw [hS]
    by_cases e0 : j = S
    · subst e0
      simp only [va_up_self]
      refine ⟨trivial, hw, hn, trivial, trivial, trivial, fun z => ?_, trivial, fun u hu => ?_, hl⟩
      · rw [if_neg (Int32.not_lt.mpr z)]
      · by_cases e1 : u = U - 1
        · rw [e1, cl]
          have := heb (U - 1) (by omega)
          have := hee (U - 1) (by omega)
          exact ⟨fun _ => ⟨by omega, by omega⟩, fun _ => rfl⟩
        · rw [ce u (by omega)]
          have := hee u hu
          exact ⟨fun z => absurd z.symm e1, fun z => absurd z.2 (by omega)⟩
    · simp only [va_up_ne _ _ e0]
      have z := h5 j (by omega)
      refine ⟨z.1, z.2.1, z.2.2.1, z.2.2.2.1, z.2.2.2.2.1, z.2.2.2.2.2.1, z.2.2.2.2.2.2.1, z.2.2.2.2.2.2.2.1, fun u hu => ?_, z.2.2.2.2.2.2.2.2.2⟩
      have y := z.2.2.2.2.2.2.2.2.1 u hu
      by_cases e1 : u = U - 1
      · rw [e1] at y ⊢
        rw [cl]
        rw [cl0] at y
        exact y.trans ⟨fun z => ⟨z.1, by omega⟩, fun z => ⟨z.1, by omega⟩⟩
      · rw [ce u (by omega)]
        exact y
  · intro j hj
    have z := h6 j hj
    refine ⟨z.1, z.2.1, z.2.2.1, z.2.2.2.1, z.2.2.2.2.1, z.2.2.2.2.2.1, z.2.2.2.2.2.2.1, z.2.2.2.2.2.2.2.1, ?_, z.2.2.2.2.2.2.2.2.2⟩
    have y := z.2.2.2.2.2.2.2.2.1
    show c.2.2.2.1 47 j = (if 5 ≤ e 22 j then some (va_up (c.2.2.2.2.1 2) (c.2.2.2.2.2 2) hh.1 (e 22 j - 5)) else none)
    rw [y, hS]
    by_cases e5 : 5 ≤ e 22 j
    · rw [if_pos e5, if_pos e5, va_up_ne _ _ ?_]
      rcases (i4 j hj).2.2 with ⟨a1, -⟩ | ⟨d, a1, a2, -⟩ | ⟨k, a1, a2, -⟩
      · omega
      · omega
      · omega
    · rw [if_neg e5, if_neg e5]
theorem c_L_findName1 (G : ax_G) (h : ax_H) (o : Nat) (c : cSt) (hR : cR o c h) (s : mSt) (e : Nat → Nat → Nat) (U S W T : Nat) (hJ : cJ c s e U S W T) (hSb : S ≤ 2048) (w : Int64) (n : Int32) (hn8 : n ≤ 8) {i : Nat} (hi : i < c.2.2.2.2.2 1) (hw : c.2.2.1 42 i = mCut w n ∧ c.2.1 29 i = n) : AM G Y_L_findName 1 22 [.ref o, .long w, .int n] h (fun v h2 => h2 = h ∧ v = some (.ref (c.2.2.2.2.1 1 i))) := by
  refine am_mono ?_ (c_L_findName G h o c hR s e U S W T hJ hSb w n hn8)
  rintro v h2 ⟨rfl, ⟨j, hj, hw2, rfl⟩ | ⟨hno, -⟩⟩
  · have := hJ.uni hi j hj (hw2.1.trans hw.1.symm) (hw2.2.trans hw.2.symm)
    rw [this]
    exact ⟨rfl, rfl⟩
  · exact absurd hw (hno i hi)
theorem c_L_findName0 (G : ax_G) (h : ax_H) (o : Nat) (c : cSt) (hR : cR o c h) (s : mSt) (e : Nat → Nat → Nat) (U S W T : Nat) (hJ : cJ c s e U S W T) (hSb : S ≤ 2048) (w : Int64) (n : Int32) (hn8 : n ≤ 8) (hno : ∀ i, i < c.2.2.2.2.2 1 → ¬ (c.2.2.1 42 i = mCut w n ∧ c.2.1 29 i = n)) : AM G Y_L_findName 1 22 [.ref o, .long w, .int n] h (fun v h2 => h2 = h ∧ v = some .null) := by
  refine am_mono ?_ (c_L_findName G h o c hR s e U S W T hJ hSb w n hn8)
  rintro v h2 ⟨rfl, ⟨j, hj, hw2, rfl⟩ | ⟨-, rfl⟩⟩
  · exact absurd hw2 (hno j hj)
  · exact ⟨rfl, rfl⟩
set_option maxRecDepth 20000 in
theorem t_L_symbol {G : ax_G} {x : ax_X} {h0 : ax_H} {P : Option Value → ax_H → Prop} {o : Nat} {c : cSt} {h : ax_H} (hR : cR o c h) (s : mSt) (e : Nat → Nat → Nat) (U S W T : Nat) (hJ : cJ c s e U S W T) (hU0 : 0 < U) (hS8 : S < 2048) {i : Nat} (hi : i < c.2.2.2.2.2 1) (w : Int64) (n mk a p l : Int32) (hm : mk = 0 ∨ mk = 1 ∨ mk = 2 ∨ mk = 3) (r : Option Nat) (hc : h.1 + 1 ≤ G.1 + room_1.cells) (hs : h.2.1 + 6 ≤ room_1.slots) (hp : ∀ h2, cR o (cSy c h U S i (zI (mk = 1)) (zI (1 < mk)) p l r) h2 → cFr o (h.1 + 1) (ax_new h (.inr (6, [.ref (c.2.2.2.2.1 1 i), .int (zI (mk = 1)), .int (zI (1 < mk)), va_rf r, .int p, .int l])) 6) h2 → P (some (.int (nI S - nI (e 16 (U - 1))))) h2) : AW G x Y_L_symbol 3 67 h0 P h 124 [some (.ref o), some (.long w), none, some (.int n), some (.int mk), some (.int a), some (.int p), some (.int l), some (.ref (c.2.2.2.2.1 0 (U - 1))), some (va_rf r), some (.ref (c.2.2.2.2.1 1 i))] [] := by
  have hj : U - 1 < U := by omega
  refine aw_aloadV_n d_L_symbol_124 rfl rfl (by first | exact Or.inl ⟨_, rfl⟩ | exact Or.inr rfl | exact rv_Q _) ?_
  refine aw_get cl_L fl_L_23 (by decide) hR.obj rfl d_L_symbol_125 ?_
  refine aw_aloadV_n d_L_symbol_128 rfl rfl (by first | exact Or.inl ⟨_, rfl⟩ | exact Or.inr rfl | exact rv_Q _) ?_
  refine aw_getE cl_L fl_L_69 (by decide) hR.obj rfl (congrArg Value.int hJ.sS) d_L_symbol_129 ?_
  refine aw_new cl_Symbol kl_L_21 ni_Symbol ii_Symbol f0_Symbol_d hc hs d_L_symbol_132 ?_
  refine aw_dup d_L_symbol_135 rfl ?_
  refine aw_aloadV d_L_symbol_136 rfl (by first | exact Or.inl ⟨_, rfl⟩ | exact Or.inr rfl | exact rv_Q _) ?_
  refine aw_iload d_L_symbol_138 rfl ?_
  refine aw_aloadV d_L_symbol_140 rfl (by first | exact Or.inl ⟨_, rfl⟩ | exact Or.inr rfl | exact rv_Q _) ?_
  refine aw_iload d_L_symbol_142 rfl ?_
  refine aw_iload d_L_symbol_144 rfl ?_
  have hci := c_Symbol_init G (ax_new h (.inr (6, f0_Symbol)) 6) h.1 (ax_new_self _ _) (c.2.2.2.2.1 1 i) mk hm r p l
  refine aw_callI hci m_Symbol_init ml_L_154 (by cases r <;> rfl) (by cases r <;> rfl) (by decide) (by decide) (Nat.le_of_ble_eq_true rfl) d_L_symbol_146 ?_
  rintro v h' ⟨rfl, rfl⟩
  rw [ax_new_set]
  have hR1 := hR.addS (n := 6) i (zI (mk = 1)) (zI (1 < mk)) p l r hi
  refine aC_s3 hR1 rfl hS8 (ax_new_self _ _) d_L_symbol_149 (fun g149 hR149 hF149 => ?_)
  refine aw_aloadV_n d_L_symbol_150 rfl rfl (by first | exact Or.inl ⟨_, rfl⟩ | exact Or.inr rfl | exact rv_Q _) ?_
  refine aw_dup d_L_symbol_151 rfl ?_
  refine aw_getE cl_L fl_L_69 (by decide) hR149.obj rfl (congrArg Value.int hJ.sS) d_L_symbol_152 ?_
  refine aw_iconst (v := 1) d_L_symbol_155 (by decide) ?_
  refine aw_iadd d_L_symbol_156 ?_
  refine aC_p11 hR149 fl_L_69 rfl rfl d_L_symbol_157 (fun g157 hR157 hF157 => ?_)
  refine aw_aloadV d_L_symbol_160 rfl (by first | exact Or.inl ⟨_, rfl⟩ | exact Or.inr rfl | exact rv_Q _) ?_
  refine aw_aloadV_n d_L_symbol_162 rfl rfl (by first | exact Or.inl ⟨_, rfl⟩ | exact Or.inr rfl | exact rv_Q _) ?_
  refine aw_getE cl_L fl_L_69 (by decide) hR157.obj rfl (show _ = Value.int (nI S + 1) from rfl) d_L_symbol_163 ?_
  refine aC_p22 hR157 (hJ.hu hj) fl_L_157 rfl rfl d_L_symbol_166 (fun g166 hR166 hF166 => ?_)
  refine aw_aloadV_n d_L_symbol_169 rfl rfl (by first | exact Or.inl ⟨_, rfl⟩ | exact Or.inr rfl | exact rv_Q _) ?_
  refine aw_getE cl_L fl_L_69 (by decide) hR166.obj rfl (show _ = Value.int (nI S + 1) from rfl) d_L_symbol_170 ?_
  refine aw_iconst (v := 1) d_L_symbol_173 (by decide) ?_
  refine aw_isub d_L_symbol_174 ?_
  refine aw_aloadV d_L_symbol_175 rfl (by first | exact Or.inl ⟨_, rfl⟩ | exact Or.inr rfl | exact rv_Q _) ?_
  refine aw_getE cl_Unit fl_L_160 (by decide) (hR166.unit (hJ.hu hj)) rfl (congrArg Value.int (hJ.beg hj)) d_L_symbol_177 ?_
  refine aw_isub d_L_symbol_180 ?_
  refine aw_iret ?_ rfl d_L_symbol_181
  have e1 : nI S + 1 - 1 - nI (e 16 (U - 1)) = nI S - nI (e 16 (U - 1)) := by rw [Int32.add_sub_cancel]
  rw [e1]
  have e2 := hJ.nS
  exact hp _ (e2 ▸ hR166) ((hF149.tr hF157).tr hF166)
