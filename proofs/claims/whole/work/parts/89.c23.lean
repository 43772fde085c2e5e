theorem mFind_ls {Q : Nat → Prop} : ∀ r a j, mFind Q r a = some j → mFind Q (r + 1) a = some j := by
  intro r
  induction r with
  | zero => exact fun a j h => by cases h
  | succ r ih =>
    intro a j h
    by_cases q : Q a
    · rw [mFind_t q] at h ⊢
      exact h
    · rw [mFind_f q] at h
      rw [mFind_f q]
      exact ih _ _ h
theorem mFind_ln {Q : Nat → Prop} : ∀ r a, mFind Q r a = none → Q (a + r) → mFind Q (r + 1) a = some (a + r) := by
  intro r
  induction r with
  | zero => exact fun a _ q => mFind_t q
  | succ r ih =>
    intro a h q
    have n1 := (mFind_none _ _).mp h
    have na := n1 a (Nat.le_refl _) (by omega)
    rw [mFind_f na] at h ⊢
    rw [ih (a + 1) h (by rw [show a + 1 + r = a + (r + 1) by omega]; exact q), show a + 1 + r = a + (r + 1) by omega]
theorem mFind_lf {Q : Nat → Prop} (r a : Nat) (q : ¬ Q (a + r)) : mFind Q (r + 1) a = mFind Q r a := by
  cases e : mFind Q r a with
  | some j => exact mFind_ls _ _ _ e
  | none =>
    rw [mFind_none] at e ⊢
    intro i i1 i2
    by_cases ei : i = a + r
    · rw [ei]; exact q
    · exact e i i1 (by omega)
/-- the meanings, after the first k symbols -/
def cBk (s : mSt) (e : Nat → Nat → Nat) (S : Nat) (A : cG) (tk : Nat → Int32) (R : Nat → Nat → Option Nat) (k : Nat) : Prop := ∀ i, i < A.2 1 → R 44 i = (mFind (cGl s e S A tk i) k 0).map (A.1 2) ∧ R 45 i = (mFind (cWk s e S A tk i) k 0).map (A.1 2)
/-- a label is bound -/
def cBd (s : mSt) (A : cG) (k i : Nat) (R : Nat → Nat → Option Nat) : Nat → Nat → Option Nat := if 1 < s.2.1 12 k then (if R 45 i = none then va_up R 45 (va_up (R 45) i (some (A.1 2 k))) else R) else (if R 44 i = none then va_up R 44 (va_up (R 44) i (some (A.1 2 k))) else R)
theorem cBk.skip {s : mSt} {e : Nat → Nat → Nat} {S : Nat} {A : cG} {tk : Nat → Int32} {R : Nat → Nat → Option Nat} {k : Nat} (h : cBk s e S A tk R k) (hn : tk (e 11 k) = 0 ∨ ¬ (mGlob (mT s e S) k ∨ mWeak (mT s e S) k)) : cBk s e S A tk R (k + 1) := by
  intro i hi
  have n1 : ¬ cGl s e S A tk i (0 + k) := by
    rw [Nat.zero_add]
    rintro ⟨⟨a1, -⟩, a2⟩
    exact hn.elim a1 (fun q => q (Or.inl a2))
  have n2 : ¬ cWk s e S A tk i (0 + k) := by
    rw [Nat.zero_add]
    rintro ⟨⟨a1, -⟩, a2⟩
    exact hn.elim a1 (fun q => q (Or.inr a2))
  rw [mFind_lf _ _ n1, mFind_lf _ _ n2]
  exact h i hi
theorem cBk.bind {s : mSt} {e : Nat → Nat → Nat} {S : Nat} {A : cG} {tk : Nat → Int32} {R : Nat → Nat → Option Nat} {k : Nat} (h : cBk s e S A tk R k) (ht : ¬ tk (e 11 k) = 0) (hs : mGlob (mT s e S) k ∨ mWeak (mT s e S) k) : cBk s e S A tk (cBd s A k (A.1 5 k) R) (k + 1) := by
  intro i hi
  have h0 : 0 + k = k := Nat.zero_add k
  obtain ⟨h1, h2⟩ := h i hi
  by_cases hw : 1 < s.2.1 12 k
  · have hwk : mWeak (mT s e S) k := hs.resolve_left (fun q => absurd hw (by rw [show s.2.1 12 k = 1 from q.2]; decide))
    have n1 : ¬ cGl s e S A tk i (0 + k) := by
      rw [h0]
      rintro ⟨-, a2⟩
      exact absurd hw (by rw [show s.2.1 12 k = 1 from a2.2]; decide)
    rw [mFind_lf _ _ n1, cBd, if_pos hw]
    by_cases ei : i = A.1 5 k
    · have q : cWk s e S A tk i (0 + k) := by rw [h0]; exact ⟨⟨ht, ei.symm⟩, hwk⟩
      by_cases hr : R 45 (A.1 5 k) = none
      · rw [if_pos hr]
        have e45 : mFind (cWk s e S A tk i) k 0 = none := by
          rw [ei] at h2 ⊢
          rw [hr] at h2
          cases e2 : mFind (cWk s e S A tk (A.1 5 k)) k 0 with
          | none => rfl
          | some j => rw [e2] at h2; cases h2
        rw [mFind_ln _ _ e45 q]
        refine ⟨h1, ?_⟩
        show va_up (R 45) (A.1 5 k) (some (A.1 2 k)) i = some (A.1 2 (0 + k))
        rw [ei, va_up_self, h0]
      · rw [if_neg hr]
        cases e2 : mFind (cWk s e S A tk i) k 0 with
        | none =>
          rw [e2, ei] at h2
          exact absurd h2 hr
        | some j =>
          rw [mFind_ls _ _ _ e2]
          rw [e2] at h2
          exact ⟨h1, h2⟩
    · have n2 : ¬ cWk s e S A tk i (0 + k) := by
        rw [h0]
        rintro ⟨⟨-, a2⟩, -⟩
        exact ei a2.symm
      rw [mFind_lf _ _ n2]
      by_cases hr : R 45 (A.1 5 k) = none
      · rw [if_pos hr]
        refine ⟨h1, ?_⟩
        show va_up (R 45) (A.1 5 k) (some (A.1 2 k)) i = _
        rw [va_up_ne _ _ ei]
        exact h2
      · rw [if_neg hr]
        exact ⟨h1, h2⟩
  · have hgl : mGlob (mT s e S) k := hs.resolve_right (fun q => hw q.2)
    have n2 : ¬ cWk s e S A tk i (0 + k) := by
      rw [h0]
      rintro ⟨-, a2⟩
      exact hw a2.2
    rw [mFind_lf _ _ n2, cBd, if_neg hw]
    by_cases ei : i = A.1 5 k
    · have q : cGl s e S A tk i (0 + k) := by rw [h0]; exact ⟨⟨ht, ei.symm⟩, hgl⟩
      by_cases hr : R 44 (A.1 5 k) = none
      · rw [if_pos hr]
        have e44 : mFind (cGl s e S A tk i) k 0 = none := by
          rw [ei] at h1 ⊢
          rw [hr] at h1
          cases e2 : mFind (cGl s e S A tk (A.1 5 k)) k 0 with
          | none => rfl
          | some j => rw [e2] at h1; cases h1
        rw [mFind_ln _ _ e44 q]
        refine ⟨?_, h2⟩
        show va_up (R 44) (A.1 5 k) (some (A.1 2 k)) i = some (A.1 2 (0 + k))
        rw [ei, va_up_self, h0]
      · rw [if_neg hr]
        cases e2 : mFind (cGl s e S A tk i) k 0 with
        | none =>
          rw [e2, ei] at h1
          exact absurd h1 hr
        | some j =>
          rw [mFind_ls _ _ _ e2]
          rw [e2] at h1
          exact ⟨h1, h2⟩
    · have n1 : ¬ cGl s e S A tk i (0 + k) := by
        rw [h0]
        rintro ⟨⟨-, a2⟩, -⟩
        exact ei a2.symm
      rw [mFind_lf _ _ n1]
      by_cases hr : R 44 (A.1 5 k) = none
      · rw [if_pos hr]
        refine ⟨?_, h2⟩
        show va_up (R 44) (A.1 5 k) (some (A.1 2 k)) i = _
        rw [va_up_ne _ _ ei]
        exact h1
      · rw [if_neg hr]
        exact ⟨h1, h2⟩
theorem cBd_ig {c : cSt} {I : Nat → Nat → Int32} {R : Nat → Nat → Option Nat} {X : List Nat} (h : cIg X c I R) (h44 : 44 ∈ X) (h45 : 45 ∈ X) (s : mSt) (A : cG) (k i : Nat) : cIg X c I (cBd s A k i R) := by
  rw [cBd]
  by_cases hw : 1 < s.2.1 12 k
  · rw [if_pos hw]
    by_cases hr : R 45 i = none
    · rw [if_pos hr]; exact h.r h45 _
    · rw [if_neg hr]; exact h
  · rw [if_neg hw]
    by_cases hr : R 44 i = none
    · rw [if_pos hr]; exact h.r h44 _
    · rw [if_neg hr]; exact h
set_option maxRecDepth 20000 in
theorem c_Name_bind (G : ax_G) (h : ax_H) (o : Nat) (c : cSt) (hR : cR o c h) (s : mSt) (e : Nat → Nat → Nat) (U S W T : Nat) (hJ : cJ c s e U S W T) {i k : Nat} (hi : i < c.2.2.2.2.2 1) (hk : k < S) : AM G Y_Name_bind 0 0 [.ref (c.2.2.2.2.1 1 i), .ref (c.2.2.2.2.1 2 k)] h (fun v h2 => v = none ∧ cR o (cM c c.2.1 (cBd s c.2.2.2.2 k i c.2.2.2.1)) h2 ∧ cFr o (c.2.2.2.2.2 5) h h2) := by
  refine aw_enter (by decide) (Nat.le_of_ble_eq_true rfl) (n := 0) (ls := [some (.ref (c.2.2.2.2.1 1 i)), some (.ref (c.2.2.2.2.1 2 k))]) rfl (fun x => ?_)
  refine aw_aloadV_n d_Name_bind_0 rfl rfl (by first | exact Or.inl ⟨_, rfl⟩ | exact Or.inr rfl | exact rv_Q _) ?_
  refine aw_getE cl_Symbol fl_Name_31 (by decide) (hR.sym (hJ.hk hk)) rfl (congrArg Value.int (hJ.weak hk)) d_Name_bind_1 ?_
  refine aw_if_eq (tgt := 22) d_Name_bind_4 (by decide) (fun c4 => ?_) (fun c4 => ?_)
  · refine aw_aloadV_n d_Name_bind_22 rfl rfl (by first | exact Or.inl ⟨_, rfl⟩ | exact Or.inr rfl | exact rv_Q _) ?_
    refine aw_getE cl_Symbol fl_Name_31 (by decide) (hR.sym (hJ.hk hk)) rfl (congrArg Value.int (hJ.weak hk)) d_Name_bind_23 ?_
    refine aw_if_ne (tgt := 41) d_Name_bind_26 (by decide) (fun c26 => ?_) (fun c26 => ?_)
    · exact absurd c4 c26
    · refine aw_aloadV_n d_Name_bind_29 rfl rfl (by first | exact Or.inl ⟨_, rfl⟩ | exact Or.inr rfl | exact rv_Q _) ?_
      refine aw_get cl_Name fl_Name_24 (by decide) (hR.name hi) rfl d_Name_bind_30 ?_
      refine aw_ifnonnullQ (tgt := 41) d_Name_bind_33 (by decide) (fun z33 c33 => ?_) (fun c33 => ?_)
      · refine aw_vret ?_ rfl d_Name_bind_41
        rw [cBd, if_neg (zI_f c4), if_neg (by rw [c33]; exact fun q => by cases q)]
        exact ⟨rfl, hR, cFr.rf _ _ _⟩
      · refine aw_aloadV_n d_Name_bind_36 rfl rfl (by first | exact Or.inl ⟨_, rfl⟩ | exact Or.inr rfl | exact rv_Q _) ?_
        refine aw_aloadV_n d_Name_bind_37 rfl rfl (by first | exact Or.inl ⟨_, rfl⟩ | exact Or.inr rfl | exact rv_Q _) ?_
        refine aC_p44 (v := some (c.2.2.2.2.1 2 k)) hR hi fl_Name_24 d_Name_bind_38 (fun g38 hR38 hF38 => ?_)
        refine aw_vret ?_ rfl d_Name_bind_41
        rw [cBd, if_neg (zI_f c4), if_pos c33]
        exact ⟨rfl, hR38, hF38⟩
  · refine aw_aloadV_n d_Name_bind_7 rfl rfl (by first | exact Or.inl ⟨_, rfl⟩ | exact Or.inr rfl | exact rv_Q _) ?_
    refine aw_get cl_Name fl_Name_28 (by decide) (hR.name hi) rfl d_Name_bind_8 ?_
    refine aw_ifnonnullQ (tgt := 22) d_Name_bind_11 (by decide) (fun z11 c11 => ?_) (fun c11 => ?_)
    · refine aw_aloadV_n d_Name_bind_22 rfl rfl (by first | exact Or.inl ⟨_, rfl⟩ | exact Or.inr rfl | exact rv_Q _) ?_
      refine aw_getE cl_Symbol fl_Name_31 (by decide) (hR.sym (hJ.hk hk)) rfl (congrArg Value.int (hJ.weak hk)) d_Name_bind_23 ?_
      refine aw_if_ne (tgt := 41) d_Name_bind_26 (by decide) (fun c26 => ?_) (fun c26 => ?_)
      · refine aw_vret ?_ rfl d_Name_bind_41
        rw [cBd, if_pos (zI_t c4), if_neg (by rw [c11]; exact fun q => by cases q)]
        exact ⟨rfl, hR, cFr.rf _ _ _⟩
      · exact absurd c26 c4
    · refine aw_aloadV_n d_Name_bind_14 rfl rfl (by first | exact Or.inl ⟨_, rfl⟩ | exact Or.inr rfl | exact rv_Q _) ?_
      refine aw_aloadV_n d_Name_bind_15 rfl rfl (by first | exact Or.inl ⟨_, rfl⟩ | exact Or.inr rfl | exact rv_Q _) ?_
      refine aC_p45 (v := some (c.2.2.2.2.1 2 k)) hR hi fl_Name_28 d_Name_bind_16 (fun g16 hR16 hF16 => ?_)
      refine aw_goto (tgt := 41) d_Name_bind_19 (by decide) ?_
      refine aw_vret ?_ rfl d_Name_bind_41
      rw [cBd, if_pos (zI_t c4), if_pos c11]
      exact ⟨rfl, hR16, hF16⟩
set_option maxRecDepth 20000 in
theorem l_Unit_bind {G : ax_G} {x : ax_X} {h0 : ax_H} {P : Option Value → ax_H → Prop} {o : Nat} {c : cSt} (s : mSt) (e : Nat → Nat → Nat) (U S W T : Nat) (hJ : cJ c s e U S W T) {u : Nat} (hu : u < U) (hSb : S ≤ 2048) (tk : Nat → Int32) (htu : ¬ tk u = 0) (hq : ax_H) (hn5 : ∀ k, k < S → c.2.2.2.2.1 5 k < c.2.2.2.2.2 1) (hp : ∀ R h2, cR o (cM c c.2.1 R) h2 → cIg [44, 45] c c.2.1 R → cBk s e S c.2.2.2.2 tk R (cEnd e U S u) → cFr o (c.2.2.2.2.2 5) hq h2 → P none h2) : ∀ r k R h o2, k + r = cEnd e U S u → e 16 u ≤ k → cR o (cM c c.2.1 R) h → cIg [44, 45] c c.2.1 R → cBk s e S c.2.2.2.2 tk R k → cFr o (c.2.2.2.2.2 5) hq h → AW G x Y_Unit_bindLabels 1 21 h0 P h 5 [some (.ref (c.2.2.2.2.1 0 u)), some (.int (nI k)), o2] [] := by
  have ee := hJ.ee hu
  intro r
  induction r with
  | zero =>
    intro k R h o2 hk hb hR hg hB hF
    have hkk : k = cEnd e U S u := by omega
    rw [hkk] at hB
    have hJ1 := hJ.m hg (by decide)
    refine aw_iload_n d_Unit_bindLabels_5 rfl rfl ?_
    refine aw_aloadV_n d_Unit_bindLabels_6 rfl rfl (by first | exact Or.inl ⟨_, rfl⟩ | exact Or.inr rfl | exact rv_Q _) ?_
    refine aw_getE cl_Unit fl_Unit_32 (by decide) (hR.unit (hJ1.hu hu)) rfl (congrArg Value.int (hJ1.end hu)) d_Unit_bindLabels_7 ?_
    refine aw_icmp_ge (tgt := 41) d_Unit_bindLabels_10 (by decide) (fun c10 => ?_) (fun c10 => ?_)
    · refine aw_vret ?_ rfl d_Unit_bindLabels_41
      exact hp R h hR hg hB hF
    · exact absurd (nI_le (show cEnd e U S u ≤ k by omega) (by omega)) c10
  | succ r ih =>
    intro k R h o2 hk hb hR hg hB hF
    have hkS : k < S := by omega
    have hJ1 := hJ.m hg (by decide)
    have hn := hn5 k hkS
    have eu := (hJ.ord hkS u hu).mpr ⟨hb, by omega⟩
    refine aw_iload_n d_Unit_bindLabels_5 rfl rfl ?_
    refine aw_aloadV_n d_Unit_bindLabels_6 rfl rfl (by first | exact Or.inl ⟨_, rfl⟩ | exact Or.inr rfl | exact rv_Q _) ?_
    refine aw_getE cl_Unit fl_Unit_32 (by decide) (hR.unit (hJ1.hu hu)) rfl (congrArg Value.int (hJ1.end hu)) d_Unit_bindLabels_7 ?_
    refine aw_icmp_ge (tgt := 41) d_Unit_bindLabels_10 (by decide) (fun c10 => ?_) (fun c10 => ?_)
    · exact absurd c10 (nI_ge (by omega) (by omega))
    · refine aw_aloadV_n d_Unit_bindLabels_13 rfl rfl (by first | exact Or.inl ⟨_, rfl⟩ | exact Or.inr rfl | exact rv_Q _) ?_
      refine aw_get cl_Unit fl_Unit_25 (by decide) (hR.unit (hJ1.hu hu)) rfl d_Unit_bindLabels_14 ?_
      refine aw_iload_n d_Unit_bindLabels_17 rfl rfl ?_
      refine aC_l3 hR rfl (show k < 2048 by omega) (hJ1.rS hkS) d_Unit_bindLabels_18 ?_
      refine aw_astoreV_n d_Unit_bindLabels_19 rfl (by decide) (by first | exact Or.inl ⟨_, rfl⟩ | exact Or.inr rfl | exact rv_Q _) (by dsimp only [List.set]) ?_
      refine aw_aloadV_n d_Unit_bindLabels_20 rfl rfl (by first | exact Or.inl ⟨_, rfl⟩ | exact Or.inr rfl | exact rv_Q _) ?_
      refine aw_callV (c_Symbol_isSharedLabel G _ o _ hR s e U S W T hJ1 hkS) cl_Symbol (hR.sym (hJ1.hk hkS)) m_Symbol_isSharedLabel ml_Unit_44 rfl rfl (by decide) (by decide) (Nat.le_of_ble_eq_true rfl) d_Unit_bindLabels_21 ?_
      rintro v h ⟨rfl, rfl⟩
      refine aw_if_eq (tgt := 35) d_Unit_bindLabels_24 (by decide) (fun c24 => ?_) (fun c24 => ?_)
      · refine aw_iinc (v := nI (k + 1)) d_Unit_bindLabels_35 rfl (ax_inc k) (by decide) (by dsimp only [List.set]) ?_
        refine aw_goto (tgt := 5) d_Unit_bindLabels_38 (by decide) ?_
        refine ih (k + 1) R _ _ (by omega) (by omega) hR hg (hB.skip (Or.inr (zP_f c24))) hF
      · refine aw_aloadV_n d_Unit_bindLabels_27 rfl rfl (by first | exact Or.inl ⟨_, rfl⟩ | exact Or.inr rfl | exact rv_Q _) ?_
        refine aw_get cl_Symbol fl_Unit_38 (by decide) (hR.sym (hJ1.hk hkS)) rfl d_Unit_bindLabels_28 ?_
        refine aw_aloadV_n d_Unit_bindLabels_31 rfl rfl (by first | exact Or.inl ⟨_, rfl⟩ | exact Or.inr rfl | exact rv_Q _) ?_
        refine aw_callV (c_Name_bind G _ o _ hR s e U S W T hJ1 hn hkS) cl_Name (hR.name hn) m_Name_bind ml_Unit_59 rfl rfl (by decide) (by decide) (Nat.le_of_ble_eq_true rfl) d_Unit_bindLabels_32 ?_
        rintro v h2 ⟨rfl, hR2, hF2⟩
        refine aw_iinc (v := nI (k + 1)) d_Unit_bindLabels_35 rfl (ax_inc k) (by decide) (by dsimp only [List.set]) ?_
        refine aw_goto (tgt := 5) d_Unit_bindLabels_38 (by decide) ?_
        refine ih (k + 1) _ _ _ (by omega) (by omega) hR2 (cBd_ig hg (by decide) (by decide) s _ k _) (hB.bind (by rw [eu]; exact htu) (zP_t c24)) (hF.tr hF2)
set_option maxRecDepth 20000 in
theorem c_Unit_bindLabels (G : ax_G) (h : ax_H) (o : Nat) (c : cSt) (hR : cR o c h) (s : mSt) (e : Nat → Nat → Nat) (U S W T : Nat) (hJ : cJ c s e U S W T) {u : Nat} (hu : u < U) (hSb : S ≤ 2048) (tk : Nat → Int32) (htu : ¬ tk u = 0) (hB : cBk s e S c.2.2.2.2 tk c.2.2.2.1 (e 16 u)) : AM G Y_Unit_bindLabels 1 21 [.ref (c.2.2.2.2.1 0 u)] h (fun v h2 => v = none ∧ ∃ R, cR o (cM c c.2.1 R) h2 ∧ cIg [44, 45] c c.2.1 R ∧ cBk s e S c.2.2.2.2 tk R (cEnd e U S u) ∧ cFr o (c.2.2.2.2.2 5) h h2) := by
  refine aw_enter (by decide) (Nat.le_of_ble_eq_true rfl) (n := 2) (ls := [some (.ref (c.2.2.2.2.1 0 u)), none, none]) rfl (fun x => ?_)
  refine aw_aloadV_n d_Unit_bindLabels_0 rfl rfl (by first | exact Or.inl ⟨_, rfl⟩ | exact Or.inr rfl | exact rv_Q _) ?_
  refine aw_getE cl_Unit fl_Unit_29 (by decide) (hR.unit (hJ.hu hu)) rfl (congrArg Value.int (hJ.beg hu)) d_Unit_bindLabels_1 ?_
  refine aw_istore_n d_Unit_bindLabels_4 rfl (by decide) (by dsimp only [List.set]) ?_
  have eb := hJ.eb hu
  exact l_Unit_bind s e U S W T hJ hu hSb tk htu h (fun k hk => hR.1.2.2.2.1 k (hJ.hk hk)) (fun R h2 a1 a2 a3 a4 => ⟨rfl, R, a1, a2, a3, a4⟩) (cEnd e U S u - e 16 u) (e 16 u) _ _ _ (by omega) (Nat.le_refl _) hR (cIg.rf _ c) hB (cFr.rf _ _ _)
/-- where the symbols of unit u begin, also past the last one -/
def cE6 (e : Nat → Nat → Nat) (U S u : Nat) : Nat := if u < U then e 16 u else S
theorem cJ.mono {c : cSt} {s : mSt} {e : Nat → Nat → Nat} {U S W T : Nat} (hJ : cJ c s e U S W T) : ∀ d u, u + d < U → e 16 u ≤ e 16 (u + d) := by
  intro d
  induction d with
  | zero => exact fun u _ => Nat.le_refl _
  | succ d ih =>
    intro u hu
    have h1 := ih u (by omega)
    have h2 := hJ.eb (j := u + d) (by omega)
    rw [cEnd, if_pos (by omega)] at h2
    exact Nat.le_trans h1 h2
theorem cJ.zero {c : cSt} {s : mSt} {e : Nat → Nat → Nat} {U S W T : Nat} (hJ : cJ c s e U S W T) (h2U : ∀ k, k < S → e 11 k < U) : cE6 e U S 0 = 0 := by
  rw [cE6]
  by_cases hU : 0 < U
  · rw [if_pos hU]
    by_cases h0 : e 16 0 = 0
    · exact h0
    · have h3 := hJ.eb (j := 0) hU
      have h4 := hJ.ee (j := 0) hU
      have hS : 0 < S := by omega
      have h5 := h2U 0 hS
      have h6 := (hJ.ord hS (e 11 0) h5).mp rfl
      have h7 := hJ.mono (e 11 0) 0 (by omega)
      rw [Nat.zero_add] at h7
      omega
  · rw [if_neg hU]
    by_cases hS : 0 < S
    · exact absurd (h2U 0 hS) (by omega)
    · omega
theorem cBk.skips {c : cSt} {s : mSt} {e : Nat → Nat → Nat} {U S W T : Nat} (hJ : cJ c s e U S W T) {A : cG} {tk : Nat → Int32} {R : Nat → Nat → Option Nat} {u : Nat} (hu : u < U) (ht : tk u = 0) : ∀ r k, k + r = cEnd e U S u → e 16 u ≤ k → cBk s e S A tk R k → cBk s e S A tk R (cEnd e U S u) := by
  have ee := hJ.ee hu
  intro r
  induction r with
  | zero => exact fun k hk hb h => by rw [← hk]; exact h
  | succ r ih =>
    intro k hk hb h
    refine ih (k + 1) (by omega) (by omega) (h.skip (Or.inl ?_))
    rw [(hJ.ord (j := k) (by omega) u hu).mpr ⟨hb, by omega⟩]
    exact ht
set_option maxRecDepth 20000 in
theorem l_L_bind {G : ax_G} {x : ax_X} {h0 : ax_H} {P : Option Value → ax_H → Prop} {o : Nat} {c : cSt} (s : mSt) (e : Nat → Nat → Nat) (U S W T : Nat) (hJ : cJ c s e U S W T) (hSb : S ≤ 2048) (hUb : U ≤ 32) (tk : Nat → Int32) (ht : ∀ u, u < U → c.2.1 23 u = tk u) (hq : ax_H) (hp : ∀ R h2, cR o (cM c c.2.1 R) h2 → cIg [44, 45] c c.2.1 R → cBk s e S c.2.2.2.2 tk R S → cFr o (c.2.2.2.2.2 5) hq h2 → P none h2) : ∀ r u R h o2, u + r = U → cR o (cM c c.2.1 R) h → cIg [44, 45] c c.2.1 R → cBk s e S c.2.2.2.2 tk R (cE6 e U S u) → cFr o (c.2.2.2.2.2 5) hq h → AW G x Y_L_bindNames 2 43 h0 P h 2 [some (.ref o), some (.int (nI u)), o2] [] := by
  intro r
  induction r with
  | zero =>
    intro u R h o2 hu hR hg hB hF
    have huu : u = U := by omega
    rw [cE6, if_neg (by omega)] at hB
    have hJ1 := hJ.m hg (by decide)
    refine aw_iload_n d_L_bindNames_2 rfl rfl ?_
    refine aw_aloadV_n d_L_bindNames_3 rfl rfl (by first | exact Or.inl ⟨_, rfl⟩ | exact Or.inr rfl | exact rv_Q _) ?_
    refine aw_getE cl_L fl_L_62 (by decide) hR.obj rfl (congrArg Value.int hJ1.sU) d_L_bindNames_4 ?_
    refine aw_icmp_ge (tgt := 34) d_L_bindNames_7 (by decide) (fun c7 => ?_) (fun c7 => ?_)
    · refine aw_vret ?_ rfl d_L_bindNames_34
      exact hp R h hR hg hB hF
    · exact absurd (nI_le (show U ≤ u by omega) (by omega)) c7
  | succ r ih =>
    intro u R h o2 hu hR hg hB hF
    have huU : u < U := by omega
    have hJ1 := hJ.m hg (by decide)
    rw [cE6, if_pos huU] at hB
    have e6 : cE6 e U S (u + 1) = cEnd e U S u := rfl
    refine aw_iload_n d_L_bindNames_2 rfl rfl ?_
    refine aw_aloadV_n d_L_bindNames_3 rfl rfl (by first | exact Or.inl ⟨_, rfl⟩ | exact Or.inr rfl | exact rv_Q _) ?_
    refine aw_getE cl_L fl_L_62 (by decide) hR.obj rfl (congrArg Value.int hJ1.sU) d_L_bindNames_4 ?_
    refine aw_icmp_ge (tgt := 34) d_L_bindNames_7 (by decide) (fun c7 => ?_) (fun c7 => ?_)
    · exact absurd c7 (nI_ge (by omega) (by omega))
    · refine aw_aloadV_n d_L_bindNames_10 rfl rfl (by first | exact Or.inl ⟨_, rfl⟩ | exact Or.inr rfl | exact rv_Q _) ?_
      refine aw_get cl_L fl_L_11 (by decide) hR.obj rfl d_L_bindNames_11 ?_
      refine aw_iload_n d_L_bindNames_14 rfl rfl ?_
      refine aC_l1 hR rfl (show u < 32 by omega) (hJ1.rU huU) d_L_bindNames_15 ?_
      refine aw_astoreV_n d_L_bindNames_16 rfl (by decide) (by first | exact Or.inl ⟨_, rfl⟩ | exact Or.inr rfl | exact rv_Q _) (by dsimp only [List.set]) ?_
      refine aw_aloadV_n d_L_bindNames_17 rfl rfl (by first | exact Or.inl ⟨_, rfl⟩ | exact Or.inr rfl | exact rv_Q _) ?_
      refine aw_getE cl_Unit fl_L_289 (by decide) (hR.unit (hJ1.hu huU)) rfl (congrArg Value.int (ht u huU)) d_L_bindNames_18 ?_
      refine aw_if_eq (tgt := 28) d_L_bindNames_21 (by decide) (fun c21 => ?_) (fun c21 => ?_)
      · refine aw_iinc (v := nI (u + 1)) d_L_bindNames_28 rfl (ax_inc u) (by decide) (by dsimp only [List.set]) ?_
        refine aw_goto (tgt := 2) d_L_bindNames_31 (by decide) ?_
        have eb := hJ.eb huU
        exact ih (u + 1) R _ _ (by omega) hR hg (by rw [e6]; exact cBk.skips hJ huU c21 (cEnd e U S u - e 16 u) _ (by omega) (Nat.le_refl _) hB) hF
      · refine aw_aloadV_n d_L_bindNames_24 rfl rfl (by first | exact Or.inl ⟨_, rfl⟩ | exact Or.inr rfl | exact rv_Q _) ?_
        refine aw_callV (c_Unit_bindLabels G _ o _ hR s e U S W T hJ1 huU hSb tk c21 hB) cl_Unit (hR.unit (hJ1.hu huU)) m_Unit_bindLabels ml_L_305 rfl rfl (by decide) (by decide) (Nat.le_of_ble_eq_true rfl) d_L_bindNames_25 ?_
        rintro v h2 ⟨rfl, R2, hR2, hg2, hB2, hF2⟩
        refine aw_iinc (v := nI (u + 1)) d_L_bindNames_28 rfl (ax_inc u) (by decide) (by dsimp only [List.set]) ?_
        refine aw_goto (tgt := 2) d_L_bindNames_31 (by decide) ?_
        exact ih (u + 1) R2 _ _ (by omega) hR2 ⟨hg2.1, fun F q => (hg2.2 F q).trans (hg.2 F q)⟩ (by rw [e6]; exact hB2) (hF.tr hF2)
set_option maxRecDepth 20000 in
theorem c_L_bindNames (G : ax_G) (h : ax_H) (o : Nat) (c : cSt) (hR : cR o c h) (s : mSt) (e : Nat → Nat → Nat) (U S W T : Nat) (hJ : cJ c s e U S W T) (hSb : S ≤ 2048) (hUb : U ≤ 32) (h2U : ∀ k, k < S → e 11 k < U) (tk : Nat → Int32) (ht : ∀ u, u < U → c.2.1 23 u = tk u) (hz : ∀ i, i < c.2.2.2.2.2 1 → c.2.2.2.1 44 i = none ∧ c.2.2.2.1 45 i = none) : AM G Y_L_bindNames 2 43 [.ref o] h (fun v h2 => v = none ∧ ∃ R, cR o (cM c c.2.1 R) h2 ∧ cIg [44, 45] c c.2.1 R ∧ cBk s e S c.2.2.2.2 tk R S ∧ cFr o (c.2.2.2.2.2 5) h h2) := by
  refine aw_enter (by decide) (Nat.le_of_ble_eq_true rfl) (n := 2) (ls := [some (.ref o), none, none]) rfl (fun x => ?_)
  refine aw_iconst (v := 0) d_L_bindNames_0 (by decide) ?_
  refine aw_istore_n d_L_bindNames_1 rfl (by decide) (by dsimp only [List.set]) ?_
  refine l_L_bind s e U S W T hJ hSb hUb tk ht h (fun R h2 a1 a2 a3 a4 => ⟨rfl, R, a1, a2, a3, a4⟩) U 0 _ _ _ (by omega) hR (cIg.rf _ c) ?_ (cFr.rf _ _ _)
  rw [hJ.zero h2U]
  exact fun i hi => hz i hi
