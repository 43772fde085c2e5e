theorem zP_zI (p : Prop) [d : Decidable p] : zI p = zP p := by
  by_cases q : p
  · rw [zI, if_pos q, zP_1 q]
  · rw [zI, if_neg q, zP_0 q]
theorem zI_t {p : Prop} [Decidable p] (h : ¬ zI p = 0) : p := by rw [zP_zI] at h; exact zP_t h
theorem zI_f {p : Prop} [Decidable p] (h : zI p = 0) : ¬ p := by rw [zP_zI] at h; exact zP_f h
theorem zP_nz {p : Prop} : ¬ zP p = 0 ↔ p := ⟨zP_t, fun q h => zP_f h q⟩
theorem zI_1 {p : Prop} [Decidable p] (h : p) : zI p = 1 := by rw [zI, if_pos h]
theorem zI_0 {p : Prop} [Decidable p] (h : ¬ p) : zI p = 0 := by rw [zI, if_neg h]
theorem zI_n (p : Prop) [Decidable p] : narrow .boolean (.int (zI p)) = .int (zI p) := by rw [zP_zI]; exact zP_n p
/-- a reference, or none -/
def cOp (p : Prop) [Decidable p] (a : Nat) : Option Nat := if p then some a else none
theorem cOp_t {p : Prop} [Decidable p] {a : Nat} (h : p) : cOp p a = some a := if_pos h
theorem cOp_f {p : Prop} [Decidable p] {a : Nat} (h : ¬ p) : cOp p a = none := if_neg h
theorem nI_iN {a : Int32} (h : 0 ≤ a) : nI (iN a) = a := by
  obtain ⟨j, h1, rfl⟩ := nI_of (Int32.not_lt.mpr h)
  rw [iN, nI_clamp h1]
theorem iN_lt {a : Int32} {n : Nat} (hn : n < 2 ^ 31) (h : 0 ≤ a) (h2 : a < nI n) : iN a < n := by
  obtain ⟨j, h1, rfl⟩ := nI_of (Int32.not_lt.mpr h)
  rw [iN, nI_clamp h1]
  exact (nI_ltI h1 hn).mp h2
theorem iN_le {a : Int32} {n : Nat} (hn : n < 2 ^ 31) (h : 0 ≤ a) (h2 : a ≤ nI n) : iN a ≤ n := by
  obtain ⟨j, h1, rfl⟩ := nI_of (Int32.not_lt.mpr h)
  rw [iN, nI_clamp h1]
  exact (nI_leI h1 hn).mp h2
theorem i32_lt4 {a : Int32} (h0 : 0 ≤ a) (h : a ≤ 3) : a < Int32.ofNat 4 := by
  obtain ⟨j, h1, rfl⟩ := nI_of (Int32.not_lt.mpr h0)
  have := (nI_leI (b := 3) h1 (by decide)).mp h
  exact nI_lt (b := 4) (by omega) (by decide)
theorem i32_le3 {a : Int32} (h0 : 0 ≤ a) (h : a < Int32.ofNat 4) : a ≤ 3 := by
  obtain ⟨j, h1, rfl⟩ := nI_of (Int32.not_lt.mpr h0)
  have := (nI_ltI (b := 4) h1 (by decide)).mp h
  exact nI_le (b := 3) (by omega) (by decide)
set_option maxRecDepth 20000 in
theorem c_L_isSectionSize (G : ax_G) (h : ax_H) (z : Int32) : AM G Y_L_isSectionSize 0 0 [.int z] h (fun v h2 => h2 = h ∧ v = some (.int (zI (mSzOk z)))) := by
  refine aw_enter (by decide) (Nat.le_of_ble_eq_true rfl) (n := 0) (ls := [some (.int z)]) rfl (fun x => ?_)
  refine aw_iload_n d_L_isSectionSize_0 rfl rfl ?_
  refine aw_if_lt (tgt := 15) d_L_isSectionSize_1 (by decide) (fun c1 => ?_) (fun c1 => ?_)
  · refine aw_iconst (v := 0) d_L_isSectionSize_15 (by decide) ?_
    refine aw_zret ?_ rfl rfl d_L_isSectionSize_16
    exact ⟨rfl, by rw [zI_0 (fun q => absurd q.1 (Int32.not_le.mpr c1))]⟩
  · refine aw_iload_n d_L_isSectionSize_4 rfl rfl ?_
    refine aw_ldcw kc_L_263 d_L_isSectionSize_5 ?_
    refine aw_icmp_gt (tgt := 15) d_L_isSectionSize_8 (by decide) (fun c8 => ?_) (fun c8 => ?_)
    · refine aw_iconst (v := 0) d_L_isSectionSize_15 (by decide) ?_
      refine aw_zret ?_ rfl rfl d_L_isSectionSize_16
      exact ⟨rfl, by rw [zI_0 (fun q => absurd q.2 (Int32.not_le.mpr c8))]⟩
    · refine aw_iconst (v := 1) d_L_isSectionSize_11 (by decide) ?_
      refine aw_goto (tgt := 16) d_L_isSectionSize_12 (by decide) ?_
      refine aw_zret ?_ rfl rfl d_L_isSectionSize_16
      exact ⟨rfl, by rw [zI_1 ⟨Int32.not_lt.mp c1, Int32.not_lt.mp c8⟩]⟩
set_option maxRecDepth 20000 in
theorem c_L_isLine (G : ax_G) (h : ax_H) (z : Int32) : AM G Y_L_isLine 0 0 [.int z] h (fun v h2 => h2 = h ∧ v = some (.int (zI (0 ≤ z ∧ z ≤ 65535)))) := by
  refine aw_enter (by decide) (Nat.le_of_ble_eq_true rfl) (n := 0) (ls := [some (.int z)]) rfl (fun x => ?_)
  refine aw_iload_n d_L_isLine_0 rfl rfl ?_
  refine aw_if_lt (tgt := 15) d_L_isLine_1 (by decide) (fun c1 => ?_) (fun c1 => ?_)
  · refine aw_iconst (v := 0) d_L_isLine_15 (by decide) ?_
    refine aw_zret ?_ rfl rfl d_L_isLine_16
    exact ⟨rfl, by rw [zI_0 (fun q => absurd q.1 (Int32.not_le.mpr c1))]⟩
  · refine aw_iload_n d_L_isLine_4 rfl rfl ?_
    refine aw_ldcw kc_L_264 d_L_isLine_5 ?_
    refine aw_icmp_gt (tgt := 15) d_L_isLine_8 (by decide) (fun c8 => ?_) (fun c8 => ?_)
    · refine aw_iconst (v := 0) d_L_isLine_15 (by decide) ?_
      refine aw_zret ?_ rfl rfl d_L_isLine_16
      exact ⟨rfl, by rw [zI_0 (fun q => absurd q.2 (Int32.not_le.mpr c8))]⟩
    · refine aw_iconst (v := 1) d_L_isLine_11 (by decide) ?_
      refine aw_goto (tgt := 16) d_L_isLine_12 (by decide) ?_
      refine aw_zret ?_ rfl rfl d_L_isLine_16
      exact ⟨rfl, by rw [zI_1 ⟨Int32.not_lt.mp c1, Int32.not_lt.mp c8⟩]⟩
set_option maxRecDepth 20000 in
theorem c_L_isNameLength (G : ax_G) (h : ax_H) (z : Int32) : AM G Y_L_isNameLength 0 0 [.int z] h (fun v h2 => h2 = h ∧ v = some (.int (zI (1 ≤ z ∧ z ≤ 8)))) := by
  refine aw_enter (by decide) (Nat.le_of_ble_eq_true rfl) (n := 0) (ls := [some (.int z)]) rfl (fun x => ?_)
  refine aw_iload_n d_L_isNameLength_0 rfl rfl ?_
  refine aw_iconst (v := 1) d_L_isNameLength_1 (by decide) ?_
  refine aw_icmp_lt (tgt := 15) d_L_isNameLength_2 (by decide) (fun c2 => ?_) (fun c2 => ?_)
  · refine aw_iconst (v := 0) d_L_isNameLength_15 (by decide) ?_
    refine aw_zret ?_ rfl rfl d_L_isNameLength_16
    exact ⟨rfl, by rw [zI_0 (fun q => absurd q.1 (Int32.not_le.mpr c2))]⟩
  · refine aw_iload_n d_L_isNameLength_5 rfl rfl ?_
    refine aw_bipush (v := 8) d_L_isNameLength_6 (by decide) ?_
    refine aw_icmp_gt (tgt := 15) d_L_isNameLength_8 (by decide) (fun c8 => ?_) (fun c8 => ?_)
    · refine aw_iconst (v := 0) d_L_isNameLength_15 (by decide) ?_
      refine aw_zret ?_ rfl rfl d_L_isNameLength_16
      exact ⟨rfl, by rw [zI_0 (fun q => absurd q.2 (Int32.not_le.mpr c8))]⟩
    · refine aw_iconst (v := 1) d_L_isNameLength_11 (by decide) ?_
      refine aw_goto (tgt := 16) d_L_isNameLength_12 (by decide) ?_
      refine aw_zret ?_ rfl rfl d_L_isNameLength_16
      exact ⟨rfl, by rw [zI_1 ⟨Int32.not_lt.mp c2, Int32.not_lt.mp c8⟩]⟩
set_option maxRecDepth 20000 in
theorem c_L_nameWord (G : ax_G) (h : ax_H) (w : Int64) (z : Int32) (hz : z ≤ 8) : AM G Y_L_nameWord 0 0 [.long w, .int z] h (fun v h2 => h2 = h ∧ v = some (.long (mCut w z))) := by
  refine aw_enter (by decide) (Nat.le_of_ble_eq_true rfl) (n := 0) (ls := [some (.long w), none, some (.int z)]) rfl (fun x => ?_)
  refine aw_iload_n d_L_nameWord_0 rfl rfl ?_
  refine aw_bipush (v := 8) d_L_nameWord_1 (by decide) ?_
  refine aw_icmp_lt (tgt := 10) d_L_nameWord_3 (by decide) (fun c3 => ?_) (fun c3 => ?_)
  · refine aw_lload_n d_L_nameWord_10 rfl rfl ?_
    refine aw_lconst (v := 1) d_L_nameWord_11 (by decide) ?_
    refine aw_bipush (v := 8) d_L_nameWord_12 (by decide) ?_
    refine aw_iload_n d_L_nameWord_14 rfl rfl ?_
    refine aw_imul d_L_nameWord_15 ?_
    refine aw_lshl d_L_nameWord_16 ?_
    refine aw_lconst (v := 1) d_L_nameWord_17 (by decide) ?_
    refine aw_lsub d_L_nameWord_18 ?_
    refine aw_land d_L_nameWord_19 ?_
    refine aw_lret ?_ rfl d_L_nameWord_20
    refine ⟨rfl, ?_⟩
    rw [mCut, if_neg (fun q => absurd c3 (by rw [q]; decide))]
  · refine aw_lload_n d_L_nameWord_6 rfl rfl ?_
    refine aw_goto (tgt := 20) d_L_nameWord_7 (by decide) ?_
    refine aw_lret ?_ rfl d_L_nameWord_20
    exact ⟨rfl, by rw [mCut, if_pos (Int32.le_antisymm hz (Int32.not_lt.mp c3))]⟩
set_option maxRecDepth 20000 in
theorem c_L_roundUp (G : ax_G) (h : ax_H) (z k : Int32) : AM G Y_L_roundUp 0 0 [.int z, .int k] h (fun v h2 => h2 = h ∧ v = some (.int ((z + k - 1) &&& (-k)))) := by
  refine aw_enter (by decide) (Nat.le_of_ble_eq_true rfl) (n := 0) (ls := [some (.int z), some (.int k)]) rfl (fun x => ?_)
  refine aw_iload_n d_L_roundUp_0 rfl rfl ?_
  refine aw_iload_n d_L_roundUp_1 rfl rfl ?_
  refine aw_iadd d_L_roundUp_2 ?_
  refine aw_iconst (v := 1) d_L_roundUp_3 (by decide) ?_
  refine aw_isub d_L_roundUp_4 ?_
  refine aw_iload_n d_L_roundUp_5 rfl rfl ?_
  refine aw_ineg d_L_roundUp_6 ?_
  refine aw_iand d_L_roundUp_7 ?_
  refine aw_iret ?_ rfl d_L_roundUp_8
  exact ⟨rfl, rfl⟩
set_option maxRecDepth 20000 in
theorem c_Section_holds (G : ax_G) (h : ax_H) (o : Nat) (c : cSt) (hR : cR o c h) {q : Nat} (hq : q < 4 * c.2.2.2.2.2 0) (p n : Int32) : AM G Y_Section_holds 0 0 [.ref (cQ c.2.2.2.2 q), .int p, .int n] h (fun v h2 => h2 = h ∧ v = some (.int (zI (0 ≤ p ∧ p ≤ c.2.1 24 q - n)))) := by
  refine aw_enter (by decide) (Nat.le_of_ble_eq_true rfl) (n := 0) (ls := [some (.ref (cQ c.2.2.2.2 q)), some (.int p), some (.int n)]) rfl (fun x => ?_)
  refine aw_iload_n d_Section_holds_0 rfl rfl ?_
  refine aw_if_lt (tgt := 18) d_Section_holds_1 (by decide) (fun c1 => ?_) (fun c1 => ?_)
  · refine aw_iconst (v := 0) d_Section_holds_18 (by decide) ?_
    refine aw_zret ?_ rfl rfl d_Section_holds_19
    exact ⟨rfl, by rw [zI_0 (fun q => absurd q.1 (Int32.not_le.mpr c1))]⟩
  · refine aw_iload_n d_Section_holds_4 rfl rfl ?_
    refine aw_aloadV_n d_Section_holds_5 rfl rfl (by first | exact Or.inl ⟨_, rfl⟩ | exact Or.inr rfl | exact rv_Q _) ?_
    refine aw_get cl_Section fl_Section_13 (by decide) (hR.sec hq) rfl d_Section_holds_6 ?_
    refine aw_iload_n d_Section_holds_9 rfl rfl ?_
    refine aw_isub d_Section_holds_10 ?_
    refine aw_icmp_gt (tgt := 18) d_Section_holds_11 (by decide) (fun c11 => ?_) (fun c11 => ?_)
    · refine aw_iconst (v := 0) d_Section_holds_18 (by decide) ?_
      refine aw_zret ?_ rfl rfl d_Section_holds_19
      exact ⟨rfl, by rw [zI_0 (fun q => absurd q.2 (Int32.not_le.mpr c11))]⟩
    · refine aw_iconst (v := 1) d_Section_holds_14 (by decide) ?_
      refine aw_goto (tgt := 19) d_Section_holds_15 (by decide) ?_
      refine aw_zret ?_ rfl rfl d_Section_holds_19
      exact ⟨rfl, by rw [zI_1 ⟨Int32.not_lt.mp c1, Int32.not_lt.mp c11⟩]⟩
set_option maxRecDepth 20000 in
theorem c_Section_hasPlace (G : ax_G) (h : ax_H) (o : Nat) (c : cSt) (hR : cR o c h) {q : Nat} (hq : q < 4 * c.2.2.2.2.2 0) (p : Int32) : AM G Y_Section_hasPlace 1 22 [.ref (cQ c.2.2.2.2 q), .int p] h (fun v h2 => h2 = h ∧ v = some (.int (zI (0 ≤ p ∧ p ≤ c.2.1 24 q)))) := by
  refine aw_enter (by decide) (Nat.le_of_ble_eq_true rfl) (n := 0) (ls := [some (.ref (cQ c.2.2.2.2 q)), some (.int p)]) rfl (fun x => ?_)
  refine aw_aloadV_n d_Section_hasPlace_0 rfl rfl (by first | exact Or.inl ⟨_, rfl⟩ | exact Or.inr rfl | exact rv_Q _) ?_
  refine aw_iload_n d_Section_hasPlace_1 rfl rfl ?_
  refine aw_iconst (v := 0) d_Section_hasPlace_2 (by decide) ?_
  refine aw_callV (c_Section_holds G _ o c hR hq p 0) cl_Section (hR.sec hq) m_Section_holds ml_Section_30 rfl rfl (by decide) (by decide) (Nat.le_of_ble_eq_true rfl) d_Section_hasPlace_3 ?_
  rintro v h' ⟨rfl, rfl⟩
  refine aw_zret ?_ rfl (zI_n _) d_Section_hasPlace_6
  refine ⟨rfl, ?_⟩
  rw [Int32.sub_zero]
set_option maxRecDepth 20000 in
theorem c_Unit_sectionOfKind (G : ax_G) (h : ax_H) (o : Nat) (c : cSt) (hR : cR o c h) {j : Nat} (hj : j < c.2.2.2.2.2 0) (a : Int32) : AM G Y_Unit_sectionOfKind 0 0 [.ref (c.2.2.2.2.1 0 j), .int a] h (fun v h2 => h2 = h ∧ v = some (va_rf (cOp (0 ≤ a ∧ a ≤ 3) (cQ c.2.2.2.2 (4 * j + iN a))))) := by
  refine aw_enter (by decide) (Nat.le_of_ble_eq_true rfl) (n := 0) (ls := [some (.ref (c.2.2.2.2.1 0 j)), some (.int a)]) rfl (fun x => ?_)
  refine aw_iload_n d_Unit_sectionOfKind_0 rfl rfl ?_
  refine aw_if_lt (tgt := 13) d_Unit_sectionOfKind_1 (by decide) (fun c1 => ?_) (fun c1 => ?_)
  · refine aw_null d_Unit_sectionOfKind_13 ?_
    refine aw_goto (tgt := 23) d_Unit_sectionOfKind_14 (by decide) ?_
    refine aw_aret (r := none) ?_ rfl (by first | exact Or.inl ⟨_, rfl⟩ | exact Or.inr ⟨_, rfl⟩) d_Unit_sectionOfKind_23
    refine ⟨rfl, ?_⟩
    rw [cOp_f (fun q => absurd q.1 (Int32.not_le.mpr c1))]
  · refine aw_iload_n d_Unit_sectionOfKind_4 rfl rfl ?_
    refine aw_aloadV_n d_Unit_sectionOfKind_5 rfl rfl (by first | exact Or.inl ⟨_, rfl⟩ | exact Or.inr rfl | exact rv_Q _) ?_
    refine aw_get cl_Unit fl_Unit_21 (by decide) (hR.unit hj) rfl d_Unit_sectionOfKind_6 ?_
    refine aw_alen (hR.secs hj) rfl d_Unit_sectionOfKind_9 ?_
    refine aw_icmp_lt (tgt := 17) d_Unit_sectionOfKind_10 (by decide) (fun c10 => ?_) (fun c10 => ?_)
    · refine aw_aloadV_n d_Unit_sectionOfKind_17 rfl rfl (by first | exact Or.inl ⟨_, rfl⟩ | exact Or.inr rfl | exact rv_Q _) ?_
      refine aw_get cl_Unit fl_Unit_21 (by decide) (hR.unit hj) rfl d_Unit_sectionOfKind_18 ?_
      refine aw_iload_n d_Unit_sectionOfKind_21 rfl rfl ?_
      refine aC_secs hR hj (show a = nI (iN a) from (nI_iN (Int32.not_lt.mp c1)).symm) (iN_lt (n := 4) (by decide) (Int32.not_lt.mp c1) c10) d_Unit_sectionOfKind_22 ?_
      refine aw_aret (r := some (cQ c.2.2.2.2 (4 * j + iN a))) ?_ rfl (by first | exact Or.inl ⟨_, rfl⟩ | exact Or.inr ⟨_, rfl⟩) d_Unit_sectionOfKind_23
      refine ⟨rfl, ?_⟩
      rw [cOp_t ⟨Int32.not_lt.mp c1, i32_le3 (Int32.not_lt.mp c1) c10⟩]
    · refine aw_null d_Unit_sectionOfKind_13 ?_
      refine aw_goto (tgt := 23) d_Unit_sectionOfKind_14 (by decide) ?_
      refine aw_aret (r := none) ?_ rfl (by first | exact Or.inl ⟨_, rfl⟩ | exact Or.inr ⟨_, rfl⟩) d_Unit_sectionOfKind_23
      refine ⟨rfl, ?_⟩
      rw [cOp_f (fun q => c10 (i32_lt4 q.1 q.2))]
