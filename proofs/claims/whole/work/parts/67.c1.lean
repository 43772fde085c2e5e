section CRW
variable {G : ax_G} {x : ax_X} {Y : ax_Y} {fr lo : Nat} {h0 h : ax_H} {P : Option Value → ax_H → Prop} {pc : Nat} {ls : List (Option Value)} {st : List Value} {o : Nat} {c : cSt}
theorem aC_p9 (hR : cR o c h) {idx : Nat} {v : Int32} (f : ax_fl Y.1.cls idx T_L 9) (hn : narrow (ty_L 9) (.int v) = .int v) (hf : fits (ty_L 9) (.int v) = true) (hd : decode Y.2.1 pc = .ok (.putfield idx, 3)) (k : ∀ h1, cR o (va_up c.1 9 v, c.2) h1 → cFr o (c.2.2.2.2.2 5) h h1 → AW G x Y fr lo h0 P h1 (pc + 3) ls st) : AW G x Y fr lo h0 P h pc ls (.int v :: .ref (o) :: st) :=
  aw_put cl_L f (by decide) rfl hR.obj (Nat.le_of_ble_eq_true rfl) hn hf hd (k _ (hR.p9 v).1 (hR.p9 v).2)
theorem aC_p10 (hR : cR o c h) {idx : Nat} {v : Int32} (f : ax_fl Y.1.cls idx T_L 10) (hn : narrow (ty_L 10) (.int v) = .int v) (hf : fits (ty_L 10) (.int v) = true) (hd : decode Y.2.1 pc = .ok (.putfield idx, 3)) (k : ∀ h1, cR o (va_up c.1 10 v, c.2) h1 → cFr o (c.2.2.2.2.2 5) h h1 → AW G x Y fr lo h0 P h1 (pc + 3) ls st) : AW G x Y fr lo h0 P h pc ls (.int v :: .ref (o) :: st) :=
  aw_put cl_L f (by decide) rfl hR.obj (Nat.le_of_ble_eq_true rfl) hn hf hd (k _ (hR.p10 v).1 (hR.p10 v).2)
theorem aC_p11 (hR : cR o c h) {idx : Nat} {v : Int32} (f : ax_fl Y.1.cls idx T_L 11) (hn : narrow (ty_L 11) (.int v) = .int v) (hf : fits (ty_L 11) (.int v) = true) (hd : decode Y.2.1 pc = .ok (.putfield idx, 3)) (k : ∀ h1, cR o (va_up c.1 11 v, c.2) h1 → cFr o (c.2.2.2.2.2 5) h h1 → AW G x Y fr lo h0 P h1 (pc + 3) ls st) : AW G x Y fr lo h0 P h pc ls (.int v :: .ref (o) :: st) :=
  aw_put cl_L f (by decide) rfl hR.obj (Nat.le_of_ble_eq_true rfl) hn hf hd (k _ (hR.p11 v).1 (hR.p11 v).2)
theorem aC_p12 (hR : cR o c h) {idx : Nat} {v : Int32} (f : ax_fl Y.1.cls idx T_L 12) (hn : narrow (ty_L 12) (.int v) = .int v) (hf : fits (ty_L 12) (.int v) = true) (hd : decode Y.2.1 pc = .ok (.putfield idx, 3)) (k : ∀ h1, cR o (va_up c.1 12 v, c.2) h1 → cFr o (c.2.2.2.2.2 5) h h1 → AW G x Y fr lo h0 P h1 (pc + 3) ls st) : AW G x Y fr lo h0 P h pc ls (.int v :: .ref (o) :: st) :=
  aw_put cl_L f (by decide) rfl hR.obj (Nat.le_of_ble_eq_true rfl) hn hf hd (k _ (hR.p12 v).1 (hR.p12 v).2)
theorem aC_p13 (hR : cR o c h) {idx : Nat} {v : Int32} (f : ax_fl Y.1.cls idx T_L 13) (hn : narrow (ty_L 13) (.int v) = .int v) (hf : fits (ty_L 13) (.int v) = true) (hd : decode Y.2.1 pc = .ok (.putfield idx, 3)) (k : ∀ h1, cR o (va_up c.1 13 v, c.2) h1 → cFr o (c.2.2.2.2.2 5) h h1 → AW G x Y fr lo h0 P h1 (pc + 3) ls st) : AW G x Y fr lo h0 P h pc ls (.int v :: .ref (o) :: st) :=
  aw_put cl_L f (by decide) rfl hR.obj (Nat.le_of_ble_eq_true rfl) hn hf hd (k _ (hR.p13 v).1 (hR.p13 v).2)
theorem aC_p14 (hR : cR o c h) {idx : Nat} {v : Int32} (f : ax_fl Y.1.cls idx T_L 14) (hn : narrow (ty_L 14) (.int v) = .int v) (hf : fits (ty_L 14) (.int v) = true) (hd : decode Y.2.1 pc = .ok (.putfield idx, 3)) (k : ∀ h1, cR o (va_up c.1 14 v, c.2) h1 → cFr o (c.2.2.2.2.2 5) h h1 → AW G x Y fr lo h0 P h1 (pc + 3) ls st) : AW G x Y fr lo h0 P h pc ls (.int v :: .ref (o) :: st) :=
  aw_put cl_L f (by decide) rfl hR.obj (Nat.le_of_ble_eq_true rfl) hn hf hd (k _ (hR.p14 v).1 (hR.p14 v).2)
theorem aC_p15 (hR : cR o c h) {idx : Nat} {v : Int32} (f : ax_fl Y.1.cls idx T_L 15) (hn : narrow (ty_L 15) (.int v) = .int v) (hf : fits (ty_L 15) (.int v) = true) (hd : decode Y.2.1 pc = .ok (.putfield idx, 3)) (k : ∀ h1, cR o (va_up c.1 15 v, c.2) h1 → cFr o (c.2.2.2.2.2 5) h h1 → AW G x Y fr lo h0 P h1 (pc + 3) ls st) : AW G x Y fr lo h0 P h pc ls (.int v :: .ref (o) :: st) :=
  aw_put cl_L f (by decide) rfl hR.obj (Nat.le_of_ble_eq_true rfl) hn hf hd (k _ (hR.p15 v).1 (hR.p15 v).2)
theorem aC_p50 (hR : cR o c h) {idx : Nat} {v : Int32} (f : ax_fl Y.1.cls idx T_Fault 0) (hn : narrow (ty_Fault 0) (.int v) = .int v) (hf : fits (ty_Fault 0) (.int v) = true) (hd : decode Y.2.1 pc = .ok (.putfield idx, 3)) (k : ∀ h1, cR o (va_up c.1 50 v, c.2) h1 → cFr o (c.2.2.2.2.2 5) h h1 → AW G x Y fr lo h0 P h1 (pc + 3) ls st) : AW G x Y fr lo h0 P h pc ls (.int v :: .ref (o + 7) :: st) :=
  aw_put cl_Fault f (by decide) rfl hR.flt (Nat.le_of_ble_eq_true rfl) hn hf hd (k _ (hR.p50 v).1 (hR.p50 v).2)
theorem aC_p51 (hR : cR o c h) {idx : Nat} {v : Int32} (f : ax_fl Y.1.cls idx T_Fault 1) (hn : narrow (ty_Fault 1) (.int v) = .int v) (hf : fits (ty_Fault 1) (.int v) = true) (hd : decode Y.2.1 pc = .ok (.putfield idx, 3)) (k : ∀ h1, cR o (va_up c.1 51 v, c.2) h1 → cFr o (c.2.2.2.2.2 5) h h1 → AW G x Y fr lo h0 P h1 (pc + 3) ls st) : AW G x Y fr lo h0 P h pc ls (.int v :: .ref (o + 7) :: st) :=
  aw_put cl_Fault f (by decide) rfl hR.flt (Nat.le_of_ble_eq_true rfl) hn hf hd (k _ (hR.p51 v).1 (hR.p51 v).2)
theorem aC_p52 (hR : cR o c h) {idx : Nat} {v : Int32} (f : ax_fl Y.1.cls idx T_Fault 2) (hn : narrow (ty_Fault 2) (.int v) = .int v) (hf : fits (ty_Fault 2) (.int v) = true) (hd : decode Y.2.1 pc = .ok (.putfield idx, 3)) (k : ∀ h1, cR o (va_up c.1 52 v, c.2) h1 → cFr o (c.2.2.2.2.2 5) h h1 → AW G x Y fr lo h0 P h1 (pc + 3) ls st) : AW G x Y fr lo h0 P h pc ls (.int v :: .ref (o + 7) :: st) :=
  aw_put cl_Fault f (by decide) rfl hR.flt (Nat.le_of_ble_eq_true rfl) hn hf hd (k _ (hR.p52 v).1 (hR.p52 v).2)
theorem aC_p53 (hR : cR o c h) {idx : Nat} {v : Int32} (f : ax_fl Y.1.cls idx T_Image 7) (hn : narrow (ty_Image 7) (.int v) = .int v) (hf : fits (ty_Image 7) (.int v) = true) (hd : decode Y.2.1 pc = .ok (.putfield idx, 3)) (k : ∀ h1, cR o (va_up c.1 53 v, c.2) h1 → cFr o (c.2.2.2.2.2 5) h h1 → AW G x Y fr lo h0 P h1 (pc + 3) ls st) : AW G x Y fr lo h0 P h pc ls (.int v :: .ref (o + 8) :: st) :=
  aw_put cl_Image f (by decide) rfl hR.img (Nat.le_of_ble_eq_true rfl) hn hf hd (k _ (hR.p53 v).1 (hR.p53 v).2)
theorem aC_p54 (hR : cR o c h) {idx : Nat} {v : Int32} (f : ax_fl Y.1.cls idx T_Image 8) (hn : narrow (ty_Image 8) (.int v) = .int v) (hf : fits (ty_Image 8) (.int v) = true) (hd : decode Y.2.1 pc = .ok (.putfield idx, 3)) (k : ∀ h1, cR o (va_up c.1 54 v, c.2) h1 → cFr o (c.2.2.2.2.2 5) h h1 → AW G x Y fr lo h0 P h1 (pc + 3) ls st) : AW G x Y fr lo h0 P h pc ls (.int v :: .ref (o + 8) :: st) :=
  aw_put cl_Image f (by decide) rfl hR.img (Nat.le_of_ble_eq_true rfl) hn hf hd (k _ (hR.p54 v).1 (hR.p54 v).2)
theorem aC_p22 (hR : cR o c h) {i : Nat} (hi : i < c.2.2.2.2.2 0) {idx : Nat} {v : Int32} (f : ax_fl Y.1.cls idx T_Unit 5) (hn : narrow (ty_Unit 5) (.int v) = .int v) (hf : fits (ty_Unit 5) (.int v) = true) (hd : decode Y.2.1 pc = .ok (.putfield idx, 3)) (k : ∀ h1, cR o (c.1, va_up c.2.1 22 (va_up (c.2.1 22) i v), c.2.2) h1 → cFr o (c.2.2.2.2.2 5) h h1 → AW G x Y fr lo h0 P h1 (pc + 3) ls st) : AW G x Y fr lo h0 P h pc ls (.int v :: .ref (c.2.2.2.2.1 0 i) :: st) :=
  aw_put cl_Unit f (by decide) rfl (hR.unit hi) (Nat.le_of_ble_eq_true rfl) hn hf hd (k _ (hR.p22 hi v).1 (hR.p22 hi v).2)
theorem aC_p23 (hR : cR o c h) {i : Nat} (hi : i < c.2.2.2.2.2 0) {idx : Nat} {v : Int32} (f : ax_fl Y.1.cls idx T_Unit 6) (hn : narrow (ty_Unit 6) (.int v) = .int v) (hf : fits (ty_Unit 6) (.int v) = true) (hd : decode Y.2.1 pc = .ok (.putfield idx, 3)) (k : ∀ h1, cR o (c.1, va_up c.2.1 23 (va_up (c.2.1 23) i v), c.2.2) h1 → cFr o (c.2.2.2.2.2 5) h h1 → AW G x Y fr lo h0 P h1 (pc + 3) ls st) : AW G x Y fr lo h0 P h pc ls (.int v :: .ref (c.2.2.2.2.1 0 i) :: st) :=
  aw_put cl_Unit f (by decide) rfl (hR.unit hi) (Nat.le_of_ble_eq_true rfl) hn hf hd (k _ (hR.p23 hi v).1 (hR.p23 hi v).2)
theorem aC_p26 (hR : cR o c h) {i : Nat} (hi : i < 4 * c.2.2.2.2.2 0) {idx : Nat} {v : Int32} (f : ax_fl Y.1.cls idx T_Section 3) (hn : narrow (ty_Section 3) (.int v) = .int v) (hf : fits (ty_Section 3) (.int v) = true) (hd : decode Y.2.1 pc = .ok (.putfield idx, 3)) (k : ∀ h1, cR o (c.1, va_up c.2.1 26 (va_up (c.2.1 26) i v), c.2.2) h1 → cFr o (c.2.2.2.2.2 5) h h1 → AW G x Y fr lo h0 P h1 (pc + 3) ls st) : AW G x Y fr lo h0 P h pc ls (.int v :: .ref (cQ c.2.2.2.2 i) :: st) :=
  aw_put cl_Section f (by decide) rfl (hR.sec hi) (Nat.le_of_ble_eq_true rfl) hn hf hd (k _ (hR.p26 hi v).1 (hR.p26 hi v).2)
theorem aC_p27 (hR : cR o c h) {i : Nat} (hi : i < 4 * c.2.2.2.2.2 0) {idx : Nat} {v : Int32} (f : ax_fl Y.1.cls idx T_Section 4) (hn : narrow (ty_Section 4) (.int v) = .int v) (hf : fits (ty_Section 4) (.int v) = true) (hd : decode Y.2.1 pc = .ok (.putfield idx, 3)) (k : ∀ h1, cR o (c.1, va_up c.2.1 27 (va_up (c.2.1 27) i v), c.2.2) h1 → cFr o (c.2.2.2.2.2 5) h h1 → AW G x Y fr lo h0 P h1 (pc + 3) ls st) : AW G x Y fr lo h0 P h pc ls (.int v :: .ref (cQ c.2.2.2.2 i) :: st) :=
  aw_put cl_Section f (by decide) rfl (hR.sec hi) (Nat.le_of_ble_eq_true rfl) hn hf hd (k _ (hR.p27 hi v).1 (hR.p27 hi v).2)
theorem aC_p28 (hR : cR o c h) {i : Nat} (hi : i < 4 * c.2.2.2.2.2 0) {idx : Nat} {v : Int32} (f : ax_fl Y.1.cls idx T_Section 5) (hn : narrow (ty_Section 5) (.int v) = .int v) (hf : fits (ty_Section 5) (.int v) = true) (hd : decode Y.2.1 pc = .ok (.putfield idx, 3)) (k : ∀ h1, cR o (c.1, va_up c.2.1 28 (va_up (c.2.1 28) i v), c.2.2) h1 → cFr o (c.2.2.2.2.2 5) h h1 → AW G x Y fr lo h0 P h1 (pc + 3) ls st) : AW G x Y fr lo h0 P h pc ls (.int v :: .ref (cQ c.2.2.2.2 i) :: st) :=
  aw_put cl_Section f (by decide) rfl (hR.sec hi) (Nat.le_of_ble_eq_true rfl) hn hf hd (k _ (hR.p28 hi v).1 (hR.p28 hi v).2)
theorem aC_p30 (hR : cR o c h) {i : Nat} (hi : i < c.2.2.2.2.2 1) {idx : Nat} {v : Int32} (f : ax_fl Y.1.cls idx T_Name 2) (hn : narrow (ty_Name 2) (.int v) = .int v) (hf : fits (ty_Name 2) (.int v) = true) (hd : decode Y.2.1 pc = .ok (.putfield idx, 3)) (k : ∀ h1, cR o (c.1, va_up c.2.1 30 (va_up (c.2.1 30) i v), c.2.2) h1 → cFr o (c.2.2.2.2.2 5) h h1 → AW G x Y fr lo h0 P h1 (pc + 3) ls st) : AW G x Y fr lo h0 P h pc ls (.int v :: .ref (c.2.2.2.2.1 1 i) :: st) :=
  aw_put cl_Name f (by decide) rfl (hR.name hi) (Nat.le_of_ble_eq_true rfl) hn hf hd (k _ (hR.p30 hi v).1 (hR.p30 hi v).2)
theorem aC_p31 (hR : cR o c h) {i : Nat} (hi : i < c.2.2.2.2.2 1) {idx : Nat} {v : Int32} (f : ax_fl Y.1.cls idx T_Name 3) (hn : narrow (ty_Name 3) (.int v) = .int v) (hf : fits (ty_Name 3) (.int v) = true) (hd : decode Y.2.1 pc = .ok (.putfield idx, 3)) (k : ∀ h1, cR o (c.1, va_up c.2.1 31 (va_up (c.2.1 31) i v), c.2.2) h1 → cFr o (c.2.2.2.2.2 5) h h1 → AW G x Y fr lo h0 P h1 (pc + 3) ls st) : AW G x Y fr lo h0 P h pc ls (.int v :: .ref (c.2.2.2.2.1 1 i) :: st) :=
  aw_put cl_Name f (by decide) rfl (hR.name hi) (Nat.le_of_ble_eq_true rfl) hn hf hd (k _ (hR.p31 hi v).1 (hR.p31 hi v).2)
theorem aC_p44 (hR : cR o c h) {i : Nat} (hi : i < c.2.2.2.2.2 1) {idx : Nat} {v : Option Nat} (f : ax_fl Y.1.cls idx T_Name 4) (hd : decode Y.2.1 pc = .ok (.putfield idx, 3)) (k : ∀ h1, cR o (c.1, c.2.1, c.2.2.1, va_up c.2.2.2.1 44 (va_up (c.2.2.2.1 44) i v), c.2.2.2.2) h1 → cFr o (c.2.2.2.2.2 5) h h1 → AW G x Y fr lo h0 P h1 (pc + 3) ls st) : AW G x Y fr lo h0 P h pc ls (va_rf v :: .ref (c.2.2.2.2.1 1 i) :: st) :=
  aw_put cl_Name f (by decide) rfl (hR.name hi) (Nat.le_of_ble_eq_true rfl) (va_rf_n _ v) (va_rf_f _ v) hd (k _ (hR.p44 hi v).1 (hR.p44 hi v).2)
theorem aC_p45 (hR : cR o c h) {i : Nat} (hi : i < c.2.2.2.2.2 1) {idx : Nat} {v : Option Nat} (f : ax_fl Y.1.cls idx T_Name 5) (hd : decode Y.2.1 pc = .ok (.putfield idx, 3)) (k : ∀ h1, cR o (c.1, c.2.1, c.2.2.1, va_up c.2.2.2.1 45 (va_up (c.2.2.2.1 45) i v), c.2.2.2.2) h1 → cFr o (c.2.2.2.2.2 5) h h1 → AW G x Y fr lo h0 P h1 (pc + 3) ls st) : AW G x Y fr lo h0 P h pc ls (va_rf v :: .ref (c.2.2.2.2.1 1 i) :: st) :=
  aw_put cl_Name f (by decide) rfl (hR.name hi) (Nat.le_of_ble_eq_true rfl) (va_rf_n _ v) (va_rf_f _ v) hd (k _ (hR.p45 hi v).1 (hR.p45 hi v).2)
theorem aC_l1 (hR : cR o c h) {j a : Nat} {z : Int32} (hz : z = nI j) (hj : j < 32) (hr : c.2.2.2.1 1 j = some a) (hd : decode Y.2.1 pc = .ok (.aaload, 1)) (k : AW G x Y fr lo h0 P h (pc + 1) ls (.ref a :: st)) : AW G x Y fr lo h0 P h pc ls (.int z :: .ref (o + 1) :: st) := by
  subst hz
  refine aw_aald hR.a1 (vp_in_nI hj (by decide)) hd ?_
  rw [nI_clamp (by omega), hr]
  exact k
theorem aC_s1 (hR : cR o c h) {j b : Nat} {fs : List Value} {z : Int32} (hz : z = nI j) (hj : j < 32) (hb : h.2.2 b = some (.inr (3, fs))) (hd : decode Y.2.1 pc = .ok (.aastore, 1)) (k : ∀ h1, cR o (c.1, c.2.1, c.2.2.1, va_up c.2.2.2.1 1 (va_up (c.2.2.2.1 1) j (some b)), c.2.2.2.2) h1 → cFr o (c.2.2.2.2.2 5) h h1 → AW G x Y fr lo h0 P h1 (pc + 1) ls st) : AW G x Y fr lo h0 P h pc ls (.ref b :: .int z :: .ref (o + 1) :: st) := by
  subst hz
  refine aw_aast cl_Unit (Or.inl rfl) hR.a1 hb (vp_in_nI hj (by decide)) hd ?_
  rw [nI_clamp (by omega)]
  exact k _ (hR.w1 _).1 (hR.w1 _).2
theorem aC_l2 (hR : cR o c h) {j a : Nat} {z : Int32} (hz : z = nI j) (hj : j < 2048) (hr : c.2.2.2.1 2 j = some a) (hd : decode Y.2.1 pc = .ok (.aaload, 1)) (k : AW G x Y fr lo h0 P h (pc + 1) ls (.ref a :: st)) : AW G x Y fr lo h0 P h pc ls (.int z :: .ref (o + 2) :: st) := by
  subst hz
  refine aw_aald hR.a2 (vp_in_nI hj (by decide)) hd ?_
  rw [nI_clamp (by omega), hr]
  exact k
theorem aC_s2 (hR : cR o c h) {j b : Nat} {fs : List Value} {z : Int32} (hz : z = nI j) (hj : j < 2048) (hb : h.2.2 b = some (.inr (5, fs))) (hd : decode Y.2.1 pc = .ok (.aastore, 1)) (k : ∀ h1, cR o (c.1, c.2.1, c.2.2.1, va_up c.2.2.2.1 2 (va_up (c.2.2.2.1 2) j (some b)), c.2.2.2.2) h1 → cFr o (c.2.2.2.2.2 5) h h1 → AW G x Y fr lo h0 P h1 (pc + 1) ls st) : AW G x Y fr lo h0 P h pc ls (.ref b :: .int z :: .ref (o + 2) :: st) := by
  subst hz
  refine aw_aast cl_Name (Or.inl rfl) hR.a2 hb (vp_in_nI hj (by decide)) hd ?_
  rw [nI_clamp (by omega)]
  exact k _ (hR.w2 _).1 (hR.w2 _).2
theorem aC_l3 (hR : cR o c h) {j a : Nat} {z : Int32} (hz : z = nI j) (hj : j < 2048) (hr : c.2.2.2.1 3 j = some a) (hd : decode Y.2.1 pc = .ok (.aaload, 1)) (k : AW G x Y fr lo h0 P h (pc + 1) ls (.ref a :: st)) : AW G x Y fr lo h0 P h pc ls (.int z :: .ref (o + 3) :: st) := by
  subst hz
  refine aw_aald hR.a3 (vp_in_nI hj (by decide)) hd ?_
  rw [nI_clamp (by omega), hr]
  exact k
theorem aC_s3 (hR : cR o c h) {j b : Nat} {fs : List Value} {z : Int32} (hz : z = nI j) (hj : j < 2048) (hb : h.2.2 b = some (.inr (6, fs))) (hd : decode Y.2.1 pc = .ok (.aastore, 1)) (k : ∀ h1, cR o (c.1, c.2.1, c.2.2.1, va_up c.2.2.2.1 3 (va_up (c.2.2.2.1 3) j (some b)), c.2.2.2.2) h1 → cFr o (c.2.2.2.2.2 5) h h1 → AW G x Y fr lo h0 P h1 (pc + 1) ls st) : AW G x Y fr lo h0 P h pc ls (.ref b :: .int z :: .ref (o + 3) :: st) := by
  subst hz
  refine aw_aast cl_Symbol (Or.inl rfl) hR.a3 hb (vp_in_nI hj (by decide)) hd ?_
  rw [nI_clamp (by omega)]
  exact k _ (hR.w3 _).1 (hR.w3 _).2
theorem aC_l4 (hR : cR o c h) {j a : Nat} {z : Int32} (hz : z = nI j) (hj : j < 4096) (hr : c.2.2.2.1 4 j = some a) (hd : decode Y.2.1 pc = .ok (.aaload, 1)) (k : AW G x Y fr lo h0 P h (pc + 1) ls (.ref a :: st)) : AW G x Y fr lo h0 P h pc ls (.int z :: .ref (o + 4) :: st) := by
  subst hz
  refine aw_aald hR.a4 (vp_in_nI hj (by decide)) hd ?_
  rw [nI_clamp (by omega), hr]
  exact k
theorem aC_s4 (hR : cR o c h) {j b : Nat} {fs : List Value} {z : Int32} (hz : z = nI j) (hj : j < 4096) (hb : h.2.2 b = some (.inr (7, fs))) (hd : decode Y.2.1 pc = .ok (.aastore, 1)) (k : ∀ h1, cR o (c.1, c.2.1, c.2.2.1, va_up c.2.2.2.1 4 (va_up (c.2.2.2.1 4) j (some b)), c.2.2.2.2) h1 → cFr o (c.2.2.2.2.2 5) h h1 → AW G x Y fr lo h0 P h1 (pc + 1) ls st) : AW G x Y fr lo h0 P h pc ls (.ref b :: .int z :: .ref (o + 4) :: st) := by
  subst hz
  refine aw_aast cl_Wait (Or.inl rfl) hR.a4 hb (vp_in_nI hj (by decide)) hd ?_
  rw [nI_clamp (by omega)]
  exact k _ (hR.w4 _).1 (hR.w4 _).2
theorem aC_l5 (hR : cR o c h) {j a : Nat} {z : Int32} (hz : z = nI j) (hj : j < 8192) (hr : c.2.2.2.1 5 j = some a) (hd : decode Y.2.1 pc = .ok (.aaload, 1)) (k : AW G x Y fr lo h0 P h (pc + 1) ls (.ref a :: st)) : AW G x Y fr lo h0 P h pc ls (.int z :: .ref (o + 5) :: st) := by
  subst hz
  refine aw_aald hR.a5 (vp_in_nI hj (by decide)) hd ?_
  rw [nI_clamp (by omega), hr]
  exact k
theorem aC_s5 (hR : cR o c h) {j b : Nat} {fs : List Value} {z : Int32} (hz : z = nI j) (hj : j < 8192) (hb : h.2.2 b = some (.inr (8, fs))) (hd : decode Y.2.1 pc = .ok (.aastore, 1)) (k : ∀ h1, cR o (c.1, c.2.1, c.2.2.1, va_up c.2.2.2.1 5 (va_up (c.2.2.2.1 5) j (some b)), c.2.2.2.2) h1 → cFr o (c.2.2.2.2.2 5) h h1 → AW G x Y fr lo h0 P h1 (pc + 1) ls st) : AW G x Y fr lo h0 P h pc ls (.ref b :: .int z :: .ref (o + 5) :: st) := by
  subst hz
  refine aw_aast cl_Start (Or.inl rfl) hR.a5 hb (vp_in_nI hj (by decide)) hd ?_
  rw [nI_clamp (by omega)]
  exact k _ (hR.w5 _).1 (hR.w5 _).2
theorem aC_l6 (hR : cR o c h) {j : Nat} {z : Int32} (hz : z = nI j) (hj : j < 262144) (hd : decode Y.2.1 pc = .ok (.baload, 1)) (k : AW G x Y fr lo h0 P h (pc + 1) ls (.int (c.2.1 6 j) :: st)) : AW G x Y fr lo h0 P h pc ls (.int z :: .ref (o + 6) :: st) := by
  subst hz
  refine aw_bald hR.a6 (vp_in_nI hj (by decide)) hd ?_
  rw [nI_clamp (by omega)]
  exact k
theorem aC_s6 (hR : cR o c h) {j : Nat} {z : Int32} {v : Int32} (hz : z = nI j) (hj : j < 262144) (hd : decode Y.2.1 pc = .ok (.bastore, 1)) (k : ∀ h1, cR o (c.1, va_up c.2.1 6 (va_up (c.2.1 6) j v.toInt8.toInt32), c.2.2) h1 → cFr o (c.2.2.2.2.2 5) h h1 → AW G x Y fr lo h0 P h1 (pc + 1) ls st) : AW G x Y fr lo h0 P h pc ls (.int v :: .int z :: .ref (o + 6) :: st) := by
  subst hz
  refine aw_bast hR.a6 (vp_in_nI hj (by decide)) hd ?_
  rw [nI_clamp (by omega)]
  exact k _ (hR.w6 _).1 (hR.w6 _).2
theorem aC_l9 (hR : cR o c h) {j : Nat} {z : Int32} (hz : z = nI j) (hj : j < 7) (hd : decode Y.2.1 pc = .ok (.iaload, 1)) (k : AW G x Y fr lo h0 P h (pc + 1) ls (.int (c.2.1 9 j) :: st)) : AW G x Y fr lo h0 P h pc ls (.int z :: .ref (o + 9) :: st) := by
  subst hz
  refine aw_iald hR.a9 (vp_in_nI hj (by decide)) hd ?_
  rw [nI_clamp (by omega)]
  exact k
theorem aC_s9 (hR : cR o c h) {j : Nat} {z : Int32} {v : Int32} (hz : z = nI j) (hj : j < 7) (hd : decode Y.2.1 pc = .ok (.iastore, 1)) (k : ∀ h1, cR o (c.1, va_up c.2.1 9 (va_up (c.2.1 9) j v), c.2.2) h1 → cFr o (c.2.2.2.2.2 5) h h1 → AW G x Y fr lo h0 P h1 (pc + 1) ls st) : AW G x Y fr lo h0 P h pc ls (.int v :: .int z :: .ref (o + 9) :: st) := by
  subst hz
  refine aw_iast hR.a9 (vp_in_nI hj (by decide)) hd ?_
  rw [nI_clamp (by omega)]
  exact k _ (hR.w9 _).1 (hR.w9 _).2
theorem aC_l10 (hR : cR o c h) {j : Nat} {z : Int32} (hz : z = nI j) (hj : j < 262144) (hd : decode Y.2.1 pc = .ok (.baload, 1)) (k : AW G x Y fr lo h0 P h (pc + 1) ls (.int (c.2.1 10 j) :: st)) : AW G x Y fr lo h0 P h pc ls (.int z :: .ref (o + 10) :: st) := by
  subst hz
  refine aw_bald hR.a10 (vp_in_nI hj (by decide)) hd ?_
  rw [nI_clamp (by omega)]
  exact k
theorem aC_s10 (hR : cR o c h) {j : Nat} {z : Int32} {v : Int32} (hz : z = nI j) (hj : j < 262144) (hd : decode Y.2.1 pc = .ok (.bastore, 1)) (k : ∀ h1, cR o (c.1, va_up c.2.1 10 (va_up (c.2.1 10) j v.toInt8.toInt32), c.2.2) h1 → cFr o (c.2.2.2.2.2 5) h h1 → AW G x Y fr lo h0 P h1 (pc + 1) ls st) : AW G x Y fr lo h0 P h pc ls (.int v :: .int z :: .ref (o + 10) :: st) := by
  subst hz
  refine aw_bast hR.a10 (vp_in_nI hj (by decide)) hd ?_
  rw [nI_clamp (by omega)]
  exact k _ (hR.w10 _).1 (hR.w10 _).2
theorem aC_l11 (hR : cR o c h) {j : Nat} {z : Int32} (hz : z = nI j) (hj : j < 2048) (hd : decode Y.2.1 pc = .ok (.laload, 1)) (k : AW G x Y fr lo h0 P h (pc + 1) ls (.long (c.2.2.1 11 j) :: st)) : AW G x Y fr lo h0 P h pc ls (.int z :: .ref (o + 11) :: st) := by
  subst hz
  refine aw_lald hR.a11 (vp_in_nI hj (by decide)) hd ?_
  rw [nI_clamp (by omega)]
  exact k
theorem aC_s11 (hR : cR o c h) {j : Nat} {z : Int32} {v : Int64} (hz : z = nI j) (hj : j < 2048) (hd : decode Y.2.1 pc = .ok (.lastore, 1)) (k : ∀ h1, cR o (c.1, c.2.1, va_up c.2.2.1 11 (va_up (c.2.2.1 11) j v), c.2.2.2) h1 → cFr o (c.2.2.2.2.2 5) h h1 → AW G x Y fr lo h0 P h1 (pc + 1) ls st) : AW G x Y fr lo h0 P h pc ls (.long v :: .int z :: .ref (o + 11) :: st) := by
  subst hz
  refine aw_last hR.a11 (vp_in_nI hj (by decide)) hd ?_
  rw [nI_clamp (by omega)]
  exact k _ (hR.w11 _).1 (hR.w11 _).2
theorem aC_l12 (hR : cR o c h) {j : Nat} {z : Int32} (hz : z = nI j) (hj : j < 2048) (hd : decode Y.2.1 pc = .ok (.iaload, 1)) (k : AW G x Y fr lo h0 P h (pc + 1) ls (.int (c.2.1 12 j) :: st)) : AW G x Y fr lo h0 P h pc ls (.int z :: .ref (o + 12) :: st) := by
  subst hz
  refine aw_iald hR.a12 (vp_in_nI hj (by decide)) hd ?_
  rw [nI_clamp (by omega)]
  exact k
theorem aC_s12 (hR : cR o c h) {j : Nat} {z : Int32} {v : Int32} (hz : z = nI j) (hj : j < 2048) (hd : decode Y.2.1 pc = .ok (.iastore, 1)) (k : ∀ h1, cR o (c.1, va_up c.2.1 12 (va_up (c.2.1 12) j v), c.2.2) h1 → cFr o (c.2.2.2.2.2 5) h h1 → AW G x Y fr lo h0 P h1 (pc + 1) ls st) : AW G x Y fr lo h0 P h pc ls (.int v :: .int z :: .ref (o + 12) :: st) := by
  subst hz
  refine aw_iast hR.a12 (vp_in_nI hj (by decide)) hd ?_
  rw [nI_clamp (by omega)]
  exact k _ (hR.w12 _).1 (hR.w12 _).2
theorem aC_l13 (hR : cR o c h) {j : Nat} {z : Int32} (hz : z = nI j) (hj : j < 2048) (hd : decode Y.2.1 pc = .ok (.iaload, 1)) (k : AW G x Y fr lo h0 P h (pc + 1) ls (.int (c.2.1 13 j) :: st)) : AW G x Y fr lo h0 P h pc ls (.int z :: .ref (o + 13) :: st) := by
  subst hz
  refine aw_iald hR.a13 (vp_in_nI hj (by decide)) hd ?_
  rw [nI_clamp (by omega)]
  exact k
theorem aC_s13 (hR : cR o c h) {j : Nat} {z : Int32} {v : Int32} (hz : z = nI j) (hj : j < 2048) (hd : decode Y.2.1 pc = .ok (.iastore, 1)) (k : ∀ h1, cR o (c.1, va_up c.2.1 13 (va_up (c.2.1 13) j v), c.2.2) h1 → cFr o (c.2.2.2.2.2 5) h h1 → AW G x Y fr lo h0 P h1 (pc + 1) ls st) : AW G x Y fr lo h0 P h pc ls (.int v :: .int z :: .ref (o + 13) :: st) := by
  subst hz
  refine aw_iast hR.a13 (vp_in_nI hj (by decide)) hd ?_
  rw [nI_clamp (by omega)]
  exact k _ (hR.w13 _).1 (hR.w13 _).2
theorem aC_l14 (hR : cR o c h) {j : Nat} {z : Int32} (hz : z = nI j) (hj : j < 8192) (hd : decode Y.2.1 pc = .ok (.iaload, 1)) (k : AW G x Y fr lo h0 P h (pc + 1) ls (.int (c.2.1 14 j) :: st)) : AW G x Y fr lo h0 P h pc ls (.int z :: .ref (o + 14) :: st) := by
  subst hz
  refine aw_iald hR.a14 (vp_in_nI hj (by decide)) hd ?_
  rw [nI_clamp (by omega)]
  exact k
theorem aC_s14 (hR : cR o c h) {j : Nat} {z : Int32} {v : Int32} (hz : z = nI j) (hj : j < 8192) (hd : decode Y.2.1 pc = .ok (.iastore, 1)) (k : ∀ h1, cR o (c.1, va_up c.2.1 14 (va_up (c.2.1 14) j v), c.2.2) h1 → cFr o (c.2.2.2.2.2 5) h h1 → AW G x Y fr lo h0 P h1 (pc + 1) ls st) : AW G x Y fr lo h0 P h pc ls (.int v :: .int z :: .ref (o + 14) :: st) := by
  subst hz
  refine aw_iast hR.a14 (vp_in_nI hj (by decide)) hd ?_
  rw [nI_clamp (by omega)]
  exact k _ (hR.w14 _).1 (hR.w14 _).2
theorem aC_l15 (hR : cR o c h) {j : Nat} {z : Int32} (hz : z = nI j) (hj : j < 8192) (hd : decode Y.2.1 pc = .ok (.iaload, 1)) (k : AW G x Y fr lo h0 P h (pc + 1) ls (.int (c.2.1 15 j) :: st)) : AW G x Y fr lo h0 P h pc ls (.int z :: .ref (o + 15) :: st) := by
  subst hz
  refine aw_iald hR.a15 (vp_in_nI hj (by decide)) hd ?_
  rw [nI_clamp (by omega)]
  exact k
theorem aC_s15 (hR : cR o c h) {j : Nat} {z : Int32} {v : Int32} (hz : z = nI j) (hj : j < 8192) (hd : decode Y.2.1 pc = .ok (.iastore, 1)) (k : ∀ h1, cR o (c.1, va_up c.2.1 15 (va_up (c.2.1 15) j v), c.2.2) h1 → cFr o (c.2.2.2.2.2 5) h h1 → AW G x Y fr lo h0 P h1 (pc + 1) ls st) : AW G x Y fr lo h0 P h pc ls (.int v :: .int z :: .ref (o + 15) :: st) := by
  subst hz
  refine aw_iast hR.a15 (vp_in_nI hj (by decide)) hd ?_
  rw [nI_clamp (by omega)]
  exact k _ (hR.w15 _).1 (hR.w15 _).2
theorem aC_l16 (hR : cR o c h) {j : Nat} {z : Int32} (hz : z = nI j) (hj : j < 7) (hd : decode Y.2.1 pc = .ok (.iaload, 1)) (k : AW G x Y fr lo h0 P h (pc + 1) ls (.int (c.2.1 16 j) :: st)) : AW G x Y fr lo h0 P h pc ls (.int z :: .ref (o + 16) :: st) := by
  subst hz
  refine aw_iald hR.a16 (vp_in_nI hj (by decide)) hd ?_
  rw [nI_clamp (by omega)]
  exact k
theorem aC_s16 (hR : cR o c h) {j : Nat} {z : Int32} {v : Int32} (hz : z = nI j) (hj : j < 7) (hd : decode Y.2.1 pc = .ok (.iastore, 1)) (k : ∀ h1, cR o (c.1, va_up c.2.1 16 (va_up (c.2.1 16) j v), c.2.2) h1 → cFr o (c.2.2.2.2.2 5) h h1 → AW G x Y fr lo h0 P h1 (pc + 1) ls st) : AW G x Y fr lo h0 P h pc ls (.int v :: .int z :: .ref (o + 16) :: st) := by
  subst hz
  refine aw_iast hR.a16 (vp_in_nI hj (by decide)) hd ?_
  rw [nI_clamp (by omega)]
  exact k _ (hR.w16 _).1 (hR.w16 _).2
theorem aw_getE {ci : Nat} {C : String} {T : u_T} {N : Nat} {tys : Nat → FieldType} (c : ax_cl ci C T N tys) {idx q a : Nat} {fs : List Value} {v v0 : Value} (f : ax_fl Y.1.cls idx T q) (hq : q < N) (ha : h.2.2 a = some (.inr (ci, fs))) (hv : fs[q]? = some v0) (e : v0 = v) (hd : decode Y.2.1 pc = .ok (.getfield idx, 3)) (k : AW G x Y fr lo h0 P h (pc + 3) ls (v :: st)) : AW G x Y fr lo h0 P h pc ls (.ref a :: st) := aw_get c f hq ha (e ▸ hv) hd k
theorem aC_secs (hR : cR o c h) {i j : Nat} {z : Int32} (hi : i < c.2.2.2.2.2 0) (hz : z = nI j) (hj : j < 4) (hd : decode Y.2.1 pc = .ok (.aaload, 1)) (k : AW G x Y fr lo h0 P h (pc + 1) ls (.ref (cQ c.2.2.2.2 (4 * i + j)) :: st)) : AW G x Y fr lo h0 P h pc ls (.int z :: .ref (c.2.2.2.2.1 0 i + 1) :: st) := by
  subst hz
  refine aw_aald (hR.secs hi) (vp_in_nI hj (by decide)) hd ?_
  rw [nI_clamp (by omega), if_pos hj]
  have e : cQ c.2.2.2.2 (4 * i + j) = c.2.2.2.2.1 0 i + 2 + j := by rw [cQ, show (4 * i + j) / 4 = i by omega, show (4 * i + j) % 4 = j by omega]
  rw [e] at k
  exact k
end CRW
