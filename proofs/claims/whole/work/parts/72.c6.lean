/-- an object under construction at a, with the cells that were made since at N0 and on -/
def cB (a ci : Nat) (fs : List Value) (N0 : Nat) (cs : List ax_E) (n : Nat) (h1 h : ax_H) : Prop := a < N0 ∧ h.1 = N0 + cs.length ∧ h.2.1 = n ∧ h.2.2 a = some (.inr (ci, fs)) ∧ (∀ i E, cs[i]? = some E → h.2.2 (N0 + i) = some E) ∧ ∀ b, b < N0 → b ≠ a → h.2.2 b = h1.2.2 b
theorem cB.new {a ci : Nat} {fs : List Value} {N0 : Nat} {cs : List ax_E} {n : Nat} {h1 h : ax_H} (hB : cB a ci fs N0 cs n h1 h) (E : ax_E) (k : Nat) : cB a ci fs N0 (cs ++ [E]) (n + k) h1 (ax_new h E k) := by
  obtain ⟨b1, b2, b3, b4, b5, b6⟩ := hB
  refine ⟨b1, ?_, ?_, (ax_new_ne _ _ (by omega)).trans b4, ?_, fun b q1 q2 => (ax_new_ne _ _ (by omega)).trans (b6 b q1 q2)⟩
  · show h.1 + 1 = _
    rw [b2, List.length_append]; rfl
  · show h.2.1 + k = _
    rw [b3]
  · intro i F hF
    by_cases hi : i < cs.length
    · rw [List.getElem?_append_left hi] at hF
      exact (ax_new_ne _ _ (by omega)).trans (b5 i F hF)
    · by_cases hi2 : i = cs.length
      · subst hi2
        rw [List.getElem?_append_right (Nat.le_refl _), Nat.sub_self] at hF
        cases hF
        rw [← b2]
        exact ax_new_self _ _
      · rw [List.getElem?_eq_none (by rw [List.length_append]; show cs.length + 1 ≤ i; omega)] at hF
        cases hF
theorem cB.put {a ci : Nat} {fs : List Value} {N0 : Nat} {cs : List ax_E} {n : Nat} {h1 h : ax_H} (hB : cB a ci fs N0 cs n h1 h) (fs2 : List Value) : cB a ci fs2 N0 cs n h1 (ax_set h a (.inr (ci, fs2))) := by
  obtain ⟨b1, b2, b3, b4, b5, b6⟩ := hB
  exact ⟨b1, b2, b3, ax_get_self _ _, fun i F hF => (ax_get_ne _ (by omega)).trans (b5 i F hF), fun b q1 q2 => (ax_get_ne _ q2).trans (b6 b q1 q2)⟩
theorem cB.cell {a ci : Nat} {fs : List Value} {N0 : Nat} {cs : List ax_E} {n : Nat} {h1 h : ax_H} (hB : cB a ci fs N0 cs n h1 h) {i : Nat} (E : ax_E) (hi : i < cs.length) : cB a ci fs N0 (cs.set i E) n h1 (ax_set h (N0 + i) E) := by
  obtain ⟨b1, b2, b3, b4, b5, b6⟩ := hB
  refine ⟨b1, by rw [List.length_set]; exact b2, b3, (ax_get_ne _ (by omega)).trans b4, ?_, fun b q1 q2 => (ax_get_ne _ (by omega)).trans (b6 b q1 q2)⟩
  intro j F hF
  by_cases hj : j = i
  · subst hj
    rw [List.getElem?_set_self hi] at hF
    cases hF
    exact ax_get_self _ _
  · rw [List.getElem?_set_ne (Ne.symm hj)] at hF
    exact (ax_get_ne _ (by omega)).trans (b5 j F hF)
/-- the last cell of a construction, itself an object that was constructed, with the cells that it made -/
theorem cB.sub {a ci : Nat} {fs : List Value} {N0 : Nat} {cs : List ax_E} {n : Nat} {h1 h h2 : ax_H} {E : ax_E} {ci2 : Nat} {fs2 : List Value} {cs2 : List ax_E} {n2 : Nat} (hB : cB a ci fs N0 (cs ++ [E]) n h1 h) (hC : cB (N0 + cs.length) ci2 fs2 h.1 cs2 n2 h h2) : cB a ci fs N0 ((cs ++ [.inr (ci2, fs2)]) ++ cs2) n2 h1 h2 := by
  obtain ⟨b1, b2, b3, b4, b5, b6⟩ := hB
  obtain ⟨d1, d2, d3, d4, d5, d6⟩ := hC
  have l1 : (cs ++ [E]).length = cs.length + 1 := List.length_append
  refine ⟨b1, ?_, d3, (d6 a (by omega) (by omega)).trans b4, ?_, fun b q1 q2 => (d6 b (by omega) (by omega)).trans (b6 b q1 q2)⟩
  · simp only [d2, b2, List.length_append, List.length_cons, List.length_nil]
    omega
  · intro i F hF
    by_cases h3 : i < cs.length
    · rw [List.append_assoc, List.getElem?_append_left h3] at hF
      refine (d6 (N0 + i) (by omega) (by omega)).trans (b5 i F ?_)
      rw [List.getElem?_append_left h3]
      exact hF
    · by_cases h4 : i = cs.length
      · subst h4
        rw [List.append_assoc, List.getElem?_append_right (Nat.le_refl _), Nat.sub_self] at hF
        cases hF
        exact d4
      · rw [List.append_assoc, List.getElem?_append_right (by omega)] at hF
        obtain ⟨j, rfl⟩ : ∃ j, i = cs.length + 1 + j := ⟨i - cs.length - 1, by omega⟩
        rw [show cs.length + 1 + j - cs.length = j + 1 by omega] at hF
        have := d5 j F hF
        rw [show N0 + (cs.length + 1 + j) = h.1 + j by omega]
        exact this
section CBW
variable {G : ax_G} {x : ax_X} {Y : ax_Y} {fr lo : Nat} {h0 h : ax_H} {P : Option Value → ax_H → Prop} {pc : Nat} {ls : List (Option Value)} {st : List Value} {a ci : Nat} {fs : List Value} {N0 : Nat} {cs : List ax_E} {n : Nat} {h1 : ax_H}
theorem aB_put {C : String} {T : u_T} {N : Nat} {tys : Nat → FieldType} (hB : cB a ci fs N0 cs n h1 h) (c : ax_cl ci C T N tys) {idx q : Nat} {v : Value} (f : ax_fl Y.1.cls idx T q) (hq : q < N) (hfin : (T q).2.2.2 = false) (hlen : q < fs.length) (hn : narrow (tys q) v = v) (hfit : fits (tys q) v = true) (hd : decode Y.2.1 pc = .ok (.putfield idx, 3)) (k : ∀ g, cB a ci (fs.set q v) N0 cs n h1 g → AW G x Y fr lo h0 P g (pc + 3) ls st) : AW G x Y fr lo h0 P h pc ls (v :: .ref a :: st) :=
  aw_put c f hq hfin hB.2.2.2.1 hlen hn hfit hd (k _ (hB.put _))
theorem aB_putF {C : String} {T : u_T} {N : Nat} {tys : Nat → FieldType} (hB : cB a ci fs N0 cs n h1 h) (c : ax_cl ci C T N tys) {idx q : Nat} {v : Value} (f : Cond.fieldLink Y.1.cls idx (T q).1 (T q).2.1 (T q).2.2.1 ∈ lw_tbl) (hq : q < N) (hfin : (T q).2.2.2 = true) (hnm : Y.1.name = "<init>") (hdecl : (T q).1 = Y.1.cls) (hlen : q < fs.length) (hn : narrow (tys q) v = v) (hfit : fits (tys q) v = true) (hd : decode Y.2.1 pc = .ok (.putfield idx, 3)) (k : ∀ g, cB a ci (fs.set q v) N0 cs n h1 g → AW G x Y fr lo h0 P g (pc + 3) ls st) : AW G x Y fr lo h0 P h pc ls (v :: .ref a :: st) :=
  aw_putF c f hq hfin hnm hdecl hB.2.2.2.1 hlen hn hfit hd (k _ (hB.put _))
theorem aB_newa {atype : ArrayType} {ty : FieldType} {z : Int32} {N : Nat} {f : ax_A} (hB : cB a ci fs N0 cs n h1 h) (w1 : Cond.arrayClass (newarray.typeOf atype) ∈ lw_tbl) (hty : newarray.typeOf atype = ty) (hf : ∀ j, ax_v f j = defaultValue ty) (hn : ¬ z < 0) (hN : z.toNatClampNeg = N) (hbytes : N * componentBytes ty ≤ 536870912) (hc : N0 + cs.length + 1 ≤ G.1 + room_1.cells) (hs : n + N ≤ room_1.slots) (hd : decode Y.2.1 pc = .ok (.newarray atype, 2)) (hno : ∀ C, ty ≠ .object C) (k : ∀ g, cB a ci fs N0 (cs ++ [.inl (ty, N, f)]) (n + N) h1 g → AW G x Y fr lo h0 P g (pc + 2) ls (.ref (N0 + cs.length) :: st)) : AW G x Y fr lo h0 P h pc ls (.int z :: st) := by
  refine aw_newa (f := f) w1 hty hf hn hN hbytes (by rw [hB.2.1]; exact hc) (by rw [hB.2.2.1]; exact hs) hd hno ?_
  have := k _ (hB.new (.inl (ty, N, f)) N)
  rw [← hB.2.1] at this
  exact this
theorem aB_anew {C : String} {idx : Nat} {z : Int32} {N : Nat} (hB : cB a ci fs N0 cs n h1 h) (w1 : Cond.classLink Y.1.cls idx C ∈ lw_tbl) (w2 : Cond.arrayOver (.object C) ∈ lw_tbl) (hn : ¬ z < 0) (hN : z.toNatClampNeg = N) (hbytes : N * 4 ≤ 536870912) (hc : N0 + cs.length + 1 ≤ G.1 + room_1.cells) (hs : n + N ≤ room_1.slots) (hd : decode Y.2.1 pc = .ok (.anewarray idx, 3)) (k : ∀ g, cB a ci fs N0 (cs ++ [.inl (.object C, N, .inr (.inr (.inr (.inr (fun _ => none)))))]) (n + N) h1 g → AW G x Y fr lo h0 P g (pc + 3) ls (.ref (N0 + cs.length) :: st)) : AW G x Y fr lo h0 P h pc ls (.int z :: st) := by
  refine aw_anew w1 w2 hn hN hbytes (by rw [hB.2.1]; exact hc) (by rw [hB.2.2.1]; exact hs) hd ?_
  have := k _ (hB.new _ N)
  rw [← hB.2.1] at this
  exact this
end CBW
theorem ax_new_set (h : ax_H) (E F : ax_E) (n : Nat) : ax_set (ax_new h E n) h.1 F = ax_new h F n := by
  show (h.1 + 1, h.2.1 + n, va_up (va_up h.2.2 h.1 (some E)) h.1 (some F)) = _
  rw [bx_uu]
  rfl
def f0_Section : List Value := [.null, .int 0, .int 0, .int 0, .int 0, .int 0]
theorem f0_Section_d : ∀ j, j < 6 → defaultValue (ty_Section j) = vp_V f0_Section j := by
  intro j hj
  match j, hj with
  | 0, _ => rfl
  | 1, _ => rfl
  | 2, _ => rfl
  | 3, _ => rfl
  | 4, _ => rfl
  | 5, _ => rfl
  | k + 6, hk => exact absurd hk (by omega)
def f0_Name : List Value := [.long 0, .int 0, .int 0, .int 0, .null, .null]
theorem f0_Name_d : ∀ j, j < 6 → defaultValue (ty_Name j) = vp_V f0_Name j := by
  intro j hj
  match j, hj with
  | 0, _ => rfl
  | 1, _ => rfl
  | 2, _ => rfl
  | 3, _ => rfl
  | 4, _ => rfl
  | 5, _ => rfl
  | k + 6, hk => exact absurd hk (by omega)
def f0_Symbol : List Value := [.null, .int 0, .int 0, .null, .int 0, .int 0]
theorem f0_Symbol_d : ∀ j, j < 6 → defaultValue (ty_Symbol j) = vp_V f0_Symbol j := by
  intro j hj
  match j, hj with
  | 0, _ => rfl
  | 1, _ => rfl
  | 2, _ => rfl
  | 3, _ => rfl
  | 4, _ => rfl
  | 5, _ => rfl
  | k + 6, hk => exact absurd hk (by omega)
def f0_Wait : List Value := [.null, .int 0, .int 0, .long 0, .int 0, .int 0, .null, .null]
theorem f0_Wait_d : ∀ j, j < 8 → defaultValue (ty_Wait j) = vp_V f0_Wait j := by
  intro j hj
  match j, hj with
  | 0, _ => rfl
  | 1, _ => rfl
  | 2, _ => rfl
  | 3, _ => rfl
  | 4, _ => rfl
  | 5, _ => rfl
  | 6, _ => rfl
  | 7, _ => rfl
  | k + 8, hk => exact absurd hk (by omega)
def f0_Start : List Value := [.null, .int 0, .int 0]
theorem f0_Start_d : ∀ j, j < 3 → defaultValue (ty_Start j) = vp_V f0_Start j := by
  intro j hj
  match j, hj with
  | 0, _ => rfl
  | 1, _ => rfl
  | 2, _ => rfl
  | k + 3, hk => exact absurd hk (by omega)
def f0_Fault : List Value := [.int 0, .int 0, .int 0]
theorem f0_Fault_d : ∀ j, j < 3 → defaultValue (ty_Fault j) = vp_V f0_Fault j := by
  intro j hj
  match j, hj with
  | 0, _ => rfl
  | 1, _ => rfl
  | 2, _ => rfl
  | k + 3, hk => exact absurd hk (by omega)
def f0_Unit : List Value := [.int 0, .int 0, .null, .null, .int 0, .int 0, .int 0]
theorem f0_Unit_d : ∀ j, j < 7 → defaultValue (ty_Unit j) = vp_V f0_Unit j := by
  intro j hj
  match j, hj with
  | 0, _ => rfl
  | 1, _ => rfl
  | 2, _ => rfl
  | 3, _ => rfl
  | 4, _ => rfl
  | 5, _ => rfl
  | 6, _ => rfl
  | k + 7, hk => exact absurd hk (by omega)
def f0_Image : List Value := [.null, .null, .null, .null, .null, .null, .null, .int 0, .int 0]
theorem f0_Image_d : ∀ j, j < 9 → defaultValue (ty_Image j) = vp_V f0_Image j := by
  intro j hj
  match j, hj with
  | 0, _ => rfl
  | 1, _ => rfl
  | 2, _ => rfl
  | 3, _ => rfl
  | 4, _ => rfl
  | 5, _ => rfl
  | 6, _ => rfl
  | 7, _ => rfl
  | 8, _ => rfl
  | k + 9, hk => exact absurd hk (by omega)
def f0_L : List Value := [.null, .null, .null, .null, .null, .null, .null, .null, .null, .int 0, .int 0, .int 0, .int 0, .int 0, .int 0, .int 0]
theorem f0_L_d : ∀ j, j < 16 → defaultValue (ty_L j) = vp_V f0_L j := by
  intro j hj
  match j, hj with
  | 0, _ => rfl
  | 1, _ => rfl
  | 2, _ => rfl
  | 3, _ => rfl
  | 4, _ => rfl
  | 5, _ => rfl
  | 6, _ => rfl
  | 7, _ => rfl
  | 8, _ => rfl
  | 9, _ => rfl
  | 10, _ => rfl
  | 11, _ => rfl
  | 12, _ => rfl
  | 13, _ => rfl
  | 14, _ => rfl
  | 15, _ => rfl
  | k + 16, hk => exact absurd hk (by omega)
set_option maxRecDepth 20000 in
theorem c_Section_init (G : ax_G) (h : ax_H) (a : Nat) (ha : h.2.2 a = some (.inr (4, f0_Section))) (u : Nat) (z b : Int32) : AM G Y_Section_init 1 20 [.ref a, .ref u, .int z, .int b] h (fun v h2 => v = none ∧ h2 = ax_set h a (.inr (4, [.ref u, .int z, .int b, .int 0, .int 0, .int 0]))) := by
  refine aw_enter (by decide) (Nat.le_of_ble_eq_true rfl) (n := 0) (ls := [some (.ref a), some (.ref u), some (.int z), some (.int b)]) rfl (fun x => ?_)
  refine aw_aloadV_n d_Section_init_0 rfl rfl (by first | exact Or.inl ⟨_, rfl⟩ | exact Or.inr rfl | exact rv_Q _) ?_
  refine aw_objInit ml_Section_1 oi_2 oi_3 (by decide) (Nat.le_of_ble_eq_true rfl) d_Section_init_1 ?_
  refine aw_aloadV_n d_Section_init_4 rfl rfl (by first | exact Or.inl ⟨_, rfl⟩ | exact Or.inr rfl | exact rv_Q _) ?_
  refine aw_aloadV_n d_Section_init_5 rfl rfl (by first | exact Or.inl ⟨_, rfl⟩ | exact Or.inr rfl | exact rv_Q _) ?_
  refine aw_putF cl_Section fl_Section_7_f (by decide) rfl rfl rfl ha (Nat.le_of_ble_eq_true rfl) rfl rfl d_Section_init_6 ?_
  refine aw_aloadV_n d_Section_init_9 rfl rfl (by first | exact Or.inl ⟨_, rfl⟩ | exact Or.inr rfl | exact rv_Q _) ?_
  refine aw_iload_n d_Section_init_10 rfl rfl ?_
  refine aw_putF cl_Section fl_Section_13_f (by decide) rfl rfl rfl (ax_get_self a _) (Nat.le_of_ble_eq_true rfl) rfl rfl d_Section_init_11 ?_
  refine aw_aloadV_n d_Section_init_14 rfl rfl (by first | exact Or.inl ⟨_, rfl⟩ | exact Or.inr rfl | exact rv_Q _) ?_
  refine aw_iload_n d_Section_init_15 rfl rfl ?_
  refine aw_putF cl_Section fl_Section_17_f (by decide) rfl rfl rfl (ax_get_self a _) (Nat.le_of_ble_eq_true rfl) rfl rfl d_Section_init_16 ?_
  refine aw_aloadV_n d_Section_init_19 rfl rfl (by first | exact Or.inl ⟨_, rfl⟩ | exact Or.inr rfl | exact rv_Q _) ?_
  refine aw_iconst (v := 0) d_Section_init_20 (by decide) ?_
  refine aw_put cl_Section fl_Section_20 (by decide) rfl (ax_get_self a _) (Nat.le_of_ble_eq_true rfl) rfl rfl d_Section_init_21 ?_
  refine aw_aloadV_n d_Section_init_24 rfl rfl (by first | exact Or.inl ⟨_, rfl⟩ | exact Or.inr rfl | exact rv_Q _) ?_
  refine aw_iconst (v := 0) d_Section_init_25 (by decide) ?_
  refine aw_put cl_Section fl_Section_24 (by decide) rfl (ax_get_self a _) (Nat.le_of_ble_eq_true rfl) rfl rfl d_Section_init_26 ?_
  refine aw_aloadV_n d_Section_init_29 rfl rfl (by first | exact Or.inl ⟨_, rfl⟩ | exact Or.inr rfl | exact rv_Q _) ?_
  refine aw_iconst (v := 0) d_Section_init_30 (by decide) ?_
  refine aw_put cl_Section fl_Section_27 (by decide) rfl (ax_get_self a _) (Nat.le_of_ble_eq_true rfl) rfl rfl d_Section_init_31 ?_
  refine aw_vret ?_ rfl d_Section_init_34
  refine ⟨rfl, ?_⟩
  rw [ax_set_set, ax_set_set, ax_set_set, ax_set_set, ax_set_set]
  rfl
set_option maxRecDepth 20000 in
theorem c_Name_init (G : ax_G) (h : ax_H) (a : Nat) (ha : h.2.2 a = some (.inr (5, f0_Name))) (w : Int64) (z : Int32) : AM G Y_Name_init 1 20 [.ref a, .long w, .int z] h (fun v h2 => v = none ∧ h2 = ax_set h a (.inr (5, [.long w, .int z, .int 0, .int 0, .null, .null]))) := by
  refine aw_enter (by decide) (Nat.le_of_ble_eq_true rfl) (n := 0) (ls := [some (.ref a), some (.long w), none, some (.int z)]) rfl (fun x => ?_)
  refine aw_aloadV_n d_Name_init_0 rfl rfl (by first | exact Or.inl ⟨_, rfl⟩ | exact Or.inr rfl | exact rv_Q _) ?_
  refine aw_objInit ml_Name_1 oi_2 oi_3 (by decide) (Nat.le_of_ble_eq_true rfl) d_Name_init_1 ?_
  refine aw_aloadV_n d_Name_init_4 rfl rfl (by first | exact Or.inl ⟨_, rfl⟩ | exact Or.inr rfl | exact rv_Q _) ?_
  refine aw_lload_n d_Name_init_5 rfl rfl ?_
  refine aw_putF cl_Name fl_Name_7_f (by decide) rfl rfl rfl ha (Nat.le_of_ble_eq_true rfl) rfl rfl d_Name_init_6 ?_
  refine aw_aloadV_n d_Name_init_9 rfl rfl (by first | exact Or.inl ⟨_, rfl⟩ | exact Or.inr rfl | exact rv_Q _) ?_
  refine aw_iload_n d_Name_init_10 rfl rfl ?_
  refine aw_putF cl_Name fl_Name_13_f (by decide) rfl rfl rfl (ax_get_self a _) (Nat.le_of_ble_eq_true rfl) rfl rfl d_Name_init_11 ?_
  refine aw_aloadV_n d_Name_init_14 rfl rfl (by first | exact Or.inl ⟨_, rfl⟩ | exact Or.inr rfl | exact rv_Q _) ?_
  refine aw_iconst (v := 0) d_Name_init_15 (by decide) ?_
  refine aw_put cl_Name fl_Name_17 (by decide) rfl (ax_get_self a _) (Nat.le_of_ble_eq_true rfl) rfl rfl d_Name_init_16 ?_
  refine aw_aloadV_n d_Name_init_19 rfl rfl (by first | exact Or.inl ⟨_, rfl⟩ | exact Or.inr rfl | exact rv_Q _) ?_
  refine aw_iconst (v := 0) d_Name_init_20 (by decide) ?_
  refine aw_put cl_Name fl_Name_21 (by decide) rfl (ax_get_self a _) (Nat.le_of_ble_eq_true rfl) rfl rfl d_Name_init_21 ?_
  refine aw_aloadV_n d_Name_init_24 rfl rfl (by first | exact Or.inl ⟨_, rfl⟩ | exact Or.inr rfl | exact rv_Q _) ?_
  refine aw_null d_Name_init_25 ?_
  refine aw_put cl_Name fl_Name_24 (by decide) rfl (ax_get_self a _) (Nat.le_of_ble_eq_true rfl) rfl rfl d_Name_init_26 ?_
  refine aw_aloadV_n d_Name_init_29 rfl rfl (by first | exact Or.inl ⟨_, rfl⟩ | exact Or.inr rfl | exact rv_Q _) ?_
  refine aw_null d_Name_init_30 ?_
  refine aw_put cl_Name fl_Name_28 (by decide) rfl (ax_get_self a _) (Nat.le_of_ble_eq_true rfl) rfl rfl d_Name_init_31 ?_
  refine aw_vret ?_ rfl d_Name_init_34
  refine ⟨rfl, ?_⟩
  rw [ax_set_set, ax_set_set, ax_set_set, ax_set_set, ax_set_set]
  rfl
set_option maxRecDepth 20000 in
theorem c_Wait_init (G : ax_G) (h : ax_H) (a : Nat) (ha : h.2.2 a = some (.inr (7, f0_Wait))) (q : Nat) (p z : Int32) (w : Int64) (l : Int32) : AM G Y_Wait_init 1 20 [.ref a, .ref q, .int p, .int z, .long w, .int l] h (fun v h2 => v = none ∧ h2 = ax_set h a (.inr (7, [.ref q, .int p, .int z, .long w, .int l, .int (-1), .null, .null]))) := by
  refine aw_enter (by decide) (Nat.le_of_ble_eq_true rfl) (n := 0) (ls := [some (.ref a), some (.ref q), some (.int p), some (.int z), some (.long w), none, some (.int l)]) rfl (fun x => ?_)
  refine aw_aloadV_n d_Wait_init_0 rfl rfl (by first | exact Or.inl ⟨_, rfl⟩ | exact Or.inr rfl | exact rv_Q _) ?_
  refine aw_objInit ml_Wait_3 oi_2 oi_3 (by decide) (Nat.le_of_ble_eq_true rfl) d_Wait_init_1 ?_
  refine aw_aloadV_n d_Wait_init_4 rfl rfl (by first | exact Or.inl ⟨_, rfl⟩ | exact Or.inr rfl | exact rv_Q _) ?_
  refine aw_aloadV_n d_Wait_init_5 rfl rfl (by first | exact Or.inl ⟨_, rfl⟩ | exact Or.inr rfl | exact rv_Q _) ?_
  refine aw_putF cl_Wait fl_Wait_9_f (by decide) rfl rfl rfl ha (Nat.le_of_ble_eq_true rfl) rfl rfl d_Wait_init_6 ?_
  refine aw_aloadV_n d_Wait_init_9 rfl rfl (by first | exact Or.inl ⟨_, rfl⟩ | exact Or.inr rfl | exact rv_Q _) ?_
  refine aw_iload_n d_Wait_init_10 rfl rfl ?_
  refine aw_putF cl_Wait fl_Wait_15_f (by decide) rfl rfl rfl (ax_get_self a _) (Nat.le_of_ble_eq_true rfl) rfl rfl d_Wait_init_11 ?_
  refine aw_aloadV_n d_Wait_init_14 rfl rfl (by first | exact Or.inl ⟨_, rfl⟩ | exact Or.inr rfl | exact rv_Q _) ?_
  refine aw_iload_n d_Wait_init_15 rfl rfl ?_
  refine aw_putF cl_Wait fl_Wait_19_f (by decide) rfl rfl rfl (ax_get_self a _) (Nat.le_of_ble_eq_true rfl) rfl rfl d_Wait_init_16 ?_
  refine aw_aloadV_n d_Wait_init_19 rfl rfl (by first | exact Or.inl ⟨_, rfl⟩ | exact Or.inr rfl | exact rv_Q _) ?_
  refine aw_lload d_Wait_init_20 rfl ?_
  refine aw_putF cl_Wait fl_Wait_22_f (by decide) rfl rfl rfl (ax_get_self a _) (Nat.le_of_ble_eq_true rfl) rfl rfl d_Wait_init_22 ?_
  refine aw_aloadV_n d_Wait_init_25 rfl rfl (by first | exact Or.inl ⟨_, rfl⟩ | exact Or.inr rfl | exact rv_Q _) ?_
  refine aw_iload d_Wait_init_26 rfl ?_
  refine aw_putF cl_Wait fl_Wait_26_f (by decide) rfl rfl rfl (ax_get_self a _) (Nat.le_of_ble_eq_true rfl) rfl rfl d_Wait_init_28 ?_
  refine aw_aloadV_n d_Wait_init_31 rfl rfl (by first | exact Or.inl ⟨_, rfl⟩ | exact Or.inr rfl | exact rv_Q _) ?_
  refine aw_iconst (v := (-1)) d_Wait_init_32 (by decide) ?_
  refine aw_put cl_Wait fl_Wait_29 (by decide) rfl (ax_get_self a _) (Nat.le_of_ble_eq_true rfl) rfl rfl d_Wait_init_33 ?_
  refine aw_aloadV_n d_Wait_init_36 rfl rfl (by first | exact Or.inl ⟨_, rfl⟩ | exact Or.inr rfl | exact rv_Q _) ?_
  refine aw_null d_Wait_init_37 ?_
  refine aw_put cl_Wait fl_Wait_32 (by decide) rfl (ax_get_self a _) (Nat.le_of_ble_eq_true rfl) rfl rfl d_Wait_init_38 ?_
  refine aw_aloadV_n d_Wait_init_41 rfl rfl (by first | exact Or.inl ⟨_, rfl⟩ | exact Or.inr rfl | exact rv_Q _) ?_
  refine aw_null d_Wait_init_42 ?_
  refine aw_put cl_Wait fl_Wait_36 (by decide) rfl (ax_get_self a _) (Nat.le_of_ble_eq_true rfl) rfl rfl d_Wait_init_43 ?_
  refine aw_vret ?_ rfl d_Wait_init_46
  refine ⟨rfl, ?_⟩
  rw [ax_set_set, ax_set_set, ax_set_set, ax_set_set, ax_set_set, ax_set_set, ax_set_set]
  rfl
set_option maxRecDepth 20000 in
theorem c_Start_init (G : ax_G) (h : ax_H) (a : Nat) (ha : h.2.2 a = some (.inr (8, f0_Start))) (q : Nat) (p l : Int32) : AM G Y_Start_init 1 20 [.ref a, .ref q, .int p, .int l] h (fun v h2 => v = none ∧ h2 = ax_set h a (.inr (8, [.ref q, .int p, .int l]))) := by
  refine aw_enter (by decide) (Nat.le_of_ble_eq_true rfl) (n := 0) (ls := [some (.ref a), some (.ref q), some (.int p), some (.int l)]) rfl (fun x => ?_)
  refine aw_aloadV_n d_Start_init_0 rfl rfl (by first | exact Or.inl ⟨_, rfl⟩ | exact Or.inr rfl | exact rv_Q _) ?_
  refine aw_objInit ml_Start_1 oi_2 oi_3 (by decide) (Nat.le_of_ble_eq_true rfl) d_Start_init_1 ?_
  refine aw_aloadV_n d_Start_init_4 rfl rfl (by first | exact Or.inl ⟨_, rfl⟩ | exact Or.inr rfl | exact rv_Q _) ?_
  refine aw_aloadV_n d_Start_init_5 rfl rfl (by first | exact Or.inl ⟨_, rfl⟩ | exact Or.inr rfl | exact rv_Q _) ?_
  refine aw_putF cl_Start fl_Start_7_f (by decide) rfl rfl rfl ha (Nat.le_of_ble_eq_true rfl) rfl rfl d_Start_init_6 ?_
  refine aw_aloadV_n d_Start_init_9 rfl rfl (by first | exact Or.inl ⟨_, rfl⟩ | exact Or.inr rfl | exact rv_Q _) ?_
  refine aw_iload_n d_Start_init_10 rfl rfl ?_
  refine aw_putF cl_Start fl_Start_13_f (by decide) rfl rfl rfl (ax_get_self a _) (Nat.le_of_ble_eq_true rfl) rfl rfl d_Start_init_11 ?_
  refine aw_aloadV_n d_Start_init_14 rfl rfl (by first | exact Or.inl ⟨_, rfl⟩ | exact Or.inr rfl | exact rv_Q _) ?_
  refine aw_iload_n d_Start_init_15 rfl rfl ?_
  refine aw_putF cl_Start fl_Start_17_f (by decide) rfl rfl rfl (ax_get_self a _) (Nat.le_of_ble_eq_true rfl) rfl rfl d_Start_init_16 ?_
  refine aw_vret ?_ rfl d_Start_init_19
  refine ⟨rfl, ?_⟩
  rw [ax_set_set, ax_set_set]
  rfl
set_option maxRecDepth 20000 in
theorem c_Fault_init (G : ax_G) (h : ax_H) (a : Nat) (ha : h.2.2 a = some (.inr (1, f0_Fault)))  : AM G Y_Fault_init 1 20 [.ref a] h (fun v h2 => v = none ∧ h2 = ax_set h a (.inr (1, [.int 0, .int 0, .int (-1)]))) := by
  refine aw_enter (by decide) (Nat.le_of_ble_eq_true rfl) (n := 0) (ls := [some (.ref a)]) rfl (fun x => ?_)
  refine aw_aloadV_n d_Fault_init_0 rfl rfl (by first | exact Or.inl ⟨_, rfl⟩ | exact Or.inr rfl | exact rv_Q _) ?_
  refine aw_objInit ml_Fault_3 oi_2 oi_3 (by decide) (Nat.le_of_ble_eq_true rfl) d_Fault_init_1 ?_
  refine aw_aloadV_n d_Fault_init_4 rfl rfl (by first | exact Or.inl ⟨_, rfl⟩ | exact Or.inr rfl | exact rv_Q _) ?_
  refine aw_iconst (v := 0) d_Fault_init_5 (by decide) ?_
  refine aw_put cl_Fault fl_Fault_9 (by decide) rfl ha (Nat.le_of_ble_eq_true rfl) rfl rfl d_Fault_init_6 ?_
  refine aw_aloadV_n d_Fault_init_9 rfl rfl (by first | exact Or.inl ⟨_, rfl⟩ | exact Or.inr rfl | exact rv_Q _) ?_
  refine aw_iconst (v := 0) d_Fault_init_10 (by decide) ?_
  refine aw_put cl_Fault fl_Fault_15 (by decide) rfl (ax_get_self a _) (Nat.le_of_ble_eq_true rfl) rfl rfl d_Fault_init_11 ?_
  refine aw_aloadV_n d_Fault_init_14 rfl rfl (by first | exact Or.inl ⟨_, rfl⟩ | exact Or.inr rfl | exact rv_Q _) ?_
  refine aw_iconst (v := (-1)) d_Fault_init_15 (by decide) ?_
  refine aw_put cl_Fault fl_Fault_18 (by decide) rfl (ax_get_self a _) (Nat.le_of_ble_eq_true rfl) rfl rfl d_Fault_init_16 ?_
  refine aw_vret ?_ rfl d_Fault_init_19
  refine ⟨rfl, ?_⟩
  rw [ax_set_set, ax_set_set]
  rfl
set_option maxRecDepth 20000 in
theorem c_Symbol_init (G : ax_G) (h : ax_H) (a : Nat) (ha : h.2.2 a = some (.inr (6, f0_Symbol))) (q : Nat) (mk : Int32) (hm : mk = 0 ∨ mk = 1 ∨ mk = 2 ∨ mk = 3) (r : Option Nat) (p l : Int32) : AM G Y_Symbol_init 1 20 [.ref a, .ref q, .int mk, va_rf r, .int p, .int l] h (fun v h2 => v = none ∧ h2 = ax_set h a (.inr (6, [.ref q, .int (zI (mk = 1)), .int (zI (1 < mk)), va_rf r, .int p, .int l]))) := by
  refine aw_enter (by decide) (by cases r <;> exact Nat.le_of_ble_eq_true rfl) (n := 0) (ls := [some (.ref a), some (.ref q), some (.int mk), some (va_rf r), some (.int p), some (.int l)]) (by cases r <;> rfl) (fun x => ?_)
  refine aw_aloadV_n d_Symbol_init_0 rfl rfl (by first | exact Or.inl ⟨_, rfl⟩ | exact Or.inr rfl | exact rv_Q _) ?_
  refine aw_objInit ml_Symbol_3 oi_2 oi_3 (by decide) (Nat.le_of_ble_eq_true rfl) d_Symbol_init_1 ?_
  refine aw_aloadV_n d_Symbol_init_4 rfl rfl (by first | exact Or.inl ⟨_, rfl⟩ | exact Or.inr rfl | exact rv_Q _) ?_
  refine aw_aloadV_n d_Symbol_init_5 rfl rfl (by first | exact Or.inl ⟨_, rfl⟩ | exact Or.inr rfl | exact rv_Q _) ?_
  refine aw_putF cl_Symbol fl_Symbol_9_f (by decide) rfl rfl rfl ha (Nat.le_of_ble_eq_true rfl) rfl rfl d_Symbol_init_6 ?_
  refine aw_aloadV_n d_Symbol_init_9 rfl rfl (by first | exact Or.inl ⟨_, rfl⟩ | exact Or.inr rfl | exact rv_Q _) ?_
  refine aw_iload_n d_Symbol_init_10 rfl rfl ?_
  refine aw_iconst (v := 2) d_Symbol_init_11 (by decide) ?_
  refine aw_iand d_Symbol_init_12 ?_
  refine aw_if_eq (tgt := 20) d_Symbol_init_13 (by decide) (fun c13 => ?_) (fun c13 => ?_)
  · refine aw_iconst (v := 0) d_Symbol_init_20 (by decide) ?_
    refine aw_putF cl_Symbol fl_Symbol_15_f (by decide) rfl rfl rfl (ax_get_self a _) (Nat.le_of_ble_eq_true rfl) rfl rfl d_Symbol_init_21 ?_
    refine aw_aloadV_n d_Symbol_init_24 rfl rfl (by first | exact Or.inl ⟨_, rfl⟩ | exact Or.inr rfl | exact rv_Q _) ?_
    refine aw_iload_n d_Symbol_init_25 rfl rfl ?_
    refine aw_iconst (v := 1) d_Symbol_init_26 (by decide) ?_
    refine aw_iand d_Symbol_init_27 ?_
    refine aw_if_eq (tgt := 42) d_Symbol_init_28 (by decide) (fun c28 => ?_) (fun c28 => ?_)
    · refine aw_iconst (v := 0) d_Symbol_init_42 (by decide) ?_
      refine aw_putF cl_Symbol fl_Symbol_19_f (by decide) rfl rfl rfl (ax_get_self a _) (Nat.le_of_ble_eq_true rfl) rfl rfl d_Symbol_init_43 ?_
      refine aw_aloadV_n d_Symbol_init_46 rfl rfl (by first | exact Or.inl ⟨_, rfl⟩ | exact Or.inr rfl | exact rv_Q _) ?_
      refine aw_aloadV_n d_Symbol_init_47 rfl rfl (by first | exact Or.inl ⟨_, rfl⟩ | exact Or.inr rfl | exact rv_Q _) ?_
      refine aw_putF cl_Symbol fl_Symbol_22_f (by decide) rfl rfl rfl (ax_get_self a _) (Nat.le_of_ble_eq_true rfl) (va_rf_n _ r) (va_rf_f _ r) d_Symbol_init_48 ?_
      refine aw_aloadV_n d_Symbol_init_51 rfl rfl (by first | exact Or.inl ⟨_, rfl⟩ | exact Or.inr rfl | exact rv_Q _) ?_
      refine aw_iload d_Symbol_init_52 rfl ?_
      refine aw_putF cl_Symbol fl_Symbol_26_f (by decide) rfl rfl rfl (ax_get_self a _) (Nat.le_of_ble_eq_true rfl) rfl rfl d_Symbol_init_54 ?_
      refine aw_aloadV_n d_Symbol_init_57 rfl rfl (by first | exact Or.inl ⟨_, rfl⟩ | exact Or.inr rfl | exact rv_Q _) ?_
      refine aw_iload d_Symbol_init_58 rfl ?_
      refine aw_putF cl_Symbol fl_Symbol_30_f (by decide) rfl rfl rfl (ax_get_self a _) (Nat.le_of_ble_eq_true rfl) rfl rfl d_Symbol_init_60 ?_
      refine aw_vret ?_ rfl d_Symbol_init_63
      refine ⟨rfl, ?_⟩
      have e1 : zI (mk = 1) = 0 := by rcases hm with rfl | rfl | rfl | rfl <;> first | rfl | exact absurd c13 (by decide) | exact absurd c28 (by decide)
      have e2 : zI (1 < mk) = 0 := by rcases hm with rfl | rfl | rfl | rfl <;> first | rfl | exact absurd c13 (by decide) | exact absurd c28 (by decide)
      rw [ax_set_set, ax_set_set, ax_set_set, ax_set_set, ax_set_set, e1, e2]
      rfl
    · refine aw_aloadV_n d_Symbol_init_31 rfl rfl (by first | exact Or.inl ⟨_, rfl⟩ | exact Or.inr rfl | exact rv_Q _) ?_
      refine aw_get cl_Symbol fl_Symbol_15 (by decide) (ax_get_self a _) rfl d_Symbol_init_32 ?_
      refine aw_if_ne (tgt := 42) d_Symbol_init_35 (by decide) (fun c35 => ?_) (fun c35 => ?_)
      · exact absurd rfl c35
      · refine aw_iconst (v := 1) d_Symbol_init_38 (by decide) ?_
        refine aw_goto (tgt := 43) d_Symbol_init_39 (by decide) ?_
        refine aw_putF cl_Symbol fl_Symbol_19_f (by decide) rfl rfl rfl (ax_get_self a _) (Nat.le_of_ble_eq_true rfl) rfl rfl d_Symbol_init_43 ?_
        refine aw_aloadV_n d_Symbol_init_46 rfl rfl (by first | exact Or.inl ⟨_, rfl⟩ | exact Or.inr rfl | exact rv_Q _) ?_
        refine aw_aloadV_n d_Symbol_init_47 rfl rfl (by first | exact Or.inl ⟨_, rfl⟩ | exact Or.inr rfl | exact rv_Q _) ?_
        refine aw_putF cl_Symbol fl_Symbol_22_f (by decide) rfl rfl rfl (ax_get_self a _) (Nat.le_of_ble_eq_true rfl) (va_rf_n _ r) (va_rf_f _ r) d_Symbol_init_48 ?_
        refine aw_aloadV_n d_Symbol_init_51 rfl rfl (by first | exact Or.inl ⟨_, rfl⟩ | exact Or.inr rfl | exact rv_Q _) ?_
        refine aw_iload d_Symbol_init_52 rfl ?_
        refine aw_putF cl_Symbol fl_Symbol_26_f (by decide) rfl rfl rfl (ax_get_self a _) (Nat.le_of_ble_eq_true rfl) rfl rfl d_Symbol_init_54 ?_
        refine aw_aloadV_n d_Symbol_init_57 rfl rfl (by first | exact Or.inl ⟨_, rfl⟩ | exact Or.inr rfl | exact rv_Q _) ?_
        refine aw_iload d_Symbol_init_58 rfl ?_
        refine aw_putF cl_Symbol fl_Symbol_30_f (by decide) rfl rfl rfl (ax_get_self a _) (Nat.le_of_ble_eq_true rfl) rfl rfl d_Symbol_init_60 ?_
        refine aw_vret ?_ rfl d_Symbol_init_63
        refine ⟨rfl, ?_⟩
        have e1 : zI (mk = 1) = 1 := by rcases hm with rfl | rfl | rfl | rfl <;> first | rfl | exact absurd c13 (by decide) | exact absurd c28 (by decide) | exact absurd c35 (by decide)
        have e2 : zI (1 < mk) = 0 := by rcases hm with rfl | rfl | rfl | rfl <;> first | rfl | exact absurd c13 (by decide) | exact absurd c28 (by decide) | exact absurd c35 (by decide)
        rw [ax_set_set, ax_set_set, ax_set_set, ax_set_set, ax_set_set, e1, e2]
        rfl
  · refine aw_iconst (v := 1) d_Symbol_init_16 (by decide) ?_
    refine aw_goto (tgt := 21) d_Symbol_init_17 (by decide) ?_
    refine aw_putF cl_Symbol fl_Symbol_15_f (by decide) rfl rfl rfl (ax_get_self a _) (Nat.le_of_ble_eq_true rfl) rfl rfl d_Symbol_init_21 ?_
    refine aw_aloadV_n d_Symbol_init_24 rfl rfl (by first | exact Or.inl ⟨_, rfl⟩ | exact Or.inr rfl | exact rv_Q _) ?_
    refine aw_iload_n d_Symbol_init_25 rfl rfl ?_
    refine aw_iconst (v := 1) d_Symbol_init_26 (by decide) ?_
    refine aw_iand d_Symbol_init_27 ?_
    refine aw_if_eq (tgt := 42) d_Symbol_init_28 (by decide) (fun c28 => ?_) (fun c28 => ?_)
    · refine aw_iconst (v := 0) d_Symbol_init_42 (by decide) ?_
      refine aw_putF cl_Symbol fl_Symbol_19_f (by decide) rfl rfl rfl (ax_get_self a _) (Nat.le_of_ble_eq_true rfl) rfl rfl d_Symbol_init_43 ?_
      refine aw_aloadV_n d_Symbol_init_46 rfl rfl (by first | exact Or.inl ⟨_, rfl⟩ | exact Or.inr rfl | exact rv_Q _) ?_
      refine aw_aloadV_n d_Symbol_init_47 rfl rfl (by first | exact Or.inl ⟨_, rfl⟩ | exact Or.inr rfl | exact rv_Q _) ?_
      refine aw_putF cl_Symbol fl_Symbol_22_f (by decide) rfl rfl rfl (ax_get_self a _) (Nat.le_of_ble_eq_true rfl) (va_rf_n _ r) (va_rf_f _ r) d_Symbol_init_48 ?_
      refine aw_aloadV_n d_Symbol_init_51 rfl rfl (by first | exact Or.inl ⟨_, rfl⟩ | exact Or.inr rfl | exact rv_Q _) ?_
      refine aw_iload d_Symbol_init_52 rfl ?_
      refine aw_putF cl_Symbol fl_Symbol_26_f (by decide) rfl rfl rfl (ax_get_self a _) (Nat.le_of_ble_eq_true rfl) rfl rfl d_Symbol_init_54 ?_
      refine aw_aloadV_n d_Symbol_init_57 rfl rfl (by first | exact Or.inl ⟨_, rfl⟩ | exact Or.inr rfl | exact rv_Q _) ?_
      refine aw_iload d_Symbol_init_58 rfl ?_
      refine aw_putF cl_Symbol fl_Symbol_30_f (by decide) rfl rfl rfl (ax_get_self a _) (Nat.le_of_ble_eq_true rfl) rfl rfl d_Symbol_init_60 ?_
      refine aw_vret ?_ rfl d_Symbol_init_63
      refine ⟨rfl, ?_⟩
      have e1 : zI (mk = 1) = 0 := by rcases hm with rfl | rfl | rfl | rfl <;> first | rfl | exact absurd c13 (by decide) | exact absurd c28 (by decide)
      have e2 : zI (1 < mk) = 1 := by rcases hm with rfl | rfl | rfl | rfl <;> first | rfl | exact absurd c13 (by decide) | exact absurd c28 (by decide)
      rw [ax_set_set, ax_set_set, ax_set_set, ax_set_set, ax_set_set, e1, e2]
      rfl
    · refine aw_aloadV_n d_Symbol_init_31 rfl rfl (by first | exact Or.inl ⟨_, rfl⟩ | exact Or.inr rfl | exact rv_Q _) ?_
      refine aw_get cl_Symbol fl_Symbol_15 (by decide) (ax_get_self a _) rfl d_Symbol_init_32 ?_
      refine aw_if_ne (tgt := 42) d_Symbol_init_35 (by decide) (fun c35 => ?_) (fun c35 => ?_)
      · refine aw_iconst (v := 0) d_Symbol_init_42 (by decide) ?_
        refine aw_putF cl_Symbol fl_Symbol_19_f (by decide) rfl rfl rfl (ax_get_self a _) (Nat.le_of_ble_eq_true rfl) rfl rfl d_Symbol_init_43 ?_
        refine aw_aloadV_n d_Symbol_init_46 rfl rfl (by first | exact Or.inl ⟨_, rfl⟩ | exact Or.inr rfl | exact rv_Q _) ?_
        refine aw_aloadV_n d_Symbol_init_47 rfl rfl (by first | exact Or.inl ⟨_, rfl⟩ | exact Or.inr rfl | exact rv_Q _) ?_
        refine aw_putF cl_Symbol fl_Symbol_22_f (by decide) rfl rfl rfl (ax_get_self a _) (Nat.le_of_ble_eq_true rfl) (va_rf_n _ r) (va_rf_f _ r) d_Symbol_init_48 ?_
        refine aw_aloadV_n d_Symbol_init_51 rfl rfl (by first | exact Or.inl ⟨_, rfl⟩ | exact Or.inr rfl | exact rv_Q _) ?_
        refine aw_iload d_Symbol_init_52 rfl ?_
        refine aw_putF cl_Symbol fl_Symbol_26_f (by decide) rfl rfl rfl (ax_get_self a _) (Nat.le_of_ble_eq_true rfl) rfl rfl d_Symbol_init_54 ?_
        refine aw_aloadV_n d_Symbol_init_57 rfl rfl (by first | exact Or.inl ⟨_, rfl⟩ | exact Or.inr rfl | exact rv_Q _) ?_
        refine aw_iload d_Symbol_init_58 rfl ?_
        refine aw_putF cl_Symbol fl_Symbol_30_f (by decide) rfl rfl rfl (ax_get_self a _) (Nat.le_of_ble_eq_true rfl) rfl rfl d_Symbol_init_60 ?_
        refine aw_vret ?_ rfl d_Symbol_init_63
        refine ⟨rfl, ?_⟩
        have e1 : zI (mk = 1) = 0 := by rcases hm with rfl | rfl | rfl | rfl <;> first | rfl | exact absurd c13 (by decide) | exact absurd c28 (by decide) | exact absurd c35 (by decide)
        have e2 : zI (1 < mk) = 1 := by rcases hm with rfl | rfl | rfl | rfl <;> first | rfl | exact absurd c13 (by decide) | exact absurd c28 (by decide) | exact absurd c35 (by decide)
        rw [ax_set_set, ax_set_set, ax_set_set, ax_set_set, ax_set_set, e1, e2]
        rfl
      · exact absurd c35 (by decide)
