set_option maxRecDepth 20000 in
theorem c_Image_begin (G : ax_G) (h : ax_H) (o : Nat) (c : cSt) (hR : cR o c h) {n : Nat} (hn : c.2.1 16 6 = nI n) (hnb : n ≤ 262144) : AM G Y_Image_begin 3 94 [.ref (o + 8), .ref (o + 16)] h (fun v h2 => v = none ∧ cR o (va_up (va_up c.1 53 0) 54 0, va_up (va_up c.2.1 9 (va_cpy (c.2.1 16) (c.2.1 9) 0 0 7)) 10 (mZ (c.2.1 10) 0 n), c.2.2) h2 ∧ cFr o (c.2.2.2.2.2 5) h h2) := by
  refine aw_enter (by decide) (Nat.le_of_ble_eq_true rfl) (n := 0) (ls := [some (.ref (o + 8)), some (.ref (o + 16))]) rfl (fun x => ?_)
  have e7 : (7 : Int32).toNatClampNeg = 7 := by decide
  have e0 : (0 : Int32).toNatClampNeg = 0 := by decide
  refine aw_aloadV_n d_Image_begin_0 rfl rfl (by first | exact Or.inl ⟨_, rfl⟩ | exact Or.inr rfl | exact rv_Q _) ?_
  refine aw_iconst (v := 0) d_Image_begin_1 (by decide) ?_
  refine aw_aloadV_n d_Image_begin_2 rfl rfl (by first | exact Or.inl ⟨_, rfl⟩ | exact Or.inr rfl | exact rv_Q _) ?_
  refine aw_get cl_Image fl_Image_9 (by decide) hR.img rfl d_Image_begin_3 ?_
  refine aw_iconst (v := 0) d_Image_begin_6 (by decide) ?_
  refine aw_bipush (v := 7) d_Image_begin_7 (by decide) ?_
  refine aw_copy wd_cpI hR.a16 hR.a9 rfl (by decide) (by decide) (by decide) (by decide) (by decide) (fun i _ => rfl) (by decide) (Nat.le_of_ble_eq_true rfl) d_Image_begin_9 ?_
  rw [e0, e7]
  obtain ⟨hR9, hF9⟩ := hR.w9 (va_cpy (c.2.1 16) (c.2.1 9) 0 0 7)
  generalize ax_set h (o + 9) (.inl (.int, 7, .inl (va_cpy (c.2.1 16) (c.2.1 9) 0 0 7))) = g9 at *
  refine aw_aloadV_n d_Image_begin_12 rfl rfl (by first | exact Or.inl ⟨_, rfl⟩ | exact Or.inr rfl | exact rv_Q _) ?_
  refine aw_get cl_Image fl_Image_16 (by decide) hR9.img rfl d_Image_begin_13 ?_
  refine aw_iconst (v := 0) d_Image_begin_16 (by decide) ?_
  refine aw_aloadV_n d_Image_begin_17 rfl rfl (by first | exact Or.inl ⟨_, rfl⟩ | exact Or.inr rfl | exact rv_Q _) ?_
  refine aw_get cl_Image fl_Image_9 (by decide) hR9.img rfl d_Image_begin_18 ?_
  refine aw_bipush (v := 6) d_Image_begin_21 (by decide) ?_
  refine aC_l9 hR9 (rfl : (6 : Int32) = nI 6) (by decide) d_Image_begin_23 ?_
  have e6 : (va_cpy (c.2.1 16) (c.2.1 9) 0 0 7) 6 = nI n := by rw [pk_cpy_in (by decide) (by decide)]; exact hn
  show AW G x Y_Image_begin _ _ _ _ _ 24 _ (.int ((va_cpy (c.2.1 16) (c.2.1 9) 0 0 7) 6) :: _)
  rw [e6]
  refine aw_iconst (v := 0) d_Image_begin_24 (by decide) ?_
  refine aw_callS (c_J_fill G _ hR9.a10 (a := 0) (N := n) (by omega) 0 (nI n) rfl (by rw [Nat.zero_add])) m_JArrays_fill ml_Image_49 rfl rfl (by decide) (by decide) (Nat.le_of_ble_eq_true rfl) d_Image_begin_25 ?_
  rintro v h' ⟨rfl, rfl⟩
  obtain ⟨hR25, hF25⟩ := hR9.w10 (mZ (c.2.1 10) 0 n)
  skip
  refine aw_aloadV_n d_Image_begin_28 rfl rfl (by first | exact Or.inl ⟨_, rfl⟩ | exact Or.inr rfl | exact rv_Q _) ?_
  refine aw_iconst (v := 0) d_Image_begin_29 (by decide) ?_
  refine aC_p53 hR25 fl_Image_36 rfl rfl d_Image_begin_30 (fun g30 hR30 hF30 => ?_)
  refine aw_aloadV_n d_Image_begin_33 rfl rfl (by first | exact Or.inl ⟨_, rfl⟩ | exact Or.inr rfl | exact rv_Q _) ?_
  refine aw_iconst (v := 0) d_Image_begin_34 (by decide) ?_
  refine aC_p54 hR30 fl_Image_40 rfl rfl d_Image_begin_35 (fun g35 hR35 hF35 => ?_)
  refine aw_vret ?_ rfl d_Image_begin_38
  exact ⟨rfl, hR35, (((hF9.tr hF25).tr hF30).tr hF35)⟩
abbrev cAN (c : cSt) (K i : Nat) (z : Int32) : cSt := (va_up c.1 53 (nI K + 1), va_up (va_up c.2.1 12 (va_up (c.2.1 12) K (c.2.1 29 i))) 13 (va_up (c.2.1 13) K z), va_up c.2.2.1 11 (va_up (c.2.2.1 11) K (c.2.2.1 42 i)), c.2.2.2)
set_option maxRecDepth 20000 in
theorem c_Image_addName (G : ax_G) (h : ax_H) (o : Nat) (c : cSt) (hR : cR o c h) {K i : Nat} (hK : c.1 53 = nI K) (hKb : K < 2048) (hi : i < c.2.2.2.2.2 1) (z : Int32) : AM G Y_Image_addName 0 0 [.ref (o + 8), .ref (c.2.2.2.2.1 1 i), .int z] h (fun v h2 => v = none ∧ cR o (cAN c K i z) h2 ∧ cFr o (c.2.2.2.2.2 5) h h2) := by
  refine aw_enter (by decide) (Nat.le_of_ble_eq_true rfl) (n := 0) (ls := [some (.ref (o + 8)), some (.ref (c.2.2.2.2.1 1 i)), some (.int z)]) rfl (fun x => ?_)
  refine aw_aloadV_n d_Image_addName_0 rfl rfl (by first | exact Or.inl ⟨_, rfl⟩ | exact Or.inr rfl | exact rv_Q _) ?_
  refine aw_getE cl_Image fl_Image_36 (by decide) hR.img rfl (congrArg Value.int hK) d_Image_addName_1 ?_
  refine aw_sipush (v := 2048) d_Image_addName_4 (by decide) ?_
  refine aw_icmp_lt (tgt := 11) d_Image_addName_7 (by decide) (fun c7 => ?_) (fun c7 => ?_)
  · refine aw_aloadV_n d_Image_addName_11 rfl rfl (by first | exact Or.inl ⟨_, rfl⟩ | exact Or.inr rfl | exact rv_Q _) ?_
    refine aw_get cl_Image fl_Image_20 (by decide) hR.img rfl d_Image_addName_12 ?_
    refine aw_aloadV_n d_Image_addName_15 rfl rfl (by first | exact Or.inl ⟨_, rfl⟩ | exact Or.inr rfl | exact rv_Q _) ?_
    refine aw_getE cl_Image fl_Image_36 (by decide) hR.img rfl (congrArg Value.int hK) d_Image_addName_16 ?_
    refine aw_aloadV_n d_Image_addName_19 rfl rfl (by first | exact Or.inl ⟨_, rfl⟩ | exact Or.inr rfl | exact rv_Q _) ?_
    refine aw_get cl_Name fl_Image_55 (by decide) (hR.name hi) rfl d_Image_addName_20 ?_
    refine aC_s11 hR rfl hKb d_Image_addName_23 (fun g23 hR23 hF23 => ?_)
    refine aw_aloadV_n d_Image_addName_24 rfl rfl (by first | exact Or.inl ⟨_, rfl⟩ | exact Or.inr rfl | exact rv_Q _) ?_
    refine aw_get cl_Image fl_Image_24 (by decide) hR23.img rfl d_Image_addName_25 ?_
    refine aw_aloadV_n d_Image_addName_28 rfl rfl (by first | exact Or.inl ⟨_, rfl⟩ | exact Or.inr rfl | exact rv_Q _) ?_
    refine aw_getE cl_Image fl_Image_36 (by decide) hR23.img rfl (congrArg Value.int hK) d_Image_addName_29 ?_
    refine aw_aloadV_n d_Image_addName_32 rfl rfl (by first | exact Or.inl ⟨_, rfl⟩ | exact Or.inr rfl | exact rv_Q _) ?_
    refine aw_get cl_Name fl_Image_61 (by decide) (hR23.name hi) rfl d_Image_addName_33 ?_
    refine aC_s12 hR23 rfl hKb d_Image_addName_36 (fun g36 hR36 hF36 => ?_)
    refine aw_aloadV_n d_Image_addName_37 rfl rfl (by first | exact Or.inl ⟨_, rfl⟩ | exact Or.inr rfl | exact rv_Q _) ?_
    refine aw_get cl_Image fl_Image_27 (by decide) hR36.img rfl d_Image_addName_38 ?_
    refine aw_aloadV_n d_Image_addName_41 rfl rfl (by first | exact Or.inl ⟨_, rfl⟩ | exact Or.inr rfl | exact rv_Q _) ?_
    refine aw_getE cl_Image fl_Image_36 (by decide) hR36.img rfl (congrArg Value.int hK) d_Image_addName_42 ?_
    refine aw_iload_n d_Image_addName_45 rfl rfl ?_
    refine aC_s13 hR36 rfl hKb d_Image_addName_46 (fun g46 hR46 hF46 => ?_)
    refine aw_aloadV_n d_Image_addName_47 rfl rfl (by first | exact Or.inl ⟨_, rfl⟩ | exact Or.inr rfl | exact rv_Q _) ?_
    refine aw_dup d_Image_addName_48 rfl ?_
    refine aw_getE cl_Image fl_Image_36 (by decide) hR46.img rfl (congrArg Value.int hK) d_Image_addName_49 ?_
    refine aw_iconst (v := 1) d_Image_addName_52 (by decide) ?_
    refine aw_iadd d_Image_addName_53 ?_
    refine aC_p53 hR46 fl_Image_36 rfl rfl d_Image_addName_54 (fun g54 hR54 hF54 => ?_)
    refine aw_vret ?_ rfl d_Image_addName_57
    exact ⟨rfl, hR54, (((hF23.tr hF36).tr hF46).tr hF54)⟩
  · exact absurd (nI_lt (b := 2048) hKb (by decide)) c7
abbrev cAS (c : cSt) (K : Nat) (a b : Int32) : cSt := (va_up c.1 54 (nI K + 1), va_up (va_up c.2.1 14 (va_up (c.2.1 14) K a)) 15 (va_up (c.2.1 15) K b), c.2.2)
theorem i32_shl16 {u : Nat} (h : u < 32) : nI u <<< (16 &&& 31) = 65536 * nI u := by
  have h1 : nI u <<< (16 &&& 31 : Int32) = nI (u * 2 ^ 16) := pk_shlN _ 16 (by decide) (by omega)
  rw [h1, show (65536 : Int32) = nI 65536 from rfl, pk_mul, Nat.mul_comm]
set_option maxRecDepth 20000 in
theorem c_Image_addStart (G : ax_G) (h : ax_H) (o : Nat) (c : cSt) (hR : cR o c h) (s : mSt) (e : Nat → Nat → Nat) (U S W T : Nat) (hJ : cJ c s e U S W T) (hUb : U ≤ 32) {K t : Nat} (hK : c.1 54 = nI K) (hKb : K < 8192) (ht : t < T) (hut : e 25 t < U) {z : Int32} (hz : c.2.1 28 (4 * e 25 t) = 4194304 + z) : AM G Y_Image_addStart 0 0 [.ref (o + 8), .ref (c.2.2.2.2.1 4 t)] h (fun v h2 => v = none ∧ cR o (cAS c K (z + s.2.1 26 t) (65536 * nI (e 25 t) + s.2.1 27 t)) h2 ∧ cFr o (c.2.2.2.2.2 5) h h2) := by
  have hqq : 4 * e 25 t < 4 * U := by omega
  have htx : Value.ref (cQ c.2.2.2.2 (c.2.2.2.2.1 7 t)) = .ref (cQ c.2.2.2.2 (4 * e 25 t)) := by rw [hJ.txt ht]
  refine aw_enter (by decide) (Nat.le_of_ble_eq_true rfl) (n := 0) (ls := [some (.ref (o + 8)), some (.ref (c.2.2.2.2.1 4 t))]) rfl (fun x => ?_)
  refine aw_aloadV_n d_Image_addStart_0 rfl rfl (by first | exact Or.inl ⟨_, rfl⟩ | exact Or.inr rfl | exact rv_Q _) ?_
  refine aw_getE cl_Image fl_Image_40 (by decide) hR.img rfl (congrArg Value.int hK) d_Image_addStart_1 ?_
  refine aw_sipush (v := 8192) d_Image_addStart_4 (by decide) ?_
  refine aw_icmp_lt (tgt := 11) d_Image_addStart_7 (by decide) (fun c7 => ?_) (fun c7 => ?_)
  · refine aw_aloadV_n d_Image_addStart_11 rfl rfl (by first | exact Or.inl ⟨_, rfl⟩ | exact Or.inr rfl | exact rv_Q _) ?_
    refine aw_get cl_Image fl_Image_30 (by decide) hR.img rfl d_Image_addStart_12 ?_
    refine aw_aloadV_n d_Image_addStart_15 rfl rfl (by first | exact Or.inl ⟨_, rfl⟩ | exact Or.inr rfl | exact rv_Q _) ?_
    refine aw_getE cl_Image fl_Image_40 (by decide) hR.img rfl (congrArg Value.int hK) d_Image_addStart_16 ?_
    refine aw_aloadV_n d_Image_addStart_19 rfl rfl (by first | exact Or.inl ⟨_, rfl⟩ | exact Or.inr rfl | exact rv_Q _) ?_
    refine aw_getE cl_Start fl_Image_64 (by decide) (hR.start (hJ.ht ht)) rfl htx d_Image_addStart_20 ?_
    refine aw_getE cl_Section fl_Image_70 (by decide) (hR.sec (hJ.hq hqq)) rfl (congrArg Value.int hz) d_Image_addStart_23 ?_
    refine aw_ldc kc_Image_75 d_Image_addStart_26 ?_
    refine aw_isub d_Image_addStart_28 ?_
    rw [show 4194304 + z - 4194304 = z by rw [Int32.add_comm, Int32.add_sub_cancel]]
    refine aw_aloadV_n d_Image_addStart_29 rfl rfl (by first | exact Or.inl ⟨_, rfl⟩ | exact Or.inr rfl | exact rv_Q _) ?_
    refine aw_getE cl_Start fl_Image_76 (by decide) (hR.start (hJ.ht ht)) rfl (congrArg Value.int (hJ.tplc ht)) d_Image_addStart_30 ?_
    refine aw_iadd d_Image_addStart_33 ?_
    refine aC_s14 hR rfl hKb d_Image_addStart_34 (fun g34 hR34 hF34 => ?_)
    refine aw_aloadV_n d_Image_addStart_35 rfl rfl (by first | exact Or.inl ⟨_, rfl⟩ | exact Or.inr rfl | exact rv_Q _) ?_
    refine aw_get cl_Image fl_Image_33 (by decide) hR34.img rfl d_Image_addStart_36 ?_
    refine aw_aloadV_n d_Image_addStart_39 rfl rfl (by first | exact Or.inl ⟨_, rfl⟩ | exact Or.inr rfl | exact rv_Q _) ?_
    refine aw_getE cl_Image fl_Image_40 (by decide) hR34.img rfl (congrArg Value.int hK) d_Image_addStart_40 ?_
    refine aw_aloadV_n d_Image_addStart_43 rfl rfl (by first | exact Or.inl ⟨_, rfl⟩ | exact Or.inr rfl | exact rv_Q _) ?_
    refine aw_getE cl_Start fl_Image_64 (by decide) (hR34.start (hJ.ht ht)) rfl htx d_Image_addStart_44 ?_
    refine aw_getE cl_Section fl_Image_79 (by decide) (hR34.sec (hJ.hq hqq)) rfl (show _ = Value.ref (c.2.2.2.2.1 0 (e 25 t)) from by show Value.ref (c.2.2.2.2.1 0 (4 * e 25 t / 4)) = _; rw [show 4 * e 25 t / 4 = e 25 t by omega]) d_Image_addStart_47 ?_
    refine aw_get cl_Unit fl_Image_83 (by decide) (hR34.unit (hJ.hu hut)) rfl d_Image_addStart_50 ?_
    refine aw_bipush (v := 16) d_Image_addStart_53 (by decide) ?_
    refine aw_ishl d_Image_addStart_55 ?_
    rw [i32_shl16 (by omega)]
    refine aw_aloadV_n d_Image_addStart_56 rfl rfl (by first | exact Or.inl ⟨_, rfl⟩ | exact Or.inr rfl | exact rv_Q _) ?_
    refine aw_getE cl_Start fl_Image_88 (by decide) (hR34.start (hJ.ht ht)) rfl (congrArg Value.int (hJ.tlin ht)) d_Image_addStart_57 ?_
    refine aw_iadd d_Image_addStart_60 ?_
    refine aC_s15 hR34 rfl hKb d_Image_addStart_61 (fun g61 hR61 hF61 => ?_)
    refine aw_aloadV_n d_Image_addStart_62 rfl rfl (by first | exact Or.inl ⟨_, rfl⟩ | exact Or.inr rfl | exact rv_Q _) ?_
    refine aw_dup d_Image_addStart_63 rfl ?_
    refine aw_getE cl_Image fl_Image_40 (by decide) hR61.img rfl (congrArg Value.int hK) d_Image_addStart_64 ?_
    refine aw_iconst (v := 1) d_Image_addStart_67 (by decide) ?_
    refine aw_iadd d_Image_addStart_68 ?_
    refine aC_p54 hR61 fl_Image_40 rfl rfl d_Image_addStart_69 (fun g69 hR69 hF69 => ?_)
    refine aw_vret ?_ rfl d_Image_addStart_72
    exact ⟨rfl, hR69, ((hF34.tr hF61).tr hF69)⟩
  · exact absurd (nI_lt (b := 8192) hKb (by decide)) c7
