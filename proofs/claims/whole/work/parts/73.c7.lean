theorem cB.start {h : ax_H} {a ci : Nat} {fs : List Value} (ha : h.2.2 a = some (.inr (ci, fs))) (hl : a < h.1) : cB a ci fs h.1 [] h.2.1 h h := ⟨hl, rfl, rfl, ha, fun i E q => (by cases q), fun _ _ _ => rfl⟩
theorem cB.to {a ci : Nat} {fs : List Value} {N0 : Nat} {cs : List ax_E} {n n2 : Nat} {h1 h : ax_H} (hB : cB a ci fs N0 cs n h1 h) (e : n = n2) : cB a ci fs N0 cs n2 h1 h := e ▸ hB
section CBX
variable {G : ax_G} {x : ax_X} {Y : ax_Y} {fr lo : Nat} {h0 h : ax_H} {P : Option Value → ax_H → Prop} {pc : Nat} {ls : List (Option Value)} {st : List Value} {a ci : Nat} {fs : List Value} {N0 : Nat} {cs : List ax_E} {n : Nat} {h1 : ax_H}
theorem aB_new {ci2 : Nat} {C : String} {T : u_T} {N : Nat} {tys : Nat → FieldType} (hB : cB a ci fs N0 cs n h1 h) (c : ax_cl ci2 C T N tys) {idx : Nat} {fs2 : List Value} (w1 : Cond.classLink Y.1.cls idx C ∈ lw_tbl) (w2 : Cond.instantiable C N ∈ lw_tbl) (w3 : Cond.initialized C ∈ lw_tbl) (hfs : ∀ j, j < N → defaultValue (tys j) = vp_V fs2 j) (hc : N0 + cs.length + 1 ≤ G.1 + room_1.cells) (hs : n + N ≤ room_1.slots) (hd : decode Y.2.1 pc = .ok (.new idx, 3)) (k : ∀ g, cB a ci fs N0 (cs ++ [.inr (ci2, fs2)]) (n + N) h1 g → AW G x Y fr lo h0 P g (pc + 3) ls (.ref (N0 + cs.length) :: st)) : AW G x Y fr lo h0 P h pc ls st := by
  refine aw_new c w1 w2 w3 hfs (by rw [hB.2.1]; exact hc) (by rw [hB.2.2.1]; exact hs) hd ?_
  have := k _ (hB.new (.inr (ci2, fs2)) N)
  rw [← hB.2.1] at this
  exact this
end CBX
set_option maxRecDepth 20000 in
theorem c_Unit_init (G : ax_G) (h : ax_H) (a : Nat) (ha : h.2.2 a = some (.inr (3, f0_Unit))) (hl : a < h.1) (z lb : Int32) (hlb : lb = 0 ∨ lb = 1) (y : Nat) (b : Int32) (hc : h.1 + 1 ≤ G.1 + room_1.cells) (hs : h.2.1 + 4 ≤ room_1.slots) : AM G Y_Unit_init 1 20 [.ref a, .int z, .int lb, .ref y, .int b] h (fun v h2 => v = none ∧ cB a 3 [.int z, .int lb, .ref h.1, .ref y, .int b, .int b, .int 0] h.1 [.inl (.object "SymbolLinker$Section", 4, .inr (.inr (.inr (.inr (fun _ => none)))))] (h.2.1 + 4) h h2) := by
  have hB := cB.start ha hl
  refine aw_enter (by decide) (Nat.le_of_ble_eq_true rfl) (n := 0) (ls := [some (.ref a), some (.int z), some (.int lb), some (.ref y), some (.int b)]) rfl (fun x => ?_)
  refine aw_aloadV_n d_Unit_init_0 rfl rfl (by first | exact Or.inl ⟨_, rfl⟩ | exact Or.inr rfl | exact rv_Q _) ?_
  refine aw_objInit ml_Unit_3 oi_2 oi_3 (by decide) (Nat.le_of_ble_eq_true rfl) d_Unit_init_1 ?_
  refine aw_aloadV_n d_Unit_init_4 rfl rfl (by first | exact Or.inl ⟨_, rfl⟩ | exact Or.inr rfl | exact rv_Q _) ?_
  refine aw_iload_n d_Unit_init_5 rfl rfl ?_
  refine aB_putF hB cl_Unit fl_Unit_9_f (by decide) rfl rfl rfl (Nat.le_of_ble_eq_true rfl) rfl rfl d_Unit_init_6 (fun g6 hB6 => ?_)
  refine aw_aloadV_n d_Unit_init_9 rfl rfl (by first | exact Or.inl ⟨_, rfl⟩ | exact Or.inr rfl | exact rv_Q _) ?_
  refine aw_iload_n d_Unit_init_10 rfl rfl ?_
  refine aB_putF hB6 cl_Unit fl_Unit_15_f (by decide) rfl rfl rfl (Nat.le_of_ble_eq_true rfl) (by rcases hlb with rfl | rfl <;> rfl) (by rcases hlb with rfl | rfl <;> rfl) d_Unit_init_11 (fun g11 hB11 => ?_)
  refine aw_aloadV_n d_Unit_init_14 rfl rfl (by first | exact Or.inl ⟨_, rfl⟩ | exact Or.inr rfl | exact rv_Q _) ?_
  refine aw_iconst (v := 4) d_Unit_init_15 (by decide) ?_
  refine aB_anew hB11 kl_Unit_19 ko_Section (by decide) rfl (by decide) hc hs d_Unit_init_16 (fun g16 hB16 => ?_)
  refine aB_putF hB16 cl_Unit fl_Unit_21_f (by decide) rfl rfl rfl (Nat.le_of_ble_eq_true rfl) rfl rfl d_Unit_init_19 (fun g19 hB19 => ?_)
  refine aw_aloadV_n d_Unit_init_22 rfl rfl (by first | exact Or.inl ⟨_, rfl⟩ | exact Or.inr rfl | exact rv_Q _) ?_
  refine aw_aloadV_n d_Unit_init_23 rfl rfl (by first | exact Or.inl ⟨_, rfl⟩ | exact Or.inr rfl | exact rv_Q _) ?_
  refine aB_putF hB19 cl_Unit fl_Unit_25_f (by decide) rfl rfl rfl (Nat.le_of_ble_eq_true rfl) rfl rfl d_Unit_init_24 (fun g24 hB24 => ?_)
  refine aw_aloadV_n d_Unit_init_27 rfl rfl (by first | exact Or.inl ⟨_, rfl⟩ | exact Or.inr rfl | exact rv_Q _) ?_
  refine aw_iload d_Unit_init_28 rfl ?_
  refine aB_putF hB24 cl_Unit fl_Unit_29_f (by decide) rfl rfl rfl (Nat.le_of_ble_eq_true rfl) rfl rfl d_Unit_init_30 (fun g30 hB30 => ?_)
  refine aw_aloadV_n d_Unit_init_33 rfl rfl (by first | exact Or.inl ⟨_, rfl⟩ | exact Or.inr rfl | exact rv_Q _) ?_
  refine aw_iload d_Unit_init_34 rfl ?_
  refine aB_put hB30 cl_Unit fl_Unit_32 (by decide) rfl (Nat.le_of_ble_eq_true rfl) rfl rfl d_Unit_init_36 (fun g36 hB36 => ?_)
  refine aw_aloadV_n d_Unit_init_39 rfl rfl (by first | exact Or.inl ⟨_, rfl⟩ | exact Or.inr rfl | exact rv_Q _) ?_
  refine aw_iconst (v := 0) d_Unit_init_40 (by decide) ?_
  refine aB_put hB36 cl_Unit fl_Unit_35 (by decide) rfl (Nat.le_of_ble_eq_true rfl) rfl rfl d_Unit_init_41 (fun g41 hB41 => ?_)
  refine aw_vret ?_ rfl d_Unit_init_44
  exact ⟨rfl, hB41⟩
set_option maxRecDepth 20000 in
theorem c_Image_init (G : ax_G) (h : ax_H) (a : Nat) (ha : h.2.2 a = some (.inr (2, f0_Image))) (hl : a < h.1) (hc : h.1 + 7 ≤ G.1 + room_1.cells) (hs : h.2.1 + 284679 ≤ room_1.slots) : AM G Y_Image_init 1 20 [.ref a] h (fun v h2 => v = none ∧ cB a 2 [.ref h.1, .ref (h.1 + 1), .ref (h.1 + 2), .ref (h.1 + 3), .ref (h.1 + 4), .ref (h.1 + 5), .ref (h.1 + 6), .int 0, .int 0] h.1 [.inl (.int, 7, .inl (fun _ => 0)), .inl (.byte, 262144, .inl (fun _ => 0)), .inl (.long, 2048, .inr (.inl (fun _ => 0))), .inl (.int, 2048, .inl (fun _ => 0)), .inl (.int, 2048, .inl (fun _ => 0)), .inl (.int, 8192, .inl (fun _ => 0)), .inl (.int, 8192, .inl (fun _ => 0))] (h.2.1 + 284679) h h2) := by
  have hB := cB.start ha hl
  refine aw_enter (by decide) (Nat.le_of_ble_eq_true rfl) (n := 0) (ls := [some (.ref a)]) rfl (fun x => ?_)
  refine aw_aloadV_n d_Image_init_0 rfl rfl (by first | exact Or.inl ⟨_, rfl⟩ | exact Or.inr rfl | exact rv_Q _) ?_
  refine aw_objInit ml_Image_3 oi_2 oi_3 (by decide) (Nat.le_of_ble_eq_true rfl) d_Image_init_1 ?_
  refine aw_aloadV_n d_Image_init_4 rfl rfl (by first | exact Or.inl ⟨_, rfl⟩ | exact Or.inr rfl | exact rv_Q _) ?_
  refine aw_bipush (v := 7) d_Image_init_5 (by decide) ?_
  refine aB_newa (atype := .int) (f := .inl (fun _ => 0)) (N := 7) hB ka_int rfl (fun _ => rfl) (by decide) (by decide) (by decide) (show h.1 + 0 + 1 ≤ G.1 + room_1.cells by omega) (by omega) d_Image_init_7 (by intro z q; cases q) (fun g7 hB7 => ?_)
  refine aB_putF hB7 cl_Image fl_Image_9_f (by decide) rfl rfl rfl (Nat.le_of_ble_eq_true rfl) rfl rfl d_Image_init_9 (fun g9 hB9 => ?_)
  refine aw_aloadV_n d_Image_init_12 rfl rfl (by first | exact Or.inl ⟨_, rfl⟩ | exact Or.inr rfl | exact rv_Q _) ?_
  refine aw_ldc kc_Image_15 d_Image_init_13 ?_
  refine aB_newa (atype := .byte) (f := .inl (fun _ => 0)) (N := 262144) hB9 ka_byte rfl (fun _ => rfl) (by decide) (by decide) (by decide) (show h.1 + 1 + 1 ≤ G.1 + room_1.cells by omega) (by omega) d_Image_init_15 (by intro z q; cases q) (fun g15 hB15 => ?_)
  refine aB_putF hB15 cl_Image fl_Image_16_f (by decide) rfl rfl rfl (Nat.le_of_ble_eq_true rfl) rfl rfl d_Image_init_17 (fun g17 hB17 => ?_)
  refine aw_aloadV_n d_Image_init_20 rfl rfl (by first | exact Or.inl ⟨_, rfl⟩ | exact Or.inr rfl | exact rv_Q _) ?_
  refine aw_sipush (v := 2048) d_Image_init_21 (by decide) ?_
  refine aB_newa (atype := .long) (f := .inr (.inl (fun _ => 0))) (N := 2048) hB17 ka_long rfl (fun _ => rfl) (by decide) (by decide) (by decide) (show h.1 + 2 + 1 ≤ G.1 + room_1.cells by omega) (by omega) d_Image_init_24 (by intro z q; cases q) (fun g24 hB24 => ?_)
  refine aB_putF hB24 cl_Image fl_Image_20_f (by decide) rfl rfl rfl (Nat.le_of_ble_eq_true rfl) rfl rfl d_Image_init_26 (fun g26 hB26 => ?_)
  refine aw_aloadV_n d_Image_init_29 rfl rfl (by first | exact Or.inl ⟨_, rfl⟩ | exact Or.inr rfl | exact rv_Q _) ?_
  refine aw_sipush (v := 2048) d_Image_init_30 (by decide) ?_
  refine aB_newa (atype := .int) (f := .inl (fun _ => 0)) (N := 2048) hB26 ka_int rfl (fun _ => rfl) (by decide) (by decide) (by decide) (show h.1 + 3 + 1 ≤ G.1 + room_1.cells by omega) (by omega) d_Image_init_33 (by intro z q; cases q) (fun g33 hB33 => ?_)
  refine aB_putF hB33 cl_Image fl_Image_24_f (by decide) rfl rfl rfl (Nat.le_of_ble_eq_true rfl) rfl rfl d_Image_init_35 (fun g35 hB35 => ?_)
  refine aw_aloadV_n d_Image_init_38 rfl rfl (by first | exact Or.inl ⟨_, rfl⟩ | exact Or.inr rfl | exact rv_Q _) ?_
  refine aw_sipush (v := 2048) d_Image_init_39 (by decide) ?_
  refine aB_newa (atype := .int) (f := .inl (fun _ => 0)) (N := 2048) hB35 ka_int rfl (fun _ => rfl) (by decide) (by decide) (by decide) (show h.1 + 4 + 1 ≤ G.1 + room_1.cells by omega) (by omega) d_Image_init_42 (by intro z q; cases q) (fun g42 hB42 => ?_)
  refine aB_putF hB42 cl_Image fl_Image_27_f (by decide) rfl rfl rfl (Nat.le_of_ble_eq_true rfl) rfl rfl d_Image_init_44 (fun g44 hB44 => ?_)
  refine aw_aloadV_n d_Image_init_47 rfl rfl (by first | exact Or.inl ⟨_, rfl⟩ | exact Or.inr rfl | exact rv_Q _) ?_
  refine aw_sipush (v := 8192) d_Image_init_48 (by decide) ?_
  refine aB_newa (atype := .int) (f := .inl (fun _ => 0)) (N := 8192) hB44 ka_int rfl (fun _ => rfl) (by decide) (by decide) (by decide) (show h.1 + 5 + 1 ≤ G.1 + room_1.cells by omega) (by omega) d_Image_init_51 (by intro z q; cases q) (fun g51 hB51 => ?_)
  refine aB_putF hB51 cl_Image fl_Image_30_f (by decide) rfl rfl rfl (Nat.le_of_ble_eq_true rfl) rfl rfl d_Image_init_53 (fun g53 hB53 => ?_)
  refine aw_aloadV_n d_Image_init_56 rfl rfl (by first | exact Or.inl ⟨_, rfl⟩ | exact Or.inr rfl | exact rv_Q _) ?_
  refine aw_sipush (v := 8192) d_Image_init_57 (by decide) ?_
  refine aB_newa (atype := .int) (f := .inl (fun _ => 0)) (N := 8192) hB53 ka_int rfl (fun _ => rfl) (by decide) (by decide) (by decide) (show h.1 + 6 + 1 ≤ G.1 + room_1.cells by omega) (by omega) d_Image_init_60 (by intro z q; cases q) (fun g60 hB60 => ?_)
  refine aB_putF hB60 cl_Image fl_Image_33_f (by decide) rfl rfl rfl (Nat.le_of_ble_eq_true rfl) rfl rfl d_Image_init_62 (fun g62 hB62 => ?_)
  refine aw_aloadV_n d_Image_init_65 rfl rfl (by first | exact Or.inl ⟨_, rfl⟩ | exact Or.inr rfl | exact rv_Q _) ?_
  refine aw_iconst (v := 0) d_Image_init_66 (by decide) ?_
  refine aB_put hB62 cl_Image fl_Image_36 (by decide) rfl (Nat.le_of_ble_eq_true rfl) rfl rfl d_Image_init_67 (fun g67 hB67 => ?_)
  refine aw_aloadV_n d_Image_init_70 rfl rfl (by first | exact Or.inl ⟨_, rfl⟩ | exact Or.inr rfl | exact rv_Q _) ?_
  refine aw_iconst (v := 0) d_Image_init_71 (by decide) ?_
  refine aB_put hB67 cl_Image fl_Image_40 (by decide) rfl (Nat.le_of_ble_eq_true rfl) rfl rfl d_Image_init_72 (fun g72 hB72 => ?_)
  refine aw_vret ?_ rfl d_Image_init_75
  exact ⟨rfl, hB72.to (by omega)⟩
def cNewL (o : Nat) : List ax_E := [.inl (.object "SymbolLinker$Unit", 32, .inr (.inr (.inr (.inr (fun _ => none))))), .inl (.object "SymbolLinker$Name", 2048, .inr (.inr (.inr (.inr (fun _ => none))))), .inl (.object "SymbolLinker$Symbol", 2048, .inr (.inr (.inr (.inr (fun _ => none))))), .inl (.object "SymbolLinker$Wait", 4096, .inr (.inr (.inr (.inr (fun _ => none))))), .inl (.object "SymbolLinker$Start", 8192, .inr (.inr (.inr (.inr (fun _ => none))))), .inl (.byte, 262144, .inl (fun _ => 0)), .inr (1, [.int 0, .int 0, .int (-1)]), .inr (2, [.ref (o + 9), .ref (o + 10), .ref (o + 11), .ref (o + 12), .ref (o + 13), .ref (o + 14), .ref (o + 15), .int 0, .int 0]), .inl (.int, 7, .inl (fun _ => 0)), .inl (.byte, 262144, .inl (fun _ => 0)), .inl (.long, 2048, .inr (.inl (fun _ => 0))), .inl (.int, 2048, .inl (fun _ => 0)), .inl (.int, 2048, .inl (fun _ => 0)), .inl (.int, 8192, .inl (fun _ => 0)), .inl (.int, 8192, .inl (fun _ => 0)), .inl (.int, 7, .inl (fun _ => 0))]
set_option maxRecDepth 20000 in
theorem c_L_init (G : ax_G) (h h1 : ax_H) (o n : Nat) (hB : cB o 0 f0_L (o + 1) [] n h1 h) (hc : o + 17 ≤ G.1 + room_1.cells) (hs : n + 600000 ≤ room_1.slots) : AM G Y_L_init 2 40 [.ref o] h (fun v h2 => v = none ∧ ∃ n2, n2 = n + 563258 ∧ cB o 0 [.ref (o + 1), .ref (o + 2), .ref (o + 3), .ref (o + 4), .ref (o + 5), .ref (o + 6), .ref (o + 7), .ref (o + 8), .ref (o + 16), .int 0, .int 0, .int 0, .int 0, .int 0, .int 0, .int 4194304] (o + 1) (cNewL o) n2 h1 h2) := by
  refine aw_enter (by decide) (Nat.le_of_ble_eq_true rfl) (n := 0) (ls := [some (.ref o)]) rfl (fun x => ?_)
  refine aw_aloadV_n d_L_init_0 rfl rfl (by first | exact Or.inl ⟨_, rfl⟩ | exact Or.inr rfl | exact rv_Q _) ?_
  refine aw_objInit ml_L_1 oi_2 oi_3 (by decide) (Nat.le_of_ble_eq_true rfl) d_L_init_1 ?_
  refine aw_aloadV_n d_L_init_4 rfl rfl (by first | exact Or.inl ⟨_, rfl⟩ | exact Or.inr rfl | exact rv_Q _) ?_
  refine aw_bipush (v := 32) d_L_init_5 (by decide) ?_
  refine aB_anew (N := 32) hB kl_L_9 ko_Unit (by decide) (by decide) (by decide) (show o + 1 + 0 + 1 ≤ G.1 + room_1.cells by omega) (by omega) d_L_init_7 (fun g7 hB7 => ?_)
  refine aB_putF hB7 cl_L fl_L_11_f (by decide) rfl rfl rfl (Nat.le_of_ble_eq_true rfl) rfl rfl d_L_init_10 (fun g10 hB10 => ?_)
  refine aw_aloadV_n d_L_init_13 rfl rfl (by first | exact Or.inl ⟨_, rfl⟩ | exact Or.inr rfl | exact rv_Q _) ?_
  refine aw_sipush (v := 2048) d_L_init_14 (by decide) ?_
  refine aB_anew (N := 2048) hB10 kl_L_15 ko_Name (by decide) (by decide) (by decide) (show o + 1 + 1 + 1 ≤ G.1 + room_1.cells by omega) (by omega) d_L_init_17 (fun g17 hB17 => ?_)
  refine aB_putF hB17 cl_L fl_L_17_f (by decide) rfl rfl rfl (Nat.le_of_ble_eq_true rfl) rfl rfl d_L_init_20 (fun g20 hB20 => ?_)
  refine aw_aloadV_n d_L_init_23 rfl rfl (by first | exact Or.inl ⟨_, rfl⟩ | exact Or.inr rfl | exact rv_Q _) ?_
  refine aw_sipush (v := 2048) d_L_init_24 (by decide) ?_
  refine aB_anew (N := 2048) hB20 kl_L_21 ko_Symbol (by decide) (by decide) (by decide) (show o + 1 + 2 + 1 ≤ G.1 + room_1.cells by omega) (by omega) d_L_init_27 (fun g27 hB27 => ?_)
  refine aB_putF hB27 cl_L fl_L_23_f (by decide) rfl rfl rfl (Nat.le_of_ble_eq_true rfl) rfl rfl d_L_init_30 (fun g30 hB30 => ?_)
  refine aw_aloadV_n d_L_init_33 rfl rfl (by first | exact Or.inl ⟨_, rfl⟩ | exact Or.inr rfl | exact rv_Q _) ?_
  refine aw_sipush (v := 4096) d_L_init_34 (by decide) ?_
  refine aB_anew (N := 4096) hB30 kl_L_27 ko_Wait (by decide) (by decide) (by decide) (show o + 1 + 3 + 1 ≤ G.1 + room_1.cells by omega) (by omega) d_L_init_37 (fun g37 hB37 => ?_)
  refine aB_putF hB37 cl_L fl_L_29_f (by decide) rfl rfl rfl (Nat.le_of_ble_eq_true rfl) rfl rfl d_L_init_40 (fun g40 hB40 => ?_)
  refine aw_aloadV_n d_L_init_43 rfl rfl (by first | exact Or.inl ⟨_, rfl⟩ | exact Or.inr rfl | exact rv_Q _) ?_
  refine aw_sipush (v := 8192) d_L_init_44 (by decide) ?_
  refine aB_anew (N := 8192) hB40 kl_L_33 ko_Start (by decide) (by decide) (by decide) (show o + 1 + 4 + 1 ≤ G.1 + room_1.cells by omega) (by omega) d_L_init_47 (fun g47 hB47 => ?_)
  refine aB_putF hB47 cl_L fl_L_35_f (by decide) rfl rfl rfl (Nat.le_of_ble_eq_true rfl) rfl rfl d_L_init_50 (fun g50 hB50 => ?_)
  refine aw_aloadV_n d_L_init_53 rfl rfl (by first | exact Or.inl ⟨_, rfl⟩ | exact Or.inr rfl | exact rv_Q _) ?_
  refine aw_ldc kc_L_39 d_L_init_54 ?_
  refine aB_newa (atype := .byte) (f := .inl (fun _ => 0)) (N := 262144) hB50 ka_byte rfl (fun _ => rfl) (by decide) (by decide) (by decide) (show o + 1 + 5 + 1 ≤ G.1 + room_1.cells by omega) (by omega) d_L_init_56 (by intro z q; cases q) (fun g56 hB56 => ?_)
  refine aB_putF hB56 cl_L fl_L_40_f (by decide) rfl rfl rfl (Nat.le_of_ble_eq_true rfl) rfl rfl d_L_init_58 (fun g58 hB58 => ?_)
  refine aw_aloadV_n d_L_init_61 rfl rfl (by first | exact Or.inl ⟨_, rfl⟩ | exact Or.inr rfl | exact rv_Q _) ?_
  refine aB_new hB58 cl_Fault kl_L_44 ni_Fault ii_Fault f0_Fault_d (show o + 1 + 6 + 1 ≤ G.1 + room_1.cells by omega) (by omega) d_L_init_62 (fun g62 hB62 => ?_)
  refine aw_dup d_L_init_65 rfl ?_
  refine aw_callI (c_Fault_init G _ (o + 1 + 6) (hB62.2.2.2.2.1 6 _ rfl)) m_Fault_init ml_L_46 rfl rfl (by decide) (by decide) (Nat.le_of_ble_eq_true rfl) d_L_init_66 ?_
  rintro v h' ⟨rfl, rfl⟩
  have hB66 := hB62.cell (i := 6) (.inr (1, [.int 0, .int 0, .int (-1)])) (by decide)
  refine aB_putF hB66 cl_L fl_L_47_f (by decide) rfl rfl rfl (Nat.le_of_ble_eq_true rfl) rfl rfl d_L_init_69 (fun g69 hB69 => ?_)
  refine aw_aloadV_n d_L_init_72 rfl rfl (by first | exact Or.inl ⟨_, rfl⟩ | exact Or.inr rfl | exact rv_Q _) ?_
  refine aB_new hB69 cl_Image kl_L_51 ni_Image ii_Image f0_Image_d (show o + 1 + 7 + 1 ≤ G.1 + room_1.cells by omega) (by omega) d_L_init_73 (fun g73 hB73 => ?_)
  refine aw_dup d_L_init_76 rfl ?_
  refine aw_callI (c_Image_init G _ (o + 1 + 7) (hB73.2.2.2.2.1 7 _ rfl) (by rw [hB73.2.1]; show o + 1 + 7 < o + 1 + 8; omega) (by rw [hB73.2.1]; show o + 1 + 8 + 7 ≤ _; omega) (by rw [hB73.2.2.1]; omega)) m_Image_init ml_L_53 rfl rfl (by decide) (by decide) (Nat.le_of_ble_eq_true rfl) d_L_init_77 ?_
  rintro v h' ⟨rfl, hI⟩
  have hB77 := hB73.sub hI
  have e1 := hB73.2.1
  have e2 := hB73.2.2.1
  rw [e1, e2] at hB77
  clear e1 e2 hI
  refine aB_putF hB77 cl_L fl_L_54_f (by decide) rfl rfl rfl (Nat.le_of_ble_eq_true rfl) rfl rfl d_L_init_80 (fun g80 hB80 => ?_)
  refine aw_aloadV_n d_L_init_83 rfl rfl (by first | exact Or.inl ⟨_, rfl⟩ | exact Or.inr rfl | exact rv_Q _) ?_
  refine aw_bipush (v := 7) d_L_init_84 (by decide) ?_
  refine aB_newa (atype := .int) (f := .inl (fun _ => 0)) (N := 7) hB80 ka_int rfl (fun _ => rfl) (by decide) (by decide) (by decide) (show o + 1 + 15 + 1 ≤ G.1 + room_1.cells by omega) (by omega) d_L_init_86 (by intro z q; cases q) (fun g86 hB86 => ?_)
  refine aB_putF hB86 cl_L fl_L_58_f (by decide) rfl rfl rfl (Nat.le_of_ble_eq_true rfl) rfl rfl d_L_init_88 (fun g88 hB88 => ?_)
  refine aw_aloadV_n d_L_init_91 rfl rfl (by first | exact Or.inl ⟨_, rfl⟩ | exact Or.inr rfl | exact rv_Q _) ?_
  refine aw_iconst (v := 0) d_L_init_92 (by decide) ?_
  refine aB_put hB88 cl_L fl_L_62 (by decide) rfl (Nat.le_of_ble_eq_true rfl) rfl rfl d_L_init_93 (fun g93 hB93 => ?_)
  refine aw_aloadV_n d_L_init_96 rfl rfl (by first | exact Or.inl ⟨_, rfl⟩ | exact Or.inr rfl | exact rv_Q _) ?_
  refine aw_iconst (v := 0) d_L_init_97 (by decide) ?_
  refine aB_put hB93 cl_L fl_L_66 (by decide) rfl (Nat.le_of_ble_eq_true rfl) rfl rfl d_L_init_98 (fun g98 hB98 => ?_)
  refine aw_aloadV_n d_L_init_101 rfl rfl (by first | exact Or.inl ⟨_, rfl⟩ | exact Or.inr rfl | exact rv_Q _) ?_
  refine aw_iconst (v := 0) d_L_init_102 (by decide) ?_
  refine aB_put hB98 cl_L fl_L_69 (by decide) rfl (Nat.le_of_ble_eq_true rfl) rfl rfl d_L_init_103 (fun g103 hB103 => ?_)
  refine aw_aloadV_n d_L_init_106 rfl rfl (by first | exact Or.inl ⟨_, rfl⟩ | exact Or.inr rfl | exact rv_Q _) ?_
  refine aw_iconst (v := 0) d_L_init_107 (by decide) ?_
  refine aB_put hB103 cl_L fl_L_72 (by decide) rfl (Nat.le_of_ble_eq_true rfl) rfl rfl d_L_init_108 (fun g108 hB108 => ?_)
  refine aw_aloadV_n d_L_init_111 rfl rfl (by first | exact Or.inl ⟨_, rfl⟩ | exact Or.inr rfl | exact rv_Q _) ?_
  refine aw_iconst (v := 0) d_L_init_112 (by decide) ?_
  refine aB_put hB108 cl_L fl_L_75 (by decide) rfl (Nat.le_of_ble_eq_true rfl) rfl rfl d_L_init_113 (fun g113 hB113 => ?_)
  refine aw_aloadV_n d_L_init_116 rfl rfl (by first | exact Or.inl ⟨_, rfl⟩ | exact Or.inr rfl | exact rv_Q _) ?_
  refine aw_iconst (v := 0) d_L_init_117 (by decide) ?_
  refine aB_put hB113 cl_L fl_L_78 (by decide) rfl (Nat.le_of_ble_eq_true rfl) rfl rfl d_L_init_118 (fun g118 hB118 => ?_)
  refine aw_aloadV_n d_L_init_121 rfl rfl (by first | exact Or.inl ⟨_, rfl⟩ | exact Or.inr rfl | exact rv_Q _) ?_
  refine aw_ldc kc_L_81 d_L_init_122 ?_
  refine aB_put hB118 cl_L fl_L_82 (by decide) rfl (Nat.le_of_ble_eq_true rfl) rfl rfl d_L_init_124 (fun g124 hB124 => ?_)
  refine aw_vret ?_ rfl d_L_init_127
  exact ⟨rfl, _, by simp only [Nat.add_assoc], hB124⟩
def cZero (o : Nat) : cSt := (va_up (va_up (fun _ => 0) 15 4194304) 52 (-1), fun _ _ => 0, fun _ _ => 0, fun _ _ => none, (fun _ _ => 0, va_up (fun _ => 0) 5 (o + 54)))
theorem cR.zero {o n : Nat} {h1 h2 h3 : ax_H} (hB : cB o 0 [.ref (o + 1), .ref (o + 2), .ref (o + 3), .ref (o + 4), .ref (o + 5), .ref (o + 6), .ref (o + 7), .ref (o + 8), .ref (o + 16), .int 0, .int 0, .int 0, .int 0, .int 0, .int 0, .int 4194304] (o + 1) (cNewL o) n h1 h2) (he : ∀ a, a < o + 17 → h3.2.2 a = h2.2.2 a) (h4 : o + 54 ≤ h3.1) : cR o (cZero o) h3 := by
  obtain ⟨b1, b2, b3, b4, b5, b6⟩ := hB
  have no : ∀ k i, cV (cZero o).2.2.2.2 k i → k < 17 ∧ i = 0 := by
    intro k i hv
    obtain ⟨v1, v2⟩ := hv
    match k, v1, v2 with
    | 0, _, v2 => exact ⟨by decide, Nat.lt_one_iff.mp v2⟩
    | 1, _, v2 => exact ⟨by decide, Nat.lt_one_iff.mp v2⟩
    | 2, _, v2 => exact ⟨by decide, Nat.lt_one_iff.mp v2⟩
    | 3, _, v2 => exact ⟨by decide, Nat.lt_one_iff.mp v2⟩
    | 4, _, v2 => exact ⟨by decide, Nat.lt_one_iff.mp v2⟩
    | 5, _, v2 => exact ⟨by decide, Nat.lt_one_iff.mp v2⟩
    | 6, _, v2 => exact ⟨by decide, Nat.lt_one_iff.mp v2⟩
    | 7, _, v2 => exact ⟨by decide, Nat.lt_one_iff.mp v2⟩
    | 8, _, v2 => exact ⟨by decide, Nat.lt_one_iff.mp v2⟩
    | 9, _, v2 => exact ⟨by decide, Nat.lt_one_iff.mp v2⟩
    | 10, _, v2 => exact ⟨by decide, Nat.lt_one_iff.mp v2⟩
    | 11, _, v2 => exact ⟨by decide, Nat.lt_one_iff.mp v2⟩
    | 12, _, v2 => exact ⟨by decide, Nat.lt_one_iff.mp v2⟩
    | 13, _, v2 => exact ⟨by decide, Nat.lt_one_iff.mp v2⟩
    | 14, _, v2 => exact ⟨by decide, Nat.lt_one_iff.mp v2⟩
    | 15, _, v2 => exact ⟨by decide, Nat.lt_one_iff.mp v2⟩
    | 16, _, v2 => exact ⟨by decide, Nat.lt_one_iff.mp v2⟩
    | 17, _, v2 => exact absurd v2 (Nat.not_lt_zero _)
    | 18, _, v2 => exact absurd v2 (Nat.not_lt_zero _)
    | 19, _, v2 => exact absurd v2 (Nat.not_lt_zero _)
    | 20, _, v2 => exact absurd v2 (Nat.not_lt_zero _)
    | 21, _, v2 => exact absurd v2 (Nat.not_lt_zero _)
    | 22, _, v2 => exact absurd v2 (Nat.not_lt_zero _)
    | 23, _, v2 => exact absurd v2 (Nat.not_lt_zero _)
    | k + 24, v1, _ => exact absurd v1 (by omega)
  have ad : ∀ k, k < 17 → cAd o (cZero o).2.2.2.2 k 0 = o + k := by
    intro k hk
    unfold cAd
    split <;> first | omega | rfl
  refine ⟨⟨?_, ?_, Nat.le_refl _, fun i q => absurd q (Nat.not_lt_zero _), fun i q => absurd q (Nat.not_lt_zero _), fun i q => absurd q (Nat.not_lt_zero _)⟩, h4, ?_⟩
  · intro k i k2 i2 v1 v2 q
    obtain ⟨p1, rfl⟩ := no k i v1
    obtain ⟨p2, rfl⟩ := no k2 i2 v2
    rw [ad k p1, ad k2 p2] at q
    exact ⟨by omega, rfl⟩
  · intro k i v1 q
    exact absurd (no k i v1).1 (by omega)
  · intro k i v1
    obtain ⟨p1, rfl⟩ := no k i v1
    rw [ad k p1, he _ (by omega)]
    match k, p1 with
    | 0, _ => exact b4
    | 1, _ => exact b5 0 _ rfl
    | 2, _ => exact b5 1 _ rfl
    | 3, _ => exact b5 2 _ rfl
    | 4, _ => exact b5 3 _ rfl
    | 5, _ => exact b5 4 _ rfl
    | 6, _ => exact b5 5 _ rfl
    | 7, _ => exact b5 6 _ rfl
    | 8, _ => exact b5 7 _ rfl
    | 9, _ => exact b5 8 _ rfl
    | 10, _ => exact b5 9 _ rfl
    | 11, _ => exact b5 10 _ rfl
    | 12, _ => exact b5 11 _ rfl
    | 13, _ => exact b5 12 _ rfl
    | 14, _ => exact b5 13 _ rfl
    | 15, _ => exact b5 14 _ rfl
    | 16, _ => exact b5 15 _ rfl
    | k + 17, p1 => exact absurd p1 (by omega)
theorem cR.ext {o : Nat} {c c2 : cSt} {h h2 : ax_H} (hR : cR o c h) (he : ∀ a, a < c.2.2.2.2.2 5 → h2.2.2 a = h.2.2 a) (ht : c.2.2.2.2.2 5 ≤ c2.2.2.2.2.2 5) (ht2 : c2.2.2.2.2.2 5 ≤ h2.1) (hc : ∀ k i, cV c2.2.2.2.2 k i → (cV c.2.2.2.2 k i ∧ cAd o c2.2.2.2.2 k i = cAd o c.2.2.2.2 k i ∧ cE o c2 k i = cE o c k i) ∨ (17 ≤ k ∧ c.2.2.2.2.2 5 ≤ cAd o c2.2.2.2.2 k i ∧ cAd o c2.2.2.2.2 k i < c2.2.2.2.2.2 5 ∧ h2.2.2 (cAd o c2.2.2.2.2 k i) = some (cE o c2 k i))) (hi : ∀ k i k2 i2, cV c2.2.2.2.2 k i → cV c2.2.2.2.2 k2 i2 → c.2.2.2.2.2 5 ≤ cAd o c2.2.2.2.2 k i → cAd o c2.2.2.2.2 k i = cAd o c2.2.2.2.2 k2 i2 → k = k2 ∧ i = i2) (hx : (∀ i, i < c2.2.2.2.2.2 2 → c2.2.2.2.2.1 5 i < c2.2.2.2.2.2 1) ∧ (∀ i, i < c2.2.2.2.2.2 3 → c2.2.2.2.2.1 6 i < 4 * c2.2.2.2.2.2 0) ∧ (∀ i, i < c2.2.2.2.2.2 4 → c2.2.2.2.2.1 7 i < 4 * c2.2.2.2.2.2 0)) : cR o c2 h2 := by
  have old : ∀ k i, cV c.2.2.2.2 k i → cAd o c.2.2.2.2 k i < c.2.2.2.2.2 5 := fun k i hv => Nat.lt_of_not_le (fun q => hR.out hv (Or.inr q) rfl)
  have h54 := hR.1.2.2.1
  refine ⟨⟨?_, ?_, Nat.le_trans h54 ht, hx⟩, ht2, ?_⟩
  · intro k i k2 i2 v1 v2 q
    rcases hc k i v1 with ⟨a1, a2, a3⟩ | ⟨a0, a1, a2, a3⟩
    · rcases hc k2 i2 v2 with ⟨b1, b2, b3⟩ | ⟨b0, b1, b2, b3⟩
      · rw [a2, b2] at q
        exact hR.1.1 k i k2 i2 a1 b1 q
      · have := hi k2 i2 k i v2 v1 b1 q.symm
        exact ⟨this.1.symm, this.2.symm⟩
    · exact hi k i k2 i2 v1 v2 a1 q
  · intro k i v1 q
    rcases hc k i v1 with ⟨a1, a2, a3⟩ | ⟨a0, a1, a2, a3⟩
    · have := hR.1.2.1 k i a1 q
      rw [a2]
      exact ⟨this.1, Nat.lt_of_lt_of_le this.2 ht⟩
    · exact ⟨Nat.le_trans h54 a1, a2⟩
  · intro k i v1
    rcases hc k i v1 with ⟨a1, a2, a3⟩ | ⟨a0, a1, a2, a3⟩
    · rw [a2, a3, he _ (old k i a1)]
      exact hR.2.2 k i a1
    · exact a3
