section AXH
variable {G : ax_G} {x : ax_X} {Y : ax_Y} {fr lo : Nat} {h0 h : ax_H} {P : Option Value → ax_H → Prop} {pc : Nat} {ls : List (Option Value)} {st : List Value}
/-- a class of the table: its fields, their types, its words -/
def ax_cl (ci : Nat) (C : String) (T : u_T) (N : Nat) (tys : Nat → FieldType) : Prop := classes[ci]? = some (C, T, N) ∧ (∀ w ∈ u_ws C T N, w ∈ lw_tbl) ∧ (∀ k, k < N → parseFieldDescriptor (T k).2.2.1 = some (tys k)) ∧ ∀ a, a < N → ∀ b, b < N → a ≠ b → (T a).2.1 ≠ (T b).2.1
/-- an instruction's field, by its pool number -/
def ax_fl (own : String) (idx : Nat) (T : u_T) (k : Nat) : Prop := (Cond.fieldLink own idx (T k).1 (T k).2.1 (T k).2.2.1 ∈ lw_tbl) ∨ (∃ host : String, Cond.fieldLinkNest own idx (T k).1 (T k).2.1 (T k).2.2.1 host ∈ lw_tbl) ∨ ∃ ref : String, Cond.fieldLink own idx ref (T k).2.1 (T k).2.2.1 ∈ lw_tbl ∧ Cond.sameField ref (T k).1 (T k).2.1 (T k).2.2.1 ∈ lw_tbl
theorem ax_good_lay (C : String) (T : u_T) (k : Nat) : goodWord (u_lay C T k) = true := by
  unfold u_lay
  split <;> first | rfl | simp [goodWord, Cond.onTables, Cond.keeps, Cond.steady]
theorem ax_uws {U : State} (hW : G.2.1.WarmedH U.vm) (hG : ax_G0 G) {C : String} {T : u_T} {N : Nat} (hin : ∀ w ∈ u_ws C T N, w ∈ lw_tbl) (a' : Array Value) : ∀ w ∈ u_ws C T N, w.before a' U = true := by
  intro w hw
  obtain ⟨k, -, rfl⟩ := List.mem_map.mp hw
  exact ax_word hW hG (hin _ hw) (ax_good_lay C T k) a'
theorem ax_gFL (a : String) (i : Nat) (b c d : String) : goodWord (.fieldLink a i b c d) = true := by first | rfl | simp [goodWord, Cond.onTables, Cond.keeps, Cond.steady]
theorem ax_gSF (a b c d : String) : goodWord (.sameField a b c d) = true := by first | rfl | simp [goodWord, Cond.onTables, Cond.keeps, Cond.steady]
theorem ax_gCL (a : String) (i : Nat) (b : String) : goodWord (.classLink a i b) = true := by first | rfl | simp [goodWord, Cond.onTables, Cond.keeps, Cond.steady]
theorem ax_gIN (a : String) (i : Nat) : goodWord (.instantiable a i) = true := by first | rfl | simp [goodWord, Cond.onTables, Cond.keeps, Cond.steady]
theorem ax_gII (a : String) : goodWord (.initialized a) = true := by first | rfl | simp [goodWord, Cond.onTables, Cond.keeps, Cond.steady]
theorem ax_gML (a : String) (i : Nat) (y : MethodName) : goodWord (.methodLink a i y) = true := by first | rfl | simp [goodWord, Cond.onTables, Cond.keeps, Cond.steady]
theorem ax_gIM (y : MethodName) : goodWord (.instanceMethod y) = true := by first | rfl | simp [goodWord, Cond.onTables, Cond.keeps, Cond.steady]
theorem ax_gST (y : MethodName) : goodWord (.static y) = true := by first | rfl | simp [goodWord, Cond.onTables, Cond.keeps, Cond.steady]
theorem ax_gSE (C : String) (y z : MethodName) : goodWord (.selects C y z) = true := by first | rfl | simp [goodWord, Cond.onTables, Cond.keeps, Cond.steady]
theorem ax_gCO (y : MethodName) (b : ByteArray) (n : Nat) (r : Option FieldType) : goodWord (.code y b n r) = true := by first | rfl | simp [goodWord, Cond.onTables, Cond.keeps, Cond.steady]
theorem ax_gK (a : String) (i : Nat) (v : Int32) : goodWord (.constant a i v) = true := by first | rfl | simp [goodWord, Cond.onTables, Cond.keeps, Cond.steady]
theorem ax_gKL (a : String) (i : Nat) (v : Int64) : goodWord (.constantLong a i v) = true := by first | rfl | simp [goodWord, Cond.onTables, Cond.keeps, Cond.steady]
theorem ax_nestF {U : State} (hW : G.2.1.WarmedH U.vm) (hG : ax_G0 G) {a : String} {i : Nat} {b c d e : String} (hw : Cond.fieldLinkNest a i b c d e ∈ lw_tbl) (a' : Array Value) : (Cond.fieldLinkNest a i b c d e).before a' U = true := va_Nw.use rfl (va_Nw.warmF hW (va_Nw.of rfl (hG.1 _ hw)))
theorem ax_nestM {U : State} (hW : G.2.1.WarmedH U.vm) (hG : ax_G0 G) {a : String} {i : Nat} {y : MethodName} {e : String} (hw : Cond.methodLinkNest a i y e ∈ lw_tbl) (a' : Array Value) : (Cond.methodLinkNest a i y e).before a' U = true := va_Nw.use rfl (va_Nw.warmM hW (va_Nw.of rfl (hG.1 _ hw)))
theorem ax_cst {U : State} (hW : G.2.1.WarmedH U.vm) (hG : ax_G0 G) {a b : String} (hw : Cond.castable a b ∈ lw_tbl) (a' : Array Value) : (Cond.castable a b).before a' U = true := va_Nw.use rfl (va_Nw.warmC hW (va_Nw.of rfl (hG.1 _ hw)))
theorem aw_get {ci : Nat} {C : String} {T : u_T} {N : Nat} {tys : Nat → FieldType} (c : ax_cl ci C T N tys) {idx q a : Nat} {fs : List Value} {v : Value} (f : ax_fl Y.1.cls idx T q) (hq : q < N) (ha : h.2.2 a = some (.inr (ci, fs))) (hv : fs[q]? = some v) (hd : decode Y.2.1 pc = .ok (.getfield idx, 3)) (k : AW G x Y fr lo h0 P h (pc + 3) ls (v :: st)) : AW G x Y fr lo h0 P h pc ls (.ref a :: st) := by
  intro C0 e1 e2 H locs lsr hP hL hl
  obtain ⟨c1, c2, c3, c4⟩ := c
  have hW := C0.2.2.2.2.1
  have hG := C0.2.2.2.2.2.1
  have hK := ax_kn hW hG
  have hts := ax_uws hW hG c2 x.2.2.2.2.1
  have hP1 : va_P G.2.2.1 classes [(a, .inr (ci, fs))] H := by
    intro j p hj
    have hz : j < 1 := (List.getElem?_eq_some_iff.mp hj).1
    rw [show j = 0 by omega] at hj
    cases hj
    exact (hP.at ha).2
  have kk := k C0 e1 e2 H locs lsr hP hL hl
  rcases f with f | ⟨host, f⟩ | ⟨ref, f1, f2⟩
  · exact va_get C0.1 C0.2.1 (Ts := u_ws C T N) hts (fun _ z => z) C0.2.2.2.1 hK hP1 0 rfl c1 q hq (ax_word hW hG f (ax_gFL _ _ _ _ _) _) (fun _ z => z) hv hd kk
  · exact va_getN C0.1 C0.2.1 (Ts := u_ws C T N) hts (fun _ z => z) C0.2.2.2.1 hK hP1 0 rfl c1 q hq (ax_nestF hW hG f _) (fun _ z => z) hv hd kk
  · exact va_get C0.1 C0.2.1 (Ts := u_ws C T N) hts (fun _ z => z) C0.2.2.2.1 hK hP1 0 rfl c1 q hq (ax_word hW hG f1 (ax_gFL _ _ _ _ _) _) (fun z hz => u_same (ax_word hW hG f2 (ax_gSF _ _ _ _) x.2.2.2.2.1) z hz) hv hd kk
theorem ax_locs {locs : List Loc} {b a i : Nat} (hL : ∀ q ∈ locs, b ≤ q.base) (ha : b ≤ a) : ∀ q ∈ locs ++ [(⟨a, i⟩ : Loc)], b ≤ q.base := by
  intro q hq
  rcases List.mem_append.mp hq with h | h
  · exact hL q h
  · rw [List.mem_singleton.mp h]
    exact ha
theorem aw_put {ci : Nat} {C : String} {T : u_T} {N : Nat} {tys : Nat → FieldType} (c : ax_cl ci C T N tys) {idx q a : Nat} {fs : List Value} {v : Value} (f : ax_fl Y.1.cls idx T q) (hq : q < N) (hfin : (T q).2.2.2 = false) (ha : h.2.2 a = some (.inr (ci, fs))) (hlen : q < fs.length) (hn : narrow (tys q) v = v) (hfit : fits (tys q) v = true) (hd : decode Y.2.1 pc = .ok (.putfield idx, 3)) (k : AW G x Y fr lo h0 P (ax_set h a (.inr (ci, fs.set q v))) (pc + 3) ls st) : AW G x Y fr lo h0 P h pc ls (v :: .ref a :: st) := by
  intro C0 e1 e2 H locs lsr hP hL hl
  obtain ⟨c1, c2, c3, c4⟩ := c
  have hW := C0.2.2.2.2.1
  have hG := C0.2.2.2.2.2.1
  have hK := ax_kn hW hG
  have hts := ax_uws hW hG c2 x.2.2.2.2.1
  have hap := va_apart (own := Y.1.cls) (Ts := u_ws C T N) hts (fun _ z => z) tys c3 c4 hK c1
  have hb := (hP.at ha).1
  obtain ⟨r, r1, cell, q1, q2, q3, q4⟩ := (hP.at ha).2
  have hr : r = (C, T, N) := Option.some.inj (r1.symm.trans c1)
  subst hr
  obtain ⟨hS, hfc, kC, hkC, hkind⟩ := hK.1 ci _ c1
  obtain ⟨cf, kf, fi, fd, hi, hsl⟩ := hS q hq
  have hlay := hts _ (u_in_lay hq)
  unfold u_lay at hlay
  rw [if_neg (by rw [hfin]; decide)] at hlay
  have hst := (u_facts hfc hkC (u_lays hts (fun _ z => z) hq) hi).1
  have h6 := u_store hfc hkC hkind hlay hi (c3 q hq) hn hfit
  have hsz : fd.slot < cell.slots.size := by
    rw [hsl]
    exact k2_hasslot (q4 q hq)
  have fin : ∀ H' : Heap, H'[a]? = some (cell.setSlot fd.slot v) → H'.size = H.size → (∀ q, q ≠ a → H'[q]? = H[q]?) → _ := fun H' g1 z oq =>
    k C0 e1 e2 H' (locs ++ [⟨a, fd.slot⟩]) lsr (hP.set ha q1 g1 (k2_slotsz _ _ _) z oq ⟨_, c1, t_OB.to (V := updV (vp_V fs) q v) ⟨_, g1, q2, q3, by rw [hsl]; exact t_set q4 hap hq v⟩ (fun j _ => vp_updV_set hlen v j)⟩) (ax_locs hL hb) hl
  rcases f with f | ⟨host, f⟩ | ⟨ref, f1, f2⟩
  · exact W.putK C0.1 C0.2.1 (f := fd) ⟨C0.2.2.2.1, ax_word hW hG f (ax_gFL _ _ _ _ _) _, ⟨_, _, _, hi⟩, hst⟩ (by rw [q2]; exact h6) q1 q3 hsz rfl rfl hd fin
  · exact va_WputK C0.1 C0.2.1 (f := fd) C0.2.2.2.1 (ax_nestF hW hG f _) hi hst (by rw [q2]; exact h6) q1 q3 hsz rfl rfl hd fin
  · exact W.putK C0.1 C0.2.1 (f := fd) ⟨C0.2.2.2.1, ax_word hW hG f1 (ax_gFL _ _ _ _ _) _, ⟨_, _, _, u_same (ax_word hW hG f2 (ax_gSF _ _ _ _) x.2.2.2.2.1) _ hi⟩, hst⟩ (by rw [q2]; exact h6) q1 q3 hsz rfl rfl hd fin
theorem aw_putF {ci : Nat} {C : String} {T : u_T} {N : Nat} {tys : Nat → FieldType} (c : ax_cl ci C T N tys) {idx q a : Nat} {fs : List Value} {v : Value} (f : Cond.fieldLink Y.1.cls idx (T q).1 (T q).2.1 (T q).2.2.1 ∈ lw_tbl) (hq : q < N) (hfin : (T q).2.2.2 = true) (hnm : Y.1.name = "<init>") (hdecl : (T q).1 = Y.1.cls) (ha : h.2.2 a = some (.inr (ci, fs))) (hlen : q < fs.length) (hn : narrow (tys q) v = v) (hfit : fits (tys q) v = true) (hd : decode Y.2.1 pc = .ok (.putfield idx, 3)) (k : AW G x Y fr lo h0 P (ax_set h a (.inr (ci, fs.set q v))) (pc + 3) ls st) : AW G x Y fr lo h0 P h pc ls (v :: .ref a :: st) := by
  intro C0 e1 e2 H locs lsr hP hL hl
  obtain ⟨c1, c2, c3, c4⟩ := c
  have hW := C0.2.2.2.2.1
  have hG := C0.2.2.2.2.2.1
  have hK := ax_kn hW hG
  have hown := C0.2.2.2.1
  have hts := ax_uws hW hG c2 x.2.2.2.2.1
  have hap := va_apart (own := Y.1.cls) (Ts := u_ws C T N) hts (fun _ z => z) tys c3 c4 hK c1
  have hb := (hP.at ha).1
  obtain ⟨r, r1, cell, q1, q2, q3, q4⟩ := (hP.at ha).2
  have hr : r = (C, T, N) := Option.some.inj (r1.symm.trans c1)
  subst hr
  obtain ⟨hS, hfc, kC, hkC, hkind⟩ := hK.1 ci _ c1
  obtain ⟨cf, kf, fi, fd, hi, hsl⟩ := hS q hq
  have hlay := hts _ (u_in_lay hq)
  unfold u_lay at hlay
  rw [if_pos hfin] at hlay
  have hst := (u_facts hfc hkC (u_lays hts (fun _ z => z) hq) hi).1
  have hcf : x.2.2.2.1.cls = cf := by
    obtain ⟨_, _, c', _, _, _, -, -, hf', -, -, -, hown2, -⟩ := Cond.laysFinal_spec hlay
    have g1 : c' = cf := by have := hi.symm.trans hf'; simp at this; exact this.1.symm
    rw [hdecl] at hown2
    rw [← g1]; exact Option.some.inj (hown.symm.trans hown2)
  have h6 := u_fits hfc hkC hkind (Or.inr hlay) hi (c3 q hq) hn hfit
  have hsz : fd.slot < cell.slots.size := by
    rw [hsl]
    exact k2_hasslot (q4 q hq)
  have fin : ∀ H' : Heap, H'[a]? = some (cell.setSlot fd.slot v) → H'.size = H.size → (∀ q, q ≠ a → H'[q]? = H[q]?) → _ := fun H' g1 z oq =>
    k C0 e1 e2 H' (locs ++ [⟨a, fd.slot⟩]) lsr (hP.set ha q1 g1 (k2_slotsz _ _ _) z oq ⟨_, c1, t_OB.to (V := updV (vp_V fs) q v) ⟨_, g1, q2, q3, by rw [hsl]; exact t_set q4 hap hq v⟩ (fun j _ => vp_updV_set hlen v j)⟩) (ax_locs hL hb) hl
  exact W.putFinK C0.1 C0.2.1 hown (ax_word hW hG f (ax_gFL _ _ _ _ _) _) hi hst hcf (C0.2.2.2.2.2.2.2.2.1.trans hnm) (by rw [q2]; exact h6) q1 q3 hsz rfl rfl hd fin
theorem aw_new {ci : Nat} {C : String} {T : u_T} {N : Nat} {tys : Nat → FieldType} (c : ax_cl ci C T N tys) {idx : Nat} {fs : List Value} (w1 : Cond.classLink Y.1.cls idx C ∈ lw_tbl) (w2 : Cond.instantiable C N ∈ lw_tbl) (w3 : Cond.initialized C ∈ lw_tbl) (hfs : ∀ j, j < N → defaultValue (tys j) = vp_V fs j) (hc : h.1 + 1 ≤ G.1 + room_1.cells) (hs : h.2.1 + N ≤ room_1.slots) (hd : decode Y.2.1 pc = .ok (.new idx, 3)) (k : AW G x Y fr lo h0 P (ax_new h (.inr (ci, fs)) N) (pc + 3) ls (.ref h.1 :: st)) : AW G x Y fr lo h0 P h pc ls st := by
  intro C0 e1 e2 H locs lsr hP hL hl
  obtain ⟨c1, c2, c3, c4⟩ := c
  have hW := C0.2.2.2.2.1
  have hG := C0.2.2.2.2.2.1
  have hK := ax_kn hW hG
  have hts := ax_uws hW hG c2 x.2.2.2.2.1
  have hKn := hK.1 ci _ c1
  have g0 : G.1 ≤ h0.1 := C0.2.2.2.2.2.2.2.2.2.2.1
  have g5 : h0.2.1 ≤ room_1.slots := C0.2.2.2.2.2.2.2.2.2.2.2.2.2.1
  refine W.newc C0.1 C0.2.1 C0.2.2.2.1 (ax_word hW hG w1 (ax_gCL _ _ _) _) (ax_word hW hG w2 (ax_gIN _ _) _) (ax_word hW hG w3 (ax_gII _) _) rfl hd ?_ ?_ (fun cC kC f1 f2 f3 f4 => ?_)
  · show h.1 - h0.1 + 1 ≤ room_1.cells - (h0.1 - G.1)
    omega
  · show h.2.1 - h0.2.1 + N ≤ room_1.slots - h0.2.1
    omega
  have hcC : cC = G.2.2.1.1 ci := Option.some.inj (f1.symm.trans hKn.2.1)
  subst hcC
  have z1 : (H.push ({ cls := G.2.2.1.1 ci, slots := kC.instanceTypes.map defaultValue, vm := .none } : Cell)).size = H.size + 1 := Array.size_push _
  have e3 : (H.push ({ cls := G.2.2.1.1 ci, slots := kC.instanceTypes.map defaultValue, vm := .none } : Cell))[H.size]? = some (blank (G.2.2.1.1 ci) kC) := Array.getElem?_push_size
  have o1 : ∀ q : Nat, q < H.size → (H.push ({ cls := G.2.2.1.1 ci, slots := kC.instanceTypes.map defaultValue, vm := .none } : Cell))[q]? = H[q]? := fun q hq => by rw [Array.getElem?_push, if_neg (Nat.ne_of_lt hq)]
  have hp1 : H.size = h.1 := hP.1
  have hP2 := hP.push (E := .inr (ci, fs)) (n := N) e3 (by simp [blank, f4]) z1 o1 hc hs ⟨_, c1, (u_born tys hts (fun _ z => z) hKn f2 e3 c3).to hfs⟩
  have kk := k C0 (by show h0.1 ≤ h.1 + 1; omega) (by show h0.2.1 ≤ h.2.1 + N; omega) _ locs lsr hP2 hL hl
  refine W.cs (cells' := h.1 + 1 - h0.1) (slots' := h.2.1 + N - h0.2.1) (by omega) (by omega) ?_
  rw [hp1]
  exact kk
theorem aw_newa {atype : ArrayType} {ty : FieldType} {n : Int32} {N : Nat} {f : ax_A} (w1 : Cond.arrayClass (newarray.typeOf atype) ∈ lw_tbl) (hty : newarray.typeOf atype = ty) (hf : ∀ j, ax_v f j = defaultValue ty) (hn : ¬ n < 0) (hN : n.toNatClampNeg = N) (hbytes : N * componentBytes ty ≤ 536870912) (hc : h.1 + 1 ≤ G.1 + room_1.cells) (hs : h.2.1 + N ≤ room_1.slots) (hd : decode Y.2.1 pc = .ok (.newarray atype, 2)) (hno : ∀ C : String, ty ≠ .object C) (k : AW G x Y fr lo h0 P (ax_new h (.inl (ty, N, f)) N) (pc + 2) ls (.ref h.1 :: st)) : AW G x Y fr lo h0 P h pc ls (.int n :: st) := by
  intro C0 e1 e2 H locs lsr hP hL hl
  subst hty
  subst hN
  have hW := C0.2.2.2.2.1
  have hG := C0.2.2.2.2.2.1
  have g0 : G.1 ≤ h0.1 := C0.2.2.2.2.2.2.2.2.2.2.1
  have g5 : h0.2.1 ≤ room_1.slots := C0.2.2.2.2.2.2.2.2.2.2.2.2.2.1
  have hp1 : H.size = h.1 := hP.1
  refine W.newa C0.1 C0.2.1 (ax_word hW hG w1 rfl _) rfl hd rfl hn hbytes ?_ ?_ (fun cA kA comp f1 f2 f3 => ?_)
  · show h.1 - h0.1 + 1 ≤ room_1.cells - (h0.1 - G.1)
    omega
  · show h.2.1 - h0.2.1 + n.toNatClampNeg ≤ room_1.slots - h0.2.1
    omega
  rw [arrV_new]
  have hfe : (fun _ => defaultValue (newarray.typeOf atype)) = ax_v f := by
    funext j
    exact (hf j).symm
  rw [hfe]
  have z1 : (H.push (arrV cA n.toNatClampNeg (ax_v f))).size = H.size + 1 := Array.size_push _
  have e3 : (H.push (arrV cA n.toNatClampNeg (ax_v f)))[H.size]? = some (arrV cA n.toNatClampNeg (ax_v f)) := Array.getElem?_push_size
  have o1 : ∀ q : Nat, q < H.size → (H.push (arrV cA n.toNatClampNeg (ax_v f)))[q]? = H[q]? := fun q hq => by rw [Array.getElem?_push, if_neg (Nat.ne_of_lt hq)]
  have hak : ax_AK x.2.2.1 cA (newarray.typeOf atype) := ⟨kA, comp, f2, f3, fun C hC => absurd hC (hno C)⟩
  have hP2 := hP.push (E := .inl (newarray.typeOf atype, n.toNatClampNeg, f)) (n := n.toNatClampNeg) e3 (arrV_size _ _ _) z1 o1 hc hs ⟨cA, e3, hak.moved hW.alike.symm⟩
  have kk := k C0 (by show h0.1 ≤ h.1 + 1; omega) (by show h0.2.1 ≤ h.2.1 + n.toNatClampNeg; omega) _ locs lsr hP2 hL hl
  refine W.cs (cells' := h.1 + 1 - h0.1) (slots' := h.2.1 + n.toNatClampNeg - h0.2.1) (by omega) (by omega) ?_
  rw [hp1]
  exact kk
theorem aw_anew {C : String} {idx : Nat} {n : Int32} {N : Nat} (w1 : Cond.classLink Y.1.cls idx C ∈ lw_tbl) (w2 : Cond.arrayOver (.object C) ∈ lw_tbl) (hn : ¬ n < 0) (hN : n.toNatClampNeg = N) (hbytes : N * 4 ≤ 536870912) (hc : h.1 + 1 ≤ G.1 + room_1.cells) (hs : h.2.1 + N ≤ room_1.slots) (hd : decode Y.2.1 pc = .ok (.anewarray idx, 3)) (k : AW G x Y fr lo h0 P (ax_new h (.inl (.object C, N, .inr (.inr (.inr (.inr (fun _ => none)))))) N) (pc + 3) ls (.ref h.1 :: st)) : AW G x Y fr lo h0 P h pc ls (.int n :: st) := by
  intro C0 e1 e2 H locs lsr hP hL hl
  subst hN
  have hW := C0.2.2.2.2.1
  have hG := C0.2.2.2.2.2.1
  have g0 : G.1 ≤ h0.1 := C0.2.2.2.2.2.2.2.2.2.2.1
  have g5 : h0.2.1 ≤ room_1.slots := C0.2.2.2.2.2.2.2.2.2.2.2.2.2.1
  have hp1 : H.size = h.1 := hP.1
  have w2' : (Cond.arrayOver (.object C)).before x.2.2.2.2.1 x.2.2.1 = true := va_AO.use (va_AO.moved hW.alike (va_AO.of (hG.1 _ w2)))
  refine W.anew C0.1 C0.2.1 C0.2.2.2.1 (ax_word hW hG w1 (ax_gCL _ _ _) _) w2' rfl hd rfl hn hbytes ?_ ?_ (fun cA kA comp f1 f2 f3 f4 => ?_)
  · show h.1 - h0.1 + 1 ≤ room_1.cells - (h0.1 - G.1)
    omega
  · show h.2.1 - h0.2.1 + n.toNatClampNeg ≤ room_1.slots - h0.2.1
    omega
  rw [arrV_new]
  have hfe : (fun _ => Value.null) = ax_v (.inr (.inr (.inr (.inr (fun _ => none))))) := rfl
  rw [hfe]
  have z1 : (H.push (arrV cA n.toNatClampNeg (ax_v (.inr (.inr (.inr (.inr (fun _ => none)))))))).size = H.size + 1 := Array.size_push _
  have e3 : (H.push (arrV cA n.toNatClampNeg (ax_v (.inr (.inr (.inr (.inr (fun _ => none))))))))[H.size]? = some (arrV cA n.toNatClampNeg (ax_v (.inr (.inr (.inr (.inr (fun _ => none))))))) := Array.getElem?_push_size
  have o1 : ∀ q : Nat, q < H.size → (H.push (arrV cA n.toNatClampNeg (ax_v (.inr (.inr (.inr (.inr (fun _ => none))))))))[q]? = H[q]? := fun q hq => by rw [Array.getElem?_push, if_neg (Nat.ne_of_lt hq)]
  have hak : ax_AK x.2.2.1 cA (.object C) := ⟨kA, comp, f2, f3, fun D hD => by cases hD; exact f4⟩
  have hP2 := hP.push (E := .inl (.object C, n.toNatClampNeg, .inr (.inr (.inr (.inr (fun _ => none)))))) (n := n.toNatClampNeg) e3 (arrV_size _ _ _) z1 o1 hc hs ⟨cA, e3, hak.moved hW.alike.symm⟩
  have kk := k C0 (by show h0.1 ≤ h.1 + 1; omega) (by show h0.2.1 ≤ h.2.1 + n.toNatClampNeg; omega) _ locs lsr hP2 hL hl
  refine W.cs (cells' := h.1 + 1 - h0.1) (slots' := h.2.1 + n.toNatClampNeg - h0.2.1) (by omega) (by omega) ?_
  rw [hp1]
  exact kk
theorem aw_alen {a : Nat} {ty : FieldType} {n : Nat} {f : ax_A} {v : Int32} (ha : h.2.2 a = some (.inl (ty, n, f))) (hv : Int32.ofNat n = v) (hd : decode Y.2.1 pc = .ok (.arraylength, 1)) (k : AW G x Y fr lo h0 P h (pc + 1) ls (.int v :: st)) : AW G x Y fr lo h0 P h pc ls (.ref a :: st) := by
  intro C0 e1 e2 H locs lsr hP hL hl
  obtain ⟨cA, r1, r2⟩ := (hP.at ha).2
  exact W.alen C0.1 C0.2.1 r1 ((r2.moved C0.2.2.2.2.1.alike).arr _ _) (by rw [arrV_size]; exact hv) rfl rfl hd (k C0 e1 e2 H locs lsr hP hL hl)
theorem aw_iald {a n : Nat} {f : Nat → Int32} {i : Int32} (ha : h.2.2 a = some (.inl (.int, n, .inl f))) (hin : vp_in i n) (hd : decode Y.2.1 pc = .ok (.iaload, 1)) (k : AW G x Y fr lo h0 P h (pc + 1) ls (.int (f i.toNatClampNeg) :: st)) : AW G x Y fr lo h0 P h pc ls (.int i :: .ref a :: st) := by
  intro C0 e1 e2 H locs lsr hP hL hl
  obtain ⟨cA, r1, r2⟩ := (hP.at ha).2
  have hlt : i.toNatClampNeg < n := Nat.not_le.mp fun q => hin (Or.inr q)
  exact W.iald (v := .int (f i.toNatClampNeg)) C0.1 C0.2.1 r1 ((r2.moved C0.2.2.2.2.1.alike).arr _ _) (fun q => by cases q) (by rw [arrV_size]; exact hin) (by rw [arrV_read _ _ hlt]; rfl) rfl rfl hd (k C0 e1 e2 H locs lsr hP hL hl)
theorem aw_bald {a n : Nat} {f : Nat → Int32} {i : Int32} (ha : h.2.2 a = some (.inl (.byte, n, .inl f))) (hin : vp_in i n) (hd : decode Y.2.1 pc = .ok (.baload, 1)) (k : AW G x Y fr lo h0 P h (pc + 1) ls (.int (f i.toNatClampNeg) :: st)) : AW G x Y fr lo h0 P h pc ls (.int i :: .ref a :: st) := by
  intro C0 e1 e2 H locs lsr hP hL hl
  obtain ⟨cA, r1, r2⟩ := (hP.at ha).2
  have hlt : i.toNatClampNeg < n := Nat.not_le.mp fun q => hin (Or.inr q)
  exact W.bald (v := .int (f i.toNatClampNeg)) C0.1 C0.2.1 r1 ((r2.moved C0.2.2.2.2.1.alike).arr _ _) (fun q => by cases q) (by rw [arrV_size]; exact hin) (by rw [arrV_read _ _ hlt]; rfl) rfl rfl hd (k C0 e1 e2 H locs lsr hP hL hl)
theorem aw_zald {a n : Nat} {f : Nat → Int32} {i : Int32} (ha : h.2.2 a = some (.inl (.boolean, n, .inl f))) (hin : vp_in i n) (hd : decode Y.2.1 pc = .ok (.baload, 1)) (k : AW G x Y fr lo h0 P h (pc + 1) ls (.int (f i.toNatClampNeg) :: st)) : AW G x Y fr lo h0 P h pc ls (.int i :: .ref a :: st) := by
  intro C0 e1 e2 H locs lsr hP hL hl
  obtain ⟨cA, r1, r2⟩ := (hP.at ha).2
  have hlt : i.toNatClampNeg < n := Nat.not_le.mp fun q => hin (Or.inr q)
  exact W.zald (v := .int (f i.toNatClampNeg)) C0.1 C0.2.1 r1 ((r2.moved C0.2.2.2.2.1.alike).arr _ _) (fun q => by cases q) (by rw [arrV_size]; exact hin) (by rw [arrV_read _ _ hlt]; rfl) rfl rfl hd (k C0 e1 e2 H locs lsr hP hL hl)
theorem aw_lald {a n : Nat} {f : Nat → Int64} {i : Int32} (ha : h.2.2 a = some (.inl (.long, n, .inr (.inl f)))) (hin : vp_in i n) (hd : decode Y.2.1 pc = .ok (.laload, 1)) (k : AW G x Y fr lo h0 P h (pc + 1) ls (.long (f i.toNatClampNeg) :: st)) : AW G x Y fr lo h0 P h pc ls (.int i :: .ref a :: st) := by
  intro C0 e1 e2 H locs lsr hP hL hl
  obtain ⟨cA, r1, r2⟩ := (hP.at ha).2
  have hlt : i.toNatClampNeg < n := Nat.not_le.mp fun q => hin (Or.inr q)
  exact W.lald (v := .long (f i.toNatClampNeg)) C0.1 C0.2.1 r1 ((r2.moved C0.2.2.2.2.1.alike).arr _ _) (fun q => by cases q) (by rw [arrV_size]; exact hin) (by rw [arrV_read _ _ hlt]; rfl) rfl rfl hd (k C0 e1 e2 H locs lsr hP hL hl)
theorem aw_aald {C : String} {a n : Nat} {f : Nat → Option Nat} {i : Int32} (ha : h.2.2 a = some (.inl (.object C, n, .inr (.inr (.inr (.inr f)))))) (hin : vp_in i n) (hd : decode Y.2.1 pc = .ok (.aaload, 1)) (k : AW G x Y fr lo h0 P h (pc + 1) ls (va_rf (f i.toNatClampNeg) :: st)) : AW G x Y fr lo h0 P h pc ls (.int i :: .ref a :: st) := by
  intro C0 e1 e2 H locs lsr hP hL hl
  obtain ⟨cA, r1, r2⟩ := (hP.at ha).2
  have hlt : i.toNatClampNeg < n := Nat.not_le.mp fun q => hin (Or.inr q)
  exact W.aald (v := va_rf (f i.toNatClampNeg)) (ty := .object C) C0.1 C0.2.1 r1 ((r2.moved C0.2.2.2.2.1.alike).arr _ _) rfl (fun q => by cases q) (by rw [arrV_size]; exact hin) (by rw [arrV_read _ _ hlt]; rfl) rfl rfl hd (k C0 e1 e2 H locs lsr hP hL hl)
theorem ax_updV {f g : Nat → Value} {i : Nat} {v : Value} (hs : g i = v) (ho : ∀ j, j ≠ i → g j = f j) : updV f i v = g := by
  funext j
  by_cases hj : j = i
  · subst hj
    simp [updV, hs]
  · simp [updV, hj, ho j hj]
theorem aw_iast {a n : Nat} {f : Nat → Int32} {i : Int32} {z : Int32} (ha : h.2.2 a = some (.inl (.int, n, .inl f))) (hin : vp_in i n) (hd : decode Y.2.1 pc = .ok (.iastore, 1)) (k : AW G x Y fr lo h0 P (ax_set h a (.inl (.int, n, .inl (va_up f i.toNatClampNeg z)))) (pc + 1) ls st) : AW G x Y fr lo h0 P h pc ls (.int z :: .int i :: .ref a :: st) := by
  intro C0 e1 e2 H locs lsr hP hL hl
  obtain ⟨hb, cA, r1, r2⟩ := hP.at ha
  refine W.iast C0.1 C0.2.1 r1 ((r2.moved C0.2.2.2.2.1.alike).arr _ _) (fun q => by cases q) (by rw [arrV_size]; exact hin) rfl rfl hd (fun H' g1 z1 oq => ?_)
  rw [arrV_store] at g1
  have hu : updV (ax_v (.inl f)) i.toNatClampNeg (.int z) = ax_v (.inl (va_up f i.toNatClampNeg z)) := ax_updV (by simp [ax_v, va_up]) (fun j hj => by simp [ax_v, va_up, hj])
  have g1 : H'[a]? = some (arrV cA n (updV (ax_v (.inl f)) i.toNatClampNeg (.int z))) := g1
  rw [hu] at g1
  exact k C0 e1 e2 H' _ lsr (hP.set ha r1 g1 (by rw [arrV_size, arrV_size]) z1 oq ⟨cA, g1, r2⟩) (ax_locs hL hb) hl
theorem aw_bast {a n : Nat} {f : Nat → Int32} {i : Int32} {z : Int32} (ha : h.2.2 a = some (.inl (.byte, n, .inl f))) (hin : vp_in i n) (hd : decode Y.2.1 pc = .ok (.bastore, 1)) (k : AW G x Y fr lo h0 P (ax_set h a (.inl (.byte, n, .inl (va_up f i.toNatClampNeg z.toInt8.toInt32)))) (pc + 1) ls st) : AW G x Y fr lo h0 P h pc ls (.int z :: .int i :: .ref a :: st) := by
  intro C0 e1 e2 H locs lsr hP hL hl
  obtain ⟨hb, cA, r1, r2⟩ := hP.at ha
  refine W.bast C0.1 C0.2.1 r1 ((r2.moved C0.2.2.2.2.1.alike).arr _ _) (fun q => by cases q) (by rw [arrV_size]; exact hin) rfl rfl hd (fun H' g1 z1 oq => ?_)
  rw [arrV_store] at g1
  have hu : updV (ax_v (.inl f)) i.toNatClampNeg (.int z.toInt8.toInt32) = ax_v (.inl (va_up f i.toNatClampNeg z.toInt8.toInt32)) := ax_updV (by simp [ax_v, va_up]) (fun j hj => by simp [ax_v, va_up, hj])
  have g1 : H'[a]? = some (arrV cA n (updV (ax_v (.inl f)) i.toNatClampNeg (.int z.toInt8.toInt32))) := g1
  rw [hu] at g1
  exact k C0 e1 e2 H' _ lsr (hP.set ha r1 g1 (by rw [arrV_size, arrV_size]) z1 oq ⟨cA, g1, r2⟩) (ax_locs hL hb) hl
theorem aw_zast {a n : Nat} {f : Nat → Int32} {i : Int32} {z : Int32} (ha : h.2.2 a = some (.inl (.boolean, n, .inl f))) (hin : vp_in i n) (hd : decode Y.2.1 pc = .ok (.bastore, 1)) (k : AW G x Y fr lo h0 P (ax_set h a (.inl (.boolean, n, .inl (va_up f i.toNatClampNeg (z &&& 1))))) (pc + 1) ls st) : AW G x Y fr lo h0 P h pc ls (.int z :: .int i :: .ref a :: st) := by
  intro C0 e1 e2 H locs lsr hP hL hl
  obtain ⟨hb, cA, r1, r2⟩ := hP.at ha
  refine W.zast C0.1 C0.2.1 r1 ((r2.moved C0.2.2.2.2.1.alike).arr _ _) (fun q => by cases q) (by rw [arrV_size]; exact hin) rfl rfl hd (fun H' g1 z1 oq => ?_)
  rw [arrV_store] at g1
  have hu : updV (ax_v (.inl f)) i.toNatClampNeg (.int (z &&& 1)) = ax_v (.inl (va_up f i.toNatClampNeg (z &&& 1))) := ax_updV (by simp [ax_v, va_up]) (fun j hj => by simp [ax_v, va_up, hj])
  have g1 : H'[a]? = some (arrV cA n (updV (ax_v (.inl f)) i.toNatClampNeg (.int (z &&& 1)))) := g1
  rw [hu] at g1
  exact k C0 e1 e2 H' _ lsr (hP.set ha r1 g1 (by rw [arrV_size, arrV_size]) z1 oq ⟨cA, g1, r2⟩) (ax_locs hL hb) hl
theorem aw_last {a n : Nat} {f : Nat → Int64} {i : Int32} {z : Int64} (ha : h.2.2 a = some (.inl (.long, n, .inr (.inl f)))) (hin : vp_in i n) (hd : decode Y.2.1 pc = .ok (.lastore, 1)) (k : AW G x Y fr lo h0 P (ax_set h a (.inl (.long, n, .inr (.inl (va_up f i.toNatClampNeg z))))) (pc + 1) ls st) : AW G x Y fr lo h0 P h pc ls (.long z :: .int i :: .ref a :: st) := by
  intro C0 e1 e2 H locs lsr hP hL hl
  obtain ⟨hb, cA, r1, r2⟩ := hP.at ha
  refine W.last C0.1 C0.2.1 r1 ((r2.moved C0.2.2.2.2.1.alike).arr _ _) (fun q => by cases q) (by rw [arrV_size]; exact hin) rfl rfl hd (fun H' g1 z1 oq => ?_)
  rw [arrV_store] at g1
  have hu : updV (ax_v (.inr (.inl f))) i.toNatClampNeg (.long z) = ax_v (.inr (.inl (va_up f i.toNatClampNeg z))) := ax_updV (by simp [ax_v, va_up]) (fun j hj => by simp [ax_v, va_up, hj])
  have g1 : H'[a]? = some (arrV cA n (updV (ax_v (.inr (.inl f))) i.toNatClampNeg (.long z))) := g1
  rw [hu] at g1
  exact k C0 e1 e2 H' _ lsr (hP.set ha r1 g1 (by rw [arrV_size, arrV_size]) z1 oq ⟨cA, g1, r2⟩) (ax_locs hL hb) hl
/-- an object of the table's class ci goes into a row of E -/
theorem aw_aast {E C : String} {T : u_T} {N ci : Nat} {tys : Nat → FieldType} (c : ax_cl ci C T N tys) (hca : C = E ∨ Cond.castable C E ∈ lw_tbl) {a n b : Nat} {fs : List Value} {f : Nat → Option Nat} {i : Int32} (ha : h.2.2 a = some (.inl (.object E, n, .inr (.inr (.inr (.inr f)))))) (hbv : h.2.2 b = some (.inr (ci, fs))) (hin : vp_in i n) (hd : decode Y.2.1 pc = .ok (.aastore, 1)) (k : AW G x Y fr lo h0 P (ax_set h a (.inl (.object E, n, .inr (.inr (.inr (.inr (va_up f i.toNatClampNeg (some b)))))))) (pc + 1) ls st) : AW G x Y fr lo h0 P h pc ls (.ref b :: .int i :: .ref a :: st) := by
  intro C0 e1 e2 H locs lsr hP hL hl
  obtain ⟨c1, c2, c3, c4⟩ := c
  have hW := C0.2.2.2.2.1
  have hG := C0.2.2.2.2.2.1
  have hK := ax_kn hW hG
  obtain ⟨hb, cA, r1, r2⟩ := hP.at ha
  have hlt : i.toNatClampNeg < n := Nat.not_le.mp fun q => hin (Or.inr q)
  have hi0 : ¬ i < 0 := fun q => hin (Or.inl q)
  obtain ⟨kA, comp, k1, k2, k3⟩ := r2.moved hW.alike
  have k3 := k3 E rfl
  obtain ⟨r, s1, cellV, s2, s3, s4, -⟩ := (hP.at hbv).2
  have hr : r = (C, T, N) := Option.some.inj (s1.symm.trans c1)
  subst hr
  have hcls := (hK.1 ci _ c1).2
  obtain ⟨kC, hkC, -⟩ := hcls.2
  obtain ⟨kE, hkE, -⟩ := Vm.findClass_spec k3
  have hasg : x.2.2.1.vm.assignable (G.2.2.1.1 ci) comp = true := by
    rcases hca with hca | hca
    · subst hca
      have hcomp : comp = G.2.2.1.1 ci := Option.some.inj (k3.symm.trans hcls.1)
      rw [hcomp]
      exact va_assign hcls
    · obtain ⟨c0, t1, f1, f2, f3⟩ := Cond.castable_spec (ax_cst hW hG hca x.2.2.2.2.1)
      cases hcls.1.symm.trans f1
      cases k3.symm.trans f2
      exact f3
  refine W.aast C0.1 C0.2.1 r1 (fun q z => by cases z) (fun z => by cases z) k1 k2 rfl hkE ⟨hi0, by rw [arrV_size]; exact hlt⟩ s2 (fun q z => by rw [s4] at z; cases z) (by rw [s3]; exact hkC) (by rw [s3]; exact hasg) rfl rfl hd (fun H' g1 z1 oq => ?_)
  rw [arrV_store] at g1
  have hu : updV (ax_v (.inr (.inr (.inr (.inr f))))) i.toNatClampNeg (.ref b) = ax_v (.inr (.inr (.inr (.inr (va_up f i.toNatClampNeg (some b)))))) := ax_updV (by simp [ax_v, va_up, va_rf]) (fun j hj => by simp [ax_v, va_up, hj])
  have g1 : H'[a]? = some (arrV cA n (updV (ax_v (.inr (.inr (.inr (.inr f))))) i.toNatClampNeg (.ref b))) := g1
  rw [hu] at g1
  exact k C0 e1 e2 H' _ lsr (hP.set ha r1 g1 (by rw [arrV_size, arrV_size]) z1 oq ⟨cA, g1, r2⟩) (ax_locs hL hb) hl
theorem aw_aastN {E : String} {a n : Nat} {f : Nat → Option Nat} {i : Int32} (ha : h.2.2 a = some (.inl (.object E, n, .inr (.inr (.inr (.inr f)))))) (hin : vp_in i n) (hd : decode Y.2.1 pc = .ok (.aastore, 1)) (k : AW G x Y fr lo h0 P (ax_set h a (.inl (.object E, n, .inr (.inr (.inr (.inr (va_up f i.toNatClampNeg none))))))) (pc + 1) ls st) : AW G x Y fr lo h0 P h pc ls (.null :: .int i :: .ref a :: st) := by
  intro C0 e1 e2 H locs lsr hP hL hl
  obtain ⟨hb, cA, r1, r2⟩ := hP.at ha
  refine va_WaastN (C := E) C0.1 C0.2.1 r1 ((r2.moved C0.2.2.2.2.1.alike).arr _ _) (fun q => by cases q) (by rw [arrV_size]; exact hin) rfl rfl hd (fun H' g1 z1 oq => ?_)
  rw [arrV_store] at g1
  have hu : updV (ax_v (.inr (.inr (.inr (.inr f))))) i.toNatClampNeg .null = ax_v (.inr (.inr (.inr (.inr (va_up f i.toNatClampNeg none))))) := ax_updV (by simp [ax_v, va_up, va_rf]) (fun j hj => by simp [ax_v, va_up, hj])
  have g1 : H'[a]? = some (arrV cA n (updV (ax_v (.inr (.inr (.inr (.inr f))))) i.toNatClampNeg .null)) := g1
  rw [hu] at g1
  exact k C0 e1 e2 H' _ lsr (hP.set ha r1 g1 (by rw [arrV_size, arrV_size]) z1 oq ⟨cA, g1, r2⟩) (ax_locs hL hb) hl
theorem ax_recv {s : State} {H : Heap} {ci a : Nat} {C : String} {T : u_T} {N : Nat} {tys : Nat → FieldType} {fs : List Value} (c : ax_cl ci C T N tys) (hW : G.2.1.WarmedH s.vm) (hG : ax_G0 G) (hP : ax_P G h H) (ha : h.2.2 a = some (.inr (ci, fs))) : ∃ cell : Cell, H[a]? = some cell ∧ cell.vm.isStatics = false ∧ s.vm.findClass C = some cell.cls := by
  obtain ⟨r, s1, cellV, s2, s3, s4, -⟩ := (hP.at ha).2
  have hr : r = (C, T, N) := Option.some.inj (s1.symm.trans c.1)
  subst hr
  exact ⟨cellV, s2, by rw [s4]; rfl, by rw [s3]; exact ((ax_kn hW hG).1 ci _ c.1).2.1⟩
/-- a cast of an object of the table's class ci to its own class, or to one that it is -/
theorem aw_cast {E C : String} {T : u_T} {N ci : Nat} {tys : Nat → FieldType} (c : ax_cl ci C T N tys) {idx a : Nat} {fs : List Value} (w1 : Cond.classLink Y.1.cls idx E ∈ lw_tbl) (hca : C = E ∨ Cond.castable C E ∈ lw_tbl) (ha : h.2.2 a = some (.inr (ci, fs))) (hd : decode Y.2.1 pc = .ok (.checkcast idx, 3)) (k : AW G x Y fr lo h0 P h (pc + 3) ls (.ref a :: st)) : AW G x Y fr lo h0 P h pc ls (.ref a :: st) := by
  intro C0 e1 e2 H locs lsr hP hL hl
  have hW := C0.2.2.2.2.1
  have hG := C0.2.2.2.2.2.1
  have hr := ax_recv c hW hG hP ha
  have kk := k C0 e1 e2 H locs lsr hP hL hl
  rcases hca with hca | hca
  · subst hca
    exact va_castS C0.1 C0.2.1 C0.2.2.2.1 (ax_word hW hG w1 (ax_gCL _ _ _) _) ((ax_kn hW hG).1 ci _ c.1).2 hr hd kk
  · exact va_castY C0.1 C0.2.1 C0.2.2.2.1 (ax_word hW hG w1 (ax_gCL _ _ _) _) (va_Nw.of rfl (ax_cst hW hG hca #[])) hr hd kk
theorem aw_castN {idx : Nat} (hd : decode Y.2.1 pc = .ok (.checkcast idx, 3)) (k : AW G x Y fr lo h0 P h (pc + 3) ls (.null :: st)) : AW G x Y fr lo h0 P h pc ls (.null :: st) := fun C0 e1 e2 H locs lsr hP hL hl => lv_castN C0.1 C0.2.1 hd (k C0 e1 e2 H locs lsr hP hL hl)
theorem aw_ldc {idx : Nat} {v : Int32} (w1 : Cond.constant Y.1.cls idx v ∈ lw_tbl) (hd : decode Y.2.1 pc = .ok (.ldc idx, 2)) (k : AW G x Y fr lo h0 P h (pc + 2) ls (.int v :: st)) : AW G x Y fr lo h0 P h pc ls st := fun C0 e1 e2 H locs lsr hP hL hl => lv_ldc C0.1 C0.2.1 C0.2.2.2.1 (ax_word C0.2.2.2.2.1 C0.2.2.2.2.2.1 w1 (ax_gK _ _ _) _) hd (k C0 e1 e2 H locs lsr hP hL hl)
theorem aw_ldcw {idx : Nat} {v : Int32} (w1 : Cond.constant Y.1.cls idx v ∈ lw_tbl) (hd : decode Y.2.1 pc = .ok (.ldc_w idx, 3)) (k : AW G x Y fr lo h0 P h (pc + 3) ls (.int v :: st)) : AW G x Y fr lo h0 P h pc ls st := fun C0 e1 e2 H locs lsr hP hL hl => lv_ldcw C0.1 C0.2.1 C0.2.2.2.1 (ax_word C0.2.2.2.2.1 C0.2.2.2.2.2.1 w1 (ax_gK _ _ _) _) hd (k C0 e1 e2 H locs lsr hP hL hl)
theorem aw_ldc2 {idx : Nat} {v : Int64} (w1 : Cond.constantLong Y.1.cls idx v ∈ lw_tbl) (hd : decode Y.2.1 pc = .ok (.ldc2_w idx, 3)) (k : AW G x Y fr lo h0 P h (pc + 3) ls (.long v :: st)) : AW G x Y fr lo h0 P h pc ls st := fun C0 e1 e2 H locs lsr hP hL hl => lv_ldc2 C0.1 C0.2.1 C0.2.2.2.1 (ax_word C0.2.2.2.2.1 C0.2.2.2.2.2.1 w1 (ax_gKL _ _ _) _) hd (k C0 e1 e2 H locs lsr hP hL hl)
theorem ax_end {v : Option Value} {H : Heap} {s t : State} {ar : Array Value} (hp : P v h) (e1 : h0.1 ≤ h.1) (e2 : h0.2.1 ≤ h.2.1) (hP : ax_P G h H) (hW : G.2.1.WarmedH s.vm) (hG : ax_G0 G) (ht : t.heap = H) (hw : s.WarmedH t.vm) : ax_Q G h0 P ar s (.returned v) t := ⟨v, h, rfl, hp, e1, e2, by rw [ht]; exact hP, State.WarmedH.trans hW hw, hG⟩
theorem aw_iret {v : Int32} (hp : P (some (.int v)) h) (hr : Y.2.2.2 = some .int) (hd : decode Y.2.1 pc = .ok (.ireturn, 1)) : AW G x Y fr lo h0 P h pc ls ([.int v]) := by
  intro C0 e1 e2 H locs lsr hP hL hl
  have g1 := hP.2.2.1
  have g2 := hP.2.2.2.2.1
  have g0 : G.1 ≤ h0.1 := C0.2.2.2.2.2.2.2.2.2.2.1
  refine W.widen (k := room_1.cells - (h0.1 - G.1)) (n := room_1.slots - h0.2.1) (by omega) (by omega) ?_
  exact ax_mono (fun t h => Or.inl h) (W.iret C0.1 C0.2.1 (C0.2.2.2.2.2.2.2.1.trans hr) (fun t ht hw => ax_end hp e1 e2 hP C0.2.2.2.2.1 C0.2.2.2.2.2.1 ht hw) (fun q hq => hL q hq) hd C0.2.2.2.2.2.2.1)
theorem aw_zret {v : Int32} {ty : FieldType} (hp : P (some (.int v)) h) (hr : Y.2.2.2 = some ty) (hn : narrow ty (.int v) = .int v) (hd : decode Y.2.1 pc = .ok (.ireturn, 1)) : AW G x Y fr lo h0 P h pc ls [.int v] := by
  intro C0 e1 e2 H locs lsr hP hL hl
  have g1 := hP.2.2.1
  have g2 := hP.2.2.2.2.1
  have g0 : G.1 ≤ h0.1 := C0.2.2.2.2.2.2.2.2.2.2.1
  refine W.widen (k := room_1.cells - (h0.1 - G.1)) (n := room_1.slots - h0.2.1) (by omega) (by omega) ?_
  exact ax_mono (fun t h => Or.inl h) (W.zret C0.1 C0.2.1 (C0.2.2.2.2.2.2.2.1.trans hr) hn (fun t ht hw => ax_end hp e1 e2 hP C0.2.2.2.2.1 C0.2.2.2.2.2.1 ht hw) (fun q hq => hL q hq) hd C0.2.2.2.2.2.2.1)
theorem aw_lret {v : Int64} (hp : P (some (.long v)) h) (hr : Y.2.2.2 = some .long) (hd : decode Y.2.1 pc = .ok (.lreturn, 1)) : AW G x Y fr lo h0 P h pc ls ([.long v]) := by
  intro C0 e1 e2 H locs lsr hP hL hl
  have g1 := hP.2.2.1
  have g2 := hP.2.2.2.2.1
  have g0 : G.1 ≤ h0.1 := C0.2.2.2.2.2.2.2.2.2.2.1
  refine W.widen (k := room_1.cells - (h0.1 - G.1)) (n := room_1.slots - h0.2.1) (by omega) (by omega) ?_
  exact ax_mono (fun t h => Or.inl h) (W.lret C0.1 C0.2.1 (C0.2.2.2.2.2.2.2.1.trans hr) (fun t ht hw => ax_end hp e1 e2 hP C0.2.2.2.2.1 C0.2.2.2.2.2.1 ht hw) (fun q hq => hL q hq) hd C0.2.2.2.2.2.2.1)
theorem aw_vret (hp : P (none) h) (hr : Y.2.2.2 = none) (hd : decode Y.2.1 pc = .ok (.return_, 1)) : AW G x Y fr lo h0 P h pc ls ([]) := by
  intro C0 e1 e2 H locs lsr hP hL hl
  have g1 := hP.2.2.1
  have g2 := hP.2.2.2.2.1
  have g0 : G.1 ≤ h0.1 := C0.2.2.2.2.2.2.2.2.2.2.1
  refine W.widen (k := room_1.cells - (h0.1 - G.1)) (n := room_1.slots - h0.2.1) (by omega) (by omega) ?_
  exact ax_mono (fun t h => Or.inl h) (W.vret C0.1 C0.2.1 (C0.2.2.2.2.2.2.2.1.trans hr) (fun t ht hw => ax_end hp e1 e2 hP C0.2.2.2.2.1 C0.2.2.2.2.2.1 ht hw) (fun q hq => hL q hq) hd C0.2.2.2.2.2.2.1)
theorem aw_aret {r : Option Nat} {ty : FieldType} (hp : P (some (va_rf r)) h) (hr : Y.2.2.2 = some ty) (hrt : (∃ n, ty = .object n) ∨ ∃ t, ty = .array t) (hd : decode Y.2.1 pc = .ok (.areturn, 1)) : AW G x Y fr lo h0 P h pc ls [va_rf r] := by
  intro C0 e1 e2 H locs lsr hP hL hl
  have g1 := hP.2.2.1
  have g2 := hP.2.2.2.2.1
  have g0 : G.1 ≤ h0.1 := C0.2.2.2.2.2.2.2.2.2.2.1
  refine W.widen (k := room_1.cells - (h0.1 - G.1)) (n := room_1.slots - h0.2.1) (by omega) (by omega) ?_
  exact ax_mono (fun t h => Or.inl h) (W.aret C0.1 C0.2.1 (C0.2.2.2.2.2.2.2.1.trans hr) hrt (va_rf_or r) (fun t ht hw => ax_end hp e1 e2 hP C0.2.2.2.2.1 C0.2.2.2.2.2.1 ht hw) (fun q hq => hL q hq) hd C0.2.2.2.2.2.2.1)
end AXH
