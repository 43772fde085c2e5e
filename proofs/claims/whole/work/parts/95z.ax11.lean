theorem wd_nat : Cond.native arraycopyName ∈ lw_tbl := (in_t_3 (List.mem_of_getElem? (i := 176) rfl))
theorem wd_sta : Cond.static arraycopyName ∈ lw_tbl := (in_t_3 (List.mem_of_getElem? (i := 175) rfl))
theorem wd_sys : Cond.initialized "java/lang/System" ∈ lw_tbl := (in_t_1 (List.mem_of_getElem? (i := 16) rfl))
theorem wd_cpL : Cond.methodLink "SymbolLinker" 380 arraycopyName ∈ lw_tbl := (in_t_3 (List.mem_of_getElem? (i := 182) rfl))
theorem wd_cpI : Cond.methodLink "SymbolLinker$Image" 43 arraycopyName ∈ lw_tbl := (in_t_3 (List.mem_of_getElem? (i := 174) rfl))
theorem wd_gN (y : MethodName) : goodWord (.native y) = true := by first | rfl | simp [goodWord, Cond.onTables, Cond.keeps, Cond.steady]
section AXCP
variable {G : ax_G} {x : ax_X} {Y : ax_Y} {fr lo : Nat} {h0 h : ax_H} {P : Option Value → ax_H → Prop} {pc : Nat} {ls : List (Option Value)} {st : List Value}
/-- System.arraycopy of ints, or of bytes -/
theorem aw_copy {idx : Nat} (w1 : Cond.methodLink Y.1.cls idx arraycopyName ∈ lw_tbl) {a0 a n0 n1 : Nat} {f g : Nat → Int32} {ty : FieldType} (ha0 : h.2.2 a0 = some (.inl (ty, n0, .inl f))) (ha1 : h.2.2 a = some (.inl (ty, n1, .inl g))) (hprim : refKind ty = false) {sp dp n : Int32} (h1 : ¬ sp < 0) (h2 : ¬ dp < 0) (h3 : ¬ n < 0) (h4 : sp.toNatClampNeg + n.toNatClampNeg ≤ n0) (h5 : dp.toNatClampNeg + n.toNatClampNeg ≤ n1) (hfit : ∀ i, i < n.toNatClampNeg → fits ty (.int (f (sp.toNatClampNeg + i))) = true) (hfr : 1 ≤ fr) (hlo : (st.map fun v => v.category).sum + (nativeFrameWords "java/lang/System" "arraycopy" 5 + 11) ≤ lo) (hd : decode Y.2.1 pc = .ok (.invokestatic idx, 3)) (k : AW G x Y fr lo h0 P (ax_set h a (.inl (ty, n1, .inl (va_cpy f g sp.toNatClampNeg dp.toNatClampNeg n.toNatClampNeg)))) (pc + 3) ls st) : AW G x Y fr lo h0 P h pc ls (.int n :: .int dp :: .ref a :: .int sp :: .ref a0 :: st) := by
  have nn : ∀ z : Int32, ¬ z < 0 → z.toInt = (z.toNatClampNeg : Int) := by
    intro z hz
    have hz0 : (0 : Int) ≤ z.toInt := by
      have := Int32.not_lt.mp hz
      simpa using Int32.le_iff_toInt_le.mp this
    show z.toInt = ((z.toInt.toNat : Nat) : Int)
    omega
  intro C0 e1 e2 H locs lsr hP hL hl
  have hW := C0.2.2.2.2.1
  have hG := C0.2.2.2.2.2.1
  obtain ⟨c0, hc0, ak0⟩ := (hP.at ha0).2
  obtain ⟨c1, hc1, ak1⟩ := (hP.at ha1).2
  have hba := (hP.at ha1).1
  obtain ⟨k0, cm0, hk0, hkk0, -⟩ := ak0.moved hW.alike
  obtain ⟨k1, cm1, hk1, hkk1, -⟩ := ak1.moved hW.alike
  intro T hT X
  have hc0 : H[a0]? = some (arrV c0 n0 (fun j => .int (f j))) := hc0
  have hc1 : H[a]? = some (arrV c1 n1 (fun j => .int (g j))) := hc1
  obtain ⟨vm', X', step⟩ := X.arraycopy C0.1 C0.2.2.2.1 (ax_word hW hG w1 (ax_gML _ _ _) _) (ax_word hW hG wd_nat (wd_gN _) _) (ax_word hW hG wd_sta (ax_gST _) _) (ax_word hW hG wd_sys (ax_gII _) _) (src := a0) (dst := a) (cs := arrV c0 n0 (fun j => .int (f j))) (cd := arrV c1 n1 (fun j => .int (g j))) (srcPos := sp) (destPos := dp) (n := n) (by rw [hT]; exact hc0) (by rw [hT]; exact hc1)
    (fun _ h => by cases h) (fun _ h => by cases h) (fun h => by cases h) (fun h => by cases h) hk0 hk1 hkk0 hkk1 (by simp [hprim]) h1 h2 h3
    (by rw [nn sp h1, nn n h3]; show ¬ _ > ((arrV c0 n0 (fun j => .int (f j))).slots.size : Int); rw [arrV_size]; omega)
    (by rw [nn dp h2, nn n h3]; show ¬ _ > ((arrV c1 n1 (fun j => .int (g j))).slots.size : Int); rw [arrV_size]; omega)
    (fun vm₁ _ i hi => by
      have e : (arrV c0 n0 (fun j => .int (f j))).slots.getD (sp.toNatClampNeg + i) .null = .int (f (sp.toNatClampNeg + i)) := by
        rw [Array.getD_eq_getD_getElem?, arrV_read _ _ (by omega)]
        rfl
      refine ⟨?_, ?_⟩
      · rw [e]
        exact hfit i hi
      · rw [e]
        exact trivial)
    (g := F0 x.2.2.2.1 pc lsr (.int n :: .int dp :: .ref a :: .int sp :: .ref a0 :: st)) rfl (by rw [C0.2.2.1, hl.size]) (rest := st) rfl (by rw [C0.2.1]; exact hd) hfr (by show 2 * 0 + _ + _ ≤ _; exact (by omega : 2 * 0 + (st.map fun v => v.category).sum + (nativeFrameWords "java/lang/System" "arraycopy" 5 + 11) ≤ lo))
  have e1' : copied (arrV c0 n0 (fun j => .int (f j))) (arrV c1 n1 (fun j => .int (g j))) sp dp n = arrV c1 n1 (fun j => .int (va_cpy f g sp.toNatClampNeg dp.toNatClampNeg n.toNatClampNeg j)) := va_copied (fun z => .int z) c0 c1 f g h4
  rw [e1'] at X' step
  have hl2 : a < H.size := (Array.getElem?_eq_some_iff.mp hc1).1
  have hheap : ((T.setVm vm').setCell a (arrV c1 n1 (fun j => .int (va_cpy f g sp.toNatClampNeg dp.toNatClampNeg n.toNatClampNeg j)))).heap = H.setIfInBounds a (arrV c1 n1 (fun j => .int (va_cpy f g sp.toNatClampNeg dp.toNatClampNeg n.toNatClampNeg j))) := by rw [← hT]; rfl
  have oq : ∀ q : Nat, q ≠ a → (H.setIfInBounds a (arrV c1 n1 (fun j => .int (va_cpy f g sp.toNatClampNeg dp.toNatClampNeg n.toNatClampNeg j))))[q]? = H[q]? := fun q hq => by simp [Array.getElem?_setIfInBounds, Ne.symm hq]
  have sq : (H.setIfInBounds a (arrV c1 n1 (fun j => .int (va_cpy f g sp.toNatClampNeg dp.toNatClampNeg n.toNatClampNeg j))))[a]? = some (arrV c1 n1 (fun j => .int (va_cpy f g sp.toNatClampNeg dp.toNatClampNeg n.toNatClampNeg j))) := by simp [Array.getElem?_setIfInBounds, hl2]
  obtain ⟨t, a1, b1⟩ := k C0 e1 e2 _ _ lsr (hP.set ha1 hc1 sq (by rw [arrV_size, arrV_size]) (by simp) oq ⟨c1, sq, ak1⟩) (fun q hq => by
      rcases List.mem_append.mp hq with h | h
      · exact hL q h
      · obtain ⟨z, -, hz⟩ := List.mem_map.mp h
        rw [← hz]
        exact hba) hl _ hheap X'
  exact ⟨t, step t a1, b1⟩
end AXCP
