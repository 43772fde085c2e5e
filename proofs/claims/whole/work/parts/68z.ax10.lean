def rv_is (v : Value) : Prop := (∃ z, v = .ref z) ∨ v = .null
theorem rv_Q (r : Option Nat) : rv_is (va_rf r) := by
  cases r with
  | none => exact Or.inr rfl
  | some z => exact Or.inl ⟨z, rfl⟩
section AXV
variable {G : ax_G} {x : ax_X} {Y : ax_Y} {fr lo : Nat} {h0 h : ax_H} {P : Option Value → ax_H → Prop} {pc : Nat} {ls : List (Option Value)} {st : List Value}
theorem aw_aloadV_n {q : Fin 4} {i : Nat} {v : Value} (hd : decode Y.2.1 pc = .ok (.aload_n q, 1)) (hi : (q : Nat) = i) (hv : ls[i]? = some (some v)) (hr : rv_is v) (k : AW G x Y fr lo h0 P h (pc + 1) ls (v :: st)) : AW G x Y fr lo h0 P h pc ls st := by
  rcases hr with ⟨z, rfl⟩ | rfl
  · exact aw_aload_n hd hi hv k
  · exact aw_aload_nN hd hi hv k
theorem aw_aloadV {i : Nat} {v : Value} (hd : decode Y.2.1 pc = .ok (.aload i, 2)) (hv : ls[i]? = some (some v)) (hr : rv_is v) (k : AW G x Y fr lo h0 P h (pc + 2) ls (v :: st)) : AW G x Y fr lo h0 P h pc ls st := by
  rcases hr with ⟨z, rfl⟩ | rfl
  · exact aw_aload hd hv k
  · exact aw_aloadN hd hv k
theorem aw_astoreV_n {q : Fin 4} {i : Nat} {v : Value} {ls' : List (Option Value)} (hd : decode Y.2.1 pc = .ok (.astore_n q, 1)) (hi : (q : Nat) = i) (hn : i < Y.2.2.1) (hr : rv_is v) (hs : ls.set i (some v) = ls') (k : AW G x Y fr lo h0 P h (pc + 1) ls' st) (hc : ax_c1 ls i := by first | exact ax_c1_0 | exact ax_c1_v rfl rfl | exact ax_c1_q rfl | exact ax_c1_n rfl) : AW G x Y fr lo h0 P h pc ls (v :: st) := by
  rcases hr with ⟨z, rfl⟩ | rfl
  · exact aw_astore_n hd hi hn hs k hc
  · exact aw_astoreN_n hd hi hn hs k hc
theorem aw_astoreV {i : Nat} {v : Value} {ls' : List (Option Value)} (hd : decode Y.2.1 pc = .ok (.astore i, 2)) (hn : i < Y.2.2.1) (hr : rv_is v) (hs : ls.set i (some v) = ls') (k : AW G x Y fr lo h0 P h (pc + 2) ls' st) (hc : ax_c1 ls i := by first | exact ax_c1_0 | exact ax_c1_v rfl rfl | exact ax_c1_q rfl | exact ax_c1_n rfl) : AW G x Y fr lo h0 P h pc ls (v :: st) := by
  rcases hr with ⟨z, rfl⟩ | rfl
  · exact aw_astore hd hn hs k hc
  · exact aw_astoreN hd hn hs k hc
end AXV
