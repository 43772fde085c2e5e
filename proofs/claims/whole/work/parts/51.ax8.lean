section AXL
variable {G : ax_G} {x : ax_X} {Y : ax_Y} {fr lo : Nat} {h0 h : ax_H} {P : Option Value → ax_H → Prop} {pc : Nat} {ls : List (Option Value)} {st : List Value}
/-- the script, at the law's start: L ints xs at b -/
def ax_S (G : ax_G) (b L : Nat) (xs : Nat → Int32) : Prop := b < G.1 ∧ va_X b L xs G.2.1 G.2.1.heap
theorem aw_sld {b L j : Nat} {xs : Nat → Int32} {i : Int32} (hS : ax_S G b L xs) (hi : i = nI j) (hj : j < L) (hLb : L < 2 ^ 31) (hd : decode Y.2.1 pc = .ok (.iaload, 1)) (k : AW G x Y fr lo h0 P h (pc + 1) ls (.int (xs j) :: st)) : AW G x Y fr lo h0 P h pc ls (.int i :: .ref b :: st) := by
  subst hi
  intro C0 e1 e2 H locs lsr hP hL hl
  obtain ⟨hb, scr, h1, h2, h3, h4, h5⟩ := hS
  refine W.iald (v := .int (xs j)) C0.1 C0.2.1 (by rw [hP.2.2.2.2.2.2 b hb]; exact h1) ?_ h3 (by rw [h4]; exact nI_in hj hLb) (by rw [nI_clamp (by omega)]; exact h5 j hj) rfl rfl hd (k C0 e1 e2 H locs lsr hP hL hl)
  exact State.isArrayOf_alike C0.2.2.2.2.1.alike h2
theorem aw_slen {b L : Nat} {xs : Nat → Int32} (hS : ax_S G b L xs) (hd : decode Y.2.1 pc = .ok (.arraylength, 1)) (k : AW G x Y fr lo h0 P h (pc + 1) ls (.int (nI L) :: st)) : AW G x Y fr lo h0 P h pc ls (.ref b :: st) := by
  intro C0 e1 e2 H locs lsr hP hL hl
  obtain ⟨hb, scr, h1, h2, h3, h4, h5⟩ := hS
  exact W.alen C0.1 C0.2.1 (by rw [hP.2.2.2.2.2.2 b hb]; exact h1) (State.isArrayOf_alike C0.2.2.2.2.1.alike h2) (by rw [h4]; rfl) rfl rfl hd (k C0 e1 e2 H locs lsr hP hL hl)
theorem aw_tout {dflt a z : Int} {offs : Array Int} {len tgt : Nat} {i : Int32} (hd : decode Y.2.1 pc = .ok (.tableswitch dflt a z offs, len)) (hi : i.toInt < a ∨ z < i.toInt) (ht : (pc : Int) + dflt = (tgt : Int)) (k : AW G x Y fr lo h0 P h tgt ls st) : AW G x Y fr lo h0 P h pc ls (.int i :: st) := fun C0 e1 e2 H locs lsr hP hL hl => lv_tableOut C0.1 C0.2.1 hd hi ht (k C0 e1 e2 H locs lsr hP hL hl)
theorem aw_tin {dflt a z off : Int} {offs : Array Int} {len tgt : Nat} {i : Int32} (hd : decode Y.2.1 pc = .ok (.tableswitch dflt a z offs, len)) (h1 : ¬ i.toInt < a) (h2 : ¬ z < i.toInt) (ho : offs[(i.toInt - a).toNat]? = some off) (ht : (pc : Int) + off = (tgt : Int)) (k : AW G x Y fr lo h0 P h tgt ls st) : AW G x Y fr lo h0 P h pc ls (.int i :: st) := fun C0 e1 e2 H locs lsr hP hL hl => lv_tableIn C0.1 C0.2.1 hd h1 h2 ho ht (k C0 e1 e2 H locs lsr hP hL hl)
end AXL
