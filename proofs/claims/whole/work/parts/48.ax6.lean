section AXT
variable {G : ax_G} {x : ax_X} {Y : ax_Y} {fr lo : Nat} {h0 h : ax_H} {P : Option Value → ax_H → Prop} {PT : Nat → ax_H → Prop} {pc : Nat} {ls : List (Option Value)} {st : List Value}
/-- what a call that ends by a throw leaves of the state at its beginning: warmer tables, written places L, k cells and n slots made -/
def ax_FT (s0 t : State) (L : List Loc) (k n : Nat) : Prop := s0.WarmedH t.vm ∧ s0.sameButNew ({ t with vm := s0.vm } : State) L k n
/-- an end by a throw: the object a, in a heap with PT -/
def ax_XT (G : ax_G) (h0 : ax_H) (PT : Nat → ax_H → Prop) (below : List Frame) (s : State) : State → Prop := fun t => ∃ a : Nat, t.status = .running ∧ Ended t below (.threw a) ∧ (∃ h : ax_H, PT a h ∧ h0.1 ≤ h.1 ∧ h0.2.1 ≤ h.2.1 ∧ ax_U G h t) ∧ ∃ L, ax_FT s t L (room_1.cells - (h0.1 - G.1)) (room_1.slots - h0.2.1) ∧ ∀ q ∈ L, G.1 ≤ q.base
/-- A CONTRACT OF A CALL THAT THROWS -/
def AT (G : ax_G) (Y : ax_Y) (fr lo : Nat) (av : List Value) (h : ax_H) (PT : Nat → ax_H → Prop) : Prop :=
  MetFree G.2.2.2.1 Y.1 (headSpec [.code Y.1 Y.2.1 Y.2.2.1 Y.2.2.2] (ax_R fr lo G h)) (va_Pc av (ax_U G h)) (fun _ _ _ _ _ => True) (fun _ st o t => ∃ a : Nat, o = .threw a ∧ (∃ h' : ax_H, PT a h' ∧ h.1 ≤ h'.1 ∧ h.2.1 ≤ h'.2.1 ∧ ax_U G h' t) ∧ ∃ L, ax_FT st t L (room_1.cells - (h.1 - G.1)) (room_1.slots - h.2.1) ∧ ∀ q ∈ L, G.1 ≤ q.base)
/-- the way out by a throw is open, and the method has no handlers -/
def ax_O (G : ax_G) (x : ax_X) (h0 : ax_H) (PT : Nat → ax_H → Prop) : Prop := (∀ t, ax_XT G h0 PT x.2.2.2.2.2.1 x.2.2.1 t → x.2.2.2.2.2.2.2.2 t) ∧ x.2.2.2.2.2.2.2.1.exceptionTable.toList = []
theorem aw_metT {av : List Value} (hy : plainName Y.1.cls = true) (hn : (lg_sl av).length ≤ Y.2.2.1) {ls : List (Option Value)} (hls : ∀ (i : Nat) (v : Value), ls[i]? = some (some v) → (i, v) ∈ lv_args 0 av) (k : ∀ x : ax_X, ax_O G x h PT → AW G x Y fr lo h (fun _ _ => False) h 0 ls []) : AT G Y fr lo av h PT := by
  refine MetFree.of_bodyS (code := Y.2.1) (maxLocals := Y.2.2.1) (ret := Y.2.2.2) hy ?_ ?_
  · intro args s m hs hm
    obtain ⟨meth, c, h1, h2, h3, h4, h5, h6, -, -⟩ := Cond.code_spec hm (atoms_spec (ws := [.code Y.1 Y.2.1 Y.2.2.1 Y.2.2.2]) hs _ List.mem_cons_self)
    exact ⟨meth, c, h1, h2, h3, h4, h5, h6⟩
  · intro p e s m args below meth c s₁ B hml hv _
    have hh0 : s₁.heap = s.heap := by rw [B.state]; rfl
    have hX := Stand.of_body B
    have hempty : c.exceptionTable.toList = [] := by
      obtain ⟨meth', c', h1, h2, -, -, -, -, h7, -⟩ := Cond.code_spec B.named (atoms_spec (ws := [.code Y.1 Y.2.1 Y.2.2.1 Y.2.2.2]) B.pre _ List.mem_cons_self)
      cases B.method.symm.trans h1
      cases hX.code.symm.trans h2
      simpa using h7
    obtain ⟨rfl, hP, hW, hG⟩ := hv
    have hown : s.vm.findClass Y.1.cls = some m.cls := findClass_of_methodNamed B.named
    have hnm : meth.name = Y.1.name := (name_of_methodNamed B.named B.method).1
    rw [lg_entry_eq]
    have h1 := k (p, e, s, m, av.toArray, below, meth, c, ax_XT G h PT below s) ⟨fun t z => z, hempty⟩ ⟨B.exec, B.bytes, hml, hown, hW, hG, B.notSynchronized, B.returns, hnm, hP⟩ (Nat.le_refl _) (Nat.le_refl _) s.heap [] _ hP (fun q h => by cases h) ⟨_, lv_entry av hn, hls⟩
    rw [Nat.sub_self, Nat.sub_self] at h1
    obtain ⟨t, a1, q⟩ := h1 s₁ hh0 hX
    rcases q with ⟨o, -, -, ⟨v, h', -, c2, -⟩, -⟩ | ⟨a, b1, b2, b3, b4⟩
    · exact c2.elim
    · exact ⟨t, .threw a, a1, b1, b2, a, rfl, b3, b4⟩
theorem aw_enterT {av : List Value} (hy : plainName Y.1.cls = true) (hn : (lg_sl av).length ≤ Y.2.2.1) {n : Nat} {ls : List (Option Value)} (hl : ax_ls av ++ List.replicate n none = ls) (k : ∀ x : ax_X, ax_O G x h PT → AW G x Y fr lo h (fun _ _ => False) h 0 ls []) : AT G Y fr lo av h PT := by
  subst hl
  exact aw_metT hy hn (fun i v hv => ax_ls_pad hv) k
/-- athrow: out of the method -/
theorem aw_athrow (hO : ax_O G x h0 PT) {a : Nat} (hp : PT a h) (hd : decode Y.2.1 pc = .ok (.athrow, 1)) : AW G x Y fr lo h0 P h pc ls (.ref a :: st) := by
  intro C0 e1 e2 H locs lsr hP hL hl
  have g1 := hP.2.2.1
  have g2 := hP.2.2.2.2.1
  have g0 : G.1 ≤ h0.1 := C0.2.2.2.2.2.2.2.2.2.2.1
  refine W.widen (k := room_1.cells - (h0.1 - G.1)) (n := room_1.slots - h0.2.1) (by omega) (by omega) ?_
  intro T hT X
  obtain ⟨q1, q2, q3, q4, q5⟩ := X.athrowLeaves C0.1 (g := F0 x.2.2.2.1 pc lsr (.ref a :: st)) rfl rfl rfl (by rw [hO.2]; intro z hz; cases hz) rfl (by rw [C0.2.1]; exact hd) C0.2.2.2.2.2.2.1
  refine ⟨_, q1, Or.inr (hO.1 _ ⟨a, q2, q3, ⟨h, hp, e1, e2, ?_, State.WarmedH.trans C0.2.2.2.2.1 q4, C0.2.2.2.2.2.1⟩, locs, ⟨q4, q5⟩, hL⟩)⟩
  show ax_P G h T.heap
  rw [hT]
  exact hP
end AXT
