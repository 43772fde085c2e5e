/-! The abstract layer: one picture of the whole heap from the law's start on (ax_H), one judgement of the machine over it (AW), contracts over it (AM). -/
abbrev ax_A : Type := (Nat → Int32) ⊕ (Nat → Int64) ⊕ (Nat → UInt32) ⊕ (Nat → UInt64) ⊕ (Nat → Option Nat)
/-- a cell: an array (its component type, length, contents), or an object (the number of its class, its fields) -/
abbrev ax_E : Type := (FieldType × vp_A) ⊕ (Nat × List Value)
/-- a heap: how many cells there are; how many slots the cells from the base on have; what is known of these -/
abbrev ax_H : Type := Nat × Nat × (Nat → Option ax_E)
/-- what stays over the whole run: the base, the law's start, the classes' numbers and slots, the launch, the start's arguments -/
abbrev ax_G : Type := Nat × State × va_G × Launch × Array Value
/-- what stays over a method's run -/
abbrev ax_X : Type := Program × Env × State × MethodId × Array Value × List Frame × Method × Code × (State → Prop)
/-- a method: its name, code, locals, type -/
abbrev ax_Y : Type := MethodName × ByteArray × Nat × Option FieldType
def ax_v (f : ax_A) (j : Nat) : Value := match f with
  | .inl f => .int (f j)
  | .inr (.inl f) => .long (f j)
  | .inr (.inr (.inl f)) => .float (f j)
  | .inr (.inr (.inr (.inl f))) => .double (f j)
  | .inr (.inr (.inr (.inr f))) => va_rf (f j)
/-- the class of an array of this type -/
def ax_AK (s : State) (c : ClassId) (ty : FieldType) : Prop := ∃ (k : Class) (comp : ClassId), s.vm.classes[c]? = some k ∧ k.kind = .array comp ty ∧ ∀ C, ty = .object C → s.vm.findClass C = some comp
theorem ax_AK.moved {u U : State} (hvm : u.vm.Alike U.vm) {c : ClassId} {ty : FieldType} (h : ax_AK u c ty) : ax_AK U c ty := by
  obtain ⟨k, comp, h1, h2, h3⟩ := h
  obtain ⟨k', hk', he⟩ := hvm.2.2 _ _ h1
  exact ⟨k', comp, hk', by rw [he]; exact h2, fun C e => by rw [hvm.findClass]; exact h3 C e⟩
theorem ax_AK.arr {s : State} {cA : ClassId} {ty : FieldType} (h : ax_AK s cA ty) (n : Nat) (f : Nat → Value) : s.isArrayOf (arrV cA n f) ty := by
  obtain ⟨k, comp, h1, h2, -⟩ := h
  exact ⟨fun q hq => (by cases hq), k, h1, comp, h2⟩
def ax_at (G : ax_G) (a : Nat) (E : ax_E) (H : Heap) : Prop := match E with
  | .inl z => ∃ cA : ClassId, H[a]? = some (arrV cA z.2.1 (ax_v z.2.2)) ∧ ax_AK G.2.1 cA z.1
  | .inr o => ∃ r : vw_C, classes[o.1]? = some r ∧ t_OB a (G.2.2.1.1 o.1) r.2.2 (G.2.2.1.2 o.1) H (vp_V o.2)
theorem ax_at.kept {G : ax_G} {a : Nat} {E : ax_E} {H H1 : Heap} (h : ax_at G a E H) (hq : H1[a]? = H[a]?) : ax_at G a E H1 := by
  cases E with
  | inl z =>
    obtain ⟨cell, h1, h2⟩ := h
    exact ⟨cell, by rw [hq]; exact h1, h2⟩
  | inr o =>
    obtain ⟨r, h1, h2⟩ := h
    exact ⟨r, h1, h2.kept hq⟩
theorem ax_at.lt {G : ax_G} {a : Nat} {E : ax_E} {H : Heap} (h : ax_at G a E H) : a < H.size := by
  cases E with
  | inl z =>
    obtain ⟨cell, h1, h2⟩ := h
    exact (Array.getElem?_eq_some_iff.mp h1).1
  | inr o =>
    obtain ⟨r, h1, cell, h2, -⟩ := h
    exact (Array.getElem?_eq_some_iff.mp h2).1
/-- how many slots the cells from b on have -/
def ax_sz (b : Nat) (H : Heap) : Nat := ((H.toList.map (fun c : Cell => c.slots.size)).drop b).sum
theorem ax_sz_same {b : Nat} {H H1 : Heap} (h : ∀ q : Nat, (H1[q]?).map (fun c : Cell => c.slots.size) = (H[q]?).map (fun c : Cell => c.slots.size)) : ax_sz b H1 = ax_sz b H := by
  have e : H1.toList.map (fun c : Cell => c.slots.size) = H.toList.map (fun c : Cell => c.slots.size) := by
    apply List.ext_getElem?
    intro q
    have h1 := h q
    rw [List.getElem?_map, List.getElem?_map, Array.getElem?_toList, Array.getElem?_toList]
    exact h1
  unfold ax_sz
  rw [e]
theorem ax_sz_push {b : Nat} {H H1 : Heap} {c : Cell} (hb : b ≤ H.size) (z : H1.size = H.size + 1) (e1 : H1[H.size]? = some c) (o1 : ∀ q : Nat, q < H.size → H1[q]? = H[q]?) : ax_sz b H1 = ax_sz b H + c.slots.size := by
  have e : H1.toList = H.toList ++ [c] := by
    apply List.ext_getElem?
    intro q
    rw [Array.getElem?_toList]
    by_cases h1 : q < H.size
    · rw [List.getElem?_append_left (by simpa using h1), Array.getElem?_toList]
      exact o1 q h1
    · by_cases h2 : q = H.size
      · subst h2
        rw [e1, List.getElem?_append_right (by simp)]
        simp
      · rw [List.getElem?_append_right (by simp; omega), Array.getElem?_eq_none (by omega), List.getElem?_eq_none (by simp; omega)]
  unfold ax_sz
  rw [e, List.map_append, List.drop_append_of_le_length (by simpa using hb), List.sum_append]
  simp
def ax_P (G : ax_G) (h : ax_H) (H : Heap) : Prop := H.size = h.1 ∧ G.1 ≤ h.1 ∧ h.1 ≤ G.1 + room_1.cells ∧ ax_sz G.1 H = h.2.1 ∧ h.2.1 ≤ room_1.slots ∧ (∀ (a : Nat) (E : ax_E), h.2.2 a = some E → G.1 ≤ a ∧ ax_at G a E H) ∧ ∀ q : Nat, q < G.1 → H[q]? = G.2.1.heap[q]?
theorem ax_P.at {G : ax_G} {h : ax_H} {H : Heap} (hP : ax_P G h H) {a : Nat} {E : ax_E} (ha : h.2.2 a = some E) : G.1 ≤ a ∧ ax_at G a E H := hP.2.2.2.2.2.1 a E ha
def ax_set (h : ax_H) (a : Nat) (E : ax_E) : ax_H := (h.1, h.2.1, va_up h.2.2 a (some E))
def ax_new (h : ax_H) (E : ax_E) (n : Nat) : ax_H := (h.1 + 1, h.2.1 + n, va_up h.2.2 h.1 (some E))
theorem ax_P.set {G : ax_G} {h : ax_H} {H H1 : Heap} {a : Nat} {E0 E : ax_E} (hP : ax_P G h H) (ha : h.2.2 a = some E0) {cell cell1 : Cell} (hc : H[a]? = some cell) (hc1 : H1[a]? = some cell1) (hz : cell1.slots.size = cell.slots.size) (z : H1.size = H.size) (oq : ∀ q : Nat, q ≠ a → H1[q]? = H[q]?) (he : ax_at G a E H1) : ax_P G (ax_set h a E) H1 := by
  obtain ⟨p1, p2, p3, p4, p5, p6, p7⟩ := hP
  refine ⟨z.trans p1, p2, p3, ?_, p5, ?_, fun q hq => (oq q (fun e => by have := (p6 a _ ha).1; omega)).trans (p7 q hq)⟩
  · show ax_sz G.1 H1 = h.2.1
    rw [← p4]
    refine ax_sz_same (fun q => ?_)
    by_cases hq : q = a
    · subst hq
      rw [hc, hc1]
      simp [hz]
    · rw [oq q hq]
  · intro q F hF
    have hF : va_up h.2.2 a (some E) q = some F := hF
    by_cases hq : q = a
    · subst hq
      rw [va_up_self] at hF
      cases hF
      exact ⟨(p6 q _ ha).1, he⟩
    · rw [va_up_ne _ _ hq] at hF
      exact ⟨(p6 q F hF).1, (p6 q F hF).2.kept (oq q hq)⟩
theorem ax_P.push {G : ax_G} {h : ax_H} {H H1 : Heap} {E : ax_E} {n : Nat} (hP : ax_P G h H) {cell1 : Cell} (e1 : H1[H.size]? = some cell1) (hn : cell1.slots.size = n) (z : H1.size = H.size + 1) (oq : ∀ q : Nat, q < H.size → H1[q]? = H[q]?) (hc : h.1 + 1 ≤ G.1 + room_1.cells) (hs : h.2.1 + n ≤ room_1.slots) (he : ax_at G H.size E H1) : ax_P G (ax_new h E n) H1 := by
  obtain ⟨p1, p2, p3, p4, p5, p6, p7⟩ := hP
  refine ⟨by show H1.size = h.1 + 1; rw [z, p1], by show G.1 ≤ h.1 + 1; omega, hc, ?_, hs, ?_, fun q hq => (oq q (by omega)).trans (p7 q hq)⟩
  · show ax_sz G.1 H1 = h.2.1 + n
    rw [ax_sz_push (by rw [p1]; exact p2) z e1 oq, p4, hn]
  · intro q F hF
    have hF : va_up h.2.2 h.1 (some E) q = some F := hF
    by_cases hq : q = h.1
    · subst hq
      rw [va_up_self] at hF
      cases hF
      rw [p1] at he
      exact ⟨p2, he⟩
    · rw [va_up_ne _ _ hq] at hF
      have h1 := p6 q F hF
      exact ⟨h1.1, h1.2.kept (oq q h1.2.lt)⟩
/-- what the law's start gives: the words, the nest mates' words, the classes -/
def ax_G0 (G : ax_G) : Prop := (∀ w ∈ lw_tbl, w.before G.2.2.2.2 G.2.1 = true) ∧ va_K G.2.2.1 classes [] G.2.1
/-- a state of the run: its heap's picture, its tables warmed since the law's start -/
def ax_U (G : ax_G) (h : ax_H) (U : State) : Prop := ax_P G h U.heap ∧ G.2.1.WarmedH U.vm ∧ ax_G0 G
def ax_R (fr lo : Nat) (G : ax_G) (h : ax_H) : Room := { frames := fr, cells := room_1.cells - (h.1 - G.1), slots := room_1.slots - h.2.1, locals := lo }
def ax_Q (G : ax_G) (h0 : ax_H) (P : Option Value → ax_H → Prop) : Array Value → State → Outcome → State → Prop := fun _ _ oc t => ∃ (v : Option Value) (h : ax_H), oc = .returned v ∧ P v h ∧ h0.1 ≤ h.1 ∧ h0.2.1 ≤ h.2.1 ∧ ax_U G h t
/-- A CONTRACT: called with the values av in the heap h (with room for fr frames of lo words): it returns v in a heap h' with P v h' -/
def AM (G : ax_G) (Y : ax_Y) (fr lo : Nat) (av : List Value) (h : ax_H) (P : Option Value → ax_H → Prop) : Prop :=
  Met G.2.2.2.1 Y.1 [.code Y.1 Y.2.1 Y.2.2.1 Y.2.2.2] (ax_R fr lo G h) (va_Pc av (ax_U G h)) (ax_Q G h P) (room_1.cells - (h.1 - G.1)) (room_1.slots - h.2.1) (fun q => G.1 ≤ q)
/-- the locals, by their places: a value that is known, or none -/
def ax_L (lsr : Array Slot) (nL : Nat) (ls : List (Option Value)) : Prop := ∃ l : List (Nat × Value), lv_has lsr nL l ∧ ∀ (i : Nat) (v : Value), ls[i]? = some (some v) → (i, v) ∈ l
theorem ax_L.at {lsr : Array Slot} {nL : Nat} {ls : List (Option Value)} (h : ax_L lsr nL ls) {i : Nat} {v : Value} (hi : ls[i]? = some (some v)) : lsr[i]? = some (.val v) := by
  obtain ⟨l, h1, h2⟩ := h
  exact h1.2.2 (i, v) (h2 i v hi)
theorem ax_L.size {lsr : Array Slot} {nL : Nat} {ls : List (Option Value)} (h : ax_L lsr nL ls) : lsr.size = nL := by
  obtain ⟨l, h1, h2⟩ := h
  exact h1.1
/-- the place before holds no long -/
def ax_c1 (ls : List (Option Value)) (i : Nat) : Prop := ∀ (j : Nat) (w : Value), j + 1 = i → ls[j]? = some (some w) → w.category = 1
theorem ax_c1_0 {ls : List (Option Value)} : ax_c1 ls 0 := fun j w e => absurd e (Nat.succ_ne_zero j)
theorem ax_c1_n {ls : List (Option Value)} {i : Nat} (h : ls[i]? = some none) : ax_c1 ls (i + 1) := fun j w e h1 => by
  cases e
  rw [h] at h1
  cases h1
theorem ax_c1_v {ls : List (Option Value)} {i : Nat} {v : Value} (h : ls[i]? = some (some v)) (hv : v.category = 1) : ax_c1 ls (i + 1) := fun j w e h1 => by
  cases e
  rw [h] at h1
  cases h1
  exact hv
theorem ax_rf1 (r : Option Nat) : (va_rf r).category = 1 := by cases r <;> rfl
theorem ax_c1_q {ls : List (Option Value)} {i : Nat} {r : Option Nat} (h : ls[i]? = some (some (va_rf r))) : ax_c1 ls (i + 1) := ax_c1_v h (ax_rf1 r)
theorem ax_L.fewer {lsr : Array Slot} {nL : Nat} {ls ls' : List (Option Value)} (h : ax_L lsr nL ls) (hs : ∀ (i : Nat) (v : Value), ls'[i]? = some (some v) → ls[i]? = some (some v)) : ax_L lsr nL ls' := by
  obtain ⟨l, h1, h2⟩ := h
  exact ⟨l, h1, fun i v hi => h2 i v (hs i v hi)⟩
theorem ax_L.st1 {lsr : Array Slot} {nL : Nat} {ls : List (Option Value)} (l : List (Nat × Value)) (h2 : ∀ (i : Nat) (v : Value), ls[i]? = some (some v) → (i, v) ∈ l) {i : Nat} {v : Value} (hc : ax_c1 ls i) (h' : lv_has lsr nL ((i, v) :: l.filter (fun q => !(q.1 == i) && !(q.1 + 1 == i && q.2.category == 2)))) : ax_L lsr nL (ls.set i (some v)) := by
  refine ⟨_, h', fun j w hj => ?_⟩
  by_cases hji : j = i
  · subst hji
    by_cases hl : j < ls.length
    · rw [List.getElem?_set_self hl] at hj
      cases hj
      exact List.mem_cons_self
    · rw [List.getElem?_eq_none (by simp; omega)] at hj
      cases hj
  · rw [List.getElem?_set_ne (Ne.symm hji)] at hj
    refine List.mem_cons_of_mem _ (List.mem_filter.mpr ⟨h2 j w hj, ?_⟩)
    have hb : (j == i) = false := by simp [hji]
    by_cases h1 : j + 1 = i
    · have hw := hc j w h1 hj
      simp [hb, hw]
    · have hb1 : (j + 1 == i) = false := by simp [h1]
      simp [hb, hb1]
theorem ax_L.st2 {lsr : Array Slot} {nL : Nat} {ls : List (Option Value)} (l : List (Nat × Value)) (h2 : ∀ (i : Nat) (v : Value), ls[i]? = some (some v) → (i, v) ∈ l) {i : Nat} {v : Value} (hc : ax_c1 ls i) (h' : lv_has lsr nL ((i, v) :: l.filter (fun q => !(q.1 == i) && (!(q.1 == i + 1) && !(q.1 + 1 == i && q.2.category == 2))))) : ax_L lsr nL ((ls.set i (some v)).set (i + 1) none) := by
  refine ⟨_, h', fun j w hj => ?_⟩
  by_cases hj1 : j = i + 1
  · subst hj1
    by_cases hl : i + 1 < (ls.set i (some v)).length
    · rw [List.getElem?_set_self hl] at hj
      cases hj
    · rw [List.getElem?_eq_none (by simp at hl ⊢; omega)] at hj
      cases hj
  · rw [List.getElem?_set_ne (Ne.symm hj1)] at hj
    by_cases hji : j = i
    · subst hji
      by_cases hl : j < ls.length
      · rw [List.getElem?_set_self hl] at hj
        cases hj
        exact List.mem_cons_self
      · rw [List.getElem?_eq_none (by simp; omega)] at hj
        cases hj
    · rw [List.getElem?_set_ne (Ne.symm hji)] at hj
      refine List.mem_cons_of_mem _ (List.mem_filter.mpr ⟨h2 j w hj, ?_⟩)
      have hb : (j == i) = false := by simp [hji]
      have hb2 : (j == i + 1) = false := by simp [hj1]
      by_cases h1 : j + 1 = i
      · have hw := hc j w h1 hj
        simp [hb, hb2, hw]
      · have hb1 : (j + 1 == i) = false := by simp [h1]
        simp [hb, hb1, hb2]
/-- what holds in a method's body -/
def ax_C (G : ax_G) (x : ax_X) (Y : ax_Y) (h0 : ax_H) : Prop :=
  x.1.tables.exec = Jvm.exec ∧ x.2.2.2.2.2.2.2.1.code = Y.2.1 ∧ x.2.2.2.2.2.2.2.1.maxLocals = Y.2.2.1 ∧ x.2.2.1.vm.findClass Y.1.cls = some x.2.2.2.1.cls ∧ G.2.1.WarmedH x.2.2.1.vm ∧ ax_G0 G ∧ x.2.2.2.2.2.2.1.locks = false ∧ x.2.2.2.2.2.2.1.sig.returnType = Y.2.2.2 ∧ x.2.2.2.2.2.2.1.name = Y.1.name ∧ ax_P G h0 x.2.2.1.heap
/-- THE JUDGEMENT: in the body of Y that began in the heap h0, now at pc in the heap h, with the locals ls and the operands st: it comes to an end with P -/
def AW (G : ax_G) (x : ax_X) (Y : ax_Y) (fr lo : Nat) (h0 : ax_H) (P : Option Value → ax_H → Prop) (h : ax_H) (pc : Nat) (ls : List (Option Value)) (st : List Value) : Prop :=
  ax_C G x Y h0 → h0.1 ≤ h.1 → h0.2.1 ≤ h.2.1 → ∀ (H : Heap) (locs : List Loc) (lsr : Array Slot), ax_P G h H → (∀ q ∈ locs, G.1 ≤ q.base) → ax_L lsr Y.2.2.1 ls →
    W x.1 G.2.2.2.1 x.2.1 (ax_R fr lo G h0) x.2.2.1 x.2.2.2.1 x.2.2.2.2.1 x.2.2.2.2.2.1 x.2.2.2.2.2.2.1 x.2.2.2.2.2.2.2.1 H locs (h.1 - h0.1) (h.2.1 - h0.2.1)
      (fun t => MQ x.2.2.2.2.2.1 (ax_Q G h0 P) x.2.2.2.2.1 x.2.2.1 (room_1.cells - (h0.1 - G.1)) (room_1.slots - h0.2.1) (fun q => G.1 ≤ q) t ∨ x.2.2.2.2.2.2.2.2 t) (F0 x.2.2.2.1 pc lsr st)
theorem ax_mono {p : Program} {l : Launch} {e : Env} {R : Room} {s : State} {m : MethodId} {args : Array Value} {below : List Frame} {meth : Method} {c : Code} {H : Heap} {locs : List Loc} {cells slots : Nat} {Q Q2 : State → Prop} {g : JFrame} (hq : ∀ t, Q t → Q2 t) (k : W p l e R s m args below meth c H locs cells slots Q g) : W p l e R s m args below meth c H locs cells slots Q2 g := fun T hT X => (k T hT X).imp (fun t h => ⟨h.1, hq t h.2⟩)
theorem aw_met {G : ax_G} {Y : ax_Y} {fr lo : Nat} {av : List Value} {h : ax_H} {P : Option Value → ax_H → Prop} (hy : plainName Y.1.cls = true) (hn : (lg_sl av).length ≤ Y.2.2.1) {ls : List (Option Value)} (hls : ∀ (i : Nat) (v : Value), ls[i]? = some (some v) → (i, v) ∈ lv_args 0 av) (k : ∀ x : ax_X, AW G x Y fr lo h P h 0 ls []) : AM G Y fr lo av h P := by
  refine Met.ofW (cc := Y.2.1) (maxL := Y.2.2.1) (ret := Y.2.2.2) hy rfl ?_
  intro p e s m args below meth c s₁ B hml hv
  obtain ⟨rfl, hP, hW, hG⟩ := hv
  have hown : s.vm.findClass Y.1.cls = some m.cls := findClass_of_methodNamed B.named
  have hnm : meth.name = Y.1.name := (name_of_methodNamed B.named B.method).1
  rw [lg_entry_eq]
  have h1 := k (p, e, s, m, av.toArray, below, meth, c, fun _ => False) ⟨B.exec, B.bytes, hml, hown, hW, hG, B.notSynchronized, B.returns, hnm, hP⟩ (Nat.le_refl _) (Nat.le_refl _) s.heap [] _ hP (fun q h => by cases h) ⟨_, lv_entry av hn, hls⟩
  rw [Nat.sub_self, Nat.sub_self] at h1
  exact ax_mono (fun t h => h.resolve_right id) h1
/-- the words, at any state of the run -/
theorem ax_word {G : ax_G} {U : State} (hW : G.2.1.WarmedH U.vm) (hG : ax_G0 G) {w : Cond} (hw : w ∈ lw_tbl) (hg : goodWord w = true) (a' : Array Value) : w.before a' U = true := word_at hW (good_of_word hg) (hG.1 w hw)
theorem ax_kn {G : ax_G} {U : State} (hW : G.2.1.WarmedH U.vm) (hG : ax_G0 G) : va_K G.2.2.1 classes [] U := va_K.moved hW.alike hG.2
theorem ax_tight {p : Program} {l : Launch} {e : Env} {R : Room} {s : State} {m : MethodId} {args : Array Value} {below : List Frame} {meth : Method} {c : Code} {T : State} {locs : List Loc} {cells slots k n : Nat} (X : Stand p l e R s m args below meth c T locs cells slots) (h1 : T.heap.size ≤ s.heap.size + k) (h2 : ax_sz s.heap.size T.heap ≤ n) : Stand p l e R s m args below meth c T locs k n := by
  have hs := X.same
  obtain ⟨a1, a2, a3, a4, a5, a6⟩ := hs
  refine { X with same := ⟨a1, a2, h1, a4, ?_, a6⟩ }
  have h3 : ((T.heap.toList.drop s.heap.size).map (fun c : Cell => c.slots.size)).sum ≤ n := by
    unfold ax_sz at h2
    rw [← List.map_drop] at h2
    exact h2
  exact h3
theorem ax_sz_split {p : Program} {l : Launch} {e : Env} {R : Room} {s : State} {m : MethodId} {args : Array Value} {below : List Frame} {meth : Method} {c : Code} {T : State} {locs : List Loc} {cells slots : Nat} (X : Stand p l e R s m args below meth c T locs cells slots) {b : Nat} (hb : b ≤ s.heap.size) : ax_sz b T.heap = ax_sz b s.heap + ax_sz s.heap.size T.heap := by
  have hs := X.same
  obtain ⟨-, a2, -, -, -, a6⟩ := hs
  have a2 : s.heap.size ≤ T.heap.size := a2
  have key : (T.heap.toList.map (fun c : Cell => c.slots.size)).take s.heap.size = s.heap.toList.map (fun c : Cell => c.slots.size) := by
    apply List.ext_getElem?
    intro q
    by_cases hq : q < s.heap.size
    · rw [List.getElem?_take_of_lt hq, List.getElem?_map, List.getElem?_map, Array.getElem?_toList, Array.getElem?_toList]
      obtain ⟨c', h1, -, h3, -⟩ := a6 q s.heap[q] (Array.getElem?_eq_getElem hq)
      have h1 : T.heap[q]? = some c' := h1
      rw [h1, Array.getElem?_eq_getElem hq]
      simp [h3]
    · rw [List.getElem?_eq_none (by simp; omega), List.getElem?_eq_none (by simp; omega)]
  unfold ax_sz
  rw [← key]
  have e2 : ((T.heap.toList.map (fun c : Cell => c.slots.size)).drop b) = ((T.heap.toList.map (fun c : Cell => c.slots.size)).take s.heap.size).drop b ++ (T.heap.toList.map (fun c : Cell => c.slots.size)).drop s.heap.size := by
    conv => lhs; rw [← List.take_append_drop s.heap.size (T.heap.toList.map (fun c : Cell => c.slots.size))]
    rw [List.drop_append_of_le_length (by simp; omega)]
  rw [e2, List.sum_append]
