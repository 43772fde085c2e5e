section AXC
variable {G : ax_G} {x : ax_X} {Y : ax_Y} {fr lo : Nat} {h0 h : ax_H} {P : Option Value → ax_H → Prop} {pc : Nat} {ls : List (Option Value)} {st : List Value}
/-- an instruction's method, by its pool number -/
def ax_ml (own : String) (idx : Nat) (y : MethodName) : Prop := (Cond.methodLink own idx y ∈ lw_tbl) ∨ ∃ host : String, Cond.methodLinkNest own idx y host ∈ lw_tbl
/-- a method of n parameters: what the tables say of it -/
def ax_M (Y : ax_Y) (n : Nat) : Prop := Cond.initialized Y.1.cls ∈ lw_tbl ∧ Cond.code Y.1 Y.2.1 Y.2.2.1 Y.2.2.2 ∈ lw_tbl ∧ (Y.1.cls ≠ "java/lang/invoke/MethodHandle" ∧ Y.1.cls ≠ "java/lang/invoke/VarHandle") ∧ (parseMethodDescriptor Y.1.desc).map (fun d => d.parameters.length) = some n
/-- a static one, one of objects, a constructor -/
def ax_MS (Y : ax_Y) (n : Nat) : Prop := ax_M Y n ∧ Cond.static Y.1 ∈ lw_tbl
def ax_MV (Y : ax_Y) (n : Nat) : Prop := ax_M Y n ∧ Cond.instanceMethod Y.1 ∈ lw_tbl ∧ Cond.selects Y.1.cls Y.1 Y.1 ∈ lw_tbl
def ax_MI (Y : ax_Y) (n : Nat) : Prop := ax_M Y n ∧ Cond.instanceMethod Y.1 ∈ lw_tbl ∧ Y.1.name = "<init>" ∧ Y.2.2.2 = none
theorem ax_M.len {Y : ax_Y} {n : Nat} (m : ax_M Y n) : ∀ sig, parseMethodDescriptor Y.1.desc = some sig → n = sig.parameters.length := by
  intro sig hs
  have h2 := m.2.2.2
  rw [hs] at h2
  exact (Option.some.inj h2).symm
theorem ax_M.ws {Y : ax_Y} {n : Nat} (m : ax_M Y n) {s : State} (hW : G.2.1.WarmedH s.vm) (hG : ax_G0 G) : ∀ w ∈ [Cond.code Y.1 Y.2.1 Y.2.2.1 Y.2.2.2], ∀ (a' : Array Value) (U : State), s.WarmedH U.vm → w.before a' U = true := by
  intro w hw a' U hU
  rw [List.mem_singleton.mp hw]
  exact ax_word (State.WarmedH.trans hW hU) hG m.2.1 (ax_gCO _ _ _ _) a'
theorem ax_blind {av : List Value} : FrameBlind (va_Pc av (ax_U G h)) := fun _ _ _ _ q => ⟨q.1, q.2.1, q.2.2.1, q.2.2.2⟩
theorem ax_after {C0 : ax_C G x Y h0} (e1 : h0.1 ≤ h.1) (e2 : h0.2.1 ≤ h.2.1) {H : Heap} {locs : List Loc} {lsr : Array Slot} (hL : ∀ q ∈ locs, G.1 ≤ q.base) (hl : ax_L lsr Y.2.2.1 ls) {st0 : List Value} {a : Array Value} {P' : Option Value → ax_H → Prop}
    (hr : va_Run x.1 G.2.2.2.1 x.2.1 (ax_R fr lo G h0) x.2.2.1 x.2.2.2.1 x.2.2.2.2.1 x.2.2.2.2.2.1 x.2.2.2.2.2.2.1 x.2.2.2.2.2.2.2.1 H locs (h.1 - h0.1) (h.2.1 - h0.2.1) (room_1.cells - (h.1 - G.1)) (room_1.slots - h.2.1) (F0 x.2.2.2.1 pc lsr st0) st (ax_Q G h P' a) (fun q => G.1 ≤ q))
    (k : ∀ (v : Option Value) (h' : ax_H), P' v h' → AW G x Y fr lo h0 P h' (pc + 3) ls (v.toList ++ st)) :
    W x.1 G.2.2.2.1 x.2.1 (ax_R fr lo G h0) x.2.2.1 x.2.2.2.1 x.2.2.2.2.1 x.2.2.2.2.2.1 x.2.2.2.2.2.2.1 x.2.2.2.2.2.2.2.1 H locs (h.1 - h0.1) (h.2.1 - h0.2.1)
      (fun t => MQ x.2.2.2.2.2.1 (ax_Q G h0 P) x.2.2.2.2.1 x.2.2.1 (room_1.cells - (h0.1 - G.1)) (room_1.slots - h0.2.1) (fun q => G.1 ≤ q) t ∨ x.2.2.2.2.2.2.2.2 t) (F0 x.2.2.2.1 pc lsr st0) := by
  intro T hT X
  obtain ⟨v, st₀, t, T', L, hz, X', hL2, g1, g2, ⟨v', h', q1, q2, q3, q4, q5, q6, q7⟩, step⟩ := hr T hT X
  cases q1
  have q5 : ax_P G h' T'.heap := by rw [g1]; exact q5
  have hP0 := C0.2.2.2.2.2.2.2.2.2
  have kk := k v h' q2 C0 (Nat.le_trans e1 q3) (Nat.le_trans e2 q4) T'.heap (locs ++ L) lsr q5 (fun q hq => by
    rcases List.mem_append.mp hq with z | z
    · exact hL q z
    · exact hL2 q z) hl
  have hsp := ax_sz_split X' (b := G.1) (by rw [hP0.1]; exact hP0.2.1)
  have z1 : T'.heap.size = h'.1 := q5.1
  have z2 : ax_sz G.1 T'.heap = h'.2.1 := q5.2.2.2.1
  have z3 : x.2.2.1.heap.size = h0.1 := hP0.1
  have z4 : ax_sz G.1 x.2.2.1.heap = h0.2.1 := hP0.2.2.2.1
  obtain ⟨t2, a1, b1⟩ := kk T' rfl (ax_tight X' (by rw [z1, z3]; omega) (by omega))
  exact ⟨t2, step t2 a1, b1⟩
theorem ax_roomC {Y' : ax_Y} {fr' lo' : Nat} (C0 : ax_C G x Y h0) (e1 : h0.1 ≤ h.1) (e2 : h0.2.1 ≤ h.2.1) {H : Heap} (hP : ax_P G h H) : h.1 - h0.1 + (room_1.cells - (h.1 - G.1)) ≤ (ax_R fr lo G h0).cells ∧ h.2.1 - h0.2.1 + (room_1.slots - h.2.1) ≤ (ax_R fr lo G h0).slots := by
  have g0 : G.1 ≤ h0.1 := C0.2.2.2.2.2.2.2.2.2.2.1
  have g1 := hP.2.2.1
  have g2 := hP.2.2.2.2.1
  refine ⟨?_, ?_⟩
  · show h.1 - h0.1 + (room_1.cells - (h.1 - G.1)) ≤ room_1.cells - (h0.1 - G.1)
    omega
  · show h.2.1 - h0.2.1 + (room_1.slots - h.2.1) ≤ room_1.slots - h0.2.1
    omega
theorem aw_callS {Y' : ax_Y} {fr' lo' idx n : Nat} {av st0 : List Value} {P' : Option Value → ax_H → Prop} (M : AM G Y' fr' lo' av h P') (m : ax_MS Y' n) (w : ax_ml Y.1.cls idx Y'.1) (hn : av.length = n) (hst0 : av.reverse ++ st = st0) (hfr : fr' + 1 ≤ fr) (hlo : 8 + (Y'.2.2.1 + 11) + lo' ≤ lo) (hst : (st.map fun v => v.category).sum ≤ 8) (hd : decode Y.2.1 pc = .ok (.invokestatic idx, 3)) (k : ∀ (v : Option Value) (h' : ax_H), P' v h' → AW G x Y fr lo h0 P h' (pc + 3) ls (v.toList ++ st)) : AW G x Y fr lo h0 P h pc ls st0 := by
  subst hst0
  intro C0 e1 e2 H locs lsr hP hL hl
  have hW := C0.2.2.2.2.1
  have hG := C0.2.2.2.2.2.1
  refine ax_after (C0 := C0) (a := av.toArray) e1 e2 hL hl ?_ k
  have hp : PreS x.2.2.1 H (va_Pc av (ax_U G h)) av := ⟨ax_blind, fun U hU hw => ⟨rfl, by rw [hU]; exact hP, State.WarmedH.trans hW hw, hG⟩⟩
  rcases w with w | ⟨host, w⟩
  · exact va_runS (Ts := []) (n := n) (bytes := Y'.2.1) (maxL := Y'.2.2.1) (ret := Y'.2.2.2) ⟨C0.1, C0.2.1, C0.2.2.1, C0.2.2.2.1, fun w hw => by cases hw⟩ M ⟨⟨rfl, rfl, hfr, hlo, m.1.ws hW hG, List.mem_singleton.mpr rfl, ax_word hW hG m.1.2.1 (ax_gCO _ _ _ _) _, ax_word hW hG m.1.1 (ax_gII _) _, m.1.2.2.1, m.1.len, ax_word hW hG w (ax_gML _ _ _) _⟩, ax_word hW hG m.2 (ax_gST _) _⟩ hp rfl hn hl.size rfl (lv_room hst) hd (ax_roomC (Y' := Y') (fr' := fr') (lo' := lo') C0 e1 e2 hP)
  · exact va_runSN (Ts := []) (n := n) (bytes := Y'.2.1) (maxL := Y'.2.2.1) (ret := Y'.2.2.2) ⟨C0.1, C0.2.1, C0.2.2.1, C0.2.2.2.1, fun w hw => by cases hw⟩ M ⟨⟨⟨rfl, rfl, hfr, hlo, m.1.ws hW hG, List.mem_singleton.mpr rfl⟩, ax_word hW hG m.1.2.1 (ax_gCO _ _ _ _) _, ax_word hW hG m.1.1 (ax_gII _) _, m.1.2.2.1, m.1.len, ax_nestM hW hG w _⟩, ax_word hW hG m.2 (ax_gST _) _, trivial⟩ hp rfl hn hl.size rfl (lv_room hst) hd (ax_roomC (Y' := Y') (fr' := fr') (lo' := lo') C0 e1 e2 hP)
theorem aw_callV {Y' : ax_Y} {fr' lo' idx n b ci : Nat} {T : u_T} {N : Nat} {tys : Nat → FieldType} {fs : List Value} {av st0 : List Value} {P' : Option Value → ax_H → Prop} (M : AM G Y' fr' lo' (.ref b :: av) h P') (c : ax_cl ci Y'.1.cls T N tys) (hb : h.2.2 b = some (.inr (ci, fs))) (m : ax_MV Y' n) (w : ax_ml Y.1.cls idx Y'.1) (hn : av.length = n) (hst0 : av.reverse ++ .ref b :: st = st0) (hfr : fr' + 1 ≤ fr) (hlo : 8 + (Y'.2.2.1 + 11) + lo' ≤ lo) (hst : (st.map fun v => v.category).sum ≤ 8) (hd : decode Y.2.1 pc = .ok (.invokevirtual idx, 3)) (k : ∀ (v : Option Value) (h' : ax_H), P' v h' → AW G x Y fr lo h0 P h' (pc + 3) ls (v.toList ++ st)) : AW G x Y fr lo h0 P h pc ls st0 := by
  subst hst0
  intro C0 e1 e2 H locs lsr hP hL hl
  have hW := C0.2.2.2.2.1
  have hG := C0.2.2.2.2.2.1
  refine ax_after (C0 := C0) (a := (.ref b :: av).toArray) e1 e2 hL hl ?_ k
  have hp : PreV x.2.2.1 H Y'.1.cls b (va_Pc (.ref b :: av) (ax_U G h)) av := ⟨ax_blind, ax_recv c hW hG hP hb, fun U hU hw => ⟨rfl, by rw [hU]; exact hP, State.WarmedH.trans hW hw, hG⟩⟩
  rcases w with w | ⟨host, w⟩
  · exact va_runV (Ts := []) (n := n) (bytes := Y'.2.1) (maxL := Y'.2.2.1) (ret := Y'.2.2.2) ⟨C0.1, C0.2.1, C0.2.2.1, C0.2.2.2.1, fun w hw => by cases hw⟩ M ⟨⟨rfl, rfl, hfr, hlo, m.1.ws hW hG, List.mem_singleton.mpr rfl, ax_word hW hG m.1.2.1 (ax_gCO _ _ _ _) _, ax_word hW hG m.1.1 (ax_gII _) _, m.1.2.2.1, m.1.len, ax_word hW hG w (ax_gML _ _ _) _⟩, ax_word hW hG m.2.1 (ax_gIM _) _, ax_word hW hG m.2.2 (ax_gSE _ _ _) _⟩ hp rfl hn hl.size rfl (lv_room hst) hd (ax_roomC (Y' := Y') (fr' := fr') (lo' := lo') C0 e1 e2 hP)
  · exact va_runVN (Ts := []) (n := n) (bytes := Y'.2.1) (maxL := Y'.2.2.1) (ret := Y'.2.2.2) ⟨C0.1, C0.2.1, C0.2.2.1, C0.2.2.2.1, fun w hw => by cases hw⟩ M ⟨⟨⟨rfl, rfl, hfr, hlo, m.1.ws hW hG, List.mem_singleton.mpr rfl⟩, ax_word hW hG m.1.2.1 (ax_gCO _ _ _ _) _, ax_word hW hG m.1.1 (ax_gII _) _, m.1.2.2.1, m.1.len, ax_nestM hW hG w _⟩, ax_word hW hG m.2.1 (ax_gIM _) _, ax_word hW hG m.2.2 (ax_gSE _ _ _) _⟩ hp rfl hn hl.size rfl (lv_room hst) hd (ax_roomC (Y' := Y') (fr' := fr') (lo' := lo') C0 e1 e2 hP)
theorem aw_callI {Y' : ax_Y} {fr' lo' idx n b : Nat} {av st0 : List Value} {P' : Option Value → ax_H → Prop} (M : AM G Y' fr' lo' (.ref b :: av) h P') (m : ax_MI Y' n) (w : ax_ml Y.1.cls idx Y'.1) (hn : av.length = n) (hst0 : av.reverse ++ .ref b :: st = st0) (hfr : fr' + 1 ≤ fr) (hlo : 8 + (Y'.2.2.1 + 11) + lo' ≤ lo) (hst : (st.map fun v => v.category).sum ≤ 8) (hd : decode Y.2.1 pc = .ok (.invokespecial idx, 3)) (k : ∀ (v : Option Value) (h' : ax_H), P' v h' → AW G x Y fr lo h0 P h' (pc + 3) ls (v.toList ++ st)) : AW G x Y fr lo h0 P h pc ls st0 := by
  subst hst0
  intro C0 e1 e2 H locs lsr hP hL hl
  have hW := C0.2.2.2.2.1
  have hG := C0.2.2.2.2.2.1
  refine ax_after (C0 := C0) (a := (.ref b :: av).toArray) e1 e2 hL hl ?_ k
  have hp : PreS x.2.2.1 H (va_Pc (.ref b :: av) (ax_U G h)) (.ref b :: av) := ⟨ax_blind, fun U hU hw => ⟨rfl, by rw [hU]; exact hP, State.WarmedH.trans hW hw, hG⟩⟩
  obtain ⟨m1, m2, m3, m4⟩ := m
  obtain ⟨y, bytes, maxL, ret⟩ := Y'
  have m4 : ret = none := m4
  subst m4
  rcases w with w | ⟨host, w⟩
  · exact va_runI (Ts := []) (n := n) (bytes := bytes) (maxL := maxL) ⟨C0.1, C0.2.1, C0.2.2.1, C0.2.2.2.1, fun w hw => by cases hw⟩ M ⟨⟨rfl, rfl, hfr, hlo, m1.ws hW hG, List.mem_singleton.mpr rfl, ax_word hW hG m1.2.1 (ax_gCO _ _ _ _) _, ax_word hW hG m1.1 (ax_gII _) _, m1.2.2.1, m1.len, ax_word hW hG w (ax_gML _ _ _) _⟩, m3, ax_word hW hG m2 (ax_gIM _) _⟩ hp rfl hn hl.size rfl (lv_room hst) hd (ax_roomC (Y' := (y, bytes, maxL, none)) (fr' := fr') (lo' := lo') C0 e1 e2 hP)
  · exact va_runIN (Ts := []) (n := n) (bytes := bytes) (maxL := maxL) ⟨C0.1, C0.2.1, C0.2.2.1, C0.2.2.2.1, fun w hw => by cases hw⟩ M ⟨⟨⟨rfl, rfl, hfr, hlo, m1.ws hW hG, List.mem_singleton.mpr rfl⟩, ax_word hW hG m1.2.1 (ax_gCO _ _ _ _) _, ax_word hW hG m1.1 (ax_gII _) _, m1.2.2.1, m1.len, ax_nestM hW hG w _⟩, m3, ax_word hW hG m2 (ax_gIM _) _⟩ hp rfl hn hl.size rfl (lv_room hst) hd (ax_roomC (Y' := (y, bytes, maxL, none)) (fr' := fr') (lo' := lo') C0 e1 e2 hP)
theorem aw_objInit {idx a : Nat} (w1 : Cond.methodLink Y.1.cls idx Lib.objectInit ∈ lw_tbl) (w2 : Cond.instanceMethod Lib.objectInit ∈ lw_tbl) (w3 : Cond.code Lib.objectInit ⟨#[0xb1]⟩ 1 none ∈ lw_tbl) (hfr : 1 ≤ fr) (hlo : (st.map fun v => v.category).sum + 12 ≤ lo) (hd : decode Y.2.1 pc = .ok (.invokespecial idx, 3)) (k : AW G x Y fr lo h0 P h (pc + 3) ls st) : AW G x Y fr lo h0 P h pc ls (.ref a :: st) := by
  intro C0 e1 e2 H locs lsr hP hL hl
  have hW := C0.2.2.2.2.1
  have hG := C0.2.2.2.2.2.1
  exact W.objInit C0.1 C0.2.1 C0.2.2.2.1 (ax_word hW hG w1 (ax_gML _ _ _) _) (ax_word hW hG w2 (ax_gIM _) _) (ax_word hW hG w3 (ax_gCO _ _ _ _) _) rfl (hl.size.trans C0.2.2.1.symm) rfl hd hfr (by show 2 * 0 + _ + 12 ≤ lo; omega) (k C0 e1 e2 H locs lsr hP hL hl)
/-- a contract's end may say less -/
theorem AM.post {fr' lo' : Nat} {av : List Value} {P' : Option Value → ax_H → Prop} (hp : ∀ v h', P' v h' → P v h') (M : AM G Y fr lo av h P') : AM G Y fr lo av h P := by
  intro p e ha hc hk s m args below hf happ hpre htr
  obtain ⟨n, o, b1, b2, b3, ⟨v, h', c1, c2, c3⟩, b4⟩ := M p e ha hc hk s m args below hf happ hpre htr
  exact ⟨n, o, b1, b2, b3, ⟨v, h', c1, hp v h' c2, c3⟩, b4⟩
end AXC
