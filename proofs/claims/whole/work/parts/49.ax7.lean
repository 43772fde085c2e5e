section AXF
variable {p : Program} {l : Launch} {e : Env} {R : Room} {s : State} {m : MethodId} {args : Array Value} {below : List Frame} {meth : Method} {c : Code} {T : State} {locs : List Loc} {cells slots : Nat} {g : JFrame}
/-- the first entry of the table covers the place and its class can be linked: the search ends there, with the tables that the linking leaves -/
theorem ax_find {a : Nat} (hm : s.vm.method? g.method = some meth) (hc : meth.code = some c) {z : ExceptionTableEntry} {rest : List ExceptionTableEntry} (hx : c.exceptionTable.toList = z :: rest) (hcov : covers z g.pc = true) (h0 : z.catchType ≠ 0) {ct : ClassId} {vm' : Vm} (hr : (Jvm.resolveClass g.method.cls z.catchType).Gives e.toSetting s.vm (.ok ct) vm') (hsz : vm'.classes.size ≤ s.vm.classes.size) {cell : Cell} (hcell : s.heap[a]? = some cell) (hobj : ∀ k, cell.vm ≠ .statics k) {k1 k2 : Class} (hk1 : vm'.classes[cell.cls]? = some k1) (hk2 : vm'.classes[ct]? = some k2) (hfit : vm'.assignable cell.cls ct = true) (Q : Handler → Pre) (E : CtlPost) (d : Bool) (acts : List Action) :
    Jvm.Sem.wp (findHandler g a) Q E e d acts s ↔ Q (.found z.handlerPc) d acts (s.setVm vm') := by
  obtain ⟨ha, ht⟩ := hr.op (op := VmOp.resolveClass g.method.cls z.catchType) rfl
  rw [Jvm.W.findHandler_eq hm hc, hx]
  simp only [covers] at hcov
  simp [findHandler.go, hcov, h0, ha, ht, hsz, hcell, hobj, hk1, hk2, hfit, VmOp.dirties, VmOp.acts]
/-- one step of a thread whose note 'a is being thrown' lies over the frame g, where the search is known to end at pc with the tables vm' -/
theorem ax_searched {a pc : Nat} {vm' : Vm} {r : List Frame} (hf : ∀ (Q : Handler → Pre) (E : CtlPost) (d : Bool) (acts : List Action), Jvm.Sem.wp (findHandler g a) Q E e d acts s ↔ Q (.found pc) d acts (s.setVm vm')) :
    (stepThrowing e s a (.java g :: r)).1 = (s.setVm vm').setFrames (.java { g with pc := pc, stack := [.ref a] } :: r) := by
  simp only [stepThrowing, searchFrame, vmDo]
  generalize hr : Sem.go _ e false [] s = res
  obtain ⟨as, rfl, -⟩ := Sem.eq_ok_of hr (a := Handler.found pc) (s' := s.setVm vm') (acts' := []) (by simp [hf])
  rfl
/-- a throw that the first entry of the method's own table takes, its class linked by the way -/
theorem ax_caught (X : Stand p l e R s m args below meth c T locs cells slots) (a : Nat) (hg : g.method = m) {own name : String} (hown : s.vm.findClass own = some m.cls) {z : ExceptionTableEntry} {rest : List ExceptionTableEntry} (hx : c.exceptionTable.toList = z :: rest) (hcov : covers z g.pc = true) (h0 : z.catchType ≠ 0) (hlink : (Cond.classLink own z.catchType name).before args s = true) {ct : ClassId} (hct : s.vm.findClass name = some ct) {cell : Cell} (hcell : T.heap[a]? = some cell) (hobj : cell.vm.isStatics = false) (hfit : s.vm.assignable cell.cls ct = true) :
    ∃ vm', Stand p l e R s m args below meth c (T.setVm vm') locs cells slots ∧ ∀ target, Steps p.tables e below ((T.setVm vm').setTop { g with pc := z.handlerPc, stack := [.ref a] }) target → Steps p.tables e below ((T.setTop g).pushFrame (.throwing a)) target := by
  obtain ⟨c', hc', hl⟩ := Cond.classLink_spec hown hlink e.platform (by rw [X.admits.platform])
  cases hct.symm.trans hc'
  obtain ⟨kd, _, _, kt, hkd, _, _, _, _, hkt, _, hopen⟩ := hl.here
  have hW : s.WarmedH (T.vm.noted m.cls z.catchType (.cls ct)) := X.warmed.noted hkd hopen (State.rightAt_cls hl)
  obtain ⟨ks, hks⟩ := Vm.classAt_of_assignable hfit ⟨kt, hkt⟩
  obtain ⟨k1, hk1, -⟩ := hW.alike.2.2 _ _ hks
  obtain ⟨k2, hk2, -⟩ := hW.alike.2.2 _ _ hkt
  have hX := X.noted hW
  refine ⟨_, hX, fun target hgo => ?_⟩
  subst hg
  obtain ⟨w1, w2⟩ := X.here.throwing a
  refine Steps.head w1 w2 ?_
  obtain ⟨g0, hg0⟩ := Option.isSome_iff_exists.mp X.here.top
  obtain ⟨r, hr⟩ := State.topJava?_eq_some.mp hg0
  have hvm : ((T.setTop g).pushFrame (.throwing a)).vm = T.vm := Jvm.Stand.throwing_vm T g a
  have hhp : ((T.setTop g).pushFrame (.throwing a)).heap = T.heap := Jvm.Stand.throwing_heap T g a
  rw [stepThread_throwing (frames_entered X.here.top _), ax_searched (ax_find (s := (T.setTop g).pushFrame (.throwing a)) (meth := meth) (by rw [hvm, X.warmed.alike.method?]; exact X.method) X.code hx hcov h0 (by rw [hvm]; exact resolveClass_links e.toSetting (X.warmed.classLinks hl)) (by rw [hvm, Vm.size_noted]; exact Nat.le_refl _) (by rw [hhp]; exact hcell) (fun k q => by rw [q] at hobj; cases hobj) hk1 hk2 (by rw [hW.alike.assignable]; exact hfit))]
  have hr' : (T.setVm (T.vm.noted g.method.cls z.catchType (.cls ct))).frames = .java g0 :: r := hr
  rw [State.setTop_of_frames _ hr'] at hgo
  rw [State.pushFrame, State.setTop_of_frames _ hr, hr, State.setFrames_setFrames]
  show Steps _ _ _ (((T.setVm (T.vm.noted g.method.cls z.catchType (.cls ct))).setFrames _).setFrames _) target
  rw [State.setFrames_setFrames]
  exact hgo
/-- a call of a method that ends by a throw: the note lies over the caller's frame, the invocation stands -/
theorem ax_thrown (X : Stand p l e R s m args below meth c T locs cells slots) {y : MethodName} {S : Spec} {P : Array Value → State → Prop} {Q : Array Value → State → Outcome → State → Prop} (hM : MetFree l y S P (fun _ _ _ _ _ => True) Q) {bytes : ByteArray} {maxL len w : Nat} {ret : Option FieldType} {ig : Instr} {mk : MethodId} {a : Array Value} (hg : g.method = m) (hsize : g.locals.size = c.maxLocals) (hd : decode c.code g.pc = .ok (ig, len)) (hw : 2 * g.monitorRoom + (g.stack.map fun v => v.category).sum ≤ w) (hn : T.methodNamed? y = some mk) (hfr : S.room.frames + 1 ≤ R.frames) (hlo : w + (maxL + 11) + S.room.locals ≤ R.locals) (h1 : S.pre.before a T = true) (h2 : (Cond.code y bytes maxL ret).before a T = true) (h3 : (Cond.initialized y.cls).before a T = true) (h4 : cells + S.room.cells ≤ R.cells) (h5 : slots + S.room.slots ≤ R.slots) (hP : P a (T.calling g mk a))
    {F : Nat → State → List Loc → Nat → Nat → Prop} (hQ : ∀ o t, Q a (T.calling g mk a) o t → ∃ v L k n, o = .threw v ∧ ax_FT (T.calling g mk a) t L k n ∧ F v t L k n) :
    ∃ (v : Nat) (t : State) (L : List Loc) (k n : Nat), F v t L k n ∧ Stand p l e R s m args below meth c (({ T with heap := t.heap, slotsUsed := t.slotsUsed } : State).setVm t.vm) (locs ++ L) (cells + k) (slots + n) ∧ Steps p.tables e below (doInvoke e (T.setTop g) [] mk a).1 (((({ T with heap := t.heap, slotsUsed := t.slotsUsed } : State).setVm t.vm).setTop g).pushFrame (.throwing v)) := by
  subst hg
  have hA := X.here
  obtain ⟨meth', c', hm', hc', -, hl', -⟩ := Cond.code_spec hn h2
  obtain ⟨k', hk', -⟩ := className_of_methodNamed hn
  obtain ⟨mid, hmid⟩ := hA.above
  obtain ⟨o, t, hst, -, hend, hq⟩ := Steps.callFree hM p X.admits X.cas X.clock (s := T.setTop g) (m := mk) (args := a) (acts := []) (mid := .java g :: mid) (below := below) (by rw [State.frames_setTop' g hA.top, hmid]; rfl)
    (Spec.appliesLoose_calling (g := g) hA hd hn hk' (Cond.initialized_spec (findClass_of_methodNamed hn) hk' h3) (X.room_calling (g := g) (R' := S.room) hsize hm' hc' hfr (by rw [hl']; omega) h4 h5) h1) hP trivial
  obtain ⟨v, L, k, n, rfl, ⟨f1, f2⟩, f3⟩ := hQ o t hq
  have f1 : T.WarmedH t.vm := f1
  obtain ⟨e2, q⟩ := f2
  have hend : t.frames = .throwing v :: (T.setTop g).frames := hend
  rw [State.frames_setTop' g hA.top] at hend
  obtain ⟨g0, hg0⟩ := Option.isSome_iff_exists.mp hA.top
  obtain ⟨r, hr⟩ := State.topJava?_eq_some.mp hg0
  have ht : t = ({ (T.calling g mk a).setFrames t.frames with heap := t.heap, slotsUsed := t.slotsUsed } : State).setVm t.vm := by
    have z : t = ({ t with vm := (T.calling g mk a).vm } : State).setVm t.vm := rfl
    rw [e2] at z
    exact z
  have ht2 : t = ((({ T with heap := t.heap, slotsUsed := t.slotsUsed } : State).setVm t.vm).setTop g).pushFrame (.throwing v) := by
    have hr' : (({ T with heap := t.heap, slotsUsed := t.slotsUsed } : State).setVm t.vm).frames = .java g0 :: r := hr
    refine ht.trans ?_
    rw [hend, State.calling_eq hA.top, State.setFrames_setFrames, State.pushFrame, State.frames_setTop _ hr', State.setTop_of_frames _ hr', State.setFrames_setFrames, hr]
    rfl
  have hs : T.sameButNew ({ T with heap := t.heap, slotsUsed := t.slotsUsed } : State) L k n := by
    refine ⟨?_, q⟩
    obtain ⟨th, hth, -⟩ := State.frames_cons hr
    show ({ T with heap := t.heap, slotsUsed := t.slotsUsed } : State) = { T.setFrames T.frames with heap := t.heap, slotsUsed := t.slotsUsed }
    rw [State.setFrames_self hth]
  refine ⟨v, t, L, k, n, f3, ⟨X.admits, X.cas, X.clock, X.frames, X.room, X.hears, X.method, X.code, (hA.setHeapUsed t.heap t.slotsUsed).setVm f1.alike, X.tail, State.WarmedH.trans X.warmed f1, X.limits, X.bytes, X.same.trans (hs.setVm s.vm)⟩, ?_⟩
  rw [← ht2]
  exact hst
end AXF
section AXC
variable {G : ax_G} {x : ax_X} {Y : ax_Y} {fr lo : Nat} {h0 h : ax_H} {P : Option Value → ax_H → Prop} {PT : Nat → ax_H → Prop} {pc : Nat} {ls : List (Option Value)} {st : List Value}
/-- A CONTRACT OF A METHOD WITH HANDLERS -/
def AMH (G : ax_G) (Y : ax_Y) (hs : List (Nat × Nat × Nat × Nat)) (fr lo : Nat) (av : List Value) (h : ax_H) (P : Option Value → ax_H → Prop) : Prop :=
  Met G.2.2.2.1 Y.1 [.codeWith Y.1 Y.2.1 Y.2.2.1 Y.2.2.2 hs] (ax_R fr lo G h) (va_Pc av (ax_U G h)) (ax_Q G h P) (room_1.cells - (h.1 - G.1)) (room_1.slots - h.2.1) (fun q => G.1 ≤ q)
theorem aw_enterH {av : List Value} {hs : List (Nat × Nat × Nat × Nat)} (hy : plainName Y.1.cls = true) (hn : (lg_sl av).length ≤ Y.2.2.1) {n : Nat} {ls : List (Option Value)} (hl : ax_ls av ++ List.replicate n none = ls) (k : ∀ x : ax_X, x.2.2.2.2.2.2.2.1.exceptionTable.toList = tableOf hs → AW G x Y fr lo h P h 0 ls []) : AMH G Y hs fr lo av h P := by
  subst hl
  unfold AMH Met
  refine MetFree.of_bodyS (code := Y.2.1) (maxLocals := Y.2.2.1) (ret := Y.2.2.2) hy ?_ ?_
  · intro args s m hh hm
    obtain ⟨m', meth, c, hname', hmeth, hcode, hbytes, hlocals, -, hret, hlocks, -⟩ := Cond.codeWith_spec (atoms_spec (ws := [.codeWith Y.1 Y.2.1 Y.2.2.1 Y.2.2.2 hs]) hh _ List.mem_cons_self)
    cases hm.symm.trans hname'
    exact ⟨meth, c, hmeth, hcode, hbytes, hlocals, hret, hlocks⟩
  · intro p e s m args below meth c s₁ B hml hv _
    have hh0 : s₁.heap = s.heap := by rw [B.state]; rfl
    have hX := Stand.of_body B
    have htab : c.exceptionTable.toList = tableOf hs := by
      obtain ⟨m', meth', c', hname', hmeth, hcode, -, -, ht, -⟩ := Cond.codeWith_spec (atoms_spec (ws := [.codeWith Y.1 Y.2.1 Y.2.2.1 Y.2.2.2 hs]) B.pre _ List.mem_cons_self)
      cases B.named.symm.trans hname'
      cases B.method.symm.trans hmeth
      cases hX.code.symm.trans hcode
      rw [← ht, table_eq]
    obtain ⟨rfl, hP, hW, hG⟩ := hv
    have hown : s.vm.findClass Y.1.cls = some m.cls := findClass_of_methodNamed B.named
    have hnm : meth.name = Y.1.name := (name_of_methodNamed B.named B.method).1
    rw [lg_entry_eq]
    have h1 := k (p, e, s, m, av.toArray, below, meth, c, fun _ => False) htab ⟨B.exec, B.bytes, hml, hown, hW, hG, B.notSynchronized, B.returns, hnm, hP⟩ (Nat.le_refl _) (Nat.le_refl _) s.heap [] _ hP (fun q h => by cases h) ⟨_, lv_entry av hn, fun i v hv => ax_ls_pad hv⟩
    rw [Nat.sub_self, Nat.sub_self] at h1
    obtain ⟨t, a1, q⟩ := h1 s₁ hh0 hX
    obtain ⟨o, b1, b2, b3⟩ := q.resolve_right id
    exact ⟨t, o, a1, b1, b2, ⟨b3.1, b3.2⟩⟩
/-- a virtual call that throws, and is caught by the first entry of the method's own table -/
theorem aw_callVC {Y' : ax_Y} {fr' lo' idx n b ci : Nat} {T : u_T} {N : Nat} {tys : Nat → FieldType} {fs : List Value} {av st0 : List Value} (M : AT G Y' fr' lo' (.ref b :: av) h PT) (c : ax_cl ci Y'.1.cls T N tys) (hb : h.2.2 b = some (.inr (ci, fs))) (m : ax_MV Y' n) (w : Cond.methodLink Y.1.cls idx Y'.1 ∈ lw_tbl) (hn : av.length = n) (hst0 : av.reverse ++ .ref b :: st = st0) (hfr : fr' + 1 ≤ fr) (hlo : 8 + (Y'.2.2.1 + 11) + lo' ≤ lo) (hst : (st.map fun v => v.category).sum ≤ 8) (hd : decode Y.2.1 pc = .ok (.invokevirtual idx, 3))
    {z : ExceptionTableEntry} {rest : List ExceptionTableEntry} (hx : x.2.2.2.2.2.2.2.1.exceptionTable.toList = z :: rest) (hcov : covers z pc = true) (hct : z.catchType ≠ 0) {E : String} (wE : Cond.classLink Y.1.cls z.catchType E ∈ lw_tbl) {ciE NE : Nat} {TE : u_T} {tysE : Nat → FieldType} (cE : ax_cl ciE E TE NE tysE) (hE : ∀ a h', PT a h' → ∃ fs, h'.2.2 a = some (.inr (ciE, fs))) (wC : Cond.castable E E ∈ lw_tbl)
    (k : ∀ (a : Nat) (h' : ax_H), PT a h' → AW G x Y fr lo h0 P h' z.handlerPc ls [.ref a]) : AW G x Y fr lo h0 P h pc ls st0 := by
  subst hst0
  intro C0 e1 e2 H locs lsr hP hL hl T0 hT X
  have hW := C0.2.2.2.2.1
  have hG := C0.2.2.2.2.2.1
  have hroom := ax_roomC (fr := fr) (lo := lo) (Y' := Y') (fr' := fr') (lo' := lo') C0 e1 e2 hP
  obtain ⟨cellB, hcB, hoB, hclB⟩ := ax_recv c hW hG hP hb
  obtain ⟨mk, methM, hnamed, hmethM, hstM, habM⟩ := Cond.instanceMethod_spec (ax_word hW hG m.2.1 (ax_gIM _) x.2.2.2.2.1)
  obtain ⟨methM', cM, hmethM', -, -, -, -, -, -, hsigM⟩ := Cond.code_spec hnamed (ax_word hW hG m.1.2.1 (ax_gCO _ _ _ _) x.2.2.2.2.1)
  cases hmethM.symm.trans hmethM'
  obtain ⟨c2, r2, m2, q1, q2, q3, q4, kP, hkP, hkPi⟩ := Cond.selects_spec (ax_word hW hG m.2.2 (ax_gSE _ _ _) x.2.2.2.2.1)
  cases hclB.symm.trans q1
  cases (State.methodFound?_of_named hnamed m.1.2.2.1).symm.trans q2
  cases hnamed.symm.trans q3
  have hselP : selectMethod x.2.1.platform x.2.2.1.vm cellB.cls mk = .method mk := by rw [Launch.admits_selectMethod X.admits]; exact q4
  obtain ⟨vm₁, X₁, hstep₁⟩ := X.invokevirtual C0.1 C0.2.2.2.1 (ax_word hW hG w (ax_gML _ _ _) x.2.2.2.2.1) hnamed hmethM hstM hkP hkPi m.1.2.2.1 (a := b) (cell := cellB) (by rw [hT]; exact hcB)
    (fun z h => by rw [h] at hoB; cases hoB) hselP hmethM habM hkP hkPi (g := F0 x.2.2.2.1 pc lsr (av.reverse ++ .ref b :: st)) rfl (argsL := av) (rest := st) (hn.trans (m.1.len _ hsigM)) rfl (by rw [C0.2.1]; exact hd)
  have hW₁ := State.WarmedH.trans hW X₁.warmed
  obtain ⟨v, t, L, k', n', ⟨h', p1, p2, p3, p4, p7, rfl, rfl⟩, X', hsteps⟩ := ax_thrown X₁ M (g := F0 x.2.2.2.1 pc lsr st) (bytes := Y'.2.1) (maxL := Y'.2.2.1) (ret := Y'.2.2.2) (w := 8) (a := (Value.ref b :: av).toArray) rfl (hl.size.trans C0.2.2.1.symm) (by rw [C0.2.1]; exact hd) (lv_room hst) (X₁.named hnamed) hfr hlo (atoms_intro fun w' hw' => by rw [List.mem_singleton.mp hw']; exact ax_word hW₁ hG m.1.2.1 (ax_gCO _ _ _ _) _) (ax_word hW₁ hG m.1.2.1 (ax_gCO _ _ _ _) _) (ax_word hW₁ hG m.1.1 (ax_gII _) _) hroom.1 hroom.2 (ax_blind _ _ _ _ ⟨rfl, by show ax_P G h T0.heap; rw [hT]; exact hP, hW₁, hG⟩)
    (F := fun v t L k n => ∃ h' : ax_H, PT v h' ∧ h.1 ≤ h'.1 ∧ h.2.1 ≤ h'.2.1 ∧ ax_U G h' t ∧ (∀ q ∈ L, G.1 ≤ q.base) ∧ k = room_1.cells - (h.1 - G.1) ∧ n = room_1.slots - h.2.1)
    (by
      rintro o t ⟨v, r0, ⟨h', r1, r2, r3, r4⟩, L, r5, r6⟩
      exact ⟨v, L, _, _, r0, r5, h', r1, r2, r3, r4, r6, rfl, rfl⟩)
  generalize hU : (({ T0.setVm vm₁ with heap := t.heap, slotsUsed := t.slotsUsed } : State).setVm t.vm) = U' at X' hsteps
  have p5 : U'.heap = t.heap := by rw [← hU]; rfl
  have hP' : ax_P G h' U'.heap := by rw [p5]; exact p4.1
  obtain ⟨fsE, hfE⟩ := hE v h' p1
  obtain ⟨cellE, hcE, hoE, hclE⟩ := ax_recv cE hW hG hP' hfE
  obtain ⟨cE1, cT, d1, d2, d3⟩ := Cond.castable_spec (ax_cst hW hG wC x.2.2.2.2.1)
  cases hclE.symm.trans d1
  obtain ⟨vm2, X2, hst2⟩ := ax_caught X' v (g := F0 x.2.2.2.1 pc lsr st) rfl C0.2.2.2.1 hx hcov hct (ax_word hW hG wE (ax_gCL _ _ _) x.2.2.2.2.1) d2 hcE hoE d3
  have hP0 := C0.2.2.2.2.2.2.2.2.2
  have kk := k v h' p1 C0 (Nat.le_trans e1 p2) (Nat.le_trans e2 p3) U'.heap (locs ++ L) lsr hP' (fun q hq => by
    rcases List.mem_append.mp hq with z | z
    · exact hL q z
    · exact p7 q z) hl
  have hsp := ax_sz_split X2 (b := G.1) (by rw [hP0.1]; exact hP0.2.1)
  have z1 : U'.heap.size = h'.1 := hP'.1
  have z2 : ax_sz G.1 U'.heap = h'.2.1 := hP'.2.2.2.1
  have z3 : x.2.2.1.heap.size = h0.1 := hP0.1
  have z4 : ax_sz G.1 x.2.2.1.heap = h0.2.1 := hP0.2.2.2.1
  have hsp : ax_sz G.1 U'.heap = ax_sz G.1 x.2.2.1.heap + ax_sz x.2.2.1.heap.size U'.heap := hsp
  obtain ⟨t2, a1, b1⟩ := kk (U'.setVm vm2) rfl (ax_tight X2 (by show U'.heap.size ≤ _; rw [z1, z3]; omega) (by show ax_sz _ U'.heap ≤ _; omega))
  refine ⟨t2, ?_, b1⟩
  refine hstep₁ _ fun acts => ?_
  rw [doInvoke_state]
  refine hsteps.trans ?_
  exact hst2 t2 a1
/-- the words of a method with handlers -/
def ax_MH (Y : ax_Y) (hs : List (Nat × Nat × Nat × Nat)) (n : Nat) : Prop := Cond.initialized Y.1.cls ∈ lw_tbl ∧ Cond.codeWith Y.1 Y.2.1 Y.2.2.1 Y.2.2.2 hs ∈ lw_tbl ∧ (Y.1.cls ≠ "java/lang/invoke/MethodHandle" ∧ Y.1.cls ≠ "java/lang/invoke/VarHandle") ∧ (parseMethodDescriptor Y.1.desc).map (fun d => d.parameters.length) = some n ∧ Cond.static Y.1 ∈ lw_tbl
theorem ax_gCW (y : MethodName) (b : ByteArray) (n : Nat) (r : Option FieldType) (hs : List (Nat × Nat × Nat × Nat)) : goodWord (.codeWith y b n r hs) = true := by first | rfl | simp [goodWord, Cond.onTables, Cond.keeps, Cond.steady]
theorem aw_callSH {Y' : ax_Y} {hs : List (Nat × Nat × Nat × Nat)} {fr' lo' idx n : Nat} {av st0 : List Value} {P' : Option Value → ax_H → Prop} (M : AMH G Y' hs fr' lo' av h P') (m : ax_MH Y' hs n) (w : Cond.methodLink Y.1.cls idx Y'.1 ∈ lw_tbl) (hn : av.length = n) (hst0 : av.reverse ++ st = st0) (hfr : fr' + 1 ≤ fr) (hlo : 8 + (Y'.2.2.1 + 11) + lo' ≤ lo) (hst : (st.map fun v => v.category).sum ≤ 8) (hd : decode Y.2.1 pc = .ok (.invokestatic idx, 3)) (k : ∀ (v : Option Value) (h' : ax_H), P' v h' → AW G x Y fr lo h0 P h' (pc + 3) ls (v.toList ++ st)) : AW G x Y fr lo h0 P h pc ls st0 := by
  subst hst0
  intro C0 e1 e2 H locs lsr hP hL hl
  have hW := C0.2.2.2.2.1
  have hG := C0.2.2.2.2.2.1
  have hroom := ax_roomC (fr := fr) (lo := lo) (Y' := Y') (fr' := fr') (lo' := lo') C0 e1 e2 hP
  refine ax_after (C0 := C0) (a := av.toArray) e1 e2 hL hl ?_ k
  have hK : Back G.2.2.2.1 (ax_R fr lo G h0) x.1 x.2.1 x.2.2.2.2.2.1 x.2.2.1 x.2.2.2.2.1 Y'.1 3 8 (PreOf (ax_R fr lo G h0) (room_1.cells - (h.1 - G.1)) (room_1.slots - h.2.1) (va_Pc av (ax_U G h))) (PostOf (ax_Q G h P') (room_1.cells - (h.1 - G.1)) (room_1.slots - h.2.1) (fun q => G.1 ≤ q)) := by
    unfold AMH Met at M
    refine Back.of_freeWith (bytes := Y'.2.1) (maxL := Y'.2.2.1) (ret := Y'.2.2.2) (handlers := hs) (E := fun _ _ _ _ L k n => k = room_1.cells - (h.1 - G.1) ∧ n = room_1.slots - h.2.1 ∧ ∀ q ∈ L, G.1 ≤ q.base) M hfr hlo ?_ ?_ (fun _ _ _ _ _ _ _ _ _ => trivial) ?_ ?_
    · intro m' meth' c' A a Z hp
      have hWA := State.WarmedH.trans hW Z.warmed
      exact ⟨atoms_intro fun w' hw' => by rw [List.mem_singleton.mp hw']; exact ax_word hWA hG m.2.1 (ax_gCW _ _ _ _ _) _, ax_word hWA hG m.2.1 (ax_gCW _ _ _ _ _) _, ax_word hWA hG m.1 (ax_gII _) _, hp.1, hp.2.1⟩
    · intro m' meth' c' A a g mk Z hp
      exact ax_blind _ _ _ _ hp.2.2
    · rintro a first o t ⟨hq, L, q2, q3⟩
      exact ⟨L, _, _, q2, rfl, rfl, q3⟩
    · rintro m' meth' c' A a g mk v t L k' n' Z hp hq hF ⟨rfl, rfl, hL'⟩
      exact ⟨g, mk, t, L, rfl, rfl, hq.1, rfl, hL', rfl, rfl⟩
  have hlen : ∀ sig, parseMethodDescriptor Y'.1.desc = some sig → av.length = sig.parameters.length := by
    intro sig hsig
    have h2 := m.2.2.2.1
    rw [hsig] at h2
    exact hn.trans (Option.some.inj h2).symm
  intro T hT X
  obtain ⟨mk, methM, cM, hnamed, hmethM, -, -, -, -, -, -, hsigM⟩ := Cond.codeWith_spec (ax_word hW hG m.2.1 (ax_gCW _ _ _ _ _) x.2.2.2.2.1)
  obtain ⟨kM, hkM, -⟩ := className_of_methodNamed hnamed
  obtain ⟨vm₁, X₁, hstep₁⟩ := X.invokestatic C0.1 C0.2.2.2.1 (ax_word hW hG w (ax_gML _ _ _) x.2.2.2.2.1) hnamed hmethM (Cond.static_spec hnamed hmethM (ax_word hW hG m.2.2.2.2 (ax_gST _) x.2.2.2.2.1)) hkM (Cond.initialized_spec (findClass_of_methodNamed hnamed) hkM (ax_word hW hG m.1 (ax_gII _) x.2.2.2.2.1)) m.2.2.1 (g := F0 x.2.2.2.1 pc lsr (av.reverse ++ st)) rfl (argsL := av) (rest := st) (hlen _ hsigM) rfl (by rw [C0.2.1]; exact hd)
  obtain ⟨v, ⟨U', l2, c2, s2⟩, X', ⟨g', mk', t, L, q1, q2, hq, h1, hL2, h2, h3⟩, hsteps⟩ := hK x.2.2.2.1 x.2.2.2.2.2.2.1 x.2.2.2.2.2.2.2.1 ⟨T.setVm vm₁, locs, h.1 - h0.1, h.2.1 - h0.2.1⟩ (F0 x.2.2.2.1 pc lsr st) (.invokestatic idx) mk av.toArray X₁ rfl (hl.size.trans C0.2.2.1.symm) (by rw [C0.2.1]; exact hd) (lv_room hst) (X₁.named hnamed) ⟨hroom.1, hroom.2, rfl, by show ax_P G h T.heap; rw [hT]; exact hP, State.WarmedH.trans hW X₁.warmed, hG⟩
  have st2 : ∀ target, Steps x.1.tables x.2.1 x.2.2.2.2.2.1 (U'.setTop { (F0 x.2.2.2.1 pc lsr st) with pc := pc + 3, stack := v.toList ++ st }) target → Steps x.1.tables x.2.1 x.2.2.2.2.2.1 (T.setTop (F0 x.2.2.2.1 pc lsr (av.reverse ++ st))) target := fun target hgo => hstep₁ _ fun acts => by
    rw [doInvoke_state]
    exact hsteps.trans hgo
  dsimp only [Pt.U, Pt.locs, Pt.cells, Pt.slots] at X' q1 q2 h1 h2 h3 st2
  subst h1
  subst h2
  subst h3
  exact ⟨v, (T.setVm vm₁).calling g' mk' av.toArray, t, U', L, hT, X', hL2, q1, q2, hq, st2⟩
end AXC
