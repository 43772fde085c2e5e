/-- a static field of Throwable that holds a reference, at the law's start -/
def ax_ZS (G : ax_G) (n d : String) : Prop := ∃ v : Value, v.isRef = true ∧ va_Z "java/lang/Throwable" n d v (fun q => G.1 ≤ q) G.2.1 G.2.1.heap
def zS1 : Cond := .isRef (.static "java/lang/Throwable" "UNASSIGNED_STACK" "[Ljava/lang/StackTraceElement;")
def zS2 : Cond := .isRef (.static "java/lang/Throwable" "SUPPRESSED_SENTINEL" "Ljava/util/List;")
theorem ax_ZS.word {G : ax_G} {n d : String} (h : ax_ZS G n d) {s' : State} (hal : G.2.1.vm.Alike s'.vm) (hq : ∀ q : Nat, q < G.1 → s'.heap[q]? = G.2.1.heap[q]?) (args : Array Value) : (Cond.isRef (.static "java/lang/Throwable" n d)).before args s' = true := by
  obtain ⟨v, hv, hz⟩ := h
  have hz2 : va_Z "java/lang/Throwable" n d v (fun q => G.1 ≤ q) s' G.2.1.heap := hz.moved hal
  obtain ⟨cf, kf, fi, f, a, cell, h1, h2, h3, h4, h5, h6, h7, h8⟩ := hz2
  have ev : (Term.static "java/lang/Throwable" n d).eval args s' none [] s' = some v := Term.static_eval h1 h2 h4 (by rw [hq a (Nat.lt_of_not_le h8)]; exact h5) h6 h7
  show (Cond.isRef (.static "java/lang/Throwable" n d)).holds args s' none s' [] = true
  simp only [Cond.holds, Cond.value, ev]
  cases v with
  | ref z => rfl
  | null => rfl
  | int z => cases hv
  | long z => cases hv
  | float z => cases hv
  | double z => cases hv
  | retAddr z => cases hv
/-- words that ride on the tables and the old cells -/
def ax_oc : Cond → Bool
  | .castable _ _ => true
  | .declares _ => true
  | .laysStatic _ _ _ => true
  | _ => false
def ax_ok (w : Cond) : Bool := goodWord w || ax_oc w
theorem ax_lst {G : ax_G} {s' : State} (hW : G.2.1.WarmedH s'.vm) (hG : ax_G0 G) (hq : ∀ q : Nat, q < G.2.1.heap.size → s'.heap[q]? = G.2.1.heap[q]?) {c n d : String} (hw : Cond.laysStatic c n d ∈ lw_tbl) (a' : Array Value) : (Cond.laysStatic c n d).before a' s' = true := by
  obtain ⟨cc, k, i, f, a, cell, h1, h2, h3, h4, h5, h6, h7, h8, h9⟩ := Cond.laysStatic_spec (hG.1 _ hw)
  obtain ⟨k', g1, g2⟩ := State.fieldFound?_setVm hW.alike h2
  refine Cond.laysStatic_of (s := s') (cell := cell) (by rw [hW.alike.findClass]; exact h1) g1 h3 (by rw [g2]; exact h4) ?_ h6 h7 h8 (by rw [g2]; exact h9)
  rw [hq a (Array.getElem?_eq_some_iff.mp h5).1]
  exact h5
theorem ax_ok.ride {G : ax_G} {s' : State} (hW : G.2.1.WarmedH s'.vm) (hG : ax_G0 G) (hq : ∀ q : Nat, q < G.2.1.heap.size → s'.heap[q]? = G.2.1.heap[q]?) {w : Cond} (hw : w ∈ lw_tbl) (hok : ax_ok w = true) (a' : Array Value) : w.before a' s' = true := by
  by_cases h2 : goodWord w = true
  · exact ax_word (U := s') hW hG hw h2 _
  · have h3 : ax_oc w = true := by
      simp only [ax_ok, Bool.or_eq_true] at hok
      exact hok.elim (fun z => absurd z h2) id
    cases w <;> first | exact ax_cst hW hG hw _ | exact va_Nw.use rfl (va_Nw.warmD hW (va_Nw.of rfl (hG.1 _ hw))) | exact ax_lst hW hG hq hw _ | exact absurd h3 Bool.false_ne_true
/-- what a throw of X (over Y over names) with a text asks of the tables; X's constructor uses entry ix of its pool -/
def ax_tA (own : String) (ic : Nat) (X : String) (ix : Nat) (rx : ByteArray) (Y : String) (r : List String) : List Cond :=
  Bundle.throwableAtoms ++ (Bundle.throwableSAtoms ++ (Bundle.passSAtoms X Y ix rx ++ (Bundle.chainSAtoms Y r ++ [.methodLink own ic (Bundle.initS X), .instantiable X 6, .selects X Bundle.tFill0 Bundle.tFill0, .selects X Bundle.tFill Bundle.tFill, .lays X Bundle.tN "cause" "Ljava/lang/Throwable;", .lays X Bundle.tN "stackTrace" Bundle.steD, .lays X Bundle.tN "suppressedExceptions" Bundle.listD, .lays X Bundle.tN "detailMessage" "Ljava/lang/String;", zS1, zS2, .fieldLink Bundle.tN 198 Bundle.tN "backtrace" "Ljava/lang/Object;", .lays Bundle.tN Bundle.tN "backtrace" "Ljava/lang/Object;", .lays X Bundle.tN "backtrace" "Ljava/lang/Object;"])))
section AXCT
variable {p : Program} {l : Launch} {e : Env} {R : Room} {s : State} {m₀ : MethodId} {args : Array Value} {below : List Frame} {meth : Method} {c : Code} {Z' : State} {cells slots : Nat}
set_option maxHeartbeats 1000000 in
/-- the constructor with a text, whose first class may use any entry of its pool; traces off; then athrow -/
theorem ax_ctorT (X : Stand p l e R s m₀ args below meth c Z' [] cells slots) (hexec : p.tables.exec = Jvm.exec) (htr : e.platform.stackTraces = false) {own cls Y : String} {r : List String} {ic ix : Nat} {rx : ByteArray} (x0 : decode rx 0 = .ok (.aload_n 0, 1)) (x1 : decode rx 1 = .ok (.aload_n 1, 1)) (x2 : decode rx 2 = .ok (.invokespecial ix, 3)) (x5 : decode rx 5 = .ok (.return_, 1))
    (hown : s.vm.findClass own = some m₀.cls) (hcls : Bundle.fit cls = true) (hnames : ∀ n ∈ Y :: r, Bundle.fit n = true) (h : ∀ w ∈ ax_tA own ic cls ix rx Y r, w.before args s = true)
    {a : Addr} {cX : ClassId} {kX : Class} (hfX : s.vm.findClass cls = some cX) (hkX : s.vm.classes[cX]? = some kX) (hcell : Z'.heap[a]? = some (freshCell cX kX)) (hnew : s.heap.size ≤ a) {msg : Value} (hmsg : msg.isRef = true)
    {g : JFrame} (hg : g.method = m₀) (hsize : g.locals.size = c.maxLocals) (hlocked : g.locked = none) (hentered : g.entered = []) {rest : List Value} (hstack : g.stack = msg :: .ref a :: .ref a :: rest)
    (hd6 : decode c.code g.pc = .ok (.invokespecial ic, 3)) (hd9 : decode c.code (g.pc + 3) = .ok (.athrow, 1)) (hout : ∀ x ∈ c.exceptionTable.toList, covers x (g.pc + 3) = false)
    (hRf : (Y :: r).length + 3 < R.frames) (hRl : 2 * g.monitorRoom + ((Value.ref a :: rest).map fun v => v.category).sum + (13 * ((Y :: r).length + 1) + 42) ≤ R.locals) (hlocks : meth.locks = false) :
    ∃ U : State, Steps p.tables e below (Z'.setTop g) U ∧ U.status = .running ∧ Ended U below (.threw a) ∧ s.WarmedH U.vm ∧ s.sameButNew ({ U with vm := s.vm } : State) [] cells slots ∧ ∃ ce, U.heap[a]? = some ce ∧ s.vm.findClass cls = some ce.cls ∧ ce.vm = .none ∧ ce.slots.size = 6 := by
  have p1 : e.platform.frameOwnsMonitors = true := by rw [X.admits.platform]
  have p2 : e.platform.finalization = false := by rw [X.admits.platform]
  have p3 : e.platform.magicAccessors = ({} : Platform).magicAccessors := by rw [X.admits.platform]
  have wd : ∀ w, w ∈ ax_tA own ic cls ix rx Y r → w.holds args s none s [] = true := fun w hw => h w hw
  have i1 : ∀ w ∈ Bundle.throwableAtoms, w ∈ ax_tA own ic cls ix rx Y r := fun w hw => List.mem_append_left _ hw
  have i2 : ∀ w ∈ Bundle.throwableSAtoms, w ∈ ax_tA own ic cls ix rx Y r := fun w hw => List.mem_append_right _ (List.mem_append_left _ hw)
  have i3 : ∀ w ∈ Bundle.passSAtoms cls Y ix rx, w ∈ ax_tA own ic cls ix rx Y r := fun w hw => List.mem_append_right _ (List.mem_append_right _ (List.mem_append_left _ hw))
  have i4 : ∀ w ∈ Bundle.chainSAtoms Y r, w ∈ ax_tA own ic cls ix rx Y r := fun w hw => List.mem_append_right _ (List.mem_append_right _ (List.mem_append_right _ (List.mem_append_left _ hw)))
  obtain ⟨T, Z0, L, -, Yt⟩ := ThrowableC.of_atoms (args := args) p1 p2 p3 (fun w hw => h w (i1 w hw))
  obtain ⟨Zi, M, LZ, LM, hnZ⟩ := Init0T.ofS_atoms (args := args) p3 L Yt (fun w hw => h w (i2 w hw))
  obtain ⟨P1, L1, hP1, hs1⟩ := PassC.ofS_atoms (args := args) (s := s) p3 (X := cls) (Y := Y) (Bundle.fit_spec hcls).1 (Bundle.fit_spec (hnames Y List.mem_cons_self)).2 x0 x1 x2 x5 (fun w hw => h w (i3 w hw))
  obtain ⟨P2, Ps, hlen, L2, hL, hP2, hsup, hl2⟩ := Bundle.chainS (args := args) p3 hnZ r Y (hnames Y List.mem_cons_self) (fun n hn => hnames n (List.mem_cons_of_mem _ hn)) (fun w hw => h w (i4 w hw))
  have hf1 : s.vm.findClass cls = some P1.m.cls := findClass_of_methodNamed hP1
  cases Option.some.inj (hfX.symm.trans hf1)
  obtain ⟨c1, k1, hc1, hk, hord, -, -, hn6⟩ := Cond.instantiable_spec (wd (.instantiable cls 6) (by simp [ax_tA]))
  cases Option.some.inj (hc1.symm.trans hf1)
  cases Option.some.inj (hkX.symm.trans hk)
  have sel0 : selectMethod e.platform s.vm P1.m.cls T.fill0 = .method T.fill0 := by
    obtain ⟨c2, r2, m2, q1, q2, q3, q4, -⟩ := Cond.selects_spec (wd (.selects cls Bundle.tFill0 Bundle.tFill0) (by simp [ax_tA]))
    cases Option.some.inj (q1.symm.trans hf1)
    cases Option.some.inj (q2.symm.trans (State.methodFound?_of_named Yt.fill0 (by decide)))
    cases Option.some.inj (q3.symm.trans Yt.fill0)
    rw [Launch.admits_selectMethod X.admits]
    exact q4
  have selF : selectMethod e.platform s.vm P1.m.cls T.fill = .method T.fill := by
    obtain ⟨c2, r2, m2, q1, q2, q3, q4, -⟩ := Cond.selects_spec (wd (.selects cls Bundle.tFill Bundle.tFill) (by simp [ax_tA]))
    cases Option.some.inj (q1.symm.trans hf1)
    cases Option.some.inj (q2.symm.trans (State.methodFound?_of_named Yt.fill (by decide)))
    cases Option.some.inj (q3.symm.trans Yt.fill)
    rw [Launch.admits_selectMethod X.admits]
    exact q4
  obtain ⟨cs, hcs, his⟩ := Yt.statics
  obtain ⟨u0, hu0⟩ := Cond.staticRefV Yt.unassigned L.unassignedStatic L.statics hcs his (wd zS1 (by simp [ax_tA]))
  obtain ⟨sen, hsen⟩ := Cond.staticRefV Yt.sentinel L.sentinelStatic L.statics hcs his (wd zS2 (by simp [ax_tA]))
  obtain ⟨ci, ib, fB, b1, b2, b3, b4, -, b5, b6, b7⟩ := Cond.ownField (t := .object "java/lang/Object") Yt.found L.cls (by decide +kernel) (wd (.fieldLink Bundle.tN 198 Bundle.tN "backtrace" "Ljava/lang/Object;") (by simp [ax_tA])) (wd (.lays Bundle.tN Bundle.tN "backtrace" "Ljava/lang/Object;") (by simp [ax_tA])) e.platform p3
  obtain ⟨cs', hcs', hes, -, hkeep⟩ := X.same.2.2.2.2.2 T.aS cs hcs
  have hcs' : Z'.heap[T.aS]? = some cs' := hcs'
  have hk0 : ∀ i : Nat, cs'.slots[i]? = cs.slots[i]? := fun i => hkeep i (fun q => by cases q)
  have hkn : cs'.vm ≠ .unknown := by
    rw [hes]
    intro hu
    rw [show cs.vm = .unknown from hu] at his
    cases his
  have hne : T.aS ≠ a := Nat.ne_of_lt (Nat.lt_of_lt_of_le (Array.getElem?_eq_some_iff.mp hcs).1 hnew)
  obtain ⟨iM, hM⟩ := Yt.msg
  obtain ⟨tyC, dC, hdC, hnC⟩ := Cond.laysAt hf1 hk Yt.cause (wd (.lays cls Bundle.tN "cause" "Ljava/lang/Throwable;") (by simp [ax_tA]))
  obtain ⟨tyS, dS, hdS, hnS⟩ := Cond.laysAt hf1 hk Yt.stack (wd (.lays cls Bundle.tN "stackTrace" Bundle.steD) (by simp [ax_tA]))
  obtain ⟨tyP, dP, hdP, hnP⟩ := Cond.laysAt hf1 hk Yt.supp (wd (.lays cls Bundle.tN "suppressedExceptions" Bundle.listD) (by simp [ax_tA]))
  obtain ⟨tyM, dM, hdM, hnM⟩ := Cond.laysAt hf1 hk hM (wd (.lays cls Bundle.tN "detailMessage" "Ljava/lang/String;") (by simp [ax_tA]))
  obtain ⟨tyB, dB, hdB, hnB⟩ := Cond.laysAt hf1 hk b7 (wd (.lays cls Bundle.tN "backtrace" "Ljava/lang/Object;") (by simp [ax_tA]))
  have bC := Cond.laysApart hdB hdC hnB hnC (by rw [b5, Yt.causeName]; decide)
  have bS := Cond.laysApart hdB hdS hnB hnS (by rw [b5, Yt.stackName]; decide)
  have bP := Cond.laysApart hdB hdP hnB hnP (by rw [b5, Yt.suppName]; decide)
  have skip : SkipFacts T e.platform s (fun u => u) u0 ((preparedCellV T.toThrowableT (freshCell P1.m.cls kX) a u0 sen).withEntry Z'.cur) := by
    refine ⟨{ ci198 := ci, i198 := ib, fBack := fB }, ⟨b1, b2, b3, b4⟩, ?_, fun _ _ => rfl⟩
    have := fresh_default (c := P1.m.cls) tyB
    rw [b6] at this
    simpa [preparedCellV, Cell.setSlot, Cell.withEntry, Array.getElem?_setIfInBounds, bC, bS, bP, bC.symm, bS.symm, bP.symm, defaultValue] using this
  obtain ⟨tm, -, -, -, vm1, h1, -, -, -, -, -, -, -, hW1, st1⟩ := Steps.initColdS (tb := p.tables) (e := e) (below := below) (s := s) (U := Z') X.here hexec X.warmed p3 hown (t := Bundle.initS cls) rfl rfl (Bundle.fit_spec hcls).2 (wd (.methodLink own ic (Bundle.initS cls)) (by simp [ax_tA])) (h (.instanceMethod (Bundle.initS cls)) (i3 _ (by simp [Bundle.passSAtoms]))) (bytes := rx) (maxL := 2) (h (.code (Bundle.initS cls) rx 2 none) (i3 _ (by simp [Bundle.passSAtoms]))) (f := g) hg (a := a) (msg := msg) (rest := .ref a :: rest) hstack hd6
  cases Option.some.inj (h1.symm.trans hP1)
  have X1 := X.noted hW1
  obtain ⟨vm2, X2, st2⟩ := X1.ctorMessageOffV hexec (g := { g with stack := .ref a :: rest }) hg hsize T L Zi LZ M LM (P1 :: P2 :: Ps) (fun P hP => by rcases List.mem_cons.mp hP with rfl | hP; exact L1; rcases List.mem_cons.mp hP with rfl | hP; exact L2; exact hL P hP) ⟨Option.some.inj (hs1.symm.trans hP2), hsup, hl2⟩ (u0 := u0) (sen := sen) (self := a) hmsg (cell := freshCell P1.m.cls kX) (cellS := cs') hcell (fun _ => by simp) (by simp) rfl rfl sel0 selF hcs' hne hkn (by rw [hk0]; exact hu0) (by rw [hk0]; exact hsen)
    (Takes.of_laid hk hord tyC (by rw [Yt.causeType]; rfl)) (Takes.of_laid hk hord tyS (by rw [Yt.stackType]; exact fits_refV_array _ u0)) (Takes.of_laid hk hord tyP (by rw [Yt.suppType]; exact fits_refV_object _ sen)) (Takes.of_laid hk hord tyM (by rw [Yt.msgType]; exact fits_refV_object _ ⟨msg, hmsg⟩)) Yt.objLocals skip htr [] hd6 (by simp only [List.length_cons, hlen] at hRf ⊢; omega) (by simp only [List.length_cons, hlen] at hRl ⊢; exact hRl)
  obtain ⟨hwalk, hrun, hended, hWU, hsame⟩ := X2.athrowLeaves hexec (g := { g with stack := .ref a :: rest, pc := g.pc + 3 }) hg hlocked hentered hout (a := a) (rest := rest) rfl hd9
  have hlt : a < ((Z'.setVm vm1).setVm vm2).heap.size := (Array.getElem?_eq_some_iff.mp hcell).1
  have hU := heapAt_setCell_self (s := (Z'.setVm vm1).setVm vm2) (plainBareV T.toThrowableT (freshCell P1.m.cls kX) a u0 sen msg) hlt
  refine ⟨_, st1 _ (fun acts => ?_), hrun, hended, hWU, hsame.weaken (fun y hy hy' => ?_) (Nat.le_refl _) (Nat.le_refl _), _, hU, hf1, rfl, ?_⟩
  · rw [doInvoke_state]
    exact st2 _ hwalk
  · exfalso
    have hb : y.base = a := by
      simp only [List.nil_append, List.mem_cons, List.not_mem_nil, or_false] at hy
      rcases hy with rfl | rfl | rfl | rfl | rfl <;> rfl
    rw [hb] at hy'
    exact Nat.not_lt.mpr hnew hy'
  · simp [plainBareV, preparedCellV, Cell.setSlot, hn6]
end AXCT
section AXTH
variable {G : ax_G} {x : ax_X} {Y : ax_Y} {fr lo : Nat} {h0 h : ax_H} {P : Option Value → ax_H → Prop} {PT : Nat → ax_H → Prop} {pc : Nat} {ls : List (Option Value)}
set_option maxHeartbeats 1000000 in
/-- new, dup, ldc of a text, the constructor with it, athrow -/
theorem aw_throw {ci : Nat} {C : String} {Tt : u_T} {tys : Nat → FieldType} (c : ax_cl ci C Tt 6 tys) (hO : ax_O G x h0 PT) {idx ix ic jx : Nat} {rx : ByteArray} {tx N1 : String} {names : List String} (w1 : Cond.classLink Y.1.cls idx C ∈ lw_tbl) (w2 : Cond.instantiable C 6 ∈ lw_tbl) (w3 : Cond.initialized C ∈ lw_tbl) (w4 : Cond.stringRef Y.1.cls ix tx ∈ lw_tbl) (hfit : Bundle.fit C = true) (hnames : ∀ n ∈ N1 :: names, Bundle.fit n = true) (x0 : decode rx 0 = .ok (.aload_n 0, 1)) (x1 : decode rx 1 = .ok (.aload_n 1, 1)) (x2 : decode rx 2 = .ok (.invokespecial jx, 3)) (x5 : decode rx 5 = .ok (.return_, 1)) (hat : ∀ a ∈ ax_tA Y.1.cls ic C jx rx N1 names, (a ∈ lw_tbl ∧ ax_ok a = true) ∨ a = zS1 ∨ a = zS2) (hsz : G.2.1.heap.size ≤ G.1) (z1 : ax_ZS G "UNASSIGNED_STACK" "[Ljava/lang/StackTraceElement;") (z2 : ax_ZS G "SUPPRESSED_SENTINEL" "Ljava/util/List;") (hfl : G.2.2.2.1.flags = pinnedFlags ++ [noTraceFlag]) (hc : h.1 + 1 ≤ G.1 + room_1.cells) (hs : h.2.1 + 6 ≤ room_1.slots) (hfr : (N1 :: names).length + 3 < fr) (hlo : 1 + (13 * ((N1 :: names).length + 1) + 42) ≤ lo) (hd0 : decode Y.2.1 pc = .ok (.new idx, 3)) (hd3 : decode Y.2.1 (pc + 3) = .ok (.dup, 1)) (hd4 : decode Y.2.1 (pc + 3 + 1) = .ok (.ldc ix, 2)) (hd6 : decode Y.2.1 (pc + 3 + 1 + 2) = .ok (.invokespecial ic, 3)) (hd9 : decode Y.2.1 (pc + 3 + 1 + 2 + 3) = .ok (.athrow, 1)) (hp : ∀ fs, PT h.1 (ax_new h (.inr (ci, fs)) 6)) : AW G x Y fr lo h0 P h pc ls [] := by
  obtain ⟨p, e, s, m, args, below, meth, cd, Qx⟩ := x
  intro C0 e1 e2 H locs lsr hP hL hl
  obtain ⟨hex, hbc, hml, hown, hW, hG, hlk, -, -, hP0⟩ := C0
  have hex : p.tables.exec = Jvm.exec := hex
  have hbc : cd.code = Y.2.1 := hbc
  have hml : cd.maxLocals = Y.2.2.1 := hml
  have hown : s.vm.findClass Y.1.cls = some m.cls := hown
  have hW : G.2.1.WarmedH s.vm := hW
  have hlk : meth.locks = false := hlk
  have hO1 : ∀ t, ax_XT G h0 PT below s t → Qx t := hO.1
  have hO2 : cd.exceptionTable.toList = [] := hO.2
  have hK : va_K G.2.2.1 classes [] s := ax_kn hW hG
  have g0 : G.1 ≤ h0.1 := hP0.2.1
  have g5 : h0.2.1 ≤ room_1.slots := hP0.2.2.2.2.1
  obtain ⟨c1, c2, c3, c4⟩ := c
  have hts := ax_uws (U := s) hW hG c2 args
  have hKn := hK.1 ci _ c1
  intro T hT X
  have X : Stand p G.2.2.2.1 e (ax_R fr lo G h0) s m args below meth cd T locs (h.1 - h0.1) (h.2.1 - h0.2.1) := X
  have Xr := ax_rebase X (show h.1 - h0.1 ≤ room_1.cells - (h0.1 - G.1) by omega) (show h.2.1 - h0.2.1 ≤ room_1.slots - h0.2.1 by omega)
  have htr : e.platform.stackTraces = false := Launch.traces_off hfl X.admits
  obtain ⟨s2, hs2⟩ : ∃ s2, s2 = ax_re s T := ⟨_, rfl⟩
  obtain ⟨R2, hR2⟩ : ∃ R2, R2 = ax_reR (ax_R fr lo G h0) (h.1 - h0.1) (h.2.1 - h0.2.1) := ⟨_, rfl⟩
  have hv2 : s2.vm = s.vm := by rw [hs2]
  have hheap : s2.heap = H := by rw [hs2]; exact hT
  have r1 : R2.frames = fr := by rw [hR2]; rfl
  have r2 : R2.cells = room_1.cells - (h0.1 - G.1) - (h.1 - h0.1) := by rw [hR2]; rfl
  have r3 : R2.slots = room_1.slots - h0.2.1 - (h.2.1 - h0.2.1) := by rw [hR2]; rfl
  have r4 : R2.locals = lo := by rw [hR2]; rfl
  have X' : Stand p G.2.2.2.1 e R2 s2 m args below meth cd T [] 0 0 := by rw [hs2, hR2]; exact Xr
  have hW2 : G.2.1.WarmedH s2.vm := by rw [hv2]; exact hW
  have hown2 : s2.vm.findClass Y.1.cls = some m.cls := by rw [hv2]; exact hown
  have word : ∀ w, w ∈ lw_tbl → goodWord w = true → w.before args s2 = true := fun w q1 q2 => ax_word (U := s2) hW2 hG q1 q2 _
  have low : ∀ q : Nat, q < G.1 → s2.heap[q]? = G.2.1.heap[q]? := fun q hq => by rw [hheap]; exact hP.2.2.2.2.2.2 q hq
  have atoms : ∀ a ∈ ax_tA Y.1.cls ic C jx rx N1 names, a.before args s2 = true := by
    intro a ha
    have low' : ∀ q : Nat, q < G.2.1.heap.size → s2.heap[q]? = G.2.1.heap[q]? := fun q hq => low q (Nat.lt_of_lt_of_le hq hsz)
    rcases hat a ha with ⟨q1, q2⟩ | q | q
    · exact ax_ok.ride hW2 hG low' q1 q2 _
    · rw [q]; exact z1.word hW2.alike low _
    · rw [q]; exact z2.word hW2.alike low _
  have hstr0 := hG.1 _ w4
  have hcur0 : G.2.1.vm.findClass Y.1.cls = some m.cls := by rw [← hW.alike.findClass]; exact hown
  obtain ⟨-, -, -, sa, -, -, -, -, -, hev0⟩ := Cond.stringRef_spec (cls := Y.1.cls) hcur0 hstr0
  have hvk : vk_R Y.1.cls ix tx sa s2 := vk_R.warm hW2 (vk_R.of hstr0 hev0)
  have hp1 : H.size = h.1 := hP.1
  have main : W p G.2.2.2.1 e R2 s2 m args below meth cd H [] 0 0 Qx (F0 m pc lsr []) := by
    refine W.newc (own := Y.1.cls) (C := C) (index := idx) (n := 6) hex hbc hown2 (word _ w1 (ax_gCL _ _ _)) (word _ w2 (ax_gIN _ _)) (word _ w3 (ax_gII _)) rfl hd0 (by rw [r2]; omega) (by rw [r3]; omega) (fun cC kC f1 f2 f3 f4 => ?_)
    have f1 : s.vm.findClass C = some cC := by rw [← hv2]; exact f1
    have f2' : s.vm.classes[cC]? = some kC := by rw [← hv2]; exact f2
    refine lv_dup hex hbc hd3 rfl ?_
    refine va_ldcS hex hbc (own := Y.1.cls) (tx := tx) (q := sa) hown2 hvk hd4 ?_
    intro T1 hT1 X1
    have hcC : cC = G.2.2.1.1 ci := Option.some.inj (f1.symm.trans hKn.2.1)
    have e3 : (H.push ({ cls := cC, slots := kC.instanceTypes.map defaultValue, vm := .none } : Cell))[H.size]? = some (blank cC kC) := Array.getElem?_push_size
    have hcell : T1.heap[H.size]? = some (freshCell cC kC) := by rw [hT1]; exact e3
    obtain ⟨U, hsteps, hrun, hend, hWU, hsame, ce, hce, Kcls, Kvm, Ksize⟩ := ax_ctorT X1 hex htr x0 x1 x2 x5 (own := Y.1.cls) (cls := C) (Y := N1) (r := names) (ic := ic) hown2 hfit hnames atoms (by rw [hv2]; exact f1) f2 hcell (by rw [hheap]; exact Nat.le_refl _) (msg := .ref sa) rfl (g := F0 m (pc + 3 + 1 + 2) lsr [.ref sa, .ref H.size, .ref H.size]) rfl (by rw [hml]; exact hl.size) rfl rfl (rest := []) rfl (by rw [hbc]; exact hd6) (by rw [hbc]; exact hd9) (by rw [hO2]; intro z hz; cases hz) (by rw [r1]; exact hfr) (by rw [r4]; show 2 * 0 + (1 + 0) + _ ≤ lo; omega) hlk
    refine ⟨U, hsteps, hO1 U ⟨H.size, hrun, hend, ?_, ?_⟩⟩
    · obtain ⟨b1, b2, b3, b4, b5, b6⟩ := hsame
      have b3 : U.heap.size ≤ s2.heap.size + (0 + 1) := b3
      have hTs : s2.heap.size = H.size := by rw [hheap]
      have us : U.heap.size = H.size + 1 := by
        have := (Array.getElem?_eq_some_iff.mp hce).1
        omega
      have old : ∀ q : Nat, q < H.size → U.heap[q]? = H[q]? := by
        intro q hq
        obtain ⟨cell, hcq⟩ : ∃ cell, H[q]? = some cell := ⟨H[q], Array.getElem?_eq_getElem hq⟩
        obtain ⟨c', d1, d2, d3, d4⟩ := b6 q cell (by rw [hheap]; exact hcq)
        have d1 : U.heap[q]? = some c' := d1
        rw [d1, hcq, d2]
        have es : c'.slots = cell.slots := by
          apply Array.ext_getElem?
          intro i
          exact d4 i (fun z => by cases z)
        rw [es]
      have born := u_born tys hts (fun _ z => z) hKn (hcC ▸ f2') (H := H.push ({ cls := G.2.2.1.1 ci, slots := kC.instanceTypes.map defaultValue, vm := .none } : Cell)) (o := H.size) (by exact Array.getElem?_push_size) c3
      obtain ⟨cell0, q0, -, -, q3⟩ := born
      have q0 : some (blank (G.2.2.1.1 ci) kC) = some cell0 := (Array.getElem?_push_size).symm.trans q0
      have q0 := Option.some.inj q0
      have lt6 : ∀ k, k < 6 → ∃ v, ce.slots[G.2.2.1.2 ci k]? = some v := by
        intro k hk
        have := q3 k hk
        rw [← q0] at this
        have l1 : G.2.2.1.2 ci k < (blank (G.2.2.1.1 ci) kC).slots.size := (Array.getElem?_eq_some_iff.mp this).1
        have l2 : (blank (G.2.2.1.1 ci) kC).slots.size = 6 := by simp [blank, f4]
        have l3 : G.2.2.1.2 ci k < ce.slots.size := by rw [Ksize]; omega
        exact ⟨_, Array.getElem?_eq_getElem l3⟩
      obtain ⟨v0, y0⟩ := lt6 0 (by decide)
      obtain ⟨v1, y1⟩ := lt6 1 (by decide)
      obtain ⟨v2, y2⟩ := lt6 2 (by decide)
      obtain ⟨v3, y3⟩ := lt6 3 (by decide)
      obtain ⟨v4, y4⟩ := lt6 4 (by decide)
      obtain ⟨v5, y5⟩ := lt6 5 (by decide)
      have hcls : ce.cls = G.2.2.1.1 ci := Option.some.inj (Kcls.symm.trans (by rw [hv2]; exact hKn.2.1))
      refine ⟨ax_new h (.inr (ci, [v0, v1, v2, v3, v4, v5])) 6, by rw [hp1]; exact hp _, by show h0.1 ≤ h.1 + 1; omega, by show h0.2.1 ≤ h.2.1 + 6; omega, ?_, State.WarmedH.trans hW2 hWU, hG⟩
      refine hP.push (E := .inr (ci, [v0, v1, v2, v3, v4, v5])) (n := 6) hce Ksize us old hc hs ⟨_, c1, ce, hce, hcls, Kvm, fun k hk => ?_⟩
      match k, hk with
      | 0, _ => exact y0
      | 1, _ => exact y1
      | 2, _ => exact y2
      | 3, _ => exact y3
      | 4, _ => exact y4
      | 5, _ => exact y5
      | k + 6, hk => exact absurd hk (by show ¬ k + 6 < 6; omega)
    · subst hs2
      refine ⟨locs, ⟨hWU, ?_⟩, hL⟩
      have h1 := X.same
      have h2 : (ax_re s T).sameButNew ({ U with vm := (ax_re s T).vm } : State) [] (0 + 1) (0 + 6) := hsame
      obtain ⟨a1, a2, a3, a4, a5, a6⟩ := h1
      obtain ⟨b1, b2, b3, b4, b5, b6⟩ := h2
      have a2 : s.heap.size ≤ T.heap.size := a2
      have a3 : T.heap.size ≤ s.heap.size + (h.1 - h0.1) := a3
      have b2 : T.heap.size ≤ U.heap.size := b2
      have b3 : U.heap.size ≤ T.heap.size + (0 + 1) := b3
      have a4 : T.slotsUsed = s.slotsUsed + ((T.heap.toList.drop s.heap.size).map (fun c : Cell => c.slots.size)).sum := a4
      have b4 : U.slotsUsed = T.slotsUsed + ((U.heap.toList.drop T.heap.size).map (fun c : Cell => c.slots.size)).sum := b4
      have a5 : ((T.heap.toList.drop s.heap.size).map (fun c : Cell => c.slots.size)).sum ≤ h.2.1 - h0.2.1 := a5
      have b5 : ((U.heap.toList.drop T.heap.size).map (fun c : Cell => c.slots.size)).sum ≤ 0 + 6 := b5
      have same : ∀ q : Nat, q < T.heap.size → (U.heap[q]?).map (fun c : Cell => c.slots.size) = (T.heap[q]?).map (fun c : Cell => c.slots.size) := by
        intro q hq
        obtain ⟨c', d1, -, d3, -⟩ := b6 q T.heap[q] (Array.getElem?_eq_getElem hq)
        have d1 : U.heap[q]? = some c' := d1
        rw [d1, Array.getElem?_eq_getElem hq]
        simp [d3]
      have split : ((U.heap.toList.drop s.heap.size).map (fun c : Cell => c.slots.size)).sum = ((T.heap.toList.drop s.heap.size).map (fun c : Cell => c.slots.size)).sum + ((U.heap.toList.drop T.heap.size).map (fun c : Cell => c.slots.size)).sum := by
        have key : (U.heap.toList.map (fun c : Cell => c.slots.size)).take T.heap.size = T.heap.toList.map (fun c : Cell => c.slots.size) := by
          apply List.ext_getElem?
          intro q
          by_cases hq : q < T.heap.size
          · rw [List.getElem?_take_of_lt hq, List.getElem?_map, List.getElem?_map, Array.getElem?_toList, Array.getElem?_toList]
            exact same q hq
          · rw [List.getElem?_eq_none (by simp; omega), List.getElem?_eq_none (by simp; omega)]
        rw [List.map_drop, List.map_drop, List.map_drop, ← key]
        have e2 : (U.heap.toList.map (fun c : Cell => c.slots.size)).drop s.heap.size = ((U.heap.toList.map (fun c : Cell => c.slots.size)).take T.heap.size).drop s.heap.size ++ (U.heap.toList.map (fun c : Cell => c.slots.size)).drop T.heap.size := by
          conv => lhs; rw [← List.take_append_drop T.heap.size (U.heap.toList.map (fun c : Cell => c.slots.size))]
          rw [List.drop_append_of_le_length (by simp; omega)]
        rw [e2, List.sum_append]
      refine ⟨?_, ?_, ?_, ?_, ?_, ?_⟩
      · have b1 : ({ U with vm := s.vm } : State) = { (ax_re s T).setFrames U.frames with heap := U.heap, slotsUsed := U.slotsUsed } := b1
        show ({ U with vm := s.vm } : State) = { s.setFrames U.frames with heap := U.heap, slotsUsed := U.slotsUsed }
        exact b1
      · show s.heap.size ≤ U.heap.size
        omega
      · show U.heap.size ≤ s.heap.size + (room_1.cells - (h0.1 - G.1))
        have gg : h.1 - h0.1 + 1 ≤ room_1.cells - (h0.1 - G.1) := by omega
        omega
      · show U.slotsUsed = s.slotsUsed + ((U.heap.toList.drop s.heap.size).map (fun c : Cell => c.slots.size)).sum
        rw [split, b4, a4]
        omega
      · show ((U.heap.toList.drop s.heap.size).map (fun c : Cell => c.slots.size)).sum ≤ room_1.slots - h0.2.1
        rw [split]
        have gg : h.2.1 - h0.2.1 + 6 ≤ room_1.slots - h0.2.1 := by omega
        omega
      · intro a cc ha
        obtain ⟨c', d1, d2, d3, d4⟩ := a6 a cc ha
        have d1 : T.heap[a]? = some c' := d1
        obtain ⟨c2', f1', f2', f3', f4'⟩ := b6 a c' d1
        refine ⟨c2', f1', ?_, f3'.trans d3, fun i hi => (f4' i (fun z => by cases z)).trans (d4 i hi)⟩
        rw [f2', d2]
  obtain ⟨t, a1, b1⟩ := main T hT X'
  exact ⟨t, a1, Or.inr b1⟩
end AXTH
