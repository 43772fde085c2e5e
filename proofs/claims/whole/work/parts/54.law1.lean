abbrev lawY (nm : String) : ax_Y := (⟨"SymbolLinkerLaw", nm, ""⟩, code, 7, ret)
abbrev lawH (s : State) : ax_H := (s.heap.size, 0, fun _ => none)
abbrev lawG (s : State) (D : va_G) (l : Launch) (b : Nat) : ax_G := (s.heap.size, s, D, l, #[Value.ref b])
abbrev lawX (p : Program) (e : Env) (s : State) (m : MethodId) (b : Nat) (below : List Frame) (meth : Method) (c : Code) : ax_X := (p, e, s, m, #[Value.ref b], below, meth, c, lw_Z below #[Value.ref b] s)
theorem law_R (s : State) (D : va_G) (l : Launch) (b : Nat) : ax_R 10 358 (lawG s D l b) (lawH s) = room_1 := by
  unfold ax_R
  rw [show (lawH s).1 - (lawG s D l b).1 = 0 from Nat.sub_self _]
  rfl
theorem law_sz (s : State) : ax_sz s.heap.size s.heap = 0 := by
  unfold ax_sz
  rw [List.drop_eq_nil_of_le (by simp)]
  rfl
theorem law_classes {s : State} {b : Nat} (hts : ∀ w ∈ lw_tbl, w.before #[Value.ref b] s = true) : ∃ D : va_G, va_K D classes [] s := by
  have hall : ∀ (k : Nat) (q : vw_C), classes[k]? = some q → ∃ (c : ClassId) (i : Nat → Nat), u_Kn s q.1 q.2.1 q.2.2 c i := by
    intro k q hq
    match k, hq with
    | 0, hq => cases hq; exact u_known (C := "SymbolLinker") (T := T_L) (N := 16) (n := 16) hts cl_L.2.1 (hts _ ni_L)
    | 1, hq => cases hq; exact u_known (C := "SymbolLinker$Fault") (T := T_Fault) (N := 3) (n := 3) hts cl_Fault.2.1 (hts _ ni_Fault)
    | 2, hq => cases hq; exact u_known (C := "SymbolLinker$Image") (T := T_Image) (N := 9) (n := 9) hts cl_Image.2.1 (hts _ ni_Image)
    | 3, hq => cases hq; exact u_known (C := "SymbolLinker$Unit") (T := T_Unit) (N := 7) (n := 7) hts cl_Unit.2.1 (hts _ ni_Unit)
    | 4, hq => cases hq; exact u_known (C := "SymbolLinker$Section") (T := T_Section) (N := 6) (n := 6) hts cl_Section.2.1 (hts _ ni_Section)
    | 5, hq => cases hq; exact u_known (C := "SymbolLinker$Name") (T := T_Name) (N := 6) (n := 6) hts cl_Name.2.1 (hts _ ni_Name)
    | 6, hq => cases hq; exact u_known (C := "SymbolLinker$Symbol") (T := T_Symbol) (N := 6) (n := 6) hts cl_Symbol.2.1 (hts _ ni_Symbol)
    | 7, hq => cases hq; exact u_known (C := "SymbolLinker$Wait") (T := T_Wait) (N := 8) (n := 8) hts cl_Wait.2.1 (hts _ ni_Wait)
    | 8, hq => cases hq; exact u_known (C := "SymbolLinker$Start") (T := T_Start) (N := 3) (n := 3) hts cl_Start.2.1 (hts _ ni_Start)
    | 9, hq => cases hq; exact u_known (C := "java/lang/IllegalStateException") (T := T_JIllegalStateException) (N := 6) (n := 6) hts cl_JIllegalStateException.2.1 (hts _ ni_JIllegalStateException)
    | 10, hq => cases hq; exact u_known (C := "java/util/NoSuchElementException") (T := T_JNoSuchElementException) (N := 6) (n := 6) hts cl_JNoSuchElementException.2.1 (hts _ ni_JNoSuchElementException)
    | 11, hq => cases hq; exact u_known (C := "SymbolLinkerModel") (T := T_M) (N := 49) (n := 49) hts cl_M.2.1 (hts _ ni_M)
    | k + 12, hq => simp [classes] at hq
  have h2 : ∀ k : Nat, ∃ (c : ClassId) (i : Nat → Nat), ∀ q : vw_C, classes[k]? = some q → u_Kn s q.1 q.2.1 q.2.2 c i := by
    intro k
    cases hq : classes[k]? with
    | none => exact ⟨0, fun _ => 0, fun q h => by cases h⟩
    | some q =>
      obtain ⟨c, i, h⟩ := hall k q hq
      exact ⟨c, i, fun q' h' => by cases h'; exact h⟩
  exact ⟨(fun k => (h2 k).choose, fun k => (h2 k).choose_spec.choose), fun k q hq => (h2 k).choose_spec.choose_spec q hq, fun k q h => by simp at h⟩
/-- the law's end, with 1 on the stack -/
theorem aw_lawRet {p : Program} {l : Launch} {e : Env} {s : State} {m : MethodId} {below : List Frame} {meth : Method} {c : Code} {b : Nat} {D : va_G} {P : Option Value → ax_H → Prop} {h : ax_H} {pc : Nat} {nm : String} {ls : List (Option Value)} (hd : decode code pc = .ok (.ireturn, 1)) : AW (lawG s D l b) (lawX p e s m b below meth c) (lawY nm) 10 358 (lawH s) P h pc ls [.int 1] := by
  intro C0 e1 e2 H locs lsr hP hL hl T hT X
  rw [law_R] at X
  have g1 : h.1 ≤ s.heap.size + 601024 := hP.2.2.1
  have g2 : h.2.1 ≤ 7293033 := hP.2.2.2.2.1
  have X : Stand p l e room_1 s m #[Value.ref b] below meth c T ([] ++ locs) (h.1 - s.heap.size) (h.2.1 - 0) := X
  obtain ⟨t, a, q⟩ := lw_ret C0.1 C0.2.1 C0.2.2.2.2.2.2.2.1 C0.2.2.2.2.2.2.1 hd T hT (stand_widen (X.forget hL) (k := 601024) (n := 7293033) (by omega) (by omega))
  exact ⟨t, a, Or.inr q⟩
/-- the law's entry -/
theorem law_enter {p : Program} {e : Env} {s : State} {m : MethodId} {below : List Frame} {meth : Method} {c : Code} (l : Launch) {b L : Nat} {xs : Nat → Int32} (C0 : lw_At p s m meth c b L xs) (k : ∀ (D : va_G) (nm : String), ax_S (lawG s D l b) b L xs → AW (lawG s D l b) (lawX p e s m b below meth c) (lawY nm) 10 358 (lawH s) (fun _ _ => False) (lawH s) 0 [some (.ref b), none, none, none, none, none, none] []) : W p l e room_1 s m #[Value.ref b] below meth c s.heap [] 0 0 (lw_Z below #[Value.ref b] s) (entryFrame m ([Value.ref b] : List Value).toArray 7) := by
  obtain ⟨hx, hb, hr, hml, hown, hts, hX, hbl, hlocks, hgv⟩ := C0
  obtain ⟨D, hK⟩ := law_classes hts
  have hP : ax_P (lawG s D l b) (lawH s) s.heap := ⟨rfl, Nat.le_refl _, Nat.le_add_right _ _, law_sz s, Nat.zero_le _, fun a E h => (by cases h), fun q _ => rfl⟩
  have h1 := k D meth.name ⟨hbl, hX⟩ ⟨hx, hb, hml, hown, State.WarmedH.refl s, ⟨hts, hK⟩, hlocks, hr, rfl, hP⟩ (Nat.le_refl _) (Nat.le_refl _) s.heap [] _ hP (fun q h => by cases h) ⟨_, lv_entry ([.ref b]) (Nat.le_of_ble_eq_true rfl), fun i v hv => ax_ls_pad (av := [.ref b]) (n := 6) hv⟩
  rw [law_R, show (lawH s).1 - (lawH s).1 = 0 from Nat.sub_self _, show (lawH s).2.1 - (lawH s).2.1 = 0 from rfl] at h1
  rw [lg_entry_eq]
  exact ax_mono (fun t q => q.resolve_left (fun ⟨o, _, _, ⟨v, h', _, z, _⟩, _⟩ => z)) h1
