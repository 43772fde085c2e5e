section AXE
variable {G : ax_G} {x : ax_X} {Y : ax_Y} {fr lo : Nat} {h0 h : ax_H} {P : Option Value → ax_H → Prop} {pc : Nat} {ls : List (Option Value)} {st : List Value}
/-- the locals at a method's begin, by its arguments -/
def ax_ls (av : List Value) : List (Option Value) := av.flatMap fun v => if v.category = 2 then [some v, none] else [some v]
theorem ax_ls_in : ∀ (av : List Value) (b i : Nat) (v : Value), (ax_ls av)[i]? = some (some v) → (b + i, v) ∈ lv_args b av
  | [], b, i, v, h => by simp [ax_ls] at h
  | w :: vs, b, i, v, h => by
    unfold ax_ls at h
    rw [List.flatMap_cons] at h
    unfold lv_args
    by_cases hc : w.category = 2
    · rw [if_pos hc] at h ⊢
      match i, h with
      | 0, h =>
        simp at h
        subst h
        exact List.mem_cons_self
      | 1, h => simp at h
      | i + 2, h =>
        have h1 : (ax_ls vs)[i]? = some (some v) := by simpa [ax_ls] using h
        have h2 := ax_ls_in vs (b + 2) i v h1
        rw [show b + (i + 2) = b + 2 + i by omega]
        exact List.mem_cons_of_mem _ h2
    · rw [if_neg hc] at h ⊢
      match i, h with
      | 0, h =>
        simp at h
        subst h
        exact List.mem_cons_self
      | i + 1, h =>
        have h1 : (ax_ls vs)[i]? = some (some v) := by simpa [ax_ls] using h
        have h2 := ax_ls_in vs (b + 1) i v h1
        rw [show b + (i + 1) = b + 1 + i by omega]
        exact List.mem_cons_of_mem _ h2
theorem ax_ls_pad {av : List Value} {n i : Nat} {v : Value} (h : (ax_ls av ++ List.replicate n none)[i]? = some (some v)) : (i, v) ∈ lv_args 0 av := by
  by_cases hi : i < (ax_ls av).length
  · rw [List.getElem?_append_left hi] at h
    have h1 := ax_ls_in av 0 i v h
    rw [Nat.zero_add] at h1
    exact h1
  · rw [List.getElem?_append_right (by omega)] at h
    have h1 := List.mem_of_getElem? h
    rw [List.mem_replicate] at h1
    exact absurd h1.2 (by simp)
/-- into a method's body: the locals as they stand there -/
theorem aw_enter {av : List Value} (hy : plainName Y.1.cls = true) (hn : (lg_sl av).length ≤ Y.2.2.1) {n : Nat} {ls : List (Option Value)} (hl : ax_ls av ++ List.replicate n none = ls) (k : ∀ x : ax_X, AW G x Y fr lo h P h 0 ls []) : AM G Y fr lo av h P := by
  subst hl
  exact aw_met hy hn (fun i v hv => ax_ls_pad hv) k
theorem aw_ls {ls' : List (Option Value)} (e : ls = ls') (k : AW G x Y fr lo h0 P h pc ls' st) : AW G x Y fr lo h0 P h pc ls st := e ▸ k
theorem aw_heap {h1 : ax_H} (e : h = h1) (k : AW G x Y fr lo h0 P h1 pc ls st) : AW G x Y fr lo h0 P h pc ls st := e ▸ k
theorem ax_get_self (a : Nat) (E : ax_E) : (ax_set h a E).2.2 a = some E := va_up_self _ _ _
theorem ax_get_ne {a b : Nat} (E : ax_E) (hab : b ≠ a) : (ax_set h a E).2.2 b = h.2.2 b := va_up_ne _ _ hab
theorem ax_new_self (E : ax_E) (n : Nat) : (ax_new h E n).2.2 h.1 = some E := va_up_self _ _ _
theorem ax_new_ne {b : Nat} (E : ax_E) (n : Nat) (hb : b ≠ h.1) : (ax_new h E n).2.2 b = h.2.2 b := va_up_ne _ _ hb
end AXE
