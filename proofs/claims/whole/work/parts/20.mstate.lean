/-! The reference: its object, its arrays behind it (the k-th at the object's address + k). -/
def mTy (k : Nat) : FieldType := match k with
  | 1 => .boolean
  | 2 => .boolean
  | 3 => .boolean
  | 4 => .boolean
  | 5 => .int
  | 6 => .int
  | 7 => .int
  | 8 => .byte
  | 9 => .long
  | 10 => .int
  | 11 => .int
  | 12 => .int
  | 13 => .int
  | 14 => .int
  | 15 => .int
  | 16 => .int
  | 17 => .int
  | 18 => .int
  | 19 => .int
  | 20 => .int
  | 21 => .int
  | 22 => .int
  | 23 => .int
  | 24 => .long
  | 25 => .int
  | 26 => .int
  | 27 => .int
  | 28 => .boolean
  | 29 => .byte
  | 30 => .int
  | 31 => .long
  | 32 => .int
  | 33 => .int
  | 34 => .int
  | _ => .int
def mLen (k : Nat) : Nat := match k with
  | 1 => 32
  | 2 => 128
  | 3 => 32
  | 4 => 128
  | 5 => 128
  | 6 => 128
  | 7 => 128
  | 8 => 262144
  | 9 => 2048
  | 10 => 2048
  | 11 => 2048
  | 12 => 2048
  | 13 => 2048
  | 14 => 2048
  | 15 => 2048
  | 16 => 33
  | 17 => 4096
  | 18 => 4096
  | 19 => 4096
  | 20 => 4096
  | 21 => 4096
  | 22 => 4096
  | 23 => 4096
  | 24 => 4096
  | 25 => 8192
  | 26 => 8192
  | 27 => 8192
  | 28 => 128
  | 29 => 262144
  | 30 => 7
  | 31 => 2048
  | 32 => 2048
  | 33 => 2048
  | 34 => 8192
  | _ => 8192
abbrev mSt : Type := (Nat → Int32) × (Nat → Nat → Int32) × (Nat → Nat → Int64)
def mF (m : Nat) (n : Nat → Int32) : List Value := [.int (n 0), .int (n 1), .int (n 2), .int (n 3), .int (n 4), .int (n 5), .ref (m + 1), .ref (m + 2), .ref (m + 3), .ref (m + 4), .ref (m + 5), .ref (m + 6), .ref (m + 7), .ref (m + 8), .ref (m + 9), .ref (m + 10), .ref (m + 11), .ref (m + 12), .ref (m + 13), .ref (m + 14), .ref (m + 15), .ref (m + 16), .ref (m + 17), .ref (m + 18), .ref (m + 19), .ref (m + 20), .ref (m + 21), .ref (m + 22), .ref (m + 23), .ref (m + 24), .ref (m + 25), .ref (m + 26), .ref (m + 27), .int (n 33), .int (n 34), .int (n 35), .int (n 36), .ref (m + 28), .int (n 38), .int (n 39), .ref (m + 29), .ref (m + 30), .int (n 42), .int (n 43), .ref (m + 31), .ref (m + 32), .ref (m + 33), .ref (m + 34), .ref (m + 35)]
def mC (s : mSt) (k : Nat) : ax_A := match mTy k with
  | .long => .inr (.inl (s.2.2 k))
  | _ => .inl (s.2.1 k)
def mA (m : Nat) (s : mSt) (k : Nat) : ax_E := match k with
  | 0 => .inr (11, mF m s.1)
  | j + 1 => .inl (mTy (j + 1), mLen (j + 1), mC s (j + 1))
def mR (m : Nat) (s : mSt) (h : ax_H) : Prop := ∀ k, k < 36 → h.2.2 (m + k) = some (mA m s k)
def mFr (m : Nat) (h h1 : ax_H) : Prop := h1.1 = h.1 ∧ h1.2.1 = h.2.1 ∧ ∀ a, (a < m ∨ m + 36 ≤ a) → h1.2.2 a = h.2.2 a
theorem mFr.rf (m : Nat) (h : ax_H) : mFr m h h := ⟨rfl, rfl, fun _ _ => rfl⟩
theorem mFr.tr {m : Nat} {h h1 h2 : ax_H} (a : mFr m h h1) (b : mFr m h1 h2) : mFr m h h2 := ⟨b.1.trans a.1, b.2.1.trans a.2.1, fun q hq => (b.2.2 q hq).trans (a.2.2 q hq)⟩
theorem mR.kept {m : Nat} {s : mSt} {h h1 : ax_H} (hR : mR m s h) (he : ∀ a, m ≤ a → a < m + 36 → h1.2.2 a = h.2.2 a) : mR m s h1 := fun k hk => (he (m + k) (by omega) (by omega)).trans (hR k hk)
theorem mR.obj {m : Nat} {s : mSt} {h : ax_H} (hR : mR m s h) : h.2.2 m = some (.inr (11, mF m s.1)) := hR 0 (by decide)
theorem mR.int {m : Nat} {s : mSt} {h : ax_H} (hR : mR m s h) {k : Nat} {ty : FieldType} (hk : 0 < k ∧ k < 36) (ht : mTy k = ty) (hl : ty ≠ .long) : h.2.2 (m + k) = some (.inl (ty, mLen k, .inl (s.2.1 k))) := by
  obtain ⟨j, rfl⟩ : ∃ j, k = j + 1 := ⟨k - 1, by omega⟩
  have h1 := hR (j + 1) hk.2
  rw [h1]
  show some (Sum.inl (mTy (j + 1), mLen (j + 1), mC s (j + 1))) = _
  have hc : mC s (j + 1) = .inl (s.2.1 (j + 1)) := by
    unfold mC
    split
    · next e => exact absurd (ht.symm.trans e) hl
    · rfl
  rw [hc, ht]
theorem mR.long {m : Nat} {s : mSt} {h : ax_H} (hR : mR m s h) {k : Nat} (hk : 0 < k ∧ k < 36) (ht : mTy k = .long) : h.2.2 (m + k) = some (.inl (.long, mLen k, .inr (.inl (s.2.2 k)))) := by
  obtain ⟨j, rfl⟩ : ∃ j, k = j + 1 := ⟨k - 1, by omega⟩
  have h1 := hR (j + 1) hk.2
  rw [h1]
  show some (Sum.inl (mTy (j + 1), mLen (j + 1), mC s (j + 1))) = _
  have hc : mC s (j + 1) = .inr (.inl (s.2.2 (j + 1))) := by
    unfold mC
    rw [ht]
  rw [hc, ht]
theorem mR.setF {m : Nat} {s : mSt} {h : ax_H} (hR : mR m s h) (n' : Nat → Int32) : mR m (n', s.2) (ax_set h m (.inr (11, mF m n'))) := by
  intro k hk
  match k, hk with
  | 0, _ => exact ax_get_self m _
  | k + 1, hk => exact (ax_get_ne _ (by omega)).trans (hR (k + 1) hk)
theorem mFr.set {m : Nat} {h : ax_H} {k : Nat} (hk : k < 36) (E : ax_E) : mFr m h (ax_set h (m + k) E) := ⟨rfl, rfl, fun a ha => ax_get_ne _ (by omega)⟩
theorem mR.setI {m : Nat} {s : mSt} {h : ax_H} (hR : mR m s h) {k : Nat} {ty : FieldType} (hk : 0 < k ∧ k < 36) (ht : mTy k = ty) (hl : ty ≠ .long) (F : Nat → Int32) : mR m (s.1, va_up s.2.1 k F, s.2.2) (ax_set h (m + k) (.inl (ty, mLen k, .inl F))) := by
  intro j hj
  by_cases hjk : j = k
  · subst hjk
    refine (ax_get_self _ _).trans ?_
    obtain ⟨i, rfl⟩ : ∃ i, j = i + 1 := ⟨j - 1, by omega⟩
    have hc : mC (s.1, va_up s.2.1 (i + 1) F, s.2.2) (i + 1) = .inl F := by
      unfold mC
      split
      · next e => exact absurd (ht.symm.trans e) hl
      · show Sum.inl (va_up s.2.1 (i + 1) F (i + 1)) = _
        rw [va_up_self]
    show _ = some (Sum.inl (mTy (i + 1), mLen (i + 1), mC (s.1, va_up s.2.1 (i + 1) F, s.2.2) (i + 1)))
    rw [hc, ht]
  · refine (ax_get_ne _ (by omega)).trans ((hR j hj).trans ?_)
    match j, hjk with
    | 0, _ => rfl
    | i + 1, hjk =>
      have hc : mC (s.1, va_up s.2.1 k F, s.2.2) (i + 1) = mC s (i + 1) := by
        unfold mC
        split
        · rfl
        · show Sum.inl (va_up s.2.1 k F (i + 1)) = _
          rw [va_up_ne _ _ hjk]
      show some (Sum.inl (mTy (i + 1), mLen (i + 1), mC s (i + 1))) = some (Sum.inl (mTy (i + 1), mLen (i + 1), mC (s.1, va_up s.2.1 k F, s.2.2) (i + 1)))
      rw [hc]
theorem mR.setL {m : Nat} {s : mSt} {h : ax_H} (hR : mR m s h) {k : Nat} (hk : 0 < k ∧ k < 36) (ht : mTy k = .long) (F : Nat → Int64) : mR m (s.1, s.2.1, va_up s.2.2 k F) (ax_set h (m + k) (.inl (.long, mLen k, .inr (.inl F)))) := by
  intro j hj
  by_cases hjk : j = k
  · subst hjk
    refine (ax_get_self _ _).trans ?_
    obtain ⟨i, rfl⟩ : ∃ i, j = i + 1 := ⟨j - 1, by omega⟩
    have hc : mC (s.1, s.2.1, va_up s.2.2 (i + 1) F) (i + 1) = .inr (.inl F) := by
      unfold mC
      rw [ht]
      show Sum.inr (Sum.inl (va_up s.2.2 (i + 1) F (i + 1))) = _
      rw [va_up_self]
    show _ = some (Sum.inl (mTy (i + 1), mLen (i + 1), mC (s.1, s.2.1, va_up s.2.2 (i + 1) F) (i + 1)))
    rw [hc, ht]
  · refine (ax_get_ne _ (by omega)).trans ((hR j hj).trans ?_)
    match j, hjk with
    | 0, _ => rfl
    | i + 1, hjk =>
      have hc : mC (s.1, s.2.1, va_up s.2.2 k F) (i + 1) = mC s (i + 1) := by
        unfold mC
        split
        · show Sum.inr (Sum.inl (va_up s.2.2 k F (i + 1))) = _
          rw [va_up_ne _ _ hjk]
        · rfl
      show some (Sum.inl (mTy (i + 1), mLen (i + 1), mC s (i + 1))) = some (Sum.inl (mTy (i + 1), mLen (i + 1), mC (s.1, s.2.1, va_up s.2.2 k F) (i + 1)))
      rw [hc]
/-- a truth as an int -/
def zI (p : Prop) [Decidable p] : Int32 := if p then 1 else 0
section MRW
variable {G : ax_G} {x : ax_X} {Y : ax_Y} {fr lo : Nat} {h0 h : ax_H} {P : Option Value → ax_H → Prop} {pc : Nat} {ls : List (Option Value)} {st : List Value} {m : Nat} {s : mSt}
theorem aM_get (hR : mR m s h) {idx q : Nat} {v : Value} (f : ax_fl Y.1.cls idx T_M q) (hq : q < 49) (hv : (mF m s.1)[q]? = some v) (hd : decode Y.2.1 pc = .ok (.getfield idx, 3)) (k : AW G x Y fr lo h0 P h (pc + 3) ls (v :: st)) : AW G x Y fr lo h0 P h pc ls (.ref m :: st) := aw_get cl_M f hq hR.obj hv hd k
theorem aM_put (hR : mR m s h) {idx q : Nat} {v : Int32} (f : ax_fl Y.1.cls idx T_M q) (hq : q < 49) (hfin : (T_M q).2.2.2 = false) (hn : narrow (ty_M q) (.int v) = .int v) (hfit : fits (ty_M q) (.int v) = true) (he : (mF m s.1).set q (.int v) = mF m (va_up s.1 q v)) (hd : decode Y.2.1 pc = .ok (.putfield idx, 3)) (k : ∀ h1, mR m (va_up s.1 q v, s.2) h1 → mFr m h h1 → AW G x Y fr lo h0 P h1 (pc + 3) ls st) : AW G x Y fr lo h0 P h pc ls (.int v :: .ref m :: st) :=
  aw_put cl_M f hq hfin hR.obj (show q < (mF m s.1).length from hq) hn hfit hd (by rw [he]; exact k _ (hR.setF _) (mFr.set (k := 0) (by decide) _))
theorem aM_iald (hR : mR m s h) {k j : Nat} {i : Int32} (hk : 0 < k ∧ k < 36) (ht : mTy k = .int) (hi : i = nI j) (hj : j < mLen k) (hb : mLen k < 2 ^ 31) (hd : decode Y.2.1 pc = .ok (.iaload, 1)) (kk : AW G x Y fr lo h0 P h (pc + 1) ls (.int (s.2.1 k j) :: st)) : AW G x Y fr lo h0 P h pc ls (.int i :: .ref (m + k) :: st) := by
  subst hi
  refine aw_iald (hR.int hk ht (by decide)) (vp_in_nI hj hb) hd ?_
  rw [nI_clamp (by omega)]
  exact kk
theorem aM_bald (hR : mR m s h) {k j : Nat} {i : Int32} (hk : 0 < k ∧ k < 36) (ht : mTy k = .byte) (hi : i = nI j) (hj : j < mLen k) (hb : mLen k < 2 ^ 31) (hd : decode Y.2.1 pc = .ok (.baload, 1)) (kk : AW G x Y fr lo h0 P h (pc + 1) ls (.int (s.2.1 k j) :: st)) : AW G x Y fr lo h0 P h pc ls (.int i :: .ref (m + k) :: st) := by
  subst hi
  refine aw_bald (hR.int hk ht (by decide)) (vp_in_nI hj hb) hd ?_
  rw [nI_clamp (by omega)]
  exact kk
theorem aM_zald (hR : mR m s h) {k j : Nat} {i : Int32} (hk : 0 < k ∧ k < 36) (ht : mTy k = .boolean) (hi : i = nI j) (hj : j < mLen k) (hb : mLen k < 2 ^ 31) (hd : decode Y.2.1 pc = .ok (.baload, 1)) (kk : AW G x Y fr lo h0 P h (pc + 1) ls (.int (s.2.1 k j) :: st)) : AW G x Y fr lo h0 P h pc ls (.int i :: .ref (m + k) :: st) := by
  subst hi
  refine aw_zald (hR.int hk ht (by decide)) (vp_in_nI hj hb) hd ?_
  rw [nI_clamp (by omega)]
  exact kk
theorem aM_lald (hR : mR m s h) {k j : Nat} {i : Int32} (hk : 0 < k ∧ k < 36) (ht : mTy k = .long) (hi : i = nI j) (hj : j < mLen k) (hb : mLen k < 2 ^ 31) (hd : decode Y.2.1 pc = .ok (.laload, 1)) (kk : AW G x Y fr lo h0 P h (pc + 1) ls (.long (s.2.2 k j) :: st)) : AW G x Y fr lo h0 P h pc ls (.int i :: .ref (m + k) :: st) := by
  subst hi
  refine aw_lald (hR.long hk ht) (vp_in_nI hj hb) hd ?_
  rw [nI_clamp (by omega)]
  exact kk
theorem aM_iast (hR : mR m s h) {k j : Nat} {i z : Int32} (hk : 0 < k ∧ k < 36) (ht : mTy k = .int) (hi : i = nI j) (hj : j < mLen k) (hb : mLen k < 2 ^ 31) (hd : decode Y.2.1 pc = .ok (.iastore, 1)) (kk : ∀ h1, mR m (s.1, va_up s.2.1 k (va_up (s.2.1 k) j z), s.2.2) h1 → mFr m h h1 → AW G x Y fr lo h0 P h1 (pc + 1) ls st) : AW G x Y fr lo h0 P h pc ls (.int z :: .int i :: .ref (m + k) :: st) := by
  subst hi
  refine aw_iast (hR.int hk ht (by decide)) (vp_in_nI hj hb) hd ?_
  rw [nI_clamp (by omega)]
  exact kk _ (hR.setI hk ht (by decide) _) (mFr.set hk.2 _)
theorem aM_bast (hR : mR m s h) {k j : Nat} {i z : Int32} (hk : 0 < k ∧ k < 36) (ht : mTy k = .byte) (hi : i = nI j) (hj : j < mLen k) (hb : mLen k < 2 ^ 31) (hd : decode Y.2.1 pc = .ok (.bastore, 1)) (kk : ∀ h1, mR m (s.1, va_up s.2.1 k (va_up (s.2.1 k) j z.toInt8.toInt32), s.2.2) h1 → mFr m h h1 → AW G x Y fr lo h0 P h1 (pc + 1) ls st) : AW G x Y fr lo h0 P h pc ls (.int z :: .int i :: .ref (m + k) :: st) := by
  subst hi
  refine aw_bast (hR.int hk ht (by decide)) (vp_in_nI hj hb) hd ?_
  rw [nI_clamp (by omega)]
  exact kk _ (hR.setI hk ht (by decide) _) (mFr.set hk.2 _)
theorem aM_zast (hR : mR m s h) {k j : Nat} {i z : Int32} (hk : 0 < k ∧ k < 36) (ht : mTy k = .boolean) (hi : i = nI j) (hj : j < mLen k) (hb : mLen k < 2 ^ 31) (hd : decode Y.2.1 pc = .ok (.bastore, 1)) (kk : ∀ h1, mR m (s.1, va_up s.2.1 k (va_up (s.2.1 k) j (z &&& 1)), s.2.2) h1 → mFr m h h1 → AW G x Y fr lo h0 P h1 (pc + 1) ls st) : AW G x Y fr lo h0 P h pc ls (.int z :: .int i :: .ref (m + k) :: st) := by
  subst hi
  refine aw_zast (hR.int hk ht (by decide)) (vp_in_nI hj hb) hd ?_
  rw [nI_clamp (by omega)]
  exact kk _ (hR.setI hk ht (by decide) _) (mFr.set hk.2 _)
theorem aM_last (hR : mR m s h) {k j : Nat} {i : Int32} {z : Int64} (hk : 0 < k ∧ k < 36) (ht : mTy k = .long) (hi : i = nI j) (hj : j < mLen k) (hb : mLen k < 2 ^ 31) (hd : decode Y.2.1 pc = .ok (.lastore, 1)) (kk : ∀ h1, mR m (s.1, s.2.1, va_up s.2.2 k (va_up (s.2.2 k) j z)) h1 → mFr m h h1 → AW G x Y fr lo h0 P h1 (pc + 1) ls st) : AW G x Y fr lo h0 P h pc ls (.long z :: .int i :: .ref (m + k) :: st) := by
  subst hi
  refine aw_last (hR.long hk ht) (vp_in_nI hj hb) hd ?_
  rw [nI_clamp (by omega)]
  exact kk _ (hR.setL hk ht _) (mFr.set hk.2 _)
end MRW
