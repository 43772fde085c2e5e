/-! The class: state (scalars; ints, longs, references by the number of their function; addresses, counts), picture. -/
abbrev cG : Type := (Nat → Nat → Nat) × (Nat → Nat)
abbrev cSt : Type := (Nat → Int32) × (Nat → Nat → Int32) × (Nat → Nat → Int64) × (Nat → Nat → Option Nat) × cG
/-- the address of section q -/
def cQ (g : cG) (q : Nat) : Nat := g.1 0 (q / 4) + 2 + q % 4
def cAd (o : Nat) (g : cG) (k i : Nat) : Nat := match k with
  | 17 => g.1 0 i
  | 18 => cQ g i
  | 19 => g.1 1 i
  | 20 => g.1 2 i
  | 21 => g.1 3 i
  | 22 => g.1 4 i
  | 23 => g.1 0 i + 1
  | k => o + k
def cN (g : cG) (k : Nat) : Nat := match k with
  | 17 => g.2 0
  | 18 => 4 * g.2 0
  | 19 => g.2 1
  | 20 => g.2 2
  | 21 => g.2 3
  | 22 => g.2 4
  | 23 => g.2 0
  | _ => 1
def cE (o : Nat) (c : cSt) (k i : Nat) : ax_E := match k with
  | 0 => .inr (0, [.ref (o + 1), .ref (o + 2), .ref (o + 3), .ref (o + 4), .ref (o + 5), .ref (o + 6), .ref (o + 7), .ref (o + 8), .ref (o + 16), .int (c.1 9), .int (c.1 10), .int (c.1 11), .int (c.1 12), .int (c.1 13), .int (c.1 14), .int (c.1 15)])
  | 1 => .inl (.object "SymbolLinker$Unit", 32, .inr (.inr (.inr (.inr (c.2.2.2.1 1)))))
  | 2 => .inl (.object "SymbolLinker$Name", 2048, .inr (.inr (.inr (.inr (c.2.2.2.1 2)))))
  | 3 => .inl (.object "SymbolLinker$Symbol", 2048, .inr (.inr (.inr (.inr (c.2.2.2.1 3)))))
  | 4 => .inl (.object "SymbolLinker$Wait", 4096, .inr (.inr (.inr (.inr (c.2.2.2.1 4)))))
  | 5 => .inl (.object "SymbolLinker$Start", 8192, .inr (.inr (.inr (.inr (c.2.2.2.1 5)))))
  | 6 => .inl (.byte, 262144, .inl (c.2.1 6))
  | 7 => .inr (1, [.int (c.1 50), .int (c.1 51), .int (c.1 52)])
  | 8 => .inr (2, [.ref (o + 9), .ref (o + 10), .ref (o + 11), .ref (o + 12), .ref (o + 13), .ref (o + 14), .ref (o + 15), .int (c.1 53), .int (c.1 54)])
  | 9 => .inl (.int, 7, .inl (c.2.1 9))
  | 10 => .inl (.byte, 262144, .inl (c.2.1 10))
  | 11 => .inl (.long, 2048, .inr (.inl (c.2.2.1 11)))
  | 12 => .inl (.int, 2048, .inl (c.2.1 12))
  | 13 => .inl (.int, 2048, .inl (c.2.1 13))
  | 14 => .inl (.int, 8192, .inl (c.2.1 14))
  | 15 => .inl (.int, 8192, .inl (c.2.1 15))
  | 16 => .inl (.int, 7, .inl (c.2.1 16))
  | 17 => .inr (3, [.int (nI i), .int (c.2.1 20 i), .ref (c.2.2.2.2.1 0 i + 1), .ref (o + 3), .int (c.2.1 21 i), .int (c.2.1 22 i), .int (c.2.1 23 i)])
  | 18 => .inr (4, [.ref (c.2.2.2.2.1 0 (i / 4)), .int (c.2.1 24 i), .int (c.2.1 25 i), .int (c.2.1 26 i), .int (c.2.1 27 i), .int (c.2.1 28 i)])
  | 19 => .inr (5, [.long (c.2.2.1 42 i), .int (c.2.1 29 i), .int (c.2.1 30 i), .int (c.2.1 31 i), va_rf (c.2.2.2.1 44 i), va_rf (c.2.2.2.1 45 i)])
  | 20 => .inr (6, [.ref (c.2.2.2.2.1 1 (c.2.2.2.2.1 5 i)), .int (c.2.1 32 i), .int (c.2.1 33 i), va_rf (c.2.2.2.1 46 i), .int (c.2.1 34 i), .int (c.2.1 35 i)])
  | 21 => .inr (7, [.ref (cQ c.2.2.2.2 (c.2.2.2.2.1 6 i)), .int (c.2.1 36 i), .int (c.2.1 37 i), .long (c.2.2.1 43 i), .int (c.2.1 38 i), .int (c.2.1 39 i), va_rf (c.2.2.2.1 47 i), va_rf (c.2.2.2.1 48 i)])
  | 22 => .inr (8, [.ref (cQ c.2.2.2.2 (c.2.2.2.2.1 7 i)), .int (c.2.1 40 i), .int (c.2.1 41 i)])
  | _ => .inl (.object "SymbolLinker$Section", 4, .inr (.inr (.inr (.inr (fun k => if k < 4 then some (c.2.2.2.2.1 0 i + 2 + k) else none)))))
def cV (g : cG) (k i : Nat) : Prop := k < 24 ∧ i < cN g k
/-- the cells stand apart, clear of what the law has; the numbers behind them are in their bounds -/
def cSp (o : Nat) (g : cG) : Prop := (∀ k i k2 i2, cV g k i → cV g k2 i2 → cAd o g k i = cAd o g k2 i2 → k = k2 ∧ i = i2) ∧ (∀ k i, cV g k i → 17 ≤ k → o + 54 ≤ cAd o g k i ∧ cAd o g k i < g.2 5) ∧ o + 54 ≤ g.2 5 ∧ (∀ i, i < g.2 2 → g.1 5 i < g.2 1) ∧ (∀ i, i < g.2 3 → g.1 6 i < 4 * g.2 0) ∧ (∀ i, i < g.2 4 → g.1 7 i < 4 * g.2 0)
def cR (o : Nat) (c : cSt) (h : ax_H) : Prop := cSp o c.2.2.2.2 ∧ c.2.2.2.2.2 5 ≤ h.1 ∧ ∀ k i, cV c.2.2.2.2 k i → h.2.2 (cAd o c.2.2.2.2 k i) = some (cE o c k i)
def cFr (o t : Nat) (h h1 : ax_H) : Prop := h1.1 = h.1 ∧ h1.2.1 = h.2.1 ∧ ∀ a, ((o + 17 ≤ a ∧ a < o + 54) ∨ t ≤ a) → h1.2.2 a = h.2.2 a
theorem cFr.rf (o t : Nat) (h : ax_H) : cFr o t h h := ⟨rfl, rfl, fun _ _ => rfl⟩
theorem cFr.tr {o t : Nat} {h h1 h2 : ax_H} (a : cFr o t h h1) (b : cFr o t h1 h2) : cFr o t h h2 := ⟨b.1.trans a.1, b.2.1.trans a.2.1, fun q hq => (b.2.2 q hq).trans (a.2.2 q hq)⟩
theorem cR.out {o : Nat} {c : cSt} {h : ax_H} (hR : cR o c h) {k i a : Nat} (hv : cV c.2.2.2.2 k i) (ha : (o + 17 ≤ a ∧ a < o + 54) ∨ c.2.2.2.2.2 5 ≤ a) : cAd o c.2.2.2.2 k i ≠ a := by
  intro e
  by_cases h17 : 17 ≤ k
  · have := hR.1.2.1 k i hv h17
    omega
  · have e2 : cAd o c.2.2.2.2 k i = o + k := by
      unfold cAd
      split <;> first | omega | rfl
    have := hR.1.2.2.1
    omega
theorem cR.frame {o : Nat} {c : cSt} {h h1 : ax_H} (hR : cR o c h) (h2 : c.2.2.2.2.2 5 ≤ h1.1) (he : ∀ a, a < c.2.2.2.2.2 5 → ¬ (o + 17 ≤ a ∧ a < o + 54) → h1.2.2 a = h.2.2 a) : cR o c h1 := by
  refine ⟨hR.1, h2, fun k i hv => ?_⟩
  rw [← hR.2.2 k i hv]
  refine he _ (Nat.lt_of_not_le (fun q => hR.out hv (Or.inr q) rfl)) (fun q => hR.out hv (Or.inl q) rfl)
theorem cR.upd {o : Nat} {c c' : cSt} {h : ax_H} {k i : Nat} {E : ax_E} (hR : cR o c h) (hv : cV c.2.2.2.2 k i) (hg : c'.2.2.2.2 = c.2.2.2.2) (hE : ∀ k2 i2, cV c.2.2.2.2 k2 i2 → ¬ (k2 = k ∧ i2 = i) → cE o c' k2 i2 = cE o c k2 i2) (hE1 : cE o c' k i = E) : cR o c' (ax_set h (cAd o c.2.2.2.2 k i) E) ∧ cFr o (c.2.2.2.2.2 5) h (ax_set h (cAd o c.2.2.2.2 k i) E) := by
  refine ⟨⟨by rw [hg]; exact hR.1, by rw [hg]; exact hR.2.1, ?_⟩, rfl, rfl, fun a ha => ax_get_ne _ (fun e => hR.out hv ha e.symm)⟩
  rw [hg]
  intro k2 i2 hv2
  by_cases e : k2 = k ∧ i2 = i
  · obtain ⟨rfl, rfl⟩ := e
    rw [hE1]
    exact ax_get_self _ _
  · rw [hE k2 i2 hv2 e]
    exact (ax_get_ne _ (fun q => e (hR.1.1 _ _ _ _ hv2 hv q))).trans (hR.2.2 k2 i2 hv2)
theorem va_rf_n (C : String) (r : Option Nat) : narrow (.object C) (va_rf r) = va_rf r := by cases r <;> rfl
theorem va_rf_f (C : String) (r : Option Nat) : fits (.object C) (va_rf r) = true := by cases r <;> rfl
section CRR
variable {o : Nat} {c : cSt} {h : ax_H}
theorem cR.obj (hR : cR o c h) : h.2.2 (o) = some (.inr (0, [.ref (o + 1), .ref (o + 2), .ref (o + 3), .ref (o + 4), .ref (o + 5), .ref (o + 6), .ref (o + 7), .ref (o + 8), .ref (o + 16), .int (c.1 9), .int (c.1 10), .int (c.1 11), .int (c.1 12), .int (c.1 13), .int (c.1 14), .int (c.1 15)])) := hR.2.2 0 0 ⟨by decide, Nat.one_pos⟩
theorem cR.a1 (hR : cR o c h) : h.2.2 (o + 1) = some (.inl (.object "SymbolLinker$Unit", 32, .inr (.inr (.inr (.inr (c.2.2.2.1 1)))))) := hR.2.2 1 0 ⟨by decide, Nat.one_pos⟩
theorem cR.a2 (hR : cR o c h) : h.2.2 (o + 2) = some (.inl (.object "SymbolLinker$Name", 2048, .inr (.inr (.inr (.inr (c.2.2.2.1 2)))))) := hR.2.2 2 0 ⟨by decide, Nat.one_pos⟩
theorem cR.a3 (hR : cR o c h) : h.2.2 (o + 3) = some (.inl (.object "SymbolLinker$Symbol", 2048, .inr (.inr (.inr (.inr (c.2.2.2.1 3)))))) := hR.2.2 3 0 ⟨by decide, Nat.one_pos⟩
theorem cR.a4 (hR : cR o c h) : h.2.2 (o + 4) = some (.inl (.object "SymbolLinker$Wait", 4096, .inr (.inr (.inr (.inr (c.2.2.2.1 4)))))) := hR.2.2 4 0 ⟨by decide, Nat.one_pos⟩
theorem cR.a5 (hR : cR o c h) : h.2.2 (o + 5) = some (.inl (.object "SymbolLinker$Start", 8192, .inr (.inr (.inr (.inr (c.2.2.2.1 5)))))) := hR.2.2 5 0 ⟨by decide, Nat.one_pos⟩
theorem cR.a6 (hR : cR o c h) : h.2.2 (o + 6) = some (.inl (.byte, 262144, .inl (c.2.1 6))) := hR.2.2 6 0 ⟨by decide, Nat.one_pos⟩
theorem cR.flt (hR : cR o c h) : h.2.2 (o + 7) = some (.inr (1, [.int (c.1 50), .int (c.1 51), .int (c.1 52)])) := hR.2.2 7 0 ⟨by decide, Nat.one_pos⟩
theorem cR.img (hR : cR o c h) : h.2.2 (o + 8) = some (.inr (2, [.ref (o + 9), .ref (o + 10), .ref (o + 11), .ref (o + 12), .ref (o + 13), .ref (o + 14), .ref (o + 15), .int (c.1 53), .int (c.1 54)])) := hR.2.2 8 0 ⟨by decide, Nat.one_pos⟩
theorem cR.a9 (hR : cR o c h) : h.2.2 (o + 9) = some (.inl (.int, 7, .inl (c.2.1 9))) := hR.2.2 9 0 ⟨by decide, Nat.one_pos⟩
theorem cR.a10 (hR : cR o c h) : h.2.2 (o + 10) = some (.inl (.byte, 262144, .inl (c.2.1 10))) := hR.2.2 10 0 ⟨by decide, Nat.one_pos⟩
theorem cR.a11 (hR : cR o c h) : h.2.2 (o + 11) = some (.inl (.long, 2048, .inr (.inl (c.2.2.1 11)))) := hR.2.2 11 0 ⟨by decide, Nat.one_pos⟩
theorem cR.a12 (hR : cR o c h) : h.2.2 (o + 12) = some (.inl (.int, 2048, .inl (c.2.1 12))) := hR.2.2 12 0 ⟨by decide, Nat.one_pos⟩
theorem cR.a13 (hR : cR o c h) : h.2.2 (o + 13) = some (.inl (.int, 2048, .inl (c.2.1 13))) := hR.2.2 13 0 ⟨by decide, Nat.one_pos⟩
theorem cR.a14 (hR : cR o c h) : h.2.2 (o + 14) = some (.inl (.int, 8192, .inl (c.2.1 14))) := hR.2.2 14 0 ⟨by decide, Nat.one_pos⟩
theorem cR.a15 (hR : cR o c h) : h.2.2 (o + 15) = some (.inl (.int, 8192, .inl (c.2.1 15))) := hR.2.2 15 0 ⟨by decide, Nat.one_pos⟩
theorem cR.a16 (hR : cR o c h) : h.2.2 (o + 16) = some (.inl (.int, 7, .inl (c.2.1 16))) := hR.2.2 16 0 ⟨by decide, Nat.one_pos⟩
theorem cR.unit (hR : cR o c h) {i : Nat} (hi : i < c.2.2.2.2.2 0) : h.2.2 (c.2.2.2.2.1 0 i) = some (.inr (3, [.int (nI i), .int (c.2.1 20 i), .ref (c.2.2.2.2.1 0 i + 1), .ref (o + 3), .int (c.2.1 21 i), .int (c.2.1 22 i), .int (c.2.1 23 i)])) := hR.2.2 17 i ⟨by decide, hi⟩
theorem cR.sec (hR : cR o c h) {i : Nat} (hi : i < 4 * c.2.2.2.2.2 0) : h.2.2 (cQ c.2.2.2.2 i) = some (.inr (4, [.ref (c.2.2.2.2.1 0 (i / 4)), .int (c.2.1 24 i), .int (c.2.1 25 i), .int (c.2.1 26 i), .int (c.2.1 27 i), .int (c.2.1 28 i)])) := hR.2.2 18 i ⟨by decide, hi⟩
theorem cR.name (hR : cR o c h) {i : Nat} (hi : i < c.2.2.2.2.2 1) : h.2.2 (c.2.2.2.2.1 1 i) = some (.inr (5, [.long (c.2.2.1 42 i), .int (c.2.1 29 i), .int (c.2.1 30 i), .int (c.2.1 31 i), va_rf (c.2.2.2.1 44 i), va_rf (c.2.2.2.1 45 i)])) := hR.2.2 19 i ⟨by decide, hi⟩
theorem cR.sym (hR : cR o c h) {i : Nat} (hi : i < c.2.2.2.2.2 2) : h.2.2 (c.2.2.2.2.1 2 i) = some (.inr (6, [.ref (c.2.2.2.2.1 1 (c.2.2.2.2.1 5 i)), .int (c.2.1 32 i), .int (c.2.1 33 i), va_rf (c.2.2.2.1 46 i), .int (c.2.1 34 i), .int (c.2.1 35 i)])) := hR.2.2 20 i ⟨by decide, hi⟩
theorem cR.wait (hR : cR o c h) {i : Nat} (hi : i < c.2.2.2.2.2 3) : h.2.2 (c.2.2.2.2.1 3 i) = some (.inr (7, [.ref (cQ c.2.2.2.2 (c.2.2.2.2.1 6 i)), .int (c.2.1 36 i), .int (c.2.1 37 i), .long (c.2.2.1 43 i), .int (c.2.1 38 i), .int (c.2.1 39 i), va_rf (c.2.2.2.1 47 i), va_rf (c.2.2.2.1 48 i)])) := hR.2.2 21 i ⟨by decide, hi⟩
theorem cR.start (hR : cR o c h) {i : Nat} (hi : i < c.2.2.2.2.2 4) : h.2.2 (c.2.2.2.2.1 4 i) = some (.inr (8, [.ref (cQ c.2.2.2.2 (c.2.2.2.2.1 7 i)), .int (c.2.1 40 i), .int (c.2.1 41 i)])) := hR.2.2 22 i ⟨by decide, hi⟩
theorem cR.secs (hR : cR o c h) {i : Nat} (hi : i < c.2.2.2.2.2 0) : h.2.2 (c.2.2.2.2.1 0 i + 1) = some (.inl (.object "SymbolLinker$Section", 4, .inr (.inr (.inr (.inr (fun k => if k < 4 then some (c.2.2.2.2.1 0 i + 2 + k) else none)))))) := hR.2.2 23 i ⟨by decide, hi⟩
end CRR
section CRU
variable {o : Nat} {c : cSt} {h : ax_H}
theorem cR.p9 (hR : cR o c h) (v : Int32) : cR o (va_up c.1 9 v, c.2) (ax_set h (o) (.inr (0, [.ref (o + 1), .ref (o + 2), .ref (o + 3), .ref (o + 4), .ref (o + 5), .ref (o + 6), .ref (o + 7), .ref (o + 8), .ref (o + 16), .int v, .int (c.1 10), .int (c.1 11), .int (c.1 12), .int (c.1 13), .int (c.1 14), .int (c.1 15)]))) ∧ cFr o (c.2.2.2.2.2 5) h (ax_set h (o) (.inr (0, [.ref (o + 1), .ref (o + 2), .ref (o + 3), .ref (o + 4), .ref (o + 5), .ref (o + 6), .ref (o + 7), .ref (o + 8), .ref (o + 16), .int v, .int (c.1 10), .int (c.1 11), .int (c.1 12), .int (c.1 13), .int (c.1 14), .int (c.1 15)]))) := by
  refine hR.upd (k := 0) (i := 0) (c' := (va_up c.1 9 v, c.2)) ⟨by decide, Nat.one_pos⟩ rfl ?_ rfl
  intro k2 i2 hv2 hne
  obtain ⟨h1, h2⟩ := hv2
  match k2, h1, h2, hne with
  | 0, _, h2, hne => exact absurd ⟨rfl, Nat.lt_one_iff.mp h2⟩ hne
  | 1, _, _, _ => rfl
  | 2, _, _, _ => rfl
  | 3, _, _, _ => rfl
  | 4, _, _, _ => rfl
  | 5, _, _, _ => rfl
  | 6, _, _, _ => rfl
  | 7, _, _, _ => rfl
  | 8, _, _, _ => rfl
  | 9, _, _, _ => rfl
  | 10, _, _, _ => rfl
  | 11, _, _, _ => rfl
  | 12, _, _, _ => rfl
  | 13, _, _, _ => rfl
  | 14, _, _, _ => rfl
  | 15, _, _, _ => rfl
  | 16, _, _, _ => rfl
  | 17, _, _, _ => rfl
  | 18, _, _, _ => rfl
  | 19, _, _, _ => rfl
  | 20, _, _, _ => rfl
  | 21, _, _, _ => rfl
  | 22, _, _, _ => rfl
  | 23, _, _, _ => rfl
  | k + 24, h1, _, _ => exact absurd h1 (by omega)
theorem cR.p10 (hR : cR o c h) (v : Int32) : cR o (va_up c.1 10 v, c.2) (ax_set h (o) (.inr (0, [.ref (o + 1), .ref (o + 2), .ref (o + 3), .ref (o + 4), .ref (o + 5), .ref (o + 6), .ref (o + 7), .ref (o + 8), .ref (o + 16), .int (c.1 9), .int v, .int (c.1 11), .int (c.1 12), .int (c.1 13), .int (c.1 14), .int (c.1 15)]))) ∧ cFr o (c.2.2.2.2.2 5) h (ax_set h (o) (.inr (0, [.ref (o + 1), .ref (o + 2), .ref (o + 3), .ref (o + 4), .ref (o + 5), .ref (o + 6), .ref (o + 7), .ref (o + 8), .ref (o + 16), .int (c.1 9), .int v, .int (c.1 11), .int (c.1 12), .int (c.1 13), .int (c.1 14), .int (c.1 15)]))) := by
  refine hR.upd (k := 0) (i := 0) (c' := (va_up c.1 10 v, c.2)) ⟨by decide, Nat.one_pos⟩ rfl ?_ rfl
  intro k2 i2 hv2 hne
  obtain ⟨h1, h2⟩ := hv2
  match k2, h1, h2, hne with
  | 0, _, h2, hne => exact absurd ⟨rfl, Nat.lt_one_iff.mp h2⟩ hne
  | 1, _, _, _ => rfl
  | 2, _, _, _ => rfl
  | 3, _, _, _ => rfl
  | 4, _, _, _ => rfl
  | 5, _, _, _ => rfl
  | 6, _, _, _ => rfl
  | 7, _, _, _ => rfl
  | 8, _, _, _ => rfl
  | 9, _, _, _ => rfl
  | 10, _, _, _ => rfl
  | 11, _, _, _ => rfl
  | 12, _, _, _ => rfl
  | 13, _, _, _ => rfl
  | 14, _, _, _ => rfl
  | 15, _, _, _ => rfl
  | 16, _, _, _ => rfl
  | 17, _, _, _ => rfl
  | 18, _, _, _ => rfl
  | 19, _, _, _ => rfl
  | 20, _, _, _ => rfl
  | 21, _, _, _ => rfl
  | 22, _, _, _ => rfl
  | 23, _, _, _ => rfl
  | k + 24, h1, _, _ => exact absurd h1 (by omega)
theorem cR.p11 (hR : cR o c h) (v : Int32) : cR o (va_up c.1 11 v, c.2) (ax_set h (o) (.inr (0, [.ref (o + 1), .ref (o + 2), .ref (o + 3), .ref (o + 4), .ref (o + 5), .ref (o + 6), .ref (o + 7), .ref (o + 8), .ref (o + 16), .int (c.1 9), .int (c.1 10), .int v, .int (c.1 12), .int (c.1 13), .int (c.1 14), .int (c.1 15)]))) ∧ cFr o (c.2.2.2.2.2 5) h (ax_set h (o) (.inr (0, [.ref (o + 1), .ref (o + 2), .ref (o + 3), .ref (o + 4), .ref (o + 5), .ref (o + 6), .ref (o + 7), .ref (o + 8), .ref (o + 16), .int (c.1 9), .int (c.1 10), .int v, .int (c.1 12), .int (c.1 13), .int (c.1 14), .int (c.1 15)]))) := by
  refine hR.upd (k := 0) (i := 0) (c' := (va_up c.1 11 v, c.2)) ⟨by decide, Nat.one_pos⟩ rfl ?_ rfl
  intro k2 i2 hv2 hne
  obtain ⟨h1, h2⟩ := hv2
  match k2, h1, h2, hne with
  | 0, _, h2, hne => exact absurd ⟨rfl, Nat.lt_one_iff.mp h2⟩ hne
  | 1, _, _, _ => rfl
  | 2, _, _, _ => rfl
  | 3, _, _, _ => rfl
  | 4, _, _, _ => rfl
  | 5, _, _, _ => rfl
  | 6, _, _, _ => rfl
  | 7, _, _, _ => rfl
  | 8, _, _, _ => rfl
  | 9, _, _, _ => rfl
  | 10, _, _, _ => rfl
  | 11, _, _, _ => rfl
  | 12, _, _, _ => rfl
  | 13, _, _, _ => rfl
  | 14, _, _, _ => rfl
  | 15, _, _, _ => rfl
  | 16, _, _, _ => rfl
  | 17, _, _, _ => rfl
  | 18, _, _, _ => rfl
  | 19, _, _, _ => rfl
  | 20, _, _, _ => rfl
  | 21, _, _, _ => rfl
  | 22, _, _, _ => rfl
  | 23, _, _, _ => rfl
  | k + 24, h1, _, _ => exact absurd h1 (by omega)
theorem cR.p12 (hR : cR o c h) (v : Int32) : cR o (va_up c.1 12 v, c.2) (ax_set h (o) (.inr (0, [.ref (o + 1), .ref (o + 2), .ref (o + 3), .ref (o + 4), .ref (o + 5), .ref (o + 6), .ref (o + 7), .ref (o + 8), .ref (o + 16), .int (c.1 9), .int (c.1 10), .int (c.1 11), .int v, .int (c.1 13), .int (c.1 14), .int (c.1 15)]))) ∧ cFr o (c.2.2.2.2.2 5) h (ax_set h (o) (.inr (0, [.ref (o + 1), .ref (o + 2), .ref (o + 3), .ref (o + 4), .ref (o + 5), .ref (o + 6), .ref (o + 7), .ref (o + 8), .ref (o + 16), .int (c.1 9), .int (c.1 10), .int (c.1 11), .int v, .int (c.1 13), .int (c.1 14), .int (c.1 15)]))) := by
  refine hR.upd (k := 0) (i := 0) (c' := (va_up c.1 12 v, c.2)) ⟨by decide, Nat.one_pos⟩ rfl ?_ rfl
  intro k2 i2 hv2 hne
  obtain ⟨h1, h2⟩ := hv2
  match k2, h1, h2, hne with
  | 0, _, h2, hne => exact absurd ⟨rfl, Nat.lt_one_iff.mp h2⟩ hne
  | 1, _, _, _ => rfl
  | 2, _, _, _ => rfl
  | 3, _, _, _ => rfl
  | 4, _, _, _ => rfl
  | 5, _, _, _ => rfl
  | 6, _, _, _ => rfl
  | 7, _, _, _ => rfl
  | 8, _, _, _ => rfl
  | 9, _, _, _ => rfl
  | 10, _, _, _ => rfl
  | 11, _, _, _ => rfl
  | 12, _, _, _ => rfl
  | 13, _, _, _ => rfl
  | 14, _, _, _ => rfl
  | 15, _, _, _ => rfl
  | 16, _, _, _ => rfl
  | 17, _, _, _ => rfl
  | 18, _, _, _ => rfl
  | 19, _, _, _ => rfl
  | 20, _, _, _ => rfl
  | 21, _, _, _ => rfl
  | 22, _, _, _ => rfl
  | 23, _, _, _ => rfl
  | k + 24, h1, _, _ => exact absurd h1 (by omega)
theorem cR.p13 (hR : cR o c h) (v : Int32) : cR o (va_up c.1 13 v, c.2) (ax_set h (o) (.inr (0, [.ref (o + 1), .ref (o + 2), .ref (o + 3), .ref (o + 4), .ref (o + 5), .ref (o + 6), .ref (o + 7), .ref (o + 8), .ref (o + 16), .int (c.1 9), .int (c.1 10), .int (c.1 11), .int (c.1 12), .int v, .int (c.1 14), .int (c.1 15)]))) ∧ cFr o (c.2.2.2.2.2 5) h (ax_set h (o) (.inr (0, [.ref (o + 1), .ref (o + 2), .ref (o + 3), .ref (o + 4), .ref (o + 5), .ref (o + 6), .ref (o + 7), .ref (o + 8), .ref (o + 16), .int (c.1 9), .int (c.1 10), .int (c.1 11), .int (c.1 12), .int v, .int (c.1 14), .int (c.1 15)]))) := by
  refine hR.upd (k := 0) (i := 0) (c' := (va_up c.1 13 v, c.2)) ⟨by decide, Nat.one_pos⟩ rfl ?_ rfl
  intro k2 i2 hv2 hne
  obtain ⟨h1, h2⟩ := hv2
  match k2, h1, h2, hne with
  | 0, _, h2, hne => exact absurd ⟨rfl, Nat.lt_one_iff.mp h2⟩ hne
  | 1, _, _, _ => rfl
  | 2, _, _, _ => rfl
  | 3, _, _, _ => rfl
  | 4, _, _, _ => rfl
  | 5, _, _, _ => rfl
  | 6, _, _, _ => rfl
  | 7, _, _, _ => rfl
  | 8, _, _, _ => rfl
  | 9, _, _, _ => rfl
  | 10, _, _, _ => rfl
  | 11, _, _, _ => rfl
  | 12, _, _, _ => rfl
  | 13, _, _, _ => rfl
  | 14, _, _, _ => rfl
  | 15, _, _, _ => rfl
  | 16, _, _, _ => rfl
  | 17, _, _, _ => rfl
  | 18, _, _, _ => rfl
  | 19, _, _, _ => rfl
  | 20, _, _, _ => rfl
  | 21, _, _, _ => rfl
  | 22, _, _, _ => rfl
  | 23, _, _, _ => rfl
  | k + 24, h1, _, _ => exact absurd h1 (by omega)
theorem cR.p14 (hR : cR o c h) (v : Int32) : cR o (va_up c.1 14 v, c.2) (ax_set h (o) (.inr (0, [.ref (o + 1), .ref (o + 2), .ref (o + 3), .ref (o + 4), .ref (o + 5), .ref (o + 6), .ref (o + 7), .ref (o + 8), .ref (o + 16), .int (c.1 9), .int (c.1 10), .int (c.1 11), .int (c.1 12), .int (c.1 13), .int v, .int (c.1 15)]))) ∧ cFr o (c.2.2.2.2.2 5) h (ax_set h (o) (.inr (0, [.ref (o + 1), .ref (o + 2), .ref (o + 3), .ref (o + 4), .ref (o + 5), .ref (o + 6), .ref (o + 7), .ref (o + 8), .ref (o + 16), .int (c.1 9), .int (c.1 10), .int (c.1 11), .int (c.1 12), .int (c.1 13), .int v, .int (c.1 15)]))) := by
  refine hR.upd (k := 0) (i := 0) (c' := (va_up c.1 14 v, c.2)) ⟨by decide, Nat.one_pos⟩ rfl ?_ rfl
  intro k2 i2 hv2 hne
  obtain ⟨h1, h2⟩ := hv2
  match k2, h1, h2, hne with
  | 0, _, h2, hne => exact absurd ⟨rfl, Nat.lt_one_iff.mp h2⟩ hne
  | 1, _, _, _ => rfl
  | 2, _, _, _ => rfl
  | 3, _, _, _ => rfl
  | 4, _, _, _ => rfl
  | 5, _, _, _ => rfl
  | 6, _, _, _ => rfl
  | 7, _, _, _ => rfl
  | 8, _, _, _ => rfl
  | 9, _, _, _ => rfl
  | 10, _, _, _ => rfl
  | 11, _, _, _ => rfl
  | 12, _, _, _ => rfl
  | 13, _, _, _ => rfl
  | 14, _, _, _ => rfl
  | 15, _, _, _ => rfl
  | 16, _, _, _ => rfl
  | 17, _, _, _ => rfl
  | 18, _, _, _ => rfl
  | 19, _, _, _ => rfl
  | 20, _, _, _ => rfl
  | 21, _, _, _ => rfl
  | 22, _, _, _ => rfl
  | 23, _, _, _ => rfl
  | k + 24, h1, _, _ => exact absurd h1 (by omega)
theorem cR.p15 (hR : cR o c h) (v : Int32) : cR o (va_up c.1 15 v, c.2) (ax_set h (o) (.inr (0, [.ref (o + 1), .ref (o + 2), .ref (o + 3), .ref (o + 4), .ref (o + 5), .ref (o + 6), .ref (o + 7), .ref (o + 8), .ref (o + 16), .int (c.1 9), .int (c.1 10), .int (c.1 11), .int (c.1 12), .int (c.1 13), .int (c.1 14), .int v]))) ∧ cFr o (c.2.2.2.2.2 5) h (ax_set h (o) (.inr (0, [.ref (o + 1), .ref (o + 2), .ref (o + 3), .ref (o + 4), .ref (o + 5), .ref (o + 6), .ref (o + 7), .ref (o + 8), .ref (o + 16), .int (c.1 9), .int (c.1 10), .int (c.1 11), .int (c.1 12), .int (c.1 13), .int (c.1 14), .int v]))) := by
  refine hR.upd (k := 0) (i := 0) (c' := (va_up c.1 15 v, c.2)) ⟨by decide, Nat.one_pos⟩ rfl ?_ rfl
  intro k2 i2 hv2 hne
  obtain ⟨h1, h2⟩ := hv2
  match k2, h1, h2, hne with
  | 0, _, h2, hne => exact absurd ⟨rfl, Nat.lt_one_iff.mp h2⟩ hne
  | 1, _, _, _ => rfl
  | 2, _, _, _ => rfl
  | 3, _, _, _ => rfl
  | 4, _, _, _ => rfl
  | 5, _, _, _ => rfl
  | 6, _, _, _ => rfl
  | 7, _, _, _ => rfl
  | 8, _, _, _ => rfl
  | 9, _, _, _ => rfl
  | 10, _, _, _ => rfl
  | 11, _, _, _ => rfl
  | 12, _, _, _ => rfl
  | 13, _, _, _ => rfl
  | 14, _, _, _ => rfl
  | 15, _, _, _ => rfl
  | 16, _, _, _ => rfl
  | 17, _, _, _ => rfl
  | 18, _, _, _ => rfl
  | 19, _, _, _ => rfl
  | 20, _, _, _ => rfl
  | 21, _, _, _ => rfl
  | 22, _, _, _ => rfl
  | 23, _, _, _ => rfl
  | k + 24, h1, _, _ => exact absurd h1 (by omega)
theorem cR.p50 (hR : cR o c h) (v : Int32) : cR o (va_up c.1 50 v, c.2) (ax_set h (o + 7) (.inr (1, [.int v, .int (c.1 51), .int (c.1 52)]))) ∧ cFr o (c.2.2.2.2.2 5) h (ax_set h (o + 7) (.inr (1, [.int v, .int (c.1 51), .int (c.1 52)]))) := by
  refine hR.upd (k := 7) (i := 0) (c' := (va_up c.1 50 v, c.2)) ⟨by decide, Nat.one_pos⟩ rfl ?_ rfl
  intro k2 i2 hv2 hne
  obtain ⟨h1, h2⟩ := hv2
  match k2, h1, h2, hne with
  | 0, _, _, _ => rfl
  | 1, _, _, _ => rfl
  | 2, _, _, _ => rfl
  | 3, _, _, _ => rfl
  | 4, _, _, _ => rfl
  | 5, _, _, _ => rfl
  | 6, _, _, _ => rfl
  | 7, _, h2, hne => exact absurd ⟨rfl, Nat.lt_one_iff.mp h2⟩ hne
  | 8, _, _, _ => rfl
  | 9, _, _, _ => rfl
  | 10, _, _, _ => rfl
  | 11, _, _, _ => rfl
  | 12, _, _, _ => rfl
  | 13, _, _, _ => rfl
  | 14, _, _, _ => rfl
  | 15, _, _, _ => rfl
  | 16, _, _, _ => rfl
  | 17, _, _, _ => rfl
  | 18, _, _, _ => rfl
  | 19, _, _, _ => rfl
  | 20, _, _, _ => rfl
  | 21, _, _, _ => rfl
  | 22, _, _, _ => rfl
  | 23, _, _, _ => rfl
  | k + 24, h1, _, _ => exact absurd h1 (by omega)
theorem cR.p51 (hR : cR o c h) (v : Int32) : cR o (va_up c.1 51 v, c.2) (ax_set h (o + 7) (.inr (1, [.int (c.1 50), .int v, .int (c.1 52)]))) ∧ cFr o (c.2.2.2.2.2 5) h (ax_set h (o + 7) (.inr (1, [.int (c.1 50), .int v, .int (c.1 52)]))) := by
  refine hR.upd (k := 7) (i := 0) (c' := (va_up c.1 51 v, c.2)) ⟨by decide, Nat.one_pos⟩ rfl ?_ rfl
  intro k2 i2 hv2 hne
  obtain ⟨h1, h2⟩ := hv2
  match k2, h1, h2, hne with
  | 0, _, _, _ => rfl
  | 1, _, _, _ => rfl
  | 2, _, _, _ => rfl
  | 3, _, _, _ => rfl
  | 4, _, _, _ => rfl
  | 5, _, _, _ => rfl
  | 6, _, _, _ => rfl
  | 7, _, h2, hne => exact absurd ⟨rfl, Nat.lt_one_iff.mp h2⟩ hne
  | 8, _, _, _ => rfl
  | 9, _, _, _ => rfl
  | 10, _, _, _ => rfl
  | 11, _, _, _ => rfl
  | 12, _, _, _ => rfl
  | 13, _, _, _ => rfl
  | 14, _, _, _ => rfl
  | 15, _, _, _ => rfl
  | 16, _, _, _ => rfl
  | 17, _, _, _ => rfl
  | 18, _, _, _ => rfl
  | 19, _, _, _ => rfl
  | 20, _, _, _ => rfl
  | 21, _, _, _ => rfl
  | 22, _, _, _ => rfl
  | 23, _, _, _ => rfl
  | k + 24, h1, _, _ => exact absurd h1 (by omega)
theorem cR.p52 (hR : cR o c h) (v : Int32) : cR o (va_up c.1 52 v, c.2) (ax_set h (o + 7) (.inr (1, [.int (c.1 50), .int (c.1 51), .int v]))) ∧ cFr o (c.2.2.2.2.2 5) h (ax_set h (o + 7) (.inr (1, [.int (c.1 50), .int (c.1 51), .int v]))) := by
  refine hR.upd (k := 7) (i := 0) (c' := (va_up c.1 52 v, c.2)) ⟨by decide, Nat.one_pos⟩ rfl ?_ rfl
  intro k2 i2 hv2 hne
  obtain ⟨h1, h2⟩ := hv2
  match k2, h1, h2, hne with
  | 0, _, _, _ => rfl
  | 1, _, _, _ => rfl
  | 2, _, _, _ => rfl
  | 3, _, _, _ => rfl
  | 4, _, _, _ => rfl
  | 5, _, _, _ => rfl
  | 6, _, _, _ => rfl
  | 7, _, h2, hne => exact absurd ⟨rfl, Nat.lt_one_iff.mp h2⟩ hne
  | 8, _, _, _ => rfl
  | 9, _, _, _ => rfl
  | 10, _, _, _ => rfl
  | 11, _, _, _ => rfl
  | 12, _, _, _ => rfl
  | 13, _, _, _ => rfl
  | 14, _, _, _ => rfl
  | 15, _, _, _ => rfl
  | 16, _, _, _ => rfl
  | 17, _, _, _ => rfl
  | 18, _, _, _ => rfl
  | 19, _, _, _ => rfl
  | 20, _, _, _ => rfl
  | 21, _, _, _ => rfl
  | 22, _, _, _ => rfl
  | 23, _, _, _ => rfl
  | k + 24, h1, _, _ => exact absurd h1 (by omega)
theorem cR.p53 (hR : cR o c h) (v : Int32) : cR o (va_up c.1 53 v, c.2) (ax_set h (o + 8) (.inr (2, [.ref (o + 9), .ref (o + 10), .ref (o + 11), .ref (o + 12), .ref (o + 13), .ref (o + 14), .ref (o + 15), .int v, .int (c.1 54)]))) ∧ cFr o (c.2.2.2.2.2 5) h (ax_set h (o + 8) (.inr (2, [.ref (o + 9), .ref (o + 10), .ref (o + 11), .ref (o + 12), .ref (o + 13), .ref (o + 14), .ref (o + 15), .int v, .int (c.1 54)]))) := by
  refine hR.upd (k := 8) (i := 0) (c' := (va_up c.1 53 v, c.2)) ⟨by decide, Nat.one_pos⟩ rfl ?_ rfl
  intro k2 i2 hv2 hne
  obtain ⟨h1, h2⟩ := hv2
  match k2, h1, h2, hne with
  | 0, _, _, _ => rfl
  | 1, _, _, _ => rfl
  | 2, _, _, _ => rfl
  | 3, _, _, _ => rfl
  | 4, _, _, _ => rfl
  | 5, _, _, _ => rfl
  | 6, _, _, _ => rfl
  | 7, _, _, _ => rfl
  | 8, _, h2, hne => exact absurd ⟨rfl, Nat.lt_one_iff.mp h2⟩ hne
  | 9, _, _, _ => rfl
  | 10, _, _, _ => rfl
  | 11, _, _, _ => rfl
  | 12, _, _, _ => rfl
  | 13, _, _, _ => rfl
  | 14, _, _, _ => rfl
  | 15, _, _, _ => rfl
  | 16, _, _, _ => rfl
  | 17, _, _, _ => rfl
  | 18, _, _, _ => rfl
  | 19, _, _, _ => rfl
  | 20, _, _, _ => rfl
  | 21, _, _, _ => rfl
  | 22, _, _, _ => rfl
  | 23, _, _, _ => rfl
  | k + 24, h1, _, _ => exact absurd h1 (by omega)
theorem cR.p54 (hR : cR o c h) (v : Int32) : cR o (va_up c.1 54 v, c.2) (ax_set h (o + 8) (.inr (2, [.ref (o + 9), .ref (o + 10), .ref (o + 11), .ref (o + 12), .ref (o + 13), .ref (o + 14), .ref (o + 15), .int (c.1 53), .int v]))) ∧ cFr o (c.2.2.2.2.2 5) h (ax_set h (o + 8) (.inr (2, [.ref (o + 9), .ref (o + 10), .ref (o + 11), .ref (o + 12), .ref (o + 13), .ref (o + 14), .ref (o + 15), .int (c.1 53), .int v]))) := by
  refine hR.upd (k := 8) (i := 0) (c' := (va_up c.1 54 v, c.2)) ⟨by decide, Nat.one_pos⟩ rfl ?_ rfl
  intro k2 i2 hv2 hne
  obtain ⟨h1, h2⟩ := hv2
  match k2, h1, h2, hne with
  | 0, _, _, _ => rfl
  | 1, _, _, _ => rfl
  | 2, _, _, _ => rfl
  | 3, _, _, _ => rfl
  | 4, _, _, _ => rfl
  | 5, _, _, _ => rfl
  | 6, _, _, _ => rfl
  | 7, _, _, _ => rfl
  | 8, _, h2, hne => exact absurd ⟨rfl, Nat.lt_one_iff.mp h2⟩ hne
  | 9, _, _, _ => rfl
  | 10, _, _, _ => rfl
  | 11, _, _, _ => rfl
  | 12, _, _, _ => rfl
  | 13, _, _, _ => rfl
  | 14, _, _, _ => rfl
  | 15, _, _, _ => rfl
  | 16, _, _, _ => rfl
  | 17, _, _, _ => rfl
  | 18, _, _, _ => rfl
  | 19, _, _, _ => rfl
  | 20, _, _, _ => rfl
  | 21, _, _, _ => rfl
  | 22, _, _, _ => rfl
  | 23, _, _, _ => rfl
  | k + 24, h1, _, _ => exact absurd h1 (by omega)
theorem cR.p22 (hR : cR o c h) {i : Nat} (hi : i < c.2.2.2.2.2 0) (v : Int32) : cR o (c.1, va_up c.2.1 22 (va_up (c.2.1 22) i v), c.2.2) (ax_set h (c.2.2.2.2.1 0 i) (.inr (3, [.int (nI i), .int (c.2.1 20 i), .ref (c.2.2.2.2.1 0 i + 1), .ref (o + 3), .int (c.2.1 21 i), .int v, .int (c.2.1 23 i)]))) ∧ cFr o (c.2.2.2.2.2 5) h (ax_set h (c.2.2.2.2.1 0 i) (.inr (3, [.int (nI i), .int (c.2.1 20 i), .ref (c.2.2.2.2.1 0 i + 1), .ref (o + 3), .int (c.2.1 21 i), .int v, .int (c.2.1 23 i)]))) := by
  refine hR.upd (k := 17) (i := i) (c' := (c.1, va_up c.2.1 22 (va_up (c.2.1 22) i v), c.2.2)) ⟨by decide, hi⟩ rfl ?_ (by show (Sum.inr (3, [.int (nI i), .int (c.2.1 20 i), .ref (c.2.2.2.2.1 0 i + 1), .ref (o + 3), .int (c.2.1 21 i), .int (va_up c.2.1 22 (va_up (c.2.1 22) i v) 22 i), .int (c.2.1 23 i)]) : ax_E) = _; rw [va_up_self, va_up_self])
  intro k2 i2 hv2 hne
  obtain ⟨h1, h2⟩ := hv2
  match k2, h1, h2, hne with
  | 0, _, _, _ => rfl
  | 1, _, _, _ => rfl
  | 2, _, _, _ => rfl
  | 3, _, _, _ => rfl
  | 4, _, _, _ => rfl
  | 5, _, _, _ => rfl
  | 6, _, _, _ => rfl
  | 7, _, _, _ => rfl
  | 8, _, _, _ => rfl
  | 9, _, _, _ => rfl
  | 10, _, _, _ => rfl
  | 11, _, _, _ => rfl
  | 12, _, _, _ => rfl
  | 13, _, _, _ => rfl
  | 14, _, _, _ => rfl
  | 15, _, _, _ => rfl
  | 16, _, _, _ => rfl
  | 17, _, h2, hne => show (Sum.inr (3, [.int (nI i2), .int (c.2.1 20 i2), .ref (c.2.2.2.2.1 0 i2 + 1), .ref (o + 3), .int (c.2.1 21 i2), .int (va_up c.2.1 22 (va_up (c.2.1 22) i v) 22 i2), .int (c.2.1 23 i2)]) : ax_E) = Sum.inr (3, [.int (nI i2), .int (c.2.1 20 i2), .ref (c.2.2.2.2.1 0 i2 + 1), .ref (o + 3), .int (c.2.1 21 i2), .int (c.2.1 22 i2), .int (c.2.1 23 i2)]); rw [va_up_self, va_up_ne _ _ (fun q => hne ⟨rfl, q⟩)]
  | 18, _, _, _ => rfl
  | 19, _, _, _ => rfl
  | 20, _, _, _ => rfl
  | 21, _, _, _ => rfl
  | 22, _, _, _ => rfl
  | 23, _, _, _ => rfl
  | k + 24, h1, _, _ => exact absurd h1 (by omega)
theorem cR.p23 (hR : cR o c h) {i : Nat} (hi : i < c.2.2.2.2.2 0) (v : Int32) : cR o (c.1, va_up c.2.1 23 (va_up (c.2.1 23) i v), c.2.2) (ax_set h (c.2.2.2.2.1 0 i) (.inr (3, [.int (nI i), .int (c.2.1 20 i), .ref (c.2.2.2.2.1 0 i + 1), .ref (o + 3), .int (c.2.1 21 i), .int (c.2.1 22 i), .int v]))) ∧ cFr o (c.2.2.2.2.2 5) h (ax_set h (c.2.2.2.2.1 0 i) (.inr (3, [.int (nI i), .int (c.2.1 20 i), .ref (c.2.2.2.2.1 0 i + 1), .ref (o + 3), .int (c.2.1 21 i), .int (c.2.1 22 i), .int v]))) := by
  refine hR.upd (k := 17) (i := i) (c' := (c.1, va_up c.2.1 23 (va_up (c.2.1 23) i v), c.2.2)) ⟨by decide, hi⟩ rfl ?_ (by show (Sum.inr (3, [.int (nI i), .int (c.2.1 20 i), .ref (c.2.2.2.2.1 0 i + 1), .ref (o + 3), .int (c.2.1 21 i), .int (c.2.1 22 i), .int (va_up c.2.1 23 (va_up (c.2.1 23) i v) 23 i)]) : ax_E) = _; rw [va_up_self, va_up_self])
  intro k2 i2 hv2 hne
  obtain ⟨h1, h2⟩ := hv2
  match k2, h1, h2, hne with
  | 0, _, _, _ => rfl
  | 1, _, _, _ => rfl
  | 2, _, _, _ => rfl
  | 3, _, _, _ => rfl
  | 4, _, _, _ => rfl
  | 5, _, _, _ => rfl
  | 6, _, _, _ => rfl
  | 7, _, _, _ => rfl
  | 8, _, _, _ => rfl
  | 9, _, _, _ => rfl
  | 10, _, _, _ => rfl
  | 11, _, _, _ => rfl
  | 12, _, _, _ => rfl
  | 13, _, _, _ => rfl
  | 14, _, _, _ => rfl
  | 15, _, _, _ => rfl
  | 16, _, _, _ => rfl
  | 17, _, h2, hne => show (Sum.inr (3, [.int (nI i2), .int (c.2.1 20 i2), .ref (c.2.2.2.2.1 0 i2 + 1), .ref (o + 3), .int (c.2.1 21 i2), .int (c.2.1 22 i2), .int (va_up c.2.1 23 (va_up (c.2.1 23) i v) 23 i2)]) : ax_E) = Sum.inr (3, [.int (nI i2), .int (c.2.1 20 i2), .ref (c.2.2.2.2.1 0 i2 + 1), .ref (o + 3), .int (c.2.1 21 i2), .int (c.2.1 22 i2), .int (c.2.1 23 i2)]); rw [va_up_self, va_up_ne _ _ (fun q => hne ⟨rfl, q⟩)]
  | 18, _, _, _ => rfl
  | 19, _, _, _ => rfl
  | 20, _, _, _ => rfl
  | 21, _, _, _ => rfl
  | 22, _, _, _ => rfl
  | 23, _, _, _ => rfl
  | k + 24, h1, _, _ => exact absurd h1 (by omega)
theorem cR.p26 (hR : cR o c h) {i : Nat} (hi : i < 4 * c.2.2.2.2.2 0) (v : Int32) : cR o (c.1, va_up c.2.1 26 (va_up (c.2.1 26) i v), c.2.2) (ax_set h (cQ c.2.2.2.2 i) (.inr (4, [.ref (c.2.2.2.2.1 0 (i / 4)), .int (c.2.1 24 i), .int (c.2.1 25 i), .int v, .int (c.2.1 27 i), .int (c.2.1 28 i)]))) ∧ cFr o (c.2.2.2.2.2 5) h (ax_set h (cQ c.2.2.2.2 i) (.inr (4, [.ref (c.2.2.2.2.1 0 (i / 4)), .int (c.2.1 24 i), .int (c.2.1 25 i), .int v, .int (c.2.1 27 i), .int (c.2.1 28 i)]))) := by
  refine hR.upd (k := 18) (i := i) (c' := (c.1, va_up c.2.1 26 (va_up (c.2.1 26) i v), c.2.2)) ⟨by decide, hi⟩ rfl ?_ (by show (Sum.inr (4, [.ref (c.2.2.2.2.1 0 (i / 4)), .int (c.2.1 24 i), .int (c.2.1 25 i), .int (va_up c.2.1 26 (va_up (c.2.1 26) i v) 26 i), .int (c.2.1 27 i), .int (c.2.1 28 i)]) : ax_E) = _; rw [va_up_self, va_up_self])
  intro k2 i2 hv2 hne
  obtain ⟨h1, h2⟩ := hv2
  match k2, h1, h2, hne with
  | 0, _, _, _ => rfl
  | 1, _, _, _ => rfl
  | 2, _, _, _ => rfl
  | 3, _, _, _ => rfl
  | 4, _, _, _ => rfl
  | 5, _, _, _ => rfl
  | 6, _, _, _ => rfl
  | 7, _, _, _ => rfl
  | 8, _, _, _ => rfl
  | 9, _, _, _ => rfl
  | 10, _, _, _ => rfl
  | 11, _, _, _ => rfl
  | 12, _, _, _ => rfl
  | 13, _, _, _ => rfl
  | 14, _, _, _ => rfl
  | 15, _, _, _ => rfl
  | 16, _, _, _ => rfl
  | 17, _, _, _ => rfl
  | 18, _, h2, hne => show (Sum.inr (4, [.ref (c.2.2.2.2.1 0 (i2 / 4)), .int (c.2.1 24 i2), .int (c.2.1 25 i2), .int (va_up c.2.1 26 (va_up (c.2.1 26) i v) 26 i2), .int (c.2.1 27 i2), .int (c.2.1 28 i2)]) : ax_E) = Sum.inr (4, [.ref (c.2.2.2.2.1 0 (i2 / 4)), .int (c.2.1 24 i2), .int (c.2.1 25 i2), .int (c.2.1 26 i2), .int (c.2.1 27 i2), .int (c.2.1 28 i2)]); rw [va_up_self, va_up_ne _ _ (fun q => hne ⟨rfl, q⟩)]
  | 19, _, _, _ => rfl
  | 20, _, _, _ => rfl
  | 21, _, _, _ => rfl
  | 22, _, _, _ => rfl
  | 23, _, _, _ => rfl
  | k + 24, h1, _, _ => exact absurd h1 (by omega)
theorem cR.p27 (hR : cR o c h) {i : Nat} (hi : i < 4 * c.2.2.2.2.2 0) (v : Int32) : cR o (c.1, va_up c.2.1 27 (va_up (c.2.1 27) i v), c.2.2) (ax_set h (cQ c.2.2.2.2 i) (.inr (4, [.ref (c.2.2.2.2.1 0 (i / 4)), .int (c.2.1 24 i), .int (c.2.1 25 i), .int (c.2.1 26 i), .int v, .int (c.2.1 28 i)]))) ∧ cFr o (c.2.2.2.2.2 5) h (ax_set h (cQ c.2.2.2.2 i) (.inr (4, [.ref (c.2.2.2.2.1 0 (i / 4)), .int (c.2.1 24 i), .int (c.2.1 25 i), .int (c.2.1 26 i), .int v, .int (c.2.1 28 i)]))) := by
  refine hR.upd (k := 18) (i := i) (c' := (c.1, va_up c.2.1 27 (va_up (c.2.1 27) i v), c.2.2)) ⟨by decide, hi⟩ rfl ?_ (by show (Sum.inr (4, [.ref (c.2.2.2.2.1 0 (i / 4)), .int (c.2.1 24 i), .int (c.2.1 25 i), .int (c.2.1 26 i), .int (va_up c.2.1 27 (va_up (c.2.1 27) i v) 27 i), .int (c.2.1 28 i)]) : ax_E) = _; rw [va_up_self, va_up_self])
  intro k2 i2 hv2 hne
  obtain ⟨h1, h2⟩ := hv2
  match k2, h1, h2, hne with
  | 0, _, _, _ => rfl
  | 1, _, _, _ => rfl
  | 2, _, _, _ => rfl
  | 3, _, _, _ => rfl
  | 4, _, _, _ => rfl
  | 5, _, _, _ => rfl
  | 6, _, _, _ => rfl
  | 7, _, _, _ => rfl
  | 8, _, _, _ => rfl
  | 9, _, _, _ => rfl
  | 10, _, _, _ => rfl
  | 11, _, _, _ => rfl
  | 12, _, _, _ => rfl
  | 13, _, _, _ => rfl
  | 14, _, _, _ => rfl
  | 15, _, _, _ => rfl
  | 16, _, _, _ => rfl
  | 17, _, _, _ => rfl
  | 18, _, h2, hne => show (Sum.inr (4, [.ref (c.2.2.2.2.1 0 (i2 / 4)), .int (c.2.1 24 i2), .int (c.2.1 25 i2), .int (c.2.1 26 i2), .int (va_up c.2.1 27 (va_up (c.2.1 27) i v) 27 i2), .int (c.2.1 28 i2)]) : ax_E) = Sum.inr (4, [.ref (c.2.2.2.2.1 0 (i2 / 4)), .int (c.2.1 24 i2), .int (c.2.1 25 i2), .int (c.2.1 26 i2), .int (c.2.1 27 i2), .int (c.2.1 28 i2)]); rw [va_up_self, va_up_ne _ _ (fun q => hne ⟨rfl, q⟩)]
  | 19, _, _, _ => rfl
  | 20, _, _, _ => rfl
  | 21, _, _, _ => rfl
  | 22, _, _, _ => rfl
  | 23, _, _, _ => rfl
  | k + 24, h1, _, _ => exact absurd h1 (by omega)
theorem cR.p28 (hR : cR o c h) {i : Nat} (hi : i < 4 * c.2.2.2.2.2 0) (v : Int32) : cR o (c.1, va_up c.2.1 28 (va_up (c.2.1 28) i v), c.2.2) (ax_set h (cQ c.2.2.2.2 i) (.inr (4, [.ref (c.2.2.2.2.1 0 (i / 4)), .int (c.2.1 24 i), .int (c.2.1 25 i), .int (c.2.1 26 i), .int (c.2.1 27 i), .int v]))) ∧ cFr o (c.2.2.2.2.2 5) h (ax_set h (cQ c.2.2.2.2 i) (.inr (4, [.ref (c.2.2.2.2.1 0 (i / 4)), .int (c.2.1 24 i), .int (c.2.1 25 i), .int (c.2.1 26 i), .int (c.2.1 27 i), .int v]))) := by
  refine hR.upd (k := 18) (i := i) (c' := (c.1, va_up c.2.1 28 (va_up (c.2.1 28) i v), c.2.2)) ⟨by decide, hi⟩ rfl ?_ (by show (Sum.inr (4, [.ref (c.2.2.2.2.1 0 (i / 4)), .int (c.2.1 24 i), .int (c.2.1 25 i), .int (c.2.1 26 i), .int (c.2.1 27 i), .int (va_up c.2.1 28 (va_up (c.2.1 28) i v) 28 i)]) : ax_E) = _; rw [va_up_self, va_up_self])
  intro k2 i2 hv2 hne
  obtain ⟨h1, h2⟩ := hv2
  match k2, h1, h2, hne with
  | 0, _, _, _ => rfl
  | 1, _, _, _ => rfl
  | 2, _, _, _ => rfl
  | 3, _, _, _ => rfl
  | 4, _, _, _ => rfl
  | 5, _, _, _ => rfl
  | 6, _, _, _ => rfl
  | 7, _, _, _ => rfl
  | 8, _, _, _ => rfl
  | 9, _, _, _ => rfl
  | 10, _, _, _ => rfl
  | 11, _, _, _ => rfl
  | 12, _, _, _ => rfl
  | 13, _, _, _ => rfl
  | 14, _, _, _ => rfl
  | 15, _, _, _ => rfl
  | 16, _, _, _ => rfl
  | 17, _, _, _ => rfl
  | 18, _, h2, hne => show (Sum.inr (4, [.ref (c.2.2.2.2.1 0 (i2 / 4)), .int (c.2.1 24 i2), .int (c.2.1 25 i2), .int (c.2.1 26 i2), .int (c.2.1 27 i2), .int (va_up c.2.1 28 (va_up (c.2.1 28) i v) 28 i2)]) : ax_E) = Sum.inr (4, [.ref (c.2.2.2.2.1 0 (i2 / 4)), .int (c.2.1 24 i2), .int (c.2.1 25 i2), .int (c.2.1 26 i2), .int (c.2.1 27 i2), .int (c.2.1 28 i2)]); rw [va_up_self, va_up_ne _ _ (fun q => hne ⟨rfl, q⟩)]
  | 19, _, _, _ => rfl
  | 20, _, _, _ => rfl
  | 21, _, _, _ => rfl
  | 22, _, _, _ => rfl
  | 23, _, _, _ => rfl
  | k + 24, h1, _, _ => exact absurd h1 (by omega)
theorem cR.p30 (hR : cR o c h) {i : Nat} (hi : i < c.2.2.2.2.2 1) (v : Int32) : cR o (c.1, va_up c.2.1 30 (va_up (c.2.1 30) i v), c.2.2) (ax_set h (c.2.2.2.2.1 1 i) (.inr (5, [.long (c.2.2.1 42 i), .int (c.2.1 29 i), .int v, .int (c.2.1 31 i), va_rf (c.2.2.2.1 44 i), va_rf (c.2.2.2.1 45 i)]))) ∧ cFr o (c.2.2.2.2.2 5) h (ax_set h (c.2.2.2.2.1 1 i) (.inr (5, [.long (c.2.2.1 42 i), .int (c.2.1 29 i), .int v, .int (c.2.1 31 i), va_rf (c.2.2.2.1 44 i), va_rf (c.2.2.2.1 45 i)]))) := by
  refine hR.upd (k := 19) (i := i) (c' := (c.1, va_up c.2.1 30 (va_up (c.2.1 30) i v), c.2.2)) ⟨by decide, hi⟩ rfl ?_ (by show (Sum.inr (5, [.long (c.2.2.1 42 i), .int (c.2.1 29 i), .int (va_up c.2.1 30 (va_up (c.2.1 30) i v) 30 i), .int (c.2.1 31 i), va_rf (c.2.2.2.1 44 i), va_rf (c.2.2.2.1 45 i)]) : ax_E) = _; rw [va_up_self, va_up_self])
  intro k2 i2 hv2 hne
  obtain ⟨h1, h2⟩ := hv2
  match k2, h1, h2, hne with
  | 0, _, _, _ => rfl
  | 1, _, _, _ => rfl
  | 2, _, _, _ => rfl
  | 3, _, _, _ => rfl
  | 4, _, _, _ => rfl
  | 5, _, _, _ => rfl
  | 6, _, _, _ => rfl
  | 7, _, _, _ => rfl
  | 8, _, _, _ => rfl
  | 9, _, _, _ => rfl
  | 10, _, _, _ => rfl
  | 11, _, _, _ => rfl
  | 12, _, _, _ => rfl
  | 13, _, _, _ => rfl
  | 14, _, _, _ => rfl
  | 15, _, _, _ => rfl
  | 16, _, _, _ => rfl
  | 17, _, _, _ => rfl
  | 18, _, _, _ => rfl
  | 19, _, h2, hne => show (Sum.inr (5, [.long (c.2.2.1 42 i2), .int (c.2.1 29 i2), .int (va_up c.2.1 30 (va_up (c.2.1 30) i v) 30 i2), .int (c.2.1 31 i2), va_rf (c.2.2.2.1 44 i2), va_rf (c.2.2.2.1 45 i2)]) : ax_E) = Sum.inr (5, [.long (c.2.2.1 42 i2), .int (c.2.1 29 i2), .int (c.2.1 30 i2), .int (c.2.1 31 i2), va_rf (c.2.2.2.1 44 i2), va_rf (c.2.2.2.1 45 i2)]); rw [va_up_self, va_up_ne _ _ (fun q => hne ⟨rfl, q⟩)]
  | 20, _, _, _ => rfl
  | 21, _, _, _ => rfl
  | 22, _, _, _ => rfl
  | 23, _, _, _ => rfl
  | k + 24, h1, _, _ => exact absurd h1 (by omega)
theorem cR.p31 (hR : cR o c h) {i : Nat} (hi : i < c.2.2.2.2.2 1) (v : Int32) : cR o (c.1, va_up c.2.1 31 (va_up (c.2.1 31) i v), c.2.2) (ax_set h (c.2.2.2.2.1 1 i) (.inr (5, [.long (c.2.2.1 42 i), .int (c.2.1 29 i), .int (c.2.1 30 i), .int v, va_rf (c.2.2.2.1 44 i), va_rf (c.2.2.2.1 45 i)]))) ∧ cFr o (c.2.2.2.2.2 5) h (ax_set h (c.2.2.2.2.1 1 i) (.inr (5, [.long (c.2.2.1 42 i), .int (c.2.1 29 i), .int (c.2.1 30 i), .int v, va_rf (c.2.2.2.1 44 i), va_rf (c.2.2.2.1 45 i)]))) := by
  refine hR.upd (k := 19) (i := i) (c' := (c.1, va_up c.2.1 31 (va_up (c.2.1 31) i v), c.2.2)) ⟨by decide, hi⟩ rfl ?_ (by show (Sum.inr (5, [.long (c.2.2.1 42 i), .int (c.2.1 29 i), .int (c.2.1 30 i), .int (va_up c.2.1 31 (va_up (c.2.1 31) i v) 31 i), va_rf (c.2.2.2.1 44 i), va_rf (c.2.2.2.1 45 i)]) : ax_E) = _; rw [va_up_self, va_up_self])
  intro k2 i2 hv2 hne
  obtain ⟨h1, h2⟩ := hv2
  match k2, h1, h2, hne with
  | 0, _, _, _ => rfl
  | 1, _, _, _ => rfl
  | 2, _, _, _ => rfl
  | 3, _, _, _ => rfl
  | 4, _, _, _ => rfl
  | 5, _, _, _ => rfl
  | 6, _, _, _ => rfl
  | 7, _, _, _ => rfl
  | 8, _, _, _ => rfl
  | 9, _, _, _ => rfl
  | 10, _, _, _ => rfl
  | 11, _, _, _ => rfl
  | 12, _, _, _ => rfl
  | 13, _, _, _ => rfl
  | 14, _, _, _ => rfl
  | 15, _, _, _ => rfl
  | 16, _, _, _ => rfl
  | 17, _, _, _ => rfl
  | 18, _, _, _ => rfl
  | 19, _, h2, hne => show (Sum.inr (5, [.long (c.2.2.1 42 i2), .int (c.2.1 29 i2), .int (c.2.1 30 i2), .int (va_up c.2.1 31 (va_up (c.2.1 31) i v) 31 i2), va_rf (c.2.2.2.1 44 i2), va_rf (c.2.2.2.1 45 i2)]) : ax_E) = Sum.inr (5, [.long (c.2.2.1 42 i2), .int (c.2.1 29 i2), .int (c.2.1 30 i2), .int (c.2.1 31 i2), va_rf (c.2.2.2.1 44 i2), va_rf (c.2.2.2.1 45 i2)]); rw [va_up_self, va_up_ne _ _ (fun q => hne ⟨rfl, q⟩)]
  | 20, _, _, _ => rfl
  | 21, _, _, _ => rfl
  | 22, _, _, _ => rfl
  | 23, _, _, _ => rfl
  | k + 24, h1, _, _ => exact absurd h1 (by omega)
theorem cR.p44 (hR : cR o c h) {i : Nat} (hi : i < c.2.2.2.2.2 1) (v : Option Nat) : cR o (c.1, c.2.1, c.2.2.1, va_up c.2.2.2.1 44 (va_up (c.2.2.2.1 44) i v), c.2.2.2.2) (ax_set h (c.2.2.2.2.1 1 i) (.inr (5, [.long (c.2.2.1 42 i), .int (c.2.1 29 i), .int (c.2.1 30 i), .int (c.2.1 31 i), va_rf v, va_rf (c.2.2.2.1 45 i)]))) ∧ cFr o (c.2.2.2.2.2 5) h (ax_set h (c.2.2.2.2.1 1 i) (.inr (5, [.long (c.2.2.1 42 i), .int (c.2.1 29 i), .int (c.2.1 30 i), .int (c.2.1 31 i), va_rf v, va_rf (c.2.2.2.1 45 i)]))) := by
  refine hR.upd (k := 19) (i := i) (c' := (c.1, c.2.1, c.2.2.1, va_up c.2.2.2.1 44 (va_up (c.2.2.2.1 44) i v), c.2.2.2.2)) ⟨by decide, hi⟩ rfl ?_ (by show (Sum.inr (5, [.long (c.2.2.1 42 i), .int (c.2.1 29 i), .int (c.2.1 30 i), .int (c.2.1 31 i), va_rf (va_up c.2.2.2.1 44 (va_up (c.2.2.2.1 44) i v) 44 i), va_rf (c.2.2.2.1 45 i)]) : ax_E) = _; rw [va_up_self, va_up_self])
  intro k2 i2 hv2 hne
  obtain ⟨h1, h2⟩ := hv2
  match k2, h1, h2, hne with
  | 0, _, _, _ => rfl
  | 1, _, _, _ => rfl
  | 2, _, _, _ => rfl
  | 3, _, _, _ => rfl
  | 4, _, _, _ => rfl
  | 5, _, _, _ => rfl
  | 6, _, _, _ => rfl
  | 7, _, _, _ => rfl
  | 8, _, _, _ => rfl
  | 9, _, _, _ => rfl
  | 10, _, _, _ => rfl
  | 11, _, _, _ => rfl
  | 12, _, _, _ => rfl
  | 13, _, _, _ => rfl
  | 14, _, _, _ => rfl
  | 15, _, _, _ => rfl
  | 16, _, _, _ => rfl
  | 17, _, _, _ => rfl
  | 18, _, _, _ => rfl
  | 19, _, h2, hne => show (Sum.inr (5, [.long (c.2.2.1 42 i2), .int (c.2.1 29 i2), .int (c.2.1 30 i2), .int (c.2.1 31 i2), va_rf (va_up c.2.2.2.1 44 (va_up (c.2.2.2.1 44) i v) 44 i2), va_rf (c.2.2.2.1 45 i2)]) : ax_E) = Sum.inr (5, [.long (c.2.2.1 42 i2), .int (c.2.1 29 i2), .int (c.2.1 30 i2), .int (c.2.1 31 i2), va_rf (c.2.2.2.1 44 i2), va_rf (c.2.2.2.1 45 i2)]); rw [va_up_self, va_up_ne _ _ (fun q => hne ⟨rfl, q⟩)]
  | 20, _, _, _ => rfl
  | 21, _, _, _ => rfl
  | 22, _, _, _ => rfl
  | 23, _, _, _ => rfl
  | k + 24, h1, _, _ => exact absurd h1 (by omega)
theorem cR.p45 (hR : cR o c h) {i : Nat} (hi : i < c.2.2.2.2.2 1) (v : Option Nat) : cR o (c.1, c.2.1, c.2.2.1, va_up c.2.2.2.1 45 (va_up (c.2.2.2.1 45) i v), c.2.2.2.2) (ax_set h (c.2.2.2.2.1 1 i) (.inr (5, [.long (c.2.2.1 42 i), .int (c.2.1 29 i), .int (c.2.1 30 i), .int (c.2.1 31 i), va_rf (c.2.2.2.1 44 i), va_rf v]))) ∧ cFr o (c.2.2.2.2.2 5) h (ax_set h (c.2.2.2.2.1 1 i) (.inr (5, [.long (c.2.2.1 42 i), .int (c.2.1 29 i), .int (c.2.1 30 i), .int (c.2.1 31 i), va_rf (c.2.2.2.1 44 i), va_rf v]))) := by
  refine hR.upd (k := 19) (i := i) (c' := (c.1, c.2.1, c.2.2.1, va_up c.2.2.2.1 45 (va_up (c.2.2.2.1 45) i v), c.2.2.2.2)) ⟨by decide, hi⟩ rfl ?_ (by show (Sum.inr (5, [.long (c.2.2.1 42 i), .int (c.2.1 29 i), .int (c.2.1 30 i), .int (c.2.1 31 i), va_rf (c.2.2.2.1 44 i), va_rf (va_up c.2.2.2.1 45 (va_up (c.2.2.2.1 45) i v) 45 i)]) : ax_E) = _; rw [va_up_self, va_up_self])
  intro k2 i2 hv2 hne
  obtain ⟨h1, h2⟩ := hv2
  match k2, h1, h2, hne with
  | 0, _, _, _ => rfl
  | 1, _, _, _ => rfl
  | 2, _, _, _ => rfl
  | 3, _, _, _ => rfl
  | 4, _, _, _ => rfl
  | 5, _, _, _ => rfl
  | 6, _, _, _ => rfl
  | 7, _, _, _ => rfl
  | 8, _, _, _ => rfl
  | 9, _, _, _ => rfl
  | 10, _, _, _ => rfl
  | 11, _, _, _ => rfl
  | 12, _, _, _ => rfl
  | 13, _, _, _ => rfl
  | 14, _, _, _ => rfl
  | 15, _, _, _ => rfl
  | 16, _, _, _ => rfl
  | 17, _, _, _ => rfl
  | 18, _, _, _ => rfl
  | 19, _, h2, hne => show (Sum.inr (5, [.long (c.2.2.1 42 i2), .int (c.2.1 29 i2), .int (c.2.1 30 i2), .int (c.2.1 31 i2), va_rf (c.2.2.2.1 44 i2), va_rf (va_up c.2.2.2.1 45 (va_up (c.2.2.2.1 45) i v) 45 i2)]) : ax_E) = Sum.inr (5, [.long (c.2.2.1 42 i2), .int (c.2.1 29 i2), .int (c.2.1 30 i2), .int (c.2.1 31 i2), va_rf (c.2.2.2.1 44 i2), va_rf (c.2.2.2.1 45 i2)]); rw [va_up_self, va_up_ne _ _ (fun q => hne ⟨rfl, q⟩)]
  | 20, _, _, _ => rfl
  | 21, _, _, _ => rfl
  | 22, _, _, _ => rfl
  | 23, _, _, _ => rfl
  | k + 24, h1, _, _ => exact absurd h1 (by omega)
theorem cR.w1 (hR : cR o c h) (f : Nat → Option Nat) : cR o (c.1, c.2.1, c.2.2.1, va_up c.2.2.2.1 1 f, c.2.2.2.2) (ax_set h (o + 1) (.inl (.object "SymbolLinker$Unit", 32, .inr (.inr (.inr (.inr (f))))))) ∧ cFr o (c.2.2.2.2.2 5) h (ax_set h (o + 1) (.inl (.object "SymbolLinker$Unit", 32, .inr (.inr (.inr (.inr (f))))))) := by
  refine hR.upd (k := 1) (i := 0) (c' := (c.1, c.2.1, c.2.2.1, va_up c.2.2.2.1 1 f, c.2.2.2.2)) ⟨by decide, Nat.one_pos⟩ rfl ?_ rfl
  intro k2 i2 hv2 hne
  obtain ⟨h1, h2⟩ := hv2
  match k2, h1, h2, hne with
  | 0, _, _, _ => rfl
  | 1, _, h2, hne => exact absurd ⟨rfl, Nat.lt_one_iff.mp h2⟩ hne
  | 2, _, _, _ => rfl
  | 3, _, _, _ => rfl
  | 4, _, _, _ => rfl
  | 5, _, _, _ => rfl
  | 6, _, _, _ => rfl
  | 7, _, _, _ => rfl
  | 8, _, _, _ => rfl
  | 9, _, _, _ => rfl
  | 10, _, _, _ => rfl
  | 11, _, _, _ => rfl
  | 12, _, _, _ => rfl
  | 13, _, _, _ => rfl
  | 14, _, _, _ => rfl
  | 15, _, _, _ => rfl
  | 16, _, _, _ => rfl
  | 17, _, _, _ => rfl
  | 18, _, _, _ => rfl
  | 19, _, _, _ => rfl
  | 20, _, _, _ => rfl
  | 21, _, _, _ => rfl
  | 22, _, _, _ => rfl
  | 23, _, _, _ => rfl
  | k + 24, h1, _, _ => exact absurd h1 (by omega)
theorem cR.w2 (hR : cR o c h) (f : Nat → Option Nat) : cR o (c.1, c.2.1, c.2.2.1, va_up c.2.2.2.1 2 f, c.2.2.2.2) (ax_set h (o + 2) (.inl (.object "SymbolLinker$Name", 2048, .inr (.inr (.inr (.inr (f))))))) ∧ cFr o (c.2.2.2.2.2 5) h (ax_set h (o + 2) (.inl (.object "SymbolLinker$Name", 2048, .inr (.inr (.inr (.inr (f))))))) := by
  refine hR.upd (k := 2) (i := 0) (c' := (c.1, c.2.1, c.2.2.1, va_up c.2.2.2.1 2 f, c.2.2.2.2)) ⟨by decide, Nat.one_pos⟩ rfl ?_ rfl
  intro k2 i2 hv2 hne
  obtain ⟨h1, h2⟩ := hv2
  match k2, h1, h2, hne with
  | 0, _, _, _ => rfl
  | 1, _, _, _ => rfl
  | 2, _, h2, hne => exact absurd ⟨rfl, Nat.lt_one_iff.mp h2⟩ hne
  | 3, _, _, _ => rfl
  | 4, _, _, _ => rfl
  | 5, _, _, _ => rfl
  | 6, _, _, _ => rfl
  | 7, _, _, _ => rfl
  | 8, _, _, _ => rfl
  | 9, _, _, _ => rfl
  | 10, _, _, _ => rfl
  | 11, _, _, _ => rfl
  | 12, _, _, _ => rfl
  | 13, _, _, _ => rfl
  | 14, _, _, _ => rfl
  | 15, _, _, _ => rfl
  | 16, _, _, _ => rfl
  | 17, _, _, _ => rfl
  | 18, _, _, _ => rfl
  | 19, _, _, _ => rfl
  | 20, _, _, _ => rfl
  | 21, _, _, _ => rfl
  | 22, _, _, _ => rfl
  | 23, _, _, _ => rfl
  | k + 24, h1, _, _ => exact absurd h1 (by omega)
theorem cR.w3 (hR : cR o c h) (f : Nat → Option Nat) : cR o (c.1, c.2.1, c.2.2.1, va_up c.2.2.2.1 3 f, c.2.2.2.2) (ax_set h (o + 3) (.inl (.object "SymbolLinker$Symbol", 2048, .inr (.inr (.inr (.inr (f))))))) ∧ cFr o (c.2.2.2.2.2 5) h (ax_set h (o + 3) (.inl (.object "SymbolLinker$Symbol", 2048, .inr (.inr (.inr (.inr (f))))))) := by
  refine hR.upd (k := 3) (i := 0) (c' := (c.1, c.2.1, c.2.2.1, va_up c.2.2.2.1 3 f, c.2.2.2.2)) ⟨by decide, Nat.one_pos⟩ rfl ?_ rfl
  intro k2 i2 hv2 hne
  obtain ⟨h1, h2⟩ := hv2
  match k2, h1, h2, hne with
  | 0, _, _, _ => rfl
  | 1, _, _, _ => rfl
  | 2, _, _, _ => rfl
  | 3, _, h2, hne => exact absurd ⟨rfl, Nat.lt_one_iff.mp h2⟩ hne
  | 4, _, _, _ => rfl
  | 5, _, _, _ => rfl
  | 6, _, _, _ => rfl
  | 7, _, _, _ => rfl
  | 8, _, _, _ => rfl
  | 9, _, _, _ => rfl
  | 10, _, _, _ => rfl
  | 11, _, _, _ => rfl
  | 12, _, _, _ => rfl
  | 13, _, _, _ => rfl
  | 14, _, _, _ => rfl
  | 15, _, _, _ => rfl
  | 16, _, _, _ => rfl
  | 17, _, _, _ => rfl
  | 18, _, _, _ => rfl
  | 19, _, _, _ => rfl
  | 20, _, _, _ => rfl
  | 21, _, _, _ => rfl
  | 22, _, _, _ => rfl
  | 23, _, _, _ => rfl
  | k + 24, h1, _, _ => exact absurd h1 (by omega)
theorem cR.w4 (hR : cR o c h) (f : Nat → Option Nat) : cR o (c.1, c.2.1, c.2.2.1, va_up c.2.2.2.1 4 f, c.2.2.2.2) (ax_set h (o + 4) (.inl (.object "SymbolLinker$Wait", 4096, .inr (.inr (.inr (.inr (f))))))) ∧ cFr o (c.2.2.2.2.2 5) h (ax_set h (o + 4) (.inl (.object "SymbolLinker$Wait", 4096, .inr (.inr (.inr (.inr (f))))))) := by
  refine hR.upd (k := 4) (i := 0) (c' := (c.1, c.2.1, c.2.2.1, va_up c.2.2.2.1 4 f, c.2.2.2.2)) ⟨by decide, Nat.one_pos⟩ rfl ?_ rfl
  intro k2 i2 hv2 hne
  obtain ⟨h1, h2⟩ := hv2
  match k2, h1, h2, hne with
  | 0, _, _, _ => rfl
  | 1, _, _, _ => rfl
  | 2, _, _, _ => rfl
  | 3, _, _, _ => rfl
  | 4, _, h2, hne => exact absurd ⟨rfl, Nat.lt_one_iff.mp h2⟩ hne
  | 5, _, _, _ => rfl
  | 6, _, _, _ => rfl
  | 7, _, _, _ => rfl
  | 8, _, _, _ => rfl
  | 9, _, _, _ => rfl
  | 10, _, _, _ => rfl
  | 11, _, _, _ => rfl
  | 12, _, _, _ => rfl
  | 13, _, _, _ => rfl
  | 14, _, _, _ => rfl
  | 15, _, _, _ => rfl
  | 16, _, _, _ => rfl
  | 17, _, _, _ => rfl
  | 18, _, _, _ => rfl
  | 19, _, _, _ => rfl
  | 20, _, _, _ => rfl
  | 21, _, _, _ => rfl
  | 22, _, _, _ => rfl
  | 23, _, _, _ => rfl
  | k + 24, h1, _, _ => exact absurd h1 (by omega)
theorem cR.w5 (hR : cR o c h) (f : Nat → Option Nat) : cR o (c.1, c.2.1, c.2.2.1, va_up c.2.2.2.1 5 f, c.2.2.2.2) (ax_set h (o + 5) (.inl (.object "SymbolLinker$Start", 8192, .inr (.inr (.inr (.inr (f))))))) ∧ cFr o (c.2.2.2.2.2 5) h (ax_set h (o + 5) (.inl (.object "SymbolLinker$Start", 8192, .inr (.inr (.inr (.inr (f))))))) := by
  refine hR.upd (k := 5) (i := 0) (c' := (c.1, c.2.1, c.2.2.1, va_up c.2.2.2.1 5 f, c.2.2.2.2)) ⟨by decide, Nat.one_pos⟩ rfl ?_ rfl
  intro k2 i2 hv2 hne
  obtain ⟨h1, h2⟩ := hv2
  match k2, h1, h2, hne with
  | 0, _, _, _ => rfl
  | 1, _, _, _ => rfl
  | 2, _, _, _ => rfl
  | 3, _, _, _ => rfl
  | 4, _, _, _ => rfl
  | 5, _, h2, hne => exact absurd ⟨rfl, Nat.lt_one_iff.mp h2⟩ hne
  | 6, _, _, _ => rfl
  | 7, _, _, _ => rfl
  | 8, _, _, _ => rfl
  | 9, _, _, _ => rfl
  | 10, _, _, _ => rfl
  | 11, _, _, _ => rfl
  | 12, _, _, _ => rfl
  | 13, _, _, _ => rfl
  | 14, _, _, _ => rfl
  | 15, _, _, _ => rfl
  | 16, _, _, _ => rfl
  | 17, _, _, _ => rfl
  | 18, _, _, _ => rfl
  | 19, _, _, _ => rfl
  | 20, _, _, _ => rfl
  | 21, _, _, _ => rfl
  | 22, _, _, _ => rfl
  | 23, _, _, _ => rfl
  | k + 24, h1, _, _ => exact absurd h1 (by omega)
theorem cR.w6 (hR : cR o c h) (f : Nat → Int32) : cR o (c.1, va_up c.2.1 6 f, c.2.2) (ax_set h (o + 6) (.inl (.byte, 262144, .inl (f)))) ∧ cFr o (c.2.2.2.2.2 5) h (ax_set h (o + 6) (.inl (.byte, 262144, .inl (f)))) := by
  refine hR.upd (k := 6) (i := 0) (c' := (c.1, va_up c.2.1 6 f, c.2.2)) ⟨by decide, Nat.one_pos⟩ rfl ?_ rfl
  intro k2 i2 hv2 hne
  obtain ⟨h1, h2⟩ := hv2
  match k2, h1, h2, hne with
  | 0, _, _, _ => rfl
  | 1, _, _, _ => rfl
  | 2, _, _, _ => rfl
  | 3, _, _, _ => rfl
  | 4, _, _, _ => rfl
  | 5, _, _, _ => rfl
  | 6, _, h2, hne => exact absurd ⟨rfl, Nat.lt_one_iff.mp h2⟩ hne
  | 7, _, _, _ => rfl
  | 8, _, _, _ => rfl
  | 9, _, _, _ => rfl
  | 10, _, _, _ => rfl
  | 11, _, _, _ => rfl
  | 12, _, _, _ => rfl
  | 13, _, _, _ => rfl
  | 14, _, _, _ => rfl
  | 15, _, _, _ => rfl
  | 16, _, _, _ => rfl
  | 17, _, _, _ => rfl
  | 18, _, _, _ => rfl
  | 19, _, _, _ => rfl
  | 20, _, _, _ => rfl
  | 21, _, _, _ => rfl
  | 22, _, _, _ => rfl
  | 23, _, _, _ => rfl
  | k + 24, h1, _, _ => exact absurd h1 (by omega)
theorem cR.w9 (hR : cR o c h) (f : Nat → Int32) : cR o (c.1, va_up c.2.1 9 f, c.2.2) (ax_set h (o + 9) (.inl (.int, 7, .inl (f)))) ∧ cFr o (c.2.2.2.2.2 5) h (ax_set h (o + 9) (.inl (.int, 7, .inl (f)))) := by
  refine hR.upd (k := 9) (i := 0) (c' := (c.1, va_up c.2.1 9 f, c.2.2)) ⟨by decide, Nat.one_pos⟩ rfl ?_ rfl
  intro k2 i2 hv2 hne
  obtain ⟨h1, h2⟩ := hv2
  match k2, h1, h2, hne with
  | 0, _, _, _ => rfl
  | 1, _, _, _ => rfl
  | 2, _, _, _ => rfl
  | 3, _, _, _ => rfl
  | 4, _, _, _ => rfl
  | 5, _, _, _ => rfl
  | 6, _, _, _ => rfl
  | 7, _, _, _ => rfl
  | 8, _, _, _ => rfl
  | 9, _, h2, hne => exact absurd ⟨rfl, Nat.lt_one_iff.mp h2⟩ hne
  | 10, _, _, _ => rfl
  | 11, _, _, _ => rfl
  | 12, _, _, _ => rfl
  | 13, _, _, _ => rfl
  | 14, _, _, _ => rfl
  | 15, _, _, _ => rfl
  | 16, _, _, _ => rfl
  | 17, _, _, _ => rfl
  | 18, _, _, _ => rfl
  | 19, _, _, _ => rfl
  | 20, _, _, _ => rfl
  | 21, _, _, _ => rfl
  | 22, _, _, _ => rfl
  | 23, _, _, _ => rfl
  | k + 24, h1, _, _ => exact absurd h1 (by omega)
theorem cR.w10 (hR : cR o c h) (f : Nat → Int32) : cR o (c.1, va_up c.2.1 10 f, c.2.2) (ax_set h (o + 10) (.inl (.byte, 262144, .inl (f)))) ∧ cFr o (c.2.2.2.2.2 5) h (ax_set h (o + 10) (.inl (.byte, 262144, .inl (f)))) := by
  refine hR.upd (k := 10) (i := 0) (c' := (c.1, va_up c.2.1 10 f, c.2.2)) ⟨by decide, Nat.one_pos⟩ rfl ?_ rfl
  intro k2 i2 hv2 hne
  obtain ⟨h1, h2⟩ := hv2
  match k2, h1, h2, hne with
  | 0, _, _, _ => rfl
  | 1, _, _, _ => rfl
  | 2, _, _, _ => rfl
  | 3, _, _, _ => rfl
  | 4, _, _, _ => rfl
  | 5, _, _, _ => rfl
  | 6, _, _, _ => rfl
  | 7, _, _, _ => rfl
  | 8, _, _, _ => rfl
  | 9, _, _, _ => rfl
  | 10, _, h2, hne => exact absurd ⟨rfl, Nat.lt_one_iff.mp h2⟩ hne
  | 11, _, _, _ => rfl
  | 12, _, _, _ => rfl
  | 13, _, _, _ => rfl
  | 14, _, _, _ => rfl
  | 15, _, _, _ => rfl
  | 16, _, _, _ => rfl
  | 17, _, _, _ => rfl
  | 18, _, _, _ => rfl
  | 19, _, _, _ => rfl
  | 20, _, _, _ => rfl
  | 21, _, _, _ => rfl
  | 22, _, _, _ => rfl
  | 23, _, _, _ => rfl
  | k + 24, h1, _, _ => exact absurd h1 (by omega)
theorem cR.w11 (hR : cR o c h) (f : Nat → Int64) : cR o (c.1, c.2.1, va_up c.2.2.1 11 f, c.2.2.2) (ax_set h (o + 11) (.inl (.long, 2048, .inr (.inl (f))))) ∧ cFr o (c.2.2.2.2.2 5) h (ax_set h (o + 11) (.inl (.long, 2048, .inr (.inl (f))))) := by
  refine hR.upd (k := 11) (i := 0) (c' := (c.1, c.2.1, va_up c.2.2.1 11 f, c.2.2.2)) ⟨by decide, Nat.one_pos⟩ rfl ?_ rfl
  intro k2 i2 hv2 hne
  obtain ⟨h1, h2⟩ := hv2
  match k2, h1, h2, hne with
  | 0, _, _, _ => rfl
  | 1, _, _, _ => rfl
  | 2, _, _, _ => rfl
  | 3, _, _, _ => rfl
  | 4, _, _, _ => rfl
  | 5, _, _, _ => rfl
  | 6, _, _, _ => rfl
  | 7, _, _, _ => rfl
  | 8, _, _, _ => rfl
  | 9, _, _, _ => rfl
  | 10, _, _, _ => rfl
  | 11, _, h2, hne => exact absurd ⟨rfl, Nat.lt_one_iff.mp h2⟩ hne
  | 12, _, _, _ => rfl
  | 13, _, _, _ => rfl
  | 14, _, _, _ => rfl
  | 15, _, _, _ => rfl
  | 16, _, _, _ => rfl
  | 17, _, _, _ => rfl
  | 18, _, _, _ => rfl
  | 19, _, _, _ => rfl
  | 20, _, _, _ => rfl
  | 21, _, _, _ => rfl
  | 22, _, _, _ => rfl
  | 23, _, _, _ => rfl
  | k + 24, h1, _, _ => exact absurd h1 (by omega)
theorem cR.w12 (hR : cR o c h) (f : Nat → Int32) : cR o (c.1, va_up c.2.1 12 f, c.2.2) (ax_set h (o + 12) (.inl (.int, 2048, .inl (f)))) ∧ cFr o (c.2.2.2.2.2 5) h (ax_set h (o + 12) (.inl (.int, 2048, .inl (f)))) := by
  refine hR.upd (k := 12) (i := 0) (c' := (c.1, va_up c.2.1 12 f, c.2.2)) ⟨by decide, Nat.one_pos⟩ rfl ?_ rfl
  intro k2 i2 hv2 hne
  obtain ⟨h1, h2⟩ := hv2
  match k2, h1, h2, hne with
  | 0, _, _, _ => rfl
  | 1, _, _, _ => rfl
  | 2, _, _, _ => rfl
  | 3, _, _, _ => rfl
  | 4, _, _, _ => rfl
  | 5, _, _, _ => rfl
  | 6, _, _, _ => rfl
  | 7, _, _, _ => rfl
  | 8, _, _, _ => rfl
  | 9, _, _, _ => rfl
  | 10, _, _, _ => rfl
  | 11, _, _, _ => rfl
  | 12, _, h2, hne => exact absurd ⟨rfl, Nat.lt_one_iff.mp h2⟩ hne
  | 13, _, _, _ => rfl
  | 14, _, _, _ => rfl
  | 15, _, _, _ => rfl
  | 16, _, _, _ => rfl
  | 17, _, _, _ => rfl
  | 18, _, _, _ => rfl
  | 19, _, _, _ => rfl
  | 20, _, _, _ => rfl
  | 21, _, _, _ => rfl
  | 22, _, _, _ => rfl
  | 23, _, _, _ => rfl
  | k + 24, h1, _, _ => exact absurd h1 (by omega)
theorem cR.w13 (hR : cR o c h) (f : Nat → Int32) : cR o (c.1, va_up c.2.1 13 f, c.2.2) (ax_set h (o + 13) (.inl (.int, 2048, .inl (f)))) ∧ cFr o (c.2.2.2.2.2 5) h (ax_set h (o + 13) (.inl (.int, 2048, .inl (f)))) := by
  refine hR.upd (k := 13) (i := 0) (c' := (c.1, va_up c.2.1 13 f, c.2.2)) ⟨by decide, Nat.one_pos⟩ rfl ?_ rfl
  intro k2 i2 hv2 hne
  obtain ⟨h1, h2⟩ := hv2
  match k2, h1, h2, hne with
  | 0, _, _, _ => rfl
  | 1, _, _, _ => rfl
  | 2, _, _, _ => rfl
  | 3, _, _, _ => rfl
  | 4, _, _, _ => rfl
  | 5, _, _, _ => rfl
  | 6, _, _, _ => rfl
  | 7, _, _, _ => rfl
  | 8, _, _, _ => rfl
  | 9, _, _, _ => rfl
  | 10, _, _, _ => rfl
  | 11, _, _, _ => rfl
  | 12, _, _, _ => rfl
  | 13, _, h2, hne => exact absurd ⟨rfl, Nat.lt_one_iff.mp h2⟩ hne
  | 14, _, _, _ => rfl
  | 15, _, _, _ => rfl
  | 16, _, _, _ => rfl
  | 17, _, _, _ => rfl
  | 18, _, _, _ => rfl
  | 19, _, _, _ => rfl
  | 20, _, _, _ => rfl
  | 21, _, _, _ => rfl
  | 22, _, _, _ => rfl
  | 23, _, _, _ => rfl
  | k + 24, h1, _, _ => exact absurd h1 (by omega)
theorem cR.w14 (hR : cR o c h) (f : Nat → Int32) : cR o (c.1, va_up c.2.1 14 f, c.2.2) (ax_set h (o + 14) (.inl (.int, 8192, .inl (f)))) ∧ cFr o (c.2.2.2.2.2 5) h (ax_set h (o + 14) (.inl (.int, 8192, .inl (f)))) := by
  refine hR.upd (k := 14) (i := 0) (c' := (c.1, va_up c.2.1 14 f, c.2.2)) ⟨by decide, Nat.one_pos⟩ rfl ?_ rfl
  intro k2 i2 hv2 hne
  obtain ⟨h1, h2⟩ := hv2
  match k2, h1, h2, hne with
  | 0, _, _, _ => rfl
  | 1, _, _, _ => rfl
  | 2, _, _, _ => rfl
  | 3, _, _, _ => rfl
  | 4, _, _, _ => rfl
  | 5, _, _, _ => rfl
  | 6, _, _, _ => rfl
  | 7, _, _, _ => rfl
  | 8, _, _, _ => rfl
  | 9, _, _, _ => rfl
  | 10, _, _, _ => rfl
  | 11, _, _, _ => rfl
  | 12, _, _, _ => rfl
  | 13, _, _, _ => rfl
  | 14, _, h2, hne => exact absurd ⟨rfl, Nat.lt_one_iff.mp h2⟩ hne
  | 15, _, _, _ => rfl
  | 16, _, _, _ => rfl
  | 17, _, _, _ => rfl
  | 18, _, _, _ => rfl
  | 19, _, _, _ => rfl
  | 20, _, _, _ => rfl
  | 21, _, _, _ => rfl
  | 22, _, _, _ => rfl
  | 23, _, _, _ => rfl
  | k + 24, h1, _, _ => exact absurd h1 (by omega)
theorem cR.w15 (hR : cR o c h) (f : Nat → Int32) : cR o (c.1, va_up c.2.1 15 f, c.2.2) (ax_set h (o + 15) (.inl (.int, 8192, .inl (f)))) ∧ cFr o (c.2.2.2.2.2 5) h (ax_set h (o + 15) (.inl (.int, 8192, .inl (f)))) := by
  refine hR.upd (k := 15) (i := 0) (c' := (c.1, va_up c.2.1 15 f, c.2.2)) ⟨by decide, Nat.one_pos⟩ rfl ?_ rfl
  intro k2 i2 hv2 hne
  obtain ⟨h1, h2⟩ := hv2
  match k2, h1, h2, hne with
  | 0, _, _, _ => rfl
  | 1, _, _, _ => rfl
  | 2, _, _, _ => rfl
  | 3, _, _, _ => rfl
  | 4, _, _, _ => rfl
  | 5, _, _, _ => rfl
  | 6, _, _, _ => rfl
  | 7, _, _, _ => rfl
  | 8, _, _, _ => rfl
  | 9, _, _, _ => rfl
  | 10, _, _, _ => rfl
  | 11, _, _, _ => rfl
  | 12, _, _, _ => rfl
  | 13, _, _, _ => rfl
  | 14, _, _, _ => rfl
  | 15, _, h2, hne => exact absurd ⟨rfl, Nat.lt_one_iff.mp h2⟩ hne
  | 16, _, _, _ => rfl
  | 17, _, _, _ => rfl
  | 18, _, _, _ => rfl
  | 19, _, _, _ => rfl
  | 20, _, _, _ => rfl
  | 21, _, _, _ => rfl
  | 22, _, _, _ => rfl
  | 23, _, _, _ => rfl
  | k + 24, h1, _, _ => exact absurd h1 (by omega)
theorem cR.w16 (hR : cR o c h) (f : Nat → Int32) : cR o (c.1, va_up c.2.1 16 f, c.2.2) (ax_set h (o + 16) (.inl (.int, 7, .inl (f)))) ∧ cFr o (c.2.2.2.2.2 5) h (ax_set h (o + 16) (.inl (.int, 7, .inl (f)))) := by
  refine hR.upd (k := 16) (i := 0) (c' := (c.1, va_up c.2.1 16 f, c.2.2)) ⟨by decide, Nat.one_pos⟩ rfl ?_ rfl
  intro k2 i2 hv2 hne
  obtain ⟨h1, h2⟩ := hv2
  match k2, h1, h2, hne with
  | 0, _, _, _ => rfl
  | 1, _, _, _ => rfl
  | 2, _, _, _ => rfl
  | 3, _, _, _ => rfl
  | 4, _, _, _ => rfl
  | 5, _, _, _ => rfl
  | 6, _, _, _ => rfl
  | 7, _, _, _ => rfl
  | 8, _, _, _ => rfl
  | 9, _, _, _ => rfl
  | 10, _, _, _ => rfl
  | 11, _, _, _ => rfl
  | 12, _, _, _ => rfl
  | 13, _, _, _ => rfl
  | 14, _, _, _ => rfl
  | 15, _, _, _ => rfl
  | 16, _, h2, hne => exact absurd ⟨rfl, Nat.lt_one_iff.mp h2⟩ hne
  | 17, _, _, _ => rfl
  | 18, _, _, _ => rfl
  | 19, _, _, _ => rfl
  | 20, _, _, _ => rfl
  | 21, _, _, _ => rfl
  | 22, _, _, _ => rfl
  | 23, _, _, _ => rfl
  | k + 24, h1, _, _ => exact absurd h1 (by omega)
end CRU
