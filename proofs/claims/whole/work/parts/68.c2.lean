/-- equal but for what X names -/
def cAg (X : List Nat) (c c' : cSt) : Prop := (∀ k, ¬ (100 + k) ∈ X → c'.1 k = c.1 k) ∧ (∀ k, ¬ k ∈ X → c'.2.1 k = c.2.1 k) ∧ (∀ k, ¬ k ∈ X → c'.2.2.1 k = c.2.2.1 k) ∧ (∀ k, ¬ k ∈ X → c'.2.2.2.1 k = c.2.2.2.1 k) ∧ c'.2.2.2.2 = c.2.2.2.2
theorem cAg.rf (X : List Nat) (c : cSt) : cAg X c c := ⟨fun _ _ => rfl, fun _ _ => rfl, fun _ _ => rfl, fun _ _ => rfl, rfl⟩
theorem cAg.tr {X : List Nat} {c c1 c2 : cSt} (a : cAg X c c1) (b : cAg X c1 c2) : cAg X c c2 := ⟨fun k q => (b.1 k q).trans (a.1 k q), fun k q => (b.2.1 k q).trans (a.2.1 k q), fun k q => (b.2.2.1 k q).trans (a.2.2.1 k q), fun k q => (b.2.2.2.1 k q).trans (a.2.2.2.1 k q), b.2.2.2.2.trans a.2.2.2.2⟩
theorem cAg.wk {X X2 : List Nat} {c c1 : cSt} (a : cAg X c c1) (h : ∀ k ∈ X, k ∈ X2) : cAg X2 c c1 := ⟨fun k q => a.1 k (fun z => q (h _ z)), fun k q => a.2.1 k (fun z => q (h k z)), fun k q => a.2.2.1 k (fun z => q (h k z)), fun k q => a.2.2.2.1 k (fun z => q (h k z)), a.2.2.2.2⟩
theorem cAg.v {X : List Nat} {c c1 : cSt} (a : cAg X c c1) {F : Nat} (hF : (100 + F) ∈ X) (v : Int32) : cAg X c (va_up c1.1 F v, c1.2) := ⟨fun k q => (va_up_ne _ _ (fun e : k = F => q (by rw [e]; exact hF))).trans (a.1 k q), a.2⟩
theorem cAg.i {X : List Nat} {c c1 : cSt} (a : cAg X c c1) {F : Nat} (hF : F ∈ X) (f : Nat → Int32) : cAg X c (c1.1, va_up c1.2.1 F f, c1.2.2) := ⟨a.1, fun k q => (va_up_ne _ _ (fun e : k = F => q (by rw [e]; exact hF))).trans (a.2.1 k q), a.2.2⟩
theorem cAg.l {X : List Nat} {c c1 : cSt} (a : cAg X c c1) {F : Nat} (hF : F ∈ X) (f : Nat → Int64) : cAg X c (c1.1, c1.2.1, va_up c1.2.2.1 F f, c1.2.2.2) := ⟨a.1, a.2.1, fun k q => (va_up_ne _ _ (fun e : k = F => q (by rw [e]; exact hF))).trans (a.2.2.1 k q), a.2.2.2⟩
theorem cAg.r {X : List Nat} {c c1 : cSt} (a : cAg X c c1) {F : Nat} (hF : F ∈ X) (f : Nat → Option Nat) : cAg X c (c1.1, c1.2.1, c1.2.2.1, va_up c1.2.2.2.1 F f, c1.2.2.2.2) := ⟨a.1, a.2.1, a.2.2.1, fun k q => (va_up_ne _ _ (fun e : k = F => q (by rw [e]; exact hF))).trans (a.2.2.2.1 k q), a.2.2.2.2⟩
/-- one past the symbols of unit j -/
def cEnd (e : Nat → Nat → Nat) (U S j : Nat) : Nat := if j + 1 < U then e 16 (j + 1) else S
def cJn (c : cSt) (s : mSt) (e : Nat → Nat → Nat) (U S W T : Nat) : Prop := (c.2.2.2.2.2 0 = U) ∧ (c.2.2.2.2.2 2 = S) ∧ (c.2.2.2.2.2 3 = W) ∧ (c.2.2.2.2.2 4 = T) ∧ (c.2.2.2.2.2 1 ≤ 2048) ∧ (c.1 9 = nI U) ∧ (c.1 10 = nI (c.2.2.2.2.2 1)) ∧ (c.1 11 = nI S) ∧ (c.1 12 = nI W) ∧ (c.1 13 = nI T)
def cJu (c : cSt) (s : mSt) (e : Nat → Nat → Nat) (U S W T : Nat) : Prop := ∀ j, j < U → (c.2.2.2.1 1 j = some (c.2.2.2.2.1 0 j)) ∧ ((c.2.1 20 j = 0 ↔ s.2.1 1 j = 0)) ∧ (c.2.1 21 j = nI (e 16 j)) ∧ (c.2.1 22 j = nI (cEnd e U S j)) ∧ (e 16 j ≤ cEnd e U S j) ∧ (cEnd e U S j ≤ S)
def cJq (c : cSt) (s : mSt) (e : Nat → Nat → Nat) (U S W T : Nat) : Prop := ∀ j, j < 4 * U → (c.2.1 24 j = s.2.1 5 j) ∧ ((j % 4 < 3 → c.2.1 25 j = s.2.1 6 j)) ∧ (c.2.1 26 j = s.2.1 2 j)
def cJm (c : cSt) (s : mSt) (e : Nat → Nat → Nat) (U S W T : Nat) : Prop := ∀ j, j < c.2.2.2.2.2 1 → (c.2.2.2.1 2 j = some (c.2.2.2.2.1 1 j)) ∧ ((∀ i, i < c.2.2.2.2.2 1 → c.2.2.1 42 i = c.2.2.1 42 j → c.2.1 29 i = c.2.1 29 j → i = j))
def cJk (c : cSt) (s : mSt) (e : Nat → Nat → Nat) (U S W T : Nat) : Prop := ∀ j, j < S → (c.2.2.2.1 3 j = some (c.2.2.2.2.1 2 j)) ∧ (c.2.2.1 42 (c.2.2.2.2.1 5 j) = s.2.2 9 j) ∧ (c.2.1 29 (c.2.2.2.2.1 5 j) = s.2.1 10 j) ∧ (c.2.1 32 j = zI (s.2.1 12 j = 1)) ∧ (c.2.1 33 j = zI (1 < s.2.1 12 j)) ∧ (c.2.2.2.1 46 j = (if s.2.1 13 j < 0 then none else some (cQ c.2.2.2.2 (4 * e 11 j + e 13 j)))) ∧ ((0 ≤ s.2.1 13 j → c.2.1 34 j = s.2.1 14 j)) ∧ (c.2.1 35 j = s.2.1 15 j) ∧ ((∀ u, u < U → (e 11 j = u ↔ e 16 u ≤ j ∧ j < cEnd e U S u))) ∧ (0 ≤ s.2.1 15 j)
def cJw (c : cSt) (s : mSt) (e : Nat → Nat → Nat) (U S W T : Nat) : Prop := ∀ j, j < W → (c.2.2.2.1 4 j = some (c.2.2.2.2.1 3 j)) ∧ (c.2.2.2.2.1 6 j = mSrc e j) ∧ (c.2.1 36 j = s.2.1 19 j) ∧ (c.2.1 37 j = s.2.1 20 j) ∧ (c.2.2.1 43 j = s.2.2 24 j) ∧ (c.2.1 38 j = s.2.1 23 j) ∧ (c.2.1 39 j = s.2.1 21 j) ∧ (-1 ≤ s.2.1 21 j) ∧ (c.2.2.2.1 47 j = (if 5 ≤ e 22 j then some (c.2.2.2.2.1 2 (e 22 j - 5)) else none)) ∧ (c.2.2.2.1 48 j = (if 1 ≤ e 22 j ∧ e 22 j < 5 then some (cQ c.2.2.2.2 (4 * e 17 j + (e 22 j - 1))) else none))
def cJt (c : cSt) (s : mSt) (e : Nat → Nat → Nat) (U S W T : Nat) : Prop := ∀ j, j < T → (c.2.2.2.1 5 j = some (c.2.2.2.2.1 4 j)) ∧ (c.2.2.2.2.1 7 j = 4 * e 25 j) ∧ (c.2.1 40 j = s.2.1 26 j) ∧ (c.2.1 41 j = s.2.1 27 j)
def cJ (c : cSt) (s : mSt) (e : Nat → Nat → Nat) (U S W T : Nat) : Prop := cJn c s e U S W T ∧ cJu c s e U S W T ∧ cJq c s e U S W T ∧ cJm c s e U S W T ∧ cJk c s e U S W T ∧ cJw c s e U S W T ∧ cJt c s e U S W T
def cMu : List Nat := [6, 9, 10, 11, 12, 13, 14, 15, 16, 23, 27, 28, 30, 31, 44, 45, 114, 115, 150, 151, 152, 153, 154]
section CJA
variable {c : cSt} {s : mSt} {e : Nat → Nat → Nat} {U S W T : Nat}
theorem cJ.nU (h : cJ c s e U S W T) : c.2.2.2.2.2 0 = U := (h.1).1
theorem cJ.nS (h : cJ c s e U S W T) : c.2.2.2.2.2 2 = S := (h.1).2.1
theorem cJ.nW (h : cJ c s e U S W T) : c.2.2.2.2.2 3 = W := (h.1).2.2.1
theorem cJ.nT (h : cJ c s e U S W T) : c.2.2.2.2.2 4 = T := (h.1).2.2.2.1
theorem cJ.NS (h : cJ c s e U S W T) : c.2.2.2.2.2 1 ≤ 2048 := (h.1).2.2.2.2.1
theorem cJ.sU (h : cJ c s e U S W T) : c.1 9 = nI U := (h.1).2.2.2.2.2.1
theorem cJ.sN (h : cJ c s e U S W T) : c.1 10 = nI (c.2.2.2.2.2 1) := (h.1).2.2.2.2.2.2.1
theorem cJ.sS (h : cJ c s e U S W T) : c.1 11 = nI S := (h.1).2.2.2.2.2.2.2.1
theorem cJ.sW (h : cJ c s e U S W T) : c.1 12 = nI W := (h.1).2.2.2.2.2.2.2.2.1
theorem cJ.sT (h : cJ c s e U S W T) : c.1 13 = nI T := (h.1).2.2.2.2.2.2.2.2.2
theorem cJ.rU (h : cJ c s e U S W T) {j : Nat} (hj : j < U) : c.2.2.2.1 1 j = some (c.2.2.2.2.1 0 j) := (h.2.1 j hj).1
theorem cJ.lib (h : cJ c s e U S W T) {j : Nat} (hj : j < U) : (c.2.1 20 j = 0 ↔ s.2.1 1 j = 0) := (h.2.1 j hj).2.1
theorem cJ.beg (h : cJ c s e U S W T) {j : Nat} (hj : j < U) : c.2.1 21 j = nI (e 16 j) := (h.2.1 j hj).2.2.1
theorem cJ.end (h : cJ c s e U S W T) {j : Nat} (hj : j < U) : c.2.1 22 j = nI (cEnd e U S j) := (h.2.1 j hj).2.2.2.1
theorem cJ.eb (h : cJ c s e U S W T) {j : Nat} (hj : j < U) : e 16 j ≤ cEnd e U S j := (h.2.1 j hj).2.2.2.2.1
theorem cJ.ee (h : cJ c s e U S W T) {j : Nat} (hj : j < U) : cEnd e U S j ≤ S := (h.2.1 j hj).2.2.2.2.2
theorem cJ.size (h : cJ c s e U S W T) {j : Nat} (hj : j < 4 * U) : c.2.1 24 j = s.2.1 5 j := (h.2.2.1 j hj).1
theorem cJ.fb (h : cJ c s e U S W T) {j : Nat} (hj : j < 4 * U) : (j % 4 < 3 → c.2.1 25 j = s.2.1 6 j) := (h.2.2.1 j hj).2.1
theorem cJ.kept (h : cJ c s e U S W T) {j : Nat} (hj : j < 4 * U) : c.2.1 26 j = s.2.1 2 j := (h.2.2.1 j hj).2.2
theorem cJ.rN (h : cJ c s e U S W T) {j : Nat} (hj : j < c.2.2.2.2.2 1) : c.2.2.2.1 2 j = some (c.2.2.2.2.1 1 j) := (h.2.2.2.1 j hj).1
theorem cJ.uni (h : cJ c s e U S W T) {j : Nat} (hj : j < c.2.2.2.2.2 1) : (∀ i, i < c.2.2.2.2.2 1 → c.2.2.1 42 i = c.2.2.1 42 j → c.2.1 29 i = c.2.1 29 j → i = j) := (h.2.2.2.1 j hj).2
theorem cJ.rS (h : cJ c s e U S W T) {j : Nat} (hj : j < S) : c.2.2.2.1 3 j = some (c.2.2.2.2.1 2 j) := (h.2.2.2.2.1 j hj).1
theorem cJ.word (h : cJ c s e U S W T) {j : Nat} (hj : j < S) : c.2.2.1 42 (c.2.2.2.2.1 5 j) = s.2.2 9 j := (h.2.2.2.2.1 j hj).2.1
theorem cJ.len (h : cJ c s e U S W T) {j : Nat} (hj : j < S) : c.2.1 29 (c.2.2.2.2.1 5 j) = s.2.1 10 j := (h.2.2.2.2.1 j hj).2.2.1
theorem cJ.glob (h : cJ c s e U S W T) {j : Nat} (hj : j < S) : c.2.1 32 j = zI (s.2.1 12 j = 1) := (h.2.2.2.2.1 j hj).2.2.2.1
theorem cJ.weak (h : cJ c s e U S W T) {j : Nat} (hj : j < S) : c.2.1 33 j = zI (1 < s.2.1 12 j) := (h.2.2.2.2.1 j hj).2.2.2.2.1
theorem cJ.sec (h : cJ c s e U S W T) {j : Nat} (hj : j < S) : c.2.2.2.1 46 j = (if s.2.1 13 j < 0 then none else some (cQ c.2.2.2.2 (4 * e 11 j + e 13 j))) := (h.2.2.2.2.1 j hj).2.2.2.2.2.1
theorem cJ.plc (h : cJ c s e U S W T) {j : Nat} (hj : j < S) : (0 ≤ s.2.1 13 j → c.2.1 34 j = s.2.1 14 j) := (h.2.2.2.2.1 j hj).2.2.2.2.2.2.1
theorem cJ.line (h : cJ c s e U S W T) {j : Nat} (hj : j < S) : c.2.1 35 j = s.2.1 15 j := (h.2.2.2.2.1 j hj).2.2.2.2.2.2.2.1
theorem cJ.ord (h : cJ c s e U S W T) {j : Nat} (hj : j < S) : (∀ u, u < U → (e 11 j = u ↔ e 16 u ≤ j ∧ j < cEnd e U S u)) := (h.2.2.2.2.1 j hj).2.2.2.2.2.2.2.2.1
theorem cJ.ln0 (h : cJ c s e U S W T) {j : Nat} (hj : j < S) : 0 ≤ s.2.1 15 j := (h.2.2.2.2.1 j hj).2.2.2.2.2.2.2.2.2
theorem cJ.rW (h : cJ c s e U S W T) {j : Nat} (hj : j < W) : c.2.2.2.1 4 j = some (c.2.2.2.2.1 3 j) := (h.2.2.2.2.2.1 j hj).1
theorem cJ.home (h : cJ c s e U S W T) {j : Nat} (hj : j < W) : c.2.2.2.2.1 6 j = mSrc e j := (h.2.2.2.2.2.1 j hj).2.1
theorem cJ.wplc (h : cJ c s e U S W T) {j : Nat} (hj : j < W) : c.2.1 36 j = s.2.1 19 j := (h.2.2.2.2.2.1 j hj).2.2.1
theorem cJ.wsiz (h : cJ c s e U S W T) {j : Nat} (hj : j < W) : c.2.1 37 j = s.2.1 20 j := (h.2.2.2.2.2.1 j hj).2.2.2.1
theorem cJ.num (h : cJ c s e U S W T) {j : Nat} (hj : j < W) : c.2.2.1 43 j = s.2.2 24 j := (h.2.2.2.2.2.1 j hj).2.2.2.2.1
theorem cJ.wlin (h : cJ c s e U S W T) {j : Nat} (hj : j < W) : c.2.1 38 j = s.2.1 23 j := (h.2.2.2.2.2.1 j hj).2.2.2.2.2.1
theorem cJ.next (h : cJ c s e U S W T) {j : Nat} (hj : j < W) : c.2.1 39 j = s.2.1 21 j := (h.2.2.2.2.2.1 j hj).2.2.2.2.2.2.1
theorem cJ.nx (h : cJ c s e U S W T) {j : Nat} (hj : j < W) : -1 ≤ s.2.1 21 j := (h.2.2.2.2.2.1 j hj).2.2.2.2.2.2.2.1
theorem cJ.wsym (h : cJ c s e U S W T) {j : Nat} (hj : j < W) : c.2.2.2.1 47 j = (if 5 ≤ e 22 j then some (c.2.2.2.2.1 2 (e 22 j - 5)) else none) := (h.2.2.2.2.2.1 j hj).2.2.2.2.2.2.2.2.1
theorem cJ.wbeg (h : cJ c s e U S W T) {j : Nat} (hj : j < W) : c.2.2.2.1 48 j = (if 1 ≤ e 22 j ∧ e 22 j < 5 then some (cQ c.2.2.2.2 (4 * e 17 j + (e 22 j - 1))) else none) := (h.2.2.2.2.2.1 j hj).2.2.2.2.2.2.2.2.2
theorem cJ.rT (h : cJ c s e U S W T) {j : Nat} (hj : j < T) : c.2.2.2.1 5 j = some (c.2.2.2.2.1 4 j) := (h.2.2.2.2.2.2 j hj).1
theorem cJ.txt (h : cJ c s e U S W T) {j : Nat} (hj : j < T) : c.2.2.2.2.1 7 j = 4 * e 25 j := (h.2.2.2.2.2.2 j hj).2.1
theorem cJ.tplc (h : cJ c s e U S W T) {j : Nat} (hj : j < T) : c.2.1 40 j = s.2.1 26 j := (h.2.2.2.2.2.2 j hj).2.2.1
theorem cJ.tlin (h : cJ c s e U S W T) {j : Nat} (hj : j < T) : c.2.1 41 j = s.2.1 27 j := (h.2.2.2.2.2.2 j hj).2.2.2
theorem cJ.hu (h : cJ c s e U S W T) {j : Nat} (hj : j < U) : j < c.2.2.2.2.2 0 := by rw [h.nU]; exact hj
theorem cJ.hk (h : cJ c s e U S W T) {j : Nat} (hj : j < S) : j < c.2.2.2.2.2 2 := by rw [h.nS]; exact hj
theorem cJ.hw (h : cJ c s e U S W T) {j : Nat} (hj : j < W) : j < c.2.2.2.2.2 3 := by rw [h.nW]; exact hj
theorem cJ.ht (h : cJ c s e U S W T) {j : Nat} (hj : j < T) : j < c.2.2.2.2.2 4 := by rw [h.nT]; exact hj
theorem cJ.hq (h : cJ c s e U S W T) {j : Nat} (hj : j < 4 * U) : j < 4 * c.2.2.2.2.2 0 := by rw [h.nU]; exact hj
theorem cJ.ag {c2 : cSt} {X : List Nat} (h : cJ c s e U S W T) (a : cAg X c c2) (hX : ∀ k ∈ X, k ∈ cMu) : cJ c2 s e U S W T := by
  have n : ∀ k, ¬ k ∈ cMu → ¬ k ∈ X := fun k q z => q (hX k z)
  obtain ⟨a1, a2, a3, a4, a5⟩ := a
  have s9 := a1 9 (n 109 (by decide))
  have s10 := a1 10 (n 110 (by decide))
  have s11 := a1 11 (n 111 (by decide))
  have s12 := a1 12 (n 112 (by decide))
  have s13 := a1 13 (n 113 (by decide))
  have i20 := a2 20 (n 20 (by decide))
  have i21 := a2 21 (n 21 (by decide))
  have i22 := a2 22 (n 22 (by decide))
  have i24 := a2 24 (n 24 (by decide))
  have i25 := a2 25 (n 25 (by decide))
  have i26 := a2 26 (n 26 (by decide))
  have i29 := a2 29 (n 29 (by decide))
  have i32 := a2 32 (n 32 (by decide))
  have i33 := a2 33 (n 33 (by decide))
  have i34 := a2 34 (n 34 (by decide))
  have i35 := a2 35 (n 35 (by decide))
  have i36 := a2 36 (n 36 (by decide))
  have i37 := a2 37 (n 37 (by decide))
  have i38 := a2 38 (n 38 (by decide))
  have i39 := a2 39 (n 39 (by decide))
  have i40 := a2 40 (n 40 (by decide))
  have i41 := a2 41 (n 41 (by decide))
  have l42 := a3 42 (n 42 (by decide))
  have l43 := a3 43 (n 43 (by decide))
  have r1 := a4 1 (n 1 (by decide))
  have r2 := a4 2 (n 2 (by decide))
  have r3 := a4 3 (n 3 (by decide))
  have r4 := a4 4 (n 4 (by decide))
  have r5 := a4 5 (n 5 (by decide))
  have r46 := a4 46 (n 46 (by decide))
  have r47 := a4 47 (n 47 (by decide))
  have r48 := a4 48 (n 48 (by decide))
  unfold cJ cJn cJu cJq cJm cJk cJw cJt at h ⊢
  rw [s9, s10, s11, s12, s13, i20, i21, i22, i24, i25, i26, i29, i32, i33, i34, i35, i36, i37, i38, i39, i40, i41, l42, l43, r1, r2, r3, r4, r5, r46, r47, r48, a5]
  exact h
end CJA
