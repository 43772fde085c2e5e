theorem nI_mod (n : Nat) : nI n = nI (n % 4294967296) := by
  apply Int32.toBitVec_inj.mp
  apply BitVec.eq_of_toNat_eq
  show n % 2 ^ 32 = (n % 4294967296) % 2 ^ 32
  omega
theorem nI_all (x : Int32) : ∃ n, n < 4294967296 ∧ x = nI n := ⟨x.toBitVec.toNat, x.toBitVec.isLt, by
  apply Int32.toBitVec_inj.mp
  apply BitVec.eq_of_toNat_eq
  show _ = x.toBitVec.toNat % 2 ^ 32
  rw [Nat.mod_eq_of_lt x.toBitVec.isLt]⟩
theorem cUp16 (x : Int32) : (4194304 + x + 16 - 1) &&& (-16) = 4194304 + mUp16 x := by
  obtain ⟨n, hn, rfl⟩ := nI_all x
  have e1 : (4194304 : Int32) + nI n + 16 - 1 = nI (4194304 + n + 15) := by
    show nI 4194304 + nI n + nI 16 - nI 1 = _
    rw [nI_add, nI_add, pk_sub (by omega), show 4194304 + n + 16 - 1 = 4194304 + n + 15 by omega]
  have e2 : mUp16 (nI n) = nI ((n + 15) % 4294967296 / 16 * 16) := by
    show (nI n + nI 15) &&& (-16) = _
    rw [nI_add, nI_mod]
    exact mAl (k := 4) (by omega) (by decide) (by decide)
  rw [e1, e2, nI_mod (4194304 + n + 15), mAl (k := 4) (m := -16) (by omega) (by decide) (by decide)]
  show _ = nI 4194304 + _
  rw [nI_add, nI_mod ((4194304 + n + 15) % 4294967296 / 2 ^ 4 * 2 ^ 4), nI_mod (4194304 + (n + 15) % 4294967296 / 16 * 16)]
  congr 1
  omega
theorem cUp4k (x : Int32) : (4194304 + x + 4096 - 1) &&& (-4096) = 4194304 + mUp4k x := by
  obtain ⟨n, hn, rfl⟩ := nI_all x
  have e1 : (4194304 : Int32) + nI n + 4096 - 1 = nI (4194304 + n + 4095) := by
    show nI 4194304 + nI n + nI 4096 - nI 1 = _
    rw [nI_add, nI_add, pk_sub (by omega), show 4194304 + n + 4096 - 1 = 4194304 + n + 4095 by omega]
  have e2 : mUp4k (nI n) = nI ((n + 4095) % 4294967296 / 4096 * 4096) := by
    show (nI n + nI 4095) &&& (-4096) = _
    rw [nI_add, nI_mod]
    exact mAl (k := 12) (by omega) (by decide) (by decide)
  rw [e1, e2, nI_mod (4194304 + n + 4095), mAl (k := 12) (m := -4096) (by omega) (by decide) (by decide)]
  show _ = nI 4194304 + _
  rw [nI_add, nI_mod ((4194304 + n + 4095) % 4294967296 / 2 ^ 12 * 2 ^ 12), nI_mod (4194304 + (n + 4095) % 4294967296 / 4096 * 4096)]
  congr 1
  omega
theorem mLayL_other (sz nd : Nat → Int32) (c : Nat) : ∀ r u L q, ¬ q % 4 = c → c < 4 → (mLayL sz nd c r u L).2.2 q = L.2.2 q := by
  intro r
  induction r with
  | zero => exact fun u L q _ _ => rfl
  | succ r ih =>
    intro u L q hq hc
    rw [mLayL, ih _ _ _ hq hc]
    by_cases g : nd (4 * u + c) = 0
    · rw [if_pos g]
    · rw [if_neg g]
      show va_up L.2.2 (4 * u + c) _ q = _
      rw [va_up_ne _ _ (by omega)]
theorem cJ.vi {c : cSt} {s : mSt} {e : Nat → Nat → Nat} {U S W T : Nat} (h : cJ c s e U S W T) {v : Nat → Int32} {I : Nat → Nat → Int32} (hv : ∀ k, ¬ k = 15 → v k = c.1 k) (hI : ∀ F, ¬ F = 28 → I F = c.2.1 F) : cJ (v, I, c.2.2) s e U S W T := h.ag (X := [28, 115]) ⟨fun k q => hv k (fun e => q (by rw [e]; decide)), fun k q => hI k (fun e => q (by rw [e]; decide)), fun _ _ => rfl, fun _ _ => rfl, rfl⟩ (by decide)
set_option maxRecDepth 20000 in
theorem l_L_place {G : ax_G} {x : ax_X} {h0 : ax_H} {P : Option Value → ax_H → Prop} {o : Nat} {c : cSt} (s : mSt) (e : Nat → Nat → Nat) (U S W T : Nat) (hJ : cJ c s e U S W T) (hUb : U ≤ 32) (nd : Nat → Int32) (hnd : ∀ q, q < 4 * U → c.2.1 27 q = nd q) {kd : Nat} (hkd : kd < 4) (D : Nat → Prop) (hD : ∀ q, D q → ¬ q % 4 = kd) (zb : Int32) (hq : ax_H) (fin : mLy) (hp : ∀ v I h2, cR o (v, I, c.2.2) h2 → (∀ k, ¬ k = 15 → v k = c.1 k) → v 15 = 4194304 + fin.2.1 → (∀ F, ¬ F = 28 → I F = c.2.1 F) → (∀ q, q < 4 * U → (D q ∨ q % 4 = kd) → ¬ nd q = 0 → I 28 q = 4194304 + fin.2.2 q) → cFr o (c.2.2.2.2.2 5) hq h2 → P (some (.int (4194304 + fin.1))) h2) : ∀ r u (L : mLy) v I h o5, u + r = U → mLayL (s.2.1 5) nd kd r u L = fin → cR o (v, I, c.2.2) h → (∀ k, ¬ k = 15 → v k = c.1 k) → v 15 = 4194304 + L.2.1 → (∀ F, ¬ F = 28 → I F = c.2.1 F) → (∀ q, q < 4 * U → (D q ∨ (q % 4 = kd ∧ q / 4 < u)) → ¬ nd q = 0 → I 28 q = 4194304 + L.2.2 q) → cFr o (c.2.2.2.2.2 5) hq h → AW G x Y_L_placeSections 1 21 h0 P h 5 [some (.ref o), some (.int (nI kd)), some (.int zb), some (.int (4194304 + L.1)), some (.int (nI u)), o5] [] := by
  intro r
  induction r with
  | zero =>
    intro u L v I h o5 hu he hR h1 h2 h3 h4 hF
    have he : L = fin := he
    subst he
    have hJ1 := hJ.vi h1 h3
    refine aw_iload d_L_placeSections_5 rfl ?_
    refine aw_aloadV_n d_L_placeSections_7 rfl rfl (by first | exact Or.inl ⟨_, rfl⟩ | exact Or.inr rfl | exact rv_Q _) ?_
    refine aw_getE cl_L fl_L_62 (by decide) hR.obj rfl (congrArg Value.int hJ1.sU) d_L_placeSections_8 ?_
    refine aw_icmp_ge (tgt := 74) d_L_placeSections_11 (by decide) (fun c11 => ?_) (fun c11 => ?_)
    · refine aw_iload_n d_L_placeSections_74 rfl rfl ?_
      refine aw_iret ?_ rfl d_L_placeSections_75
      exact hp v I h hR h1 h2 h3 (fun q q1 q2 q3 => h4 q q1 (q2.elim Or.inl (fun z => Or.inr ⟨z, by omega⟩)) q3) hF
    · exact absurd (nI_le (show U ≤ u by omega) (by omega)) c11
  | succ r ih =>
    intro u L v I h o5 hu he hR h1 h2 h3 h4 hF
    have huU : u < U := by omega
    have hqq : 4 * u + kd < 4 * U := by omega
    have hJ1 := hJ.vi h1 h3
    rw [mLayL] at he
    have ekd : iN (nI kd) = kd := nI_clamp (by omega)
    have hx : va_rf (cOp (0 ≤ nI kd ∧ nI kd ≤ 3) (cQ c.2.2.2.2 (4 * u + iN (nI kd)))) = .ref (cQ c.2.2.2.2 (4 * u + kd)) := by rw [ekd, cOp_t ⟨nI_pos' (by omega), nI_le (b := 3) (by omega) (by decide)⟩]; rfl
    have hn27 : I 27 (4 * u + kd) = nd (4 * u + kd) := by rw [h3 27 (by decide)]; exact hnd _ hqq
    have hsz : I 24 (4 * u + kd) = s.2.1 5 (4 * u + kd) := hJ1.size hqq
    have h4n : nd (4 * u + kd) = 0 → ∀ q, q < 4 * U → (D q ∨ (q % 4 = kd ∧ q / 4 < u + 1)) → ¬ nd q = 0 → I 28 q = 4194304 + L.2.2 q := by
      intro g q q1 q2 q3
      refine h4 q q1 (q2.elim Or.inl (fun z => Or.inr ⟨z.1, ?_⟩)) q3
      have : ¬ q = 4 * u + kd := fun z => q3 (by rw [z]; exact g)
      omega
    refine aw_iload d_L_placeSections_5 rfl ?_
    refine aw_aloadV_n d_L_placeSections_7 rfl rfl (by first | exact Or.inl ⟨_, rfl⟩ | exact Or.inr rfl | exact rv_Q _) ?_
    refine aw_getE cl_L fl_L_62 (by decide) hR.obj rfl (congrArg Value.int hJ1.sU) d_L_placeSections_8 ?_
    refine aw_icmp_ge (tgt := 74) d_L_placeSections_11 (by decide) (fun c11 => ?_) (fun c11 => ?_)
    · exact absurd c11 (nI_ge (by omega) (by omega))
    · refine aw_aloadV_n d_L_placeSections_14 rfl rfl (by first | exact Or.inl ⟨_, rfl⟩ | exact Or.inr rfl | exact rv_Q _) ?_
      refine aw_get cl_L fl_L_11 (by decide) hR.obj rfl d_L_placeSections_15 ?_
      refine aw_iload d_L_placeSections_18 rfl ?_
      refine aC_l1 hR rfl (show u < 32 by omega) (hJ1.rU huU) d_L_placeSections_20 ?_
      refine aw_iload_n d_L_placeSections_21 rfl rfl ?_
      refine aw_callV (c_Unit_sectionOfKind G _ o _ hR (hJ.hu huU) (nI kd)) cl_Unit (hR.unit (hJ.hu huU)) m_Unit_sectionOfKind ml_L_167 rfl rfl (by decide) (by decide) (Nat.le_of_ble_eq_true rfl) d_L_placeSections_22 ?_
      rintro vv h ⟨rfl, rfl⟩
      rw [show va_rf (cOp (0 ≤ nI kd ∧ nI kd ≤ 3) (cQ (v, I, c.2.2).2.2.2.2 (4 * u + iN (nI kd)))) = .ref (cQ c.2.2.2.2 (4 * u + kd)) from hx]
      refine aw_astoreV d_L_placeSections_25 (by decide) (by first | exact Or.inl ⟨_, rfl⟩ | exact Or.inr rfl | exact rv_Q _) (by dsimp only [List.set]) ?_
      refine aw_aloadV d_L_placeSections_27 rfl (by first | exact Or.inl ⟨_, rfl⟩ | exact Or.inr rfl | exact rv_Q _) ?_
      refine aw_ifnull d_L_placeSections_29 ?_
      refine aw_aloadV d_L_placeSections_32 rfl (by first | exact Or.inl ⟨_, rfl⟩ | exact Or.inr rfl | exact rv_Q _) ?_
      refine aw_get cl_Section fl_L_237 (by decide) (hR.sec (hJ.hq hqq)) rfl d_L_placeSections_34 ?_
      refine aw_if_eq (tgt := 68) d_L_placeSections_37 (by decide) (fun c37 => ?_) (fun c37 => ?_)
      · refine aw_iinc (v := nI (u + 1)) d_L_placeSections_68 rfl (ax_inc u) (by decide) (by dsimp only [List.set]) ?_
        refine aw_goto (tgt := 5) d_L_placeSections_71 (by decide) ?_
        have c37 : I 27 (4 * u + kd) = 0 := c37
        rw [hn27] at c37
        rw [if_pos c37] at he
        exact ih (u + 1) L v I h _ (by omega) he hR h1 h2 h3 (h4n c37) hF
      · refine aw_aloadV d_L_placeSections_40 rfl (by first | exact Or.inl ⟨_, rfl⟩ | exact Or.inr rfl | exact rv_Q _) ?_
        refine aw_iload_n d_L_placeSections_42 rfl rfl ?_
        refine aw_bipush (v := 16) d_L_placeSections_43 (by decide) ?_
        refine aw_callS (c_L_roundUp G _ (4194304 + L.1) 16) m_L_roundUp ml_L_329 rfl rfl (by decide) (by decide) (Nat.le_of_ble_eq_true rfl) d_L_placeSections_45 ?_
        rintro vv h ⟨rfl, rfl⟩
        rw [cUp16]
        refine aC_p28 hR (hJ.hq hqq) fl_L_335 rfl rfl d_L_placeSections_48 (fun g48 hR48 hF48 => ?_)
        refine aw_aloadV d_L_placeSections_51 rfl (by first | exact Or.inl ⟨_, rfl⟩ | exact Or.inr rfl | exact rv_Q _) ?_
        refine aw_getE cl_Section fl_L_335 (by decide) (hR48.sec (hJ.hq hqq)) rfl (show _ = Value.int (4194304 + mUp16 L.1) from congrArg Value.int (va_up_self (I 28) _ _)) d_L_placeSections_53 ?_
        refine aw_aloadV d_L_placeSections_56 rfl (by first | exact Or.inl ⟨_, rfl⟩ | exact Or.inr rfl | exact rv_Q _) ?_
        refine aw_getE cl_Section fl_L_338 (by decide) (hR48.sec (hJ.hq hqq)) rfl (congrArg Value.int hsz) d_L_placeSections_58 ?_
        refine aw_iadd d_L_placeSections_61 ?_
        refine aw_istore_n d_L_placeSections_62 rfl (by decide) (by dsimp only [List.set]) ?_
        refine aw_aloadV_n d_L_placeSections_63 rfl rfl (by first | exact Or.inl ⟨_, rfl⟩ | exact Or.inr rfl | exact rv_Q _) ?_
        refine aw_iload_n d_L_placeSections_64 rfl rfl ?_
        refine aC_p15 hR48 fl_L_82 rfl rfl d_L_placeSections_65 (fun g65 hR65 hF65 => ?_)
        refine aw_iinc (v := nI (u + 1)) d_L_placeSections_68 rfl (ax_inc u) (by decide) (by dsimp only [List.set]) ?_
        refine aw_goto (tgt := 5) d_L_placeSections_71 (by decide) ?_
        have c37 : ¬ I 27 (4 * u + kd) = 0 := c37
        rw [hn27] at c37
        rw [if_neg c37] at he
        refine aw_ls (ls' := [some (.ref o), some (.int (nI kd)), some (.int zb), some (.int (4194304 + (mUp16 L.1 + s.2.1 5 (4 * u + kd)))), some (.int (nI (u + 1))), some (.ref (cQ c.2.2.2.2 (4 * u + kd)))]) (by rw [← Int32.add_assoc]) ?_
        refine ih (u + 1) _ _ _ _ _ (by omega) he hR65 (fun k q => (va_up_ne _ _ q).trans (h1 k q)) ?_ (fun F q => (va_up_ne _ _ q).trans (h3 F q)) (fun q q1 q2 q3 => ?_) ((hF.tr hF48).tr hF65)
        · show va_up v 15 (4194304 + mUp16 L.1 + s.2.1 5 (4 * u + kd)) 15 = _
          rw [va_up_self, Int32.add_assoc]
        · show va_up (I 28) (4 * u + kd) (4194304 + mUp16 L.1) q = 4194304 + va_up L.2.2 (4 * u + kd) (mUp16 L.1) q
          by_cases eq : q = 4 * u + kd
          · rw [eq, va_up_self, va_up_self]
          · rw [va_up_ne _ _ eq, va_up_ne _ _ eq]
            exact h4 q q1 (q2.elim Or.inl (fun z => Or.inr ⟨z.1, by omega⟩)) q3
set_option maxRecDepth 20000 in
theorem c_L_place (G : ax_G) (h : ax_H) (o : Nat) (c : cSt) (hR : cR o c h) (s : mSt) (e : Nat → Nat → Nat) (U S W T : Nat) (hJ : cJ c s e U S W T) (hUb : U ≤ 32) (nd : Nat → Int32) (hnd : ∀ q, q < 4 * U → c.2.1 27 q = nd q) {kd : Nat} (hkd : kd < 4) (D : Nat → Prop) (hD : ∀ q, D q → ¬ q % 4 = kd) (L : mLy) (zk z : Int32) (hzk : zk = nI kd) (hz : z = 4194304 + L.1) (hl : c.1 15 = 4194304 + L.2.1) (h4 : ∀ q, q < 4 * U → D q → ¬ nd q = 0 → c.2.1 28 q = 4194304 + L.2.2 q) : AM G Y_L_placeSections 1 21 [.ref o, .int zk, .int z] h (fun v h2 => v = some (.int (4194304 + (mLayL (s.2.1 5) nd kd U 0 L).1)) ∧ ∃ w I, cR o (w, I, c.2.2) h2 ∧ (∀ k, ¬ k = 15 → w k = c.1 k) ∧ w 15 = 4194304 + (mLayL (s.2.1 5) nd kd U 0 L).2.1 ∧ (∀ F, ¬ F = 28 → I F = c.2.1 F) ∧ (∀ q, q < 4 * U → (D q ∨ q % 4 = kd) → ¬ nd q = 0 → I 28 q = 4194304 + (mLayL (s.2.1 5) nd kd U 0 L).2.2 q) ∧ cFr o (c.2.2.2.2.2 5) h h2) := by
  refine aw_enter (by decide) (Nat.le_of_ble_eq_true rfl) (n := 3) (ls := [some (.ref o), some (.int zk), some (.int z), none, none, none]) rfl (fun x => ?_)
  refine aw_iload_n d_L_placeSections_0 rfl rfl ?_
  refine aw_istore_n d_L_placeSections_1 rfl (by decide) (by dsimp only [List.set]) ?_
  refine aw_iconst (v := 0) d_L_placeSections_2 (by decide) ?_
  refine aw_istore d_L_placeSections_3 (by decide) (by dsimp only [List.set]) ?_
  subst hzk hz
  exact l_L_place s e U S W T hJ hUb nd hnd hkd D hD _ h _ (fun w I h2 a0 a1 a2 a3 a4 a5 => ⟨rfl, w, I, a0, a1, a2, a3, a4, a5⟩) U 0 L c.1 c.2.1 h _ (by omega) rfl hR (fun _ _ => rfl) hl (fun _ _ => rfl) (fun q q1 q2 q3 => h4 q q1 (q2.resolve_right (fun z => absurd z.2 (Nat.not_lt_zero _))) q3) (cFr.rf _ _ _)
