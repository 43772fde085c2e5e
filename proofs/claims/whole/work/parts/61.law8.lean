/-- what the class is to keep: every call against the reference -/
def lawAll (G : ax_G) (C : lawP) (o m q : Nat) : Prop := lawClear G C o m q ∧ lawUnit G C o m q ∧ lawPut G C o m q ∧ lawKeep G C o m q ∧ lawSymbol G C o m q ∧ lawAwait G C o m q ∧ lawStart G C o m q ∧ lawLink G C o m q ∧ lawFault G C o m q ∧ lawNeeded G C o m q ∧ lawOctet G C o m q ∧ lawAddress G C o m q ∧ lawLine G C o m q ∧ lawPart G C o m q
theorem law_i9 {L i : Nat} (hL : L < 2 ^ 29) (hi : i < 2 ^ 29) (h : ¬ nI L - 9 < nI i) : i + 9 ≤ L := by
  rw [Int32.lt_iff_toInt_lt, show (9 : Int32) = nI 9 from rfl, pk_sub_toInt (by omega) (by decide), nI_toInt (by omega)] at h
  omega
set_option maxRecDepth 20000 in
theorem law_loop {p : Program} {l : Launch} {e : Env} {s : State} {mm : MethodId} {below : List Frame} {meth : Method} {c : Code} {D : va_G} {nm : String} {C : lawP} {o m q b L : Nat} {xs : Nat → Int32} (hS : ax_S (lawG s D l b) b L xs) (hL : L < 2 ^ 29) (hC : lawK C o m q) (hd : ∀ s e U S W T B n h, C s e U S W T B (n + 1) h → C s e U S W T B n h) (A : lawAll (lawG s D l b) C o m q) : ∀ n i h l5 l6, L < i + 9 * (n + 1) → i < 2 ^ 29 → lawI C m q n h → AW (lawG s D l b) (lawX p e s mm b below meth c) (lawY nm) 10 358 (lawH s) (fun _ _ => False) h 23 [some (.ref b), some (.ref o), some (.ref m), some (.ref q), some (.int (nI i)), l5, l6] [] := by
  have hLb : L < 2 ^ 31 := by omega
  intro n
  induction n with
  | zero =>
    intro i h l5 l6 hn hi hI
    refine aw_iload d_W_law_23 rfl ?_
    first | refine aw_aload_n d_W_law_25 rfl rfl ?_ | refine aw_aload_nQ d_W_law_25 rfl rfl ?_ | refine aw_aload_nN d_W_law_25 rfl rfl ?_
    refine aw_slen hS d_W_law_26 ?_
    refine aw_bipush (v := 9) d_W_law_27 (by decide) ?_
    refine aw_isub d_W_law_29 ?_
    refine aw_icmp_gt (tgt := 910) d_W_law_30 (by decide) (fun c30 => ?_) (fun c30 => ?_)
    · refine aw_iconst (v := 1) d_W_law_910 (by decide) ?_
      exact aw_lawRet d_W_law_911
    · exact absurd (law_i9 hL hi c30) (by omega)
  | succ n ih =>
    intro i h l5 l6 hn hi hI
    have hdown : lawI C m q (n + 1) h → lawI C m q n h := fun ⟨s, e, U, S, W, T, B, f, z1, z2, z3, z4⟩ => ⟨s, e, U, S, W, T, B, f, z1, z2, hd _ _ _ _ _ _ _ _ _ z3, z4⟩
    have next : i + 9 ≤ L → ∀ h2 l5 l6, lawI C m q n h2 → AW (lawG s D l b) (lawX p e s mm b below meth c) (lawY nm) 10 358 (lawH s) (fun _ _ => False) h2 904 [some (.ref b), some (.ref o), some (.ref m), some (.ref q), some (.int (nI i)), l5, l6] [] := by
      intro h9 h2 l5 l6 hI2
      refine aw_iinc (v := nI (i + 9)) d_W_law_904 rfl (show nI i + 9 = nI (i + 9) from nI_add i 9) (Nat.le_of_ble_eq_true rfl) rfl ?_
      refine aw_goto (tgt := 23) d_W_law_907 (by decide) ?_
      exact ih (i + 9) h2 l5 l6 (by omega) (by omega) hI2
    refine aw_iload d_W_law_23 rfl ?_
    first | refine aw_aload_n d_W_law_25 rfl rfl ?_ | refine aw_aload_nQ d_W_law_25 rfl rfl ?_ | refine aw_aload_nN d_W_law_25 rfl rfl ?_
    refine aw_slen hS d_W_law_26 ?_
    refine aw_bipush (v := 9) d_W_law_27 (by decide) ?_
    refine aw_isub d_W_law_29 ?_
    refine aw_icmp_gt (tgt := 910) d_W_law_30 (by decide) (fun c30 => ?_) (fun c30 => ?_)
    · refine aw_iconst (v := 1) d_W_law_910 (by decide) ?_
      exact aw_lawRet d_W_law_911
    · first | refine aw_aload_n d_W_law_33 rfl rfl ?_ | refine aw_aload_nQ d_W_law_33 rfl rfl ?_ | refine aw_aload_nN d_W_law_33 rfl rfl ?_
      refine aw_iload d_W_law_34 rfl ?_
      refine aw_sld hS rfl (show i < L by have := law_i9 hL hi c30; omega) hLb d_W_law_36 ?_
      refine aw_bipush (v := 15) d_W_law_37 (by decide) ?_
      refine aw_iand d_W_law_39 ?_
      have h9 : i + 9 ≤ L := law_i9 hL hi c30
      obtain ⟨j, j1, j2⟩ := pk_andE (xs i) (m := 15) 4 (by decide)
      rw [show xs i &&& 15 = nI j from j2]
      match j, j1 with
      | 0, _ => exact aw_tin (tgt := 112) d_W_law_40 (by decide) (by decide) rfl (by decide) (law_clear hS hLb hC i n h9 l5 l6 A.1 h hI (fun h2 z => next h9 h2 l5 l6 z))
      | 1, _ => exact aw_tin (tgt := 123) d_W_law_40 (by decide) (by decide) rfl (by decide) (law_unit hS hLb hC i n h9 l5 l6 A.2.1 h hI (fun h2 z => next h9 h2 l5 l6 z))
      | 2, _ => exact aw_tin (tgt := 212) d_W_law_40 (by decide) (by decide) rfl (by decide) (law_put hS hLb hC i n h9 l5 l6 A.2.2.1 h hI (fun h2 z => next h9 h2 l5 l6 z))
      | 3, _ => exact aw_tin (tgt := 305) d_W_law_40 (by decide) (by decide) rfl (by decide) (law_keep hS hLb hC i n h9 l5 l6 A.2.2.2.1 h hI (fun h2 z => next h9 h2 l5 l6 z))
      | 4, _ => exact aw_tin (tgt := 330) d_W_law_40 (by decide) (by decide) rfl (by decide) (law_symbol hS hLb hC i n h9 l5 l6 A.2.2.2.2.1 h hI (fun h2 z => next h9 h2 l5 l6 z))
      | 5, _ => exact aw_tin (tgt := 451) d_W_law_40 (by decide) (by decide) rfl (by decide) (law_await hS hLb hC i n h9 l5 l6 A.2.2.2.2.2.1 h hI (fun h2 z => next h9 h2 l5 l6 z))
      | 6, _ => exact aw_tin (tgt := 586) d_W_law_40 (by decide) (by decide) rfl (by decide) (law_start hS hLb hC i n h9 l5 l6 A.2.2.2.2.2.2.1 h hI (fun h2 z => next h9 h2 l5 l6 z))
      | 7, _ => exact aw_tin (tgt := 623) d_W_law_40 (by decide) (by decide) rfl (by decide) (law_link hS hLb hC i n h9 l5 l6 A.2.2.2.2.2.2.2.1 h hI (fun h2 l5 l6 z => next h9 h2 l5 l6 z))
      | 8, _ => exact aw_tin (tgt := 667) d_W_law_40 (by decide) (by decide) rfl (by decide) (law_fault hS hLb hC i n h9 l5 l6 A.2.2.2.2.2.2.2.2.1 h hI (fun h2 z => next h9 h2 l5 l6 z))
      | 9, _ => exact aw_tin (tgt := 692) d_W_law_40 (by decide) (by decide) rfl (by decide) (law_needed hS hLb hC i n h9 l5 l6 A.2.2.2.2.2.2.2.2.2.1 h hI (fun h2 z => next h9 h2 l5 l6 z))
      | 10, _ => exact aw_tin (tgt := 729) d_W_law_40 (by decide) (by decide) rfl (by decide) (law_octet hS hLb hC i n h9 l5 l6 A.2.2.2.2.2.2.2.2.2.2.1 h hI (fun h2 z => next h9 h2 l5 l6 z))
      | 11, _ => exact aw_tin (tgt := 754) d_W_law_40 (by decide) (by decide) rfl (by decide) (law_address hS hLb hC i n h9 l5 l6 A.2.2.2.2.2.2.2.2.2.2.2.1 h hI (fun h2 l5 l6 z => next h9 h2 l5 l6 z))
      | 12, _ => exact aw_tin (tgt := 854) d_W_law_40 (by decide) (by decide) rfl (by decide) (law_line hS hLb hC i n h9 l5 l6 A.2.2.2.2.2.2.2.2.2.2.2.2.1 h hI (fun h2 z => next h9 h2 l5 l6 z))
      | 13, _ => exact aw_tin (tgt := 879) d_W_law_40 (by decide) (by decide) rfl (by decide) (law_part hS hLb hC i n h9 l5 l6 A.2.2.2.2.2.2.2.2.2.2.2.2.2 h hI (fun h2 z => next h9 h2 l5 l6 z))
      | 14, _ => exact aw_tout (tgt := 904) d_W_law_40 (Or.inr (by decide)) (by decide) (next h9 h l5 l6 (hdown hI))
      | 15, _ => exact aw_tout (tgt := 904) d_W_law_40 (Or.inr (by decide)) (by decide) (next h9 h l5 l6 (hdown hI))
      | k + 16, hk => exact absurd hk (by omega)
