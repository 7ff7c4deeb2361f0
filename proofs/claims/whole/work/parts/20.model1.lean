/-! the model: members, lagoon, what a sitting does to now (cell 54) -/
set_option maxRecDepth 100000 in
set_option maxHeartbeats 4000000 in
theorem m_in {x y z : Int32} {M : mM} {J : mJ}  : Ct yX7_in cX7_in 3 (some .boolean) (rmD 0) false [.int x, .int y, .int z] LY M J (mNi LY (fun r0 M1 J1 => r0 = bI (y ≤ x ∧ x ≤ z) ∧ M1 = M ∧ J1 = J)) := by
  refine ct_of (own := RX7) (ini := false) (ls := [some (.int x), some (.int y), some (.int z)]) 0 (by decide +kernel) rfl (fun h => by cases h) rfl (fun ad => by first | exact Nat.le_of_ble_eq_true rfl) ?_
  refine v_iload_n (pc := 0) dX7_in_0 rfl ?_
  refine v_iload_n (pc := 1) dX7_in_1 rfl ?_
  refine v_icmp_lt (pc := 2) (tgt := 14) dX7_in_2 (by decide) (fun c_2 => ?_) (fun c_2 => ?_)
  · refine v_iconst (pc := 14) (v := 0) (by decide) dX7_in_14 ?_
    refine v_zret (pc := 15) dX7_in_15 (Nat.zero_le _) (Nat.zero_le _) (by first | exact Or.inl rfl | exact Or.inr rfl | assumption) ?_
    first | exact ⟨bI_t ⟨Int32.not_lt.mp (by assumption), Int32.not_lt.mp (by assumption)⟩, rfl, rfl⟩ | exact ⟨bI_f (fun q => absurd q.1 (Int32.not_le.mpr (by assumption))), rfl, rfl⟩ | exact ⟨bI_f (fun q => absurd q.2 (Int32.not_le.mpr (by assumption))), rfl, rfl⟩
  · refine v_iload_n (pc := 5) dX7_in_5 rfl ?_
    refine v_iload_n (pc := 6) dX7_in_6 rfl ?_
    refine v_icmp_gt (pc := 7) (tgt := 14) dX7_in_7 (by decide) (fun c_7 => ?_) (fun c_7 => ?_)
    · refine v_iconst (pc := 14) (v := 0) (by decide) dX7_in_14 ?_
      refine v_zret (pc := 15) dX7_in_15 (Nat.zero_le _) (Nat.zero_le _) (by first | exact Or.inl rfl | exact Or.inr rfl | assumption) ?_
      first | exact ⟨bI_t ⟨Int32.not_lt.mp (by assumption), Int32.not_lt.mp (by assumption)⟩, rfl, rfl⟩ | exact ⟨bI_f (fun q => absurd q.1 (Int32.not_le.mpr (by assumption))), rfl, rfl⟩ | exact ⟨bI_f (fun q => absurd q.2 (Int32.not_le.mpr (by assumption))), rfl, rfl⟩
    · refine v_iconst (pc := 10) (v := 1) (by decide) dX7_in_10 ?_
      refine v_goto (pc := 11) (tgt := 15) dX7_in_11 (by decide) ?_
      refine v_zret (pc := 15) dX7_in_15 (Nat.zero_le _) (Nat.zero_le _) (by first | exact Or.inl rfl | exact Or.inr rfl | assumption) ?_
      first | exact ⟨bI_t ⟨Int32.not_lt.mp (by assumption), Int32.not_lt.mp (by assumption)⟩, rfl, rfl⟩ | exact ⟨bI_f (fun q => absurd q.1 (Int32.not_le.mpr (by assumption))), rfl, rfl⟩ | exact ⟨bI_f (fun q => absurd q.2 (Int32.not_le.mpr (by assumption))), rfl, rfl⟩

set_option maxRecDepth 100000 in
set_option maxHeartbeats 4000000 in
theorem m_has {x y : Int32} {M : mM} {J : mJ}  : Ct yX7_has cX7_has 2 (some .boolean) (rmD 0) false [.int x, .int y] LY M J (mNi LY (fun r0 M1 J1 => r0 = bI (bt x y) ∧ M1 = M ∧ J1 = J)) := by
  refine ct_of (own := RX7) (ini := false) (ls := [some (.int x), some (.int y)]) 0 (by decide +kernel) rfl (fun h => by cases h) rfl (fun ad => by first | exact Nat.le_of_ble_eq_true rfl) ?_
  refine v_iload_n (pc := 0) dX7_has_0 rfl ?_
  refine v_iload_n (pc := 1) dX7_has_1 rfl ?_
  refine v_ishr (pc := 2) dX7_has_2 ?_
  refine v_iconst (pc := 3) (v := 1) (by decide) dX7_has_3 ?_
  refine v_iand (pc := 4) dX7_has_4 ?_
  refine v_iconst (pc := 5) (v := 1) (by decide) dX7_has_5 ?_
  refine v_icmp_ne (pc := 6) (tgt := 13) dX7_has_6 (by decide) (fun c_6 => ?_) (fun c_6 => ?_)
  · refine v_iconst (pc := 13) (v := 0) (by decide) dX7_has_13 ?_
    refine v_zret (pc := 14) dX7_has_14 (Nat.zero_le _) (Nat.zero_le _) (by first | exact Or.inl rfl | exact Or.inr rfl | assumption) ?_
    first | exact ⟨bI_t (by assumption), rfl, rfl⟩ | exact ⟨bI_f (by assumption), rfl, rfl⟩
  · refine v_iconst (pc := 9) (v := 1) (by decide) dX7_has_9 ?_
    refine v_goto (pc := 10) (tgt := 14) dX7_has_10 (by decide) ?_
    refine v_zret (pc := 14) dX7_has_14 (Nat.zero_le _) (Nat.zero_le _) (by first | exact Or.inl rfl | exact Or.inr rfl | assumption) ?_
    first | exact ⟨bI_t (by assumption), rfl, rfl⟩ | exact ⟨bI_f (by assumption), rfl, rfl⟩

set_option maxRecDepth 100000 in
set_option maxHeartbeats 4000000 in
theorem l_bits {x : Int32} {M : mM} {J : mJ}  : ∀ (n i : Nat), n + i = 7 → V RX7 cX7_bits 3 (some .int) false (rmD 0) false LY.length none (mNi LY (fun r0 M1 J1 => r0 = pc7 x 7 ∧ M1 = M ∧ J1 = J)) 0 0 4 [some (.int x), some (.int (pc7 x i)), some (.int (nI i))] [] LY M J := by
  intro n
  induction n with
  | zero =>
    intro i hi
    obtain rfl : i = 7 := by omega
    refine v_iload_n (pc := 4) dX7_bits_4 rfl ?_
    refine v_bipush (pc := 5) (v := 7) (by decide) dX7_bits_5 ?_
    refine v_icmp_ge (pc := 7) (tgt := 24) dX7_bits_7 (by decide) (fun c_7 => ?_) (fun c_7 => absurd (by decide) c_7)
    refine v_iload_n (pc := 24) dX7_bits_24 rfl ?_
    refine v_iret (pc := 25) dX7_bits_25 (Nat.zero_le _) (Nat.zero_le _) ?_
    exact ⟨rfl, rfl, rfl⟩
  | succ n ih =>
    intro i hi
    have hb7 : i < 7 := by omega
    have hcl := nI_clamp (show i < 2 ^ 31 by omega)
    refine v_iload_n (pc := 4) dX7_bits_4 rfl ?_
    refine v_bipush (pc := 5) (v := 7) (by decide) dX7_bits_5 ?_
    refine v_icmp_ge (pc := 7) (tgt := 24) dX7_bits_7 (by decide) (fun c_7 => absurd c_7 (nI_ge (b := 7) hb7 (by omega))) (fun c_7 => ?_)
    refine v_iload_n (pc := 10) dX7_bits_10 rfl ?_
    refine v_iload_n (pc := 11) dX7_bits_11 rfl ?_
    refine v_iload_n (pc := 12) dX7_bits_12 rfl ?_
    refine v_ishr (pc := 13) dX7_bits_13 ?_
    refine v_iconst (pc := 14) (v := 1) (by decide) dX7_bits_14 ?_
    refine v_iand (pc := 15) dX7_bits_15 ?_
    refine v_iadd (pc := 16) dX7_bits_16 ?_
    refine v_ist_1 (pc := 17) dX7_bits_17 (by decide) rfl ?_
    refine v_inc_2 (pc := 18) (v := 1) dX7_bits_18 (by decide) (by decide) rfl ?_
    refine v_goto (pc := 21) (tgt := 4) dX7_bits_21 (by decide) ?_
    rw [nI_1]
    exact ih (i + 1) (by omega)

set_option maxRecDepth 100000 in
set_option maxHeartbeats 4000000 in
theorem m_bits {x : Int32} {M : mM} {J : mJ}  : Ct yX7_bits cX7_bits 3 (some .int) (rmD 0) false [.int x] LY M J (mNi LY (fun r0 M1 J1 => r0 = pc7 x 7 ∧ M1 = M ∧ J1 = J)) := by
  refine ct_of (own := RX7) (ini := false) (ls := [some (.int x), none, none]) 2 (by decide +kernel) rfl (fun h => by cases h) rfl (fun ad => by first | exact Nat.le_of_ble_eq_true rfl) ?_
  refine v_iconst (pc := 0) (v := 0) (by decide) dX7_bits_0 ?_
  refine v_ist_1 (pc := 1) dX7_bits_1 (by decide) rfl ?_
  refine v_iconst (pc := 2) (v := 0) (by decide) dX7_bits_2 ?_
  refine v_ist_2 (pc := 3) dX7_bits_3 (by decide) rfl ?_
  exact l_bits 7 0 rfl

set_option maxRecDepth 100000 in
set_option maxHeartbeats 4000000 in
theorem m_isThere {x : Int32} {M : mM} {J : mJ}  : Ct yX7_isThere cX7_isThere 2 (some .boolean) (rmD 1) false [.ref 49, .int x] LY M J (mNi LY (fun r0 M1 J1 => r0 = bI (0 ≤ x ∧ x ≤ 6 ∧ bt (M 49 0) x) ∧ M1 = M ∧ J1 = J)) := by
  refine ct_of (own := RX7) (ini := false) (ls := [some (.ref 49), some (.int x)]) 0 (by decide +kernel) rfl (fun h => by cases h) rfl (fun ad => by first | exact Nat.le_of_ble_eq_true rfl) ?_
  refine v_iload_n (pc := 0) dX7_isThere_0 rfl ?_
  refine v_iconst (pc := 1) (v := 0) (by decide) dX7_isThere_1 ?_
  refine v_bipush (pc := 2) (v := 6) (by decide) dX7_isThere_2 ?_
  refine v_cS3i (pc := 4) dX7_isThere_4 mkX7_49 m_in (Nat.le_of_ble_eq_true rfl) rfl (Nat.zero_le _) (Nat.zero_le _) (fun r_4 M_4 J_4 h_4 => ?_)
  obtain ⟨e1_4, e2_4, e3_4⟩ := h_4
  replace e1_4 := e1_4.symm
  replace e2_4 := e2_4.symm
  replace e3_4 := e3_4.symm
  subst e1_4 e2_4 e3_4
  refine v_if_eq (pc := 7) (tgt := 25) dX7_isThere_7 (by decide) (fun c_7 => ?_) (fun c_7 => ?_)
  · refine v_iconst (pc := 25) (v := 0) (by decide) dX7_isThere_25 ?_
    refine v_zret (pc := 26) dX7_isThere_26 (Nat.zero_le _) (Nat.zero_le _) (by first | exact Or.inl rfl | exact Or.inr rfl | assumption) ?_
    exact ⟨bI_f (fun q => bI_0.mp c_7 ⟨q.1, q.2.1⟩), rfl, rfl⟩
  · refine v_aload_n (pc := 10) dX7_isThere_10 rfl ?_
    refine v_getI (pc := 11) fkX7_53 ly49 rfl dX7_isThere_11 ?_
    refine v_iload_n (pc := 14) dX7_isThere_14 rfl ?_
    refine v_cS2i (pc := 15) dX7_isThere_15 mkX7_56 m_has (Nat.le_of_ble_eq_true rfl) rfl (Nat.zero_le _) (Nat.zero_le _) (fun r_15 M_15 J_15 h_15 => ?_)
    obtain ⟨e1_15, e2_15, e3_15⟩ := h_15
    replace e1_15 := e1_15.symm
    replace e2_15 := e2_15.symm
    replace e3_15 := e3_15.symm
    subst e1_15 e2_15 e3_15
    refine v_if_eq (pc := 18) (tgt := 25) dX7_isThere_18 (by decide) (fun c_18 => ?_) (fun c_18 => ?_)
    · refine v_iconst (pc := 25) (v := 0) (by decide) dX7_isThere_25 ?_
      refine v_zret (pc := 26) dX7_isThere_26 (Nat.zero_le _) (Nat.zero_le _) (by first | exact Or.inl rfl | exact Or.inr rfl | assumption) ?_
      exact ⟨bI_f (fun q => bI_0.mp c_18 q.2.2), rfl, rfl⟩
    · refine v_iconst (pc := 21) (v := 1) (by decide) dX7_isThere_21 ?_
      refine v_goto (pc := 22) (tgt := 26) dX7_isThere_22 (by decide) ?_
      refine v_zret (pc := 26) dX7_isThere_26 (Nat.zero_le _) (Nat.zero_le _) (by first | exact Or.inl rfl | exact Or.inr rfl | assumption) ?_
      exact ⟨bI_t ⟨(bI_n0.mp c_7).1, (bI_n0.mp c_7).2, bI_n0.mp c_18⟩, rfl, rfl⟩

set_option maxRecDepth 100000 in
set_option maxHeartbeats 4000000 in
theorem m_isBelow {x : Int32} {M : mM} {J : mJ}  : Ct yX7_isBelow cX7_isBelow 2 (some .boolean) (rmD 1) false [.ref 49, .int x] LY M J (mNi LY (fun r0 M1 J1 => r0 = bI (0 ≤ x ∧ x ≤ 6 ∧ bt (M 53 7) x) ∧ M1 = M ∧ J1 = J)) := by
  refine ct_of (own := RX7) (ini := false) (ls := [some (.ref 49), some (.int x)]) 0 (by decide +kernel) rfl (fun h => by cases h) rfl (fun ad => by first | exact Nat.le_of_ble_eq_true rfl) ?_
  refine v_iload_n (pc := 0) dX7_isBelow_0 rfl ?_
  refine v_iconst (pc := 1) (v := 0) (by decide) dX7_isBelow_1 ?_
  refine v_bipush (pc := 2) (v := 6) (by decide) dX7_isBelow_2 ?_
  refine v_cS3i (pc := 4) dX7_isBelow_4 mkX7_49 m_in (Nat.le_of_ble_eq_true rfl) rfl (Nat.zero_le _) (Nat.zero_le _) (fun r_4 M_4 J_4 h_4 => ?_)
  obtain ⟨e1_4, e2_4, e3_4⟩ := h_4
  replace e1_4 := e1_4.symm
  replace e2_4 := e2_4.symm
  replace e3_4 := e3_4.symm
  subst e1_4 e2_4 e3_4
  refine v_if_eq (pc := 7) (tgt := 28) dX7_isBelow_7 (by decide) (fun c_7 => ?_) (fun c_7 => ?_)
  · refine v_iconst (pc := 28) (v := 0) (by decide) dX7_isBelow_28 ?_
    refine v_zret (pc := 29) dX7_isBelow_29 (Nat.zero_le _) (Nat.zero_le _) (by first | exact Or.inl rfl | exact Or.inr rfl | assumption) ?_
    exact ⟨bI_f (fun q => bI_0.mp c_7 ⟨q.1, q.2.1⟩), rfl, rfl⟩
  · refine v_aload_n (pc := 10) dX7_isBelow_10 rfl ?_
    refine v_getR (pc := 11) fkX7_23 ly49 rfl dX7_isBelow_11 ?_
    refine v_bipush (pc := 14) (v := 7) (by decide) dX7_isBelow_14 ?_
    refine v_iald (pc := 16) ly53 ?_ dX7_isBelow_16 ?_
    · unfold vp_in; decide
    rw [show Int32.toNatClampNeg 7 = 7 from rfl]
    refine v_iload_n (pc := 17) dX7_isBelow_17 rfl ?_
    refine v_cS2i (pc := 18) dX7_isBelow_18 mkX7_56 m_has (Nat.le_of_ble_eq_true rfl) rfl (Nat.zero_le _) (Nat.zero_le _) (fun r_18 M_18 J_18 h_18 => ?_)
    obtain ⟨e1_18, e2_18, e3_18⟩ := h_18
    replace e1_18 := e1_18.symm
    replace e2_18 := e2_18.symm
    replace e3_18 := e3_18.symm
    subst e1_18 e2_18 e3_18
    refine v_if_eq (pc := 21) (tgt := 28) dX7_isBelow_21 (by decide) (fun c_21 => ?_) (fun c_21 => ?_)
    · refine v_iconst (pc := 28) (v := 0) (by decide) dX7_isBelow_28 ?_
      refine v_zret (pc := 29) dX7_isBelow_29 (Nat.zero_le _) (Nat.zero_le _) (by first | exact Or.inl rfl | exact Or.inr rfl | assumption) ?_
      exact ⟨bI_f (fun q => bI_0.mp c_21 q.2.2), rfl, rfl⟩
    · refine v_iconst (pc := 24) (v := 1) (by decide) dX7_isBelow_24 ?_
      refine v_goto (pc := 25) (tgt := 29) dX7_isBelow_25 (by decide) ?_
      refine v_zret (pc := 29) dX7_isBelow_29 (Nat.zero_le _) (Nat.zero_le _) (by first | exact Or.inl rfl | exact Or.inr rfl | assumption) ?_
      exact ⟨bI_t ⟨(bI_n0.mp c_7).1, (bI_n0.mp c_7).2, bI_n0.mp c_21⟩, rfl, rfl⟩

abbrev hT (M : mM) (x : Int32) : Prop := 0 ≤ x ∧ x ≤ 6 ∧ bt (M 49 0) x
abbrev hB (M : mM) (x : Int32) : Prop := 0 ≤ x ∧ x ≤ 6 ∧ bt (M 53 7) x
def nSeat (M : mM) (x y z : Int32) : mM := mU (mU (mU (mU M 49 0 (M 49 0 ||| bv x)) 53 7 (M 53 7 ||| bv x)) 50 x.toNatClampNeg y) 53 x.toNatClampNeg z
theorem gM_nat {x : Int32} (h : gM x) : ∃ k, k < 7 ∧ x = nI k := by
  obtain ⟨k, hk, rfl⟩ := rngN (a := 0) (n := 6) rfl rfl (by omega) h.1 h.2
  exact ⟨0 + k, by omega, rfl⟩
theorem nSeat_7 {M : mM} {x y z : Int32} (h : gM x) : nSeat M x y z 53 7 = M 53 7 ||| bv x := by
  obtain ⟨k, hk, rfl⟩ := gM_nat h
  unfold nSeat
  rw [nI_clamp (by omega)]
  have h7 : ¬ 7 = k := by omega
  simp [mU, h7]
def nUns (M : mM) (x : Int32) : mM := mU (mU M 49 0 (M 49 0 &&& nbit x)) 53 7 (M 53 7 &&& nbit x)

set_option maxRecDepth 100000 in
set_option maxHeartbeats 4000000 in
theorem m_dive {x y z : Int32} {M : mM} {J : mJ}  : Ct yX7_dive cX7_dive 4 (some .int) (rmD 1) false [.ref 49, .int x, .int y, .int z] LY M J (mNi LY (fun r0 M1 J1 => r0 = (if gM x then (if (0 ≤ y ∧ y ≤ 9) ∧ (0 ≤ z ∧ z ≤ 99) then pc7 (M 53 7 ||| bv x) 7 else -2) else -1) ∧ M1 = (if gM x then (if (0 ≤ y ∧ y ≤ 9) ∧ (0 ≤ z ∧ z ≤ 99) then nSeat M x y z else M) else M) ∧ J1 = J)) := by
  refine ct_of (own := RX7) (ini := false) (ls := [some (.ref 49), some (.int x), some (.int y), some (.int z)]) 0 (by decide +kernel) rfl (fun h => by cases h) rfl (fun ad => by first | exact Nat.le_of_ble_eq_true rfl) ?_
  refine v_iload_n (pc := 0) dX7_dive_0 rfl ?_
  refine v_iconst (pc := 1) (v := 0) (by decide) dX7_dive_1 ?_
  refine v_bipush (pc := 2) (v := 6) (by decide) dX7_dive_2 ?_
  refine v_cS3i (pc := 4) dX7_dive_4 mkX7_49 m_in (Nat.le_of_ble_eq_true rfl) rfl (Nat.zero_le _) (Nat.zero_le _) (fun r_4 M_4 J_4 h_4 => ?_)
  obtain ⟨e1_4, e2_4, e3_4⟩ := h_4
  replace e1_4 := e1_4.symm
  replace e2_4 := e2_4.symm
  replace e3_4 := e3_4.symm
  subst e1_4 e2_4 e3_4
  refine v_if_ne (pc := 7) (tgt := 12) dX7_dive_7 (by decide) (fun c_7 => ?_) (fun c_7 => ?_)
  · refine v_iload_n (pc := 12) dX7_dive_12 rfl ?_
    refine v_iconst (pc := 13) (v := 0) (by decide) dX7_dive_13 ?_
    refine v_bipush (pc := 14) (v := 9) (by decide) dX7_dive_14 ?_
    refine v_cS3i (pc := 16) dX7_dive_16 mkX7_49 m_in (Nat.le_of_ble_eq_true rfl) rfl (Nat.zero_le _) (Nat.zero_le _) (fun r_16 M_16 J_16 h_16 => ?_)
    obtain ⟨e1_16, e2_16, e3_16⟩ := h_16
    replace e1_16 := e1_16.symm
    replace e2_16 := e2_16.symm
    replace e3_16 := e3_16.symm
    subst e1_16 e2_16 e3_16
    refine v_if_eq (pc := 19) (tgt := 32) dX7_dive_19 (by decide) (fun c_19 => ?_) (fun c_19 => ?_)
    · refine v_bipush (pc := 32) (v := (-2)) (by decide) dX7_dive_32 ?_
      refine v_iret (pc := 34) dX7_dive_34 (Nat.zero_le _) (Nat.zero_le _) ?_
      exact ⟨by rw [if_pos (bI_n0.mp c_7), if_neg (fun q => bI_0.mp c_19 q.1)]; try rfl, by rw [if_pos (bI_n0.mp c_7), if_neg (fun q => bI_0.mp c_19 q.1)]; try rfl, rfl⟩
    · refine v_iload_n (pc := 22) dX7_dive_22 rfl ?_
      refine v_iconst (pc := 23) (v := 0) (by decide) dX7_dive_23 ?_
      refine v_bipush (pc := 24) (v := 99) (by decide) dX7_dive_24 ?_
      refine v_cS3i (pc := 26) dX7_dive_26 mkX7_49 m_in (Nat.le_of_ble_eq_true rfl) rfl (Nat.zero_le _) (Nat.zero_le _) (fun r_26 M_26 J_26 h_26 => ?_)
      obtain ⟨e1_26, e2_26, e3_26⟩ := h_26
      replace e1_26 := e1_26.symm
      replace e2_26 := e2_26.symm
      replace e3_26 := e3_26.symm
      subst e1_26 e2_26 e3_26
      refine v_if_ne (pc := 29) (tgt := 35) dX7_dive_29 (by decide) (fun c_29 => ?_) (fun c_29 => ?_)
      · refine v_aload_n (pc := 35) dX7_dive_35 rfl ?_
        refine v_dupR (pc := 36) dX7_dive_36 ?_
        refine v_getI (pc := 37) fkX7_53 ly49 rfl dX7_dive_37 ?_
        refine v_iconst (pc := 40) (v := 1) (by decide) dX7_dive_40 ?_
        refine v_iload_n (pc := 41) dX7_dive_41 rfl ?_
        refine v_ishl (pc := 42) dX7_dive_42 ?_
        refine v_ior (pc := 43) dX7_dive_43 ?_
        refine v_putI (pc := 44) fkX7_53p ly49 rfl dX7_dive_44 ?_
        refine v_aload_n (pc := 47) dX7_dive_47 rfl ?_
        refine v_getR (pc := 48) fkX7_23 ly49 rfl dX7_dive_48 ?_
        refine v_bipush (pc := 51) (v := 7) (by decide) dX7_dive_51 ?_
        refine v_dup2IR (pc := 53) dX7_dive_53 ?_
        refine v_iald (pc := 54) ly53 ?_ dX7_dive_54 ?_
        · unfold vp_in; decide
        rw [show Int32.toNatClampNeg 7 = 7 from rfl]
        refine v_iconst (pc := 55) (v := 1) (by decide) dX7_dive_55 ?_
        refine v_iload_n (pc := 56) dX7_dive_56 rfl ?_
        refine v_ishl (pc := 57) dX7_dive_57 ?_
        refine v_ior (pc := 58) dX7_dive_58 ?_
        refine v_iast (pc := 59) ly53 ?_ dX7_dive_59 ?_
        · unfold vp_in; decide
        rw [show Int32.toNatClampNeg 7 = 7 from rfl]
        refine v_aload_n (pc := 60) dX7_dive_60 rfl ?_
        refine v_getR (pc := 61) fkX7_7 ly49 rfl dX7_dive_61 ?_
        refine v_iload_n (pc := 64) dX7_dive_64 rfl ?_
        refine v_iload_n (pc := 65) dX7_dive_65 rfl ?_
        refine v_iast (pc := 66) ly50 ?_ dX7_dive_66 ?_
        · exact vinP (by decide) (bI_n0.mp c_7).1 (bI_n0.mp c_7).2
        refine v_aload_n (pc := 67) dX7_dive_67 rfl ?_
        refine v_getR (pc := 68) fkX7_23 ly49 rfl dX7_dive_68 ?_
        refine v_iload_n (pc := 71) dX7_dive_71 rfl ?_
        refine v_iload_n (pc := 72) dX7_dive_72 rfl ?_
        refine v_iast (pc := 73) ly53 ?_ dX7_dive_73 ?_
        · exact vp_in_iff.mpr (by obtain ⟨k, hk, rfl⟩ := gM_nat (bI_n0.mp c_7); rw [nI_toInt (by omega)]; omega)
        refine v_aload_n (pc := 74) dX7_dive_74 rfl ?_
        refine v_getR (pc := 75) fkX7_23 ly49 rfl dX7_dive_75 ?_
        refine v_bipush (pc := 78) (v := 7) (by decide) dX7_dive_78 ?_
        refine v_iald (pc := 80) ly53 ?_ dX7_dive_80 ?_
        · unfold vp_in; decide
        rw [show Int32.toNatClampNeg 7 = 7 from rfl]
        refine v_cS1i (pc := 81) dX7_dive_81 mkX7_60 m_bits (Nat.le_of_ble_eq_true rfl) rfl (Nat.zero_le _) (Nat.zero_le _) (fun r_81 M_81 J_81 h_81 => ?_)
        obtain ⟨e1_81, e2_81, e3_81⟩ := h_81
        replace e1_81 := e1_81.symm
        replace e2_81 := e2_81.symm
        replace e3_81 := e3_81.symm
        subst e1_81 e2_81 e3_81
        refine v_iret (pc := 84) dX7_dive_84 (Nat.zero_le _) (Nat.zero_le _) ?_
        have e7 := nSeat_7 (M := M) (y := y) (z := z) (bI_n0.mp c_7)
        exact ⟨by rw [if_pos (bI_n0.mp c_7), if_pos ⟨bI_n0.mp c_19, bI_n0.mp c_29⟩, ← e7]; rfl, by rw [if_pos (bI_n0.mp c_7), if_pos ⟨bI_n0.mp c_19, bI_n0.mp c_29⟩]; rfl, rfl⟩
      · refine v_bipush (pc := 32) (v := (-2)) (by decide) dX7_dive_32 ?_
        refine v_iret (pc := 34) dX7_dive_34 (Nat.zero_le _) (Nat.zero_le _) ?_
        exact ⟨by rw [if_pos (bI_n0.mp c_7), if_neg (fun q => bI_0.mp c_29 q.2)]; try rfl, by rw [if_pos (bI_n0.mp c_7), if_neg (fun q => bI_0.mp c_29 q.2)]; try rfl, rfl⟩
  · refine v_iconst (pc := 10) (v := (-1)) (by decide) dX7_dive_10 ?_
    refine v_iret (pc := 11) dX7_dive_11 (Nat.zero_le _) (Nat.zero_le _) ?_
    exact ⟨by rw [if_neg (bI_0.mp c_7)]; try rfl, by rw [if_neg (bI_0.mp c_7)]; try rfl, rfl⟩

set_option maxRecDepth 100000 in
set_option maxHeartbeats 4000000 in
theorem m_leave {x : Int32} {M : mM} {J : mJ}  : Ct yX7_leave cX7_leave 2 (some .int) (rmD 2) false [.ref 49, .int x] LY M J (mNi LY (fun r0 M1 J1 => r0 = (if hT M x then pc7 (M 49 0 &&& nbit x) 7 else -1) ∧ M1 = (if hT M x then nUns M x else M) ∧ J1 = J)) := by
  refine ct_of (own := RX7) (ini := false) (ls := [some (.ref 49), some (.int x)]) 0 (by decide +kernel) rfl (fun h => by cases h) rfl (fun ad => by first | exact Nat.le_of_ble_eq_true rfl) ?_
  refine v_aload_n (pc := 0) dX7_leave_0 rfl ?_
  refine v_iload_n (pc := 1) dX7_leave_1 rfl ?_
  refine v_cV1i (pc := 2) dX7_leave_2 mkX7_64 m_isThere ly49 rfl (Nat.le_of_ble_eq_true rfl) rfl (Nat.zero_le _) (Nat.zero_le _) (fun r_2 M_2 J_2 h_2 => ?_)
  obtain ⟨e1_2, e2_2, e3_2⟩ := h_2
  replace e1_2 := e1_2.symm
  replace e2_2 := e2_2.symm
  replace e3_2 := e3_2.symm
  subst e1_2 e2_2 e3_2
  refine v_if_ne (pc := 5) (tgt := 10) dX7_leave_5 (by decide) (fun c_5 => ?_) (fun c_5 => ?_)
  · refine v_aload_n (pc := 10) dX7_leave_10 rfl ?_
    refine v_dupR (pc := 11) dX7_leave_11 ?_
    refine v_getI (pc := 12) fkX7_53 ly49 rfl dX7_leave_12 ?_
    refine v_iconst (pc := 15) (v := 1) (by decide) dX7_leave_15 ?_
    refine v_iload_n (pc := 16) dX7_leave_16 rfl ?_
    refine v_ishl (pc := 17) dX7_leave_17 ?_
    refine v_iconst (pc := 18) (v := (-1)) (by decide) dX7_leave_18 ?_
    refine v_ixor (pc := 19) dX7_leave_19 ?_
    refine v_iand (pc := 20) dX7_leave_20 ?_
    refine v_putI (pc := 21) fkX7_53p ly49 rfl dX7_leave_21 ?_
    refine v_aload_n (pc := 24) dX7_leave_24 rfl ?_
    refine v_getR (pc := 25) fkX7_23 ly49 rfl dX7_leave_25 ?_
    refine v_bipush (pc := 28) (v := 7) (by decide) dX7_leave_28 ?_
    refine v_dup2IR (pc := 30) dX7_leave_30 ?_
    refine v_iald (pc := 31) ly53 ?_ dX7_leave_31 ?_
    · unfold vp_in; decide
    rw [show Int32.toNatClampNeg 7 = 7 from rfl]
    refine v_iconst (pc := 32) (v := 1) (by decide) dX7_leave_32 ?_
    refine v_iload_n (pc := 33) dX7_leave_33 rfl ?_
    refine v_ishl (pc := 34) dX7_leave_34 ?_
    refine v_iconst (pc := 35) (v := (-1)) (by decide) dX7_leave_35 ?_
    refine v_ixor (pc := 36) dX7_leave_36 ?_
    refine v_iand (pc := 37) dX7_leave_37 ?_
    refine v_iast (pc := 38) ly53 ?_ dX7_leave_38 ?_
    · unfold vp_in; decide
    rw [show Int32.toNatClampNeg 7 = 7 from rfl]
    refine v_aload_n (pc := 39) dX7_leave_39 rfl ?_
    refine v_getI (pc := 40) fkX7_53 ly49 rfl dX7_leave_40 ?_
    refine v_cS1i (pc := 43) dX7_leave_43 mkX7_60 m_bits (Nat.le_of_ble_eq_true rfl) rfl (Nat.zero_le _) (Nat.zero_le _) (fun r_43 M_43 J_43 h_43 => ?_)
    obtain ⟨e1_43, e2_43, e3_43⟩ := h_43
    replace e1_43 := e1_43.symm
    replace e2_43 := e2_43.symm
    replace e3_43 := e3_43.symm
    subst e1_43 e2_43 e3_43
    refine v_iret (pc := 46) dX7_leave_46 (Nat.zero_le _) (Nat.zero_le _) ?_
    exact ⟨by rw [if_pos (bI_n0.mp c_5)]; rfl, by rw [if_pos (bI_n0.mp c_5)]; rfl, rfl⟩
  · refine v_iconst (pc := 8) (v := (-1)) (by decide) dX7_leave_8 ?_
    refine v_iret (pc := 9) dX7_leave_9 (Nat.zero_le _) (Nat.zero_le _) ?_
    exact ⟨by rw [if_neg (bI_0.mp c_5)]; try rfl, by rw [if_neg (bI_0.mp c_5)]; try rfl, rfl⟩

set_option maxRecDepth 100000 in
set_option maxHeartbeats 4000000 in
theorem m_set {x y : Int32} {M : mM} {J : mJ}  : Ct yX7_set cX7_set 5 (some .int) (rmD 1) false [.ref 49, .int x, .int y] LY M J (mNi LY (fun r0 M1 J1 => r0 = (if x = 0 ∧ (1 ≤ y ∧ y ≤ 40) then M 49 2 else if x = 1 ∧ (0 ≤ y ∧ y ≤ 9) then M 53 9 else -2) ∧ M1 = (if x = 0 ∧ (1 ≤ y ∧ y ≤ 40) then mU (mU M 49 2 y) 53 9 (M 53 9) else if x = 1 ∧ (0 ≤ y ∧ y ≤ 9) then mU (mU M 49 2 (M 49 2)) 53 9 y else M) ∧ J1 = J)) := by
  refine ct_of (own := RX7) (ini := false) (ls := [some (.ref 49), some (.int x), some (.int y), none, none]) 2 (by decide +kernel) rfl (fun h => by cases h) rfl (fun ad => by first | exact Nat.le_of_ble_eq_true rfl) ?_
  refine v_iload_n (pc := 0) dX7_set_0 rfl ?_
  refine v_if_ne (pc := 1) (tgt := 14) dX7_set_1 (by decide) (fun c_1 => ?_) (fun c_1 => ?_)
  · refine v_iload_n (pc := 14) dX7_set_14 rfl ?_
    refine v_iconst (pc := 15) (v := 1) (by decide) dX7_set_15 ?_
    refine v_icmp_ne (pc := 16) (tgt := 33) dX7_set_16 (by decide) (fun c_16 => ?_) (fun c_16 => ?_)
    · refine v_iconst (pc := 33) (v := 0) (by decide) dX7_set_33 ?_
      refine v_ist_3 (pc := 34) dX7_set_34 (by decide) rfl ?_
      refine v_iload_n (pc := 35) dX7_set_35 rfl ?_
      refine v_if_ne (pc := 36) (tgt := 42) dX7_set_36 (by decide) (fun c_36 => ?_) (fun c_36 => ?_)
      · refine v_iload_n (pc := 42) dX7_set_42 rfl ?_
        refine v_if_ne (pc := 43) (tgt := 53) dX7_set_43 (by decide) (fun c_43 => ?_) (fun c_43 => ?_)
        · refine v_aload_n (pc := 53) dX7_set_53 rfl ?_
          refine v_getR (pc := 54) fkX7_23 ly49 rfl dX7_set_54 ?_
          refine v_bipush (pc := 57) (v := 9) (by decide) dX7_set_57 ?_
          refine v_iald (pc := 59) ly53 ?_ dX7_set_59 ?_
          · unfold vp_in; decide
          rw [show Int32.toNatClampNeg 9 = 9 from rfl]
          refine v_ist_4 (pc := 60) dX7_set_60 (by decide) rfl ?_
          refine v_aload_n (pc := 62) dX7_set_62 rfl ?_
          refine v_iload_n (pc := 63) dX7_set_63 rfl ?_
          refine v_if_ne (pc := 64) (tgt := 71) dX7_set_64 (by decide) (fun c_64 => ?_) (fun c_64 => ?_)
          · refine v_aload_n (pc := 71) dX7_set_71 rfl ?_
            refine v_getI (pc := 72) fkX7_13 ly49 rfl dX7_set_72 ?_
            refine v_putI (pc := 75) fkX7_13p ly49 rfl dX7_set_75 ?_
            refine v_aload_n (pc := 78) dX7_set_78 rfl ?_
            refine v_getR (pc := 79) fkX7_23 ly49 rfl dX7_set_79 ?_
            refine v_bipush (pc := 82) (v := 9) (by decide) dX7_set_82 ?_
            refine v_iload_n (pc := 84) dX7_set_84 rfl ?_
            refine v_iconst (pc := 85) (v := 1) (by decide) dX7_set_85 ?_
            refine v_icmp_ne (pc := 86) (tgt := 93) dX7_set_86 (by decide) (fun c_86 => ?_) (fun c_86 => ?_)
            · refine v_aload_n (pc := 93) dX7_set_93 rfl ?_
              refine v_getR (pc := 94) fkX7_23 ly49 rfl dX7_set_94 ?_
              refine v_bipush (pc := 97) (v := 9) (by decide) dX7_set_97 ?_
              refine v_iald (pc := 99) ly53 ?_ dX7_set_99 ?_
              · unfold vp_in; decide
              rw [show Int32.toNatClampNeg 9 = 9 from rfl]
              refine v_iast (pc := 100) ly53 ?_ dX7_set_100 ?_
              · unfold vp_in; decide
              rw [show Int32.toNatClampNeg 9 = 9 from rfl]
              refine v_iload (pc := 101) dX7_set_101 rfl ?_
              refine v_iret (pc := 103) dX7_set_103 (Nat.zero_le _) (Nat.zero_le _) ?_
              exact absurd rfl c_36
            · refine v_iload_n (pc := 89) dX7_set_89 rfl ?_
              refine v_goto (pc := 90) (tgt := 100) dX7_set_90 (by decide) ?_
              refine v_iast (pc := 100) ly53 ?_ dX7_set_100 ?_
              · unfold vp_in; decide
              rw [show Int32.toNatClampNeg 9 = 9 from rfl]
              refine v_iload (pc := 101) dX7_set_101 rfl ?_
              refine v_iret (pc := 103) dX7_set_103 (Nat.zero_le _) (Nat.zero_le _) ?_
              exact absurd rfl c_36
          · refine v_iload_n (pc := 67) dX7_set_67 rfl ?_
            refine v_goto (pc := 68) (tgt := 75) dX7_set_68 (by decide) ?_
            refine v_putI (pc := 75) fkX7_13p ly49 rfl dX7_set_75 ?_
            refine v_aload_n (pc := 78) dX7_set_78 rfl ?_
            refine v_getR (pc := 79) fkX7_23 ly49 rfl dX7_set_79 ?_
            refine v_bipush (pc := 82) (v := 9) (by decide) dX7_set_82 ?_
            refine v_iload_n (pc := 84) dX7_set_84 rfl ?_
            refine v_iconst (pc := 85) (v := 1) (by decide) dX7_set_85 ?_
            refine v_icmp_ne (pc := 86) (tgt := 93) dX7_set_86 (by decide) (fun c_86 => ?_) (fun c_86 => ?_)
            · refine v_aload_n (pc := 93) dX7_set_93 rfl ?_
              refine v_getR (pc := 94) fkX7_23 ly49 rfl dX7_set_94 ?_
              refine v_bipush (pc := 97) (v := 9) (by decide) dX7_set_97 ?_
              refine v_iald (pc := 99) ly53 ?_ dX7_set_99 ?_
              · unfold vp_in; decide
              rw [show Int32.toNatClampNeg 9 = 9 from rfl]
              refine v_iast (pc := 100) ly53 ?_ dX7_set_100 ?_
              · unfold vp_in; decide
              rw [show Int32.toNatClampNeg 9 = 9 from rfl]
              refine v_iload (pc := 101) dX7_set_101 rfl ?_
              refine v_iret (pc := 103) dX7_set_103 (Nat.zero_le _) (Nat.zero_le _) ?_
              exact absurd rfl c_36
            · refine v_iload_n (pc := 89) dX7_set_89 rfl ?_
              refine v_goto (pc := 90) (tgt := 100) dX7_set_90 (by decide) ?_
              refine v_iast (pc := 100) ly53 ?_ dX7_set_100 ?_
              · unfold vp_in; decide
              rw [show Int32.toNatClampNeg 9 = 9 from rfl]
              refine v_iload (pc := 101) dX7_set_101 rfl ?_
              refine v_iret (pc := 103) dX7_set_103 (Nat.zero_le _) (Nat.zero_le _) ?_
              exact absurd rfl c_36
        · refine v_aload_n (pc := 46) dX7_set_46 rfl ?_
          refine v_getI (pc := 47) fkX7_13 ly49 rfl dX7_set_47 ?_
          refine v_goto (pc := 50) (tgt := 60) dX7_set_50 (by decide) ?_
          refine v_ist_4 (pc := 60) dX7_set_60 (by decide) rfl ?_
          refine v_aload_n (pc := 62) dX7_set_62 rfl ?_
          refine v_iload_n (pc := 63) dX7_set_63 rfl ?_
          refine v_if_ne (pc := 64) (tgt := 71) dX7_set_64 (by decide) (fun c_64 => ?_) (fun c_64 => ?_)
          · refine v_aload_n (pc := 71) dX7_set_71 rfl ?_
            refine v_getI (pc := 72) fkX7_13 ly49 rfl dX7_set_72 ?_
            refine v_putI (pc := 75) fkX7_13p ly49 rfl dX7_set_75 ?_
            refine v_aload_n (pc := 78) dX7_set_78 rfl ?_
            refine v_getR (pc := 79) fkX7_23 ly49 rfl dX7_set_79 ?_
            refine v_bipush (pc := 82) (v := 9) (by decide) dX7_set_82 ?_
            refine v_iload_n (pc := 84) dX7_set_84 rfl ?_
            refine v_iconst (pc := 85) (v := 1) (by decide) dX7_set_85 ?_
            refine v_icmp_ne (pc := 86) (tgt := 93) dX7_set_86 (by decide) (fun c_86 => ?_) (fun c_86 => ?_)
            · refine v_aload_n (pc := 93) dX7_set_93 rfl ?_
              refine v_getR (pc := 94) fkX7_23 ly49 rfl dX7_set_94 ?_
              refine v_bipush (pc := 97) (v := 9) (by decide) dX7_set_97 ?_
              refine v_iald (pc := 99) ly53 ?_ dX7_set_99 ?_
              · unfold vp_in; decide
              rw [show Int32.toNatClampNeg 9 = 9 from rfl]
              refine v_iast (pc := 100) ly53 ?_ dX7_set_100 ?_
              · unfold vp_in; decide
              rw [show Int32.toNatClampNeg 9 = 9 from rfl]
              refine v_iload (pc := 101) dX7_set_101 rfl ?_
              refine v_iret (pc := 103) dX7_set_103 (Nat.zero_le _) (Nat.zero_le _) ?_
              exact absurd rfl c_36
            · refine v_iload_n (pc := 89) dX7_set_89 rfl ?_
              refine v_goto (pc := 90) (tgt := 100) dX7_set_90 (by decide) ?_
              refine v_iast (pc := 100) ly53 ?_ dX7_set_100 ?_
              · unfold vp_in; decide
              rw [show Int32.toNatClampNeg 9 = 9 from rfl]
              refine v_iload (pc := 101) dX7_set_101 rfl ?_
              refine v_iret (pc := 103) dX7_set_103 (Nat.zero_le _) (Nat.zero_le _) ?_
              exact absurd rfl c_36
          · refine v_iload_n (pc := 67) dX7_set_67 rfl ?_
            refine v_goto (pc := 68) (tgt := 75) dX7_set_68 (by decide) ?_
            refine v_putI (pc := 75) fkX7_13p ly49 rfl dX7_set_75 ?_
            refine v_aload_n (pc := 78) dX7_set_78 rfl ?_
            refine v_getR (pc := 79) fkX7_23 ly49 rfl dX7_set_79 ?_
            refine v_bipush (pc := 82) (v := 9) (by decide) dX7_set_82 ?_
            refine v_iload_n (pc := 84) dX7_set_84 rfl ?_
            refine v_iconst (pc := 85) (v := 1) (by decide) dX7_set_85 ?_
            refine v_icmp_ne (pc := 86) (tgt := 93) dX7_set_86 (by decide) (fun c_86 => ?_) (fun c_86 => ?_)
            · refine v_aload_n (pc := 93) dX7_set_93 rfl ?_
              refine v_getR (pc := 94) fkX7_23 ly49 rfl dX7_set_94 ?_
              refine v_bipush (pc := 97) (v := 9) (by decide) dX7_set_97 ?_
              refine v_iald (pc := 99) ly53 ?_ dX7_set_99 ?_
              · unfold vp_in; decide
              rw [show Int32.toNatClampNeg 9 = 9 from rfl]
              refine v_iast (pc := 100) ly53 ?_ dX7_set_100 ?_
              · unfold vp_in; decide
              rw [show Int32.toNatClampNeg 9 = 9 from rfl]
              refine v_iload (pc := 101) dX7_set_101 rfl ?_
              refine v_iret (pc := 103) dX7_set_103 (Nat.zero_le _) (Nat.zero_le _) ?_
              exact absurd rfl c_36
            · refine v_iload_n (pc := 89) dX7_set_89 rfl ?_
              refine v_goto (pc := 90) (tgt := 100) dX7_set_90 (by decide) ?_
              refine v_iast (pc := 100) ly53 ?_ dX7_set_100 ?_
              · unfold vp_in; decide
              rw [show Int32.toNatClampNeg 9 = 9 from rfl]
              refine v_iload (pc := 101) dX7_set_101 rfl ?_
              refine v_iret (pc := 103) dX7_set_103 (Nat.zero_le _) (Nat.zero_le _) ?_
              exact absurd rfl c_36
      · refine v_bipush (pc := 39) (v := (-2)) (by decide) dX7_set_39 ?_
        refine v_iret (pc := 41) dX7_set_41 (Nat.zero_le _) (Nat.zero_le _) ?_
        exact ⟨by rw [if_neg (fun q => c_1 q.1), if_neg (fun q => c_16 q.1)], by rw [if_neg (fun q => c_1 q.1), if_neg (fun q => c_16 q.1)], rfl⟩
    · refine v_iload_n (pc := 19) dX7_set_19 rfl ?_
      refine v_iconst (pc := 20) (v := 0) (by decide) dX7_set_20 ?_
      refine v_bipush (pc := 21) (v := 9) (by decide) dX7_set_21 ?_
      refine v_cS3i (pc := 23) dX7_set_23 mkX7_49 m_in (Nat.le_of_ble_eq_true rfl) rfl (Nat.zero_le _) (Nat.zero_le _) (fun r_23 M_23 J_23 h_23 => ?_)
      obtain ⟨e1_23, e2_23, e3_23⟩ := h_23
      replace e1_23 := e1_23.symm
      replace e2_23 := e2_23.symm
      replace e3_23 := e3_23.symm
      subst e1_23 e2_23 e3_23
      refine v_if_eq (pc := 26) (tgt := 33) dX7_set_26 (by decide) (fun c_26 => ?_) (fun c_26 => ?_)
      · refine v_iconst (pc := 33) (v := 0) (by decide) dX7_set_33 ?_
        refine v_ist_3 (pc := 34) dX7_set_34 (by decide) rfl ?_
        refine v_iload_n (pc := 35) dX7_set_35 rfl ?_
        refine v_if_ne (pc := 36) (tgt := 42) dX7_set_36 (by decide) (fun c_36 => ?_) (fun c_36 => ?_)
        · refine v_iload_n (pc := 42) dX7_set_42 rfl ?_
          refine v_if_ne (pc := 43) (tgt := 53) dX7_set_43 (by decide) (fun c_43 => ?_) (fun c_43 => ?_)
          · refine v_aload_n (pc := 53) dX7_set_53 rfl ?_
            refine v_getR (pc := 54) fkX7_23 ly49 rfl dX7_set_54 ?_
            refine v_bipush (pc := 57) (v := 9) (by decide) dX7_set_57 ?_
            refine v_iald (pc := 59) ly53 ?_ dX7_set_59 ?_
            · unfold vp_in; decide
            rw [show Int32.toNatClampNeg 9 = 9 from rfl]
            refine v_ist_4 (pc := 60) dX7_set_60 (by decide) rfl ?_
            refine v_aload_n (pc := 62) dX7_set_62 rfl ?_
            refine v_iload_n (pc := 63) dX7_set_63 rfl ?_
            refine v_if_ne (pc := 64) (tgt := 71) dX7_set_64 (by decide) (fun c_64 => ?_) (fun c_64 => ?_)
            · refine v_aload_n (pc := 71) dX7_set_71 rfl ?_
              refine v_getI (pc := 72) fkX7_13 ly49 rfl dX7_set_72 ?_
              refine v_putI (pc := 75) fkX7_13p ly49 rfl dX7_set_75 ?_
              refine v_aload_n (pc := 78) dX7_set_78 rfl ?_
              refine v_getR (pc := 79) fkX7_23 ly49 rfl dX7_set_79 ?_
              refine v_bipush (pc := 82) (v := 9) (by decide) dX7_set_82 ?_
              refine v_iload_n (pc := 84) dX7_set_84 rfl ?_
              refine v_iconst (pc := 85) (v := 1) (by decide) dX7_set_85 ?_
              refine v_icmp_ne (pc := 86) (tgt := 93) dX7_set_86 (by decide) (fun c_86 => ?_) (fun c_86 => ?_)
              · refine v_aload_n (pc := 93) dX7_set_93 rfl ?_
                refine v_getR (pc := 94) fkX7_23 ly49 rfl dX7_set_94 ?_
                refine v_bipush (pc := 97) (v := 9) (by decide) dX7_set_97 ?_
                refine v_iald (pc := 99) ly53 ?_ dX7_set_99 ?_
                · unfold vp_in; decide
                rw [show Int32.toNatClampNeg 9 = 9 from rfl]
                refine v_iast (pc := 100) ly53 ?_ dX7_set_100 ?_
                · unfold vp_in; decide
                rw [show Int32.toNatClampNeg 9 = 9 from rfl]
                refine v_iload (pc := 101) dX7_set_101 rfl ?_
                refine v_iret (pc := 103) dX7_set_103 (Nat.zero_le _) (Nat.zero_le _) ?_
                exact absurd rfl c_36
              · refine v_iload_n (pc := 89) dX7_set_89 rfl ?_
                refine v_goto (pc := 90) (tgt := 100) dX7_set_90 (by decide) ?_
                refine v_iast (pc := 100) ly53 ?_ dX7_set_100 ?_
                · unfold vp_in; decide
                rw [show Int32.toNatClampNeg 9 = 9 from rfl]
                refine v_iload (pc := 101) dX7_set_101 rfl ?_
                refine v_iret (pc := 103) dX7_set_103 (Nat.zero_le _) (Nat.zero_le _) ?_
                exact absurd rfl c_36
            · refine v_iload_n (pc := 67) dX7_set_67 rfl ?_
              refine v_goto (pc := 68) (tgt := 75) dX7_set_68 (by decide) ?_
              refine v_putI (pc := 75) fkX7_13p ly49 rfl dX7_set_75 ?_
              refine v_aload_n (pc := 78) dX7_set_78 rfl ?_
              refine v_getR (pc := 79) fkX7_23 ly49 rfl dX7_set_79 ?_
              refine v_bipush (pc := 82) (v := 9) (by decide) dX7_set_82 ?_
              refine v_iload_n (pc := 84) dX7_set_84 rfl ?_
              refine v_iconst (pc := 85) (v := 1) (by decide) dX7_set_85 ?_
              refine v_icmp_ne (pc := 86) (tgt := 93) dX7_set_86 (by decide) (fun c_86 => ?_) (fun c_86 => ?_)
              · refine v_aload_n (pc := 93) dX7_set_93 rfl ?_
                refine v_getR (pc := 94) fkX7_23 ly49 rfl dX7_set_94 ?_
                refine v_bipush (pc := 97) (v := 9) (by decide) dX7_set_97 ?_
                refine v_iald (pc := 99) ly53 ?_ dX7_set_99 ?_
                · unfold vp_in; decide
                rw [show Int32.toNatClampNeg 9 = 9 from rfl]
                refine v_iast (pc := 100) ly53 ?_ dX7_set_100 ?_
                · unfold vp_in; decide
                rw [show Int32.toNatClampNeg 9 = 9 from rfl]
                refine v_iload (pc := 101) dX7_set_101 rfl ?_
                refine v_iret (pc := 103) dX7_set_103 (Nat.zero_le _) (Nat.zero_le _) ?_
                exact absurd rfl c_36
              · refine v_iload_n (pc := 89) dX7_set_89 rfl ?_
                refine v_goto (pc := 90) (tgt := 100) dX7_set_90 (by decide) ?_
                refine v_iast (pc := 100) ly53 ?_ dX7_set_100 ?_
                · unfold vp_in; decide
                rw [show Int32.toNatClampNeg 9 = 9 from rfl]
                refine v_iload (pc := 101) dX7_set_101 rfl ?_
                refine v_iret (pc := 103) dX7_set_103 (Nat.zero_le _) (Nat.zero_le _) ?_
                exact absurd rfl c_36
          · refine v_aload_n (pc := 46) dX7_set_46 rfl ?_
            refine v_getI (pc := 47) fkX7_13 ly49 rfl dX7_set_47 ?_
            refine v_goto (pc := 50) (tgt := 60) dX7_set_50 (by decide) ?_
            refine v_ist_4 (pc := 60) dX7_set_60 (by decide) rfl ?_
            refine v_aload_n (pc := 62) dX7_set_62 rfl ?_
            refine v_iload_n (pc := 63) dX7_set_63 rfl ?_
            refine v_if_ne (pc := 64) (tgt := 71) dX7_set_64 (by decide) (fun c_64 => ?_) (fun c_64 => ?_)
            · refine v_aload_n (pc := 71) dX7_set_71 rfl ?_
              refine v_getI (pc := 72) fkX7_13 ly49 rfl dX7_set_72 ?_
              refine v_putI (pc := 75) fkX7_13p ly49 rfl dX7_set_75 ?_
              refine v_aload_n (pc := 78) dX7_set_78 rfl ?_
              refine v_getR (pc := 79) fkX7_23 ly49 rfl dX7_set_79 ?_
              refine v_bipush (pc := 82) (v := 9) (by decide) dX7_set_82 ?_
              refine v_iload_n (pc := 84) dX7_set_84 rfl ?_
              refine v_iconst (pc := 85) (v := 1) (by decide) dX7_set_85 ?_
              refine v_icmp_ne (pc := 86) (tgt := 93) dX7_set_86 (by decide) (fun c_86 => ?_) (fun c_86 => ?_)
              · refine v_aload_n (pc := 93) dX7_set_93 rfl ?_
                refine v_getR (pc := 94) fkX7_23 ly49 rfl dX7_set_94 ?_
                refine v_bipush (pc := 97) (v := 9) (by decide) dX7_set_97 ?_
                refine v_iald (pc := 99) ly53 ?_ dX7_set_99 ?_
                · unfold vp_in; decide
                rw [show Int32.toNatClampNeg 9 = 9 from rfl]
                refine v_iast (pc := 100) ly53 ?_ dX7_set_100 ?_
                · unfold vp_in; decide
                rw [show Int32.toNatClampNeg 9 = 9 from rfl]
                refine v_iload (pc := 101) dX7_set_101 rfl ?_
                refine v_iret (pc := 103) dX7_set_103 (Nat.zero_le _) (Nat.zero_le _) ?_
                exact absurd rfl c_36
              · refine v_iload_n (pc := 89) dX7_set_89 rfl ?_
                refine v_goto (pc := 90) (tgt := 100) dX7_set_90 (by decide) ?_
                refine v_iast (pc := 100) ly53 ?_ dX7_set_100 ?_
                · unfold vp_in; decide
                rw [show Int32.toNatClampNeg 9 = 9 from rfl]
                refine v_iload (pc := 101) dX7_set_101 rfl ?_
                refine v_iret (pc := 103) dX7_set_103 (Nat.zero_le _) (Nat.zero_le _) ?_
                exact absurd rfl c_36
            · refine v_iload_n (pc := 67) dX7_set_67 rfl ?_
              refine v_goto (pc := 68) (tgt := 75) dX7_set_68 (by decide) ?_
              refine v_putI (pc := 75) fkX7_13p ly49 rfl dX7_set_75 ?_
              refine v_aload_n (pc := 78) dX7_set_78 rfl ?_
              refine v_getR (pc := 79) fkX7_23 ly49 rfl dX7_set_79 ?_
              refine v_bipush (pc := 82) (v := 9) (by decide) dX7_set_82 ?_
              refine v_iload_n (pc := 84) dX7_set_84 rfl ?_
              refine v_iconst (pc := 85) (v := 1) (by decide) dX7_set_85 ?_
              refine v_icmp_ne (pc := 86) (tgt := 93) dX7_set_86 (by decide) (fun c_86 => ?_) (fun c_86 => ?_)
              · refine v_aload_n (pc := 93) dX7_set_93 rfl ?_
                refine v_getR (pc := 94) fkX7_23 ly49 rfl dX7_set_94 ?_
                refine v_bipush (pc := 97) (v := 9) (by decide) dX7_set_97 ?_
                refine v_iald (pc := 99) ly53 ?_ dX7_set_99 ?_
                · unfold vp_in; decide
                rw [show Int32.toNatClampNeg 9 = 9 from rfl]
                refine v_iast (pc := 100) ly53 ?_ dX7_set_100 ?_
                · unfold vp_in; decide
                rw [show Int32.toNatClampNeg 9 = 9 from rfl]
                refine v_iload (pc := 101) dX7_set_101 rfl ?_
                refine v_iret (pc := 103) dX7_set_103 (Nat.zero_le _) (Nat.zero_le _) ?_
                exact absurd rfl c_36
              · refine v_iload_n (pc := 89) dX7_set_89 rfl ?_
                refine v_goto (pc := 90) (tgt := 100) dX7_set_90 (by decide) ?_
                refine v_iast (pc := 100) ly53 ?_ dX7_set_100 ?_
                · unfold vp_in; decide
                rw [show Int32.toNatClampNeg 9 = 9 from rfl]
                refine v_iload (pc := 101) dX7_set_101 rfl ?_
                refine v_iret (pc := 103) dX7_set_103 (Nat.zero_le _) (Nat.zero_le _) ?_
                exact absurd rfl c_36
        · refine v_bipush (pc := 39) (v := (-2)) (by decide) dX7_set_39 ?_
          refine v_iret (pc := 41) dX7_set_41 (Nat.zero_le _) (Nat.zero_le _) ?_
          exact ⟨by rw [if_neg (fun q => c_1 q.1), if_neg (fun q => bI_0.mp c_26 q.2)], by rw [if_neg (fun q => c_1 q.1), if_neg (fun q => bI_0.mp c_26 q.2)], rfl⟩
      · refine v_iconst (pc := 29) (v := 1) (by decide) dX7_set_29 ?_
        refine v_goto (pc := 30) (tgt := 34) dX7_set_30 (by decide) ?_
        refine v_ist_3 (pc := 34) dX7_set_34 (by decide) rfl ?_
        refine v_iload_n (pc := 35) dX7_set_35 rfl ?_
        refine v_if_ne (pc := 36) (tgt := 42) dX7_set_36 (by decide) (fun c_36 => ?_) (fun c_36 => ?_)
        · refine v_iload_n (pc := 42) dX7_set_42 rfl ?_
          refine v_if_ne (pc := 43) (tgt := 53) dX7_set_43 (by decide) (fun c_43 => ?_) (fun c_43 => ?_)
          · refine v_aload_n (pc := 53) dX7_set_53 rfl ?_
            refine v_getR (pc := 54) fkX7_23 ly49 rfl dX7_set_54 ?_
            refine v_bipush (pc := 57) (v := 9) (by decide) dX7_set_57 ?_
            refine v_iald (pc := 59) ly53 ?_ dX7_set_59 ?_
            · unfold vp_in; decide
            rw [show Int32.toNatClampNeg 9 = 9 from rfl]
            refine v_ist_4 (pc := 60) dX7_set_60 (by decide) rfl ?_
            refine v_aload_n (pc := 62) dX7_set_62 rfl ?_
            refine v_iload_n (pc := 63) dX7_set_63 rfl ?_
            refine v_if_ne (pc := 64) (tgt := 71) dX7_set_64 (by decide) (fun c_64 => ?_) (fun c_64 => ?_)
            · refine v_aload_n (pc := 71) dX7_set_71 rfl ?_
              refine v_getI (pc := 72) fkX7_13 ly49 rfl dX7_set_72 ?_
              refine v_putI (pc := 75) fkX7_13p ly49 rfl dX7_set_75 ?_
              refine v_aload_n (pc := 78) dX7_set_78 rfl ?_
              refine v_getR (pc := 79) fkX7_23 ly49 rfl dX7_set_79 ?_
              refine v_bipush (pc := 82) (v := 9) (by decide) dX7_set_82 ?_
              refine v_iload_n (pc := 84) dX7_set_84 rfl ?_
              refine v_iconst (pc := 85) (v := 1) (by decide) dX7_set_85 ?_
              refine v_icmp_ne (pc := 86) (tgt := 93) dX7_set_86 (by decide) (fun c_86 => ?_) (fun c_86 => ?_)
              · refine v_aload_n (pc := 93) dX7_set_93 rfl ?_
                refine v_getR (pc := 94) fkX7_23 ly49 rfl dX7_set_94 ?_
                refine v_bipush (pc := 97) (v := 9) (by decide) dX7_set_97 ?_
                refine v_iald (pc := 99) ly53 ?_ dX7_set_99 ?_
                · unfold vp_in; decide
                rw [show Int32.toNatClampNeg 9 = 9 from rfl]
                refine v_iast (pc := 100) ly53 ?_ dX7_set_100 ?_
                · unfold vp_in; decide
                rw [show Int32.toNatClampNeg 9 = 9 from rfl]
                refine v_iload (pc := 101) dX7_set_101 rfl ?_
                refine v_iret (pc := 103) dX7_set_103 (Nat.zero_le _) (Nat.zero_le _) ?_
                exact absurd c_16 c_86
              · refine v_iload_n (pc := 89) dX7_set_89 rfl ?_
                refine v_goto (pc := 90) (tgt := 100) dX7_set_90 (by decide) ?_
                refine v_iast (pc := 100) ly53 ?_ dX7_set_100 ?_
                · unfold vp_in; decide
                rw [show Int32.toNatClampNeg 9 = 9 from rfl]
                refine v_iload (pc := 101) dX7_set_101 rfl ?_
                refine v_iret (pc := 103) dX7_set_103 (Nat.zero_le _) (Nat.zero_le _) ?_
                exact ⟨by rw [if_neg (fun q => c_1 q.1), if_pos ⟨c_16, bI_n0.mp c_26⟩]; try rfl, by rw [if_neg (fun q => c_1 q.1), if_pos ⟨c_16, bI_n0.mp c_26⟩]; try rfl, rfl⟩
            · refine v_iload_n (pc := 67) dX7_set_67 rfl ?_
              refine v_goto (pc := 68) (tgt := 75) dX7_set_68 (by decide) ?_
              refine v_putI (pc := 75) fkX7_13p ly49 rfl dX7_set_75 ?_
              refine v_aload_n (pc := 78) dX7_set_78 rfl ?_
              refine v_getR (pc := 79) fkX7_23 ly49 rfl dX7_set_79 ?_
              refine v_bipush (pc := 82) (v := 9) (by decide) dX7_set_82 ?_
              refine v_iload_n (pc := 84) dX7_set_84 rfl ?_
              refine v_iconst (pc := 85) (v := 1) (by decide) dX7_set_85 ?_
              refine v_icmp_ne (pc := 86) (tgt := 93) dX7_set_86 (by decide) (fun c_86 => ?_) (fun c_86 => ?_)
              · refine v_aload_n (pc := 93) dX7_set_93 rfl ?_
                refine v_getR (pc := 94) fkX7_23 ly49 rfl dX7_set_94 ?_
                refine v_bipush (pc := 97) (v := 9) (by decide) dX7_set_97 ?_
                refine v_iald (pc := 99) ly53 ?_ dX7_set_99 ?_
                · unfold vp_in; decide
                rw [show Int32.toNatClampNeg 9 = 9 from rfl]
                refine v_iast (pc := 100) ly53 ?_ dX7_set_100 ?_
                · unfold vp_in; decide
                rw [show Int32.toNatClampNeg 9 = 9 from rfl]
                refine v_iload (pc := 101) dX7_set_101 rfl ?_
                refine v_iret (pc := 103) dX7_set_103 (Nat.zero_le _) (Nat.zero_le _) ?_
                exact absurd c_64 c_1
              · refine v_iload_n (pc := 89) dX7_set_89 rfl ?_
                refine v_goto (pc := 90) (tgt := 100) dX7_set_90 (by decide) ?_
                refine v_iast (pc := 100) ly53 ?_ dX7_set_100 ?_
                · unfold vp_in; decide
                rw [show Int32.toNatClampNeg 9 = 9 from rfl]
                refine v_iload (pc := 101) dX7_set_101 rfl ?_
                refine v_iret (pc := 103) dX7_set_103 (Nat.zero_le _) (Nat.zero_le _) ?_
                exact absurd c_64 c_1
          · refine v_aload_n (pc := 46) dX7_set_46 rfl ?_
            refine v_getI (pc := 47) fkX7_13 ly49 rfl dX7_set_47 ?_
            refine v_goto (pc := 50) (tgt := 60) dX7_set_50 (by decide) ?_
            refine v_ist_4 (pc := 60) dX7_set_60 (by decide) rfl ?_
            refine v_aload_n (pc := 62) dX7_set_62 rfl ?_
            refine v_iload_n (pc := 63) dX7_set_63 rfl ?_
            refine v_if_ne (pc := 64) (tgt := 71) dX7_set_64 (by decide) (fun c_64 => ?_) (fun c_64 => ?_)
            · refine v_aload_n (pc := 71) dX7_set_71 rfl ?_
              refine v_getI (pc := 72) fkX7_13 ly49 rfl dX7_set_72 ?_
              refine v_putI (pc := 75) fkX7_13p ly49 rfl dX7_set_75 ?_
              refine v_aload_n (pc := 78) dX7_set_78 rfl ?_
              refine v_getR (pc := 79) fkX7_23 ly49 rfl dX7_set_79 ?_
              refine v_bipush (pc := 82) (v := 9) (by decide) dX7_set_82 ?_
              refine v_iload_n (pc := 84) dX7_set_84 rfl ?_
              refine v_iconst (pc := 85) (v := 1) (by decide) dX7_set_85 ?_
              refine v_icmp_ne (pc := 86) (tgt := 93) dX7_set_86 (by decide) (fun c_86 => ?_) (fun c_86 => ?_)
              · refine v_aload_n (pc := 93) dX7_set_93 rfl ?_
                refine v_getR (pc := 94) fkX7_23 ly49 rfl dX7_set_94 ?_
                refine v_bipush (pc := 97) (v := 9) (by decide) dX7_set_97 ?_
                refine v_iald (pc := 99) ly53 ?_ dX7_set_99 ?_
                · unfold vp_in; decide
                rw [show Int32.toNatClampNeg 9 = 9 from rfl]
                refine v_iast (pc := 100) ly53 ?_ dX7_set_100 ?_
                · unfold vp_in; decide
                rw [show Int32.toNatClampNeg 9 = 9 from rfl]
                refine v_iload (pc := 101) dX7_set_101 rfl ?_
                refine v_iret (pc := 103) dX7_set_103 (Nat.zero_le _) (Nat.zero_le _) ?_
                exact absurd c_43 c_1
              · refine v_iload_n (pc := 89) dX7_set_89 rfl ?_
                refine v_goto (pc := 90) (tgt := 100) dX7_set_90 (by decide) ?_
                refine v_iast (pc := 100) ly53 ?_ dX7_set_100 ?_
                · unfold vp_in; decide
                rw [show Int32.toNatClampNeg 9 = 9 from rfl]
                refine v_iload (pc := 101) dX7_set_101 rfl ?_
                refine v_iret (pc := 103) dX7_set_103 (Nat.zero_le _) (Nat.zero_le _) ?_
                exact absurd c_43 c_1
            · refine v_iload_n (pc := 67) dX7_set_67 rfl ?_
              refine v_goto (pc := 68) (tgt := 75) dX7_set_68 (by decide) ?_
              refine v_putI (pc := 75) fkX7_13p ly49 rfl dX7_set_75 ?_
              refine v_aload_n (pc := 78) dX7_set_78 rfl ?_
              refine v_getR (pc := 79) fkX7_23 ly49 rfl dX7_set_79 ?_
              refine v_bipush (pc := 82) (v := 9) (by decide) dX7_set_82 ?_
              refine v_iload_n (pc := 84) dX7_set_84 rfl ?_
              refine v_iconst (pc := 85) (v := 1) (by decide) dX7_set_85 ?_
              refine v_icmp_ne (pc := 86) (tgt := 93) dX7_set_86 (by decide) (fun c_86 => ?_) (fun c_86 => ?_)
              · refine v_aload_n (pc := 93) dX7_set_93 rfl ?_
                refine v_getR (pc := 94) fkX7_23 ly49 rfl dX7_set_94 ?_
                refine v_bipush (pc := 97) (v := 9) (by decide) dX7_set_97 ?_
                refine v_iald (pc := 99) ly53 ?_ dX7_set_99 ?_
                · unfold vp_in; decide
                rw [show Int32.toNatClampNeg 9 = 9 from rfl]
                refine v_iast (pc := 100) ly53 ?_ dX7_set_100 ?_
                · unfold vp_in; decide
                rw [show Int32.toNatClampNeg 9 = 9 from rfl]
                refine v_iload (pc := 101) dX7_set_101 rfl ?_
                refine v_iret (pc := 103) dX7_set_103 (Nat.zero_le _) (Nat.zero_le _) ?_
                exact absurd c_43 c_1
              · refine v_iload_n (pc := 89) dX7_set_89 rfl ?_
                refine v_goto (pc := 90) (tgt := 100) dX7_set_90 (by decide) ?_
                refine v_iast (pc := 100) ly53 ?_ dX7_set_100 ?_
                · unfold vp_in; decide
                rw [show Int32.toNatClampNeg 9 = 9 from rfl]
                refine v_iload (pc := 101) dX7_set_101 rfl ?_
                refine v_iret (pc := 103) dX7_set_103 (Nat.zero_le _) (Nat.zero_le _) ?_
                exact absurd c_43 c_1
        · refine v_bipush (pc := 39) (v := (-2)) (by decide) dX7_set_39 ?_
          refine v_iret (pc := 41) dX7_set_41 (Nat.zero_le _) (Nat.zero_le _) ?_
          exact absurd c_36 (by decide)
  · refine v_iload_n (pc := 4) dX7_set_4 rfl ?_
    refine v_iconst (pc := 5) (v := 1) (by decide) dX7_set_5 ?_
    refine v_bipush (pc := 6) (v := 40) (by decide) dX7_set_6 ?_
    refine v_cS3i (pc := 8) dX7_set_8 mkX7_49 m_in (Nat.le_of_ble_eq_true rfl) rfl (Nat.zero_le _) (Nat.zero_le _) (fun r_8 M_8 J_8 h_8 => ?_)
    obtain ⟨e1_8, e2_8, e3_8⟩ := h_8
    replace e1_8 := e1_8.symm
    replace e2_8 := e2_8.symm
    replace e3_8 := e3_8.symm
    subst e1_8 e2_8 e3_8
    refine v_goto (pc := 11) (tgt := 34) dX7_set_11 (by decide) ?_
    refine v_ist_3 (pc := 34) dX7_set_34 (by decide) rfl ?_
    refine v_iload_n (pc := 35) dX7_set_35 rfl ?_
    refine v_if_ne (pc := 36) (tgt := 42) dX7_set_36 (by decide) (fun c_36 => ?_) (fun c_36 => ?_)
    · refine v_iload_n (pc := 42) dX7_set_42 rfl ?_
      refine v_if_ne (pc := 43) (tgt := 53) dX7_set_43 (by decide) (fun c_43 => ?_) (fun c_43 => ?_)
      · refine v_aload_n (pc := 53) dX7_set_53 rfl ?_
        refine v_getR (pc := 54) fkX7_23 ly49 rfl dX7_set_54 ?_
        refine v_bipush (pc := 57) (v := 9) (by decide) dX7_set_57 ?_
        refine v_iald (pc := 59) ly53 ?_ dX7_set_59 ?_
        · unfold vp_in; decide
        rw [show Int32.toNatClampNeg 9 = 9 from rfl]
        refine v_ist_4 (pc := 60) dX7_set_60 (by decide) rfl ?_
        refine v_aload_n (pc := 62) dX7_set_62 rfl ?_
        refine v_iload_n (pc := 63) dX7_set_63 rfl ?_
        refine v_if_ne (pc := 64) (tgt := 71) dX7_set_64 (by decide) (fun c_64 => ?_) (fun c_64 => ?_)
        · refine v_aload_n (pc := 71) dX7_set_71 rfl ?_
          refine v_getI (pc := 72) fkX7_13 ly49 rfl dX7_set_72 ?_
          refine v_putI (pc := 75) fkX7_13p ly49 rfl dX7_set_75 ?_
          refine v_aload_n (pc := 78) dX7_set_78 rfl ?_
          refine v_getR (pc := 79) fkX7_23 ly49 rfl dX7_set_79 ?_
          refine v_bipush (pc := 82) (v := 9) (by decide) dX7_set_82 ?_
          refine v_iload_n (pc := 84) dX7_set_84 rfl ?_
          refine v_iconst (pc := 85) (v := 1) (by decide) dX7_set_85 ?_
          refine v_icmp_ne (pc := 86) (tgt := 93) dX7_set_86 (by decide) (fun c_86 => ?_) (fun c_86 => ?_)
          · refine v_aload_n (pc := 93) dX7_set_93 rfl ?_
            refine v_getR (pc := 94) fkX7_23 ly49 rfl dX7_set_94 ?_
            refine v_bipush (pc := 97) (v := 9) (by decide) dX7_set_97 ?_
            refine v_iald (pc := 99) ly53 ?_ dX7_set_99 ?_
            · unfold vp_in; decide
            rw [show Int32.toNatClampNeg 9 = 9 from rfl]
            refine v_iast (pc := 100) ly53 ?_ dX7_set_100 ?_
            · unfold vp_in; decide
            rw [show Int32.toNatClampNeg 9 = 9 from rfl]
            refine v_iload (pc := 101) dX7_set_101 rfl ?_
            refine v_iret (pc := 103) dX7_set_103 (Nat.zero_le _) (Nat.zero_le _) ?_
            exact absurd c_1 c_43
          · refine v_iload_n (pc := 89) dX7_set_89 rfl ?_
            refine v_goto (pc := 90) (tgt := 100) dX7_set_90 (by decide) ?_
            refine v_iast (pc := 100) ly53 ?_ dX7_set_100 ?_
            · unfold vp_in; decide
            rw [show Int32.toNatClampNeg 9 = 9 from rfl]
            refine v_iload (pc := 101) dX7_set_101 rfl ?_
            refine v_iret (pc := 103) dX7_set_103 (Nat.zero_le _) (Nat.zero_le _) ?_
            exact absurd c_1 c_43
        · refine v_iload_n (pc := 67) dX7_set_67 rfl ?_
          refine v_goto (pc := 68) (tgt := 75) dX7_set_68 (by decide) ?_
          refine v_putI (pc := 75) fkX7_13p ly49 rfl dX7_set_75 ?_
          refine v_aload_n (pc := 78) dX7_set_78 rfl ?_
          refine v_getR (pc := 79) fkX7_23 ly49 rfl dX7_set_79 ?_
          refine v_bipush (pc := 82) (v := 9) (by decide) dX7_set_82 ?_
          refine v_iload_n (pc := 84) dX7_set_84 rfl ?_
          refine v_iconst (pc := 85) (v := 1) (by decide) dX7_set_85 ?_
          refine v_icmp_ne (pc := 86) (tgt := 93) dX7_set_86 (by decide) (fun c_86 => ?_) (fun c_86 => ?_)
          · refine v_aload_n (pc := 93) dX7_set_93 rfl ?_
            refine v_getR (pc := 94) fkX7_23 ly49 rfl dX7_set_94 ?_
            refine v_bipush (pc := 97) (v := 9) (by decide) dX7_set_97 ?_
            refine v_iald (pc := 99) ly53 ?_ dX7_set_99 ?_
            · unfold vp_in; decide
            rw [show Int32.toNatClampNeg 9 = 9 from rfl]
            refine v_iast (pc := 100) ly53 ?_ dX7_set_100 ?_
            · unfold vp_in; decide
            rw [show Int32.toNatClampNeg 9 = 9 from rfl]
            refine v_iload (pc := 101) dX7_set_101 rfl ?_
            refine v_iret (pc := 103) dX7_set_103 (Nat.zero_le _) (Nat.zero_le _) ?_
            exact absurd c_1 c_43
          · refine v_iload_n (pc := 89) dX7_set_89 rfl ?_
            refine v_goto (pc := 90) (tgt := 100) dX7_set_90 (by decide) ?_
            refine v_iast (pc := 100) ly53 ?_ dX7_set_100 ?_
            · unfold vp_in; decide
            rw [show Int32.toNatClampNeg 9 = 9 from rfl]
            refine v_iload (pc := 101) dX7_set_101 rfl ?_
            refine v_iret (pc := 103) dX7_set_103 (Nat.zero_le _) (Nat.zero_le _) ?_
            exact absurd c_1 c_43
      · refine v_aload_n (pc := 46) dX7_set_46 rfl ?_
        refine v_getI (pc := 47) fkX7_13 ly49 rfl dX7_set_47 ?_
        refine v_goto (pc := 50) (tgt := 60) dX7_set_50 (by decide) ?_
        refine v_ist_4 (pc := 60) dX7_set_60 (by decide) rfl ?_
        refine v_aload_n (pc := 62) dX7_set_62 rfl ?_
        refine v_iload_n (pc := 63) dX7_set_63 rfl ?_
        refine v_if_ne (pc := 64) (tgt := 71) dX7_set_64 (by decide) (fun c_64 => ?_) (fun c_64 => ?_)
        · refine v_aload_n (pc := 71) dX7_set_71 rfl ?_
          refine v_getI (pc := 72) fkX7_13 ly49 rfl dX7_set_72 ?_
          refine v_putI (pc := 75) fkX7_13p ly49 rfl dX7_set_75 ?_
          refine v_aload_n (pc := 78) dX7_set_78 rfl ?_
          refine v_getR (pc := 79) fkX7_23 ly49 rfl dX7_set_79 ?_
          refine v_bipush (pc := 82) (v := 9) (by decide) dX7_set_82 ?_
          refine v_iload_n (pc := 84) dX7_set_84 rfl ?_
          refine v_iconst (pc := 85) (v := 1) (by decide) dX7_set_85 ?_
          refine v_icmp_ne (pc := 86) (tgt := 93) dX7_set_86 (by decide) (fun c_86 => ?_) (fun c_86 => ?_)
          · refine v_aload_n (pc := 93) dX7_set_93 rfl ?_
            refine v_getR (pc := 94) fkX7_23 ly49 rfl dX7_set_94 ?_
            refine v_bipush (pc := 97) (v := 9) (by decide) dX7_set_97 ?_
            refine v_iald (pc := 99) ly53 ?_ dX7_set_99 ?_
            · unfold vp_in; decide
            rw [show Int32.toNatClampNeg 9 = 9 from rfl]
            refine v_iast (pc := 100) ly53 ?_ dX7_set_100 ?_
            · unfold vp_in; decide
            rw [show Int32.toNatClampNeg 9 = 9 from rfl]
            refine v_iload (pc := 101) dX7_set_101 rfl ?_
            refine v_iret (pc := 103) dX7_set_103 (Nat.zero_le _) (Nat.zero_le _) ?_
            exact absurd c_1 c_64
          · refine v_iload_n (pc := 89) dX7_set_89 rfl ?_
            refine v_goto (pc := 90) (tgt := 100) dX7_set_90 (by decide) ?_
            refine v_iast (pc := 100) ly53 ?_ dX7_set_100 ?_
            · unfold vp_in; decide
            rw [show Int32.toNatClampNeg 9 = 9 from rfl]
            refine v_iload (pc := 101) dX7_set_101 rfl ?_
            refine v_iret (pc := 103) dX7_set_103 (Nat.zero_le _) (Nat.zero_le _) ?_
            exact absurd c_1 c_64
        · refine v_iload_n (pc := 67) dX7_set_67 rfl ?_
          refine v_goto (pc := 68) (tgt := 75) dX7_set_68 (by decide) ?_
          refine v_putI (pc := 75) fkX7_13p ly49 rfl dX7_set_75 ?_
          refine v_aload_n (pc := 78) dX7_set_78 rfl ?_
          refine v_getR (pc := 79) fkX7_23 ly49 rfl dX7_set_79 ?_
          refine v_bipush (pc := 82) (v := 9) (by decide) dX7_set_82 ?_
          refine v_iload_n (pc := 84) dX7_set_84 rfl ?_
          refine v_iconst (pc := 85) (v := 1) (by decide) dX7_set_85 ?_
          refine v_icmp_ne (pc := 86) (tgt := 93) dX7_set_86 (by decide) (fun c_86 => ?_) (fun c_86 => ?_)
          · refine v_aload_n (pc := 93) dX7_set_93 rfl ?_
            refine v_getR (pc := 94) fkX7_23 ly49 rfl dX7_set_94 ?_
            refine v_bipush (pc := 97) (v := 9) (by decide) dX7_set_97 ?_
            refine v_iald (pc := 99) ly53 ?_ dX7_set_99 ?_
            · unfold vp_in; decide
            rw [show Int32.toNatClampNeg 9 = 9 from rfl]
            refine v_iast (pc := 100) ly53 ?_ dX7_set_100 ?_
            · unfold vp_in; decide
            rw [show Int32.toNatClampNeg 9 = 9 from rfl]
            refine v_iload (pc := 101) dX7_set_101 rfl ?_
            refine v_iret (pc := 103) dX7_set_103 (Nat.zero_le _) (Nat.zero_le _) ?_
            exact ⟨by rw [if_pos ⟨c_1, bI_n0.mp c_36⟩], by rw [if_pos ⟨c_1, bI_n0.mp c_36⟩]; rfl, rfl⟩
          · refine v_iload_n (pc := 89) dX7_set_89 rfl ?_
            refine v_goto (pc := 90) (tgt := 100) dX7_set_90 (by decide) ?_
            refine v_iast (pc := 100) ly53 ?_ dX7_set_100 ?_
            · unfold vp_in; decide
            rw [show Int32.toNatClampNeg 9 = 9 from rfl]
            refine v_iload (pc := 101) dX7_set_101 rfl ?_
            refine v_iret (pc := 103) dX7_set_103 (Nat.zero_le _) (Nat.zero_le _) ?_
            exact absurd (c_1.symm.trans c_86) (by decide)
    · refine v_bipush (pc := 39) (v := (-2)) (by decide) dX7_set_39 ?_
      refine v_iret (pc := 41) dX7_set_41 (Nat.zero_le _) (Nat.zero_le _) ?_
      exact ⟨by rw [if_neg (fun q => bI_0.mp c_36 q.2), if_neg (fun q => absurd (c_1.symm.trans q.1) (by decide))], by rw [if_neg (fun q => bI_0.mp c_36 q.2), if_neg (fun q => absurd (c_1.symm.trans q.1) (by decide))], rfl⟩

set_option maxRecDepth 100000 in
set_option maxHeartbeats 4000000 in
theorem m_close  {M : mM} {J : mJ}  : Ct yX7_close cX7_close 2 (some .int) (rmD 0) false [.ref 49] LY M J (mNi LY (fun r0 M1 J1 => r0 = M 53 10 ∧ M1 = mU (mU M 53 10 0) 53 8 0 ∧ J1 = J)) := by
  refine ct_of (own := RX7) (ini := false) (ls := [some (.ref 49), none]) 1 (by decide +kernel) rfl (fun h => by cases h) rfl (fun ad => by first | exact Nat.le_of_ble_eq_true rfl) ?_
  refine v_aload_n (pc := 0) dX7_close_0 rfl ?_
  refine v_getR (pc := 1) fkX7_23 ly49 rfl dX7_close_1 ?_
  refine v_bipush (pc := 4) (v := 10) (by decide) dX7_close_4 ?_
  refine v_iald (pc := 6) ly53 ?_ dX7_close_6 ?_
  · unfold vp_in; decide
  rw [show Int32.toNatClampNeg 10 = 10 from rfl]
  refine v_ist_1 (pc := 7) dX7_close_7 (by decide) rfl ?_
  refine v_aload_n (pc := 8) dX7_close_8 rfl ?_
  refine v_getR (pc := 9) fkX7_23 ly49 rfl dX7_close_9 ?_
  refine v_bipush (pc := 12) (v := 10) (by decide) dX7_close_12 ?_
  refine v_iconst (pc := 14) (v := 0) (by decide) dX7_close_14 ?_
  refine v_iast (pc := 15) ly53 ?_ dX7_close_15 ?_
  · unfold vp_in; decide
  rw [show Int32.toNatClampNeg 10 = 10 from rfl]
  refine v_aload_n (pc := 16) dX7_close_16 rfl ?_
  refine v_getR (pc := 17) fkX7_23 ly49 rfl dX7_close_17 ?_
  refine v_bipush (pc := 20) (v := 8) (by decide) dX7_close_20 ?_
  refine v_iconst (pc := 22) (v := 0) (by decide) dX7_close_22 ?_
  refine v_iast (pc := 23) ly53 ?_ dX7_close_23 ?_
  · unfold vp_in; decide
  rw [show Int32.toNatClampNeg 8 = 8 from rfl]
  refine v_iload_n (pc := 24) dX7_close_24 rfl ?_
  refine v_iret (pc := 25) dX7_close_25 (Nat.zero_le _) (Nat.zero_le _) ?_
  exact ⟨rfl, rfl, rfl⟩

set_option maxRecDepth 100000 in
set_option maxHeartbeats 4000000 in
theorem m_say {x : Int32} {n : Nat} {M : mM} {J : mJ} (hn : M 49 8 = nI n) (h60 : n ≤ 60) : Ct yX7_say cX7_say 2 (some .int) (rmD 1) false [.ref 49, .int x] LY M J (mNi LY (fun r0 M1 J1 => r0 = (if 33 ≤ x ∧ x ≤ 126 then (if n < 60 then nI (n + 1) else -4) else -2) ∧ M1 = (if 33 ≤ x ∧ x ≤ 126 then (if n < 60 then mU (mU M 55 n x) 49 8 (nI (n + 1)) else M) else M) ∧ J1 = J)) := by
  refine ct_of (own := RX7) (ini := false) (ls := [some (.ref 49), some (.int x)]) 0 (by decide +kernel) rfl (fun h => by cases h) rfl (fun ad => by first | exact Nat.le_of_ble_eq_true rfl) ?_
  have hcl := nI_clamp (show n < 2 ^ 31 by omega)
  refine v_iload_n (pc := 0) dX7_say_0 rfl ?_
  refine v_bipush (pc := 1) (v := 33) (by decide) dX7_say_1 ?_
  refine v_bipush (pc := 3) (v := 126) (by decide) dX7_say_3 ?_
  refine v_cS3i (pc := 5) dX7_say_5 mkX7_49 m_in (Nat.le_of_ble_eq_true rfl) rfl (Nat.zero_le _) (Nat.zero_le _) (fun r_5 M_5 J_5 h_5 => ?_)
  obtain ⟨e1_5, e2_5, e3_5⟩ := h_5
  replace e1_5 := e1_5.symm
  replace e2_5 := e2_5.symm
  replace e3_5 := e3_5.symm
  subst e1_5 e2_5 e3_5
  refine v_if_ne (pc := 8) (tgt := 14) dX7_say_8 (by decide) (fun c_8 => ?_) (fun c_8 => ?_)
  · refine v_aload_n (pc := 14) dX7_say_14 rfl ?_
    refine v_getI (pc := 15) fkX7_68 ly49 rfl dX7_say_15 ?_
    refine v_bipush (pc := 18) (v := 60) (by decide) dX7_say_18 ?_
    refine v_icmp_ne (pc := 20) (tgt := 26) dX7_say_20 (by decide) (fun c_20 => ?_) (fun c_20 => ?_)
    · have hlt : n < 60 := by rw [hn] at c_20; exact Nat.lt_of_le_of_ne h60 (fun q => c_20 (by rw [q]; rfl))
      refine v_aload_n (pc := 26) dX7_say_26 rfl ?_
      refine v_getR (pc := 27) fkX7_29 ly49 rfl dX7_say_27 ?_
      refine v_aload_n (pc := 30) dX7_say_30 rfl ?_
      refine v_getI (pc := 31) fkX7_68 ly49 rfl dX7_say_31 ?_
      rw [hn]
      refine v_iload_n (pc := 34) dX7_say_34 rfl ?_
      refine v_iast (pc := 35) ly55 ?_ dX7_say_35 ?_
      · exact vp_in_nI hlt (by omega)
      refine v_aload_n (pc := 36) dX7_say_36 rfl ?_
      refine v_dupR (pc := 37) dX7_say_37 ?_
      refine v_getI (pc := 38) fkX7_68 ly49 rfl dX7_say_38 ?_
      refine v_iconst (pc := 41) (v := 1) (by decide) dX7_say_41 ?_
      refine v_iadd (pc := 42) dX7_say_42 ?_
      refine v_putI (pc := 43) fkX7_68p ly49 rfl dX7_say_43 ?_
      refine v_aload_n (pc := 46) dX7_say_46 rfl ?_
      refine v_getI (pc := 47) fkX7_68 ly49 rfl dX7_say_47 ?_
      refine v_iret (pc := 50) dX7_say_50 (Nat.zero_le _) (Nat.zero_le _) ?_
      have e9 : mU M 55 n x 49 8 + 1 = nI (n + 1) := by rw [mU_neA (by decide), hn, nI_1]
      rw [hcl, e9]
      exact ⟨by rw [if_pos (bI_n0.mp c_8), if_pos hlt]; simp [mU], by rw [if_pos (bI_n0.mp c_8), if_pos hlt], rfl⟩
    · have hlt : ¬ n < 60 := by rw [hn] at c_20; have := (nI_eq (b := 60) (by omega) (by omega)).mp c_20; omega
      refine v_bipush (pc := 23) (v := (-4)) (by decide) dX7_say_23 ?_
      refine v_iret (pc := 25) dX7_say_25 (Nat.zero_le _) (Nat.zero_le _) ?_
      exact ⟨by rw [if_pos (bI_n0.mp c_8), if_neg hlt]; try rfl, by rw [if_pos (bI_n0.mp c_8), if_neg hlt]; try rfl, rfl⟩
  · refine v_bipush (pc := 11) (v := (-2)) (by decide) dX7_say_11 ?_
    refine v_iret (pc := 13) dX7_say_13 (Nat.zero_le _) (Nat.zero_le _) ?_
    exact ⟨by rw [if_neg (bI_0.mp c_8)]; try rfl, by rw [if_neg (bI_0.mp c_8)]; try rfl, rfl⟩

set_option maxRecDepth 100000 in
set_option maxHeartbeats 4000000 in
theorem m_wipe  {M : mM} {J : mJ}  : Ct yX7_wipe cX7_wipe 2 (some .int) (rmD 0) false [.ref 49] LY M J (mNi LY (fun r0 M1 J1 => r0 = M 49 8 ∧ M1 = mU M 49 8 0 ∧ J1 = J)) := by
  refine ct_of (own := RX7) (ini := false) (ls := [some (.ref 49), none]) 1 (by decide +kernel) rfl (fun h => by cases h) rfl (fun ad => by first | exact Nat.le_of_ble_eq_true rfl) ?_
  refine v_aload_n (pc := 0) dX7_wipe_0 rfl ?_
  refine v_getI (pc := 1) fkX7_68 ly49 rfl dX7_wipe_1 ?_
  refine v_ist_1 (pc := 4) dX7_wipe_4 (by decide) rfl ?_
  refine v_aload_n (pc := 5) dX7_wipe_5 rfl ?_
  refine v_iconst (pc := 6) (v := 0) (by decide) dX7_wipe_6 ?_
  refine v_putI (pc := 7) fkX7_68p ly49 rfl dX7_wipe_7 ?_
  refine v_iload_n (pc := 10) dX7_wipe_10 rfl ?_
  refine v_iret (pc := 11) dX7_wipe_11 (Nat.zero_le _) (Nat.zero_le _) ?_
  exact ⟨rfl, rfl, rfl⟩

set_option maxRecDepth 100000 in
set_option maxHeartbeats 4000000 in
theorem l_asNow  {M : mM} {J : mJ}  : ∀ (n i : Nat), n + i = 107 → V RX7 cX7_asNow 2 none false (rmD 0) false LY.length none (mNv LY (fun M1 J1 => M1 = cpR M 54 53 0 107 ∧ J1 = J)) 0 0 2 [some (.ref 49), some (.int (nI i))] [] LY (cpR M 54 53 0 i) J := by
  intro n
  induction n with
  | zero =>
    intro i hi
    obtain rfl : i = 107 := by omega
    refine v_iload_n (pc := 2) dX7_asNow_2 rfl ?_
    refine v_bipush (pc := 3) (v := 107) (by decide) dX7_asNow_3 ?_
    refine v_icmp_ge (pc := 5) (tgt := 26) dX7_asNow_5 (by decide) (fun c_5 => ?_) (fun c_5 => absurd (by decide) c_5)
    refine v_vret (pc := 26) dX7_asNow_26 (Nat.zero_le _) (Nat.zero_le _) ?_
    exact ⟨rfl, rfl⟩
  | succ n ih =>
    intro i hi
    have hb7 : i < 107 := by omega
    have hcl := nI_clamp (show i < 2 ^ 31 by omega)
    refine v_iload_n (pc := 2) dX7_asNow_2 rfl ?_
    refine v_bipush (pc := 3) (v := 107) (by decide) dX7_asNow_3 ?_
    refine v_icmp_ge (pc := 5) (tgt := 26) dX7_asNow_5 (by decide) (fun c_5 => absurd c_5 (nI_ge (b := 107) hb7 (by omega))) (fun c_5 => ?_)
    refine v_aload_n (pc := 8) dX7_asNow_8 rfl ?_
    refine v_getR (pc := 9) fkX7_26 ly49 rfl dX7_asNow_9 ?_
    refine v_iload_n (pc := 12) dX7_asNow_12 rfl ?_
    refine v_aload_n (pc := 13) dX7_asNow_13 rfl ?_
    refine v_getR (pc := 14) fkX7_23 ly49 rfl dX7_asNow_14 ?_
    refine v_iload_n (pc := 17) dX7_asNow_17 rfl ?_
    refine v_iald (pc := 18) ly53 ?_ dX7_asNow_18 ?_
    · exact vp_in_nI hb7 (by omega)
    refine v_iast (pc := 19) ly54 ?_ dX7_asNow_19 ?_
    · exact vp_in_nI hb7 (by omega)
    refine v_inc_1 (pc := 20) (v := 1) dX7_asNow_20 (by decide) (by decide) rfl ?_
    refine v_goto (pc := 23) (tgt := 2) dX7_asNow_23 (by decide) ?_
    rw [hcl, cpR_nx (by decide) (Nat.zero_le _), nI_1]
    exact ih (i + 1) (by omega)

set_option maxRecDepth 100000 in
set_option maxHeartbeats 4000000 in
theorem m_asNow  {M : mM} {J : mJ}  : Ct yX7_asNow cX7_asNow 2 none (rmD 0) false [.ref 49] LY M J (mNv LY (fun M1 J1 => M1 = cpR M 54 53 0 107 ∧ J1 = J)) := by
  refine ct_of (own := RX7) (ini := false) (ls := [some (.ref 49), none]) 1 (by decide +kernel) rfl (fun h => by cases h) rfl (fun ad => by first | exact Nat.le_of_ble_eq_true rfl) ?_
  refine v_iconst (pc := 0) (v := 0) (by decide) dX7_asNow_0 ?_
  refine v_ist_1 (pc := 1) dX7_asNow_1 (by decide) rfl ?_
  have e9 := l_asNow (M := M) (J := J) 107 0 rfl
  rw [cpR_0] at e9
  exact e9

set_option maxRecDepth 100000 in
set_option maxHeartbeats 4000000 in
theorem m_up {x : Int32} {M : mM} {J : mJ} (hx : 1 ≤ x) : Ct yX7_up cX7_up 2 (some .int) (rmD 0) false [.ref 49, .int x] LY M J (mNi LY (fun r0 M1 J1 => r0 = (M 49 2 + x - 1) / x ∧ M1 = M ∧ J1 = J)) := by
  refine ct_of (own := RX7) (ini := false) (ls := [some (.ref 49), some (.int x)]) 0 (by decide +kernel) rfl (fun h => by cases h) rfl (fun ad => by first | exact Nat.le_of_ble_eq_true rfl) ?_
  refine v_aload_n (pc := 0) dX7_up_0 rfl ?_
  refine v_getI (pc := 1) fkX7_13 ly49 rfl dX7_up_1 ?_
  refine v_iload_n (pc := 4) dX7_up_4 rfl ?_
  refine v_iadd (pc := 5) dX7_up_5 ?_
  refine v_iconst (pc := 6) (v := 1) (by decide) dX7_up_6 ?_
  refine v_isub (pc := 7) dX7_up_7 ?_
  refine v_iload_n (pc := 8) dX7_up_8 rfl ?_
  refine v_idiv (pc := 9) (pos_ne hx) dX7_up_9 ?_
  refine v_iret (pc := 10) dX7_up_10 (Nat.zero_le _) (Nat.zero_le _) ?_
  exact ⟨rfl, rfl, rfl⟩

def nWhy (N : Nat → Int32) (k : Nat) (z : Int32) : Int32 := if bt (N 7) (nI k) then (if z ≤ N k then (if N 10 = 32 then 3 else 0) else 2) else 1

set_option maxRecDepth 100000 in
set_option maxHeartbeats 4000000 in
theorem m_why {k : Nat} {z : Int32} {M : mM} {J : mJ} (hk : k < 7) : Ct yX7_whyNoBubble cX7_whyNoBubble 3 (some .int) (rmD 1) false [.ref 49, .int (nI k), .int z] LY M J (mNi LY (fun r0 M1 J1 => r0 = nWhy (M 54) k z ∧ M1 = M ∧ J1 = J)) := by
  refine ct_of (own := RX7) (ini := false) (ls := [some (.ref 49), some (.int (nI k)), some (.int z)]) 0 (by decide +kernel) rfl (fun h => by cases h) rfl (fun ad => by first | exact Nat.le_of_ble_eq_true rfl) ?_
  have hcl := nI_clamp (show k < 2 ^ 31 by omega)
  refine v_aload_n (pc := 0) dX7_whyNoBubble_0 rfl ?_
  refine v_getR (pc := 1) fkX7_26 ly49 rfl dX7_whyNoBubble_1 ?_
  refine v_bipush (pc := 4) (v := 7) (by decide) dX7_whyNoBubble_4 ?_
  refine v_iald (pc := 6) ly54 ?_ dX7_whyNoBubble_6 ?_
  · unfold vp_in; decide
  rw [show Int32.toNatClampNeg 7 = 7 from rfl]
  refine v_iload_n (pc := 7) dX7_whyNoBubble_7 rfl ?_
  refine v_cS2i (pc := 8) dX7_whyNoBubble_8 mkX7_56 m_has (Nat.le_of_ble_eq_true rfl) rfl (Nat.zero_le _) (Nat.zero_le _) (fun r_8 M_8 J_8 h_8 => ?_)
  obtain ⟨e1_8, e2_8, e3_8⟩ := h_8
  replace e1_8 := e1_8.symm
  replace e2_8 := e2_8.symm
  replace e3_8 := e3_8.symm
  subst e1_8 e2_8 e3_8
  refine v_if_ne (pc := 11) (tgt := 16) dX7_whyNoBubble_11 (by decide) (fun c_11 => ?_) (fun c_11 => ?_)
  · refine v_aload_n (pc := 16) dX7_whyNoBubble_16 rfl ?_
    refine v_getR (pc := 17) fkX7_26 ly49 rfl dX7_whyNoBubble_17 ?_
    refine v_iload_n (pc := 20) dX7_whyNoBubble_20 rfl ?_
    refine v_iald (pc := 21) ly54 ?_ dX7_whyNoBubble_21 ?_
    · exact vp_in_nI (show k < 107 by omega) (by omega)
    refine v_iload_n (pc := 22) dX7_whyNoBubble_22 rfl ?_
    refine v_icmp_ge (pc := 23) (tgt := 30) dX7_whyNoBubble_23 (by decide) (fun c_23 => ?_) (fun c_23 => ?_)
    · refine v_aload_n (pc := 30) dX7_whyNoBubble_30 rfl ?_
      refine v_getR (pc := 31) fkX7_26 ly49 rfl dX7_whyNoBubble_31 ?_
      refine v_bipush (pc := 34) (v := 10) (by decide) dX7_whyNoBubble_34 ?_
      refine v_iald (pc := 36) ly54 ?_ dX7_whyNoBubble_36 ?_
      · unfold vp_in; decide
      rw [show Int32.toNatClampNeg 10 = 10 from rfl]
      refine v_bipush (pc := 37) (v := 32) (by decide) dX7_whyNoBubble_37 ?_
      refine v_icmp_ne (pc := 39) (tgt := 46) dX7_whyNoBubble_39 (by decide) (fun c_39 => ?_) (fun c_39 => ?_)
      · refine v_iconst (pc := 46) (v := 0) (by decide) dX7_whyNoBubble_46 ?_
        refine v_iret (pc := 47) dX7_whyNoBubble_47 (Nat.zero_le _) (Nat.zero_le _) ?_
        rw [hcl] at c_23
        exact ⟨by unfold nWhy; rw [if_pos (bI_n0.mp c_11), if_pos c_23, if_neg c_39], rfl, rfl⟩
      · refine v_iconst (pc := 42) (v := 3) (by decide) dX7_whyNoBubble_42 ?_
        refine v_goto (pc := 43) (tgt := 47) dX7_whyNoBubble_43 (by decide) ?_
        refine v_iret (pc := 47) dX7_whyNoBubble_47 (Nat.zero_le _) (Nat.zero_le _) ?_
        rw [hcl] at c_23
        exact ⟨by unfold nWhy; rw [if_pos (bI_n0.mp c_11), if_pos c_23, if_pos c_39], rfl, rfl⟩
    · refine v_iconst (pc := 26) (v := 2) (by decide) dX7_whyNoBubble_26 ?_
      refine v_goto (pc := 27) (tgt := 47) dX7_whyNoBubble_27 (by decide) ?_
      refine v_iret (pc := 47) dX7_whyNoBubble_47 (Nat.zero_le _) (Nat.zero_le _) ?_
      rw [hcl] at c_23
      exact ⟨by unfold nWhy; rw [if_pos (bI_n0.mp c_11), if_neg c_23], rfl, rfl⟩
  · refine v_iconst (pc := 14) (v := 1) (by decide) dX7_whyNoBubble_14 ?_
    refine v_iret (pc := 15) dX7_whyNoBubble_15 (Nat.zero_le _) (Nat.zero_le _) ?_
    exact ⟨by unfold nWhy; rw [if_neg (bI_0.mp c_11)], rfl, rfl⟩

def mUp (M : mM) (z : Int32) : Int32 := (M 49 2 + z - 1) / z
def nBub (M : mM) (nb k : Nat) (z : Int32) : mM :=
  let M3 := mU (mU (mU M 54 (11 + 3 * nb) (M 54 8 + mUp M z)) 54 (12 + 3 * nb) (rem10 (M 50 k + mUp M z * M 54 9))) 54 (13 + 3 * nb) z
  let M4 := mU M3 54 10 (nI (nb + 1))
  mU M4 54 k (M4 54 k - z)

set_option maxRecDepth 100000 in
set_option maxHeartbeats 4000000 in
theorem m_bubble {k nb : Nat} {z : Int32} {M : mM} {J : mJ} (hk : k < 7) (hz : 1 ≤ z) (hnb : M 54 10 = nI nb) (hb : nb < 32) : Ct yX7_bubble cX7_bubble 4 none (rmD 1) false [.ref 49, .int (nI k), .int z] LY M J (mNv LY (fun M1 J1 => M1 = nBub M nb k z ∧ J1 = J)) := by
  refine ct_of (own := RX7) (ini := false) (ls := [some (.ref 49), some (.int (nI k)), some (.int z), none]) 1 (by decide +kernel) rfl (fun h => by cases h) rfl (fun ad => by first | exact Nat.le_of_ble_eq_true rfl) ?_
  have hcl := nI_clamp (show k < 2 ^ 31 by omega)
  have e1 : (11 : Int32) + 3 * nI nb = nI (11 + 3 * nb) := by rw [show (3 : Int32) * nI nb = nI 3 * nI nb from rfl, pk_mul, show (11 : Int32) = nI 11 from rfl, nI_add]
  have c1 := nI_clamp (show 11 + 3 * nb < 2 ^ 31 by omega)
  have c2 := nI_clamp (show 12 + 3 * nb < 2 ^ 31 by omega)
  have c3 := nI_clamp (show 13 + 3 * nb < 2 ^ 31 by omega)
  have e2 : nI (11 + 3 * nb) + 1 = nI (12 + 3 * nb) := by rw [nI_1, show 11 + 3 * nb + 1 = 12 + 3 * nb by omega]
  have e3 : nI (11 + 3 * nb) + 2 = nI (13 + 3 * nb) := by rw [show (2 : Int32) = nI 2 from rfl, nI_add, show 11 + 3 * nb + 2 = 13 + 3 * nb by omega]
  refine v_bipush (pc := 0) (v := 11) (by decide) dX7_bubble_0 ?_
  refine v_iconst (pc := 2) (v := 3) (by decide) dX7_bubble_2 ?_
  refine v_aload_n (pc := 3) dX7_bubble_3 rfl ?_
  refine v_getR (pc := 4) fkX7_26 ly49 rfl dX7_bubble_4 ?_
  refine v_bipush (pc := 7) (v := 10) (by decide) dX7_bubble_7 ?_
  refine v_iald (pc := 9) ly54 ?_ dX7_bubble_9 ?_
  · unfold vp_in; decide
  rw [show Int32.toNatClampNeg 10 = 10 from rfl]
  refine v_imul (pc := 10) dX7_bubble_10 ?_
  refine v_iadd (pc := 11) dX7_bubble_11 ?_
  rw [hnb, e1]
  refine v_ist_3 (pc := 12) dX7_bubble_12 (by decide) rfl ?_
  refine v_aload_n (pc := 13) dX7_bubble_13 rfl ?_
  refine v_getR (pc := 14) fkX7_26 ly49 rfl dX7_bubble_14 ?_
  refine v_iload_n (pc := 17) dX7_bubble_17 rfl ?_
  refine v_aload_n (pc := 18) dX7_bubble_18 rfl ?_
  refine v_getR (pc := 19) fkX7_26 ly49 rfl dX7_bubble_19 ?_
  refine v_bipush (pc := 22) (v := 8) (by decide) dX7_bubble_22 ?_
  refine v_iald (pc := 24) ly54 ?_ dX7_bubble_24 ?_
  · unfold vp_in; decide
  rw [show Int32.toNatClampNeg 8 = 8 from rfl]
  refine v_aload_n (pc := 25) dX7_bubble_25 rfl ?_
  refine v_iload_n (pc := 26) dX7_bubble_26 rfl ?_
  refine v_cV1i (pc := 27) dX7_bubble_27 mkX7_78 (m_up hz) ly49 rfl (Nat.le_of_ble_eq_true rfl) rfl (Nat.zero_le _) (Nat.zero_le _) (fun r_27 M_27 J_27 h_27 => ?_)
  obtain ⟨e1_27, e2_27, e3_27⟩ := h_27
  replace e1_27 := e1_27.symm
  replace e2_27 := e2_27.symm
  replace e3_27 := e3_27.symm
  subst e1_27 e2_27 e3_27
  refine v_iadd (pc := 30) dX7_bubble_30 ?_
  refine v_iast (pc := 31) ly54 ?_ dX7_bubble_31 ?_
  · exact vp_in_nI (show 11 + 3 * nb < 107 by omega) (by omega)
  refine v_aload_n (pc := 32) dX7_bubble_32 rfl ?_
  refine v_getR (pc := 33) fkX7_26 ly49 rfl dX7_bubble_33 ?_
  refine v_iload_n (pc := 36) dX7_bubble_36 rfl ?_
  refine v_iconst (pc := 37) (v := 1) (by decide) dX7_bubble_37 ?_
  skip
  refine v_iadd (pc := 38) dX7_bubble_38 ?_
  rw [e2]
  refine v_aload_n (pc := 39) dX7_bubble_39 rfl ?_
  refine v_getR (pc := 40) fkX7_7 ly49 rfl dX7_bubble_40 ?_
  refine v_iload_n (pc := 43) dX7_bubble_43 rfl ?_
  refine v_iald (pc := 44) ly50 ?_ dX7_bubble_44 ?_
  · exact vp_in_nI hk (by omega)
  refine v_aload_n (pc := 45) dX7_bubble_45 rfl ?_
  refine v_iload_n (pc := 46) dX7_bubble_46 rfl ?_
  refine v_cV1i (pc := 47) dX7_bubble_47 mkX7_78 (m_up hz) ly49 rfl (Nat.le_of_ble_eq_true rfl) rfl (Nat.zero_le _) (Nat.zero_le _) (fun r_47 M_47 J_47 h_47 => ?_)
  obtain ⟨e1_47, e2_47, e3_47⟩ := h_47
  replace e1_47 := e1_47.symm
  replace e2_47 := e2_47.symm
  replace e3_47 := e3_47.symm
  subst e1_47 e2_47 e3_47
  refine v_aload_n (pc := 50) dX7_bubble_50 rfl ?_
  refine v_getR (pc := 51) fkX7_26 ly49 rfl dX7_bubble_51 ?_
  refine v_bipush (pc := 54) (v := 9) (by decide) dX7_bubble_54 ?_
  refine v_iald (pc := 56) ly54 ?_ dX7_bubble_56 ?_
  · unfold vp_in; decide
  rw [show Int32.toNatClampNeg 9 = 9 from rfl]
  refine v_imul (pc := 57) dX7_bubble_57 ?_
  refine v_iadd (pc := 58) dX7_bubble_58 ?_
  refine v_bipush (pc := 59) (v := 10) (by decide) dX7_bubble_59 ?_
  refine v_irem (pc := 61) (by decide) dX7_bubble_61 ?_
  refine v_iast (pc := 62) ly54 ?_ dX7_bubble_62 ?_
  · exact vp_in_nI (show 12 + 3 * nb < 107 by omega) (by omega)
  refine v_aload_n (pc := 63) dX7_bubble_63 rfl ?_
  refine v_getR (pc := 64) fkX7_26 ly49 rfl dX7_bubble_64 ?_
  refine v_iload_n (pc := 67) dX7_bubble_67 rfl ?_
  refine v_iconst (pc := 68) (v := 2) (by decide) dX7_bubble_68 ?_
  refine v_iadd (pc := 69) dX7_bubble_69 ?_
  rw [e3]
  refine v_iload_n (pc := 70) dX7_bubble_70 rfl ?_
  refine v_iast (pc := 71) ly54 ?_ dX7_bubble_71 ?_
  · exact vp_in_nI (show 13 + 3 * nb < 107 by omega) (by omega)
  refine v_aload_n (pc := 72) dX7_bubble_72 rfl ?_
  refine v_getR (pc := 73) fkX7_26 ly49 rfl dX7_bubble_73 ?_
  refine v_bipush (pc := 76) (v := 10) (by decide) dX7_bubble_76 ?_
  refine v_dup2IR (pc := 78) dX7_bubble_78 ?_
  refine v_iald (pc := 79) ly54 ?_ dX7_bubble_79 ?_
  · unfold vp_in; decide
  rw [show Int32.toNatClampNeg 10 = 10 from rfl]
  refine v_iconst (pc := 80) (v := 1) (by decide) dX7_bubble_80 ?_
  refine v_iadd (pc := 81) dX7_bubble_81 ?_
  refine v_iast (pc := 82) ly54 ?_ dX7_bubble_82 ?_
  · unfold vp_in; decide
  rw [show Int32.toNatClampNeg 10 = 10 from rfl]
  refine v_aload_n (pc := 83) dX7_bubble_83 rfl ?_
  refine v_getR (pc := 84) fkX7_26 ly49 rfl dX7_bubble_84 ?_
  refine v_iload_n (pc := 87) dX7_bubble_87 rfl ?_
  refine v_dup2IR (pc := 88) dX7_bubble_88 ?_
  refine v_iald (pc := 89) ly54 ?_ dX7_bubble_89 ?_
  · exact vp_in_nI (show k < 107 by omega) (by omega)
  refine v_iload_n (pc := 90) dX7_bubble_90 rfl ?_
  refine v_isub (pc := 91) dX7_bubble_91 ?_
  refine v_iast (pc := 92) ly54 ?_ dX7_bubble_92 ?_
  · exact vp_in_nI (show k < 107 by omega) (by omega)
  refine v_vret (pc := 93) dX7_bubble_93 (Nat.zero_le _) (Nat.zero_le _) ?_
  refine ⟨?_, rfl⟩
  unfold nBub mUp
  rw [c1, c2, c3, hcl]
  have g8 : mU M 54 (11 + 3 * nb) (M 54 8 + (M 49 2 + z - 1) / z) 54 9 = M 54 9 := by
    simp only [mU]
    rw [if_neg (by omega)]
  have g10 : mU (mU (mU M 54 (11 + 3 * nb) (M 54 8 + (M 49 2 + z - 1) / z)) 54 (12 + 3 * nb) (rem10 (M 50 k + (M 49 2 + z - 1) / z * M 54 9))) 54 (13 + 3 * nb) z 54 10 + 1 = nI (nb + 1) := by
    rw [show mU (mU (mU M 54 (11 + 3 * nb) (M 54 8 + (M 49 2 + z - 1) / z)) 54 (12 + 3 * nb) (rem10 (M 50 k + (M 49 2 + z - 1) / z * M 54 9))) 54 (13 + 3 * nb) z 54 10 = M 54 10 by
      simp only [mU]
      rw [if_neg (by omega), if_neg (by omega), if_neg (by omega)], hnb, nI_1]
  simp only [mU_neA (show (49 : Nat) ≠ 54 by decide), mU_neA (show (50 : Nat) ≠ 54 by decide)]
  rw [g8]
  rw [show (M 50 k + (M 49 2 + z - 1) / z * M 54 9 - (M 50 k + (M 49 2 + z - 1) / z * M 54 9) / 10 * 10) = rem10 (M 50 k + (M 49 2 + z - 1) / z * M 54 9) from rfl]
  rw [← g10]

def nst (M : mM) (k : Nat) : mM := if bt (M 54 7) (nI k) then (if M 54 k = 0 then mU M 54 7 (M 54 7 &&& nbit (nI k)) else mU M 54 k (M 54 k - 1)) else M
def nsN (M : mM) : Nat → mM
  | 0 => M
  | n + 1 => nst (nsN M n) n
def nPass (M : mM) : mM := if M 54 8 = 99 then M else mU (nsN M 7) 54 8 (nsN M 7 54 8 + 1)

set_option maxRecDepth 100000 in
set_option maxHeartbeats 4000000 in
theorem l_npass  {M : mM} {J : mJ}  : ∀ (n i : Nat), n + i = 7 → V RX7 cX7_pass 2 (some .int) false (rmD 1) false LY.length none (mNi LY (fun r0 M1 J1 => r0 = 0 ∧ M1 = mU (nsN M 7) 54 8 (nsN M 7 54 8 + 1) ∧ J1 = J)) 0 0 16 [some (.ref 49), some (.int (nI i))] [] LY (nsN M i) J := by
  intro n
  induction n with
  | zero =>
    intro i hi
    obtain rfl : i = 7 := by omega
    refine v_iload_n (pc := 16) dX7_pass_16 rfl ?_
    refine v_bipush (pc := 17) (v := 7) (by decide) dX7_pass_17 ?_
    refine v_icmp_ge (pc := 19) (tgt := 79) dX7_pass_19 (by decide) (fun c_19 => ?_) (fun c_19 => absurd (by decide) c_19)
    refine v_aload_n (pc := 79) dX7_pass_79 rfl ?_
    refine v_getR (pc := 80) fkX7_26 ly49 rfl dX7_pass_80 ?_
    refine v_bipush (pc := 83) (v := 8) (by decide) dX7_pass_83 ?_
    refine v_dup2IR (pc := 85) dX7_pass_85 ?_
    refine v_iald (pc := 86) ly54 ?_ dX7_pass_86 ?_
    · unfold vp_in; decide
    rw [show Int32.toNatClampNeg 8 = 8 from rfl]
    refine v_iconst (pc := 87) (v := 1) (by decide) dX7_pass_87 ?_
    refine v_iadd (pc := 88) dX7_pass_88 ?_
    refine v_iast (pc := 89) ly54 ?_ dX7_pass_89 ?_
    · unfold vp_in; decide
    rw [show Int32.toNatClampNeg 8 = 8 from rfl]
    refine v_iconst (pc := 90) (v := 0) (by decide) dX7_pass_90 ?_
    refine v_iret (pc := 91) dX7_pass_91 (Nat.zero_le _) (Nat.zero_le _) ?_
    exact ⟨rfl, rfl, rfl⟩
  | succ n ih =>
    intro i hi
    have hb7 : i < 7 := by omega
    have hcl := nI_clamp (show i < 2 ^ 31 by omega)
    refine v_iload_n (pc := 16) dX7_pass_16 rfl ?_
    refine v_bipush (pc := 17) (v := 7) (by decide) dX7_pass_17 ?_
    refine v_icmp_ge (pc := 19) (tgt := 79) dX7_pass_19 (by decide) (fun c_19 => absurd c_19 (nI_ge (b := 7) hb7 (by omega))) (fun c_19 => ?_)
    refine v_aload_n (pc := 22) dX7_pass_22 rfl ?_
    refine v_getR (pc := 23) fkX7_26 ly49 rfl dX7_pass_23 ?_
    refine v_bipush (pc := 26) (v := 7) (by decide) dX7_pass_26 ?_
    refine v_iald (pc := 28) ly54 ?_ dX7_pass_28 ?_
    · unfold vp_in; decide
    rw [show Int32.toNatClampNeg 7 = 7 from rfl]
    refine v_iload_n (pc := 29) dX7_pass_29 rfl ?_
    refine v_cS2i (pc := 30) dX7_pass_30 mkX7_56 m_has (Nat.le_of_ble_eq_true rfl) rfl (Nat.zero_le _) (Nat.zero_le _) (fun r_30 M_30 J_30 h_30 => ?_)
    obtain ⟨e1_30, e2_30, e3_30⟩ := h_30
    replace e1_30 := e1_30.symm
    replace e2_30 := e2_30.symm
    replace e3_30 := e3_30.symm
    subst e1_30 e2_30 e3_30
    refine v_if_eq (pc := 33) (tgt := 73) dX7_pass_33 (by decide) (fun c_33 => ?_) (fun c_33 => ?_)
    · refine v_inc_1 (pc := 73) (v := 1) dX7_pass_73 (by decide) (by decide) rfl ?_
      refine v_goto (pc := 76) (tgt := 16) dX7_pass_76 (by decide) ?_
      have e9 := ih (i + 1) (by omega)
      rw [show nsN M (i + 1) = nst (nsN M i) i from rfl] at e9
      rw [nI_1]
      rw [show nst (nsN M i) i = _ from if_neg (bI_0.mp c_33)] at e9
      exact e9
    · refine v_aload_n (pc := 36) dX7_pass_36 rfl ?_
      refine v_getR (pc := 37) fkX7_26 ly49 rfl dX7_pass_37 ?_
      refine v_iload_n (pc := 40) dX7_pass_40 rfl ?_
      refine v_iald (pc := 41) ly54 ?_ dX7_pass_41 ?_
      · exact vp_in_nI (show i < 107 by omega) (by omega)
      refine v_if_ne (pc := 42) (tgt := 63) dX7_pass_42 (by decide) (fun c_42 => ?_) (fun c_42 => ?_)
      · refine v_aload_n (pc := 63) dX7_pass_63 rfl ?_
        refine v_getR (pc := 64) fkX7_26 ly49 rfl dX7_pass_64 ?_
        refine v_iload_n (pc := 67) dX7_pass_67 rfl ?_
        refine v_dup2IR (pc := 68) dX7_pass_68 ?_
        refine v_iald (pc := 69) ly54 ?_ dX7_pass_69 ?_
        · exact vp_in_nI (show i < 107 by omega) (by omega)
        refine v_iconst (pc := 70) (v := 1) (by decide) dX7_pass_70 ?_
        refine v_isub (pc := 71) dX7_pass_71 ?_
        refine v_iast (pc := 72) ly54 ?_ dX7_pass_72 ?_
        · exact vp_in_nI (show i < 107 by omega) (by omega)
        refine v_inc_1 (pc := 73) (v := 1) dX7_pass_73 (by decide) (by decide) rfl ?_
        refine v_goto (pc := 76) (tgt := 16) dX7_pass_76 (by decide) ?_
        have e9 := ih (i + 1) (by omega)
        rw [show nsN M (i + 1) = nst (nsN M i) i from rfl] at e9
        rw [nI_1]
        rw [hcl] at c_42
        rw [hcl]
        rw [show nst (nsN M i) i = _ from (if_pos (bI_n0.mp c_33)).trans (if_neg c_42)] at e9
        exact e9
      · refine v_aload_n (pc := 45) dX7_pass_45 rfl ?_
        refine v_getR (pc := 46) fkX7_26 ly49 rfl dX7_pass_46 ?_
        refine v_bipush (pc := 49) (v := 7) (by decide) dX7_pass_49 ?_
        refine v_dup2IR (pc := 51) dX7_pass_51 ?_
        refine v_iald (pc := 52) ly54 ?_ dX7_pass_52 ?_
        · unfold vp_in; decide
        rw [show Int32.toNatClampNeg 7 = 7 from rfl]
        refine v_iconst (pc := 53) (v := 1) (by decide) dX7_pass_53 ?_
        refine v_iload_n (pc := 54) dX7_pass_54 rfl ?_
        refine v_ishl (pc := 55) dX7_pass_55 ?_
        refine v_iconst (pc := 56) (v := (-1)) (by decide) dX7_pass_56 ?_
        refine v_ixor (pc := 57) dX7_pass_57 ?_
        refine v_iand (pc := 58) dX7_pass_58 ?_
        refine v_iast (pc := 59) ly54 ?_ dX7_pass_59 ?_
        · unfold vp_in; decide
        rw [show Int32.toNatClampNeg 7 = 7 from rfl]
        refine v_goto (pc := 60) (tgt := 73) dX7_pass_60 (by decide) ?_
        refine v_inc_1 (pc := 73) (v := 1) dX7_pass_73 (by decide) (by decide) rfl ?_
        refine v_goto (pc := 76) (tgt := 16) dX7_pass_76 (by decide) ?_
        have e9 := ih (i + 1) (by omega)
        rw [show nsN M (i + 1) = nst (nsN M i) i from rfl] at e9
        rw [nI_1]
        rw [hcl] at c_42
        rw [show nst (nsN M i) i = _ from (if_pos (bI_n0.mp c_33)).trans (if_pos c_42)] at e9
        exact e9

set_option maxRecDepth 100000 in
set_option maxHeartbeats 4000000 in
theorem m_pass  {M : mM} {J : mJ}  : Ct yX7_pass cX7_pass 2 (some .int) (rmD 1) false [.ref 49] LY M J (mNi LY (fun r0 M1 J1 => r0 = (if M 54 8 = 99 then 4 else 0) ∧ M1 = nPass M ∧ J1 = J)) := by
  refine ct_of (own := RX7) (ini := false) (ls := [some (.ref 49), none]) 1 (by decide +kernel) rfl (fun h => by cases h) rfl (fun ad => by first | exact Nat.le_of_ble_eq_true rfl) ?_
  refine v_aload_n (pc := 0) dX7_pass_0 rfl ?_
  refine v_getR (pc := 1) fkX7_26 ly49 rfl dX7_pass_1 ?_
  refine v_bipush (pc := 4) (v := 8) (by decide) dX7_pass_4 ?_
  refine v_iald (pc := 6) ly54 ?_ dX7_pass_6 ?_
  · unfold vp_in; decide
  rw [show Int32.toNatClampNeg 8 = 8 from rfl]
  refine v_bipush (pc := 7) (v := 99) (by decide) dX7_pass_7 ?_
  refine v_icmp_ne (pc := 9) (tgt := 14) dX7_pass_9 (by decide) (fun c_9 => ?_) (fun c_9 => ?_)
  · refine v_iconst (pc := 14) (v := 0) (by decide) dX7_pass_14 ?_
    refine v_ist_1 (pc := 15) dX7_pass_15 (by decide) rfl ?_
    refine V.mono (fun o a b c q => ?_) (l_npass (M := M) (J := J) 7 0 rfl)
    obtain ⟨q1, r, q2, q3, q4, q5⟩ := q
    exact ⟨q1, r, q2, by rw [if_neg c_9]; exact q3, by unfold nPass; rw [if_neg c_9]; exact q4, q5⟩
  · refine v_iconst (pc := 12) (v := 4) (by decide) dX7_pass_12 ?_
    refine v_iret (pc := 13) dX7_pass_13 (Nat.zero_le _) (Nat.zero_le _) ?_
    exact ⟨by rw [if_pos c_9], by unfold nPass; rw [if_pos c_9], rfl⟩
