/-! the house's calls: members, lagoon, sittings -/
def bv (x : Int32) : Int32 := (1 : Int32) <<< (x &&& 31)
abbrev gM (x : Int32) : Prop := 0 ≤ x ∧ x ≤ 6
abbrev gT (M : mM) (x : Int32) : Prop := 0 ≤ x ∧ x ≤ 6 ∧ bt (M 2 3) x
abbrev gB (M : mM) (x : Int32) : Prop := 0 ≤ x ∧ x ≤ 6 ∧ bt (M 2 4) x
def fSeat (M : mM) (x y z : Int32) : mM := mU (mU (mU (mU M 3 x.toNatClampNeg y) 4 x.toNatClampNeg z) 2 3 (M 2 3 ||| bv x)) 2 4 (M 2 4 ||| bv x)
def fUns (M : mM) (x : Int32) : mM := mU (mU M 2 3 (M 2 3 &&& nbit x)) 2 4 (M 2 4 &&& nbit x)

set_option maxRecDepth 100000 in
set_option maxHeartbeats 4000000 in
theorem c_seat {x y z : Int32} {M : mM} {J : mJ} (hx : gM x) : Ct yX2_seat cX2_seat 4 none (rmD 0) false [.ref 2, .int x, .int y, .int z] LY M J (mNv LY (fun M1 J1 => M1 = fSeat M x y z ∧ J1 = J)) := by
  refine ct_of (own := RX2) (ini := false) (ls := [some (.ref 2), some (.int x), some (.int y), some (.int z)]) 0 (by decide +kernel) rfl (fun h => by cases h) rfl (fun ad => by first | exact Nat.le_of_ble_eq_true rfl) ?_
  refine v_iload_n (pc := 0) dX2_seat_0 rfl ?_
  refine v_if_lt (pc := 1) (tgt := 10) dX2_seat_1 (by decide) (fun c_1 => absurd c_1 (ge0.mpr hx.1)) (fun c_1 => ?_)
  refine v_iload_n (pc := 4) dX2_seat_4 rfl ?_
  refine v_bipush (pc := 5) (v := 7) (by decide) dX2_seat_5 ?_
  refine v_icmp_lt (pc := 7) (tgt := 11) dX2_seat_7 (by decide) (fun c_7 => ?_) (fun c_7 => absurd (Int32.not_le.mp (lt7.mpr hx.2)) c_7)
  refine v_aload_n (pc := 11) dX2_seat_11 rfl ?_
  refine v_getR (pc := 12) fkX2_9 ly2 rfl dX2_seat_12 ?_
  refine v_iload_n (pc := 15) dX2_seat_15 rfl ?_
  refine v_iload_n (pc := 16) dX2_seat_16 rfl ?_
  refine v_iast (pc := 17) ly3 ?_ dX2_seat_17 ?_
  · exact vinP (by decide) hx.1 hx.2
  refine v_aload_n (pc := 18) dX2_seat_18 rfl ?_
  refine v_getR (pc := 19) fkX2_15 ly2 rfl dX2_seat_19 ?_
  refine v_iload_n (pc := 22) dX2_seat_22 rfl ?_
  refine v_iload_n (pc := 23) dX2_seat_23 rfl ?_
  refine v_iast (pc := 24) ly4 ?_ dX2_seat_24 ?_
  · exact vinP (by decide) hx.1 hx.2
  refine v_aload_n (pc := 25) dX2_seat_25 rfl ?_
  refine v_dupR (pc := 26) dX2_seat_26 ?_
  refine v_getI (pc := 27) fkX2_29 ly2 rfl dX2_seat_27 ?_
  refine v_iconst (pc := 30) (v := 1) (by decide) dX2_seat_30 ?_
  refine v_iload_n (pc := 31) dX2_seat_31 rfl ?_
  refine v_ishl (pc := 32) dX2_seat_32 ?_
  refine v_ior (pc := 33) dX2_seat_33 ?_
  refine v_putI (pc := 34) fkX2_29p ly2 rfl dX2_seat_34 ?_
  refine v_aload_n (pc := 37) dX2_seat_37 rfl ?_
  refine v_dupR (pc := 38) dX2_seat_38 ?_
  refine v_getI (pc := 39) fkX2_32 ly2 rfl dX2_seat_39 ?_
  refine v_iconst (pc := 42) (v := 1) (by decide) dX2_seat_42 ?_
  refine v_iload_n (pc := 43) dX2_seat_43 rfl ?_
  refine v_ishl (pc := 44) dX2_seat_44 ?_
  refine v_ior (pc := 45) dX2_seat_45 ?_
  refine v_putI (pc := 46) fkX2_32p ly2 rfl dX2_seat_46 ?_
  refine v_vret (pc := 49) dX2_seat_49 (Nat.zero_le _) (Nat.zero_le _) ?_
  exact ⟨rfl, rfl⟩

set_option maxRecDepth 100000 in
set_option maxHeartbeats 4000000 in
theorem c_unseat {x : Int32} {M : mM} {J : mJ}  : Ct yX2_unseat cX2_unseat 2 none (rmD 0) false [.ref 2, .int x] LY M J (mNv LY (fun M1 J1 => M1 = fUns M x ∧ J1 = J)) := by
  refine ct_of (own := RX2) (ini := false) (ls := [some (.ref 2), some (.int x)]) 0 (by decide +kernel) rfl (fun h => by cases h) rfl (fun ad => by first | exact Nat.le_of_ble_eq_true rfl) ?_
  refine v_aload_n (pc := 0) dX2_unseat_0 rfl ?_
  refine v_dupR (pc := 1) dX2_unseat_1 ?_
  refine v_getI (pc := 2) fkX2_29 ly2 rfl dX2_unseat_2 ?_
  refine v_iconst (pc := 5) (v := 1) (by decide) dX2_unseat_5 ?_
  refine v_iload_n (pc := 6) dX2_unseat_6 rfl ?_
  refine v_ishl (pc := 7) dX2_unseat_7 ?_
  refine v_iconst (pc := 8) (v := (-1)) (by decide) dX2_unseat_8 ?_
  refine v_ixor (pc := 9) dX2_unseat_9 ?_
  refine v_iand (pc := 10) dX2_unseat_10 ?_
  refine v_putI (pc := 11) fkX2_29p ly2 rfl dX2_unseat_11 ?_
  refine v_aload_n (pc := 14) dX2_unseat_14 rfl ?_
  refine v_dupR (pc := 15) dX2_unseat_15 ?_
  refine v_getI (pc := 16) fkX2_32 ly2 rfl dX2_unseat_16 ?_
  refine v_iconst (pc := 19) (v := 1) (by decide) dX2_unseat_19 ?_
  refine v_iload_n (pc := 20) dX2_unseat_20 rfl ?_
  refine v_ishl (pc := 21) dX2_unseat_21 ?_
  refine v_iconst (pc := 22) (v := (-1)) (by decide) dX2_unseat_22 ?_
  refine v_ixor (pc := 23) dX2_unseat_23 ?_
  refine v_iand (pc := 24) dX2_unseat_24 ?_
  refine v_putI (pc := 25) fkX2_32p ly2 rfl dX2_unseat_25 ?_
  refine v_vret (pc := 28) dX2_unseat_28 (Nat.zero_le _) (Nat.zero_le _) ?_
  exact ⟨rfl, rfl⟩

set_option maxRecDepth 100000 in
set_option maxHeartbeats 4000000 in
theorem c_dive {x y z : Int32} {M : mM} {J : mJ}  : Ct yX6_dive cX6_dive 4 (some .int) (rmD 1) false [.ref 0, .int x, .int y, .int z] LY M J (mNi LY (fun r0 M1 J1 => r0 = (if gM x then (if (0 ≤ y ∧ y ≤ 9) ∧ (0 ≤ z ∧ z ≤ 99) then bcI (M 2 4 ||| bv x) else -2) else -1) ∧ M1 = (if gM x then (if (0 ≤ y ∧ y ≤ 9) ∧ (0 ≤ z ∧ z ≤ 99) then fSeat M x y z else M) else M) ∧ J1 = J)) := by
  refine ct_of (own := RX6) (ini := false) (ls := [some (.ref 0), some (.int x), some (.int y), some (.int z)]) 0 (by decide +kernel) rfl (fun h => by cases h) rfl (fun ad => by first | exact Nat.le_of_ble_eq_true rfl) ?_
  refine v_iload_n (pc := 0) dX6_dive_0 rfl ?_
  refine v_iconst (pc := 1) (v := 0) (by decide) dX6_dive_1 ?_
  refine v_bipush (pc := 2) (v := 6) (by decide) dX6_dive_2 ?_
  refine v_cS3i (pc := 4) dX6_dive_4 mkX6_49 c_within (Nat.le_of_ble_eq_true rfl) rfl (Nat.zero_le _) (Nat.zero_le _) (fun r_4 M_4 J_4 h_4 => ?_)
  obtain ⟨e1_4, e2_4, e3_4⟩ := h_4
  replace e1_4 := e1_4.symm
  replace e2_4 := e2_4.symm
  replace e3_4 := e3_4.symm
  subst e1_4 e2_4 e3_4
  refine v_if_ne (pc := 7) (tgt := 12) dX6_dive_7 (by decide) (fun c_7 => ?_) (fun c_7 => ?_)
  · refine v_iload_n (pc := 12) dX6_dive_12 rfl ?_
    refine v_iconst (pc := 13) (v := 0) (by decide) dX6_dive_13 ?_
    refine v_bipush (pc := 14) (v := 9) (by decide) dX6_dive_14 ?_
    refine v_cS3i (pc := 16) dX6_dive_16 mkX6_49 c_within (Nat.le_of_ble_eq_true rfl) rfl (Nat.zero_le _) (Nat.zero_le _) (fun r_16 M_16 J_16 h_16 => ?_)
    obtain ⟨e1_16, e2_16, e3_16⟩ := h_16
    replace e1_16 := e1_16.symm
    replace e2_16 := e2_16.symm
    replace e3_16 := e3_16.symm
    subst e1_16 e2_16 e3_16
    refine v_if_eq (pc := 19) (tgt := 32) dX6_dive_19 (by decide) (fun c_19 => ?_) (fun c_19 => ?_)
    · refine v_bipush (pc := 32) (v := (-2)) (by decide) dX6_dive_32 ?_
      refine v_iret (pc := 34) dX6_dive_34 (Nat.zero_le _) (Nat.zero_le _) ?_
      first | exact ⟨by rw [if_pos (bI_n0.mp c_7), if_neg (fun q => bI_0.mp c_19 q.1)]; try rfl, by rw [if_pos (bI_n0.mp c_7), if_neg (fun q => bI_0.mp c_19 q.1)]; try rfl, rfl⟩ | exact ⟨by rw [if_pos (bI_n0.mp c_7), if_neg (fun q => bI_0.mp c_29 q.2)]; try rfl, by rw [if_pos (bI_n0.mp c_7), if_neg (fun q => bI_0.mp c_29 q.2)]; try rfl, rfl⟩
    · refine v_iload_n (pc := 22) dX6_dive_22 rfl ?_
      refine v_iconst (pc := 23) (v := 0) (by decide) dX6_dive_23 ?_
      refine v_bipush (pc := 24) (v := 99) (by decide) dX6_dive_24 ?_
      refine v_cS3i (pc := 26) dX6_dive_26 mkX6_49 c_within (Nat.le_of_ble_eq_true rfl) rfl (Nat.zero_le _) (Nat.zero_le _) (fun r_26 M_26 J_26 h_26 => ?_)
      obtain ⟨e1_26, e2_26, e3_26⟩ := h_26
      replace e1_26 := e1_26.symm
      replace e2_26 := e2_26.symm
      replace e3_26 := e3_26.symm
      subst e1_26 e2_26 e3_26
      refine v_if_ne (pc := 29) (tgt := 35) dX6_dive_29 (by decide) (fun c_29 => ?_) (fun c_29 => ?_)
      · refine v_aload_n (pc := 35) dX6_dive_35 rfl ?_
        refine v_getR (pc := 36) fkX6_12 ly0 rfl dX6_dive_36 ?_
        refine v_getR (pc := 39) fkX6_53 ly1 rfl dX6_dive_39 ?_
        refine v_iload_n (pc := 42) dX6_dive_42 rfl ?_
        refine v_iload_n (pc := 43) dX6_dive_43 rfl ?_
        refine v_iload_n (pc := 44) dX6_dive_44 rfl ?_
        refine v_cV3v (pc := 45) dX6_dive_45 mkX6_56 (c_seat (bI_n0.mp c_7)) ly2 rfl (Nat.le_of_ble_eq_true rfl) rfl (Nat.zero_le _) (Nat.zero_le _) (fun M_45 J_45 h_45 => ?_)
        obtain ⟨e2_45, e3_45⟩ := h_45
        replace e2_45 := e2_45.symm
        replace e3_45 := e3_45.symm
        subst e2_45 e3_45
        refine v_aload_n (pc := 48) dX6_dive_48 rfl ?_
        refine v_getR (pc := 49) fkX6_12 ly0 rfl dX6_dive_49 ?_
        refine v_getR (pc := 52) fkX6_53 ly1 rfl dX6_dive_52 ?_
        refine v_getI (pc := 55) fkX6_60 ly2 rfl dX6_dive_55 ?_
        refine v_cS1i (pc := 58) dX6_dive_58 mkX6_64 c_bitCount (Nat.le_of_ble_eq_true rfl) rfl (Nat.zero_le _) (Nat.zero_le _) (fun r_58 M_58 J_58 h_58 => ?_)
        obtain ⟨e1_58, e2_58, e3_58⟩ := h_58
        replace e1_58 := e1_58.symm
        replace e2_58 := e2_58.symm
        replace e3_58 := e3_58.symm
        subst e1_58 e2_58 e3_58
        refine v_iret (pc := 61) dX6_dive_61 (Nat.zero_le _) (Nat.zero_le _) ?_
        exact ⟨by rw [if_pos (bI_n0.mp c_7), if_pos ⟨bI_n0.mp c_19, bI_n0.mp c_29⟩]; try rfl, by rw [if_pos (bI_n0.mp c_7), if_pos ⟨bI_n0.mp c_19, bI_n0.mp c_29⟩]; try rfl, rfl⟩
      · refine v_bipush (pc := 32) (v := (-2)) (by decide) dX6_dive_32 ?_
        refine v_iret (pc := 34) dX6_dive_34 (Nat.zero_le _) (Nat.zero_le _) ?_
        first | exact ⟨by rw [if_pos (bI_n0.mp c_7), if_neg (fun q => bI_0.mp c_19 q.1)]; try rfl, by rw [if_pos (bI_n0.mp c_7), if_neg (fun q => bI_0.mp c_19 q.1)]; try rfl, rfl⟩ | exact ⟨by rw [if_pos (bI_n0.mp c_7), if_neg (fun q => bI_0.mp c_29 q.2)]; try rfl, by rw [if_pos (bI_n0.mp c_7), if_neg (fun q => bI_0.mp c_29 q.2)]; try rfl, rfl⟩
  · refine v_iconst (pc := 10) (v := (-1)) (by decide) dX6_dive_10 ?_
    refine v_iret (pc := 11) dX6_dive_11 (Nat.zero_le _) (Nat.zero_le _) ?_
    exact ⟨by rw [if_neg (bI_0.mp c_7)]; try rfl, by rw [if_neg (bI_0.mp c_7)]; try rfl, rfl⟩

set_option maxRecDepth 100000 in
set_option maxHeartbeats 4000000 in
theorem c_leave {x : Int32} {M : mM} {J : mJ}  : Ct yX6_leave cX6_leave 2 (some .int) (rmD 1) false [.ref 0, .int x] LY M J (mNi LY (fun r0 M1 J1 => r0 = (if gT M x then bcI (M 2 3 &&& nbit x) else -1) ∧ M1 = (if gT M x then fUns M x else M) ∧ J1 = J)) := by
  refine ct_of (own := RX6) (ini := false) (ls := [some (.ref 0), some (.int x)]) 0 (by decide +kernel) rfl (fun h => by cases h) rfl (fun ad => by first | exact Nat.le_of_ble_eq_true rfl) ?_
  refine v_aload_n (pc := 0) dX6_leave_0 rfl ?_
  refine v_getR (pc := 1) fkX6_12 ly0 rfl dX6_leave_1 ?_
  refine v_getR (pc := 4) fkX6_53 ly1 rfl dX6_leave_4 ?_
  refine v_iload_n (pc := 7) dX6_leave_7 rfl ?_
  refine v_cV1i (pc := 8) dX6_leave_8 mkX6_70 (c_isThere ly2) ly2 rfl (Nat.le_of_ble_eq_true rfl) rfl (Nat.zero_le _) (Nat.zero_le _) (fun r_8 M_8 J_8 h_8 => ?_)
  obtain ⟨e1_8, e2_8, e3_8⟩ := h_8
  replace e1_8 := e1_8.symm
  replace e2_8 := e2_8.symm
  replace e3_8 := e3_8.symm
  subst e1_8 e2_8 e3_8
  refine v_if_ne (pc := 11) (tgt := 16) dX6_leave_11 (by decide) (fun c_11 => ?_) (fun c_11 => ?_)
  · refine v_aload_n (pc := 16) dX6_leave_16 rfl ?_
    refine v_getR (pc := 17) fkX6_12 ly0 rfl dX6_leave_17 ?_
    refine v_getR (pc := 20) fkX6_53 ly1 rfl dX6_leave_20 ?_
    refine v_iload_n (pc := 23) dX6_leave_23 rfl ?_
    refine v_cV1v (pc := 24) dX6_leave_24 mkX6_74 c_unseat ly2 rfl (Nat.le_of_ble_eq_true rfl) rfl (Nat.zero_le _) (Nat.zero_le _) (fun M_24 J_24 h_24 => ?_)
    obtain ⟨e2_24, e3_24⟩ := h_24
    replace e2_24 := e2_24.symm
    replace e3_24 := e3_24.symm
    subst e2_24 e3_24
    refine v_aload_n (pc := 27) dX6_leave_27 rfl ?_
    refine v_getR (pc := 28) fkX6_12 ly0 rfl dX6_leave_28 ?_
    refine v_getR (pc := 31) fkX6_53 ly1 rfl dX6_leave_31 ?_
    refine v_getI (pc := 34) fkX6_78 ly2 rfl dX6_leave_34 ?_
    refine v_cS1i (pc := 37) dX6_leave_37 mkX6_64 c_bitCount (Nat.le_of_ble_eq_true rfl) rfl (Nat.zero_le _) (Nat.zero_le _) (fun r_37 M_37 J_37 h_37 => ?_)
    obtain ⟨e1_37, e2_37, e3_37⟩ := h_37
    replace e1_37 := e1_37.symm
    replace e2_37 := e2_37.symm
    replace e3_37 := e3_37.symm
    subst e1_37 e2_37 e3_37
    refine v_iret (pc := 40) dX6_leave_40 (Nat.zero_le _) (Nat.zero_le _) ?_
    exact ⟨by rw [if_pos (bI_n0.mp c_11)]; try rfl, by rw [if_pos (bI_n0.mp c_11)]; try rfl, rfl⟩
  · refine v_iconst (pc := 14) (v := (-1)) (by decide) dX6_leave_14 ?_
    refine v_iret (pc := 15) dX6_leave_15 (Nat.zero_le _) (Nat.zero_le _) ?_
    exact ⟨by rw [if_neg (bI_0.mp c_11)]; try rfl, by rw [if_neg (bI_0.mp c_11)]; try rfl, rfl⟩

set_option maxRecDepth 100000 in
set_option maxHeartbeats 4000000 in
theorem c_set {x y : Int32} {M : mM} {J : mJ}  : Ct yX6_set cX6_set 4 (some .int) (rmD 1) false [.ref 0, .int x, .int y] LY M J (mNi LY (fun r0 M1 J1 => r0 = (if x = 0 ∧ (1 ≤ y ∧ y ≤ 40) then M 2 5 else if x = 1 ∧ (0 ≤ y ∧ y ≤ 9) then M 2 6 else -2) ∧ M1 = (if x = 0 ∧ (1 ≤ y ∧ y ≤ 40) then mU M 2 5 y else if x = 1 ∧ (0 ≤ y ∧ y ≤ 9) then mU M 2 6 y else M) ∧ J1 = J)) := by
  refine ct_of (own := RX6) (ini := false) (ls := [some (.ref 0), some (.int x), some (.int y), none]) 1 (by decide +kernel) rfl (fun h => by cases h) rfl (fun ad => by first | exact Nat.le_of_ble_eq_true rfl) ?_
  refine v_iload_n (pc := 0) dX6_set_0 rfl ?_
  refine v_if_ne (pc := 1) (tgt := 38) dX6_set_1 (by decide) (fun c_1 => ?_) (fun c_1 => ?_)
  · refine v_iload_n (pc := 38) dX6_set_38 rfl ?_
    refine v_iconst (pc := 39) (v := 1) (by decide) dX6_set_39 ?_
    refine v_icmp_ne (pc := 40) (tgt := 77) dX6_set_40 (by decide) (fun c_40 => ?_) (fun c_40 => ?_)
    · refine v_bipush (pc := 77) (v := (-2)) (by decide) dX6_set_77 ?_
      refine v_iret (pc := 79) dX6_set_79 (Nat.zero_le _) (Nat.zero_le _) ?_
      have hg : ¬ (x = 0 ∧ (1 ≤ y ∧ y ≤ 40)) := by first | exact fun q => c_1 q.1 | exact fun q => bI_0.mp c_11 q.2
      have hg2 : ¬ (x = 1 ∧ (0 ≤ y ∧ y ≤ 9)) := by first | exact fun q => c_40 q.1 | exact fun q => bI_0.mp c_50 q.2
      exact ⟨by rw [if_neg hg, if_neg hg2]; try rfl, by rw [if_neg hg, if_neg hg2]; try rfl, rfl⟩
    · refine v_iload_n (pc := 43) dX6_set_43 rfl ?_
      refine v_iconst (pc := 44) (v := 0) (by decide) dX6_set_44 ?_
      refine v_bipush (pc := 45) (v := 9) (by decide) dX6_set_45 ?_
      refine v_cS3i (pc := 47) dX6_set_47 mkX6_49 c_within (Nat.le_of_ble_eq_true rfl) rfl (Nat.zero_le _) (Nat.zero_le _) (fun r_47 M_47 J_47 h_47 => ?_)
      obtain ⟨e1_47, e2_47, e3_47⟩ := h_47
      replace e1_47 := e1_47.symm
      replace e2_47 := e2_47.symm
      replace e3_47 := e3_47.symm
      subst e1_47 e2_47 e3_47
      refine v_if_eq (pc := 50) (tgt := 77) dX6_set_50 (by decide) (fun c_50 => ?_) (fun c_50 => ?_)
      · refine v_bipush (pc := 77) (v := (-2)) (by decide) dX6_set_77 ?_
        refine v_iret (pc := 79) dX6_set_79 (Nat.zero_le _) (Nat.zero_le _) ?_
        have hg : ¬ (x = 0 ∧ (1 ≤ y ∧ y ≤ 40)) := by first | exact fun q => c_1 q.1 | exact fun q => bI_0.mp c_11 q.2
        have hg2 : ¬ (x = 1 ∧ (0 ≤ y ∧ y ≤ 9)) := by first | exact fun q => c_40 q.1 | exact fun q => bI_0.mp c_50 q.2
        exact ⟨by rw [if_neg hg, if_neg hg2]; try rfl, by rw [if_neg hg, if_neg hg2]; try rfl, rfl⟩
      · refine v_aload_n (pc := 53) dX6_set_53 rfl ?_
        refine v_getR (pc := 54) fkX6_12 ly0 rfl dX6_set_54 ?_
        refine v_getR (pc := 57) fkX6_53 ly1 rfl dX6_set_57 ?_
        refine v_getI (pc := 60) fkX6_84 ly2 rfl dX6_set_60 ?_
        refine v_ist_3 (pc := 63) dX6_set_63 (by decide) rfl ?_
        refine v_aload_n (pc := 64) dX6_set_64 rfl ?_
        refine v_getR (pc := 65) fkX6_12 ly0 rfl dX6_set_65 ?_
        refine v_getR (pc := 68) fkX6_53 ly1 rfl dX6_set_68 ?_
        refine v_iload_n (pc := 71) dX6_set_71 rfl ?_
        refine v_putI (pc := 72) fkX6_84p ly2 rfl dX6_set_72 ?_
        refine v_iload_n (pc := 75) dX6_set_75 rfl ?_
        refine v_iret (pc := 76) dX6_set_76 (Nat.zero_le _) (Nat.zero_le _) ?_
        have hg : ¬ (x = 0 ∧ (1 ≤ y ∧ y ≤ 40)) := by first | exact fun q => c_1 q.1 | exact fun q => bI_0.mp c_11 q.2
        exact ⟨by rw [if_neg hg, if_pos ⟨c_40, bI_n0.mp c_50⟩]; try rfl, by rw [if_neg hg, if_pos ⟨c_40, bI_n0.mp c_50⟩]; try rfl, rfl⟩
  · refine v_iload_n (pc := 4) dX6_set_4 rfl ?_
    refine v_iconst (pc := 5) (v := 1) (by decide) dX6_set_5 ?_
    refine v_bipush (pc := 6) (v := 40) (by decide) dX6_set_6 ?_
    refine v_cS3i (pc := 8) dX6_set_8 mkX6_49 c_within (Nat.le_of_ble_eq_true rfl) rfl (Nat.zero_le _) (Nat.zero_le _) (fun r_8 M_8 J_8 h_8 => ?_)
    obtain ⟨e1_8, e2_8, e3_8⟩ := h_8
    replace e1_8 := e1_8.symm
    replace e2_8 := e2_8.symm
    replace e3_8 := e3_8.symm
    subst e1_8 e2_8 e3_8
    refine v_if_eq (pc := 11) (tgt := 38) dX6_set_11 (by decide) (fun c_11 => ?_) (fun c_11 => ?_)
    · refine v_iload_n (pc := 38) dX6_set_38 rfl ?_
      refine v_iconst (pc := 39) (v := 1) (by decide) dX6_set_39 ?_
      refine v_icmp_ne (pc := 40) (tgt := 77) dX6_set_40 (by decide) (fun c_40 => ?_) (fun c_40 => ?_)
      · refine v_bipush (pc := 77) (v := (-2)) (by decide) dX6_set_77 ?_
        refine v_iret (pc := 79) dX6_set_79 (Nat.zero_le _) (Nat.zero_le _) ?_
        have hg : ¬ (x = 0 ∧ (1 ≤ y ∧ y ≤ 40)) := by first | exact fun q => c_1 q.1 | exact fun q => bI_0.mp c_11 q.2
        have hg2 : ¬ (x = 1 ∧ (0 ≤ y ∧ y ≤ 9)) := by first | exact fun q => c_40 q.1 | exact fun q => bI_0.mp c_50 q.2
        exact ⟨by rw [if_neg hg, if_neg hg2]; try rfl, by rw [if_neg hg, if_neg hg2]; try rfl, rfl⟩
      · refine v_iload_n (pc := 43) dX6_set_43 rfl ?_
        refine v_iconst (pc := 44) (v := 0) (by decide) dX6_set_44 ?_
        refine v_bipush (pc := 45) (v := 9) (by decide) dX6_set_45 ?_
        refine v_cS3i (pc := 47) dX6_set_47 mkX6_49 c_within (Nat.le_of_ble_eq_true rfl) rfl (Nat.zero_le _) (Nat.zero_le _) (fun r_47 M_47 J_47 h_47 => ?_)
        obtain ⟨e1_47, e2_47, e3_47⟩ := h_47
        replace e1_47 := e1_47.symm
        replace e2_47 := e2_47.symm
        replace e3_47 := e3_47.symm
        subst e1_47 e2_47 e3_47
        refine v_if_eq (pc := 50) (tgt := 77) dX6_set_50 (by decide) (fun c_50 => ?_) (fun c_50 => ?_)
        · refine v_bipush (pc := 77) (v := (-2)) (by decide) dX6_set_77 ?_
          refine v_iret (pc := 79) dX6_set_79 (Nat.zero_le _) (Nat.zero_le _) ?_
          have hg : ¬ (x = 0 ∧ (1 ≤ y ∧ y ≤ 40)) := by first | exact fun q => c_1 q.1 | exact fun q => bI_0.mp c_11 q.2
          have hg2 : ¬ (x = 1 ∧ (0 ≤ y ∧ y ≤ 9)) := by first | exact fun q => c_40 q.1 | exact fun q => bI_0.mp c_50 q.2
          exact ⟨by rw [if_neg hg, if_neg hg2]; try rfl, by rw [if_neg hg, if_neg hg2]; try rfl, rfl⟩
        · refine v_aload_n (pc := 53) dX6_set_53 rfl ?_
          refine v_getR (pc := 54) fkX6_12 ly0 rfl dX6_set_54 ?_
          refine v_getR (pc := 57) fkX6_53 ly1 rfl dX6_set_57 ?_
          refine v_getI (pc := 60) fkX6_84 ly2 rfl dX6_set_60 ?_
          refine v_ist_3 (pc := 63) dX6_set_63 (by decide) rfl ?_
          refine v_aload_n (pc := 64) dX6_set_64 rfl ?_
          refine v_getR (pc := 65) fkX6_12 ly0 rfl dX6_set_65 ?_
          refine v_getR (pc := 68) fkX6_53 ly1 rfl dX6_set_68 ?_
          refine v_iload_n (pc := 71) dX6_set_71 rfl ?_
          refine v_putI (pc := 72) fkX6_84p ly2 rfl dX6_set_72 ?_
          refine v_iload_n (pc := 75) dX6_set_75 rfl ?_
          refine v_iret (pc := 76) dX6_set_76 (Nat.zero_le _) (Nat.zero_le _) ?_
          have hg : ¬ (x = 0 ∧ (1 ≤ y ∧ y ≤ 40)) := by first | exact fun q => c_1 q.1 | exact fun q => bI_0.mp c_11 q.2
          exact ⟨by rw [if_neg hg, if_pos ⟨c_40, bI_n0.mp c_50⟩]; try rfl, by rw [if_neg hg, if_pos ⟨c_40, bI_n0.mp c_50⟩]; try rfl, rfl⟩
    · refine v_aload_n (pc := 14) dX6_set_14 rfl ?_
      refine v_getR (pc := 15) fkX6_12 ly0 rfl dX6_set_15 ?_
      refine v_getR (pc := 18) fkX6_53 ly1 rfl dX6_set_18 ?_
      refine v_getI (pc := 21) fkX6_81 ly2 rfl dX6_set_21 ?_
      refine v_ist_3 (pc := 24) dX6_set_24 (by decide) rfl ?_
      refine v_aload_n (pc := 25) dX6_set_25 rfl ?_
      refine v_getR (pc := 26) fkX6_12 ly0 rfl dX6_set_26 ?_
      refine v_getR (pc := 29) fkX6_53 ly1 rfl dX6_set_29 ?_
      refine v_iload_n (pc := 32) dX6_set_32 rfl ?_
      refine v_putI (pc := 33) fkX6_81p ly2 rfl dX6_set_33 ?_
      refine v_iload_n (pc := 36) dX6_set_36 rfl ?_
      refine v_iret (pc := 37) dX6_set_37 (Nat.zero_le _) (Nat.zero_le _) ?_
      exact ⟨by rw [if_pos ⟨c_1, bI_n0.mp c_11⟩]; try rfl, by rw [if_pos ⟨c_1, bI_n0.mp c_11⟩]; try rfl, rfl⟩

set_option maxRecDepth 100000 in
set_option maxHeartbeats 4000000 in
theorem c_clear  {M : mM} {J : mJ}  : Ct yX0_clear cX0_clear 1 none (rmD 0) false [.ref 5] LY M J (mNv LY (fun M1 J1 => M1 = mU (mU M 5 2 0) 5 3 0 ∧ J1 = J)) := by
  refine ct_of (own := RX0) (ini := false) (ls := [some (.ref 5)]) 0 (by decide +kernel) rfl (fun h => by cases h) rfl (fun ad => by first | exact Nat.le_of_ble_eq_true rfl) ?_
  refine v_aload_n (pc := 0) dX0_clear_0 rfl ?_
  refine v_iconst (pc := 1) (v := 0) (by decide) dX0_clear_1 ?_
  refine v_putI (pc := 2) fkX0_18p ly5 rfl dX0_clear_2 ?_
  refine v_aload_n (pc := 5) dX0_clear_5 rfl ?_
  refine v_iconst (pc := 6) (v := 0) (by decide) dX0_clear_6 ?_
  refine v_putI (pc := 7) fkX0_22p ly5 rfl dX0_clear_7 ?_
  refine v_vret (pc := 10) dX0_clear_10 (Nat.zero_le _) (Nat.zero_le _) ?_
  exact ⟨rfl, rfl⟩

set_option maxRecDepth 100000 in
set_option maxHeartbeats 4000000 in
theorem c_close  {M : mM} {J : mJ}  : Ct yX6_close cX6_close 2 (some .int) (rmD 1) false [.ref 0] LY M J (mNi LY (fun r0 M1 J1 => r0 = M 5 3 ∧ M1 = mU (mU (mU M 5 2 0) 5 3 0) 2 7 0 ∧ J1 = J)) := by
  refine ct_of (own := RX6) (ini := false) (ls := [some (.ref 0), none]) 1 (by decide +kernel) rfl (fun h => by cases h) rfl (fun ad => by first | exact Nat.le_of_ble_eq_true rfl) ?_
  refine v_aload_n (pc := 0) dX6_close_0 rfl ?_
  refine v_getR (pc := 1) fkX6_12 ly0 rfl dX6_close_1 ?_
  refine v_getR (pc := 4) fkX6_53 ly1 rfl dX6_close_4 ?_
  refine v_getR (pc := 7) fkX6_87 ly2 rfl dX6_close_7 ?_
  refine v_getI (pc := 10) fkX6_91 ly5 rfl dX6_close_10 ?_
  refine v_ist_1 (pc := 13) dX6_close_13 (by decide) rfl ?_
  refine v_aload_n (pc := 14) dX6_close_14 rfl ?_
  refine v_getR (pc := 15) fkX6_12 ly0 rfl dX6_close_15 ?_
  refine v_getR (pc := 18) fkX6_53 ly1 rfl dX6_close_18 ?_
  refine v_getR (pc := 21) fkX6_87 ly2 rfl dX6_close_21 ?_
  refine v_cV0v (pc := 24) dX6_close_24 mkX6_96 c_clear ly5 rfl (Nat.le_of_ble_eq_true rfl) rfl (Nat.zero_le _) (Nat.zero_le _) (fun M_24 J_24 h_24 => ?_)
  obtain ⟨e2_24, e3_24⟩ := h_24
  replace e2_24 := e2_24.symm
  replace e3_24 := e3_24.symm
  subst e2_24 e3_24
  refine v_aload_n (pc := 27) dX6_close_27 rfl ?_
  refine v_getR (pc := 28) fkX6_12 ly0 rfl dX6_close_28 ?_
  refine v_getR (pc := 31) fkX6_53 ly1 rfl dX6_close_31 ?_
  refine v_iconst (pc := 34) (v := 0) (by decide) dX6_close_34 ?_
  refine v_putI (pc := 35) fkX6_99p ly2 rfl dX6_close_35 ?_
  refine v_iload_n (pc := 38) dX6_close_38 rfl ?_
  refine v_iret (pc := 39) dX6_close_39 (Nat.zero_le _) (Nat.zero_le _) ?_
  exact ⟨rfl, rfl, rfl⟩

set_option maxRecDepth 100000 in
set_option maxHeartbeats 4000000 in
theorem c_say {x : Int32} {n : Nat} {M : mM} {J : mJ} (hn : M 44 1 = nI n) (h60 : n ≤ 60) : Ct yX6_say cX6_say 2 (some .int) (rmD 2) false [.ref 0, .int x] LY M J (mNi LY (fun r0 M1 J1 => r0 = (if 33 ≤ x ∧ x ≤ 126 then (if n < 60 then nI (n + 1) else -4) else -2) ∧ M1 = (if 33 ≤ x ∧ x ≤ 126 then (if n < 60 then mU (mU M 45 n x) 44 1 (nI (n + 1)) else M) else M) ∧ J1 = J)) := by
  refine ct_of (own := RX6) (ini := false) (ls := [some (.ref 0), some (.int x)]) 0 (by decide +kernel) rfl (fun h => by cases h) rfl (fun ad => by first | exact Nat.le_of_ble_eq_true rfl) ?_
  refine v_iload_n (pc := 0) dX6_say_0 rfl ?_
  refine v_bipush (pc := 1) (v := 33) (by decide) dX6_say_1 ?_
  refine v_bipush (pc := 3) (v := 126) (by decide) dX6_say_3 ?_
  refine v_cS3i (pc := 5) dX6_say_5 mkX6_49 c_within (Nat.le_of_ble_eq_true rfl) rfl (Nat.zero_le _) (Nat.zero_le _) (fun r_5 M_5 J_5 h_5 => ?_)
  obtain ⟨e1_5, e2_5, e3_5⟩ := h_5
  replace e1_5 := e1_5.symm
  replace e2_5 := e2_5.symm
  replace e3_5 := e3_5.symm
  subst e1_5 e2_5 e3_5
  refine v_if_ne (pc := 8) (tgt := 14) dX6_say_8 (by decide) (fun c_8 => ?_) (fun c_8 => ?_)
  · refine v_aload_n (pc := 14) dX6_say_14 rfl ?_
    refine v_getR (pc := 15) fkX6_30 ly0 rfl dX6_say_15 ?_
    refine v_getI (pc := 18) fkX6_102 ly44 rfl dX6_say_18 ?_
    refine v_bipush (pc := 21) (v := 60) (by decide) dX6_say_21 ?_
    refine v_icmp_lt (pc := 23) (tgt := 29) dX6_say_23 (by decide) (fun c_23 => ?_) (fun c_23 => ?_)
    · have hlt : n < 60 := by rw [hn] at c_23; exact (nI_ltI (b := 60) (by omega) (by omega)).mp c_23
      refine v_aload_n (pc := 29) dX6_say_29 rfl ?_
      refine v_getR (pc := 30) fkX6_30 ly0 rfl dX6_say_30 ?_
      refine v_iload_n (pc := 33) dX6_say_33 rfl ?_
      refine v_cV1v (pc := 34) dX6_say_34 mkX6_105 (c_padAdd hn hlt) ly44 rfl (Nat.le_of_ble_eq_true rfl) rfl (Nat.zero_le _) (Nat.zero_le _) (fun M_34 J_34 h_34 => ?_)
      obtain ⟨e2_34, e3_34⟩ := h_34
      replace e2_34 := e2_34.symm
      replace e3_34 := e3_34.symm
      subst e2_34 e3_34
      refine v_aload_n (pc := 37) dX6_say_37 rfl ?_
      refine v_getR (pc := 38) fkX6_30 ly0 rfl dX6_say_38 ?_
      refine v_getI (pc := 41) fkX6_102 ly44 rfl dX6_say_41 ?_
      refine v_iret (pc := 44) dX6_say_44 (Nat.zero_le _) (Nat.zero_le _) ?_
      exact ⟨by rw [if_pos (bI_n0.mp c_8), if_pos hlt]; try rfl, by rw [if_pos (bI_n0.mp c_8), if_pos hlt]; try rfl, rfl⟩
    · have hlt : ¬ n < 60 := by rw [hn] at c_23; exact fun q => c_23 ((nI_ltI (b := 60) (by omega) (by omega)).mpr q)
      refine v_bipush (pc := 26) (v := (-4)) (by decide) dX6_say_26 ?_
      refine v_iret (pc := 28) dX6_say_28 (Nat.zero_le _) (Nat.zero_le _) ?_
      exact ⟨by rw [if_pos (bI_n0.mp c_8), if_neg hlt]; try rfl, by rw [if_pos (bI_n0.mp c_8), if_neg hlt]; try rfl, rfl⟩
  · refine v_bipush (pc := 11) (v := (-2)) (by decide) dX6_say_11 ?_
    refine v_iret (pc := 13) dX6_say_13 (Nat.zero_le _) (Nat.zero_le _) ?_
    exact ⟨by rw [if_neg (bI_0.mp c_8)]; try rfl, by rw [if_neg (bI_0.mp c_8)]; try rfl, rfl⟩

set_option maxRecDepth 100000 in
set_option maxHeartbeats 4000000 in
theorem c_wipe  {M : mM} {J : mJ}  : Ct yX6_wipe cX6_wipe 2 (some .int) (rmD 0) false [.ref 0] LY M J (mNi LY (fun r0 M1 J1 => r0 = M 44 1 ∧ M1 = mU M 44 1 0 ∧ J1 = J)) := by
  refine ct_of (own := RX6) (ini := false) (ls := [some (.ref 0), none]) 1 (by decide +kernel) rfl (fun h => by cases h) rfl (fun ad => by first | exact Nat.le_of_ble_eq_true rfl) ?_
  refine v_aload_n (pc := 0) dX6_wipe_0 rfl ?_
  refine v_getR (pc := 1) fkX6_30 ly0 rfl dX6_wipe_1 ?_
  refine v_getI (pc := 4) fkX6_102 ly44 rfl dX6_wipe_4 ?_
  refine v_ist_1 (pc := 7) dX6_wipe_7 (by decide) rfl ?_
  refine v_aload_n (pc := 8) dX6_wipe_8 rfl ?_
  refine v_getR (pc := 9) fkX6_30 ly0 rfl dX6_wipe_9 ?_
  refine v_iconst (pc := 12) (v := 0) (by decide) dX6_wipe_12 ?_
  refine v_putI (pc := 13) fkX6_102p ly44 rfl dX6_wipe_13 ?_
  refine v_iload_n (pc := 16) dX6_wipe_16 rfl ?_
  refine v_iret (pc := 17) dX6_wipe_17 (Nat.zero_le _) (Nat.zero_le _) ?_
  exact ⟨rfl, rfl, rfl⟩

set_option maxRecDepth 100000 in
set_option maxHeartbeats 4000000 in
theorem c_faultC {n : Nat} {M : mM} {J : mJ} (hn : M 44 1 = nI n) (h60 : n ≤ 60) : Ct yX6_fault cX6_fault 1 (some .int) (rmD 3) false [.ref 0] LY M J (mNi LY (fun r0 M1 J1 => r0 = cFl (M 45) n 61 0 ∧ M1 = M ∧ J1 = J)) := by
  refine ct_of (own := RX6) (ini := false) (ls := [some (.ref 0)]) 0 (by decide +kernel) rfl (fun h => by cases h) rfl (fun ad => by first | exact Nat.le_of_ble_eq_true rfl) ?_
  refine v_aload_n (pc := 0) dX6_fault_0 rfl ?_
  refine v_getR (pc := 1) fkX6_30 ly0 rfl dX6_fault_1 ?_
  refine v_cV0i (pc := 4) dX6_fault_4 mkX6_108 (c_fault hn h60) ly44 rfl (Nat.le_of_ble_eq_true rfl) rfl (Nat.zero_le _) (Nat.zero_le _) (fun r_4 M_4 J_4 h_4 => ?_)
  obtain ⟨e1_4, e2_4, e3_4⟩ := h_4
  replace e1_4 := e1_4.symm
  replace e2_4 := e2_4.symm
  replace e3_4 := e3_4.symm
  subst e1_4 e2_4 e3_4
  refine v_iret (pc := 7) dX6_fault_7 (Nat.zero_le _) (Nat.zero_le _) ?_
  exact ⟨rfl, rfl, rfl⟩

set_option maxRecDepth 100000 in
set_option maxHeartbeats 4000000 in
theorem c_judge {x : Int32} {n : Nat} {M : mM} {J : mJ} (hn : M 44 1 = nI n) (h60 : n ≤ 60) (hwf : WFn M) : Ct yX6_judge cX6_judge 2 (some .int) (rmD 6) false [.ref 0, .int x] LY M J (mNi LY (fun r0 M1 J1 => r0 = (if 0 ≤ x ∧ x ≤ 1 then (if cFl (M 45) n 61 0 = -6 then (if okT M n then -6 else if x = 0 then tryT M n 46 0 else tryT M n 46 1) else -5) else -2) ∧ M1 = (if 0 ≤ x ∧ x ≤ 1 then tryT M n else M) ∧ J1 = J)) := by
  refine ct_of (own := RX6) (ini := false) (ls := [some (.ref 0), some (.int x)]) 0 (by decide +kernel) rfl (fun h => by cases h) rfl (fun ad => by first | exact Nat.le_of_ble_eq_true rfl) ?_
  refine v_iload_n (pc := 0) dX6_judge_0 rfl ?_
  refine v_iconst (pc := 1) (v := 0) (by decide) dX6_judge_1 ?_
  refine v_iconst (pc := 2) (v := 1) (by decide) dX6_judge_2 ?_
  refine v_cS3i (pc := 3) dX6_judge_3 mkX6_49 c_within (Nat.le_of_ble_eq_true rfl) rfl (Nat.zero_le _) (Nat.zero_le _) (fun r_3 M_3 J_3 h_3 => ?_)
  obtain ⟨e1_3, e2_3, e3_3⟩ := h_3
  replace e1_3 := e1_3.symm
  replace e2_3 := e2_3.symm
  replace e3_3 := e3_3.symm
  subst e1_3 e2_3 e3_3
  refine v_if_ne (pc := 6) (tgt := 12) dX6_judge_6 (by decide) (fun c_6 => ?_) (fun c_6 => ?_)
  · refine v_aload_n (pc := 12) dX6_judge_12 rfl ?_
    refine v_getR (pc := 13) fkX6_30 ly0 rfl dX6_judge_13 ?_
    refine v_cV0i (pc := 16) dX6_judge_16 mkX6_108 (c_fault hn h60) ly44 rfl (Nat.le_of_ble_eq_true rfl) rfl (Nat.zero_le _) (Nat.zero_le _) (fun r_16 M_16 J_16 h_16 => ?_)
    obtain ⟨e1_16, e2_16, e3_16⟩ := h_16
    replace e1_16 := e1_16.symm
    replace e2_16 := e2_16.symm
    replace e3_16 := e3_16.symm
    subst e1_16 e2_16 e3_16
    refine v_bipush (pc := 19) (v := (-6)) (by decide) dX6_judge_19 ?_
    refine v_icmp_eq (pc := 21) (tgt := 27) dX6_judge_21 (by decide) (fun c_21 => ?_) (fun c_21 => ?_)
    · refine v_aload_n (pc := 27) dX6_judge_27 rfl ?_
      refine v_cV0i (pc := 28) dX6_judge_28 mkX6_112 (c_tryPad hn h60 hwf) ly0 rfl (Nat.le_of_ble_eq_true rfl) rfl (Nat.zero_le _) (Nat.zero_le _) (fun r_28 M_28 J_28 h_28 => ?_)
      obtain ⟨e1_28, e2_28, e3_28⟩ := h_28
      replace e1_28 := e1_28.symm
      replace e2_28 := e2_28.symm
      replace e3_28 := e3_28.symm
      subst e1_28 e2_28 e3_28
      refine v_if_eq (pc := 31) (tgt := 37) dX6_judge_31 (by decide) (fun c_31 => ?_) (fun c_31 => ?_)
      · refine v_iload_n (pc := 37) dX6_judge_37 rfl ?_
        refine v_if_ne (pc := 38) (tgt := 51) dX6_judge_38 (by decide) (fun c_38 => ?_) (fun c_38 => ?_)
        · refine v_aload_n (pc := 51) dX6_judge_51 rfl ?_
          refine v_getR (pc := 52) fkX6_37 ly0 rfl dX6_judge_52 ?_
          refine v_getI (pc := 55) fkX6_119 ly46 rfl dX6_judge_55 ?_
          refine v_iret (pc := 58) dX6_judge_58 (Nat.zero_le _) (Nat.zero_le _) ?_
          first | exact ⟨by rw [if_pos (bI_n0.mp c_6), if_pos c_21, if_neg (bI_0.mp c_31), if_pos c_38], by rw [if_pos (bI_n0.mp c_6)], rfl⟩ | exact ⟨by rw [if_pos (bI_n0.mp c_6), if_pos c_21, if_neg (bI_0.mp c_31), if_neg c_38], by rw [if_pos (bI_n0.mp c_6)], rfl⟩
        · refine v_aload_n (pc := 41) dX6_judge_41 rfl ?_
          refine v_getR (pc := 42) fkX6_37 ly0 rfl dX6_judge_42 ?_
          refine v_getI (pc := 45) fkX6_116 ly46 rfl dX6_judge_45 ?_
          refine v_goto (pc := 48) (tgt := 58) dX6_judge_48 (by decide) ?_
          refine v_iret (pc := 58) dX6_judge_58 (Nat.zero_le _) (Nat.zero_le _) ?_
          first | exact ⟨by rw [if_pos (bI_n0.mp c_6), if_pos c_21, if_neg (bI_0.mp c_31), if_pos c_38], by rw [if_pos (bI_n0.mp c_6)], rfl⟩ | exact ⟨by rw [if_pos (bI_n0.mp c_6), if_pos c_21, if_neg (bI_0.mp c_31), if_neg c_38], by rw [if_pos (bI_n0.mp c_6)], rfl⟩
      · refine v_bipush (pc := 34) (v := (-6)) (by decide) dX6_judge_34 ?_
        refine v_iret (pc := 36) dX6_judge_36 (Nat.zero_le _) (Nat.zero_le _) ?_
        exact ⟨by rw [if_pos (bI_n0.mp c_6), if_pos c_21, if_pos (bI_n0.mp c_31)], by rw [if_pos (bI_n0.mp c_6)], rfl⟩
    · refine v_bipush (pc := 24) (v := (-5)) (by decide) dX6_judge_24 ?_
      refine v_iret (pc := 26) dX6_judge_26 (Nat.zero_le _) (Nat.zero_le _) ?_
      exact ⟨by rw [if_pos (bI_n0.mp c_6), if_neg c_21], by rw [if_pos (bI_n0.mp c_6)]; unfold tryT; rw [if_neg c_21], rfl⟩
  · refine v_bipush (pc := 9) (v := (-2)) (by decide) dX6_judge_9 ?_
    refine v_iret (pc := 11) dX6_judge_11 (Nat.zero_le _) (Nat.zero_le _) ?_
    exact ⟨by rw [if_neg (bI_0.mp c_6)]; try rfl, by rw [if_neg (bI_0.mp c_6)]; try rfl, rfl⟩

set_option maxRecDepth 100000 in
set_option maxHeartbeats 4000000 in
theorem c_done {n : Nat} {M : mM} {J : mJ} (hn : M 44 1 = nI n) (h60 : n ≤ 60) (hwf : WFn M) : Ct yX6_done cX6_done 1 (some .int) (rmD 6) false [.ref 0] LY M J (mNi LY (fun r0 M1 J1 => r0 = (if okT M n then tryT M n 46 0 else -5) ∧ M1 = (if okT M n then mU (cLg (tryT M n) 2 38) 44 1 0 else tryT M n) ∧ J1 = J)) := by
  refine ct_of (own := RX6) (ini := false) (ls := [some (.ref 0)]) 0 (by decide +kernel) rfl (fun h => by cases h) rfl (fun ad => by first | exact Nat.le_of_ble_eq_true rfl) ?_
  refine v_aload_n (pc := 0) dX6_done_0 rfl ?_
  refine v_cV0i (pc := 1) dX6_done_1 mkX6_112 (c_tryPad hn h60 hwf) ly0 rfl (Nat.le_of_ble_eq_true rfl) rfl (Nat.zero_le _) (Nat.zero_le _) (fun r_1 M_1 J_1 h_1 => ?_)
  obtain ⟨e1_1, e2_1, e3_1⟩ := h_1
  replace e1_1 := e1_1.symm
  replace e2_1 := e2_1.symm
  replace e3_1 := e3_1.symm
  subst e1_1 e2_1 e3_1
  refine v_if_ne (pc := 4) (tgt := 10) dX6_done_4 (by decide) (fun c_4 => ?_) (fun c_4 => ?_)
  · refine v_aload_n (pc := 10) dX6_done_10 rfl ?_
    refine v_getR (pc := 11) fkX6_12 ly0 rfl dX6_done_11 ?_
    refine v_getR (pc := 14) fkX6_53 ly1 rfl dX6_done_14 ?_
    refine v_aload_n (pc := 17) dX6_done_17 rfl ?_
    refine v_getR (pc := 18) fkX6_23 ly0 rfl dX6_done_18 ?_
    refine v_cV1v (pc := 21) dX6_done_21 mkX6_122 c_lgCopy_2_38 ly2 rfl (Nat.le_of_ble_eq_true rfl) rfl (Nat.zero_le _) (Nat.zero_le _) (fun M_21 J_21 h_21 => ?_)
    obtain ⟨e2_21, e3_21⟩ := h_21
    replace e2_21 := e2_21.symm
    replace e3_21 := e3_21.symm
    subst e2_21 e3_21
    refine v_aload_n (pc := 24) dX6_done_24 rfl ?_
    refine v_getR (pc := 25) fkX6_30 ly0 rfl dX6_done_25 ?_
    refine v_iconst (pc := 28) (v := 0) (by decide) dX6_done_28 ?_
    refine v_putI (pc := 29) fkX6_102p ly44 rfl dX6_done_29 ?_
    refine v_aload_n (pc := 32) dX6_done_32 rfl ?_
    refine v_getR (pc := 33) fkX6_37 ly0 rfl dX6_done_33 ?_
    refine v_getI (pc := 36) fkX6_116 ly46 rfl dX6_done_36 ?_
    refine v_iret (pc := 39) dX6_done_39 (Nat.zero_le _) (Nat.zero_le _) ?_
    exact ⟨by rw [if_pos (bI_n0.mp c_4), mU_neA (by decide), cLg_ne (by omega)], by rw [if_pos (bI_n0.mp c_4)], rfl⟩
  · refine v_bipush (pc := 7) (v := (-5)) (by decide) dX6_done_7 ?_
    refine v_iret (pc := 9) dX6_done_9 (Nat.zero_le _) (Nat.zero_le _) ?_
    exact ⟨by rw [if_neg (bI_0.mp c_4)]; try rfl, by rw [if_neg (bI_0.mp c_4)]; try rfl, rfl⟩

set_option maxRecDepth 100000 in
set_option maxHeartbeats 4000000 in
theorem c_behind {x y : Int32} {n : Nat} {M : mM} {J : mJ} (hn : M 44 1 = nI n) (h60 : n ≤ 60) (hwf : WFn M) : Ct yX6_behind cX6_behind 3 (some .int) (rmD 6) false [.ref 0, .int x, .int y] LY M J (mNi LY (fun r0 M1 J1 => r0 = (if gT M x then (if 0 ≤ y ∧ y ≤ 1 then (if okT M n then (if y = 0 then f7 (tryT M n 40) x else bI (0 ≤ x ∧ x ≤ 6 ∧ bt (tryT M n 38 4) x)) else -5) else -2) else -1) ∧ M1 = (if gT M x then (if 0 ≤ y ∧ y ≤ 1 then tryT M n else M) else M) ∧ J1 = J)) := by
  refine ct_of (own := RX6) (ini := false) (ls := [some (.ref 0), some (.int x), some (.int y)]) 0 (by decide +kernel) rfl (fun h => by cases h) rfl (fun ad => by first | exact Nat.le_of_ble_eq_true rfl) ?_
  refine v_aload_n (pc := 0) dX6_behind_0 rfl ?_
  refine v_getR (pc := 1) fkX6_12 ly0 rfl dX6_behind_1 ?_
  refine v_getR (pc := 4) fkX6_53 ly1 rfl dX6_behind_4 ?_
  refine v_iload_n (pc := 7) dX6_behind_7 rfl ?_
  refine v_cV1i (pc := 8) dX6_behind_8 mkX6_70 (c_isThere ly2) ly2 rfl (Nat.le_of_ble_eq_true rfl) rfl (Nat.zero_le _) (Nat.zero_le _) (fun r_8 M_8 J_8 h_8 => ?_)
  obtain ⟨e1_8, e2_8, e3_8⟩ := h_8
  replace e1_8 := e1_8.symm
  replace e2_8 := e2_8.symm
  replace e3_8 := e3_8.symm
  subst e1_8 e2_8 e3_8
  refine v_if_ne (pc := 11) (tgt := 16) dX6_behind_11 (by decide) (fun c_11 => ?_) (fun c_11 => ?_)
  · refine v_iload_n (pc := 16) dX6_behind_16 rfl ?_
    refine v_iconst (pc := 17) (v := 0) (by decide) dX6_behind_17 ?_
    refine v_iconst (pc := 18) (v := 1) (by decide) dX6_behind_18 ?_
    refine v_cS3i (pc := 19) dX6_behind_19 mkX6_49 c_within (Nat.le_of_ble_eq_true rfl) rfl (Nat.zero_le _) (Nat.zero_le _) (fun r_19 M_19 J_19 h_19 => ?_)
    obtain ⟨e1_19, e2_19, e3_19⟩ := h_19
    replace e1_19 := e1_19.symm
    replace e2_19 := e2_19.symm
    replace e3_19 := e3_19.symm
    subst e1_19 e2_19 e3_19
    refine v_if_ne (pc := 22) (tgt := 28) dX6_behind_22 (by decide) (fun c_22 => ?_) (fun c_22 => ?_)
    · refine v_aload_n (pc := 28) dX6_behind_28 rfl ?_
      refine v_cV0i (pc := 29) dX6_behind_29 mkX6_112 (c_tryPad hn h60 hwf) ly0 rfl (Nat.le_of_ble_eq_true rfl) rfl (Nat.zero_le _) (Nat.zero_le _) (fun r_29 M_29 J_29 h_29 => ?_)
      obtain ⟨e1_29, e2_29, e3_29⟩ := h_29
      replace e1_29 := e1_29.symm
      replace e2_29 := e2_29.symm
      replace e3_29 := e3_29.symm
      subst e1_29 e2_29 e3_29
      refine v_if_ne (pc := 32) (tgt := 38) dX6_behind_32 (by decide) (fun c_32 => ?_) (fun c_32 => ?_)
      · refine v_iload_n (pc := 38) dX6_behind_38 rfl ?_
        refine v_if_ne (pc := 39) (tgt := 51) dX6_behind_39 (by decide) (fun c_39 => ?_) (fun c_39 => ?_)
        · refine v_aload_n (pc := 51) dX6_behind_51 rfl ?_
          refine v_getR (pc := 52) fkX6_23 ly0 rfl dX6_behind_52 ?_
          refine v_iload_n (pc := 55) dX6_behind_55 rfl ?_
          refine v_cV1i (pc := 56) dX6_behind_56 mkX6_129 (c_isBelow ly38) ly38 rfl (Nat.le_of_ble_eq_true rfl) rfl (Nat.zero_le _) (Nat.zero_le _) (fun r_56 M_56 J_56 h_56 => ?_)
          obtain ⟨e1_56, e2_56, e3_56⟩ := h_56
          replace e1_56 := e1_56.symm
          replace e2_56 := e2_56.symm
          replace e3_56 := e3_56.symm
          subst e1_56 e2_56 e3_56
          refine v_if_eq (pc := 59) (tgt := 66) dX6_behind_59 (by decide) (fun c_59 => ?_) (fun c_59 => ?_)
          · refine v_iconst (pc := 66) (v := 0) (by decide) dX6_behind_66 ?_
            refine v_iret (pc := 67) dX6_behind_67 (Nat.zero_le _) (Nat.zero_le _) ?_
            first | exact ⟨by rw [if_pos (bI_n0.mp c_11), if_pos (bI_n0.mp c_22), if_pos (bI_n0.mp c_32), if_neg c_39]; exact bI_t (bI_n0.mp c_59), by rw [if_pos (bI_n0.mp c_11), if_pos (bI_n0.mp c_22)], rfl⟩ | exact ⟨by rw [if_pos (bI_n0.mp c_11), if_pos (bI_n0.mp c_22), if_pos (bI_n0.mp c_32), if_neg c_39]; exact bI_f (bI_0.mp c_59), by rw [if_pos (bI_n0.mp c_11), if_pos (bI_n0.mp c_22)], rfl⟩
          · refine v_iconst (pc := 62) (v := 1) (by decide) dX6_behind_62 ?_
            refine v_goto (pc := 63) (tgt := 67) dX6_behind_63 (by decide) ?_
            refine v_iret (pc := 67) dX6_behind_67 (Nat.zero_le _) (Nat.zero_le _) ?_
            first | exact ⟨by rw [if_pos (bI_n0.mp c_11), if_pos (bI_n0.mp c_22), if_pos (bI_n0.mp c_32), if_neg c_39]; exact bI_t (bI_n0.mp c_59), by rw [if_pos (bI_n0.mp c_11), if_pos (bI_n0.mp c_22)], rfl⟩ | exact ⟨by rw [if_pos (bI_n0.mp c_11), if_pos (bI_n0.mp c_22), if_pos (bI_n0.mp c_32), if_neg c_39]; exact bI_f (bI_0.mp c_59), by rw [if_pos (bI_n0.mp c_11), if_pos (bI_n0.mp c_22)], rfl⟩
        · refine v_aload_n (pc := 42) dX6_behind_42 rfl ?_
          refine v_getR (pc := 43) fkX6_23 ly0 rfl dX6_behind_43 ?_
          refine v_iload_n (pc := 46) dX6_behind_46 rfl ?_
          refine v_cV1i (pc := 47) dX6_behind_47 mkX6_126 (c_breathOf ly38 ly40) ly38 rfl (Nat.le_of_ble_eq_true rfl) rfl (Nat.zero_le _) (Nat.zero_le _) (fun r_47 M_47 J_47 h_47 => ?_)
          obtain ⟨e1_47, e2_47, e3_47⟩ := h_47
          replace e1_47 := e1_47.symm
          replace e2_47 := e2_47.symm
          replace e3_47 := e3_47.symm
          subst e1_47 e2_47 e3_47
          refine v_iret (pc := 50) dX6_behind_50 (Nat.zero_le _) (Nat.zero_le _) ?_
          exact ⟨by rw [if_pos (bI_n0.mp c_11), if_pos (bI_n0.mp c_22), if_pos (bI_n0.mp c_32), if_pos c_39], by rw [if_pos (bI_n0.mp c_11), if_pos (bI_n0.mp c_22)], rfl⟩
      · refine v_bipush (pc := 35) (v := (-5)) (by decide) dX6_behind_35 ?_
        refine v_iret (pc := 37) dX6_behind_37 (Nat.zero_le _) (Nat.zero_le _) ?_
        exact ⟨by rw [if_pos (bI_n0.mp c_11), if_pos (bI_n0.mp c_22), if_neg (bI_0.mp c_32)], by rw [if_pos (bI_n0.mp c_11), if_pos (bI_n0.mp c_22)], rfl⟩
    · refine v_bipush (pc := 25) (v := (-2)) (by decide) dX6_behind_25 ?_
      refine v_iret (pc := 27) dX6_behind_27 (Nat.zero_le _) (Nat.zero_le _) ?_
      exact ⟨by rw [if_pos (bI_n0.mp c_11), if_neg (bI_0.mp c_22)]; try rfl, by rw [if_pos (bI_n0.mp c_11), if_neg (bI_0.mp c_22)]; try rfl, rfl⟩
  · refine v_iconst (pc := 14) (v := (-1)) (by decide) dX6_behind_14 ?_
    refine v_iret (pc := 15) dX6_behind_15 (Nat.zero_le _) (Nat.zero_le _) ?_
    exact ⟨by rw [if_neg (bI_0.mp c_11)]; try rfl, by rw [if_neg (bI_0.mp c_11)]; try rfl, rfl⟩

def sel4 (x a b c d : Int32) : Int32 := if x = 0 then a else if x = 1 then b else if x = 2 then c else d
theorem sel4_3 {x a b c d : Int32} (h : x < 0 ∨ 2 < x) : sel4 x a b c d = d := by
  unfold sel4
  rw [if_neg (fun q => by subst q; exact absurd h (by decide)), if_neg (fun q => by subst q; exact absurd h (by decide)), if_neg (fun q => by subst q; exact absurd h (by decide))]

set_option maxRecDepth 100000 in
set_option maxHeartbeats 4000000 in
theorem c_then {x : Int32} {n : Nat} {M : mM} {J : mJ} (hn : M 44 1 = nI n) (h60 : n ≤ 60) (hwf : WFn M) : Ct yX6_then cX6_then 2 (some .int) (rmD 6) false [.ref 0, .int x] LY M J (mNi LY (fun r0 M1 J1 => r0 = (if 0 ≤ x ∧ x ≤ 3 then (if okT M n then sel4 x (tryT M n 38 4) (tryT M n 38 7) (tryT M n 38 6) (tryT M n 41 3) else -5) else -2) ∧ M1 = (if 0 ≤ x ∧ x ≤ 3 then tryT M n else M) ∧ J1 = J)) := by
  refine ct_of (own := RX6) (ini := false) (ls := [some (.ref 0), some (.int x)]) 0 (by decide +kernel) rfl (fun h => by cases h) rfl (fun ad => by first | exact Nat.le_of_ble_eq_true rfl) ?_
  refine v_iload_n (pc := 0) dX6_then_0 rfl ?_
  refine v_iconst (pc := 1) (v := 0) (by decide) dX6_then_1 ?_
  refine v_iconst (pc := 2) (v := 3) (by decide) dX6_then_2 ?_
  refine v_cS3i (pc := 3) dX6_then_3 mkX6_49 c_within (Nat.le_of_ble_eq_true rfl) rfl (Nat.zero_le _) (Nat.zero_le _) (fun r_3 M_3 J_3 h_3 => ?_)
  obtain ⟨e1_3, e2_3, e3_3⟩ := h_3
  replace e1_3 := e1_3.symm
  replace e2_3 := e2_3.symm
  replace e3_3 := e3_3.symm
  subst e1_3 e2_3 e3_3
  refine v_if_ne (pc := 6) (tgt := 12) dX6_then_6 (by decide) (fun c_6 => ?_) (fun c_6 => ?_)
  · refine v_aload_n (pc := 12) dX6_then_12 rfl ?_
    refine v_cV0i (pc := 13) dX6_then_13 mkX6_112 (c_tryPad hn h60 hwf) ly0 rfl (Nat.le_of_ble_eq_true rfl) rfl (Nat.zero_le _) (Nat.zero_le _) (fun r_13 M_13 J_13 h_13 => ?_)
    obtain ⟨e1_13, e2_13, e3_13⟩ := h_13
    replace e1_13 := e1_13.symm
    replace e2_13 := e2_13.symm
    replace e3_13 := e3_13.symm
    subst e1_13 e2_13 e3_13
    refine v_if_ne (pc := 16) (tgt := 22) dX6_then_16 (by decide) (fun c_16 => ?_) (fun c_16 => ?_)
    · refine v_iload_n (pc := 22) dX6_then_22 rfl ?_
      refine v_tbl3 (pc := 23) (t0 := 48) (t1 := 56) (t2 := 64) (t3 := 72) dX6_then_23 rfl rfl rfl (by decide) (by decide) (by decide) (by decide) (fun c_23 => ?_) (fun c_23 => ?_) (fun c_23 => ?_) (fun c_23 => ?_)
      · refine v_aload_n (pc := 48) dX6_then_48 rfl ?_
        refine v_getR (pc := 49) fkX6_23 ly0 rfl dX6_then_49 ?_
        refine v_getI (pc := 52) fkX6_60 ly38 rfl dX6_then_52 ?_
        refine v_iret (pc := 55) dX6_then_55 (Nat.zero_le _) (Nat.zero_le _) ?_
        exact ⟨by rw [if_pos (bI_n0.mp c_6), if_pos (bI_n0.mp c_16)]; subst c_23; rfl, by rw [if_pos (bI_n0.mp c_6)], rfl⟩
      · refine v_aload_n (pc := 56) dX6_then_56 rfl ?_
        refine v_getR (pc := 57) fkX6_23 ly0 rfl dX6_then_57 ?_
        refine v_getI (pc := 60) fkX6_99 ly38 rfl dX6_then_60 ?_
        refine v_iret (pc := 63) dX6_then_63 (Nat.zero_le _) (Nat.zero_le _) ?_
        exact ⟨by rw [if_pos (bI_n0.mp c_6), if_pos (bI_n0.mp c_16)]; subst c_23; rfl, by rw [if_pos (bI_n0.mp c_6)], rfl⟩
      · refine v_aload_n (pc := 64) dX6_then_64 rfl ?_
        refine v_getR (pc := 65) fkX6_23 ly0 rfl dX6_then_65 ?_
        refine v_getI (pc := 68) fkX6_84 ly38 rfl dX6_then_68 ?_
        refine v_iret (pc := 71) dX6_then_71 (Nat.zero_le _) (Nat.zero_le _) ?_
        exact ⟨by rw [if_pos (bI_n0.mp c_6), if_pos (bI_n0.mp c_16)]; subst c_23; rfl, by rw [if_pos (bI_n0.mp c_6)], rfl⟩
      · refine v_aload_n (pc := 72) dX6_then_72 rfl ?_
        refine v_getR (pc := 73) fkX6_23 ly0 rfl dX6_then_73 ?_
        refine v_getR (pc := 76) fkX6_87 ly38 rfl dX6_then_76 ?_
        refine v_getI (pc := 79) fkX6_91 ly41 rfl dX6_then_79 ?_
        refine v_iret (pc := 82) dX6_then_82 (Nat.zero_le _) (Nat.zero_le _) ?_
        exact ⟨by rw [if_pos (bI_n0.mp c_6), if_pos (bI_n0.mp c_16)]; exact (sel4_3 c_23).symm, by rw [if_pos (bI_n0.mp c_6)], rfl⟩
    · refine v_bipush (pc := 19) (v := (-5)) (by decide) dX6_then_19 ?_
      refine v_iret (pc := 21) dX6_then_21 (Nat.zero_le _) (Nat.zero_le _) ?_
      exact ⟨by rw [if_pos (bI_n0.mp c_6), if_neg (bI_0.mp c_16)], by rw [if_pos (bI_n0.mp c_6)], rfl⟩
  · refine v_bipush (pc := 9) (v := (-2)) (by decide) dX6_then_9 ?_
    refine v_iret (pc := 11) dX6_then_11 (Nat.zero_le _) (Nat.zero_le _) ?_
    exact ⟨by rw [if_neg (bI_0.mp c_6)]; try rfl, by rw [if_neg (bI_0.mp c_6)]; try rfl, rfl⟩
