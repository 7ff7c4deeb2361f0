/-! the lagoon: reads -/
set_option maxRecDepth 100000 in
set_option maxHeartbeats 4000000 in
theorem c_within {x y z : Int32} {M : mM} {J : mJ}  : Ct yX6_within cX6_within 3 (some .boolean) (rmD 0) false [.int x, .int y, .int z] LY M J (mNi LY (fun r0 M1 J1 => r0 = bI (y ≤ x ∧ x ≤ z) ∧ M1 = M ∧ J1 = J)) := by
  refine ct_of (own := RX6) (ini := false) (ls := [some (.int x), some (.int y), some (.int z)]) 0 (by decide +kernel) rfl (fun h => by cases h) rfl (fun ad => by first | exact Nat.le_of_ble_eq_true rfl) ?_
  refine v_iload_n (pc := 0) dX6_within_0 rfl ?_
  refine v_iload_n (pc := 1) dX6_within_1 rfl ?_
  refine v_icmp_lt (pc := 2) (tgt := 14) dX6_within_2 (by decide) (fun c_2 => ?_) (fun c_2 => ?_)
  · refine v_iconst (pc := 14) (v := 0) (by decide) dX6_within_14 ?_
    refine v_zret (pc := 15) dX6_within_15 (Nat.zero_le _) (Nat.zero_le _) (by first | exact Or.inl rfl | exact Or.inr rfl | assumption) ?_
    first | exact ⟨bI_t ⟨Int32.not_lt.mp (by assumption), Int32.not_lt.mp (by assumption)⟩, rfl, rfl⟩ | exact ⟨bI_f (fun q => absurd q.1 (Int32.not_le.mpr (by assumption))), rfl, rfl⟩ | exact ⟨bI_f (fun q => absurd q.2 (Int32.not_le.mpr (by assumption))), rfl, rfl⟩
  · refine v_iload_n (pc := 5) dX6_within_5 rfl ?_
    refine v_iload_n (pc := 6) dX6_within_6 rfl ?_
    refine v_icmp_gt (pc := 7) (tgt := 14) dX6_within_7 (by decide) (fun c_7 => ?_) (fun c_7 => ?_)
    · refine v_iconst (pc := 14) (v := 0) (by decide) dX6_within_14 ?_
      refine v_zret (pc := 15) dX6_within_15 (Nat.zero_le _) (Nat.zero_le _) (by first | exact Or.inl rfl | exact Or.inr rfl | assumption) ?_
      first | exact ⟨bI_t ⟨Int32.not_lt.mp (by assumption), Int32.not_lt.mp (by assumption)⟩, rfl, rfl⟩ | exact ⟨bI_f (fun q => absurd q.1 (Int32.not_le.mpr (by assumption))), rfl, rfl⟩ | exact ⟨bI_f (fun q => absurd q.2 (Int32.not_le.mpr (by assumption))), rfl, rfl⟩
    · refine v_iconst (pc := 10) (v := 1) (by decide) dX6_within_10 ?_
      refine v_goto (pc := 11) (tgt := 15) dX6_within_11 (by decide) ?_
      refine v_zret (pc := 15) dX6_within_15 (Nat.zero_le _) (Nat.zero_le _) (by first | exact Or.inl rfl | exact Or.inr rfl | assumption) ?_
      first | exact ⟨bI_t ⟨Int32.not_lt.mp (by assumption), Int32.not_lt.mp (by assumption)⟩, rfl, rfl⟩ | exact ⟨bI_f (fun q => absurd q.1 (Int32.not_le.mpr (by assumption))), rfl, rfl⟩ | exact ⟨bI_f (fun q => absurd q.2 (Int32.not_le.mpr (by assumption))), rfl, rfl⟩

set_option maxRecDepth 100000 in
set_option maxHeartbeats 4000000 in
theorem c_isThere {r a b c : Nat}{x : Int32} {M : mM} {J : mJ} (hr : LY[r]? = some (.inr (.inr (2, [some (some a), some (some b), some (some c), none, none, none, none, none])))) : Ct yX2_isThere cX2_isThere 2 (some .boolean) (rmD 0) false [.ref r, .int x] LY M J (mNi LY (fun r0 M1 J1 => r0 = bI (0 ≤ x ∧ x ≤ 6 ∧ bt (M r 3) x) ∧ M1 = M ∧ J1 = J)) := by
  refine ct_of (own := RX2) (ini := false) (ls := [some (.ref r), some (.int x)]) 0 (by decide +kernel) rfl (fun h => by cases h) rfl (fun ad => by first | exact Nat.le_of_ble_eq_true rfl) ?_
  refine v_iload_n (pc := 0) dX2_isThere_0 rfl ?_
  refine v_if_lt (pc := 1) (tgt := 26) dX2_isThere_1 (by decide) (fun c_1 => ?_) (fun c_1 => ?_)
  · refine v_iconst (pc := 26) (v := 0) (by decide) dX2_isThere_26 ?_
    refine v_zret (pc := 27) dX2_isThere_27 (Nat.zero_le _) (Nat.zero_le _) (by first | exact Or.inl rfl | exact Or.inr rfl | assumption) ?_
    first | exact ⟨bI_t ⟨ge0.mp (by assumption), lt7.mp (by assumption), by assumption⟩, rfl, rfl⟩ | exact ⟨bI_f (fun q => absurd q.2.2 (by assumption)), rfl, rfl⟩ | exact ⟨bI_f (fun q => absurd q.2.1 (fun z => absurd (lt7.mpr z) (by simpa using (by assumption : (7 : Int32) ≤ x)))), rfl, rfl⟩ | exact ⟨bI_f (fun q => absurd q.1 (fun z => absurd (ge0.mpr z) (by simpa using (by assumption : x < 0)))), rfl, rfl⟩
  · refine v_iload_n (pc := 4) dX2_isThere_4 rfl ?_
    refine v_bipush (pc := 5) (v := 7) (by decide) dX2_isThere_5 ?_
    refine v_icmp_ge (pc := 7) (tgt := 26) dX2_isThere_7 (by decide) (fun c_7 => ?_) (fun c_7 => ?_)
    · refine v_iconst (pc := 26) (v := 0) (by decide) dX2_isThere_26 ?_
      refine v_zret (pc := 27) dX2_isThere_27 (Nat.zero_le _) (Nat.zero_le _) (by first | exact Or.inl rfl | exact Or.inr rfl | assumption) ?_
      first | exact ⟨bI_t ⟨ge0.mp (by assumption), lt7.mp (by assumption), by assumption⟩, rfl, rfl⟩ | exact ⟨bI_f (fun q => absurd q.2.2 (by assumption)), rfl, rfl⟩ | exact ⟨bI_f (fun q => absurd q.2.1 (fun z => absurd (lt7.mpr z) (by simpa using (by assumption : (7 : Int32) ≤ x)))), rfl, rfl⟩ | exact ⟨bI_f (fun q => absurd q.1 (fun z => absurd (ge0.mpr z) (by simpa using (by assumption : x < 0)))), rfl, rfl⟩
    · refine v_aload_n (pc := 10) dX2_isThere_10 rfl ?_
      refine v_getI (pc := 11) fkX2_29 hr rfl dX2_isThere_11 ?_
      refine v_iload_n (pc := 14) dX2_isThere_14 rfl ?_
      refine v_ishr (pc := 15) dX2_isThere_15 ?_
      refine v_iconst (pc := 16) (v := 1) (by decide) dX2_isThere_16 ?_
      refine v_iand (pc := 17) dX2_isThere_17 ?_
      refine v_iconst (pc := 18) (v := 1) (by decide) dX2_isThere_18 ?_
      refine v_icmp_ne (pc := 19) (tgt := 26) dX2_isThere_19 (by decide) (fun c_19 => ?_) (fun c_19 => ?_)
      · refine v_iconst (pc := 26) (v := 0) (by decide) dX2_isThere_26 ?_
        refine v_zret (pc := 27) dX2_isThere_27 (Nat.zero_le _) (Nat.zero_le _) (by first | exact Or.inl rfl | exact Or.inr rfl | assumption) ?_
        first | exact ⟨bI_t ⟨ge0.mp (by assumption), lt7.mp (by assumption), by assumption⟩, rfl, rfl⟩ | exact ⟨bI_f (fun q => absurd q.2.2 (by assumption)), rfl, rfl⟩ | exact ⟨bI_f (fun q => absurd q.2.1 (fun z => absurd (lt7.mpr z) (by simpa using (by assumption : (7 : Int32) ≤ x)))), rfl, rfl⟩ | exact ⟨bI_f (fun q => absurd q.1 (fun z => absurd (ge0.mpr z) (by simpa using (by assumption : x < 0)))), rfl, rfl⟩
      · refine v_iconst (pc := 22) (v := 1) (by decide) dX2_isThere_22 ?_
        refine v_goto (pc := 23) (tgt := 27) dX2_isThere_23 (by decide) ?_
        refine v_zret (pc := 27) dX2_isThere_27 (Nat.zero_le _) (Nat.zero_le _) (by first | exact Or.inl rfl | exact Or.inr rfl | assumption) ?_
        first | exact ⟨bI_t ⟨ge0.mp (by assumption), lt7.mp (by assumption), by assumption⟩, rfl, rfl⟩ | exact ⟨bI_f (fun q => absurd q.2.2 (by assumption)), rfl, rfl⟩ | exact ⟨bI_f (fun q => absurd q.2.1 (fun z => absurd (lt7.mpr z) (by simpa using (by assumption : (7 : Int32) ≤ x)))), rfl, rfl⟩ | exact ⟨bI_f (fun q => absurd q.1 (fun z => absurd (ge0.mpr z) (by simpa using (by assumption : x < 0)))), rfl, rfl⟩

set_option maxRecDepth 100000 in
set_option maxHeartbeats 4000000 in
theorem c_isBelow {r a b c : Nat}{x : Int32} {M : mM} {J : mJ} (hr : LY[r]? = some (.inr (.inr (2, [some (some a), some (some b), some (some c), none, none, none, none, none])))) : Ct yX2_isBelow cX2_isBelow 2 (some .boolean) (rmD 0) false [.ref r, .int x] LY M J (mNi LY (fun r0 M1 J1 => r0 = bI (0 ≤ x ∧ x ≤ 6 ∧ bt (M r 4) x) ∧ M1 = M ∧ J1 = J)) := by
  refine ct_of (own := RX2) (ini := false) (ls := [some (.ref r), some (.int x)]) 0 (by decide +kernel) rfl (fun h => by cases h) rfl (fun ad => by first | exact Nat.le_of_ble_eq_true rfl) ?_
  refine v_iload_n (pc := 0) dX2_isBelow_0 rfl ?_
  refine v_if_lt (pc := 1) (tgt := 26) dX2_isBelow_1 (by decide) (fun c_1 => ?_) (fun c_1 => ?_)
  · refine v_iconst (pc := 26) (v := 0) (by decide) dX2_isBelow_26 ?_
    refine v_zret (pc := 27) dX2_isBelow_27 (Nat.zero_le _) (Nat.zero_le _) (by first | exact Or.inl rfl | exact Or.inr rfl | assumption) ?_
    first | exact ⟨bI_t ⟨ge0.mp (by assumption), lt7.mp (by assumption), by assumption⟩, rfl, rfl⟩ | exact ⟨bI_f (fun q => absurd q.2.2 (by assumption)), rfl, rfl⟩ | exact ⟨bI_f (fun q => absurd q.2.1 (fun z => absurd (lt7.mpr z) (by simpa using (by assumption : (7 : Int32) ≤ x)))), rfl, rfl⟩ | exact ⟨bI_f (fun q => absurd q.1 (fun z => absurd (ge0.mpr z) (by simpa using (by assumption : x < 0)))), rfl, rfl⟩
  · refine v_iload_n (pc := 4) dX2_isBelow_4 rfl ?_
    refine v_bipush (pc := 5) (v := 7) (by decide) dX2_isBelow_5 ?_
    refine v_icmp_ge (pc := 7) (tgt := 26) dX2_isBelow_7 (by decide) (fun c_7 => ?_) (fun c_7 => ?_)
    · refine v_iconst (pc := 26) (v := 0) (by decide) dX2_isBelow_26 ?_
      refine v_zret (pc := 27) dX2_isBelow_27 (Nat.zero_le _) (Nat.zero_le _) (by first | exact Or.inl rfl | exact Or.inr rfl | assumption) ?_
      first | exact ⟨bI_t ⟨ge0.mp (by assumption), lt7.mp (by assumption), by assumption⟩, rfl, rfl⟩ | exact ⟨bI_f (fun q => absurd q.2.2 (by assumption)), rfl, rfl⟩ | exact ⟨bI_f (fun q => absurd q.2.1 (fun z => absurd (lt7.mpr z) (by simpa using (by assumption : (7 : Int32) ≤ x)))), rfl, rfl⟩ | exact ⟨bI_f (fun q => absurd q.1 (fun z => absurd (ge0.mpr z) (by simpa using (by assumption : x < 0)))), rfl, rfl⟩
    · refine v_aload_n (pc := 10) dX2_isBelow_10 rfl ?_
      refine v_getI (pc := 11) fkX2_32 hr rfl dX2_isBelow_11 ?_
      refine v_iload_n (pc := 14) dX2_isBelow_14 rfl ?_
      refine v_ishr (pc := 15) dX2_isBelow_15 ?_
      refine v_iconst (pc := 16) (v := 1) (by decide) dX2_isBelow_16 ?_
      refine v_iand (pc := 17) dX2_isBelow_17 ?_
      refine v_iconst (pc := 18) (v := 1) (by decide) dX2_isBelow_18 ?_
      refine v_icmp_ne (pc := 19) (tgt := 26) dX2_isBelow_19 (by decide) (fun c_19 => ?_) (fun c_19 => ?_)
      · refine v_iconst (pc := 26) (v := 0) (by decide) dX2_isBelow_26 ?_
        refine v_zret (pc := 27) dX2_isBelow_27 (Nat.zero_le _) (Nat.zero_le _) (by first | exact Or.inl rfl | exact Or.inr rfl | assumption) ?_
        first | exact ⟨bI_t ⟨ge0.mp (by assumption), lt7.mp (by assumption), by assumption⟩, rfl, rfl⟩ | exact ⟨bI_f (fun q => absurd q.2.2 (by assumption)), rfl, rfl⟩ | exact ⟨bI_f (fun q => absurd q.2.1 (fun z => absurd (lt7.mpr z) (by simpa using (by assumption : (7 : Int32) ≤ x)))), rfl, rfl⟩ | exact ⟨bI_f (fun q => absurd q.1 (fun z => absurd (ge0.mpr z) (by simpa using (by assumption : x < 0)))), rfl, rfl⟩
      · refine v_iconst (pc := 22) (v := 1) (by decide) dX2_isBelow_22 ?_
        refine v_goto (pc := 23) (tgt := 27) dX2_isBelow_23 (by decide) ?_
        refine v_zret (pc := 27) dX2_isBelow_27 (Nat.zero_le _) (Nat.zero_le _) (by first | exact Or.inl rfl | exact Or.inr rfl | assumption) ?_
        first | exact ⟨bI_t ⟨ge0.mp (by assumption), lt7.mp (by assumption), by assumption⟩, rfl, rfl⟩ | exact ⟨bI_f (fun q => absurd q.2.2 (by assumption)), rfl, rfl⟩ | exact ⟨bI_f (fun q => absurd q.2.1 (fun z => absurd (lt7.mpr z) (by simpa using (by assumption : (7 : Int32) ≤ x)))), rfl, rfl⟩ | exact ⟨bI_f (fun q => absurd q.1 (fun z => absurd (ge0.mpr z) (by simpa using (by assumption : x < 0)))), rfl, rfl⟩

def f7 (f : Nat → Int32) (x : Int32) : Int32 := if 0 ≤ x ∧ x ≤ 6 then f x.toNatClampNeg else 0
theorem f7_in {f : Nat → Int32} {k : Nat} (h : k < 7) : f7 f (nI k) = f k := by
  unfold f7
  rw [if_pos, nI_clamp (by omega)]
  have : k = 0 ∨ k = 1 ∨ k = 2 ∨ k = 3 ∨ k = 4 ∨ k = 5 ∨ k = 6 := by omega
  rcases this with rfl | rfl | rfl | rfl | rfl | rfl | rfl <;> decide

set_option maxRecDepth 100000 in
set_option maxHeartbeats 4000000 in
theorem c_placeOf {r a b c : Nat}{x : Int32} {M : mM} {J : mJ} (hr : LY[r]? = some (.inr (.inr (2, [some (some a), some (some b), some (some c), none, none, none, none, none])))) (ha : LY[a]? = some (.inl (0, 7, 0))) : Ct yX2_placeOf cX2_placeOf 2 (some .int) (rmD 0) false [.ref r, .int x] LY M J (mNi LY (fun r0 M1 J1 => r0 = f7 (M a) x ∧ M1 = M ∧ J1 = J)) := by
  refine ct_of (own := RX2) (ini := false) (ls := [some (.ref r), some (.int x)]) 0 (by decide +kernel) rfl (fun h => by cases h) rfl (fun ad => by first | exact Nat.le_of_ble_eq_true rfl) ?_
  refine v_iload_n (pc := 0) dX2_placeOf_0 rfl ?_
  refine v_if_lt (pc := 1) (tgt := 19) dX2_placeOf_1 (by decide) (fun c_1 => ?_) (fun c_1 => ?_)
  · refine v_iconst (pc := 19) (v := 0) (by decide) dX2_placeOf_19 ?_
    refine v_iret (pc := 20) dX2_placeOf_20 (Nat.zero_le _) (Nat.zero_le _) ?_
    first | exact ⟨by unfold f7; rw [if_pos ⟨ge0.mp (by assumption), lt7.mp (by assumption)⟩], rfl, rfl⟩ | exact ⟨by unfold f7; rw [if_neg (fun q => absurd (lt7.mpr q.2) (by simpa using (by assumption : (7 : Int32) ≤ x)))], rfl, rfl⟩ | exact ⟨by unfold f7; rw [if_neg (fun q => absurd (ge0.mpr q.1) (by simpa using (by assumption : x < 0)))], rfl, rfl⟩
  · refine v_iload_n (pc := 4) dX2_placeOf_4 rfl ?_
    refine v_bipush (pc := 5) (v := 7) (by decide) dX2_placeOf_5 ?_
    refine v_icmp_ge (pc := 7) (tgt := 19) dX2_placeOf_7 (by decide) (fun c_7 => ?_) (fun c_7 => ?_)
    · refine v_iconst (pc := 19) (v := 0) (by decide) dX2_placeOf_19 ?_
      refine v_iret (pc := 20) dX2_placeOf_20 (Nat.zero_le _) (Nat.zero_le _) ?_
      first | exact ⟨by unfold f7; rw [if_pos ⟨ge0.mp (by assumption), lt7.mp (by assumption)⟩], rfl, rfl⟩ | exact ⟨by unfold f7; rw [if_neg (fun q => absurd (lt7.mpr q.2) (by simpa using (by assumption : (7 : Int32) ≤ x)))], rfl, rfl⟩ | exact ⟨by unfold f7; rw [if_neg (fun q => absurd (ge0.mpr q.1) (by simpa using (by assumption : x < 0)))], rfl, rfl⟩
    · refine v_aload_n (pc := 10) dX2_placeOf_10 rfl ?_
      refine v_getR (pc := 11) fkX2_9 hr rfl dX2_placeOf_11 ?_
      refine v_iload_n (pc := 14) dX2_placeOf_14 rfl ?_
      refine v_iald (pc := 15) ha ?_ dX2_placeOf_15 ?_
      · first | assumption | (refine vinN ?_ (by assumption) (by assumption); decide)
      refine v_goto (pc := 16) (tgt := 20) dX2_placeOf_16 (by decide) ?_
      refine v_iret (pc := 20) dX2_placeOf_20 (Nat.zero_le _) (Nat.zero_le _) ?_
      first | exact ⟨by unfold f7; rw [if_pos ⟨ge0.mp (by assumption), lt7.mp (by assumption)⟩], rfl, rfl⟩ | exact ⟨by unfold f7; rw [if_neg (fun q => absurd (lt7.mpr q.2) (by simpa using (by assumption : (7 : Int32) ≤ x)))], rfl, rfl⟩ | exact ⟨by unfold f7; rw [if_neg (fun q => absurd (ge0.mpr q.1) (by simpa using (by assumption : x < 0)))], rfl, rfl⟩

set_option maxRecDepth 100000 in
set_option maxHeartbeats 4000000 in
theorem c_breathOf {r a b c : Nat}{x : Int32} {M : mM} {J : mJ} (hr : LY[r]? = some (.inr (.inr (2, [some (some a), some (some b), some (some c), none, none, none, none, none])))) (hb : LY[b]? = some (.inl (0, 7, 0))) : Ct yX2_breathOf cX2_breathOf 2 (some .int) (rmD 0) false [.ref r, .int x] LY M J (mNi LY (fun r0 M1 J1 => r0 = f7 (M b) x ∧ M1 = M ∧ J1 = J)) := by
  refine ct_of (own := RX2) (ini := false) (ls := [some (.ref r), some (.int x)]) 0 (by decide +kernel) rfl (fun h => by cases h) rfl (fun ad => by first | exact Nat.le_of_ble_eq_true rfl) ?_
  refine v_iload_n (pc := 0) dX2_breathOf_0 rfl ?_
  refine v_if_lt (pc := 1) (tgt := 19) dX2_breathOf_1 (by decide) (fun c_1 => ?_) (fun c_1 => ?_)
  · refine v_iconst (pc := 19) (v := 0) (by decide) dX2_breathOf_19 ?_
    refine v_iret (pc := 20) dX2_breathOf_20 (Nat.zero_le _) (Nat.zero_le _) ?_
    first | exact ⟨by unfold f7; rw [if_pos ⟨ge0.mp (by assumption), lt7.mp (by assumption)⟩], rfl, rfl⟩ | exact ⟨by unfold f7; rw [if_neg (fun q => absurd (lt7.mpr q.2) (by simpa using (by assumption : (7 : Int32) ≤ x)))], rfl, rfl⟩ | exact ⟨by unfold f7; rw [if_neg (fun q => absurd (ge0.mpr q.1) (by simpa using (by assumption : x < 0)))], rfl, rfl⟩
  · refine v_iload_n (pc := 4) dX2_breathOf_4 rfl ?_
    refine v_bipush (pc := 5) (v := 7) (by decide) dX2_breathOf_5 ?_
    refine v_icmp_ge (pc := 7) (tgt := 19) dX2_breathOf_7 (by decide) (fun c_7 => ?_) (fun c_7 => ?_)
    · refine v_iconst (pc := 19) (v := 0) (by decide) dX2_breathOf_19 ?_
      refine v_iret (pc := 20) dX2_breathOf_20 (Nat.zero_le _) (Nat.zero_le _) ?_
      first | exact ⟨by unfold f7; rw [if_pos ⟨ge0.mp (by assumption), lt7.mp (by assumption)⟩], rfl, rfl⟩ | exact ⟨by unfold f7; rw [if_neg (fun q => absurd (lt7.mpr q.2) (by simpa using (by assumption : (7 : Int32) ≤ x)))], rfl, rfl⟩ | exact ⟨by unfold f7; rw [if_neg (fun q => absurd (ge0.mpr q.1) (by simpa using (by assumption : x < 0)))], rfl, rfl⟩
    · refine v_aload_n (pc := 10) dX2_breathOf_10 rfl ?_
      refine v_getR (pc := 11) fkX2_15 hr rfl dX2_breathOf_11 ?_
      refine v_iload_n (pc := 14) dX2_breathOf_14 rfl ?_
      refine v_iald (pc := 15) hb ?_ dX2_breathOf_15 ?_
      · first | assumption | (refine vinN ?_ (by assumption) (by assumption); decide)
      refine v_goto (pc := 16) (tgt := 20) dX2_breathOf_16 (by decide) ?_
      refine v_iret (pc := 20) dX2_breathOf_20 (Nat.zero_le _) (Nat.zero_le _) ?_
      first | exact ⟨by unfold f7; rw [if_pos ⟨ge0.mp (by assumption), lt7.mp (by assumption)⟩], rfl, rfl⟩ | exact ⟨by unfold f7; rw [if_neg (fun q => absurd (lt7.mpr q.2) (by simpa using (by assumption : (7 : Int32) ≤ x)))], rfl, rfl⟩ | exact ⟨by unfold f7; rw [if_neg (fun q => absurd (ge0.mpr q.1) (by simpa using (by assumption : x < 0)))], rfl, rfl⟩

/-- the breath of a set, of the first n members -/
def bsum (f : Nat → Int32) (set : Int32) : Nat → Int32
  | 0 => 0
  | n + 1 => if bt set (nI n) then bsum f set n + f n else bsum f set n

set_option maxRecDepth 100000 in
set_option maxHeartbeats 4000000 in
theorem l_breathOfAll {r a b c : Nat} {x : Int32} {M : mM} {J : mJ} (hr : LY[r]? = some (.inr (.inr (2, [some (some a), some (some b), some (some c), none, none, none, none, none])))) (hb : LY[b]? = some (.inl (0, 7, 0))) : ∀ (n i : Nat), n + i = 7 → V RX2 cX2_breathOfAll 4 (some .int) false (rmD 0) false LY.length none (mNi LY (fun r0 M1 J1 => r0 = bsum (M b) x 7 ∧ M1 = M ∧ J1 = J)) 0 0 4 [some (.ref r), some (.int x), some (.int (bsum (M b) x i)), some (.int (nI i))] [] LY M J := by
  intro n
  induction n with
  | zero =>
    intro i hi
    obtain rfl : i = 7 := by omega
    refine v_iload_n (pc := 4) dX2_breathOfAll_4 rfl ?_
    refine v_bipush (pc := 5) (v := 7) (by decide) dX2_breathOfAll_5 ?_
    refine v_icmp_ge (pc := 7) (tgt := 34) dX2_breathOfAll_7 (by decide) (fun c_7 => ?_) (fun c_7 => absurd (by decide) c_7)
    refine v_iload_n (pc := 34) dX2_breathOfAll_34 rfl ?_
    refine v_iret (pc := 35) dX2_breathOfAll_35 (Nat.zero_le _) (Nat.zero_le _) ?_
    exact ⟨rfl, rfl, rfl⟩
  | succ n ih =>
    intro i hi
    have hb7 : i < 7 := by omega
    have hc : ¬ (7 : Int32) ≤ nI i := nI_ge (b := 7) hb7 (by omega)
    refine v_iload_n (pc := 4) dX2_breathOfAll_4 rfl ?_
    refine v_bipush (pc := 5) (v := 7) (by decide) dX2_breathOfAll_5 ?_
    refine v_icmp_ge (pc := 7) (tgt := 34) dX2_breathOfAll_7 (by decide) (fun c_7 => absurd c_7 (hc)) (fun c_7 => ?_)
    refine v_iload_n (pc := 10) dX2_breathOfAll_10 rfl ?_
    refine v_iload_n (pc := 11) dX2_breathOfAll_11 rfl ?_
    refine v_ishr (pc := 12) dX2_breathOfAll_12 ?_
    refine v_iconst (pc := 13) (v := 1) (by decide) dX2_breathOfAll_13 ?_
    refine v_iand (pc := 14) dX2_breathOfAll_14 ?_
    refine v_iconst (pc := 15) (v := 1) (by decide) dX2_breathOfAll_15 ?_
    refine v_icmp_ne (pc := 16) (tgt := 28) dX2_breathOfAll_16 (by decide) (fun c_16 => ?_) (fun c_16 => ?_)
    · refine v_inc_3 (pc := 28) (v := 1) dX2_breathOfAll_28 (by decide) (by decide) rfl ?_
      refine v_goto (pc := 31) (tgt := 4) dX2_breathOfAll_31 (by decide) ?_
      rw [nI_1]
      have e9 := ih (i + 1) (by omega)
      unfold bsum at e9
      first | (rw [if_pos c_16] at e9; rw [nI_clamp (by omega)]; exact e9) | (rw [if_neg c_16] at e9; exact e9)
    · refine v_iload_n (pc := 19) dX2_breathOfAll_19 rfl ?_
      refine v_aload_n (pc := 20) dX2_breathOfAll_20 rfl ?_
      refine v_getR (pc := 21) fkX2_15 hr rfl dX2_breathOfAll_21 ?_
      refine v_iload_n (pc := 24) dX2_breathOfAll_24 rfl ?_
      refine v_iald (pc := 25) hb ?_ dX2_breathOfAll_25 ?_
      · exact vp_in_nI hb7 (by omega)
      refine v_iadd (pc := 26) dX2_breathOfAll_26 ?_
      refine v_ist_2 (pc := 27) dX2_breathOfAll_27 (by decide) rfl ?_
      refine v_inc_3 (pc := 28) (v := 1) dX2_breathOfAll_28 (by decide) (by decide) rfl ?_
      refine v_goto (pc := 31) (tgt := 4) dX2_breathOfAll_31 (by decide) ?_
      rw [nI_1]
      have e9 := ih (i + 1) (by omega)
      unfold bsum at e9
      first | (rw [if_pos c_16] at e9; rw [nI_clamp (by omega)]; exact e9) | (rw [if_neg c_16] at e9; exact e9)

set_option maxRecDepth 100000 in
set_option maxHeartbeats 4000000 in
theorem c_breathOfAll {r a b c : Nat}{x : Int32} {M : mM} {J : mJ} (hr : LY[r]? = some (.inr (.inr (2, [some (some a), some (some b), some (some c), none, none, none, none, none])))) (hb : LY[b]? = some (.inl (0, 7, 0))) : Ct yX2_breathOfAll cX2_breathOfAll 4 (some .int) (rmD 0) false [.ref r, .int x] LY M J (mNi LY (fun r0 M1 J1 => r0 = bsum (M b) x 7 ∧ M1 = M ∧ J1 = J)) := by
  refine ct_of (own := RX2) (ini := false) (ls := [some (.ref r), some (.int x), none, none]) 2 (by decide +kernel) rfl (fun h => by cases h) rfl (fun ad => by first | exact Nat.le_of_ble_eq_true rfl) ?_
  refine v_iconst (pc := 0) (v := 0) (by decide) dX2_breathOfAll_0 ?_
  refine v_ist_2 (pc := 1) dX2_breathOfAll_1 (by decide) rfl ?_
  refine v_iconst (pc := 2) (v := 0) (by decide) dX2_breathOfAll_2 ?_
  refine v_ist_3 (pc := 3) dX2_breathOfAll_3 (by decide) rfl ?_
  exact l_breathOfAll hr hb 7 0 rfl

set_option maxRecDepth 100000 in
set_option maxHeartbeats 4000000 in
theorem c_passes {r a b c : Nat}{x : Int32} {M : mM} {J : mJ} (hr : LY[r]? = some (.inr (.inr (2, [some (some a), some (some b), some (some c), none, none, none, none, none])))) (hb : LY[b]? = some (.inl (0, 7, 0))) : Ct yX2_passes cX2_passes 2 (some .boolean) (rmD 1) false [.ref r, .int x] LY M J (mNi LY (fun r0 M1 J1 => r0 = bI (bsum (M b) (M r 4) 7 < 2 * bsum (M b) x 7) ∧ M1 = M ∧ J1 = J)) := by
  refine ct_of (own := RX2) (ini := false) (ls := [some (.ref r), some (.int x)]) 0 (by decide +kernel) rfl (fun h => by cases h) rfl (fun ad => by first | exact Nat.le_of_ble_eq_true rfl) ?_
  refine v_iconst (pc := 0) (v := 2) (by decide) dX2_passes_0 ?_
  refine v_aload_n (pc := 1) dX2_passes_1 rfl ?_
  refine v_iload_n (pc := 2) dX2_passes_2 rfl ?_
  refine v_cV1i (pc := 3) dX2_passes_3 mkX2_35 (c_breathOfAll hr hb) hr rfl (Nat.le_of_ble_eq_true rfl) rfl (Nat.zero_le _) (Nat.zero_le _) (fun r_3 M_3 J_3 h_3 => ?_)
  obtain ⟨e1_3, e2_3, e3_3⟩ := h_3
  replace e1_3 := e1_3.symm
  replace e2_3 := e2_3.symm
  replace e3_3 := e3_3.symm
  subst e1_3 e2_3 e3_3
  refine v_imul (pc := 6) dX2_passes_6 ?_
  refine v_aload_n (pc := 7) dX2_passes_7 rfl ?_
  refine v_aload_n (pc := 8) dX2_passes_8 rfl ?_
  refine v_getI (pc := 9) fkX2_32 hr rfl dX2_passes_9 ?_
  refine v_cV1i (pc := 12) dX2_passes_12 mkX2_35 (c_breathOfAll hr hb) hr rfl (Nat.le_of_ble_eq_true rfl) rfl (Nat.zero_le _) (Nat.zero_le _) (fun r_12 M_12 J_12 h_12 => ?_)
  obtain ⟨e1_12, e2_12, e3_12⟩ := h_12
  replace e1_12 := e1_12.symm
  replace e2_12 := e2_12.symm
  replace e3_12 := e3_12.symm
  subst e1_12 e2_12 e3_12
  refine v_icmp_le (pc := 15) (tgt := 22) dX2_passes_15 (by decide) (fun c_15 => ?_) (fun c_15 => ?_)
  · refine v_iconst (pc := 22) (v := 0) (by decide) dX2_passes_22 ?_
    refine v_zret (pc := 23) dX2_passes_23 (Nat.zero_le _) (Nat.zero_le _) (by first | exact Or.inl rfl | exact Or.inr rfl | assumption) ?_
    first | exact ⟨bI_t (Int32.not_le.mp (by assumption)), rfl, rfl⟩ | exact ⟨bI_f (Int32.not_lt.mpr (by assumption)), rfl, rfl⟩
  · refine v_iconst (pc := 18) (v := 1) (by decide) dX2_passes_18 ?_
    refine v_goto (pc := 19) (tgt := 23) dX2_passes_19 (by decide) ?_
    refine v_zret (pc := 23) dX2_passes_23 (Nat.zero_le _) (Nat.zero_le _) (by first | exact Or.inl rfl | exact Or.inr rfl | assumption) ?_
    first | exact ⟨bI_t (Int32.not_le.mp (by assumption)), rfl, rfl⟩ | exact ⟨bI_f (Int32.not_lt.mpr (by assumption)), rfl, rfl⟩

def fUp (d z : Int32) : Int32 := if 1 ≤ z then (d + z - 1) / z else 0
def rem10 (y : Int32) : Int32 := y - y / 10 * 10
theorem pos_ne {z : Int32} (h : 1 ≤ z) : ¬ z = 0 := by
  rintro rfl
  exact absurd h (by decide)

set_option maxRecDepth 100000 in
set_option maxHeartbeats 4000000 in
theorem c_minutesUp {r a b c : Nat}{x : Int32} {M : mM} {J : mJ} (hr : LY[r]? = some (.inr (.inr (2, [some (some a), some (some b), some (some c), none, none, none, none, none])))) : Ct yX2_minutesUp cX2_minutesUp 2 (some .int) (rmD 0) false [.ref r, .int x] LY M J (mNi LY (fun r0 M1 J1 => r0 = fUp (M r 5) x ∧ M1 = M ∧ J1 = J)) := by
  refine ct_of (own := RX2) (ini := false) (ls := [some (.ref r), some (.int x)]) 0 (by decide +kernel) rfl (fun h => by cases h) rfl (fun ad => by first | exact Nat.le_of_ble_eq_true rfl) ?_
  refine v_iload_n (pc := 0) dX2_minutesUp_0 rfl ?_
  refine v_iconst (pc := 1) (v := 1) (by decide) dX2_minutesUp_1 ?_
  refine v_icmp_ge (pc := 2) (tgt := 9) dX2_minutesUp_2 (by decide) (fun c_2 => ?_) (fun c_2 => ?_)
  · refine v_aload_n (pc := 9) dX2_minutesUp_9 rfl ?_
    refine v_getI (pc := 10) fkX2_25 hr rfl dX2_minutesUp_10 ?_
    refine v_iload_n (pc := 13) dX2_minutesUp_13 rfl ?_
    refine v_iadd (pc := 14) dX2_minutesUp_14 ?_
    refine v_iconst (pc := 15) (v := 1) (by decide) dX2_minutesUp_15 ?_
    refine v_isub (pc := 16) dX2_minutesUp_16 ?_
    refine v_iload_n (pc := 17) dX2_minutesUp_17 rfl ?_
    refine v_idiv (pc := 18) (pos_ne (by assumption)) dX2_minutesUp_18 ?_
    refine v_iret (pc := 19) dX2_minutesUp_19 (Nat.zero_le _) (Nat.zero_le _) ?_
    first | exact ⟨by unfold fUp; rw [if_pos (by assumption)], rfl, rfl⟩ | exact ⟨by unfold fUp; rw [if_neg (by assumption)], rfl, rfl⟩
  · refine v_iconst (pc := 5) (v := 0) (by decide) dX2_minutesUp_5 ?_
    refine v_goto (pc := 6) (tgt := 19) dX2_minutesUp_6 (by decide) ?_
    refine v_iret (pc := 19) dX2_minutesUp_19 (Nat.zero_le _) (Nat.zero_le _) ?_
    first | exact ⟨by unfold fUp; rw [if_pos (by assumption)], rfl, rfl⟩ | exact ⟨by unfold fUp; rw [if_neg (by assumption)], rfl, rfl⟩

set_option maxRecDepth 100000 in
set_option maxHeartbeats 4000000 in
theorem c_placeUp {r a b c : Nat}{x y : Int32} {M : mM} {J : mJ} (hr : LY[r]? = some (.inr (.inr (2, [some (some a), some (some b), some (some c), none, none, none, none, none])))) (ha : LY[a]? = some (.inl (0, 7, 0))) : Ct yX2_placeUp cX2_placeUp 3 (some .int) (rmD 1) false [.ref r, .int x, .int y] LY M J (mNi LY (fun r0 M1 J1 => r0 = rem10 (f7 (M a) x + fUp (M r 5) y * M r 6) ∧ M1 = M ∧ J1 = J)) := by
  refine ct_of (own := RX2) (ini := false) (ls := [some (.ref r), some (.int x), some (.int y)]) 0 (by decide +kernel) rfl (fun h => by cases h) rfl (fun ad => by first | exact Nat.le_of_ble_eq_true rfl) ?_
  refine v_aload_n (pc := 0) dX2_placeUp_0 rfl ?_
  refine v_iload_n (pc := 1) dX2_placeUp_1 rfl ?_
  refine v_cV1i (pc := 2) dX2_placeUp_2 mkX2_39 (c_placeOf hr ha) hr rfl (Nat.le_of_ble_eq_true rfl) rfl (Nat.zero_le _) (Nat.zero_le _) (fun r_2 M_2 J_2 h_2 => ?_)
  obtain ⟨e1_2, e2_2, e3_2⟩ := h_2
  replace e1_2 := e1_2.symm
  replace e2_2 := e2_2.symm
  replace e3_2 := e3_2.symm
  subst e1_2 e2_2 e3_2
  refine v_aload_n (pc := 5) dX2_placeUp_5 rfl ?_
  refine v_iload_n (pc := 6) dX2_placeUp_6 rfl ?_
  refine v_cV1i (pc := 7) dX2_placeUp_7 mkX2_42 (c_minutesUp hr) hr rfl (Nat.le_of_ble_eq_true rfl) rfl (Nat.zero_le _) (Nat.zero_le _) (fun r_7 M_7 J_7 h_7 => ?_)
  obtain ⟨e1_7, e2_7, e3_7⟩ := h_7
  replace e1_7 := e1_7.symm
  replace e2_7 := e2_7.symm
  replace e3_7 := e3_7.symm
  subst e1_7 e2_7 e3_7
  refine v_aload_n (pc := 10) dX2_placeUp_10 rfl ?_
  refine v_getI (pc := 11) fkX2_45 hr rfl dX2_placeUp_11 ?_
  refine v_imul (pc := 14) dX2_placeUp_14 ?_
  refine v_iadd (pc := 15) dX2_placeUp_15 ?_
  refine v_bipush (pc := 16) (v := 10) (by decide) dX2_placeUp_16 ?_
  refine v_irem (pc := 18) (by decide) dX2_placeUp_18 ?_
  refine v_iret (pc := 19) dX2_placeUp_19 (Nat.zero_le _) (Nat.zero_le _) ?_
  exact ⟨rfl, rfl, rfl⟩

def fWhy (bel br n x z : Int32) : Int32 := if 0 ≤ x ∧ x ≤ 6 ∧ bt bel x then (if z ≤ br then (if n < 32 then 0 else 3) else 2) else 1

set_option maxRecDepth 100000 in
set_option maxHeartbeats 4000000 in
theorem c_whyNoBubble {r a b c : Nat}{x y : Int32} {M : mM} {J : mJ} (hr : LY[r]? = some (.inr (.inr (2, [some (some a), some (some b), some (some c), none, none, none, none, none])))) (hb : LY[b]? = some (.inl (0, 7, 0))) {k s : Nat} (hc : LY[c]? = some (.inr (.inr (0, [some (some k), some (some s), none, none])))) : Ct yX2_whyNoBubble cX2_whyNoBubble 3 (some .int) (rmD 1) false [.ref r, .int x, .int y] LY M J (mNi LY (fun r0 M1 J1 => r0 = fWhy (M r 4) (f7 (M b) x) (M c 3) x y ∧ M1 = M ∧ J1 = J)) := by
  refine ct_of (own := RX2) (ini := false) (ls := [some (.ref r), some (.int x), some (.int y)]) 0 (by decide +kernel) rfl (fun h => by cases h) rfl (fun ad => by first | exact Nat.le_of_ble_eq_true rfl) ?_
  refine v_aload_n (pc := 0) dX2_whyNoBubble_0 rfl ?_
  refine v_iload_n (pc := 1) dX2_whyNoBubble_1 rfl ?_
  refine v_cV1i (pc := 2) dX2_whyNoBubble_2 mkX2_48 (c_isBelow hr) hr rfl (Nat.le_of_ble_eq_true rfl) rfl (Nat.zero_le _) (Nat.zero_le _) (fun r_2 M_2 J_2 h_2 => ?_)
  obtain ⟨e1_2, e2_2, e3_2⟩ := h_2
  replace e1_2 := e1_2.symm
  replace e2_2 := e2_2.symm
  replace e3_2 := e3_2.symm
  subst e1_2 e2_2 e3_2
  refine v_if_ne (pc := 5) (tgt := 10) dX2_whyNoBubble_5 (by decide) (fun c_5 => ?_) (fun c_5 => ?_)
  · refine v_aload_n (pc := 10) dX2_whyNoBubble_10 rfl ?_
    refine v_iload_n (pc := 11) dX2_whyNoBubble_11 rfl ?_
    refine v_cV1i (pc := 12) dX2_whyNoBubble_12 mkX2_52 (c_breathOf hr hb) hr rfl (Nat.le_of_ble_eq_true rfl) rfl (Nat.zero_le _) (Nat.zero_le _) (fun r_12 M_12 J_12 h_12 => ?_)
    obtain ⟨e1_12, e2_12, e3_12⟩ := h_12
    replace e1_12 := e1_12.symm
    replace e2_12 := e2_12.symm
    replace e3_12 := e3_12.symm
    subst e1_12 e2_12 e3_12
    refine v_iload_n (pc := 15) dX2_whyNoBubble_15 rfl ?_
    refine v_icmp_ge (pc := 16) (tgt := 21) dX2_whyNoBubble_16 (by decide) (fun c_16 => ?_) (fun c_16 => ?_)
    · refine v_aload_n (pc := 21) dX2_whyNoBubble_21 rfl ?_
      refine v_getR (pc := 22) fkX2_21 hr rfl dX2_whyNoBubble_22 ?_
      refine v_getI (pc := 25) fkX2_55 hc rfl dX2_whyNoBubble_25 ?_
      refine v_bipush (pc := 28) (v := 32) (by decide) dX2_whyNoBubble_28 ?_
      refine v_icmp_lt (pc := 30) (tgt := 37) dX2_whyNoBubble_30 (by decide) (fun c_30 => ?_) (fun c_30 => ?_)
      · refine v_iconst (pc := 37) (v := 0) (by decide) dX2_whyNoBubble_37 ?_
        refine v_iret (pc := 38) dX2_whyNoBubble_38 (Nat.zero_le _) (Nat.zero_le _) ?_
        first | exact ⟨by unfold fWhy; rw [if_pos (bI_n0.mp c_5), if_pos c_16, if_pos c_30], rfl, rfl⟩ | exact ⟨by unfold fWhy; rw [if_pos (bI_n0.mp c_5), if_pos c_16, if_neg c_30], rfl, rfl⟩
      · refine v_iconst (pc := 33) (v := 3) (by decide) dX2_whyNoBubble_33 ?_
        refine v_goto (pc := 34) (tgt := 38) dX2_whyNoBubble_34 (by decide) ?_
        refine v_iret (pc := 38) dX2_whyNoBubble_38 (Nat.zero_le _) (Nat.zero_le _) ?_
        first | exact ⟨by unfold fWhy; rw [if_pos (bI_n0.mp c_5), if_pos c_16, if_pos c_30], rfl, rfl⟩ | exact ⟨by unfold fWhy; rw [if_pos (bI_n0.mp c_5), if_pos c_16, if_neg c_30], rfl, rfl⟩
    · refine v_iconst (pc := 19) (v := 2) (by decide) dX2_whyNoBubble_19 ?_
      refine v_iret (pc := 20) dX2_whyNoBubble_20 (Nat.zero_le _) (Nat.zero_le _) ?_
      exact ⟨by unfold fWhy; rw [if_pos (bI_n0.mp c_5), if_neg c_16], rfl, rfl⟩
  · refine v_iconst (pc := 8) (v := 1) (by decide) dX2_whyNoBubble_8 ?_
    refine v_iret (pc := 9) dX2_whyNoBubble_9 (Nat.zero_le _) (Nat.zero_le _) ?_
    exact ⟨by unfold fWhy; rw [if_neg (bI_0.mp c_5)], rfl, rfl⟩
