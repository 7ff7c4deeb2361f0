/-! the house's calls: words, votes, speak, laws, power, held, orders -/
def itN {α : Type} (f : Nat → α → α) (a : α) : Nat → α
  | 0 => a
  | n + 1 => f n (itN f a n)
theorem itN_s {α : Type} (f : Nat → α → α) (a : α) (n : Nat) : itN f a (n + 1) = f n (itN f a n) := rfl
theorem itN_cong {α : Type} {f g : Nat → α → α} {a : α} : ∀ n, (∀ i, i < n → ∀ x, f i x = g i x) → itN f a n = itN g a n
  | 0, _ => rfl
  | n + 1, h => by rw [itN_s, itN_s, itN_cong n (fun i hi => h i (by omega)), h n (by omega)]
def sel3 (x a b c : Int32) : Int32 := if x = 0 then a else if x = 1 then b else c
theorem sel3_2 {x a b c : Int32} (h : ¬ x = 0 ∧ ¬ x = 1) : sel3 x a b c = c := by
  unfold sel3
  rw [if_neg h.1, if_neg h.2]

set_option maxRecDepth 100000 in
set_option maxHeartbeats 4000000 in
theorem c_minuteOfB {i : Nat} {M : mM} {J : mJ} (hi : i < 32) : Ct yX0_minuteOf cX0_minuteOf 2 (some .int) (rmD 0) false [.ref 5, .int (nI i)] LY M J (mNi LY (fun r0 M1 J1 => r0 = M 6 i / 10 ∧ M1 = M ∧ J1 = J)) := by
  refine ct_of (own := RX0) (ini := false) (ls := [some (.ref 5), some (.int (nI i))]) 0 (by decide +kernel) rfl (fun h => by cases h) rfl (fun ad => by first | exact Nat.le_of_ble_eq_true rfl) ?_
  have hcl := nI_clamp (show i < 2 ^ 31 by omega)
  refine v_iload_n (pc := 0) dX0_minuteOf_0 rfl ?_
  refine v_if_lt (pc := 1) (tgt := 22) dX0_minuteOf_1 (by decide) (fun c_1 => absurd c_1 (nI_pos (by omega))) (fun c_1 => ?_)
  refine v_iload_n (pc := 4) dX0_minuteOf_4 rfl ?_
  refine v_bipush (pc := 5) (v := 32) (by decide) dX0_minuteOf_5 ?_
  refine v_icmp_ge (pc := 7) (tgt := 22) dX0_minuteOf_7 (by decide) (fun c_7 => absurd c_7 (nI_ge (b := 32) hi (by omega))) (fun c_7 => ?_)
  refine v_aload_n (pc := 10) dX0_minuteOf_10 rfl ?_
  refine v_getR (pc := 11) fkX0_9 ly5 rfl dX0_minuteOf_11 ?_
  refine v_iload_n (pc := 14) dX0_minuteOf_14 rfl ?_
  refine v_iald (pc := 15) ly6 ?_ dX0_minuteOf_15 ?_
  · exact vp_in_nI hi (by omega)
  refine v_bipush (pc := 16) (v := 10) (by decide) dX0_minuteOf_16 ?_
  refine v_idiv (pc := 18) (by decide) dX0_minuteOf_18 ?_
  refine v_goto (pc := 19) (tgt := 23) dX0_minuteOf_19 (by decide) ?_
  refine v_iret (pc := 23) dX0_minuteOf_23 (Nat.zero_le _) (Nat.zero_le _) ?_
  exact ⟨by rw [hcl], rfl, rfl⟩

set_option maxRecDepth 100000 in
set_option maxHeartbeats 4000000 in
theorem c_placeOfB {i : Nat} {M : mM} {J : mJ} (hi : i < 32) : Ct yX0_placeOf cX0_placeOf 2 (some .int) (rmD 0) false [.ref 5, .int (nI i)] LY M J (mNi LY (fun r0 M1 J1 => r0 = rem10 (M 6 i) ∧ M1 = M ∧ J1 = J)) := by
  refine ct_of (own := RX0) (ini := false) (ls := [some (.ref 5), some (.int (nI i))]) 0 (by decide +kernel) rfl (fun h => by cases h) rfl (fun ad => by first | exact Nat.le_of_ble_eq_true rfl) ?_
  have hcl := nI_clamp (show i < 2 ^ 31 by omega)
  refine v_iload_n (pc := 0) dX0_placeOf_0 rfl ?_
  refine v_if_lt (pc := 1) (tgt := 22) dX0_placeOf_1 (by decide) (fun c_1 => absurd c_1 (nI_pos (by omega))) (fun c_1 => ?_)
  refine v_iload_n (pc := 4) dX0_placeOf_4 rfl ?_
  refine v_bipush (pc := 5) (v := 32) (by decide) dX0_placeOf_5 ?_
  refine v_icmp_ge (pc := 7) (tgt := 22) dX0_placeOf_7 (by decide) (fun c_7 => absurd c_7 (nI_ge (b := 32) hi (by omega))) (fun c_7 => ?_)
  refine v_aload_n (pc := 10) dX0_placeOf_10 rfl ?_
  refine v_getR (pc := 11) fkX0_9 ly5 rfl dX0_placeOf_11 ?_
  refine v_iload_n (pc := 14) dX0_placeOf_14 rfl ?_
  refine v_iald (pc := 15) ly6 ?_ dX0_placeOf_15 ?_
  · exact vp_in_nI hi (by omega)
  refine v_bipush (pc := 16) (v := 10) (by decide) dX0_placeOf_16 ?_
  refine v_irem (pc := 18) (by decide) dX0_placeOf_18 ?_
  refine v_goto (pc := 19) (tgt := 23) dX0_placeOf_19 (by decide) ?_
  refine v_iret (pc := 23) dX0_placeOf_23 (Nat.zero_le _) (Nat.zero_le _) ?_
  exact ⟨by rw [hcl]; rfl, rfl, rfl⟩

set_option maxRecDepth 100000 in
set_option maxHeartbeats 4000000 in
theorem c_sizeOfB {i : Nat} {M : mM} {J : mJ} (hi : i < 32) : Ct yX0_sizeOf cX0_sizeOf 2 (some .int) (rmD 0) false [.ref 5, .int (nI i)] LY M J (mNi LY (fun r0 M1 J1 => r0 = M 7 i ∧ M1 = M ∧ J1 = J)) := by
  refine ct_of (own := RX0) (ini := false) (ls := [some (.ref 5), some (.int (nI i))]) 0 (by decide +kernel) rfl (fun h => by cases h) rfl (fun ad => by first | exact Nat.le_of_ble_eq_true rfl) ?_
  have hcl := nI_clamp (show i < 2 ^ 31 by omega)
  refine v_iload_n (pc := 0) dX0_sizeOf_0 rfl ?_
  refine v_if_lt (pc := 1) (tgt := 19) dX0_sizeOf_1 (by decide) (fun c_1 => absurd c_1 (nI_pos (by omega))) (fun c_1 => ?_)
  refine v_iload_n (pc := 4) dX0_sizeOf_4 rfl ?_
  refine v_bipush (pc := 5) (v := 32) (by decide) dX0_sizeOf_5 ?_
  refine v_icmp_ge (pc := 7) (tgt := 19) dX0_sizeOf_7 (by decide) (fun c_7 => absurd c_7 (nI_ge (b := 32) hi (by omega))) (fun c_7 => ?_)
  refine v_aload_n (pc := 10) dX0_sizeOf_10 rfl ?_
  refine v_getR (pc := 11) fkX0_15 ly5 rfl dX0_sizeOf_11 ?_
  refine v_iload_n (pc := 14) dX0_sizeOf_14 rfl ?_
  refine v_iald (pc := 15) ly7 ?_ dX0_sizeOf_15 ?_
  · exact vp_in_nI hi (by omega)
  refine v_goto (pc := 16) (tgt := 20) dX0_sizeOf_16 (by decide) ?_
  refine v_iret (pc := 20) dX0_sizeOf_20 (Nat.zero_le _) (Nat.zero_le _) ?_
  exact ⟨by rw [hcl], rfl, rfl⟩

def vt (K S : Nat → Int32) (x y z : Int32) (i : Nat) (a : Int32) : Int32 := if (x ≤ K i / 10 ∧ K i / 10 ≤ y) ∧ bI (S i ≤ 2) = z then a + 1 else a

set_option maxRecDepth 100000 in
set_option maxHeartbeats 4000000 in
theorem l_votes {x y z : Int32} {wd : Nat} {M : mM} {J : mJ} (hw : M 5 2 = nI wd) (hwd : wd ≤ 32) : ∀ (n i : Nat), n + i = wd → V RX0 cX0_countVotes 7 (some .int) false (rmD 1) false LY.length none (mNi LY (fun r0 M1 J1 => r0 = itN (vt (M 6) (M 7) x y z) 0 wd ∧ M1 = M ∧ J1 = J)) 0 0 6 [some (.ref 5), some (.int x), some (.int y), some (.int z), some (.int (itN (vt (M 6) (M 7) x y z) 0 i)), some (.int (nI i)), none] [] LY M J := by
  intro n
  induction n with
  | zero =>
    intro i hi
    obtain rfl : i = wd := by omega
    refine v_iload (pc := 6) dX0_countVotes_6 rfl ?_
    refine v_aload_n (pc := 8) dX0_countVotes_8 rfl ?_
    refine v_getI (pc := 9) fkX0_18 ly5 rfl dX0_countVotes_9 ?_
    refine v_icmp_ge (pc := 12) (tgt := 61) dX0_countVotes_12 (by decide) (fun c_12 => ?_) (fun c_12 => absurd (by rw [hw]; exact nI_le (Nat.le_refl i) (by omega)) c_12)
    refine v_iload (pc := 61) dX0_countVotes_61 rfl ?_
    refine v_iret (pc := 63) dX0_countVotes_63 (Nat.zero_le _) (Nat.zero_le _) ?_
    exact ⟨rfl, rfl, rfl⟩
  | succ n ih =>
    intro i hi
    have hb7 : i < wd := by omega
    have hcl := nI_clamp (show i < 2 ^ 31 by omega)
    refine v_iload (pc := 6) dX0_countVotes_6 rfl ?_
    refine v_aload_n (pc := 8) dX0_countVotes_8 rfl ?_
    refine v_getI (pc := 9) fkX0_18 ly5 rfl dX0_countVotes_9 ?_
    refine v_icmp_ge (pc := 12) (tgt := 61) dX0_countVotes_12 (by decide) (fun c_12 => absurd c_12 (by rw [hw]; exact nI_ge hb7 (by omega))) (fun c_12 => ?_)
    refine v_aload_n (pc := 15) dX0_countVotes_15 rfl ?_
    refine v_iload (pc := 16) dX0_countVotes_16 rfl ?_
    refine v_cV1i (pc := 18) dX0_countVotes_18 mkX0_29 (c_sizeOfB (i := i) (by omega)) ly5 rfl (Nat.le_of_ble_eq_true rfl) rfl (Nat.zero_le _) (Nat.zero_le _) (fun r_18 M_18 J_18 h_18 => ?_)
    obtain ⟨e1_18, e2_18, e3_18⟩ := h_18
    replace e1_18 := e1_18.symm
    replace e2_18 := e2_18.symm
    replace e3_18 := e3_18.symm
    subst e1_18 e2_18 e3_18
    refine v_iconst (pc := 21) (v := 2) (by decide) dX0_countVotes_21 ?_
    refine v_icmp_gt (pc := 22) (tgt := 29) dX0_countVotes_22 (by decide) (fun c_22 => ?_) (fun c_22 => ?_)
    · refine v_iconst (pc := 29) (v := 0) (by decide) dX0_countVotes_29 ?_
      refine v_ist_6 (pc := 30) dX0_countVotes_30 (by decide) rfl ?_
      refine v_aload_n (pc := 32) dX0_countVotes_32 rfl ?_
      refine v_iload (pc := 33) dX0_countVotes_33 rfl ?_
      refine v_cV1i (pc := 35) dX0_countVotes_35 mkX0_33 (c_minuteOfB (i := i) (by omega)) ly5 rfl (Nat.le_of_ble_eq_true rfl) rfl (Nat.zero_le _) (Nat.zero_le _) (fun r_35 M_35 J_35 h_35 => ?_)
      obtain ⟨e1_35, e2_35, e3_35⟩ := h_35
      replace e1_35 := e1_35.symm
      replace e2_35 := e2_35.symm
      replace e3_35 := e3_35.symm
      subst e1_35 e2_35 e3_35
      refine v_iload_n (pc := 38) dX0_countVotes_38 rfl ?_
      refine v_iload_n (pc := 39) dX0_countVotes_39 rfl ?_
      refine v_cS3i (pc := 40) dX0_countVotes_40 mkX0_36 c_within (Nat.le_of_ble_eq_true rfl) rfl (Nat.zero_le _) (Nat.zero_le _) (fun r_40 M_40 J_40 h_40 => ?_)
      obtain ⟨e1_40, e2_40, e3_40⟩ := h_40
      replace e1_40 := e1_40.symm
      replace e2_40 := e2_40.symm
      replace e3_40 := e3_40.symm
      subst e1_40 e2_40 e3_40
      refine v_if_eq (pc := 43) (tgt := 55) dX0_countVotes_43 (by decide) (fun c_43 => ?_) (fun c_43 => ?_)
      · refine v_inc_5 (pc := 55) (v := 1) dX0_countVotes_55 (by decide) (by decide) rfl ?_
        refine v_goto (pc := 58) (tgt := 6) dX0_countVotes_58 (by decide) ?_
        refine v_fg_6 ?_
        have e9 := ih (i + 1) (by omega)
        rw [itN_s _ _ i] at e9
        rw [nI_1]
        first
          | (rw [show vt (M 6) (M 7) x y z i (itN (vt (M 6) (M 7) x y z) 0 i) = _ from if_pos ⟨bI_n0.mp c_43, by rw [← c_49]; exact (bI_t (Int32.not_lt.mp c_22)).symm⟩] at e9; exact e9)
          | (rw [show vt (M 6) (M 7) x y z i (itN (vt (M 6) (M 7) x y z) 0 i) = _ from if_pos ⟨bI_n0.mp c_43, by rw [← c_49]; exact (bI_f (Int32.not_le.mpr c_22)).symm⟩] at e9; exact e9)
          | (rw [show vt (M 6) (M 7) x y z i (itN (vt (M 6) (M 7) x y z) 0 i) = _ from if_neg (fun q => bI_0.mp c_43 q.1)] at e9; exact e9)
          | (rw [show vt (M 6) (M 7) x y z i (itN (vt (M 6) (M 7) x y z) 0 i) = _ from if_neg (fun q => c_49 (by rw [← q.2]; first | exact bI_t (Int32.not_lt.mp c_22) | exact bI_f (Int32.not_le.mpr c_22)))] at e9; exact e9)
      · refine v_iload (pc := 46) dX0_countVotes_46 rfl ?_
        refine v_iload_n (pc := 48) dX0_countVotes_48 rfl ?_
        refine v_icmp_ne (pc := 49) (tgt := 55) dX0_countVotes_49 (by decide) (fun c_49 => ?_) (fun c_49 => ?_)
        · refine v_inc_5 (pc := 55) (v := 1) dX0_countVotes_55 (by decide) (by decide) rfl ?_
          refine v_goto (pc := 58) (tgt := 6) dX0_countVotes_58 (by decide) ?_
          refine v_fg_6 ?_
          have e9 := ih (i + 1) (by omega)
          rw [itN_s _ _ i] at e9
          rw [nI_1]
          first
            | (rw [show vt (M 6) (M 7) x y z i (itN (vt (M 6) (M 7) x y z) 0 i) = _ from if_pos ⟨bI_n0.mp c_43, by rw [← c_49]; exact (bI_t (Int32.not_lt.mp c_22)).symm⟩] at e9; exact e9)
            | (rw [show vt (M 6) (M 7) x y z i (itN (vt (M 6) (M 7) x y z) 0 i) = _ from if_pos ⟨bI_n0.mp c_43, by rw [← c_49]; exact (bI_f (Int32.not_le.mpr c_22)).symm⟩] at e9; exact e9)
            | (rw [show vt (M 6) (M 7) x y z i (itN (vt (M 6) (M 7) x y z) 0 i) = _ from if_neg (fun q => bI_0.mp c_43 q.1)] at e9; exact e9)
            | (rw [show vt (M 6) (M 7) x y z i (itN (vt (M 6) (M 7) x y z) 0 i) = _ from if_neg (fun q => c_49 (by rw [← q.2]; first | exact bI_t (Int32.not_lt.mp c_22) | exact bI_f (Int32.not_le.mpr c_22)))] at e9; exact e9)
        · refine v_inc_4 (pc := 52) (v := 1) dX0_countVotes_52 (by decide) (by decide) rfl ?_
          refine v_inc_5 (pc := 55) (v := 1) dX0_countVotes_55 (by decide) (by decide) rfl ?_
          refine v_goto (pc := 58) (tgt := 6) dX0_countVotes_58 (by decide) ?_
          refine v_fg_6 ?_
          have e9 := ih (i + 1) (by omega)
          rw [itN_s _ _ i] at e9
          rw [nI_1]
          first
            | (rw [show vt (M 6) (M 7) x y z i (itN (vt (M 6) (M 7) x y z) 0 i) = _ from if_pos ⟨bI_n0.mp c_43, by rw [← c_49]; exact (bI_t (Int32.not_lt.mp c_22)).symm⟩] at e9; exact e9)
            | (rw [show vt (M 6) (M 7) x y z i (itN (vt (M 6) (M 7) x y z) 0 i) = _ from if_pos ⟨bI_n0.mp c_43, by rw [← c_49]; exact (bI_f (Int32.not_le.mpr c_22)).symm⟩] at e9; exact e9)
            | (rw [show vt (M 6) (M 7) x y z i (itN (vt (M 6) (M 7) x y z) 0 i) = _ from if_neg (fun q => bI_0.mp c_43 q.1)] at e9; exact e9)
            | (rw [show vt (M 6) (M 7) x y z i (itN (vt (M 6) (M 7) x y z) 0 i) = _ from if_neg (fun q => c_49 (by rw [← q.2]; first | exact bI_t (Int32.not_lt.mp c_22) | exact bI_f (Int32.not_le.mpr c_22)))] at e9; exact e9)
    · refine v_iconst (pc := 25) (v := 1) (by decide) dX0_countVotes_25 ?_
      refine v_goto (pc := 26) (tgt := 30) dX0_countVotes_26 (by decide) ?_
      refine v_ist_6 (pc := 30) dX0_countVotes_30 (by decide) rfl ?_
      refine v_aload_n (pc := 32) dX0_countVotes_32 rfl ?_
      refine v_iload (pc := 33) dX0_countVotes_33 rfl ?_
      refine v_cV1i (pc := 35) dX0_countVotes_35 mkX0_33 (c_minuteOfB (i := i) (by omega)) ly5 rfl (Nat.le_of_ble_eq_true rfl) rfl (Nat.zero_le _) (Nat.zero_le _) (fun r_35 M_35 J_35 h_35 => ?_)
      obtain ⟨e1_35, e2_35, e3_35⟩ := h_35
      replace e1_35 := e1_35.symm
      replace e2_35 := e2_35.symm
      replace e3_35 := e3_35.symm
      subst e1_35 e2_35 e3_35
      refine v_iload_n (pc := 38) dX0_countVotes_38 rfl ?_
      refine v_iload_n (pc := 39) dX0_countVotes_39 rfl ?_
      refine v_cS3i (pc := 40) dX0_countVotes_40 mkX0_36 c_within (Nat.le_of_ble_eq_true rfl) rfl (Nat.zero_le _) (Nat.zero_le _) (fun r_40 M_40 J_40 h_40 => ?_)
      obtain ⟨e1_40, e2_40, e3_40⟩ := h_40
      replace e1_40 := e1_40.symm
      replace e2_40 := e2_40.symm
      replace e3_40 := e3_40.symm
      subst e1_40 e2_40 e3_40
      refine v_if_eq (pc := 43) (tgt := 55) dX0_countVotes_43 (by decide) (fun c_43 => ?_) (fun c_43 => ?_)
      · refine v_inc_5 (pc := 55) (v := 1) dX0_countVotes_55 (by decide) (by decide) rfl ?_
        refine v_goto (pc := 58) (tgt := 6) dX0_countVotes_58 (by decide) ?_
        refine v_fg_6 ?_
        have e9 := ih (i + 1) (by omega)
        rw [itN_s _ _ i] at e9
        rw [nI_1]
        first
          | (rw [show vt (M 6) (M 7) x y z i (itN (vt (M 6) (M 7) x y z) 0 i) = _ from if_pos ⟨bI_n0.mp c_43, by rw [← c_49]; exact (bI_t (Int32.not_lt.mp c_22)).symm⟩] at e9; exact e9)
          | (rw [show vt (M 6) (M 7) x y z i (itN (vt (M 6) (M 7) x y z) 0 i) = _ from if_pos ⟨bI_n0.mp c_43, by rw [← c_49]; exact (bI_f (Int32.not_le.mpr c_22)).symm⟩] at e9; exact e9)
          | (rw [show vt (M 6) (M 7) x y z i (itN (vt (M 6) (M 7) x y z) 0 i) = _ from if_neg (fun q => bI_0.mp c_43 q.1)] at e9; exact e9)
          | (rw [show vt (M 6) (M 7) x y z i (itN (vt (M 6) (M 7) x y z) 0 i) = _ from if_neg (fun q => c_49 (by rw [← q.2]; first | exact bI_t (Int32.not_lt.mp c_22) | exact bI_f (Int32.not_le.mpr c_22)))] at e9; exact e9)
      · refine v_iload (pc := 46) dX0_countVotes_46 rfl ?_
        refine v_iload_n (pc := 48) dX0_countVotes_48 rfl ?_
        refine v_icmp_ne (pc := 49) (tgt := 55) dX0_countVotes_49 (by decide) (fun c_49 => ?_) (fun c_49 => ?_)
        · refine v_inc_5 (pc := 55) (v := 1) dX0_countVotes_55 (by decide) (by decide) rfl ?_
          refine v_goto (pc := 58) (tgt := 6) dX0_countVotes_58 (by decide) ?_
          refine v_fg_6 ?_
          have e9 := ih (i + 1) (by omega)
          rw [itN_s _ _ i] at e9
          rw [nI_1]
          first
            | (rw [show vt (M 6) (M 7) x y z i (itN (vt (M 6) (M 7) x y z) 0 i) = _ from if_pos ⟨bI_n0.mp c_43, by rw [← c_49]; exact (bI_t (Int32.not_lt.mp c_22)).symm⟩] at e9; exact e9)
            | (rw [show vt (M 6) (M 7) x y z i (itN (vt (M 6) (M 7) x y z) 0 i) = _ from if_pos ⟨bI_n0.mp c_43, by rw [← c_49]; exact (bI_f (Int32.not_le.mpr c_22)).symm⟩] at e9; exact e9)
            | (rw [show vt (M 6) (M 7) x y z i (itN (vt (M 6) (M 7) x y z) 0 i) = _ from if_neg (fun q => bI_0.mp c_43 q.1)] at e9; exact e9)
            | (rw [show vt (M 6) (M 7) x y z i (itN (vt (M 6) (M 7) x y z) 0 i) = _ from if_neg (fun q => c_49 (by rw [← q.2]; first | exact bI_t (Int32.not_lt.mp c_22) | exact bI_f (Int32.not_le.mpr c_22)))] at e9; exact e9)
        · refine v_inc_4 (pc := 52) (v := 1) dX0_countVotes_52 (by decide) (by decide) rfl ?_
          refine v_inc_5 (pc := 55) (v := 1) dX0_countVotes_55 (by decide) (by decide) rfl ?_
          refine v_goto (pc := 58) (tgt := 6) dX0_countVotes_58 (by decide) ?_
          refine v_fg_6 ?_
          have e9 := ih (i + 1) (by omega)
          rw [itN_s _ _ i] at e9
          rw [nI_1]
          first
            | (rw [show vt (M 6) (M 7) x y z i (itN (vt (M 6) (M 7) x y z) 0 i) = _ from if_pos ⟨bI_n0.mp c_43, by rw [← c_49]; exact (bI_t (Int32.not_lt.mp c_22)).symm⟩] at e9; exact e9)
            | (rw [show vt (M 6) (M 7) x y z i (itN (vt (M 6) (M 7) x y z) 0 i) = _ from if_pos ⟨bI_n0.mp c_43, by rw [← c_49]; exact (bI_f (Int32.not_le.mpr c_22)).symm⟩] at e9; exact e9)
            | (rw [show vt (M 6) (M 7) x y z i (itN (vt (M 6) (M 7) x y z) 0 i) = _ from if_neg (fun q => bI_0.mp c_43 q.1)] at e9; exact e9)
            | (rw [show vt (M 6) (M 7) x y z i (itN (vt (M 6) (M 7) x y z) 0 i) = _ from if_neg (fun q => c_49 (by rw [← q.2]; first | exact bI_t (Int32.not_lt.mp c_22) | exact bI_f (Int32.not_le.mpr c_22)))] at e9; exact e9)

set_option maxRecDepth 100000 in
set_option maxHeartbeats 4000000 in
theorem c_votesB {x y z : Int32} {wd : Nat} {M : mM} {J : mJ} (hw : M 5 2 = nI wd) (hwd : wd ≤ 32) : Ct yX0_countVotes cX0_countVotes 7 (some .int) (rmD 1) false [.ref 5, .int x, .int y, .int z] LY M J (mNi LY (fun r0 M1 J1 => r0 = itN (vt (M 6) (M 7) x y z) 0 wd ∧ M1 = M ∧ J1 = J)) := by
  refine ct_of (own := RX0) (ini := false) (ls := [some (.ref 5), some (.int x), some (.int y), some (.int z), none, none, none]) 3 (by decide +kernel) rfl (fun h => by cases h) rfl (fun ad => by first | exact Nat.le_of_ble_eq_true rfl) ?_
  refine v_iconst (pc := 0) (v := 0) (by decide) dX0_countVotes_0 ?_
  refine v_ist_4 (pc := 1) dX0_countVotes_1 (by decide) rfl ?_
  refine v_iconst (pc := 3) (v := 0) (by decide) dX0_countVotes_3 ?_
  refine v_ist_5 (pc := 4) dX0_countVotes_4 (by decide) rfl ?_
  exact l_votes hw hwd wd 0 rfl

set_option maxRecDepth 100000 in
set_option maxHeartbeats 4000000 in
theorem c_word {x y : Int32} {wd : Nat} {M : mM} {J : mJ} (hw : M 5 2 = nI wd) (hwd : wd ≤ 32) : Ct yX6_word cX6_word 4 (some .int) (rmD 1) false [.ref 0, .int x, .int y] LY M J (mNi LY (fun r0 M1 J1 => r0 = (if 0 ≤ y ∧ y ≤ 2 then (if x = -1 then nI wd else if 0 ≤ x ∧ x.toNatClampNeg < wd then sel3 y (M 6 x.toNatClampNeg / 10) (rem10 (M 6 x.toNatClampNeg)) (M 7 x.toNatClampNeg) else -1) else -2) ∧ M1 = M ∧ J1 = J)) := by
  refine ct_of (own := RX6) (ini := false) (ls := [some (.ref 0), some (.int x), some (.int y), none]) 1 (by decide +kernel) rfl (fun h => by cases h) rfl (fun ad => by first | exact Nat.le_of_ble_eq_true rfl) ?_
  refine v_iload_n (pc := 0) dX6_word_0 rfl ?_
  refine v_iconst (pc := 1) (v := 0) (by decide) dX6_word_1 ?_
  refine v_iconst (pc := 2) (v := 2) (by decide) dX6_word_2 ?_
  refine v_cS3i (pc := 3) dX6_word_3 mkX6_49 c_within (Nat.le_of_ble_eq_true rfl) rfl (Nat.zero_le _) (Nat.zero_le _) (fun r_3 M_3 J_3 h_3 => ?_)
  obtain ⟨e1_3, e2_3, e3_3⟩ := h_3
  replace e1_3 := e1_3.symm
  replace e2_3 := e2_3.symm
  replace e3_3 := e3_3.symm
  subst e1_3 e2_3 e3_3
  refine v_if_ne (pc := 6) (tgt := 12) dX6_word_6 (by decide) (fun c_6 => ?_) (fun c_6 => ?_)
  · refine v_aload_n (pc := 12) dX6_word_12 rfl ?_
    refine v_getR (pc := 13) fkX6_12 ly0 rfl dX6_word_13 ?_
    refine v_getR (pc := 16) fkX6_53 ly1 rfl dX6_word_16 ?_
    refine v_getR (pc := 19) fkX6_87 ly2 rfl dX6_word_19 ?_
    refine v_ast_3 (pc := 22) dX6_word_22 (by decide) rfl ?_
    refine v_iload_n (pc := 23) dX6_word_23 rfl ?_
    refine v_iconst (pc := 24) (v := (-1)) (by decide) dX6_word_24 ?_
    refine v_icmp_ne (pc := 25) (tgt := 33) dX6_word_25 (by decide) (fun c_25 => ?_) (fun c_25 => ?_)
    · refine v_iload_n (pc := 33) dX6_word_33 rfl ?_
      refine v_iconst (pc := 34) (v := 0) (by decide) dX6_word_34 ?_
      refine v_aload_n (pc := 35) dX6_word_35 rfl ?_
      refine v_getI (pc := 36) fkX6_132 ly5 rfl dX6_word_36 ?_
      refine v_iconst (pc := 39) (v := 1) (by decide) dX6_word_39 ?_
      refine v_isub (pc := 40) dX6_word_40 ?_
      refine v_cS3i (pc := 41) dX6_word_41 mkX6_49 c_within (Nat.le_of_ble_eq_true rfl) rfl (Nat.zero_le _) (Nat.zero_le _) (fun r_41 M_41 J_41 h_41 => ?_)
      obtain ⟨e1_41, e2_41, e3_41⟩ := h_41
      replace e1_41 := e1_41.symm
      replace e2_41 := e2_41.symm
      replace e3_41 := e3_41.symm
      subst e1_41 e2_41 e3_41
      refine v_if_ne (pc := 44) (tgt := 49) dX6_word_44 (by decide) (fun c_44 => ?_) (fun c_44 => ?_)
      · obtain ⟨h0, h1⟩ := bI_n0.mp c_44
        obtain ⟨j, hj31, rfl⟩ := nI_of (ge0.mpr h0)
        have hcl := nI_clamp hj31
        have hj : j < wd := by
          rw [hw, Int32.le_iff_toInt_le, nI_toInt hj31, show nI wd - 1 = nI wd - nI 1 from rfl, pk_sub_toInt (by omega) (by omega)] at h1
          omega
        have hg : 0 ≤ nI j ∧ (nI j).toNatClampNeg < wd := ⟨h0, by rw [hcl]; exact hj⟩
        refine v_iload_n (pc := 49) dX6_word_49 rfl ?_
        refine v_lk2 (pc := 50) (t0 := 76) (t1 := 82) (t2 := 88) dX6_word_50 (by decide) (by decide) (by decide) (fun c_50 => ?_) (fun c_50 => ?_) (fun c_50 => ?_)
        · refine v_aload_n (pc := 76) dX6_word_76 rfl ?_
          refine v_iload_n (pc := 77) dX6_word_77 rfl ?_
          refine v_cV1i (pc := 78) dX6_word_78 mkX6_135 (c_minuteOfB (i := j) (by omega)) ly5 rfl (Nat.le_of_ble_eq_true rfl) rfl (Nat.zero_le _) (Nat.zero_le _) (fun r_78 M_78 J_78 h_78 => ?_)
          obtain ⟨e1_78, e2_78, e3_78⟩ := h_78
          replace e1_78 := e1_78.symm
          replace e2_78 := e2_78.symm
          replace e3_78 := e3_78.symm
          subst e1_78 e2_78 e3_78
          refine v_iret (pc := 81) dX6_word_81 (Nat.zero_le _) (Nat.zero_le _) ?_
          exact ⟨by rw [if_pos (bI_n0.mp c_6), if_neg c_25, if_pos hg, hcl]; subst c_50; rfl, rfl, rfl⟩
        · refine v_aload_n (pc := 82) dX6_word_82 rfl ?_
          refine v_iload_n (pc := 83) dX6_word_83 rfl ?_
          refine v_cV1i (pc := 84) dX6_word_84 mkX6_138 (c_placeOfB (i := j) (by omega)) ly5 rfl (Nat.le_of_ble_eq_true rfl) rfl (Nat.zero_le _) (Nat.zero_le _) (fun r_84 M_84 J_84 h_84 => ?_)
          obtain ⟨e1_84, e2_84, e3_84⟩ := h_84
          replace e1_84 := e1_84.symm
          replace e2_84 := e2_84.symm
          replace e3_84 := e3_84.symm
          subst e1_84 e2_84 e3_84
          refine v_iret (pc := 87) dX6_word_87 (Nat.zero_le _) (Nat.zero_le _) ?_
          exact ⟨by rw [if_pos (bI_n0.mp c_6), if_neg c_25, if_pos hg, hcl]; subst c_50; rfl, rfl, rfl⟩
        · refine v_aload_n (pc := 88) dX6_word_88 rfl ?_
          refine v_iload_n (pc := 89) dX6_word_89 rfl ?_
          refine v_cV1i (pc := 90) dX6_word_90 mkX6_141 (c_sizeOfB (i := j) (by omega)) ly5 rfl (Nat.le_of_ble_eq_true rfl) rfl (Nat.zero_le _) (Nat.zero_le _) (fun r_90 M_90 J_90 h_90 => ?_)
          obtain ⟨e1_90, e2_90, e3_90⟩ := h_90
          replace e1_90 := e1_90.symm
          replace e2_90 := e2_90.symm
          replace e3_90 := e3_90.symm
          subst e1_90 e2_90 e3_90
          refine v_iret (pc := 93) dX6_word_93 (Nat.zero_le _) (Nat.zero_le _) ?_
          exact ⟨by rw [if_pos (bI_n0.mp c_6), if_neg c_25, if_pos hg, hcl, sel3_2 c_50], rfl, rfl⟩
      · have hg : ¬ (0 ≤ x ∧ x.toNatClampNeg < wd) := fun q => bI_0.mp c_44 ⟨q.1, by
          obtain ⟨h0, h1⟩ := q
          obtain ⟨j, hj31, rfl⟩ := nI_of (ge0.mpr h0)
          rw [nI_clamp hj31] at h1
          rw [hw, Int32.le_iff_toInt_le, nI_toInt hj31, show nI wd - 1 = nI wd - nI 1 from rfl, pk_sub_toInt (by omega) (by omega)]
          omega⟩
        refine v_iconst (pc := 47) (v := (-1)) (by decide) dX6_word_47 ?_
        refine v_iret (pc := 48) dX6_word_48 (Nat.zero_le _) (Nat.zero_le _) ?_
        exact ⟨by rw [if_pos (bI_n0.mp c_6), if_neg c_25, if_neg hg], rfl, rfl⟩
    · refine v_aload_n (pc := 28) dX6_word_28 rfl ?_
      refine v_getI (pc := 29) fkX6_132 ly5 rfl dX6_word_29 ?_
      refine v_iret (pc := 32) dX6_word_32 (Nat.zero_le _) (Nat.zero_le _) ?_
      exact ⟨by rw [if_pos (bI_n0.mp c_6), if_pos c_25, hw], rfl, rfl⟩
  · refine v_bipush (pc := 9) (v := (-2)) (by decide) dX6_word_9 ?_
    refine v_iret (pc := 11) dX6_word_11 (Nat.zero_le _) (Nat.zero_le _) ?_
    exact ⟨by rw [if_neg (bI_0.mp c_6)], rfl, rfl⟩

set_option maxRecDepth 100000 in
set_option maxHeartbeats 4000000 in
theorem c_votes {x y z : Int32} {wd : Nat} {M : mM} {J : mJ} (hw : M 5 2 = nI wd) (hwd : wd ≤ 32) : Ct yX6_votes cX6_votes 4 (some .int) (rmD 2) false [.ref 0, .int x, .int y, .int z] LY M J (mNi LY (fun r0 M1 J1 => r0 = (if ((0 ≤ x ∧ x ≤ 999) ∧ (0 ≤ y ∧ y ≤ 999) ∧ (0 ≤ z ∧ z ≤ 1)) then itN (vt (M 6) (M 7) x y (bI (z = 0))) 0 wd else -2) ∧ M1 = M ∧ J1 = J)) := by
  refine ct_of (own := RX6) (ini := false) (ls := [some (.ref 0), some (.int x), some (.int y), some (.int z)]) 0 (by decide +kernel) rfl (fun h => by cases h) rfl (fun ad => by first | exact Nat.le_of_ble_eq_true rfl) ?_
  refine v_iload_n (pc := 0) dX6_votes_0 rfl ?_
  refine v_iconst (pc := 1) (v := 0) (by decide) dX6_votes_1 ?_
  refine v_sipush (pc := 2) (v := 999) (by decide) dX6_votes_2 ?_
  refine v_cS3i (pc := 5) dX6_votes_5 mkX6_49 c_within (Nat.le_of_ble_eq_true rfl) rfl (Nat.zero_le _) (Nat.zero_le _) (fun r_5 M_5 J_5 h_5 => ?_)
  obtain ⟨e1_5, e2_5, e3_5⟩ := h_5
  replace e1_5 := e1_5.symm
  replace e2_5 := e2_5.symm
  replace e3_5 := e3_5.symm
  subst e1_5 e2_5 e3_5
  refine v_if_eq (pc := 8) (tgt := 31) dX6_votes_8 (by decide) (fun c_8 => ?_) (fun c_8 => ?_)
  · refine v_bipush (pc := 31) (v := (-2)) (by decide) dX6_votes_31 ?_
    refine v_iret (pc := 33) dX6_votes_33 (Nat.zero_le _) (Nat.zero_le _) ?_
    first | exact ⟨by rw [if_neg (fun q => bI_0.mp c_8 q.1)], rfl, rfl⟩ | exact ⟨by rw [if_neg (fun q => bI_0.mp c_19 q.2.1)], rfl, rfl⟩ | exact ⟨by rw [if_neg (fun q => bI_0.mp c_28 q.2.2)], rfl, rfl⟩
  · refine v_iload_n (pc := 11) dX6_votes_11 rfl ?_
    refine v_iconst (pc := 12) (v := 0) (by decide) dX6_votes_12 ?_
    refine v_sipush (pc := 13) (v := 999) (by decide) dX6_votes_13 ?_
    refine v_cS3i (pc := 16) dX6_votes_16 mkX6_49 c_within (Nat.le_of_ble_eq_true rfl) rfl (Nat.zero_le _) (Nat.zero_le _) (fun r_16 M_16 J_16 h_16 => ?_)
    obtain ⟨e1_16, e2_16, e3_16⟩ := h_16
    replace e1_16 := e1_16.symm
    replace e2_16 := e2_16.symm
    replace e3_16 := e3_16.symm
    subst e1_16 e2_16 e3_16
    refine v_if_eq (pc := 19) (tgt := 31) dX6_votes_19 (by decide) (fun c_19 => ?_) (fun c_19 => ?_)
    · refine v_bipush (pc := 31) (v := (-2)) (by decide) dX6_votes_31 ?_
      refine v_iret (pc := 33) dX6_votes_33 (Nat.zero_le _) (Nat.zero_le _) ?_
      first | exact ⟨by rw [if_neg (fun q => bI_0.mp c_8 q.1)], rfl, rfl⟩ | exact ⟨by rw [if_neg (fun q => bI_0.mp c_19 q.2.1)], rfl, rfl⟩ | exact ⟨by rw [if_neg (fun q => bI_0.mp c_28 q.2.2)], rfl, rfl⟩
    · refine v_iload_n (pc := 22) dX6_votes_22 rfl ?_
      refine v_iconst (pc := 23) (v := 0) (by decide) dX6_votes_23 ?_
      refine v_iconst (pc := 24) (v := 1) (by decide) dX6_votes_24 ?_
      refine v_cS3i (pc := 25) dX6_votes_25 mkX6_49 c_within (Nat.le_of_ble_eq_true rfl) rfl (Nat.zero_le _) (Nat.zero_le _) (fun r_25 M_25 J_25 h_25 => ?_)
      obtain ⟨e1_25, e2_25, e3_25⟩ := h_25
      replace e1_25 := e1_25.symm
      replace e2_25 := e2_25.symm
      replace e3_25 := e3_25.symm
      subst e1_25 e2_25 e3_25
      refine v_if_ne (pc := 28) (tgt := 34) dX6_votes_28 (by decide) (fun c_28 => ?_) (fun c_28 => ?_)
      · refine v_aload_n (pc := 34) dX6_votes_34 rfl ?_
        refine v_getR (pc := 35) fkX6_12 ly0 rfl dX6_votes_35 ?_
        refine v_getR (pc := 38) fkX6_53 ly1 rfl dX6_votes_38 ?_
        refine v_getR (pc := 41) fkX6_87 ly2 rfl dX6_votes_41 ?_
        refine v_iload_n (pc := 44) dX6_votes_44 rfl ?_
        refine v_iload_n (pc := 45) dX6_votes_45 rfl ?_
        refine v_iload_n (pc := 46) dX6_votes_46 rfl ?_
        refine v_if_ne (pc := 47) (tgt := 54) dX6_votes_47 (by decide) (fun c_47 => ?_) (fun c_47 => ?_)
        · refine v_iconst (pc := 54) (v := 0) (by decide) dX6_votes_54 ?_
          refine v_cV3i (pc := 55) dX6_votes_55 mkX6_144 (c_votesB hw hwd) ly5 rfl (Nat.le_of_ble_eq_true rfl) rfl (Nat.zero_le _) (Nat.zero_le _) (fun r_55 M_55 J_55 h_55 => ?_)
          obtain ⟨e1_55, e2_55, e3_55⟩ := h_55
          replace e1_55 := e1_55.symm
          replace e2_55 := e2_55.symm
          replace e3_55 := e3_55.symm
          subst e1_55 e2_55 e3_55
          refine v_iret (pc := 58) dX6_votes_58 (Nat.zero_le _) (Nat.zero_le _) ?_
          first | exact ⟨by rw [if_pos ⟨bI_n0.mp c_8, bI_n0.mp c_19, bI_n0.mp c_28⟩, ← bI_t c_47], rfl, rfl⟩ | exact ⟨by rw [if_pos ⟨bI_n0.mp c_8, bI_n0.mp c_19, bI_n0.mp c_28⟩, ← bI_f c_47], rfl, rfl⟩
        · refine v_iconst (pc := 50) (v := 1) (by decide) dX6_votes_50 ?_
          refine v_goto (pc := 51) (tgt := 55) dX6_votes_51 (by decide) ?_
          refine v_cV3i (pc := 55) dX6_votes_55 mkX6_144 (c_votesB hw hwd) ly5 rfl (Nat.le_of_ble_eq_true rfl) rfl (Nat.zero_le _) (Nat.zero_le _) (fun r_55 M_55 J_55 h_55 => ?_)
          obtain ⟨e1_55, e2_55, e3_55⟩ := h_55
          replace e1_55 := e1_55.symm
          replace e2_55 := e2_55.symm
          replace e3_55 := e3_55.symm
          subst e1_55 e2_55 e3_55
          refine v_iret (pc := 58) dX6_votes_58 (Nat.zero_le _) (Nat.zero_le _) ?_
          first | exact ⟨by rw [if_pos ⟨bI_n0.mp c_8, bI_n0.mp c_19, bI_n0.mp c_28⟩, ← bI_t c_47], rfl, rfl⟩ | exact ⟨by rw [if_pos ⟨bI_n0.mp c_8, bI_n0.mp c_19, bI_n0.mp c_28⟩, ← bI_f c_47], rfl, rfl⟩
      · refine v_bipush (pc := 31) (v := (-2)) (by decide) dX6_votes_31 ?_
        refine v_iret (pc := 33) dX6_votes_33 (Nat.zero_le _) (Nat.zero_le _) ?_
        first | exact ⟨by rw [if_neg (fun q => bI_0.mp c_8 q.1)], rfl, rfl⟩ | exact ⟨by rw [if_neg (fun q => bI_0.mp c_19 q.2.1)], rfl, rfl⟩ | exact ⟨by rw [if_neg (fun q => bI_0.mp c_28 q.2.2)], rfl, rfl⟩

def fl (bl : Int32) (b : Nat → Int32) (i : Nat) (a : Int32) : Int32 := if bt bl (nI i) then (if a < b i + 1 then b i + 1 else a) else a

set_option maxRecDepth 100000 in
set_option maxHeartbeats 4000000 in
theorem l_falls  {M : mM} {J : mJ}  : ∀ (n i : Nat), n + i = 7 → V RX6 cX6_falls 4 (some .int) false (rmD 1) false LY.length none (mNi LY (fun r0 M1 J1 => r0 = itN (fl (M 2 4) (M 4)) 0 7 ∧ M1 = M ∧ J1 = J)) 0 0 12 [some (.ref 0), some (.ref 2), some (.int (itN (fl (M 2 4) (M 4)) 0 i)), some (.int (nI i))] [] LY M J := by
  intro n
  induction n with
  | zero =>
    intro i hi
    obtain rfl : i = 7 := by omega
    refine v_iload_n (pc := 12) dX6_falls_12 rfl ?_
    refine v_bipush (pc := 13) (v := 7) (by decide) dX6_falls_13 ?_
    refine v_icmp_ge (pc := 15) (tgt := 44) dX6_falls_15 (by decide) (fun c_15 => ?_) (fun c_15 => absurd (by decide) c_15)
    refine v_iload_n (pc := 44) dX6_falls_44 rfl ?_
    refine v_iret (pc := 45) dX6_falls_45 (Nat.zero_le _) (Nat.zero_le _) ?_
    exact ⟨rfl, rfl, rfl⟩
  | succ n ih =>
    intro i hi
    have hb7 : i < 7 := by omega
    have hcl := nI_clamp (show i < 2 ^ 31 by omega)
    refine v_iload_n (pc := 12) dX6_falls_12 rfl ?_
    refine v_bipush (pc := 13) (v := 7) (by decide) dX6_falls_13 ?_
    refine v_icmp_ge (pc := 15) (tgt := 44) dX6_falls_15 (by decide) (fun c_15 => absurd c_15 (nI_ge (b := 7) hb7 (by omega))) (fun c_15 => ?_)
    refine v_aload_n (pc := 18) dX6_falls_18 rfl ?_
    refine v_iload_n (pc := 19) dX6_falls_19 rfl ?_
    refine v_cV1i (pc := 20) dX6_falls_20 mkX6_129 (c_isBelow ly2) ly2 rfl (Nat.le_of_ble_eq_true rfl) rfl (Nat.zero_le _) (Nat.zero_le _) (fun r_20 M_20 J_20 h_20 => ?_)
    obtain ⟨e1_20, e2_20, e3_20⟩ := h_20
    replace e1_20 := e1_20.symm
    replace e2_20 := e2_20.symm
    replace e3_20 := e3_20.symm
    subst e1_20 e2_20 e3_20
    refine v_if_eq (pc := 23) (tgt := 38) dX6_falls_23 (by decide) (fun c_23 => ?_) (fun c_23 => ?_)
    · refine v_inc_3 (pc := 38) (v := 1) dX6_falls_38 (by decide) (by decide) rfl ?_
      refine v_goto (pc := 41) (tgt := 12) dX6_falls_41 (by decide) ?_
      have hs := sm7 hb7
      have e9 := ih (i + 1) (by omega)
      rw [itN_s _ _ i] at e9
      rw [nI_1]
      have e7 := f7_in (f := M 4) hb7
      try rw [e7]
      first
        | (rw [show fl (M 2 4) (M 4) i (itN (fl (M 2 4) (M 4)) 0 i) = _ from if_pos (bI_n0.mp c_23).2.2] at e9; exact e9)
        | (rw [show fl (M 2 4) (M 4) i (itN (fl (M 2 4) (M 4)) 0 i) = _ from if_neg (fun q => bI_0.mp c_23 ⟨hs.1, hs.2, q⟩)] at e9; exact e9)
    · refine v_iload_n (pc := 26) dX6_falls_26 rfl ?_
      refine v_aload_n (pc := 27) dX6_falls_27 rfl ?_
      refine v_iload_n (pc := 28) dX6_falls_28 rfl ?_
      refine v_cV1i (pc := 29) dX6_falls_29 mkX6_126 (c_breathOf ly2 ly4) ly2 rfl (Nat.le_of_ble_eq_true rfl) rfl (Nat.zero_le _) (Nat.zero_le _) (fun r_29 M_29 J_29 h_29 => ?_)
      obtain ⟨e1_29, e2_29, e3_29⟩ := h_29
      replace e1_29 := e1_29.symm
      replace e2_29 := e2_29.symm
      replace e3_29 := e3_29.symm
      subst e1_29 e2_29 e3_29
      refine v_iconst (pc := 32) (v := 1) (by decide) dX6_falls_32 ?_
      refine v_iadd (pc := 33) dX6_falls_33 ?_
      refine v_mmax (pc := 34) mwmaxX6_148 dX6_falls_34 (by decide) (Nat.le_of_ble_eq_true rfl) (Nat.zero_le _) (Nat.zero_le _) ?_
      refine v_ist_2 (pc := 37) dX6_falls_37 (by decide) rfl ?_
      refine v_inc_3 (pc := 38) (v := 1) dX6_falls_38 (by decide) (by decide) rfl ?_
      refine v_goto (pc := 41) (tgt := 12) dX6_falls_41 (by decide) ?_
      have hs := sm7 hb7
      have e9 := ih (i + 1) (by omega)
      rw [itN_s _ _ i] at e9
      rw [nI_1]
      have e7 := f7_in (f := M 4) hb7
      try rw [e7]
      first
        | (rw [show fl (M 2 4) (M 4) i (itN (fl (M 2 4) (M 4)) 0 i) = _ from if_pos (bI_n0.mp c_23).2.2] at e9; exact e9)
        | (rw [show fl (M 2 4) (M 4) i (itN (fl (M 2 4) (M 4)) 0 i) = _ from if_neg (fun q => bI_0.mp c_23 ⟨hs.1, hs.2, q⟩)] at e9; exact e9)

set_option maxRecDepth 100000 in
set_option maxHeartbeats 4000000 in
theorem c_falls  {M : mM} {J : mJ}  : Ct yX6_falls cX6_falls 4 (some .int) (rmD 1) false [.ref 0] LY M J (mNi LY (fun r0 M1 J1 => r0 = itN (fl (M 2 4) (M 4)) 0 7 ∧ M1 = M ∧ J1 = J)) := by
  refine ct_of (own := RX6) (ini := false) (ls := [some (.ref 0), none, none, none]) 3 (by decide +kernel) rfl (fun h => by cases h) rfl (fun ad => by first | exact Nat.le_of_ble_eq_true rfl) ?_
  refine v_aload_n (pc := 0) dX6_falls_0 rfl ?_
  refine v_getR (pc := 1) fkX6_12 ly0 rfl dX6_falls_1 ?_
  refine v_getR (pc := 4) fkX6_53 ly1 rfl dX6_falls_4 ?_
  refine v_ast_1 (pc := 7) dX6_falls_7 (by decide) rfl ?_
  refine v_iconst (pc := 8) (v := 0) (by decide) dX6_falls_8 ?_
  refine v_ist_2 (pc := 9) dX6_falls_9 (by decide) rfl ?_
  refine v_iconst (pc := 10) (v := 0) (by decide) dX6_falls_10 ?_
  refine v_ist_3 (pc := 11) dX6_falls_11 (by decide) rfl ?_
  exact l_falls 7 0 rfl

/-- sizes, least, how long: the size is 9 less j -/
def sp (mi dp td br pl y z : Int32) (j : Nat) (p : Int32 × Int32 × Int32) : Int32 × Int32 × Int32 :=
  if 0 ≤ z - mi - fUp dp (nI (9 - j)) ∧ nI (9 - j) ≤ br - (z - mi - fUp dp (nI (9 - j))) ∧ rem10 (pl + fUp dp (nI (9 - j)) * td) = y then (p.1 + 1, nI (9 - j), z - mi - fUp dp (nI (9 - j))) else p

set_option maxRecDepth 100000 in
set_option maxHeartbeats 4000000 in
theorem l_speak {x y z u : Int32} {M : mM} {J : mJ}  : ∀ (n i : Nat), n + i = 9 → V RX6 cX6_speak 11 (some .int) false (rmD 2) false LY.length none (mNi LY (fun r0 M1 J1 => r0 = sel3 u (itN (sp (M 2 7) (M 2 5) (M 2 6) (f7 (M 4) x) (f7 (M 3) x) y z) (0, -6, -6) 9).1 (itN (sp (M 2 7) (M 2 5) (M 2 6) (f7 (M 4) x) (f7 (M 3) x) y z) (0, -6, -6) 9).2.1 (itN (sp (M 2 7) (M 2 5) (M 2 6) (f7 (M 4) x) (f7 (M 3) x) y z) (0, -6, -6) 9).2.2 ∧ M1 = M ∧ J1 = J)) 0 0 69 [some (.ref 0), some (.int x), some (.int y), some (.int z), some (.int u), some (.ref 2), some (.int (itN (sp (M 2 7) (M 2 5) (M 2 6) (f7 (M 4) x) (f7 (M 3) x) y z) (0, -6, -6) i).1), some (.int (itN (sp (M 2 7) (M 2 5) (M 2 6) (f7 (M 4) x) (f7 (M 3) x) y z) (0, -6, -6) i).2.1), some (.int (itN (sp (M 2 7) (M 2 5) (M 2 6) (f7 (M 4) x) (f7 (M 3) x) y z) (0, -6, -6) i).2.2), some (.int (nI (9 - i))), none] [] LY M J := by
  intro n
  induction n with
  | zero =>
    intro i hi
    obtain rfl : i = 9 := by omega
    refine v_iload (pc := 69) dX6_speak_69 rfl ?_
    refine v_iconst (pc := 71) (v := 1) (by decide) dX6_speak_71 ?_
    refine v_icmp_lt (pc := 72) (tgt := 140) dX6_speak_72 (by decide) (fun c_72 => ?_) (fun c_72 => absurd (by decide) c_72)
    refine v_iload (pc := 140) dX6_speak_140 rfl ?_
    refine v_lk2 (pc := 142) (t0 := 168) (t1 := 171) (t2 := 174) dX6_speak_142 (by decide) (by decide) (by decide) (fun c_142 => ?_) (fun c_142 => ?_) (fun c_142 => ?_)
    · refine v_iload (pc := 168) dX6_speak_168 rfl ?_
      refine v_iret (pc := 170) dX6_speak_170 (Nat.zero_le _) (Nat.zero_le _) ?_
      exact ⟨by subst c_142; rfl, rfl, rfl⟩
    · refine v_iload (pc := 171) dX6_speak_171 rfl ?_
      refine v_iret (pc := 173) dX6_speak_173 (Nat.zero_le _) (Nat.zero_le _) ?_
      exact ⟨by subst c_142; rfl, rfl, rfl⟩
    · refine v_iload (pc := 174) dX6_speak_174 rfl ?_
      refine v_iret (pc := 176) dX6_speak_176 (Nat.zero_le _) (Nat.zero_le _) ?_
      exact ⟨by rw [sel3_2 c_142], rfl, rfl⟩
  | succ n ih =>
    intro i hi
    have hb7 : i < 9 := by omega
    have hcl := nI_clamp (show i < 2 ^ 31 by omega)
    refine v_iload (pc := 69) dX6_speak_69 rfl ?_
    refine v_iconst (pc := 71) (v := 1) (by decide) dX6_speak_71 ?_
    refine v_icmp_lt (pc := 72) (tgt := 140) dX6_speak_72 (by decide) (fun c_72 => absurd c_72 (by have h9 := nI_ge (a := 0) (b := 9 - i) (by omega) (by omega); rw [Int32.lt_iff_toInt_lt, nI_toInt (by omega), show (1 : Int32).toInt = 1 by decide]; omega)) (fun c_72 => ?_)
    refine v_iload_n (pc := 75) dX6_speak_75 rfl ?_
    refine v_aload (pc := 76) dX6_speak_76 rfl ?_
    refine v_getI (pc := 78) fkX6_99 ly2 rfl dX6_speak_78 ?_
    refine v_isub (pc := 81) dX6_speak_81 ?_
    refine v_aload (pc := 82) dX6_speak_82 rfl ?_
    refine v_iload (pc := 84) dX6_speak_84 rfl ?_
    refine v_cV1i (pc := 86) dX6_speak_86 mkX6_154 (c_minutesUp ly2) ly2 rfl (Nat.le_of_ble_eq_true rfl) rfl (Nat.zero_le _) (Nat.zero_le _) (fun r_86 M_86 J_86 h_86 => ?_)
    obtain ⟨e1_86, e2_86, e3_86⟩ := h_86
    replace e1_86 := e1_86.symm
    replace e2_86 := e2_86.symm
    replace e3_86 := e3_86.symm
    subst e1_86 e2_86 e3_86
    refine v_isub (pc := 89) dX6_speak_89 ?_
    refine v_ist_10 (pc := 90) dX6_speak_90 (by decide) rfl ?_
    refine v_iload (pc := 92) dX6_speak_92 rfl ?_
    refine v_if_lt (pc := 94) (tgt := 134) dX6_speak_94 (by decide) (fun c_94 => ?_) (fun c_94 => ?_)
    · refine v_inc_9 (pc := 134) (v := (-1)) dX6_speak_134 (by decide) (by decide) rfl ?_
      refine v_goto (pc := 137) (tgt := 69) dX6_speak_137 (by decide) ?_
      refine v_fg_10 ?_
      have hm : nI (9 - i) + (-1) = nI (9 - (i + 1)) := by
        rw [show 9 - i = (9 - (i + 1)) + 1 by omega, pk_m1]
      rw [hm]
      have e9 := ih (i + 1) (by omega)
      rw [itN_s _ _ i] at e9
      first
        | (rw [show (sp (M 2 7) (M 2 5) (M 2 6) (f7 (M 4) x) (f7 (M 3) x) y z) i (itN (sp (M 2 7) (M 2 5) (M 2 6) (f7 (M 4) x) (f7 (M 3) x) y z) (0, -6, -6) i) = _ from if_neg (fun q => absurd q.1 (Int32.not_le.mpr c_94))] at e9; exact e9)
        | (rw [show (sp (M 2 7) (M 2 5) (M 2 6) (f7 (M 4) x) (f7 (M 3) x) y z) i (itN (sp (M 2 7) (M 2 5) (M 2 6) (f7 (M 4) x) (f7 (M 3) x) y z) (0, -6, -6) i) = _ from if_neg (fun q => absurd q.2.1 (Int32.not_le.mpr c_108))] at e9; exact e9)
        | (rw [show (sp (M 2 7) (M 2 5) (M 2 6) (f7 (M 4) x) (f7 (M 3) x) y z) i (itN (sp (M 2 7) (M 2 5) (M 2 6) (f7 (M 4) x) (f7 (M 3) x) y z) (0, -6, -6) i) = _ from if_neg (fun q => c_120 q.2.2)] at e9; exact e9)
        | (rw [show (sp (M 2 7) (M 2 5) (M 2 6) (f7 (M 4) x) (f7 (M 3) x) y z) i (itN (sp (M 2 7) (M 2 5) (M 2 6) (f7 (M 4) x) (f7 (M 3) x) y z) (0, -6, -6) i) = _ from if_pos ⟨Int32.not_lt.mp c_94, Int32.not_lt.mp c_108, c_120⟩] at e9; exact e9)
    · refine v_aload (pc := 97) dX6_speak_97 rfl ?_
      refine v_iload_n (pc := 99) dX6_speak_99 rfl ?_
      refine v_cV1i (pc := 100) dX6_speak_100 mkX6_126 (c_breathOf ly2 ly4) ly2 rfl (Nat.le_of_ble_eq_true rfl) rfl (Nat.zero_le _) (Nat.zero_le _) (fun r_100 M_100 J_100 h_100 => ?_)
      obtain ⟨e1_100, e2_100, e3_100⟩ := h_100
      replace e1_100 := e1_100.symm
      replace e2_100 := e2_100.symm
      replace e3_100 := e3_100.symm
      subst e1_100 e2_100 e3_100
      refine v_iload (pc := 103) dX6_speak_103 rfl ?_
      refine v_isub (pc := 105) dX6_speak_105 ?_
      refine v_iload (pc := 106) dX6_speak_106 rfl ?_
      refine v_icmp_lt (pc := 108) (tgt := 134) dX6_speak_108 (by decide) (fun c_108 => ?_) (fun c_108 => ?_)
      · refine v_inc_9 (pc := 134) (v := (-1)) dX6_speak_134 (by decide) (by decide) rfl ?_
        refine v_goto (pc := 137) (tgt := 69) dX6_speak_137 (by decide) ?_
        refine v_fg_10 ?_
        have hm : nI (9 - i) + (-1) = nI (9 - (i + 1)) := by
          rw [show 9 - i = (9 - (i + 1)) + 1 by omega, pk_m1]
        rw [hm]
        have e9 := ih (i + 1) (by omega)
        rw [itN_s _ _ i] at e9
        first
          | (rw [show (sp (M 2 7) (M 2 5) (M 2 6) (f7 (M 4) x) (f7 (M 3) x) y z) i (itN (sp (M 2 7) (M 2 5) (M 2 6) (f7 (M 4) x) (f7 (M 3) x) y z) (0, -6, -6) i) = _ from if_neg (fun q => absurd q.1 (Int32.not_le.mpr c_94))] at e9; exact e9)
          | (rw [show (sp (M 2 7) (M 2 5) (M 2 6) (f7 (M 4) x) (f7 (M 3) x) y z) i (itN (sp (M 2 7) (M 2 5) (M 2 6) (f7 (M 4) x) (f7 (M 3) x) y z) (0, -6, -6) i) = _ from if_neg (fun q => absurd q.2.1 (Int32.not_le.mpr c_108))] at e9; exact e9)
          | (rw [show (sp (M 2 7) (M 2 5) (M 2 6) (f7 (M 4) x) (f7 (M 3) x) y z) i (itN (sp (M 2 7) (M 2 5) (M 2 6) (f7 (M 4) x) (f7 (M 3) x) y z) (0, -6, -6) i) = _ from if_neg (fun q => c_120 q.2.2)] at e9; exact e9)
          | (rw [show (sp (M 2 7) (M 2 5) (M 2 6) (f7 (M 4) x) (f7 (M 3) x) y z) i (itN (sp (M 2 7) (M 2 5) (M 2 6) (f7 (M 4) x) (f7 (M 3) x) y z) (0, -6, -6) i) = _ from if_pos ⟨Int32.not_lt.mp c_94, Int32.not_lt.mp c_108, c_120⟩] at e9; exact e9)
      · refine v_aload (pc := 111) dX6_speak_111 rfl ?_
        refine v_iload_n (pc := 113) dX6_speak_113 rfl ?_
        refine v_iload (pc := 114) dX6_speak_114 rfl ?_
        refine v_cV2i (pc := 116) dX6_speak_116 mkX6_157 (c_placeUp ly2 ly3) ly2 rfl (Nat.le_of_ble_eq_true rfl) rfl (Nat.zero_le _) (Nat.zero_le _) (fun r_116 M_116 J_116 h_116 => ?_)
        obtain ⟨e1_116, e2_116, e3_116⟩ := h_116
        replace e1_116 := e1_116.symm
        replace e2_116 := e2_116.symm
        replace e3_116 := e3_116.symm
        subst e1_116 e2_116 e3_116
        refine v_iload_n (pc := 119) dX6_speak_119 rfl ?_
        refine v_icmp_ne (pc := 120) (tgt := 134) dX6_speak_120 (by decide) (fun c_120 => ?_) (fun c_120 => ?_)
        · refine v_inc_9 (pc := 134) (v := (-1)) dX6_speak_134 (by decide) (by decide) rfl ?_
          refine v_goto (pc := 137) (tgt := 69) dX6_speak_137 (by decide) ?_
          refine v_fg_10 ?_
          have hm : nI (9 - i) + (-1) = nI (9 - (i + 1)) := by
            rw [show 9 - i = (9 - (i + 1)) + 1 by omega, pk_m1]
          rw [hm]
          have e9 := ih (i + 1) (by omega)
          rw [itN_s _ _ i] at e9
          first
            | (rw [show (sp (M 2 7) (M 2 5) (M 2 6) (f7 (M 4) x) (f7 (M 3) x) y z) i (itN (sp (M 2 7) (M 2 5) (M 2 6) (f7 (M 4) x) (f7 (M 3) x) y z) (0, -6, -6) i) = _ from if_neg (fun q => absurd q.1 (Int32.not_le.mpr c_94))] at e9; exact e9)
            | (rw [show (sp (M 2 7) (M 2 5) (M 2 6) (f7 (M 4) x) (f7 (M 3) x) y z) i (itN (sp (M 2 7) (M 2 5) (M 2 6) (f7 (M 4) x) (f7 (M 3) x) y z) (0, -6, -6) i) = _ from if_neg (fun q => absurd q.2.1 (Int32.not_le.mpr c_108))] at e9; exact e9)
            | (rw [show (sp (M 2 7) (M 2 5) (M 2 6) (f7 (M 4) x) (f7 (M 3) x) y z) i (itN (sp (M 2 7) (M 2 5) (M 2 6) (f7 (M 4) x) (f7 (M 3) x) y z) (0, -6, -6) i) = _ from if_neg (fun q => c_120 q.2.2)] at e9; exact e9)
            | (rw [show (sp (M 2 7) (M 2 5) (M 2 6) (f7 (M 4) x) (f7 (M 3) x) y z) i (itN (sp (M 2 7) (M 2 5) (M 2 6) (f7 (M 4) x) (f7 (M 3) x) y z) (0, -6, -6) i) = _ from if_pos ⟨Int32.not_lt.mp c_94, Int32.not_lt.mp c_108, c_120⟩] at e9; exact e9)
        · refine v_inc_6 (pc := 123) (v := 1) dX6_speak_123 (by decide) (by decide) rfl ?_
          refine v_iload (pc := 126) dX6_speak_126 rfl ?_
          refine v_ist_7 (pc := 128) dX6_speak_128 (by decide) rfl ?_
          refine v_iload (pc := 130) dX6_speak_130 rfl ?_
          refine v_ist_8 (pc := 132) dX6_speak_132 (by decide) rfl ?_
          refine v_inc_9 (pc := 134) (v := (-1)) dX6_speak_134 (by decide) (by decide) rfl ?_
          refine v_goto (pc := 137) (tgt := 69) dX6_speak_137 (by decide) ?_
          refine v_fg_10 ?_
          have hm : nI (9 - i) + (-1) = nI (9 - (i + 1)) := by
            rw [show 9 - i = (9 - (i + 1)) + 1 by omega, pk_m1]
          rw [hm]
          have e9 := ih (i + 1) (by omega)
          rw [itN_s _ _ i] at e9
          first
            | (rw [show (sp (M 2 7) (M 2 5) (M 2 6) (f7 (M 4) x) (f7 (M 3) x) y z) i (itN (sp (M 2 7) (M 2 5) (M 2 6) (f7 (M 4) x) (f7 (M 3) x) y z) (0, -6, -6) i) = _ from if_neg (fun q => absurd q.1 (Int32.not_le.mpr c_94))] at e9; exact e9)
            | (rw [show (sp (M 2 7) (M 2 5) (M 2 6) (f7 (M 4) x) (f7 (M 3) x) y z) i (itN (sp (M 2 7) (M 2 5) (M 2 6) (f7 (M 4) x) (f7 (M 3) x) y z) (0, -6, -6) i) = _ from if_neg (fun q => absurd q.2.1 (Int32.not_le.mpr c_108))] at e9; exact e9)
            | (rw [show (sp (M 2 7) (M 2 5) (M 2 6) (f7 (M 4) x) (f7 (M 3) x) y z) i (itN (sp (M 2 7) (M 2 5) (M 2 6) (f7 (M 4) x) (f7 (M 3) x) y z) (0, -6, -6) i) = _ from if_neg (fun q => c_120 q.2.2)] at e9; exact e9)
            | (rw [show (sp (M 2 7) (M 2 5) (M 2 6) (f7 (M 4) x) (f7 (M 3) x) y z) i (itN (sp (M 2 7) (M 2 5) (M 2 6) (f7 (M 4) x) (f7 (M 3) x) y z) (0, -6, -6) i) = _ from if_pos ⟨Int32.not_lt.mp c_94, Int32.not_lt.mp c_108, c_120⟩] at e9; exact e9)

set_option maxRecDepth 100000 in
set_option maxHeartbeats 4000000 in
theorem c_speak {x y z u : Int32} {M : mM} {J : mJ}  : Ct yX6_speak cX6_speak 11 (some .int) (rmD 2) false [.ref 0, .int x, .int y, .int z, .int u] LY M J (mNi LY (fun r0 M1 J1 => r0 = (if gB M x then (if ((0 ≤ y ∧ y ≤ 9) ∧ (0 ≤ z ∧ z ≤ 999) ∧ (0 ≤ u ∧ u ≤ 2)) then sel3 u (itN (sp (M 2 7) (M 2 5) (M 2 6) (f7 (M 4) x) (f7 (M 3) x) y z) (0, -6, -6) 9).1 (itN (sp (M 2 7) (M 2 5) (M 2 6) (f7 (M 4) x) (f7 (M 3) x) y z) (0, -6, -6) 9).2.1 (itN (sp (M 2 7) (M 2 5) (M 2 6) (f7 (M 4) x) (f7 (M 3) x) y z) (0, -6, -6) 9).2.2 else -2) else -1) ∧ M1 = M ∧ J1 = J)) := by
  refine ct_of (own := RX6) (ini := false) (ls := [some (.ref 0), some (.int x), some (.int y), some (.int z), some (.int u), none, none, none, none, none, none]) 6 (by decide +kernel) rfl (fun h => by cases h) rfl (fun ad => by first | exact Nat.le_of_ble_eq_true rfl) ?_
  refine v_aload_n (pc := 0) dX6_speak_0 rfl ?_
  refine v_getR (pc := 1) fkX6_12 ly0 rfl dX6_speak_1 ?_
  refine v_getR (pc := 4) fkX6_53 ly1 rfl dX6_speak_4 ?_
  refine v_ast_5 (pc := 7) dX6_speak_7 (by decide) rfl ?_
  refine v_aload (pc := 9) dX6_speak_9 rfl ?_
  refine v_iload_n (pc := 11) dX6_speak_11 rfl ?_
  refine v_cV1i (pc := 12) dX6_speak_12 mkX6_129 (c_isBelow ly2) ly2 rfl (Nat.le_of_ble_eq_true rfl) rfl (Nat.zero_le _) (Nat.zero_le _) (fun r_12 M_12 J_12 h_12 => ?_)
  obtain ⟨e1_12, e2_12, e3_12⟩ := h_12
  replace e1_12 := e1_12.symm
  replace e2_12 := e2_12.symm
  replace e3_12 := e3_12.symm
  subst e1_12 e2_12 e3_12
  refine v_if_ne (pc := 15) (tgt := 20) dX6_speak_15 (by decide) (fun c_15 => ?_) (fun c_15 => ?_)
  · refine v_iload_n (pc := 20) dX6_speak_20 rfl ?_
    refine v_iconst (pc := 21) (v := 0) (by decide) dX6_speak_21 ?_
    refine v_bipush (pc := 22) (v := 9) (by decide) dX6_speak_22 ?_
    refine v_cS3i (pc := 24) dX6_speak_24 mkX6_49 c_within (Nat.le_of_ble_eq_true rfl) rfl (Nat.zero_le _) (Nat.zero_le _) (fun r_24 M_24 J_24 h_24 => ?_)
    obtain ⟨e1_24, e2_24, e3_24⟩ := h_24
    replace e1_24 := e1_24.symm
    replace e2_24 := e2_24.symm
    replace e3_24 := e3_24.symm
    subst e1_24 e2_24 e3_24
    refine v_if_eq (pc := 27) (tgt := 51) dX6_speak_27 (by decide) (fun c_27 => ?_) (fun c_27 => ?_)
    · refine v_bipush (pc := 51) (v := (-2)) (by decide) dX6_speak_51 ?_
      refine v_iret (pc := 53) dX6_speak_53 (Nat.zero_le _) (Nat.zero_le _) ?_
      first | exact ⟨by rw [if_pos (bI_n0.mp c_15), if_neg (fun q => bI_0.mp c_27 q.1)], rfl, rfl⟩ | exact ⟨by rw [if_pos (bI_n0.mp c_15), if_neg (fun q => bI_0.mp c_38 q.2.1)], rfl, rfl⟩ | exact ⟨by rw [if_pos (bI_n0.mp c_15), if_neg (fun q => bI_0.mp c_48 q.2.2)], rfl, rfl⟩
    · refine v_iload_n (pc := 30) dX6_speak_30 rfl ?_
      refine v_iconst (pc := 31) (v := 0) (by decide) dX6_speak_31 ?_
      refine v_sipush (pc := 32) (v := 999) (by decide) dX6_speak_32 ?_
      refine v_cS3i (pc := 35) dX6_speak_35 mkX6_49 c_within (Nat.le_of_ble_eq_true rfl) rfl (Nat.zero_le _) (Nat.zero_le _) (fun r_35 M_35 J_35 h_35 => ?_)
      obtain ⟨e1_35, e2_35, e3_35⟩ := h_35
      replace e1_35 := e1_35.symm
      replace e2_35 := e2_35.symm
      replace e3_35 := e3_35.symm
      subst e1_35 e2_35 e3_35
      refine v_if_eq (pc := 38) (tgt := 51) dX6_speak_38 (by decide) (fun c_38 => ?_) (fun c_38 => ?_)
      · refine v_bipush (pc := 51) (v := (-2)) (by decide) dX6_speak_51 ?_
        refine v_iret (pc := 53) dX6_speak_53 (Nat.zero_le _) (Nat.zero_le _) ?_
        first | exact ⟨by rw [if_pos (bI_n0.mp c_15), if_neg (fun q => bI_0.mp c_27 q.1)], rfl, rfl⟩ | exact ⟨by rw [if_pos (bI_n0.mp c_15), if_neg (fun q => bI_0.mp c_38 q.2.1)], rfl, rfl⟩ | exact ⟨by rw [if_pos (bI_n0.mp c_15), if_neg (fun q => bI_0.mp c_48 q.2.2)], rfl, rfl⟩
      · refine v_iload (pc := 41) dX6_speak_41 rfl ?_
        refine v_iconst (pc := 43) (v := 0) (by decide) dX6_speak_43 ?_
        refine v_iconst (pc := 44) (v := 2) (by decide) dX6_speak_44 ?_
        refine v_cS3i (pc := 45) dX6_speak_45 mkX6_49 c_within (Nat.le_of_ble_eq_true rfl) rfl (Nat.zero_le _) (Nat.zero_le _) (fun r_45 M_45 J_45 h_45 => ?_)
        obtain ⟨e1_45, e2_45, e3_45⟩ := h_45
        replace e1_45 := e1_45.symm
        replace e2_45 := e2_45.symm
        replace e3_45 := e3_45.symm
        subst e1_45 e2_45 e3_45
        refine v_if_ne (pc := 48) (tgt := 54) dX6_speak_48 (by decide) (fun c_48 => ?_) (fun c_48 => ?_)
        · refine v_iconst (pc := 54) (v := 0) (by decide) dX6_speak_54 ?_
          refine v_ist_6 (pc := 55) dX6_speak_55 (by decide) rfl ?_
          refine v_bipush (pc := 57) (v := (-6)) (by decide) dX6_speak_57 ?_
          refine v_ist_7 (pc := 59) dX6_speak_59 (by decide) rfl ?_
          refine v_bipush (pc := 61) (v := (-6)) (by decide) dX6_speak_61 ?_
          refine v_ist_8 (pc := 63) dX6_speak_63 (by decide) rfl ?_
          refine v_bipush (pc := 65) (v := 9) (by decide) dX6_speak_65 ?_
          refine v_ist_9 (pc := 67) dX6_speak_67 (by decide) rfl ?_
          refine V.mono (fun o a b c q => ?_) (l_speak 9 0 rfl)
          rw [if_pos (bI_n0.mp c_15), if_pos ⟨bI_n0.mp c_27, bI_n0.mp c_38, bI_n0.mp c_48⟩]
          exact q
        · refine v_bipush (pc := 51) (v := (-2)) (by decide) dX6_speak_51 ?_
          refine v_iret (pc := 53) dX6_speak_53 (Nat.zero_le _) (Nat.zero_le _) ?_
          first | exact ⟨by rw [if_pos (bI_n0.mp c_15), if_neg (fun q => bI_0.mp c_27 q.1)], rfl, rfl⟩ | exact ⟨by rw [if_pos (bI_n0.mp c_15), if_neg (fun q => bI_0.mp c_38 q.2.1)], rfl, rfl⟩ | exact ⟨by rw [if_pos (bI_n0.mp c_15), if_neg (fun q => bI_0.mp c_48 q.2.2)], rfl, rfl⟩
  · refine v_iconst (pc := 18) (v := (-1)) (by decide) dX6_speak_18 ?_
    refine v_iret (pc := 19) dX6_speak_19 (Nat.zero_le _) (Nat.zero_le _) ?_
    exact ⟨by rw [if_neg (bI_0.mp c_15)], rfl, rfl⟩

def ds (set : Int32) (i : Nat) (p : Int32 × Int32) : Int32 × Int32 := (if bt set (nI i) then p.1 + rem10 p.2 else p.1, p.2 / 10)
def dsum (x set : Int32) : Int32 := (itN (ds set) (0, x) 6).1

set_option maxRecDepth 100000 in
set_option maxHeartbeats 4000000 in
theorem l_digitSum {x y : Int32} {M : mM} {J : mJ}  : ∀ (n i : Nat), n + i = 6 → V RX6 cX6_digitSum 5 (some .int) false (rmD 0) false LY.length none (mNi LY (fun r0 M1 J1 => r0 = dsum x y ∧ M1 = M ∧ J1 = J)) 0 0 7 [some (.int x), some (.int y), some (.int (itN (ds y) (0, x) i).1), some (.int (itN (ds y) (0, x) i).2), some (.int (nI i))] [] LY M J := by
  intro n
  induction n with
  | zero =>
    intro i hi
    obtain rfl : i = 6 := by omega
    refine v_iload (pc := 7) dX6_digitSum_7 rfl ?_
    refine v_bipush (pc := 9) (v := 6) (by decide) dX6_digitSum_9 ?_
    refine v_icmp_ge (pc := 11) (tgt := 42) dX6_digitSum_11 (by decide) (fun c_11 => ?_) (fun c_11 => absurd (by decide) c_11)
    refine v_iload_n (pc := 42) dX6_digitSum_42 rfl ?_
    refine v_iret (pc := 43) dX6_digitSum_43 (Nat.zero_le _) (Nat.zero_le _) ?_
    exact ⟨rfl, rfl, rfl⟩
  | succ n ih =>
    intro i hi
    have hb7 : i < 6 := by omega
    have hcl := nI_clamp (show i < 2 ^ 31 by omega)
    refine v_iload (pc := 7) dX6_digitSum_7 rfl ?_
    refine v_bipush (pc := 9) (v := 6) (by decide) dX6_digitSum_9 ?_
    refine v_icmp_ge (pc := 11) (tgt := 42) dX6_digitSum_11 (by decide) (fun c_11 => absurd c_11 (nI_ge (b := 6) hb7 (by omega))) (fun c_11 => ?_)
    refine v_iload_n (pc := 14) dX6_digitSum_14 rfl ?_
    refine v_iload (pc := 15) dX6_digitSum_15 rfl ?_
    refine v_ishr (pc := 17) dX6_digitSum_17 ?_
    refine v_iconst (pc := 18) (v := 1) (by decide) dX6_digitSum_18 ?_
    refine v_iand (pc := 19) dX6_digitSum_19 ?_
    refine v_iconst (pc := 20) (v := 1) (by decide) dX6_digitSum_20 ?_
    refine v_icmp_ne (pc := 21) (tgt := 31) dX6_digitSum_21 (by decide) (fun c_21 => ?_) (fun c_21 => ?_)
    · refine v_iload_n (pc := 31) dX6_digitSum_31 rfl ?_
      refine v_bipush (pc := 32) (v := 10) (by decide) dX6_digitSum_32 ?_
      refine v_idiv (pc := 34) (by decide) dX6_digitSum_34 ?_
      refine v_ist_3 (pc := 35) dX6_digitSum_35 (by decide) rfl ?_
      refine v_inc_4 (pc := 36) (v := 1) dX6_digitSum_36 (by decide) (by decide) rfl ?_
      refine v_goto (pc := 39) (tgt := 7) dX6_digitSum_39 (by decide) ?_
      have e9 := ih (i + 1) (by omega)
      rw [itN_s _ _ i] at e9
      rw [nI_1]
      first
        | (rw [show ds y i (itN (ds y) (0, x) i) = _ from (show ds y i (itN (ds y) (0, x) i) = ((itN (ds y) (0, x) i).1 + rem10 (itN (ds y) (0, x) i).2, (itN (ds y) (0, x) i).2 / 10) from by unfold ds; rw [if_pos c_21])] at e9; exact e9)
        | (rw [show ds y i (itN (ds y) (0, x) i) = _ from (show ds y i (itN (ds y) (0, x) i) = ((itN (ds y) (0, x) i).1, (itN (ds y) (0, x) i).2 / 10) from by unfold ds; rw [if_neg c_21])] at e9; exact e9)
    · refine v_iload_n (pc := 24) dX6_digitSum_24 rfl ?_
      refine v_iload_n (pc := 25) dX6_digitSum_25 rfl ?_
      refine v_bipush (pc := 26) (v := 10) (by decide) dX6_digitSum_26 ?_
      refine v_irem (pc := 28) (by decide) dX6_digitSum_28 ?_
      refine v_iadd (pc := 29) dX6_digitSum_29 ?_
      refine v_ist_2 (pc := 30) dX6_digitSum_30 (by decide) rfl ?_
      refine v_iload_n (pc := 31) dX6_digitSum_31 rfl ?_
      refine v_bipush (pc := 32) (v := 10) (by decide) dX6_digitSum_32 ?_
      refine v_idiv (pc := 34) (by decide) dX6_digitSum_34 ?_
      refine v_ist_3 (pc := 35) dX6_digitSum_35 (by decide) rfl ?_
      refine v_inc_4 (pc := 36) (v := 1) dX6_digitSum_36 (by decide) (by decide) rfl ?_
      refine v_goto (pc := 39) (tgt := 7) dX6_digitSum_39 (by decide) ?_
      have e9 := ih (i + 1) (by omega)
      rw [itN_s _ _ i] at e9
      rw [nI_1]
      first
        | (rw [show ds y i (itN (ds y) (0, x) i) = _ from (show ds y i (itN (ds y) (0, x) i) = ((itN (ds y) (0, x) i).1 + rem10 (itN (ds y) (0, x) i).2, (itN (ds y) (0, x) i).2 / 10) from by unfold ds; rw [if_pos c_21])] at e9; exact e9)
        | (rw [show ds y i (itN (ds y) (0, x) i) = _ from (show ds y i (itN (ds y) (0, x) i) = ((itN (ds y) (0, x) i).1, (itN (ds y) (0, x) i).2 / 10) from by unfold ds; rw [if_neg c_21])] at e9; exact e9)

set_option maxRecDepth 100000 in
set_option maxHeartbeats 4000000 in
theorem c_digitSum {x y : Int32} {M : mM} {J : mJ}  : Ct yX6_digitSum cX6_digitSum 5 (some .int) (rmD 0) false [.int x, .int y] LY M J (mNi LY (fun r0 M1 J1 => r0 = dsum x y ∧ M1 = M ∧ J1 = J)) := by
  refine ct_of (own := RX6) (ini := false) (ls := [some (.int x), some (.int y), none, none, none]) 3 (by decide +kernel) rfl (fun h => by cases h) rfl (fun ad => by first | exact Nat.le_of_ble_eq_true rfl) ?_
  refine v_iconst (pc := 0) (v := 0) (by decide) dX6_digitSum_0 ?_
  refine v_ist_2 (pc := 1) dX6_digitSum_1 (by decide) rfl ?_
  refine v_iload_n (pc := 2) dX6_digitSum_2 rfl ?_
  refine v_ist_3 (pc := 3) dX6_digitSum_3 (by decide) rfl ?_
  refine v_iconst (pc := 4) (v := 0) (by decide) dX6_digitSum_4 ?_
  refine v_ist_4 (pc := 5) dX6_digitSum_5 (by decide) rfl ?_
  exact l_digitSum 6 0 rfl

def el (x : Int32) (i : Nat) (a : Int32) : Int32 := if 0 < dsum x (bv (nI i)) then a ||| bv (nI i) else a
def elaws (x : Int32) : Int32 := itN (el x) 0 6

set_option maxRecDepth 100000 in
set_option maxHeartbeats 4000000 in
theorem l_elaws {x : Int32} {M : mM} {J : mJ}  : ∀ (n i : Nat), n + i = 6 → V RX6 cX6_existingLaws 3 (some .int) false (rmD 1) false LY.length none (mNi LY (fun r0 M1 J1 => r0 = elaws x ∧ M1 = M ∧ J1 = J)) 0 0 4 [some (.int x), some (.int (itN (el x) 0 i)), some (.int (nI i))] [] LY M J := by
  intro n
  induction n with
  | zero =>
    intro i hi
    obtain rfl : i = 6 := by omega
    refine v_iload_n (pc := 4) dX6_existingLaws_4 rfl ?_
    refine v_bipush (pc := 5) (v := 6) (by decide) dX6_existingLaws_5 ?_
    refine v_icmp_ge (pc := 7) (tgt := 32) dX6_existingLaws_7 (by decide) (fun c_7 => ?_) (fun c_7 => absurd (by decide) c_7)
    refine v_iload_n (pc := 32) dX6_existingLaws_32 rfl ?_
    refine v_iret (pc := 33) dX6_existingLaws_33 (Nat.zero_le _) (Nat.zero_le _) ?_
    exact ⟨rfl, rfl, rfl⟩
  | succ n ih =>
    intro i hi
    have hb7 : i < 6 := by omega
    have hcl := nI_clamp (show i < 2 ^ 31 by omega)
    refine v_iload_n (pc := 4) dX6_existingLaws_4 rfl ?_
    refine v_bipush (pc := 5) (v := 6) (by decide) dX6_existingLaws_5 ?_
    refine v_icmp_ge (pc := 7) (tgt := 32) dX6_existingLaws_7 (by decide) (fun c_7 => absurd c_7 (nI_ge (b := 6) hb7 (by omega))) (fun c_7 => ?_)
    refine v_iload_n (pc := 10) dX6_existingLaws_10 rfl ?_
    refine v_iconst (pc := 11) (v := 1) (by decide) dX6_existingLaws_11 ?_
    refine v_iload_n (pc := 12) dX6_existingLaws_12 rfl ?_
    refine v_ishl (pc := 13) dX6_existingLaws_13 ?_
    refine v_cS2i (pc := 14) dX6_existingLaws_14 mkX6_164 c_digitSum (Nat.le_of_ble_eq_true rfl) rfl (Nat.zero_le _) (Nat.zero_le _) (fun r_14 M_14 J_14 h_14 => ?_)
    obtain ⟨e1_14, e2_14, e3_14⟩ := h_14
    replace e1_14 := e1_14.symm
    replace e2_14 := e2_14.symm
    replace e3_14 := e3_14.symm
    subst e1_14 e2_14 e3_14
    refine v_if_le (pc := 17) (tgt := 26) dX6_existingLaws_17 (by decide) (fun c_17 => ?_) (fun c_17 => ?_)
    · refine v_inc_2 (pc := 26) (v := 1) dX6_existingLaws_26 (by decide) (by decide) rfl ?_
      refine v_goto (pc := 29) (tgt := 4) dX6_existingLaws_29 (by decide) ?_
      have e9 := ih (i + 1) (by omega)
      rw [itN_s _ _ i] at e9
      rw [nI_1]
      first
        | (rw [show el x i (itN (el x) 0 i) = _ from if_neg (Int32.not_lt.mpr c_17)] at e9; exact e9)
        | (rw [show el x i (itN (el x) 0 i) = _ from if_pos (Int32.not_le.mp c_17)] at e9; exact e9)
    · refine v_iload_n (pc := 20) dX6_existingLaws_20 rfl ?_
      refine v_iconst (pc := 21) (v := 1) (by decide) dX6_existingLaws_21 ?_
      refine v_iload_n (pc := 22) dX6_existingLaws_22 rfl ?_
      refine v_ishl (pc := 23) dX6_existingLaws_23 ?_
      refine v_ior (pc := 24) dX6_existingLaws_24 ?_
      refine v_ist_1 (pc := 25) dX6_existingLaws_25 (by decide) rfl ?_
      refine v_inc_2 (pc := 26) (v := 1) dX6_existingLaws_26 (by decide) (by decide) rfl ?_
      refine v_goto (pc := 29) (tgt := 4) dX6_existingLaws_29 (by decide) ?_
      have e9 := ih (i + 1) (by omega)
      rw [itN_s _ _ i] at e9
      rw [nI_1]
      first
        | (rw [show el x i (itN (el x) 0 i) = _ from if_neg (Int32.not_lt.mpr c_17)] at e9; exact e9)
        | (rw [show el x i (itN (el x) 0 i) = _ from if_pos (Int32.not_le.mp c_17)] at e9; exact e9)

set_option maxRecDepth 100000 in
set_option maxHeartbeats 4000000 in
theorem c_elaws {x : Int32} {M : mM} {J : mJ}  : Ct yX6_existingLaws cX6_existingLaws 3 (some .int) (rmD 1) false [.int x] LY M J (mNi LY (fun r0 M1 J1 => r0 = elaws x ∧ M1 = M ∧ J1 = J)) := by
  refine ct_of (own := RX6) (ini := false) (ls := [some (.int x), none, none]) 2 (by decide +kernel) rfl (fun h => by cases h) rfl (fun ad => by first | exact Nat.le_of_ble_eq_true rfl) ?_
  refine v_iconst (pc := 0) (v := 0) (by decide) dX6_existingLaws_0 ?_
  refine v_ist_1 (pc := 1) dX6_existingLaws_1 (by decide) rfl ?_
  refine v_iconst (pc := 2) (v := 0) (by decide) dX6_existingLaws_2 ?_
  refine v_ist_2 (pc := 3) dX6_existingLaws_3 (by decide) rfl ?_
  exact l_elaws 6 0 rfl

def lw (x y z E : Int32) (i : Nat) (p : Int32 × Int32 × Int32) : Int32 × Int32 × Int32 :=
  if nI i &&& (E ^^^ (-1)) = 0 then (if dsum x (nI i) ≤ z ∧ p.1 < dsum y (nI i) then (dsum y (nI i), nI i, if dsum x (nI i) = z then p.2.2 + 1 else p.2.2) else (p.1, p.2.1, if dsum x (nI i) = z then p.2.2 + 1 else p.2.2)) else p

set_option maxRecDepth 100000 in
set_option maxHeartbeats 4000000 in
theorem l_laws {x y z u : Int32} {M : mM} {J : mJ}  : ∀ (n i : Nat), n + i = 64 → V RX6 cX6_laws 12 (some .int) false (rmD 2) false LY.length none (mNi LY (fun r0 M1 J1 => r0 = sel3 u (itN (lw x y z (elaws x)) (0, 0, 0) 64).1 (itN (lw x y z (elaws x)) (0, 0, 0) 64).2.1 (itN (lw x y z (elaws x)) (0, 0, 0) 64).2.2 ∧ M1 = M ∧ J1 = J)) 0 0 64 [some (.ref 0), some (.int x), some (.int y), some (.int z), some (.int u), some (.int (elaws x)), some (.int (itN (lw x y z (elaws x)) (0, 0, 0) i).1), some (.int (itN (lw x y z (elaws x)) (0, 0, 0) i).2.1), some (.int (itN (lw x y z (elaws x)) (0, 0, 0) i).2.2), some (.int (nI i)), none, none] [] LY M J := by
  intro n
  induction n with
  | zero =>
    intro i hi
    obtain rfl : i = 64 := by omega
    refine v_iload (pc := 64) dX6_laws_64 rfl ?_
    refine v_bipush (pc := 66) (v := 64) (by decide) dX6_laws_66 ?_
    refine v_icmp_ge (pc := 68) (tgt := 136) dX6_laws_68 (by decide) (fun c_68 => ?_) (fun c_68 => absurd (by decide) c_68)
    refine v_iload (pc := 136) dX6_laws_136 rfl ?_
    refine v_lk2 (pc := 138) (t0 := 164) (t1 := 167) (t2 := 170) dX6_laws_138 (by decide) (by decide) (by decide) (fun c_138 => ?_) (fun c_138 => ?_) (fun c_138 => ?_)
    · refine v_iload (pc := 164) dX6_laws_164 rfl ?_
      refine v_iret (pc := 166) dX6_laws_166 (Nat.zero_le _) (Nat.zero_le _) ?_
      exact ⟨by subst c_138; rfl, rfl, rfl⟩
    · refine v_iload (pc := 167) dX6_laws_167 rfl ?_
      refine v_iret (pc := 169) dX6_laws_169 (Nat.zero_le _) (Nat.zero_le _) ?_
      exact ⟨by subst c_138; rfl, rfl, rfl⟩
    · refine v_iload (pc := 170) dX6_laws_170 rfl ?_
      refine v_iret (pc := 172) dX6_laws_172 (Nat.zero_le _) (Nat.zero_le _) ?_
      exact ⟨by rw [sel3_2 c_138], rfl, rfl⟩
  | succ n ih =>
    intro i hi
    have hb7 : i < 64 := by omega
    have hcl := nI_clamp (show i < 2 ^ 31 by omega)
    refine v_iload (pc := 64) dX6_laws_64 rfl ?_
    refine v_bipush (pc := 66) (v := 64) (by decide) dX6_laws_66 ?_
    refine v_icmp_ge (pc := 68) (tgt := 136) dX6_laws_68 (by decide) (fun c_68 => absurd c_68 (nI_ge (b := 64) hb7 (by omega))) (fun c_68 => ?_)
    refine v_iload (pc := 71) dX6_laws_71 rfl ?_
    refine v_iload (pc := 73) dX6_laws_73 rfl ?_
    refine v_iconst (pc := 75) (v := (-1)) (by decide) dX6_laws_75 ?_
    refine v_ixor (pc := 76) dX6_laws_76 ?_
    refine v_iand (pc := 77) dX6_laws_77 ?_
    refine v_if_eq (pc := 78) (tgt := 84) dX6_laws_78 (by decide) (fun c_78 => ?_) (fun c_78 => ?_)
    · refine v_iload_n (pc := 84) dX6_laws_84 rfl ?_
      refine v_iload (pc := 85) dX6_laws_85 rfl ?_
      refine v_cS2i (pc := 87) dX6_laws_87 mkX6_164 c_digitSum (Nat.le_of_ble_eq_true rfl) rfl (Nat.zero_le _) (Nat.zero_le _) (fun r_87 M_87 J_87 h_87 => ?_)
      obtain ⟨e1_87, e2_87, e3_87⟩ := h_87
      replace e1_87 := e1_87.symm
      replace e2_87 := e2_87.symm
      replace e3_87 := e3_87.symm
      subst e1_87 e2_87 e3_87
      refine v_ist_10 (pc := 90) dX6_laws_90 (by decide) rfl ?_
      refine v_iload_n (pc := 92) dX6_laws_92 rfl ?_
      refine v_iload (pc := 93) dX6_laws_93 rfl ?_
      refine v_cS2i (pc := 95) dX6_laws_95 mkX6_164 c_digitSum (Nat.le_of_ble_eq_true rfl) rfl (Nat.zero_le _) (Nat.zero_le _) (fun r_95 M_95 J_95 h_95 => ?_)
      obtain ⟨e1_95, e2_95, e3_95⟩ := h_95
      replace e1_95 := e1_95.symm
      replace e2_95 := e2_95.symm
      replace e3_95 := e3_95.symm
      subst e1_95 e2_95 e3_95
      refine v_ist_11 (pc := 98) dX6_laws_98 (by decide) rfl ?_
      refine v_iload (pc := 100) dX6_laws_100 rfl ?_
      refine v_iload_n (pc := 102) dX6_laws_102 rfl ?_
      refine v_icmp_ne (pc := 103) (tgt := 109) dX6_laws_103 (by decide) (fun c_103 => ?_) (fun c_103 => ?_)
      · refine v_iload (pc := 109) dX6_laws_109 rfl ?_
        refine v_iload_n (pc := 111) dX6_laws_111 rfl ?_
        refine v_icmp_gt (pc := 112) (tgt := 130) dX6_laws_112 (by decide) (fun c_112 => ?_) (fun c_112 => ?_)
        · refine v_inc_9 (pc := 130) (v := 1) dX6_laws_130 (by decide) (by decide) rfl ?_
          refine v_goto (pc := 133) (tgt := 64) dX6_laws_133 (by decide) ?_
          refine v_fg_10 (v_fg_11 ?_)
          rw [nI_1]
          have e9 := ih (i + 1) (by omega)
          rw [itN_s _ _ i] at e9
          first
            | (rw [show (lw x y z (elaws x)) i (itN (lw x y z (elaws x)) (0, 0, 0) i) = _ from if_neg c_78] at e9; exact e9)
            | (rw [show (lw x y z (elaws x)) i (itN (lw x y z (elaws x)) (0, 0, 0) i) = (dsum y (nI i), nI i, (itN (lw x y z (elaws x)) (0, 0, 0) i).2.2 + 1) from by unfold lw; rw [if_pos c_78, if_pos ⟨Int32.not_lt.mp c_112, Int32.not_le.mp c_119⟩, if_pos c_103]] at e9; exact e9)
            | (rw [show (lw x y z (elaws x)) i (itN (lw x y z (elaws x)) (0, 0, 0) i) = (dsum y (nI i), nI i, (itN (lw x y z (elaws x)) (0, 0, 0) i).2.2) from by unfold lw; rw [if_pos c_78, if_pos ⟨Int32.not_lt.mp c_112, Int32.not_le.mp c_119⟩, if_neg c_103]] at e9; exact e9)
            | (rw [show (lw x y z (elaws x)) i (itN (lw x y z (elaws x)) (0, 0, 0) i) = ((itN (lw x y z (elaws x)) (0, 0, 0) i).1, (itN (lw x y z (elaws x)) (0, 0, 0) i).2.1, (itN (lw x y z (elaws x)) (0, 0, 0) i).2.2 + 1) from by unfold lw; rw [if_pos c_78, if_neg (fun q => absurd q.2 (Int32.not_lt.mpr c_119)), if_pos c_103]] at e9; exact e9)
            | (rw [show (lw x y z (elaws x)) i (itN (lw x y z (elaws x)) (0, 0, 0) i) = ((itN (lw x y z (elaws x)) (0, 0, 0) i).1, (itN (lw x y z (elaws x)) (0, 0, 0) i).2.1, (itN (lw x y z (elaws x)) (0, 0, 0) i).2.2) from by unfold lw; rw [if_pos c_78, if_neg (fun q => absurd q.2 (Int32.not_lt.mpr c_119)), if_neg c_103]] at e9; exact e9)
            | (rw [show (lw x y z (elaws x)) i (itN (lw x y z (elaws x)) (0, 0, 0) i) = ((itN (lw x y z (elaws x)) (0, 0, 0) i).1, (itN (lw x y z (elaws x)) (0, 0, 0) i).2.1, (itN (lw x y z (elaws x)) (0, 0, 0) i).2.2 + 1) from by unfold lw; rw [if_pos c_78, if_neg (fun q => absurd q.1 (Int32.not_le.mpr c_112)), if_pos c_103]] at e9; exact e9)
            | (rw [show (lw x y z (elaws x)) i (itN (lw x y z (elaws x)) (0, 0, 0) i) = ((itN (lw x y z (elaws x)) (0, 0, 0) i).1, (itN (lw x y z (elaws x)) (0, 0, 0) i).2.1, (itN (lw x y z (elaws x)) (0, 0, 0) i).2.2) from by unfold lw; rw [if_pos c_78, if_neg (fun q => absurd q.1 (Int32.not_le.mpr c_112)), if_neg c_103]] at e9; exact e9)
        · refine v_iload (pc := 115) dX6_laws_115 rfl ?_
          refine v_iload (pc := 117) dX6_laws_117 rfl ?_
          refine v_icmp_le (pc := 119) (tgt := 130) dX6_laws_119 (by decide) (fun c_119 => ?_) (fun c_119 => ?_)
          · refine v_inc_9 (pc := 130) (v := 1) dX6_laws_130 (by decide) (by decide) rfl ?_
            refine v_goto (pc := 133) (tgt := 64) dX6_laws_133 (by decide) ?_
            refine v_fg_10 (v_fg_11 ?_)
            rw [nI_1]
            have e9 := ih (i + 1) (by omega)
            rw [itN_s _ _ i] at e9
            first
              | (rw [show (lw x y z (elaws x)) i (itN (lw x y z (elaws x)) (0, 0, 0) i) = _ from if_neg c_78] at e9; exact e9)
              | (rw [show (lw x y z (elaws x)) i (itN (lw x y z (elaws x)) (0, 0, 0) i) = (dsum y (nI i), nI i, (itN (lw x y z (elaws x)) (0, 0, 0) i).2.2 + 1) from by unfold lw; rw [if_pos c_78, if_pos ⟨Int32.not_lt.mp c_112, Int32.not_le.mp c_119⟩, if_pos c_103]] at e9; exact e9)
              | (rw [show (lw x y z (elaws x)) i (itN (lw x y z (elaws x)) (0, 0, 0) i) = (dsum y (nI i), nI i, (itN (lw x y z (elaws x)) (0, 0, 0) i).2.2) from by unfold lw; rw [if_pos c_78, if_pos ⟨Int32.not_lt.mp c_112, Int32.not_le.mp c_119⟩, if_neg c_103]] at e9; exact e9)
              | (rw [show (lw x y z (elaws x)) i (itN (lw x y z (elaws x)) (0, 0, 0) i) = ((itN (lw x y z (elaws x)) (0, 0, 0) i).1, (itN (lw x y z (elaws x)) (0, 0, 0) i).2.1, (itN (lw x y z (elaws x)) (0, 0, 0) i).2.2 + 1) from by unfold lw; rw [if_pos c_78, if_neg (fun q => absurd q.2 (Int32.not_lt.mpr c_119)), if_pos c_103]] at e9; exact e9)
              | (rw [show (lw x y z (elaws x)) i (itN (lw x y z (elaws x)) (0, 0, 0) i) = ((itN (lw x y z (elaws x)) (0, 0, 0) i).1, (itN (lw x y z (elaws x)) (0, 0, 0) i).2.1, (itN (lw x y z (elaws x)) (0, 0, 0) i).2.2) from by unfold lw; rw [if_pos c_78, if_neg (fun q => absurd q.2 (Int32.not_lt.mpr c_119)), if_neg c_103]] at e9; exact e9)
              | (rw [show (lw x y z (elaws x)) i (itN (lw x y z (elaws x)) (0, 0, 0) i) = ((itN (lw x y z (elaws x)) (0, 0, 0) i).1, (itN (lw x y z (elaws x)) (0, 0, 0) i).2.1, (itN (lw x y z (elaws x)) (0, 0, 0) i).2.2 + 1) from by unfold lw; rw [if_pos c_78, if_neg (fun q => absurd q.1 (Int32.not_le.mpr c_112)), if_pos c_103]] at e9; exact e9)
              | (rw [show (lw x y z (elaws x)) i (itN (lw x y z (elaws x)) (0, 0, 0) i) = ((itN (lw x y z (elaws x)) (0, 0, 0) i).1, (itN (lw x y z (elaws x)) (0, 0, 0) i).2.1, (itN (lw x y z (elaws x)) (0, 0, 0) i).2.2) from by unfold lw; rw [if_pos c_78, if_neg (fun q => absurd q.1 (Int32.not_le.mpr c_112)), if_neg c_103]] at e9; exact e9)
          · refine v_iload (pc := 122) dX6_laws_122 rfl ?_
            refine v_ist_6 (pc := 124) dX6_laws_124 (by decide) rfl ?_
            refine v_iload (pc := 126) dX6_laws_126 rfl ?_
            refine v_ist_7 (pc := 128) dX6_laws_128 (by decide) rfl ?_
            refine v_inc_9 (pc := 130) (v := 1) dX6_laws_130 (by decide) (by decide) rfl ?_
            refine v_goto (pc := 133) (tgt := 64) dX6_laws_133 (by decide) ?_
            refine v_fg_10 (v_fg_11 ?_)
            rw [nI_1]
            have e9 := ih (i + 1) (by omega)
            rw [itN_s _ _ i] at e9
            first
              | (rw [show (lw x y z (elaws x)) i (itN (lw x y z (elaws x)) (0, 0, 0) i) = _ from if_neg c_78] at e9; exact e9)
              | (rw [show (lw x y z (elaws x)) i (itN (lw x y z (elaws x)) (0, 0, 0) i) = (dsum y (nI i), nI i, (itN (lw x y z (elaws x)) (0, 0, 0) i).2.2 + 1) from by unfold lw; rw [if_pos c_78, if_pos ⟨Int32.not_lt.mp c_112, Int32.not_le.mp c_119⟩, if_pos c_103]] at e9; exact e9)
              | (rw [show (lw x y z (elaws x)) i (itN (lw x y z (elaws x)) (0, 0, 0) i) = (dsum y (nI i), nI i, (itN (lw x y z (elaws x)) (0, 0, 0) i).2.2) from by unfold lw; rw [if_pos c_78, if_pos ⟨Int32.not_lt.mp c_112, Int32.not_le.mp c_119⟩, if_neg c_103]] at e9; exact e9)
              | (rw [show (lw x y z (elaws x)) i (itN (lw x y z (elaws x)) (0, 0, 0) i) = ((itN (lw x y z (elaws x)) (0, 0, 0) i).1, (itN (lw x y z (elaws x)) (0, 0, 0) i).2.1, (itN (lw x y z (elaws x)) (0, 0, 0) i).2.2 + 1) from by unfold lw; rw [if_pos c_78, if_neg (fun q => absurd q.2 (Int32.not_lt.mpr c_119)), if_pos c_103]] at e9; exact e9)
              | (rw [show (lw x y z (elaws x)) i (itN (lw x y z (elaws x)) (0, 0, 0) i) = ((itN (lw x y z (elaws x)) (0, 0, 0) i).1, (itN (lw x y z (elaws x)) (0, 0, 0) i).2.1, (itN (lw x y z (elaws x)) (0, 0, 0) i).2.2) from by unfold lw; rw [if_pos c_78, if_neg (fun q => absurd q.2 (Int32.not_lt.mpr c_119)), if_neg c_103]] at e9; exact e9)
              | (rw [show (lw x y z (elaws x)) i (itN (lw x y z (elaws x)) (0, 0, 0) i) = ((itN (lw x y z (elaws x)) (0, 0, 0) i).1, (itN (lw x y z (elaws x)) (0, 0, 0) i).2.1, (itN (lw x y z (elaws x)) (0, 0, 0) i).2.2 + 1) from by unfold lw; rw [if_pos c_78, if_neg (fun q => absurd q.1 (Int32.not_le.mpr c_112)), if_pos c_103]] at e9; exact e9)
              | (rw [show (lw x y z (elaws x)) i (itN (lw x y z (elaws x)) (0, 0, 0) i) = ((itN (lw x y z (elaws x)) (0, 0, 0) i).1, (itN (lw x y z (elaws x)) (0, 0, 0) i).2.1, (itN (lw x y z (elaws x)) (0, 0, 0) i).2.2) from by unfold lw; rw [if_pos c_78, if_neg (fun q => absurd q.1 (Int32.not_le.mpr c_112)), if_neg c_103]] at e9; exact e9)
      · refine v_inc_8 (pc := 106) (v := 1) dX6_laws_106 (by decide) (by decide) rfl ?_
        refine v_iload (pc := 109) dX6_laws_109 rfl ?_
        refine v_iload_n (pc := 111) dX6_laws_111 rfl ?_
        refine v_icmp_gt (pc := 112) (tgt := 130) dX6_laws_112 (by decide) (fun c_112 => ?_) (fun c_112 => ?_)
        · refine v_inc_9 (pc := 130) (v := 1) dX6_laws_130 (by decide) (by decide) rfl ?_
          refine v_goto (pc := 133) (tgt := 64) dX6_laws_133 (by decide) ?_
          refine v_fg_10 (v_fg_11 ?_)
          rw [nI_1]
          have e9 := ih (i + 1) (by omega)
          rw [itN_s _ _ i] at e9
          first
            | (rw [show (lw x y z (elaws x)) i (itN (lw x y z (elaws x)) (0, 0, 0) i) = _ from if_neg c_78] at e9; exact e9)
            | (rw [show (lw x y z (elaws x)) i (itN (lw x y z (elaws x)) (0, 0, 0) i) = (dsum y (nI i), nI i, (itN (lw x y z (elaws x)) (0, 0, 0) i).2.2 + 1) from by unfold lw; rw [if_pos c_78, if_pos ⟨Int32.not_lt.mp c_112, Int32.not_le.mp c_119⟩, if_pos c_103]] at e9; exact e9)
            | (rw [show (lw x y z (elaws x)) i (itN (lw x y z (elaws x)) (0, 0, 0) i) = (dsum y (nI i), nI i, (itN (lw x y z (elaws x)) (0, 0, 0) i).2.2) from by unfold lw; rw [if_pos c_78, if_pos ⟨Int32.not_lt.mp c_112, Int32.not_le.mp c_119⟩, if_neg c_103]] at e9; exact e9)
            | (rw [show (lw x y z (elaws x)) i (itN (lw x y z (elaws x)) (0, 0, 0) i) = ((itN (lw x y z (elaws x)) (0, 0, 0) i).1, (itN (lw x y z (elaws x)) (0, 0, 0) i).2.1, (itN (lw x y z (elaws x)) (0, 0, 0) i).2.2 + 1) from by unfold lw; rw [if_pos c_78, if_neg (fun q => absurd q.2 (Int32.not_lt.mpr c_119)), if_pos c_103]] at e9; exact e9)
            | (rw [show (lw x y z (elaws x)) i (itN (lw x y z (elaws x)) (0, 0, 0) i) = ((itN (lw x y z (elaws x)) (0, 0, 0) i).1, (itN (lw x y z (elaws x)) (0, 0, 0) i).2.1, (itN (lw x y z (elaws x)) (0, 0, 0) i).2.2) from by unfold lw; rw [if_pos c_78, if_neg (fun q => absurd q.2 (Int32.not_lt.mpr c_119)), if_neg c_103]] at e9; exact e9)
            | (rw [show (lw x y z (elaws x)) i (itN (lw x y z (elaws x)) (0, 0, 0) i) = ((itN (lw x y z (elaws x)) (0, 0, 0) i).1, (itN (lw x y z (elaws x)) (0, 0, 0) i).2.1, (itN (lw x y z (elaws x)) (0, 0, 0) i).2.2 + 1) from by unfold lw; rw [if_pos c_78, if_neg (fun q => absurd q.1 (Int32.not_le.mpr c_112)), if_pos c_103]] at e9; exact e9)
            | (rw [show (lw x y z (elaws x)) i (itN (lw x y z (elaws x)) (0, 0, 0) i) = ((itN (lw x y z (elaws x)) (0, 0, 0) i).1, (itN (lw x y z (elaws x)) (0, 0, 0) i).2.1, (itN (lw x y z (elaws x)) (0, 0, 0) i).2.2) from by unfold lw; rw [if_pos c_78, if_neg (fun q => absurd q.1 (Int32.not_le.mpr c_112)), if_neg c_103]] at e9; exact e9)
        · refine v_iload (pc := 115) dX6_laws_115 rfl ?_
          refine v_iload (pc := 117) dX6_laws_117 rfl ?_
          refine v_icmp_le (pc := 119) (tgt := 130) dX6_laws_119 (by decide) (fun c_119 => ?_) (fun c_119 => ?_)
          · refine v_inc_9 (pc := 130) (v := 1) dX6_laws_130 (by decide) (by decide) rfl ?_
            refine v_goto (pc := 133) (tgt := 64) dX6_laws_133 (by decide) ?_
            refine v_fg_10 (v_fg_11 ?_)
            rw [nI_1]
            have e9 := ih (i + 1) (by omega)
            rw [itN_s _ _ i] at e9
            first
              | (rw [show (lw x y z (elaws x)) i (itN (lw x y z (elaws x)) (0, 0, 0) i) = _ from if_neg c_78] at e9; exact e9)
              | (rw [show (lw x y z (elaws x)) i (itN (lw x y z (elaws x)) (0, 0, 0) i) = (dsum y (nI i), nI i, (itN (lw x y z (elaws x)) (0, 0, 0) i).2.2 + 1) from by unfold lw; rw [if_pos c_78, if_pos ⟨Int32.not_lt.mp c_112, Int32.not_le.mp c_119⟩, if_pos c_103]] at e9; exact e9)
              | (rw [show (lw x y z (elaws x)) i (itN (lw x y z (elaws x)) (0, 0, 0) i) = (dsum y (nI i), nI i, (itN (lw x y z (elaws x)) (0, 0, 0) i).2.2) from by unfold lw; rw [if_pos c_78, if_pos ⟨Int32.not_lt.mp c_112, Int32.not_le.mp c_119⟩, if_neg c_103]] at e9; exact e9)
              | (rw [show (lw x y z (elaws x)) i (itN (lw x y z (elaws x)) (0, 0, 0) i) = ((itN (lw x y z (elaws x)) (0, 0, 0) i).1, (itN (lw x y z (elaws x)) (0, 0, 0) i).2.1, (itN (lw x y z (elaws x)) (0, 0, 0) i).2.2 + 1) from by unfold lw; rw [if_pos c_78, if_neg (fun q => absurd q.2 (Int32.not_lt.mpr c_119)), if_pos c_103]] at e9; exact e9)
              | (rw [show (lw x y z (elaws x)) i (itN (lw x y z (elaws x)) (0, 0, 0) i) = ((itN (lw x y z (elaws x)) (0, 0, 0) i).1, (itN (lw x y z (elaws x)) (0, 0, 0) i).2.1, (itN (lw x y z (elaws x)) (0, 0, 0) i).2.2) from by unfold lw; rw [if_pos c_78, if_neg (fun q => absurd q.2 (Int32.not_lt.mpr c_119)), if_neg c_103]] at e9; exact e9)
              | (rw [show (lw x y z (elaws x)) i (itN (lw x y z (elaws x)) (0, 0, 0) i) = ((itN (lw x y z (elaws x)) (0, 0, 0) i).1, (itN (lw x y z (elaws x)) (0, 0, 0) i).2.1, (itN (lw x y z (elaws x)) (0, 0, 0) i).2.2 + 1) from by unfold lw; rw [if_pos c_78, if_neg (fun q => absurd q.1 (Int32.not_le.mpr c_112)), if_pos c_103]] at e9; exact e9)
              | (rw [show (lw x y z (elaws x)) i (itN (lw x y z (elaws x)) (0, 0, 0) i) = ((itN (lw x y z (elaws x)) (0, 0, 0) i).1, (itN (lw x y z (elaws x)) (0, 0, 0) i).2.1, (itN (lw x y z (elaws x)) (0, 0, 0) i).2.2) from by unfold lw; rw [if_pos c_78, if_neg (fun q => absurd q.1 (Int32.not_le.mpr c_112)), if_neg c_103]] at e9; exact e9)
          · refine v_iload (pc := 122) dX6_laws_122 rfl ?_
            refine v_ist_6 (pc := 124) dX6_laws_124 (by decide) rfl ?_
            refine v_iload (pc := 126) dX6_laws_126 rfl ?_
            refine v_ist_7 (pc := 128) dX6_laws_128 (by decide) rfl ?_
            refine v_inc_9 (pc := 130) (v := 1) dX6_laws_130 (by decide) (by decide) rfl ?_
            refine v_goto (pc := 133) (tgt := 64) dX6_laws_133 (by decide) ?_
            refine v_fg_10 (v_fg_11 ?_)
            rw [nI_1]
            have e9 := ih (i + 1) (by omega)
            rw [itN_s _ _ i] at e9
            first
              | (rw [show (lw x y z (elaws x)) i (itN (lw x y z (elaws x)) (0, 0, 0) i) = _ from if_neg c_78] at e9; exact e9)
              | (rw [show (lw x y z (elaws x)) i (itN (lw x y z (elaws x)) (0, 0, 0) i) = (dsum y (nI i), nI i, (itN (lw x y z (elaws x)) (0, 0, 0) i).2.2 + 1) from by unfold lw; rw [if_pos c_78, if_pos ⟨Int32.not_lt.mp c_112, Int32.not_le.mp c_119⟩, if_pos c_103]] at e9; exact e9)
              | (rw [show (lw x y z (elaws x)) i (itN (lw x y z (elaws x)) (0, 0, 0) i) = (dsum y (nI i), nI i, (itN (lw x y z (elaws x)) (0, 0, 0) i).2.2) from by unfold lw; rw [if_pos c_78, if_pos ⟨Int32.not_lt.mp c_112, Int32.not_le.mp c_119⟩, if_neg c_103]] at e9; exact e9)
              | (rw [show (lw x y z (elaws x)) i (itN (lw x y z (elaws x)) (0, 0, 0) i) = ((itN (lw x y z (elaws x)) (0, 0, 0) i).1, (itN (lw x y z (elaws x)) (0, 0, 0) i).2.1, (itN (lw x y z (elaws x)) (0, 0, 0) i).2.2 + 1) from by unfold lw; rw [if_pos c_78, if_neg (fun q => absurd q.2 (Int32.not_lt.mpr c_119)), if_pos c_103]] at e9; exact e9)
              | (rw [show (lw x y z (elaws x)) i (itN (lw x y z (elaws x)) (0, 0, 0) i) = ((itN (lw x y z (elaws x)) (0, 0, 0) i).1, (itN (lw x y z (elaws x)) (0, 0, 0) i).2.1, (itN (lw x y z (elaws x)) (0, 0, 0) i).2.2) from by unfold lw; rw [if_pos c_78, if_neg (fun q => absurd q.2 (Int32.not_lt.mpr c_119)), if_neg c_103]] at e9; exact e9)
              | (rw [show (lw x y z (elaws x)) i (itN (lw x y z (elaws x)) (0, 0, 0) i) = ((itN (lw x y z (elaws x)) (0, 0, 0) i).1, (itN (lw x y z (elaws x)) (0, 0, 0) i).2.1, (itN (lw x y z (elaws x)) (0, 0, 0) i).2.2 + 1) from by unfold lw; rw [if_pos c_78, if_neg (fun q => absurd q.1 (Int32.not_le.mpr c_112)), if_pos c_103]] at e9; exact e9)
              | (rw [show (lw x y z (elaws x)) i (itN (lw x y z (elaws x)) (0, 0, 0) i) = ((itN (lw x y z (elaws x)) (0, 0, 0) i).1, (itN (lw x y z (elaws x)) (0, 0, 0) i).2.1, (itN (lw x y z (elaws x)) (0, 0, 0) i).2.2) from by unfold lw; rw [if_pos c_78, if_neg (fun q => absurd q.1 (Int32.not_le.mpr c_112)), if_neg c_103]] at e9; exact e9)
    · refine v_goto (pc := 81) (tgt := 130) dX6_laws_81 (by decide) ?_
      refine v_inc_9 (pc := 130) (v := 1) dX6_laws_130 (by decide) (by decide) rfl ?_
      refine v_goto (pc := 133) (tgt := 64) dX6_laws_133 (by decide) ?_
      refine v_fg_10 (v_fg_11 ?_)
      rw [nI_1]
      have e9 := ih (i + 1) (by omega)
      rw [itN_s _ _ i] at e9
      first
        | (rw [show (lw x y z (elaws x)) i (itN (lw x y z (elaws x)) (0, 0, 0) i) = _ from if_neg c_78] at e9; exact e9)
        | (rw [show (lw x y z (elaws x)) i (itN (lw x y z (elaws x)) (0, 0, 0) i) = (dsum y (nI i), nI i, (itN (lw x y z (elaws x)) (0, 0, 0) i).2.2 + 1) from by unfold lw; rw [if_pos c_78, if_pos ⟨Int32.not_lt.mp c_112, Int32.not_le.mp c_119⟩, if_pos c_103]] at e9; exact e9)
        | (rw [show (lw x y z (elaws x)) i (itN (lw x y z (elaws x)) (0, 0, 0) i) = (dsum y (nI i), nI i, (itN (lw x y z (elaws x)) (0, 0, 0) i).2.2) from by unfold lw; rw [if_pos c_78, if_pos ⟨Int32.not_lt.mp c_112, Int32.not_le.mp c_119⟩, if_neg c_103]] at e9; exact e9)
        | (rw [show (lw x y z (elaws x)) i (itN (lw x y z (elaws x)) (0, 0, 0) i) = ((itN (lw x y z (elaws x)) (0, 0, 0) i).1, (itN (lw x y z (elaws x)) (0, 0, 0) i).2.1, (itN (lw x y z (elaws x)) (0, 0, 0) i).2.2 + 1) from by unfold lw; rw [if_pos c_78, if_neg (fun q => absurd q.2 (Int32.not_lt.mpr c_119)), if_pos c_103]] at e9; exact e9)
        | (rw [show (lw x y z (elaws x)) i (itN (lw x y z (elaws x)) (0, 0, 0) i) = ((itN (lw x y z (elaws x)) (0, 0, 0) i).1, (itN (lw x y z (elaws x)) (0, 0, 0) i).2.1, (itN (lw x y z (elaws x)) (0, 0, 0) i).2.2) from by unfold lw; rw [if_pos c_78, if_neg (fun q => absurd q.2 (Int32.not_lt.mpr c_119)), if_neg c_103]] at e9; exact e9)
        | (rw [show (lw x y z (elaws x)) i (itN (lw x y z (elaws x)) (0, 0, 0) i) = ((itN (lw x y z (elaws x)) (0, 0, 0) i).1, (itN (lw x y z (elaws x)) (0, 0, 0) i).2.1, (itN (lw x y z (elaws x)) (0, 0, 0) i).2.2 + 1) from by unfold lw; rw [if_pos c_78, if_neg (fun q => absurd q.1 (Int32.not_le.mpr c_112)), if_pos c_103]] at e9; exact e9)
        | (rw [show (lw x y z (elaws x)) i (itN (lw x y z (elaws x)) (0, 0, 0) i) = ((itN (lw x y z (elaws x)) (0, 0, 0) i).1, (itN (lw x y z (elaws x)) (0, 0, 0) i).2.1, (itN (lw x y z (elaws x)) (0, 0, 0) i).2.2) from by unfold lw; rw [if_pos c_78, if_neg (fun q => absurd q.1 (Int32.not_le.mpr c_112)), if_neg c_103]] at e9; exact e9)

set_option maxRecDepth 100000 in
set_option maxHeartbeats 4000000 in
theorem c_laws {x y z u : Int32} {M : mM} {J : mJ}  : Ct yX6_laws cX6_laws 12 (some .int) (rmD 2) false [.ref 0, .int x, .int y, .int z, .int u] LY M J (mNi LY (fun r0 M1 J1 => r0 = (if ((0 ≤ x ∧ x ≤ 999999) ∧ (0 ≤ y ∧ y ≤ 999999) ∧ (0 ≤ z ∧ z ≤ 54) ∧ (0 ≤ u ∧ u ≤ 2)) then sel3 u (itN (lw x y z (elaws x)) (0, 0, 0) 64).1 (itN (lw x y z (elaws x)) (0, 0, 0) 64).2.1 (itN (lw x y z (elaws x)) (0, 0, 0) 64).2.2 else -2) ∧ M1 = M ∧ J1 = J)) := by
  refine ct_of (own := RX6) (ini := false) (ls := [some (.ref 0), some (.int x), some (.int y), some (.int z), some (.int u), none, none, none, none, none, none, none]) 7 (by decide +kernel) rfl (fun h => by cases h) rfl (fun ad => by first | exact Nat.le_of_ble_eq_true rfl) ?_
  refine v_iload_n (pc := 0) dX6_laws_0 rfl ?_
  refine v_iconst (pc := 1) (v := 0) (by decide) dX6_laws_1 ?_
  refine v_ldc (pc := 2) ckX6_160 dX6_laws_2 ?_
  refine v_cS3i (pc := 4) dX6_laws_4 mkX6_49 c_within (Nat.le_of_ble_eq_true rfl) rfl (Nat.zero_le _) (Nat.zero_le _) (fun r_4 M_4 J_4 h_4 => ?_)
  obtain ⟨e1_4, e2_4, e3_4⟩ := h_4
  replace e1_4 := e1_4.symm
  replace e2_4 := e2_4.symm
  replace e3_4 := e3_4.symm
  subst e1_4 e2_4 e3_4
  refine v_if_eq (pc := 7) (tgt := 20) dX6_laws_7 (by decide) (fun c_7 => ?_) (fun c_7 => ?_)
  · refine v_bipush (pc := 20) (v := (-2)) (by decide) dX6_laws_20 ?_
    refine v_iret (pc := 22) dX6_laws_22 (Nat.zero_le _) (Nat.zero_le _) ?_
    first | exact ⟨by rw [if_neg (fun q => bI_0.mp c_7 q.1)], rfl, rfl⟩ | exact ⟨by rw [if_neg (fun q => bI_0.mp c_17 q.2.1)], rfl, rfl⟩ | exact ⟨by rw [if_neg (fun q => bI_0.mp c_30 q.2.2.1)], rfl, rfl⟩ | exact ⟨by rw [if_neg (fun q => bI_0.mp c_40 q.2.2.2)], rfl, rfl⟩
  · refine v_iload_n (pc := 10) dX6_laws_10 rfl ?_
    refine v_iconst (pc := 11) (v := 0) (by decide) dX6_laws_11 ?_
    refine v_ldc (pc := 12) ckX6_160 dX6_laws_12 ?_
    refine v_cS3i (pc := 14) dX6_laws_14 mkX6_49 c_within (Nat.le_of_ble_eq_true rfl) rfl (Nat.zero_le _) (Nat.zero_le _) (fun r_14 M_14 J_14 h_14 => ?_)
    obtain ⟨e1_14, e2_14, e3_14⟩ := h_14
    replace e1_14 := e1_14.symm
    replace e2_14 := e2_14.symm
    replace e3_14 := e3_14.symm
    subst e1_14 e2_14 e3_14
    refine v_if_ne (pc := 17) (tgt := 23) dX6_laws_17 (by decide) (fun c_17 => ?_) (fun c_17 => ?_)
    · refine v_iload_n (pc := 23) dX6_laws_23 rfl ?_
      refine v_iconst (pc := 24) (v := 0) (by decide) dX6_laws_24 ?_
      refine v_bipush (pc := 25) (v := 54) (by decide) dX6_laws_25 ?_
      refine v_cS3i (pc := 27) dX6_laws_27 mkX6_49 c_within (Nat.le_of_ble_eq_true rfl) rfl (Nat.zero_le _) (Nat.zero_le _) (fun r_27 M_27 J_27 h_27 => ?_)
      obtain ⟨e1_27, e2_27, e3_27⟩ := h_27
      replace e1_27 := e1_27.symm
      replace e2_27 := e2_27.symm
      replace e3_27 := e3_27.symm
      subst e1_27 e2_27 e3_27
      refine v_if_eq (pc := 30) (tgt := 43) dX6_laws_30 (by decide) (fun c_30 => ?_) (fun c_30 => ?_)
      · refine v_bipush (pc := 43) (v := (-2)) (by decide) dX6_laws_43 ?_
        refine v_iret (pc := 45) dX6_laws_45 (Nat.zero_le _) (Nat.zero_le _) ?_
        first | exact ⟨by rw [if_neg (fun q => bI_0.mp c_7 q.1)], rfl, rfl⟩ | exact ⟨by rw [if_neg (fun q => bI_0.mp c_17 q.2.1)], rfl, rfl⟩ | exact ⟨by rw [if_neg (fun q => bI_0.mp c_30 q.2.2.1)], rfl, rfl⟩ | exact ⟨by rw [if_neg (fun q => bI_0.mp c_40 q.2.2.2)], rfl, rfl⟩
      · refine v_iload (pc := 33) dX6_laws_33 rfl ?_
        refine v_iconst (pc := 35) (v := 0) (by decide) dX6_laws_35 ?_
        refine v_iconst (pc := 36) (v := 2) (by decide) dX6_laws_36 ?_
        refine v_cS3i (pc := 37) dX6_laws_37 mkX6_49 c_within (Nat.le_of_ble_eq_true rfl) rfl (Nat.zero_le _) (Nat.zero_le _) (fun r_37 M_37 J_37 h_37 => ?_)
        obtain ⟨e1_37, e2_37, e3_37⟩ := h_37
        replace e1_37 := e1_37.symm
        replace e2_37 := e2_37.symm
        replace e3_37 := e3_37.symm
        subst e1_37 e2_37 e3_37
        refine v_if_ne (pc := 40) (tgt := 46) dX6_laws_40 (by decide) (fun c_40 => ?_) (fun c_40 => ?_)
        · refine v_iload_n (pc := 46) dX6_laws_46 rfl ?_
          refine v_cS1i (pc := 47) dX6_laws_47 mkX6_161 c_elaws (Nat.le_of_ble_eq_true rfl) rfl (Nat.zero_le _) (Nat.zero_le _) (fun r_47 M_47 J_47 h_47 => ?_)
          obtain ⟨e1_47, e2_47, e3_47⟩ := h_47
          replace e1_47 := e1_47.symm
          replace e2_47 := e2_47.symm
          replace e3_47 := e3_47.symm
          subst e1_47 e2_47 e3_47
          refine v_ist_5 (pc := 50) dX6_laws_50 (by decide) rfl ?_
          refine v_iconst (pc := 52) (v := 0) (by decide) dX6_laws_52 ?_
          refine v_ist_6 (pc := 53) dX6_laws_53 (by decide) rfl ?_
          refine v_iconst (pc := 55) (v := 0) (by decide) dX6_laws_55 ?_
          refine v_ist_7 (pc := 56) dX6_laws_56 (by decide) rfl ?_
          refine v_iconst (pc := 58) (v := 0) (by decide) dX6_laws_58 ?_
          refine v_ist_8 (pc := 59) dX6_laws_59 (by decide) rfl ?_
          refine v_iconst (pc := 61) (v := 0) (by decide) dX6_laws_61 ?_
          refine v_ist_9 (pc := 62) dX6_laws_62 (by decide) rfl ?_
          refine V.mono (fun o a b c q => ?_) (l_laws 64 0 rfl)
          rw [if_pos ⟨bI_n0.mp c_7, bI_n0.mp c_17, bI_n0.mp c_30, bI_n0.mp c_40⟩]
          exact q
        · refine v_bipush (pc := 43) (v := (-2)) (by decide) dX6_laws_43 ?_
          refine v_iret (pc := 45) dX6_laws_45 (Nat.zero_le _) (Nat.zero_le _) ?_
          first | exact ⟨by rw [if_neg (fun q => bI_0.mp c_7 q.1)], rfl, rfl⟩ | exact ⟨by rw [if_neg (fun q => bI_0.mp c_17 q.2.1)], rfl, rfl⟩ | exact ⟨by rw [if_neg (fun q => bI_0.mp c_30 q.2.2.1)], rfl, rfl⟩ | exact ⟨by rw [if_neg (fun q => bI_0.mp c_40 q.2.2.2)], rfl, rfl⟩
    · refine v_bipush (pc := 20) (v := (-2)) (by decide) dX6_laws_20 ?_
      refine v_iret (pc := 22) dX6_laws_22 (Nat.zero_le _) (Nat.zero_le _) ?_
      first | exact ⟨by rw [if_neg (fun q => bI_0.mp c_7 q.1)], rfl, rfl⟩ | exact ⟨by rw [if_neg (fun q => bI_0.mp c_17 q.2.1)], rfl, rfl⟩ | exact ⟨by rw [if_neg (fun q => bI_0.mp c_30 q.2.2.1)], rfl, rfl⟩ | exact ⟨by rw [if_neg (fun q => bI_0.mp c_40 q.2.2.2)], rfl, rfl⟩

abbrev psP (bl : Int32) (b : Nat → Int32) (s : Int32) : Prop := bsum b bl 7 < 2 * bsum b s 7
def pw (bl : Int32) (b : Nat → Int32) (x : Int32) (i : Nat) (a : Int32) : Int32 := if nI i &&& ((bl &&& (bv x ^^^ (-1))) ^^^ (-1)) = 0 ∧ ¬ psP bl b (nI i) ∧ psP bl b (nI i ||| bv x) then a + 1 else a
def hd1 (bl : Int32) (b : Nat → Int32) (x : Int32) (i : Nat) (a : Int32) : Int32 := if nI i &&& (x ^^^ (-1)) = 0 ∧ bcI (nI i) < bcI a ∧ ¬ psP bl b (x &&& (nI i ^^^ (-1))) then nI i else a

set_option maxRecDepth 100000 in
set_option maxHeartbeats 4000000 in
theorem l_power {x : Int32} {M : mM} {J : mJ}  : ∀ (n i : Nat), n + i = 128 → V RX6 cX6_power 7 (some .int) false (rmD 2) false LY.length none (mNi LY (fun r0 M1 J1 => r0 = itN (pw (M 2 4) (M 4) x) 0 128 ∧ M1 = M ∧ J1 = J)) 0 0 38 [some (.ref 0), some (.int x), some (.ref 2), some (.int (bv x)), some (.int (M 2 4 &&& (bv x ^^^ (-1)))), some (.int (itN (pw (M 2 4) (M 4) x) 0 i)), some (.int (nI i))] [] LY M J := by
  intro n
  induction n with
  | zero =>
    intro i hi
    obtain rfl : i = 128 := by omega
    refine v_iload (pc := 38) dX6_power_38 rfl ?_
    refine v_sipush (pc := 40) (v := 128) (by decide) dX6_power_40 ?_
    refine v_icmp_ge (pc := 43) (tgt := 85) dX6_power_43 (by decide) (fun c_43 => ?_) (fun c_43 => absurd (by decide) c_43)
    refine v_iload (pc := 85) dX6_power_85 rfl ?_
    refine v_iret (pc := 87) dX6_power_87 (Nat.zero_le _) (Nat.zero_le _) ?_
    exact ⟨rfl, rfl, rfl⟩
  | succ n ih =>
    intro i hi
    have hb7 : i < 128 := by omega
    have hcl := nI_clamp (show i < 2 ^ 31 by omega)
    refine v_iload (pc := 38) dX6_power_38 rfl ?_
    refine v_sipush (pc := 40) (v := 128) (by decide) dX6_power_40 ?_
    refine v_icmp_ge (pc := 43) (tgt := 85) dX6_power_43 (by decide) (fun c_43 => absurd c_43 (nI_ge (b := 128) hb7 (by omega))) (fun c_43 => ?_)
    refine v_iload (pc := 46) dX6_power_46 rfl ?_
    refine v_iload (pc := 48) dX6_power_48 rfl ?_
    refine v_iconst (pc := 50) (v := (-1)) (by decide) dX6_power_50 ?_
    refine v_ixor (pc := 51) dX6_power_51 ?_
    refine v_iand (pc := 52) dX6_power_52 ?_
    refine v_if_ne (pc := 53) (tgt := 79) dX6_power_53 (by decide) (fun c_53 => ?_) (fun c_53 => ?_)
    · refine v_inc_6 (pc := 79) (v := 1) dX6_power_79 (by decide) (by decide) rfl ?_
      refine v_goto (pc := 82) (tgt := 38) dX6_power_82 (by decide) ?_
      rw [nI_1]
      have e9 := ih (i + 1) (by omega)
      rw [itN_s _ _ i] at e9
      rw [show pw (M 2 4) (M 4) x i (itN (pw (M 2 4) (M 4) x) 0 i) = _ from if_neg (fun q => c_53 q.1)] at e9
      exact e9
    · refine v_aload_n (pc := 56) dX6_power_56 rfl ?_
      refine v_iload (pc := 57) dX6_power_57 rfl ?_
      refine v_cV1i (pc := 59) dX6_power_59 mkX6_167 (c_passes ly2 ly4) ly2 rfl (Nat.le_of_ble_eq_true rfl) rfl (Nat.zero_le _) (Nat.zero_le _) (fun r_59 M_59 J_59 h_59 => ?_)
      obtain ⟨e1_59, e2_59, e3_59⟩ := h_59
      replace e1_59 := e1_59.symm
      replace e2_59 := e2_59.symm
      replace e3_59 := e3_59.symm
      subst e1_59 e2_59 e3_59
      refine v_if_ne (pc := 62) (tgt := 79) dX6_power_62 (by decide) (fun c_62 => ?_) (fun c_62 => ?_)
      · refine v_inc_6 (pc := 79) (v := 1) dX6_power_79 (by decide) (by decide) rfl ?_
        refine v_goto (pc := 82) (tgt := 38) dX6_power_82 (by decide) ?_
        rw [nI_1]
        have e9 := ih (i + 1) (by omega)
        rw [itN_s _ _ i] at e9
        rw [show pw (M 2 4) (M 4) x i (itN (pw (M 2 4) (M 4) x) 0 i) = _ from if_neg (fun q => q.2.1 (bI_n0.mp c_62))] at e9
        exact e9
      · refine v_aload_n (pc := 65) dX6_power_65 rfl ?_
        refine v_iload (pc := 66) dX6_power_66 rfl ?_
        refine v_iload_n (pc := 68) dX6_power_68 rfl ?_
        refine v_ior (pc := 69) dX6_power_69 ?_
        refine v_cV1i (pc := 70) dX6_power_70 mkX6_167 (c_passes ly2 ly4) ly2 rfl (Nat.le_of_ble_eq_true rfl) rfl (Nat.zero_le _) (Nat.zero_le _) (fun r_70 M_70 J_70 h_70 => ?_)
        obtain ⟨e1_70, e2_70, e3_70⟩ := h_70
        replace e1_70 := e1_70.symm
        replace e2_70 := e2_70.symm
        replace e3_70 := e3_70.symm
        subst e1_70 e2_70 e3_70
        refine v_if_eq (pc := 73) (tgt := 79) dX6_power_73 (by decide) (fun c_73 => ?_) (fun c_73 => ?_)
        · refine v_inc_6 (pc := 79) (v := 1) dX6_power_79 (by decide) (by decide) rfl ?_
          refine v_goto (pc := 82) (tgt := 38) dX6_power_82 (by decide) ?_
          rw [nI_1]
          have e9 := ih (i + 1) (by omega)
          rw [itN_s _ _ i] at e9
          rw [show pw (M 2 4) (M 4) x i (itN (pw (M 2 4) (M 4) x) 0 i) = _ from if_neg (fun q => bI_0.mp c_73 q.2.2)] at e9
          exact e9
        · refine v_inc_5 (pc := 76) (v := 1) dX6_power_76 (by decide) (by decide) rfl ?_
          refine v_inc_6 (pc := 79) (v := 1) dX6_power_79 (by decide) (by decide) rfl ?_
          refine v_goto (pc := 82) (tgt := 38) dX6_power_82 (by decide) ?_
          rw [nI_1]
          have e9 := ih (i + 1) (by omega)
          rw [itN_s _ _ i] at e9
          rw [show pw (M 2 4) (M 4) x i (itN (pw (M 2 4) (M 4) x) 0 i) = _ from if_pos ⟨c_53, bI_0.mp c_62, bI_n0.mp c_73⟩] at e9
          exact e9

set_option maxRecDepth 100000 in
set_option maxHeartbeats 4000000 in
theorem c_power {x : Int32} {M : mM} {J : mJ}  : Ct yX6_power cX6_power 7 (some .int) (rmD 2) false [.ref 0, .int x] LY M J (mNi LY (fun r0 M1 J1 => r0 = (if gB M x then itN (pw (M 2 4) (M 4) x) 0 128 else -1) ∧ M1 = M ∧ J1 = J)) := by
  refine ct_of (own := RX6) (ini := false) (ls := [some (.ref 0), some (.int x), none, none, none, none, none]) 5 (by decide +kernel) rfl (fun h => by cases h) rfl (fun ad => by first | exact Nat.le_of_ble_eq_true rfl) ?_
  refine v_aload_n (pc := 0) dX6_power_0 rfl ?_
  refine v_getR (pc := 1) fkX6_12 ly0 rfl dX6_power_1 ?_
  refine v_getR (pc := 4) fkX6_53 ly1 rfl dX6_power_4 ?_
  refine v_ast_2 (pc := 7) dX6_power_7 (by decide) rfl ?_
  refine v_aload_n (pc := 8) dX6_power_8 rfl ?_
  refine v_iload_n (pc := 9) dX6_power_9 rfl ?_
  refine v_cV1i (pc := 10) dX6_power_10 mkX6_129 (c_isBelow ly2) ly2 rfl (Nat.le_of_ble_eq_true rfl) rfl (Nat.zero_le _) (Nat.zero_le _) (fun r_10 M_10 J_10 h_10 => ?_)
  obtain ⟨e1_10, e2_10, e3_10⟩ := h_10
  replace e1_10 := e1_10.symm
  replace e2_10 := e2_10.symm
  replace e3_10 := e3_10.symm
  subst e1_10 e2_10 e3_10
  refine v_if_ne (pc := 13) (tgt := 18) dX6_power_13 (by decide) (fun c_13 => ?_) (fun c_13 => ?_)
  · refine v_iconst (pc := 18) (v := 1) (by decide) dX6_power_18 ?_
    refine v_iload_n (pc := 19) dX6_power_19 rfl ?_
    refine v_ishl (pc := 20) dX6_power_20 ?_
    refine v_ist_3 (pc := 21) dX6_power_21 (by decide) rfl ?_
    refine v_aload_n (pc := 22) dX6_power_22 rfl ?_
    refine v_getI (pc := 23) fkX6_60 ly2 rfl dX6_power_23 ?_
    refine v_iload_n (pc := 26) dX6_power_26 rfl ?_
    refine v_iconst (pc := 27) (v := (-1)) (by decide) dX6_power_27 ?_
    refine v_ixor (pc := 28) dX6_power_28 ?_
    refine v_iand (pc := 29) dX6_power_29 ?_
    refine v_ist_4 (pc := 30) dX6_power_30 (by decide) rfl ?_
    refine v_iconst (pc := 32) (v := 0) (by decide) dX6_power_32 ?_
    refine v_ist_5 (pc := 33) dX6_power_33 (by decide) rfl ?_
    refine v_iconst (pc := 35) (v := 0) (by decide) dX6_power_35 ?_
    refine v_ist_6 (pc := 36) dX6_power_36 (by decide) rfl ?_
    refine V.mono (fun o a b c q => ?_) (l_power 128 0 rfl)
    rw [if_pos (bI_n0.mp c_13)]
    exact q
  · refine v_iconst (pc := 16) (v := (-1)) (by decide) dX6_power_16 ?_
    refine v_iret (pc := 17) dX6_power_17 (Nat.zero_le _) (Nat.zero_le _) ?_
    exact ⟨by rw [if_neg (bI_0.mp c_13)], rfl, rfl⟩

abbrev gS (bl x : Int32) : Prop := (0 ≤ x ∧ x ≤ 127) ∧ x &&& (bl ^^^ (-1)) = 0

set_option maxRecDepth 100000 in
set_option maxHeartbeats 4000000 in
theorem c_areBelow {x : Int32} {M : mM} {J : mJ}  : Ct yX6_areBelow cX6_areBelow 2 (some .boolean) (rmD 1) false [.ref 0, .int x] LY M J (mNi LY (fun r0 M1 J1 => r0 = bI (gS (M 2 4) x) ∧ M1 = M ∧ J1 = J)) := by
  refine ct_of (own := RX6) (ini := false) (ls := [some (.ref 0), some (.int x)]) 0 (by decide +kernel) rfl (fun h => by cases h) rfl (fun ad => by first | exact Nat.le_of_ble_eq_true rfl) ?_
  refine v_iload_n (pc := 0) dX6_areBelow_0 rfl ?_
  refine v_iconst (pc := 1) (v := 0) (by decide) dX6_areBelow_1 ?_
  refine v_bipush (pc := 2) (v := 127) (by decide) dX6_areBelow_2 ?_
  refine v_cS3i (pc := 4) dX6_areBelow_4 mkX6_49 c_within (Nat.le_of_ble_eq_true rfl) rfl (Nat.zero_le _) (Nat.zero_le _) (fun r_4 M_4 J_4 h_4 => ?_)
  obtain ⟨e1_4, e2_4, e3_4⟩ := h_4
  replace e1_4 := e1_4.symm
  replace e2_4 := e2_4.symm
  replace e3_4 := e3_4.symm
  subst e1_4 e2_4 e3_4
  refine v_if_eq (pc := 7) (tgt := 31) dX6_areBelow_7 (by decide) (fun c_7 => ?_) (fun c_7 => ?_)
  · refine v_iconst (pc := 31) (v := 0) (by decide) dX6_areBelow_31 ?_
    refine v_zret (pc := 32) dX6_areBelow_32 (Nat.zero_le _) (Nat.zero_le _) (by first | exact Or.inl rfl | exact Or.inr rfl | assumption) ?_
    first | exact ⟨bI_t ⟨bI_n0.mp c_7, c_24⟩, rfl, rfl⟩ | exact ⟨bI_f (fun q => bI_0.mp c_7 q.1), rfl, rfl⟩ | exact ⟨bI_f (fun q => c_24 q.2), rfl, rfl⟩
  · refine v_iload_n (pc := 10) dX6_areBelow_10 rfl ?_
    refine v_aload_n (pc := 11) dX6_areBelow_11 rfl ?_
    refine v_getR (pc := 12) fkX6_12 ly0 rfl dX6_areBelow_12 ?_
    refine v_getR (pc := 15) fkX6_53 ly1 rfl dX6_areBelow_15 ?_
    refine v_getI (pc := 18) fkX6_60 ly2 rfl dX6_areBelow_18 ?_
    refine v_iconst (pc := 21) (v := (-1)) (by decide) dX6_areBelow_21 ?_
    refine v_ixor (pc := 22) dX6_areBelow_22 ?_
    refine v_iand (pc := 23) dX6_areBelow_23 ?_
    refine v_if_ne (pc := 24) (tgt := 31) dX6_areBelow_24 (by decide) (fun c_24 => ?_) (fun c_24 => ?_)
    · refine v_iconst (pc := 31) (v := 0) (by decide) dX6_areBelow_31 ?_
      refine v_zret (pc := 32) dX6_areBelow_32 (Nat.zero_le _) (Nat.zero_le _) (by first | exact Or.inl rfl | exact Or.inr rfl | assumption) ?_
      first | exact ⟨bI_t ⟨bI_n0.mp c_7, c_24⟩, rfl, rfl⟩ | exact ⟨bI_f (fun q => bI_0.mp c_7 q.1), rfl, rfl⟩ | exact ⟨bI_f (fun q => c_24 q.2), rfl, rfl⟩
    · refine v_iconst (pc := 27) (v := 1) (by decide) dX6_areBelow_27 ?_
      refine v_goto (pc := 28) (tgt := 32) dX6_areBelow_28 (by decide) ?_
      refine v_zret (pc := 32) dX6_areBelow_32 (Nat.zero_le _) (Nat.zero_le _) (by first | exact Or.inl rfl | exact Or.inr rfl | assumption) ?_
      first | exact ⟨bI_t ⟨bI_n0.mp c_7, c_24⟩, rfl, rfl⟩ | exact ⟨bI_f (fun q => bI_0.mp c_7 q.1), rfl, rfl⟩ | exact ⟨bI_f (fun q => c_24 q.2), rfl, rfl⟩

set_option maxRecDepth 100000 in
set_option maxHeartbeats 4000000 in
theorem l_held {x y : Int32} {M : mM} {J : mJ}  : ∀ (n i : Nat), n + i = 128 → V RX6 cX6_held 7 (some .int) false (rmD 2) false LY.length none (mNi LY (fun r0 M1 J1 => r0 = (if y = 0 then bcI (itN (hd1 (M 2 4) (M 4) x) x 128) else (itN (hd1 (M 2 4) (M 4) x) x 128)) ∧ M1 = M ∧ J1 = J)) 0 0 27 [some (.ref 0), some (.int x), some (.int y), some (.int (itN (hd1 (M 2 4) (M 4) x) x i)), some (.int (nI i)), none, none] [] LY M J := by
  intro n
  induction n with
  | zero =>
    intro i hi
    obtain rfl : i = 128 := by omega
    refine v_iload (pc := 27) dX6_held_27 rfl ?_
    refine v_sipush (pc := 29) (v := 128) (by decide) dX6_held_29 ?_
    refine v_icmp_ge (pc := 32) (tgt := 108) dX6_held_32 (by decide) (fun c_32 => ?_) (fun c_32 => absurd (by decide) c_32)
    refine v_iload_n (pc := 108) dX6_held_108 rfl ?_
    refine v_if_ne (pc := 109) (tgt := 119) dX6_held_109 (by decide) (fun c_109 => ?_) (fun c_109 => ?_)
    · refine v_iload_n (pc := 119) dX6_held_119 rfl ?_
      refine v_iret (pc := 120) dX6_held_120 (Nat.zero_le _) (Nat.zero_le _) ?_
      first | exact ⟨by rw [if_pos c_109], rfl, rfl⟩ | exact ⟨by rw [if_neg c_109], rfl, rfl⟩
    · refine v_iload_n (pc := 112) dX6_held_112 rfl ?_
      refine v_cS1i (pc := 113) dX6_held_113 mkX6_64 c_bitCount (Nat.le_of_ble_eq_true rfl) rfl (Nat.zero_le _) (Nat.zero_le _) (fun r_113 M_113 J_113 h_113 => ?_)
      obtain ⟨e1_113, e2_113, e3_113⟩ := h_113
      replace e1_113 := e1_113.symm
      replace e2_113 := e2_113.symm
      replace e3_113 := e3_113.symm
      subst e1_113 e2_113 e3_113
      refine v_goto (pc := 116) (tgt := 120) dX6_held_116 (by decide) ?_
      refine v_iret (pc := 120) dX6_held_120 (Nat.zero_le _) (Nat.zero_le _) ?_
      first | exact ⟨by rw [if_pos c_109], rfl, rfl⟩ | exact ⟨by rw [if_neg c_109], rfl, rfl⟩
  | succ n ih =>
    intro i hi
    have hb7 : i < 128 := by omega
    have hcl := nI_clamp (show i < 2 ^ 31 by omega)
    refine v_iload (pc := 27) dX6_held_27 rfl ?_
    refine v_sipush (pc := 29) (v := 128) (by decide) dX6_held_29 ?_
    refine v_icmp_ge (pc := 32) (tgt := 108) dX6_held_32 (by decide) (fun c_32 => absurd c_32 (nI_ge (b := 128) hb7 (by omega))) (fun c_32 => ?_)
    refine v_iload (pc := 35) dX6_held_35 rfl ?_
    refine v_iload_n (pc := 37) dX6_held_37 rfl ?_
    refine v_iconst (pc := 38) (v := (-1)) (by decide) dX6_held_38 ?_
    refine v_ixor (pc := 39) dX6_held_39 ?_
    refine v_iand (pc := 40) dX6_held_40 ?_
    refine v_if_ne (pc := 41) (tgt := 48) dX6_held_41 (by decide) (fun c_41 => ?_) (fun c_41 => ?_)
    · refine v_iconst (pc := 48) (v := 0) (by decide) dX6_held_48 ?_
      refine v_ist_5 (pc := 49) dX6_held_49 (by decide) rfl ?_
      refine v_iload (pc := 51) dX6_held_51 rfl ?_
      refine v_cS1i (pc := 53) dX6_held_53 mkX6_64 c_bitCount (Nat.le_of_ble_eq_true rfl) rfl (Nat.zero_le _) (Nat.zero_le _) (fun r_53 M_53 J_53 h_53 => ?_)
      obtain ⟨e1_53, e2_53, e3_53⟩ := h_53
      replace e1_53 := e1_53.symm
      replace e2_53 := e2_53.symm
      replace e3_53 := e3_53.symm
      subst e1_53 e2_53 e3_53
      refine v_iload_n (pc := 56) dX6_held_56 rfl ?_
      refine v_cS1i (pc := 57) dX6_held_57 mkX6_64 c_bitCount (Nat.le_of_ble_eq_true rfl) rfl (Nat.zero_le _) (Nat.zero_le _) (fun r_57 M_57 J_57 h_57 => ?_)
      obtain ⟨e1_57, e2_57, e3_57⟩ := h_57
      replace e1_57 := e1_57.symm
      replace e2_57 := e2_57.symm
      replace e3_57 := e3_57.symm
      subst e1_57 e2_57 e3_57
      refine v_icmp_ge (pc := 60) (tgt := 67) dX6_held_60 (by decide) (fun c_60 => ?_) (fun c_60 => ?_)
      · refine v_iconst (pc := 67) (v := 0) (by decide) dX6_held_67 ?_
        refine v_ist_6 (pc := 68) dX6_held_68 (by decide) rfl ?_
        refine v_iload (pc := 70) dX6_held_70 rfl ?_
        refine v_if_eq (pc := 72) (tgt := 102) dX6_held_72 (by decide) (fun c_72 => ?_) (fun c_72 => ?_)
        · refine v_inc_4 (pc := 102) (v := 1) dX6_held_102 (by decide) (by decide) rfl ?_
          refine v_goto (pc := 105) (tgt := 27) dX6_held_105 (by decide) ?_
          refine v_fg_5 (v_fg_6 ?_)
          rw [nI_1]
          have e9 := ih (i + 1) (by omega)
          rw [itN_s _ _ i] at e9
          rw [show hd1 (M 2 4) (M 4) x i (itN (hd1 (M 2 4) (M 4) x) x i) = _ from if_neg (fun q => c_41 q.1)] at e9
          exact e9
        · refine v_iload (pc := 75) dX6_held_75 rfl ?_
          refine v_if_eq (pc := 77) (tgt := 102) dX6_held_77 (by decide) (fun c_77 => ?_) (fun c_77 => ?_)
          · refine v_inc_4 (pc := 102) (v := 1) dX6_held_102 (by decide) (by decide) rfl ?_
            refine v_goto (pc := 105) (tgt := 27) dX6_held_105 (by decide) ?_
            refine v_fg_5 (v_fg_6 ?_)
            rw [nI_1]
            have e9 := ih (i + 1) (by omega)
            rw [itN_s _ _ i] at e9
            exact absurd rfl c_72
          · refine v_aload_n (pc := 80) dX6_held_80 rfl ?_
            refine v_getR (pc := 81) fkX6_12 ly0 rfl dX6_held_81 ?_
            refine v_getR (pc := 84) fkX6_53 ly1 rfl dX6_held_84 ?_
            refine v_iload_n (pc := 87) dX6_held_87 rfl ?_
            refine v_iload (pc := 88) dX6_held_88 rfl ?_
            refine v_iconst (pc := 90) (v := (-1)) (by decide) dX6_held_90 ?_
            refine v_ixor (pc := 91) dX6_held_91 ?_
            refine v_iand (pc := 92) dX6_held_92 ?_
            refine v_cV1i (pc := 93) dX6_held_93 mkX6_167 (c_passes ly2 ly4) ly2 rfl (Nat.le_of_ble_eq_true rfl) rfl (Nat.zero_le _) (Nat.zero_le _) (fun r_93 M_93 J_93 h_93 => ?_)
            obtain ⟨e1_93, e2_93, e3_93⟩ := h_93
            replace e1_93 := e1_93.symm
            replace e2_93 := e2_93.symm
            replace e3_93 := e3_93.symm
            subst e1_93 e2_93 e3_93
            refine v_if_ne (pc := 96) (tgt := 102) dX6_held_96 (by decide) (fun c_96 => ?_) (fun c_96 => ?_)
            · refine v_inc_4 (pc := 102) (v := 1) dX6_held_102 (by decide) (by decide) rfl ?_
              refine v_goto (pc := 105) (tgt := 27) dX6_held_105 (by decide) ?_
              refine v_fg_5 (v_fg_6 ?_)
              rw [nI_1]
              have e9 := ih (i + 1) (by omega)
              rw [itN_s _ _ i] at e9
              exact absurd rfl c_72
            · refine v_iload (pc := 99) dX6_held_99 rfl ?_
              refine v_ist_3 (pc := 101) dX6_held_101 (by decide) rfl ?_
              refine v_inc_4 (pc := 102) (v := 1) dX6_held_102 (by decide) (by decide) rfl ?_
              refine v_goto (pc := 105) (tgt := 27) dX6_held_105 (by decide) ?_
              refine v_fg_5 (v_fg_6 ?_)
              rw [nI_1]
              have e9 := ih (i + 1) (by omega)
              rw [itN_s _ _ i] at e9
              exact absurd rfl c_72
      · refine v_iconst (pc := 63) (v := 1) (by decide) dX6_held_63 ?_
        refine v_goto (pc := 64) (tgt := 68) dX6_held_64 (by decide) ?_
        refine v_ist_6 (pc := 68) dX6_held_68 (by decide) rfl ?_
        refine v_iload (pc := 70) dX6_held_70 rfl ?_
        refine v_if_eq (pc := 72) (tgt := 102) dX6_held_72 (by decide) (fun c_72 => ?_) (fun c_72 => ?_)
        · refine v_inc_4 (pc := 102) (v := 1) dX6_held_102 (by decide) (by decide) rfl ?_
          refine v_goto (pc := 105) (tgt := 27) dX6_held_105 (by decide) ?_
          refine v_fg_5 (v_fg_6 ?_)
          rw [nI_1]
          have e9 := ih (i + 1) (by omega)
          rw [itN_s _ _ i] at e9
          rw [show hd1 (M 2 4) (M 4) x i (itN (hd1 (M 2 4) (M 4) x) x i) = _ from if_neg (fun q => c_41 q.1)] at e9
          exact e9
        · refine v_iload (pc := 75) dX6_held_75 rfl ?_
          refine v_if_eq (pc := 77) (tgt := 102) dX6_held_77 (by decide) (fun c_77 => ?_) (fun c_77 => ?_)
          · refine v_inc_4 (pc := 102) (v := 1) dX6_held_102 (by decide) (by decide) rfl ?_
            refine v_goto (pc := 105) (tgt := 27) dX6_held_105 (by decide) ?_
            refine v_fg_5 (v_fg_6 ?_)
            rw [nI_1]
            have e9 := ih (i + 1) (by omega)
            rw [itN_s _ _ i] at e9
            exact absurd rfl c_72
          · refine v_aload_n (pc := 80) dX6_held_80 rfl ?_
            refine v_getR (pc := 81) fkX6_12 ly0 rfl dX6_held_81 ?_
            refine v_getR (pc := 84) fkX6_53 ly1 rfl dX6_held_84 ?_
            refine v_iload_n (pc := 87) dX6_held_87 rfl ?_
            refine v_iload (pc := 88) dX6_held_88 rfl ?_
            refine v_iconst (pc := 90) (v := (-1)) (by decide) dX6_held_90 ?_
            refine v_ixor (pc := 91) dX6_held_91 ?_
            refine v_iand (pc := 92) dX6_held_92 ?_
            refine v_cV1i (pc := 93) dX6_held_93 mkX6_167 (c_passes ly2 ly4) ly2 rfl (Nat.le_of_ble_eq_true rfl) rfl (Nat.zero_le _) (Nat.zero_le _) (fun r_93 M_93 J_93 h_93 => ?_)
            obtain ⟨e1_93, e2_93, e3_93⟩ := h_93
            replace e1_93 := e1_93.symm
            replace e2_93 := e2_93.symm
            replace e3_93 := e3_93.symm
            subst e1_93 e2_93 e3_93
            refine v_if_ne (pc := 96) (tgt := 102) dX6_held_96 (by decide) (fun c_96 => ?_) (fun c_96 => ?_)
            · refine v_inc_4 (pc := 102) (v := 1) dX6_held_102 (by decide) (by decide) rfl ?_
              refine v_goto (pc := 105) (tgt := 27) dX6_held_105 (by decide) ?_
              refine v_fg_5 (v_fg_6 ?_)
              rw [nI_1]
              have e9 := ih (i + 1) (by omega)
              rw [itN_s _ _ i] at e9
              exact absurd rfl c_72
            · refine v_iload (pc := 99) dX6_held_99 rfl ?_
              refine v_ist_3 (pc := 101) dX6_held_101 (by decide) rfl ?_
              refine v_inc_4 (pc := 102) (v := 1) dX6_held_102 (by decide) (by decide) rfl ?_
              refine v_goto (pc := 105) (tgt := 27) dX6_held_105 (by decide) ?_
              refine v_fg_5 (v_fg_6 ?_)
              rw [nI_1]
              have e9 := ih (i + 1) (by omega)
              rw [itN_s _ _ i] at e9
              exact absurd rfl c_72
    · refine v_iconst (pc := 44) (v := 1) (by decide) dX6_held_44 ?_
      refine v_goto (pc := 45) (tgt := 49) dX6_held_45 (by decide) ?_
      refine v_ist_5 (pc := 49) dX6_held_49 (by decide) rfl ?_
      refine v_iload (pc := 51) dX6_held_51 rfl ?_
      refine v_cS1i (pc := 53) dX6_held_53 mkX6_64 c_bitCount (Nat.le_of_ble_eq_true rfl) rfl (Nat.zero_le _) (Nat.zero_le _) (fun r_53 M_53 J_53 h_53 => ?_)
      obtain ⟨e1_53, e2_53, e3_53⟩ := h_53
      replace e1_53 := e1_53.symm
      replace e2_53 := e2_53.symm
      replace e3_53 := e3_53.symm
      subst e1_53 e2_53 e3_53
      refine v_iload_n (pc := 56) dX6_held_56 rfl ?_
      refine v_cS1i (pc := 57) dX6_held_57 mkX6_64 c_bitCount (Nat.le_of_ble_eq_true rfl) rfl (Nat.zero_le _) (Nat.zero_le _) (fun r_57 M_57 J_57 h_57 => ?_)
      obtain ⟨e1_57, e2_57, e3_57⟩ := h_57
      replace e1_57 := e1_57.symm
      replace e2_57 := e2_57.symm
      replace e3_57 := e3_57.symm
      subst e1_57 e2_57 e3_57
      refine v_icmp_ge (pc := 60) (tgt := 67) dX6_held_60 (by decide) (fun c_60 => ?_) (fun c_60 => ?_)
      · refine v_iconst (pc := 67) (v := 0) (by decide) dX6_held_67 ?_
        refine v_ist_6 (pc := 68) dX6_held_68 (by decide) rfl ?_
        refine v_iload (pc := 70) dX6_held_70 rfl ?_
        refine v_if_eq (pc := 72) (tgt := 102) dX6_held_72 (by decide) (fun c_72 => ?_) (fun c_72 => ?_)
        · refine v_inc_4 (pc := 102) (v := 1) dX6_held_102 (by decide) (by decide) rfl ?_
          refine v_goto (pc := 105) (tgt := 27) dX6_held_105 (by decide) ?_
          refine v_fg_5 (v_fg_6 ?_)
          rw [nI_1]
          have e9 := ih (i + 1) (by omega)
          rw [itN_s _ _ i] at e9
          exact absurd c_72 (by decide)
        · refine v_iload (pc := 75) dX6_held_75 rfl ?_
          refine v_if_eq (pc := 77) (tgt := 102) dX6_held_77 (by decide) (fun c_77 => ?_) (fun c_77 => ?_)
          · refine v_inc_4 (pc := 102) (v := 1) dX6_held_102 (by decide) (by decide) rfl ?_
            refine v_goto (pc := 105) (tgt := 27) dX6_held_105 (by decide) ?_
            refine v_fg_5 (v_fg_6 ?_)
            rw [nI_1]
            have e9 := ih (i + 1) (by omega)
            rw [itN_s _ _ i] at e9
            rw [show hd1 (M 2 4) (M 4) x i (itN (hd1 (M 2 4) (M 4) x) x i) = _ from if_neg (fun q => absurd q.2.1 (Int32.not_lt.mpr c_60))] at e9
            exact e9
          · refine v_aload_n (pc := 80) dX6_held_80 rfl ?_
            refine v_getR (pc := 81) fkX6_12 ly0 rfl dX6_held_81 ?_
            refine v_getR (pc := 84) fkX6_53 ly1 rfl dX6_held_84 ?_
            refine v_iload_n (pc := 87) dX6_held_87 rfl ?_
            refine v_iload (pc := 88) dX6_held_88 rfl ?_
            refine v_iconst (pc := 90) (v := (-1)) (by decide) dX6_held_90 ?_
            refine v_ixor (pc := 91) dX6_held_91 ?_
            refine v_iand (pc := 92) dX6_held_92 ?_
            refine v_cV1i (pc := 93) dX6_held_93 mkX6_167 (c_passes ly2 ly4) ly2 rfl (Nat.le_of_ble_eq_true rfl) rfl (Nat.zero_le _) (Nat.zero_le _) (fun r_93 M_93 J_93 h_93 => ?_)
            obtain ⟨e1_93, e2_93, e3_93⟩ := h_93
            replace e1_93 := e1_93.symm
            replace e2_93 := e2_93.symm
            replace e3_93 := e3_93.symm
            subst e1_93 e2_93 e3_93
            refine v_if_ne (pc := 96) (tgt := 102) dX6_held_96 (by decide) (fun c_96 => ?_) (fun c_96 => ?_)
            · refine v_inc_4 (pc := 102) (v := 1) dX6_held_102 (by decide) (by decide) rfl ?_
              refine v_goto (pc := 105) (tgt := 27) dX6_held_105 (by decide) ?_
              refine v_fg_5 (v_fg_6 ?_)
              rw [nI_1]
              have e9 := ih (i + 1) (by omega)
              rw [itN_s _ _ i] at e9
              exact absurd rfl c_77
            · refine v_iload (pc := 99) dX6_held_99 rfl ?_
              refine v_ist_3 (pc := 101) dX6_held_101 (by decide) rfl ?_
              refine v_inc_4 (pc := 102) (v := 1) dX6_held_102 (by decide) (by decide) rfl ?_
              refine v_goto (pc := 105) (tgt := 27) dX6_held_105 (by decide) ?_
              refine v_fg_5 (v_fg_6 ?_)
              rw [nI_1]
              have e9 := ih (i + 1) (by omega)
              rw [itN_s _ _ i] at e9
              exact absurd rfl c_77
      · refine v_iconst (pc := 63) (v := 1) (by decide) dX6_held_63 ?_
        refine v_goto (pc := 64) (tgt := 68) dX6_held_64 (by decide) ?_
        refine v_ist_6 (pc := 68) dX6_held_68 (by decide) rfl ?_
        refine v_iload (pc := 70) dX6_held_70 rfl ?_
        refine v_if_eq (pc := 72) (tgt := 102) dX6_held_72 (by decide) (fun c_72 => ?_) (fun c_72 => ?_)
        · refine v_inc_4 (pc := 102) (v := 1) dX6_held_102 (by decide) (by decide) rfl ?_
          refine v_goto (pc := 105) (tgt := 27) dX6_held_105 (by decide) ?_
          refine v_fg_5 (v_fg_6 ?_)
          rw [nI_1]
          have e9 := ih (i + 1) (by omega)
          rw [itN_s _ _ i] at e9
          exact absurd c_72 (by decide)
        · refine v_iload (pc := 75) dX6_held_75 rfl ?_
          refine v_if_eq (pc := 77) (tgt := 102) dX6_held_77 (by decide) (fun c_77 => ?_) (fun c_77 => ?_)
          · refine v_inc_4 (pc := 102) (v := 1) dX6_held_102 (by decide) (by decide) rfl ?_
            refine v_goto (pc := 105) (tgt := 27) dX6_held_105 (by decide) ?_
            refine v_fg_5 (v_fg_6 ?_)
            rw [nI_1]
            have e9 := ih (i + 1) (by omega)
            rw [itN_s _ _ i] at e9
            exact absurd c_77 (by decide)
          · refine v_aload_n (pc := 80) dX6_held_80 rfl ?_
            refine v_getR (pc := 81) fkX6_12 ly0 rfl dX6_held_81 ?_
            refine v_getR (pc := 84) fkX6_53 ly1 rfl dX6_held_84 ?_
            refine v_iload_n (pc := 87) dX6_held_87 rfl ?_
            refine v_iload (pc := 88) dX6_held_88 rfl ?_
            refine v_iconst (pc := 90) (v := (-1)) (by decide) dX6_held_90 ?_
            refine v_ixor (pc := 91) dX6_held_91 ?_
            refine v_iand (pc := 92) dX6_held_92 ?_
            refine v_cV1i (pc := 93) dX6_held_93 mkX6_167 (c_passes ly2 ly4) ly2 rfl (Nat.le_of_ble_eq_true rfl) rfl (Nat.zero_le _) (Nat.zero_le _) (fun r_93 M_93 J_93 h_93 => ?_)
            obtain ⟨e1_93, e2_93, e3_93⟩ := h_93
            replace e1_93 := e1_93.symm
            replace e2_93 := e2_93.symm
            replace e3_93 := e3_93.symm
            subst e1_93 e2_93 e3_93
            refine v_if_ne (pc := 96) (tgt := 102) dX6_held_96 (by decide) (fun c_96 => ?_) (fun c_96 => ?_)
            · refine v_inc_4 (pc := 102) (v := 1) dX6_held_102 (by decide) (by decide) rfl ?_
              refine v_goto (pc := 105) (tgt := 27) dX6_held_105 (by decide) ?_
              refine v_fg_5 (v_fg_6 ?_)
              rw [nI_1]
              have e9 := ih (i + 1) (by omega)
              rw [itN_s _ _ i] at e9
              rw [show hd1 (M 2 4) (M 4) x i (itN (hd1 (M 2 4) (M 4) x) x i) = _ from if_neg (fun q => q.2.2 (bI_n0.mp c_96))] at e9
              exact e9
            · refine v_iload (pc := 99) dX6_held_99 rfl ?_
              refine v_ist_3 (pc := 101) dX6_held_101 (by decide) rfl ?_
              refine v_inc_4 (pc := 102) (v := 1) dX6_held_102 (by decide) (by decide) rfl ?_
              refine v_goto (pc := 105) (tgt := 27) dX6_held_105 (by decide) ?_
              refine v_fg_5 (v_fg_6 ?_)
              rw [nI_1]
              have e9 := ih (i + 1) (by omega)
              rw [itN_s _ _ i] at e9
              rw [show hd1 (M 2 4) (M 4) x i (itN (hd1 (M 2 4) (M 4) x) x i) = _ from if_pos ⟨c_41, Int32.not_le.mp c_60, bI_0.mp c_96⟩] at e9
              exact e9

set_option maxRecDepth 100000 in
set_option maxHeartbeats 4000000 in
theorem c_held {x y : Int32} {M : mM} {J : mJ}  : Ct yX6_held cX6_held 7 (some .int) (rmD 2) false [.ref 0, .int x, .int y] LY M J (mNi LY (fun r0 M1 J1 => r0 = (if gS (M 2 4) x then (if 0 ≤ y ∧ y ≤ 1 then (if y = 0 then bcI (itN (hd1 (M 2 4) (M 4) x) x 128) else (itN (hd1 (M 2 4) (M 4) x) x 128)) else -2) else -1) ∧ M1 = M ∧ J1 = J)) := by
  refine ct_of (own := RX6) (ini := false) (ls := [some (.ref 0), some (.int x), some (.int y), none, none, none, none]) 4 (by decide +kernel) rfl (fun h => by cases h) rfl (fun ad => by first | exact Nat.le_of_ble_eq_true rfl) ?_
  refine v_aload_n (pc := 0) dX6_held_0 rfl ?_
  refine v_iload_n (pc := 1) dX6_held_1 rfl ?_
  refine v_cV1i (pc := 2) dX6_held_2 mkX6_170 c_areBelow ly0 rfl (Nat.le_of_ble_eq_true rfl) rfl (Nat.zero_le _) (Nat.zero_le _) (fun r_2 M_2 J_2 h_2 => ?_)
  obtain ⟨e1_2, e2_2, e3_2⟩ := h_2
  replace e1_2 := e1_2.symm
  replace e2_2 := e2_2.symm
  replace e3_2 := e3_2.symm
  subst e1_2 e2_2 e3_2
  refine v_if_ne (pc := 5) (tgt := 10) dX6_held_5 (by decide) (fun c_5 => ?_) (fun c_5 => ?_)
  · refine v_iload_n (pc := 10) dX6_held_10 rfl ?_
    refine v_iconst (pc := 11) (v := 0) (by decide) dX6_held_11 ?_
    refine v_iconst (pc := 12) (v := 1) (by decide) dX6_held_12 ?_
    refine v_cS3i (pc := 13) dX6_held_13 mkX6_49 c_within (Nat.le_of_ble_eq_true rfl) rfl (Nat.zero_le _) (Nat.zero_le _) (fun r_13 M_13 J_13 h_13 => ?_)
    obtain ⟨e1_13, e2_13, e3_13⟩ := h_13
    replace e1_13 := e1_13.symm
    replace e2_13 := e2_13.symm
    replace e3_13 := e3_13.symm
    subst e1_13 e2_13 e3_13
    refine v_if_ne (pc := 16) (tgt := 22) dX6_held_16 (by decide) (fun c_16 => ?_) (fun c_16 => ?_)
    · refine v_iload_n (pc := 22) dX6_held_22 rfl ?_
      refine v_ist_3 (pc := 23) dX6_held_23 (by decide) rfl ?_
      refine v_iconst (pc := 24) (v := 0) (by decide) dX6_held_24 ?_
      refine v_ist_4 (pc := 25) dX6_held_25 (by decide) rfl ?_
      refine V.mono (fun o a b c q => ?_) (l_held 128 0 rfl)
      rw [if_pos (bI_n0.mp c_5), if_pos (bI_n0.mp c_16)]
      exact q
    · refine v_bipush (pc := 19) (v := (-2)) (by decide) dX6_held_19 ?_
      refine v_iret (pc := 21) dX6_held_21 (Nat.zero_le _) (Nat.zero_le _) ?_
      exact ⟨by rw [if_pos (bI_n0.mp c_5), if_neg (bI_0.mp c_16)], rfl, rfl⟩
  · refine v_iconst (pc := 8) (v := (-1)) (by decide) dX6_held_8 ?_
    refine v_iret (pc := 9) dX6_held_9 (Nat.zero_le _) (Nat.zero_le _) ?_
    exact ⟨by rw [if_neg (bI_0.mp c_5)], rfl, rfl⟩
