/-! the house's calls: hours, orders, sights, told -/
set_option maxRecDepth 100000 in
set_option maxHeartbeats 4000000 in
theorem c_hours {x y : Int32} {M : mM} {J : mJ}  : Ct yX6_hours cX6_hours 4 (some .int) (rmD 1) false [.ref 0, .int x, .int y] LY M J (mNi LY (fun r0 M1 J1 => r0 = (if 0 ≤ x ∧ x ≤ 5 then (if 0 ≤ y ∧ y ≤ 16777215 then M 12 x.toNatClampNeg else -2) else -1) ∧ M1 = (if 0 ≤ x ∧ x ≤ 5 then (if 0 ≤ y ∧ y ≤ 16777215 then mU M 12 x.toNatClampNeg y else M) else M) ∧ J1 = J)) := by
  refine ct_of (own := RX6) (ini := false) (ls := [some (.ref 0), some (.int x), some (.int y), none]) 1 (by decide +kernel) rfl (fun h => by cases h) rfl (fun ad => by first | exact Nat.le_of_ble_eq_true rfl) ?_
  refine v_iload_n (pc := 0) dX6_hours_0 rfl ?_
  refine v_iconst (pc := 1) (v := 0) (by decide) dX6_hours_1 ?_
  refine v_iconst (pc := 2) (v := 5) (by decide) dX6_hours_2 ?_
  refine v_cS3i (pc := 3) dX6_hours_3 mkX6_49 c_within (Nat.le_of_ble_eq_true rfl) rfl (Nat.zero_le _) (Nat.zero_le _) (fun r_3 M_3 J_3 h_3 => ?_)
  obtain ⟨e1_3, e2_3, e3_3⟩ := h_3
  replace e1_3 := e1_3.symm
  replace e2_3 := e2_3.symm
  replace e3_3 := e3_3.symm
  subst e1_3 e2_3 e3_3
  refine v_if_ne (pc := 6) (tgt := 11) dX6_hours_6 (by decide) (fun c_6 => ?_) (fun c_6 => ?_)
  · refine v_iload_n (pc := 11) dX6_hours_11 rfl ?_
    refine v_iconst (pc := 12) (v := 0) (by decide) dX6_hours_12 ?_
    refine v_ldc (pc := 13) ckX6_173 dX6_hours_13 ?_
    refine v_cS3i (pc := 15) dX6_hours_15 mkX6_49 c_within (Nat.le_of_ble_eq_true rfl) rfl (Nat.zero_le _) (Nat.zero_le _) (fun r_15 M_15 J_15 h_15 => ?_)
    obtain ⟨e1_15, e2_15, e3_15⟩ := h_15
    replace e1_15 := e1_15.symm
    replace e2_15 := e2_15.symm
    replace e3_15 := e3_15.symm
    subst e1_15 e2_15 e3_15
    refine v_if_ne (pc := 18) (tgt := 24) dX6_hours_18 (by decide) (fun c_18 => ?_) (fun c_18 => ?_)
    · refine v_aload_n (pc := 24) dX6_hours_24 rfl ?_
      refine v_getR (pc := 25) fkX6_12 ly0 rfl dX6_hours_25 ?_
      refine v_getR (pc := 28) fkX6_174 ly1 rfl dX6_hours_28 ?_
      refine v_iload_n (pc := 31) dX6_hours_31 rfl ?_
      refine v_iald (pc := 32) ly12 ?_ dX6_hours_32 ?_
      · exact vinP (by decide) (bI_n0.mp c_6).1 (bI_n0.mp c_6).2
      refine v_ist_3 (pc := 33) dX6_hours_33 (by decide) rfl ?_
      refine v_aload_n (pc := 34) dX6_hours_34 rfl ?_
      refine v_getR (pc := 35) fkX6_12 ly0 rfl dX6_hours_35 ?_
      refine v_getR (pc := 38) fkX6_174 ly1 rfl dX6_hours_38 ?_
      refine v_iload_n (pc := 41) dX6_hours_41 rfl ?_
      refine v_iload_n (pc := 42) dX6_hours_42 rfl ?_
      refine v_iast (pc := 43) ly12 ?_ dX6_hours_43 ?_
      · exact vinP (by decide) (bI_n0.mp c_6).1 (bI_n0.mp c_6).2
      refine v_iload_n (pc := 44) dX6_hours_44 rfl ?_
      refine v_iret (pc := 45) dX6_hours_45 (Nat.zero_le _) (Nat.zero_le _) ?_
      exact ⟨by rw [if_pos (bI_n0.mp c_6), if_pos (bI_n0.mp c_18)]; try rfl, by rw [if_pos (bI_n0.mp c_6), if_pos (bI_n0.mp c_18)]; try rfl, rfl⟩
    · refine v_bipush (pc := 21) (v := (-2)) (by decide) dX6_hours_21 ?_
      refine v_iret (pc := 23) dX6_hours_23 (Nat.zero_le _) (Nat.zero_le _) ?_
      exact ⟨by rw [if_pos (bI_n0.mp c_6), if_neg (bI_0.mp c_18)]; try rfl, by rw [if_pos (bI_n0.mp c_6), if_neg (bI_0.mp c_18)]; try rfl, rfl⟩
  · refine v_iconst (pc := 9) (v := (-1)) (by decide) dX6_hours_9 ?_
    refine v_iret (pc := 10) dX6_hours_10 (Nat.zero_le _) (Nat.zero_le _) ?_
    exact ⟨by rw [if_neg (bI_0.mp c_6)]; try rfl, by rw [if_neg (bI_0.mp c_6)]; try rfl, rfl⟩

def wHv (y : Int32) (s : Nat) : Int32 := (y + bcI (nI s) - 1) - (y + bcI (nI s) - 1) / 24 * 24
def wy (hh W : Nat → Int32) (s : Nat) (hv : Int32) (i : Nat) (a : Int32) : Int32 := if ¬ (nI s &&& nbit (nI i)) = nI s ∧ bt (hh i) hv ∧ 0 ≤ nI s &&& nbit (nI i) ∧ ¬ 64 ≤ (nI s &&& nbit (nI i)) then a + W (nI s &&& nbit (nI i)).toNatClampNeg else a
def wtp (hh W : Nat → Int32) (s : Nat) (y : Int32) : Int32 := itN (wy hh W s (wHv y s)) 0 6

set_option maxRecDepth 100000 in
set_option maxHeartbeats 4000000 in
theorem l_ways {s : Nat} {y : Int32} {M : mM} {J : mJ}  : ∀ (n i : Nat), n + i = 6 → V RX6 cX6_waysToPass 8 (some .int) false (rmD 1) false LY.length none (mNi LY (fun r0 M1 J1 => r0 = wtp (M 12) (M 47) s y ∧ M1 = M ∧ J1 = J)) 0 0 18 [some (.ref 0), some (.int (nI s)), some (.int y), some (.int (wHv y s)), some (.int (itN (wy (M 12) (M 47) s (wHv y s)) 0 i)), some (.int (nI i)), none, none] [] LY M J := by
  intro n
  induction n with
  | zero =>
    intro i hi
    obtain rfl : i = 6 := by omega
    refine v_iload (pc := 18) dX6_waysToPass_18 rfl ?_
    refine v_bipush (pc := 20) (v := 6) (by decide) dX6_waysToPass_20 ?_
    refine v_icmp_ge (pc := 22) (tgt := 101) dX6_waysToPass_22 (by decide) (fun c_22 => ?_) (fun c_22 => absurd (by decide) c_22)
    refine v_iload (pc := 101) dX6_waysToPass_101 rfl ?_
    refine v_iret (pc := 103) dX6_waysToPass_103 (Nat.zero_le _) (Nat.zero_le _) ?_
    exact ⟨rfl, rfl, rfl⟩
  | succ n ih =>
    intro i hi
    have hb7 : i < 6 := by omega
    have hcl := nI_clamp (show i < 2 ^ 31 by omega)
    refine v_iload (pc := 18) dX6_waysToPass_18 rfl ?_
    refine v_bipush (pc := 20) (v := 6) (by decide) dX6_waysToPass_20 ?_
    refine v_icmp_ge (pc := 22) (tgt := 101) dX6_waysToPass_22 (by decide) (fun c_22 => absurd c_22 (nI_ge (b := 6) hb7 (by omega))) (fun c_22 => ?_)
    refine v_iload_n (pc := 25) dX6_waysToPass_25 rfl ?_
    refine v_iconst (pc := 26) (v := 1) (by decide) dX6_waysToPass_26 ?_
    refine v_iload (pc := 27) dX6_waysToPass_27 rfl ?_
    refine v_ishl (pc := 29) dX6_waysToPass_29 ?_
    refine v_iconst (pc := 30) (v := (-1)) (by decide) dX6_waysToPass_30 ?_
    refine v_ixor (pc := 31) dX6_waysToPass_31 ?_
    refine v_iand (pc := 32) dX6_waysToPass_32 ?_
    refine v_ist_6 (pc := 33) dX6_waysToPass_33 (by decide) rfl ?_
    refine v_iload (pc := 35) dX6_waysToPass_35 rfl ?_
    refine v_iload_n (pc := 37) dX6_waysToPass_37 rfl ?_
    refine v_icmp_eq (pc := 38) (tgt := 63) dX6_waysToPass_38 (by decide) (fun c_38 => ?_) (fun c_38 => ?_)
    · refine v_iconst (pc := 63) (v := 0) (by decide) dX6_waysToPass_63 ?_
      refine v_ist_7 (pc := 64) dX6_waysToPass_64 (by decide) rfl ?_
      refine v_iload (pc := 66) dX6_waysToPass_66 rfl ?_
      refine v_if_eq (pc := 68) (tgt := 95) dX6_waysToPass_68 (by decide) (fun c_68 => ?_) (fun c_68 => ?_)
      · refine v_inc_5 (pc := 95) (v := 1) dX6_waysToPass_95 (by decide) (by decide) rfl ?_
        refine v_goto (pc := 98) (tgt := 18) dX6_waysToPass_98 (by decide) ?_
        refine v_fg_6 (v_fg_7 ?_)
        rw [nI_1]
        have e9 := ih (i + 1) (by omega)
        rw [itN_s _ _ i] at e9
        rw [show (wy (M 12) (M 47) s (wHv y s)) i (itN (wy (M 12) (M 47) s (wHv y s)) 0 i) = _ from if_neg (fun q => q.1 c_38)] at e9
        exact e9
      · exact absurd rfl c_68
    · refine v_aload_n (pc := 41) dX6_waysToPass_41 rfl ?_
      refine v_getR (pc := 42) fkX6_12 ly0 rfl dX6_waysToPass_42 ?_
      refine v_getR (pc := 45) fkX6_174 ly1 rfl dX6_waysToPass_45 ?_
      refine v_iload (pc := 48) dX6_waysToPass_48 rfl ?_
      refine v_iald (pc := 50) ly12 ?_ dX6_waysToPass_50 ?_
      · exact vp_in_nI hb7 (by omega)
      refine v_iload_n (pc := 51) dX6_waysToPass_51 rfl ?_
      refine v_ishr (pc := 52) dX6_waysToPass_52 ?_
      refine v_iconst (pc := 53) (v := 1) (by decide) dX6_waysToPass_53 ?_
      refine v_iand (pc := 54) dX6_waysToPass_54 ?_
      refine v_iconst (pc := 55) (v := 1) (by decide) dX6_waysToPass_55 ?_
      refine v_icmp_ne (pc := 56) (tgt := 63) dX6_waysToPass_56 (by decide) (fun c_56 => ?_) (fun c_56 => ?_)
      · refine v_iconst (pc := 63) (v := 0) (by decide) dX6_waysToPass_63 ?_
        refine v_ist_7 (pc := 64) dX6_waysToPass_64 (by decide) rfl ?_
        refine v_iload (pc := 66) dX6_waysToPass_66 rfl ?_
        refine v_if_eq (pc := 68) (tgt := 95) dX6_waysToPass_68 (by decide) (fun c_68 => ?_) (fun c_68 => ?_)
        · refine v_inc_5 (pc := 95) (v := 1) dX6_waysToPass_95 (by decide) (by decide) rfl ?_
          refine v_goto (pc := 98) (tgt := 18) dX6_waysToPass_98 (by decide) ?_
          refine v_fg_6 (v_fg_7 ?_)
          rw [nI_1]
          have e9 := ih (i + 1) (by omega)
          rw [itN_s _ _ i] at e9
          rw [hcl] at c_56
          rw [show (wy (M 12) (M 47) s (wHv y s)) i (itN (wy (M 12) (M 47) s (wHv y s)) 0 i) = _ from if_neg (fun q => c_56 q.2.1)] at e9
          exact e9
        · exact absurd rfl c_68
      · refine v_iconst (pc := 59) (v := 1) (by decide) dX6_waysToPass_59 ?_
        refine v_goto (pc := 60) (tgt := 64) dX6_waysToPass_60 (by decide) ?_
        refine v_ist_7 (pc := 64) dX6_waysToPass_64 (by decide) rfl ?_
        refine v_iload (pc := 66) dX6_waysToPass_66 rfl ?_
        refine v_if_eq (pc := 68) (tgt := 95) dX6_waysToPass_68 (by decide) (fun c_68 => ?_) (fun c_68 => ?_)
        · refine v_inc_5 (pc := 95) (v := 1) dX6_waysToPass_95 (by decide) (by decide) rfl ?_
          refine v_goto (pc := 98) (tgt := 18) dX6_waysToPass_98 (by decide) ?_
          exact absurd c_68 (by decide)
        · refine v_iload (pc := 71) dX6_waysToPass_71 rfl ?_
          refine v_if_lt (pc := 73) (tgt := 95) dX6_waysToPass_73 (by decide) (fun c_73 => ?_) (fun c_73 => ?_)
          · refine v_inc_5 (pc := 95) (v := 1) dX6_waysToPass_95 (by decide) (by decide) rfl ?_
            refine v_goto (pc := 98) (tgt := 18) dX6_waysToPass_98 (by decide) ?_
            refine v_fg_6 (v_fg_7 ?_)
            rw [nI_1]
            have e9 := ih (i + 1) (by omega)
            rw [itN_s _ _ i] at e9
            rw [show (wy (M 12) (M 47) s (wHv y s)) i (itN (wy (M 12) (M 47) s (wHv y s)) 0 i) = _ from if_neg (fun q => absurd q.2.2.1 (Int32.not_le.mpr c_73))] at e9
            exact e9
          · refine v_iload (pc := 76) dX6_waysToPass_76 rfl ?_
            refine v_bipush (pc := 78) (v := 64) (by decide) dX6_waysToPass_78 ?_
            refine v_icmp_ge (pc := 80) (tgt := 95) dX6_waysToPass_80 (by decide) (fun c_80 => ?_) (fun c_80 => ?_)
            · refine v_inc_5 (pc := 95) (v := 1) dX6_waysToPass_95 (by decide) (by decide) rfl ?_
              refine v_goto (pc := 98) (tgt := 18) dX6_waysToPass_98 (by decide) ?_
              refine v_fg_6 (v_fg_7 ?_)
              rw [nI_1]
              have e9 := ih (i + 1) (by omega)
              rw [itN_s _ _ i] at e9
              rw [show (wy (M 12) (M 47) s (wHv y s)) i (itN (wy (M 12) (M 47) s (wHv y s)) 0 i) = _ from if_neg (fun q => q.2.2.2 c_80)] at e9
              exact e9
            · refine v_iload (pc := 83) dX6_waysToPass_83 rfl ?_
              refine v_aload_n (pc := 85) dX6_waysToPass_85 rfl ?_
              refine v_getR (pc := 86) fkX6_41 ly0 rfl dX6_waysToPass_86 ?_
              refine v_iload (pc := 89) dX6_waysToPass_89 rfl ?_
              refine v_iald (pc := 91) ly47 ?_ dX6_waysToPass_91 ?_
              · exact vinN (N := 64) (by decide) c_73 c_80
              refine v_iadd (pc := 92) dX6_waysToPass_92 ?_
              refine v_ist_4 (pc := 93) dX6_waysToPass_93 (by decide) rfl ?_
              refine v_inc_5 (pc := 95) (v := 1) dX6_waysToPass_95 (by decide) (by decide) rfl ?_
              refine v_goto (pc := 98) (tgt := 18) dX6_waysToPass_98 (by decide) ?_
              refine v_fg_6 (v_fg_7 ?_)
              rw [nI_1]
              have e9 := ih (i + 1) (by omega)
              rw [itN_s _ _ i] at e9
              rw [hcl] at c_56
              rw [show (wy (M 12) (M 47) s (wHv y s)) i (itN (wy (M 12) (M 47) s (wHv y s)) 0 i) = _ from if_pos ⟨c_38, c_56, Int32.not_lt.mp c_73, c_80⟩] at e9
              exact e9

set_option maxRecDepth 100000 in
set_option maxHeartbeats 4000000 in
theorem c_ways {s : Nat} {y : Int32} {M : mM} {J : mJ}  : Ct yX6_waysToPass cX6_waysToPass 8 (some .int) (rmD 1) false [.ref 0, .int (nI s), .int y] LY M J (mNi LY (fun r0 M1 J1 => r0 = wtp (M 12) (M 47) s y ∧ M1 = M ∧ J1 = J)) := by
  refine ct_of (own := RX6) (ini := false) (ls := [some (.ref 0), some (.int (nI s)), some (.int y), none, none, none, none, none]) 5 (by decide +kernel) rfl (fun h => by cases h) rfl (fun ad => by first | exact Nat.le_of_ble_eq_true rfl) ?_
  refine v_iload_n (pc := 0) dX6_waysToPass_0 rfl ?_
  refine v_iload_n (pc := 1) dX6_waysToPass_1 rfl ?_
  refine v_cS1i (pc := 2) dX6_waysToPass_2 mkX6_64 c_bitCount (Nat.le_of_ble_eq_true rfl) rfl (Nat.zero_le _) (Nat.zero_le _) (fun r_2 M_2 J_2 h_2 => ?_)
  obtain ⟨e1_2, e2_2, e3_2⟩ := h_2
  replace e1_2 := e1_2.symm
  replace e2_2 := e2_2.symm
  replace e3_2 := e3_2.symm
  subst e1_2 e2_2 e3_2
  refine v_iadd (pc := 5) dX6_waysToPass_5 ?_
  refine v_iconst (pc := 6) (v := 1) (by decide) dX6_waysToPass_6 ?_
  refine v_isub (pc := 7) dX6_waysToPass_7 ?_
  refine v_bipush (pc := 8) (v := 24) (by decide) dX6_waysToPass_8 ?_
  refine v_irem (pc := 10) (by decide) dX6_waysToPass_10 ?_
  refine v_ist_3 (pc := 11) dX6_waysToPass_11 (by decide) rfl ?_
  refine v_iconst (pc := 12) (v := 0) (by decide) dX6_waysToPass_12 ?_
  refine v_ist_4 (pc := 13) dX6_waysToPass_13 (by decide) rfl ?_
  refine v_iconst (pc := 15) (v := 0) (by decide) dX6_waysToPass_15 ?_
  refine v_ist_5 (pc := 16) dX6_waysToPass_16 (by decide) rfl ?_
  exact l_ways 6 0 rfl

theorem bv_pow : ∀ n, n < 8 → bv (nI n) = nI (2 ^ n) := by decide +kernel
def oi (y : Int32) (j : Nat) (M : mM) : mM := mU M 47 (j + 1) (wtp (M 12) (M 47) (j + 1) y)
def oM (M : mM) (y : Int32) (j : Nat) : mM := itN (oi y) (mU M 47 0 1) j

set_option maxRecDepth 100000 in
set_option maxHeartbeats 4000000 in
theorem l_orders {x y : Int32} {k : Nat} (hk : k < 7) {M : mM} {J : mJ} : ∀ (n j : Nat), n + (j + 1) = 2 ^ k → V RX6 cX6_orders 5 (some .int) false (rmD 2) false LY.length none (mNi LY (fun r0 M1 J1 => r0 = oM M y (2 ^ k - 1) 47 (2 ^ k - 1) ∧ M1 = oM M y (2 ^ k - 1) ∧ J1 = J)) 0 0 37 [some (.ref 0), some (.int x), some (.int y), some (.int (nI (2 ^ k))), some (.int (nI (j + 1)))] [] LY (oM M y j) J := by
  have hp : 2 ^ k ≤ 64 := by
    have : 2 ^ k ≤ 2 ^ 6 := Nat.pow_le_pow_right (by omega) (by omega)
    omega
  intro n
  induction n with
  | zero =>
    intro j hj
    have e1 : 2 ^ k - 1 = j := by omega
    rw [e1]
    have e2 : nI (2 ^ k) - 1 = nI j := by rw [show 2 ^ k = j + 1 by omega]; exact nI_pred j
    have hcl := nI_clamp (show j < 2 ^ 31 by omega)
    refine v_iload (pc := 37) dX6_orders_37 rfl ?_
    refine v_iload_n (pc := 39) dX6_orders_39 rfl ?_
    refine v_icmp_ge (pc := 40) (tgt := 70) dX6_orders_40 (by decide) (fun c_40 => ?_) (fun c_40 => absurd (by rw [show j + 1 = 2 ^ k by omega]; exact nI_le (Nat.le_refl _) (by omega)) c_40)
    refine v_iload_n (pc := 70) dX6_orders_70 rfl ?_
    refine v_bipush (pc := 71) (v := 64) (by decide) dX6_orders_71 ?_
    refine v_icmp_gt (pc := 73) (tgt := 87) dX6_orders_73 (by decide) (fun c_73 => absurd c_73 (fun q => absurd q (Int32.not_lt.mpr (nI_le (b := 64) hp (by omega))))) (fun c_73 => ?_)
    refine v_aload_n (pc := 76) dX6_orders_76 rfl ?_
    refine v_getR (pc := 77) fkX6_41 ly0 rfl dX6_orders_77 ?_
    refine v_iload_n (pc := 80) dX6_orders_80 rfl ?_
    refine v_iconst (pc := 81) (v := 1) (by decide) dX6_orders_81 ?_
    refine v_isub (pc := 82) dX6_orders_82 ?_
    refine v_iald (pc := 83) ly47 ?_ dX6_orders_83 ?_
    · rw [e2]; exact vp_in_nI (show j < 64 by omega) (by omega)
    refine v_goto (pc := 84) (tgt := 88) dX6_orders_84 (by decide) ?_
    refine v_iret (pc := 88) dX6_orders_88 (Nat.zero_le _) (Nat.zero_le _) ?_
    exact ⟨by rw [e2, hcl], rfl, rfl⟩
  | succ n ih =>
    intro j hj
    have hcl := nI_clamp (show j + 1 < 2 ^ 31 by omega)
    refine v_iload (pc := 37) dX6_orders_37 rfl ?_
    refine v_iload_n (pc := 39) dX6_orders_39 rfl ?_
    refine v_icmp_ge (pc := 40) (tgt := 70) dX6_orders_40 (by decide) (fun c_40 => absurd c_40 (nI_ge (show j + 1 < 2 ^ k by omega) (by omega))) (fun c_40 => ?_)
    refine v_iload (pc := 43) dX6_orders_43 rfl ?_
    refine v_bipush (pc := 45) (v := 64) (by decide) dX6_orders_45 ?_
    refine v_icmp_ge (pc := 47) (tgt := 70) dX6_orders_47 (by decide) (fun c_47 => absurd c_47 (nI_ge (b := 64) (show j + 1 < 64 by omega) (by omega))) (fun c_47 => ?_)
    refine v_aload_n (pc := 50) dX6_orders_50 rfl ?_
    refine v_getR (pc := 51) fkX6_41 ly0 rfl dX6_orders_51 ?_
    refine v_iload (pc := 54) dX6_orders_54 rfl ?_
    refine v_aload_n (pc := 56) dX6_orders_56 rfl ?_
    refine v_iload (pc := 57) dX6_orders_57 rfl ?_
    refine v_iload_n (pc := 59) dX6_orders_59 rfl ?_
    refine v_cV2i (pc := 60) dX6_orders_60 mkX6_177 (c_ways (s := j + 1)) ly0 rfl (Nat.le_of_ble_eq_true rfl) rfl (Nat.zero_le _) (Nat.zero_le _) (fun r_60 M_60 J_60 h_60 => ?_)
    obtain ⟨e1_60, e2_60, e3_60⟩ := h_60
    replace e1_60 := e1_60.symm
    replace e2_60 := e2_60.symm
    replace e3_60 := e3_60.symm
    subst e1_60 e2_60 e3_60
    refine v_iast (pc := 63) ly47 ?_ dX6_orders_63 ?_
    · exact vp_in_nI (show j + 1 < 64 by omega) (by omega)
    refine v_inc_4 (pc := 64) (v := 1) dX6_orders_64 (by decide) (by decide) rfl ?_
    refine v_goto (pc := 67) (tgt := 37) dX6_orders_67 (by decide) ?_
    rw [hcl, nI_1]
    exact ih (j + 1) (by omega)

set_option maxRecDepth 100000 in
set_option maxHeartbeats 4000000 in
theorem c_orders {x y : Int32} {M : mM} {J : mJ}  : Ct yX6_orders cX6_orders 5 (some .int) (rmD 2) false [.ref 0, .int x, .int y] LY M J (mNi LY (fun r0 M1 J1 => r0 = (if ((1 ≤ x ∧ x ≤ 6) ∧ (0 ≤ y ∧ y ≤ 23)) then oM M y (2 ^ x.toNatClampNeg - 1) 47 (2 ^ x.toNatClampNeg - 1) else -2) ∧ M1 = (if ((1 ≤ x ∧ x ≤ 6) ∧ (0 ≤ y ∧ y ≤ 23)) then oM M y (2 ^ x.toNatClampNeg - 1) else M) ∧ J1 = J)) := by
  refine ct_of (own := RX6) (ini := false) (ls := [some (.ref 0), some (.int x), some (.int y), none, none]) 2 (by decide +kernel) rfl (fun h => by cases h) rfl (fun ad => by first | exact Nat.le_of_ble_eq_true rfl) ?_
  refine v_iload_n (pc := 0) dX6_orders_0 rfl ?_
  refine v_iconst (pc := 1) (v := 1) (by decide) dX6_orders_1 ?_
  refine v_bipush (pc := 2) (v := 6) (by decide) dX6_orders_2 ?_
  refine v_cS3i (pc := 4) dX6_orders_4 mkX6_49 c_within (Nat.le_of_ble_eq_true rfl) rfl (Nat.zero_le _) (Nat.zero_le _) (fun r_4 M_4 J_4 h_4 => ?_)
  obtain ⟨e1_4, e2_4, e3_4⟩ := h_4
  replace e1_4 := e1_4.symm
  replace e2_4 := e2_4.symm
  replace e3_4 := e3_4.symm
  subst e1_4 e2_4 e3_4
  refine v_if_eq (pc := 7) (tgt := 20) dX6_orders_7 (by decide) (fun c_7 => ?_) (fun c_7 => ?_)
  · refine v_bipush (pc := 20) (v := (-2)) (by decide) dX6_orders_20 ?_
    refine v_iret (pc := 22) dX6_orders_22 (Nat.zero_le _) (Nat.zero_le _) ?_
    first | exact ⟨by rw [if_neg (fun q => bI_0.mp c_7 q.1)]; try rfl, by rw [if_neg (fun q => bI_0.mp c_7 q.1)]; try rfl, rfl⟩ | exact ⟨by rw [if_neg (fun q => bI_0.mp c_17 q.2)]; try rfl, by rw [if_neg (fun q => bI_0.mp c_17 q.2)]; try rfl, rfl⟩
  · refine v_iload_n (pc := 10) dX6_orders_10 rfl ?_
    refine v_iconst (pc := 11) (v := 0) (by decide) dX6_orders_11 ?_
    refine v_bipush (pc := 12) (v := 23) (by decide) dX6_orders_12 ?_
    refine v_cS3i (pc := 14) dX6_orders_14 mkX6_49 c_within (Nat.le_of_ble_eq_true rfl) rfl (Nat.zero_le _) (Nat.zero_le _) (fun r_14 M_14 J_14 h_14 => ?_)
    obtain ⟨e1_14, e2_14, e3_14⟩ := h_14
    replace e1_14 := e1_14.symm
    replace e2_14 := e2_14.symm
    replace e3_14 := e3_14.symm
    subst e1_14 e2_14 e3_14
    refine v_if_ne (pc := 17) (tgt := 23) dX6_orders_17 (by decide) (fun c_17 => ?_) (fun c_17 => ?_)
    · obtain ⟨k0, hk0, rfl⟩ := rngN (a := 1) (n := 5) rfl rfl (by omega) (bI_n0.mp c_7).1 (bI_n0.mp c_7).2
      have hcl := nI_clamp (show 1 + k0 < 2 ^ 31 by omega)
      refine v_iconst (pc := 23) (v := 1) (by decide) dX6_orders_23 ?_
      refine v_iload_n (pc := 24) dX6_orders_24 rfl ?_
      refine v_ishl (pc := 25) dX6_orders_25 ?_
      rw [show (1 : Int32) <<< (nI (1 + k0) &&& 31) = nI (2 ^ (1 + k0)) from bv_pow (1 + k0) (by omega)]
      refine v_ist_3 (pc := 26) dX6_orders_26 (by decide) rfl ?_
      refine v_aload_n (pc := 27) dX6_orders_27 rfl ?_
      refine v_getR (pc := 28) fkX6_41 ly0 rfl dX6_orders_28 ?_
      refine v_iconst (pc := 31) (v := 0) (by decide) dX6_orders_31 ?_
      refine v_iconst (pc := 32) (v := 1) (by decide) dX6_orders_32 ?_
      refine v_iast (pc := 33) ly47 ?_ dX6_orders_33 ?_
      · unfold vp_in; decide
      refine v_iconst (pc := 34) (v := 1) (by decide) dX6_orders_34 ?_
      refine v_ist_4 (pc := 35) dX6_orders_35 (by decide) rfl ?_
      have hp1 : 0 < 2 ^ (1 + k0) := Nat.pow_pos (by omega)
      refine V.mono (fun o a b c q => ?_) (l_orders (x := nI (1 + k0)) (k := 1 + k0) (by omega) (M := M) (2 ^ (1 + k0) - 1) 0 (by omega))
      rw [if_pos ⟨bI_n0.mp c_7, bI_n0.mp c_17⟩, if_pos ⟨bI_n0.mp c_7, bI_n0.mp c_17⟩, hcl]
      exact q
    · refine v_bipush (pc := 20) (v := (-2)) (by decide) dX6_orders_20 ?_
      refine v_iret (pc := 22) dX6_orders_22 (Nat.zero_le _) (Nat.zero_le _) ?_
      first | exact ⟨by rw [if_neg (fun q => bI_0.mp c_7 q.1)]; try rfl, by rw [if_neg (fun q => bI_0.mp c_7 q.1)]; try rfl, rfl⟩ | exact ⟨by rw [if_neg (fun q => bI_0.mp c_17 q.2)]; try rfl, by rw [if_neg (fun q => bI_0.mp c_17 q.2)]; try rfl, rfl⟩

def fSeen (M : mM) (c : Nat) (x y z : Int32) : mM := mU (mU (mU (mU M 9 c x) 10 c y) 11 c z) 8 3 (nI (c + 1))

set_option maxRecDepth 100000 in
set_option maxHeartbeats 4000000 in
theorem c_sgAdd {x y z : Int32} {c : Nat} {M : mM} {J : mJ} (hc : M 8 3 = nI c) (hc8 : c < 8) : Ct yX4_add cX4_add 4 none (rmD 1) false [.ref 8, .int x, .int y, .int z] LY M J (mNv LY (fun M1 J1 => M1 = fSeen M c x y z ∧ J1 = J)) := by
  refine ct_of (own := RX4) (ini := false) (ls := [some (.ref 8), some (.int x), some (.int y), some (.int z)]) 0 (by decide +kernel) rfl (fun h => by cases h) rfl (fun ad => by first | exact Nat.le_of_ble_eq_true rfl) ?_
  have e7 : (0 : Int32) ≤ M 8 3 ∧ M 8 3 ≤ 7 := by rw [hc]; exact ⟨nI_pos' (by omega), nI_le (b := 7) (by omega) (by omega)⟩
  have hcl := nI_clamp (show c < 2 ^ 31 by omega)
  refine v_aload_n (pc := 0) dX4_add_0 rfl ?_
  refine v_getI (pc := 1) fkX4_21 ly8 rfl dX4_add_1 ?_
  refine v_iconst (pc := 4) (v := 0) (by decide) dX4_add_4 ?_
  refine v_bipush (pc := 5) (v := 7) (by decide) dX4_add_5 ?_
  refine v_cS3i (pc := 7) dX4_add_7 mkX4_25 c_within (Nat.le_of_ble_eq_true rfl) rfl (Nat.zero_le _) (Nat.zero_le _) (fun r_7 M_7 J_7 h_7 => ?_)
  obtain ⟨e1_7, e2_7, e3_7⟩ := h_7
  replace e1_7 := e1_7.symm
  replace e2_7 := e2_7.symm
  replace e3_7 := e3_7.symm
  subst e1_7 e2_7 e3_7
  refine v_if_ne (pc := 10) (tgt := 14) dX4_add_10 (by decide) (fun c_10 => ?_) (fun c_10 => absurd c_10 (bI_n0.mpr e7))
  refine v_aload_n (pc := 14) dX4_add_14 rfl ?_
  refine v_getR (pc := 15) fkX4_9 ly8 rfl dX4_add_15 ?_
  refine v_aload_n (pc := 18) dX4_add_18 rfl ?_
  refine v_getI (pc := 19) fkX4_21 ly8 rfl dX4_add_19 ?_
  rw [hc]
  refine v_iload_n (pc := 22) dX4_add_22 rfl ?_
  refine v_iast (pc := 23) ly9 ?_ dX4_add_23 ?_
  · exact vp_in_nI hc8 (by omega)
  refine v_aload_n (pc := 24) dX4_add_24 rfl ?_
  refine v_getR (pc := 25) fkX4_15 ly8 rfl dX4_add_25 ?_
  refine v_aload_n (pc := 28) dX4_add_28 rfl ?_
  refine v_getI (pc := 29) fkX4_21 ly8 rfl dX4_add_29 ?_
  rw [mU_neA (by decide), hc]
  refine v_iload_n (pc := 32) dX4_add_32 rfl ?_
  refine v_iast (pc := 33) ly10 ?_ dX4_add_33 ?_
  · exact vp_in_nI hc8 (by omega)
  refine v_aload_n (pc := 34) dX4_add_34 rfl ?_
  refine v_getR (pc := 35) fkX4_18 ly8 rfl dX4_add_35 ?_
  refine v_aload_n (pc := 38) dX4_add_38 rfl ?_
  refine v_getI (pc := 39) fkX4_21 ly8 rfl dX4_add_39 ?_
  rw [mU_neA (by decide), mU_neA (by decide), hc]
  refine v_iload_n (pc := 42) dX4_add_42 rfl ?_
  refine v_iast (pc := 43) ly11 ?_ dX4_add_43 ?_
  · exact vp_in_nI hc8 (by omega)
  refine v_aload_n (pc := 44) dX4_add_44 rfl ?_
  refine v_dupR (pc := 45) dX4_add_45 ?_
  refine v_getI (pc := 46) fkX4_21 ly8 rfl dX4_add_46 ?_
  refine v_iconst (pc := 49) (v := 1) (by decide) dX4_add_49 ?_
  refine v_iadd (pc := 50) dX4_add_50 ?_
  refine v_putI (pc := 51) fkX4_21p ly8 rfl dX4_add_51 ?_
  refine v_vret (pc := 54) dX4_add_54 (Nat.zero_le _) (Nat.zero_le _) ?_
  refine ⟨?_, rfl⟩
  rw [hcl, mU_neA (by decide), mU_neA (by decide), mU_neA (by decide), hc, nI_1]
  rfl

set_option maxRecDepth 100000 in
set_option maxHeartbeats 4000000 in
theorem c_seen {x y z : Int32} {c : Nat} {M : mM} {J : mJ} (hc : M 8 3 = nI c) (hc8 : c ≤ 8) : Ct yX6_seen cX6_seen 4 (some .int) (rmD 2) false [.ref 0, .int x, .int y, .int z] LY M J (mNi LY (fun r0 M1 J1 => r0 = (if ((1 ≤ x ∧ x ≤ 9) ∧ (0 ≤ y ∧ y ≤ 999) ∧ (0 ≤ z ∧ z ≤ 9)) then (if c < 8 then nI (c + 1) else -4) else -2) ∧ M1 = (if ((1 ≤ x ∧ x ≤ 9) ∧ (0 ≤ y ∧ y ≤ 999) ∧ (0 ≤ z ∧ z ≤ 9)) then (if c < 8 then fSeen M c x y z else M) else M) ∧ J1 = J)) := by
  refine ct_of (own := RX6) (ini := false) (ls := [some (.ref 0), some (.int x), some (.int y), some (.int z)]) 0 (by decide +kernel) rfl (fun h => by cases h) rfl (fun ad => by first | exact Nat.le_of_ble_eq_true rfl) ?_
  refine v_iload_n (pc := 0) dX6_seen_0 rfl ?_
  refine v_iconst (pc := 1) (v := 1) (by decide) dX6_seen_1 ?_
  refine v_bipush (pc := 2) (v := 9) (by decide) dX6_seen_2 ?_
  refine v_cS3i (pc := 4) dX6_seen_4 mkX6_49 c_within (Nat.le_of_ble_eq_true rfl) rfl (Nat.zero_le _) (Nat.zero_le _) (fun r_4 M_4 J_4 h_4 => ?_)
  obtain ⟨e1_4, e2_4, e3_4⟩ := h_4
  replace e1_4 := e1_4.symm
  replace e2_4 := e2_4.symm
  replace e3_4 := e3_4.symm
  subst e1_4 e2_4 e3_4
  refine v_if_eq (pc := 7) (tgt := 31) dX6_seen_7 (by decide) (fun c_7 => ?_) (fun c_7 => ?_)
  · refine v_bipush (pc := 31) (v := (-2)) (by decide) dX6_seen_31 ?_
    refine v_iret (pc := 33) dX6_seen_33 (Nat.zero_le _) (Nat.zero_le _) ?_
    exact ⟨by rw [if_neg (fun q => bI_0.mp c_7 q.1)]; try rfl, by rw [if_neg (fun q => bI_0.mp c_7 q.1)]; try rfl, rfl⟩
  · refine v_iload_n (pc := 10) dX6_seen_10 rfl ?_
    refine v_iconst (pc := 11) (v := 0) (by decide) dX6_seen_11 ?_
    refine v_sipush (pc := 12) (v := 999) (by decide) dX6_seen_12 ?_
    refine v_cS3i (pc := 15) dX6_seen_15 mkX6_49 c_within (Nat.le_of_ble_eq_true rfl) rfl (Nat.zero_le _) (Nat.zero_le _) (fun r_15 M_15 J_15 h_15 => ?_)
    obtain ⟨e1_15, e2_15, e3_15⟩ := h_15
    replace e1_15 := e1_15.symm
    replace e2_15 := e2_15.symm
    replace e3_15 := e3_15.symm
    subst e1_15 e2_15 e3_15
    refine v_if_eq (pc := 18) (tgt := 31) dX6_seen_18 (by decide) (fun c_18 => ?_) (fun c_18 => ?_)
    · refine v_bipush (pc := 31) (v := (-2)) (by decide) dX6_seen_31 ?_
      refine v_iret (pc := 33) dX6_seen_33 (Nat.zero_le _) (Nat.zero_le _) ?_
      exact ⟨by rw [if_neg (fun q => bI_0.mp c_18 q.2.1)]; try rfl, by rw [if_neg (fun q => bI_0.mp c_18 q.2.1)]; try rfl, rfl⟩
    · refine v_iload_n (pc := 21) dX6_seen_21 rfl ?_
      refine v_iconst (pc := 22) (v := 0) (by decide) dX6_seen_22 ?_
      refine v_bipush (pc := 23) (v := 9) (by decide) dX6_seen_23 ?_
      refine v_cS3i (pc := 25) dX6_seen_25 mkX6_49 c_within (Nat.le_of_ble_eq_true rfl) rfl (Nat.zero_le _) (Nat.zero_le _) (fun r_25 M_25 J_25 h_25 => ?_)
      obtain ⟨e1_25, e2_25, e3_25⟩ := h_25
      replace e1_25 := e1_25.symm
      replace e2_25 := e2_25.symm
      replace e3_25 := e3_25.symm
      subst e1_25 e2_25 e3_25
      refine v_if_ne (pc := 28) (tgt := 34) dX6_seen_28 (by decide) (fun c_28 => ?_) (fun c_28 => ?_)
      · refine v_aload_n (pc := 34) dX6_seen_34 rfl ?_
        refine v_getR (pc := 35) fkX6_12 ly0 rfl dX6_seen_35 ?_
        refine v_getR (pc := 38) fkX6_180 ly1 rfl dX6_seen_38 ?_
        refine v_getI (pc := 41) fkX6_184 ly8 rfl dX6_seen_41 ?_
        refine v_bipush (pc := 44) (v := 8) (by decide) dX6_seen_44 ?_
        refine v_icmp_lt (pc := 46) (tgt := 52) dX6_seen_46 (by decide) (fun c_46 => ?_) (fun c_46 => ?_)
        · have hlt : c < 8 := by rw [hc] at c_46; exact (nI_ltI (b := 8) (by omega) (by omega)).mp c_46
          refine v_aload_n (pc := 52) dX6_seen_52 rfl ?_
          refine v_getR (pc := 53) fkX6_12 ly0 rfl dX6_seen_53 ?_
          refine v_getR (pc := 56) fkX6_180 ly1 rfl dX6_seen_56 ?_
          refine v_iload_n (pc := 59) dX6_seen_59 rfl ?_
          refine v_iload_n (pc := 60) dX6_seen_60 rfl ?_
          refine v_iload_n (pc := 61) dX6_seen_61 rfl ?_
          refine v_cV3v (pc := 62) dX6_seen_62 mkX6_187 (c_sgAdd hc hlt) ly8 rfl (Nat.le_of_ble_eq_true rfl) rfl (Nat.zero_le _) (Nat.zero_le _) (fun M_62 J_62 h_62 => ?_)
          obtain ⟨e2_62, e3_62⟩ := h_62
          replace e2_62 := e2_62.symm
          replace e3_62 := e3_62.symm
          subst e2_62 e3_62
          refine v_aload_n (pc := 65) dX6_seen_65 rfl ?_
          refine v_getR (pc := 66) fkX6_12 ly0 rfl dX6_seen_66 ?_
          refine v_getR (pc := 69) fkX6_180 ly1 rfl dX6_seen_69 ?_
          refine v_getI (pc := 72) fkX6_184 ly8 rfl dX6_seen_72 ?_
          refine v_iret (pc := 75) dX6_seen_75 (Nat.zero_le _) (Nat.zero_le _) ?_
          exact ⟨by rw [if_pos ⟨bI_n0.mp c_7, bI_n0.mp c_18, bI_n0.mp c_28⟩, if_pos hlt]; try rfl, by rw [if_pos ⟨bI_n0.mp c_7, bI_n0.mp c_18, bI_n0.mp c_28⟩, if_pos hlt]; try rfl, rfl⟩
        · have hlt : ¬ c < 8 := by rw [hc] at c_46; exact fun q => c_46 ((nI_ltI (b := 8) (by omega) (by omega)).mpr q)
          refine v_bipush (pc := 49) (v := (-4)) (by decide) dX6_seen_49 ?_
          refine v_iret (pc := 51) dX6_seen_51 (Nat.zero_le _) (Nat.zero_le _) ?_
          exact ⟨by rw [if_pos ⟨bI_n0.mp c_7, bI_n0.mp c_18, bI_n0.mp c_28⟩, if_neg hlt]; try rfl, by rw [if_pos ⟨bI_n0.mp c_7, bI_n0.mp c_18, bI_n0.mp c_28⟩, if_neg hlt]; try rfl, rfl⟩
      · refine v_bipush (pc := 31) (v := (-2)) (by decide) dX6_seen_31 ?_
        refine v_iret (pc := 33) dX6_seen_33 (Nat.zero_le _) (Nat.zero_le _) ?_
        exact ⟨by rw [if_neg (fun q => bI_0.mp c_28 q.2.2)]; try rfl, by rw [if_neg (fun q => bI_0.mp c_28 q.2.2)]; try rfl, rfl⟩

set_option maxRecDepth 100000 in
set_option maxHeartbeats 4000000 in
theorem c_forget  {M : mM} {J : mJ}  : Ct yX6_forget cX6_forget 2 (some .int) (rmD 0) false [.ref 0] LY M J (mNi LY (fun r0 M1 J1 => r0 = M 8 3 ∧ M1 = mU M 8 3 0 ∧ J1 = J)) := by
  refine ct_of (own := RX6) (ini := false) (ls := [some (.ref 0), none]) 1 (by decide +kernel) rfl (fun h => by cases h) rfl (fun ad => by first | exact Nat.le_of_ble_eq_true rfl) ?_
  refine v_aload_n (pc := 0) dX6_forget_0 rfl ?_
  refine v_getR (pc := 1) fkX6_12 ly0 rfl dX6_forget_1 ?_
  refine v_getR (pc := 4) fkX6_180 ly1 rfl dX6_forget_4 ?_
  refine v_getI (pc := 7) fkX6_184 ly8 rfl dX6_forget_7 ?_
  refine v_ist_1 (pc := 10) dX6_forget_10 (by decide) rfl ?_
  refine v_aload_n (pc := 11) dX6_forget_11 rfl ?_
  refine v_getR (pc := 12) fkX6_12 ly0 rfl dX6_forget_12 ?_
  refine v_getR (pc := 15) fkX6_180 ly1 rfl dX6_forget_15 ?_
  refine v_iconst (pc := 18) (v := 0) (by decide) dX6_forget_18 ?_
  refine v_putI (pc := 19) fkX6_184p ly8 rfl dX6_forget_19 ?_
  refine v_iload_n (pc := 22) dX6_forget_22 rfl ?_
  refine v_iret (pc := 23) dX6_forget_23 (Nat.zero_le _) (Nat.zero_le _) ?_
  exact ⟨rfl, rfl, rfl⟩

abbrev cbP (sz mn pc : Nat → Int32) (dp td pk : Int32) (j : Nat) : Prop := fUp dp (sz j) ≤ mn j ∧ rem10 (pk + fUp dp (sz j) * td) = pc j
def cbA (sz mn pc : Nat → Int32) (dp td pk : Int32) : Nat → Nat → Bool
  | 0, _ => true
  | n + 1, j => if cbP sz mn pc dp td pk j then cbA sz mn pc dp td pk n (j + 1) else false

set_option maxRecDepth 100000 in
set_option maxHeartbeats 4000000 in
theorem l_canBe {k c : Nat} {M : mM} {J : mJ} (hk : k < 7) (hc : M 8 3 = nI c) (hc8 : c ≤ 8) : ∀ (n j : Nat), n + j = c → V RX4 cX4_canBeOf 5 (some .boolean) false (rmD 2) false LY.length none (mNi LY (fun r0 M1 J1 => r0 = bI ((cbA (M 9) (M 10) (M 11) (M 2 5) (M 2 6) (M 3 k) n j) = true) ∧ M1 = M ∧ J1 = J)) 0 0 2 [some (.ref 8), some (.int (nI k)), some (.ref 2), some (.int (nI j)), none] [] LY M J := by
  intro n
  induction n with
  | zero =>
    intro j hj
    obtain rfl : j = c := by omega
    refine v_iload_n (pc := 2) dX4_canBeOf_2 rfl ?_
    refine v_aload_n (pc := 3) dX4_canBeOf_3 rfl ?_
    refine v_getI (pc := 4) fkX4_21 ly8 rfl dX4_canBeOf_4 ?_
    refine v_icmp_ge (pc := 7) (tgt := 75) dX4_canBeOf_7 (by decide) (fun c_7 => ?_) (fun c_7 => absurd (by rw [hc]; exact nI_le (Nat.le_refl _) (by omega)) c_7)
    refine v_iconst (pc := 75) (v := 1) (by decide) dX4_canBeOf_75 ?_
    refine v_zret (pc := 76) dX4_canBeOf_76 (Nat.zero_le _) (Nat.zero_le _) (by first | exact Or.inl rfl | exact Or.inr rfl | assumption) ?_
    exact ⟨by rw [cbA]; rfl, rfl, rfl⟩
  | succ n ih =>
    intro j hj
    have hcl := nI_clamp (show j < 2 ^ 31 by omega)
    refine v_iload_n (pc := 2) dX4_canBeOf_2 rfl ?_
    refine v_aload_n (pc := 3) dX4_canBeOf_3 rfl ?_
    refine v_getI (pc := 4) fkX4_21 ly8 rfl dX4_canBeOf_4 ?_
    refine v_icmp_ge (pc := 7) (tgt := 75) dX4_canBeOf_7 (by decide) (fun c_7 => absurd c_7 (by rw [hc]; exact nI_ge (show j < c by omega) (by omega))) (fun c_7 => ?_)
    refine v_iload_n (pc := 10) dX4_canBeOf_10 rfl ?_
    refine v_bipush (pc := 11) (v := 8) (by decide) dX4_canBeOf_11 ?_
    refine v_icmp_ge (pc := 13) (tgt := 75) dX4_canBeOf_13 (by decide) (fun c_13 => absurd c_13 (nI_ge (b := 8) (show j < 8 by omega) (by omega))) (fun c_13 => ?_)
    refine v_aload_n (pc := 16) dX4_canBeOf_16 rfl ?_
    refine v_getR (pc := 17) fkX4_15 ly8 rfl dX4_canBeOf_17 ?_
    refine v_iload_n (pc := 20) dX4_canBeOf_20 rfl ?_
    refine v_iald (pc := 21) ly10 ?_ dX4_canBeOf_21 ?_
    · exact vp_in_nI (show j < 8 by omega) (by omega)
    refine v_aload_n (pc := 22) dX4_canBeOf_22 rfl ?_
    refine v_aload_n (pc := 23) dX4_canBeOf_23 rfl ?_
    refine v_getR (pc := 24) fkX4_9 ly8 rfl dX4_canBeOf_24 ?_
    refine v_iload_n (pc := 27) dX4_canBeOf_27 rfl ?_
    refine v_iald (pc := 28) ly9 ?_ dX4_canBeOf_28 ?_
    · exact vp_in_nI (show j < 8 by omega) (by omega)
    refine v_cV1i (pc := 29) dX4_canBeOf_29 mkX4_29 (c_minutesUp ly2) ly2 rfl (Nat.le_of_ble_eq_true rfl) rfl (Nat.zero_le _) (Nat.zero_le _) (fun r_29 M_29 J_29 h_29 => ?_)
    obtain ⟨e1_29, e2_29, e3_29⟩ := h_29
    replace e1_29 := e1_29.symm
    replace e2_29 := e2_29.symm
    replace e3_29 := e3_29.symm
    subst e1_29 e2_29 e3_29
    refine v_icmp_lt (pc := 32) (tgt := 39) dX4_canBeOf_32 (by decide) (fun c_32 => ?_) (fun c_32 => ?_)
    · refine v_iconst (pc := 39) (v := 0) (by decide) dX4_canBeOf_39 ?_
      refine v_ist_4 (pc := 40) dX4_canBeOf_40 (by decide) rfl ?_
      refine v_iload (pc := 42) dX4_canBeOf_42 rfl ?_
      refine v_if_eq (pc := 44) (tgt := 67) dX4_canBeOf_44 (by decide) (fun c_44 => ?_) (fun c_44 => ?_)
      · refine v_iconst (pc := 67) (v := 0) (by decide) dX4_canBeOf_67 ?_
        refine v_zret (pc := 68) dX4_canBeOf_68 (Nat.zero_le _) (Nat.zero_le _) (by first | exact Or.inl rfl | exact Or.inr rfl | assumption) ?_
        rw [hcl] at c_32
        exact ⟨by rw [cbA, if_neg (fun q => absurd q.1 (Int32.not_le.mpr c_32))]; rfl, rfl, rfl⟩
      · refine v_aload_n (pc := 47) dX4_canBeOf_47 rfl ?_
        refine v_iload_n (pc := 48) dX4_canBeOf_48 rfl ?_
        refine v_aload_n (pc := 49) dX4_canBeOf_49 rfl ?_
        refine v_getR (pc := 50) fkX4_9 ly8 rfl dX4_canBeOf_50 ?_
        refine v_iload_n (pc := 53) dX4_canBeOf_53 rfl ?_
        refine v_iald (pc := 54) ly9 ?_ dX4_canBeOf_54 ?_
        · exact vp_in_nI (show j < 8 by omega) (by omega)
        refine v_cV2i (pc := 55) dX4_canBeOf_55 mkX4_35 (c_placeUp ly2 ly3) ly2 rfl (Nat.le_of_ble_eq_true rfl) rfl (Nat.zero_le _) (Nat.zero_le _) (fun r_55 M_55 J_55 h_55 => ?_)
        obtain ⟨e1_55, e2_55, e3_55⟩ := h_55
        replace e1_55 := e1_55.symm
        replace e2_55 := e2_55.symm
        replace e3_55 := e3_55.symm
        subst e1_55 e2_55 e3_55
        refine v_aload_n (pc := 58) dX4_canBeOf_58 rfl ?_
        refine v_getR (pc := 59) fkX4_18 ly8 rfl dX4_canBeOf_59 ?_
        refine v_iload_n (pc := 62) dX4_canBeOf_62 rfl ?_
        refine v_iald (pc := 63) ly11 ?_ dX4_canBeOf_63 ?_
        · exact vp_in_nI (show j < 8 by omega) (by omega)
        refine v_icmp_eq (pc := 64) (tgt := 69) dX4_canBeOf_64 (by decide) (fun c_64 => ?_) (fun c_64 => ?_)
        · refine v_inc_3 (pc := 69) (v := 1) dX4_canBeOf_69 (by decide) (by decide) rfl ?_
          refine v_goto (pc := 72) (tgt := 2) dX4_canBeOf_72 (by decide) ?_
          exact absurd rfl c_44
        · refine v_iconst (pc := 67) (v := 0) (by decide) dX4_canBeOf_67 ?_
          refine v_zret (pc := 68) dX4_canBeOf_68 (Nat.zero_le _) (Nat.zero_le _) (by first | exact Or.inl rfl | exact Or.inr rfl | assumption) ?_
          exact absurd rfl c_44
    · refine v_iconst (pc := 35) (v := 1) (by decide) dX4_canBeOf_35 ?_
      refine v_goto (pc := 36) (tgt := 40) dX4_canBeOf_36 (by decide) ?_
      refine v_ist_4 (pc := 40) dX4_canBeOf_40 (by decide) rfl ?_
      refine v_iload (pc := 42) dX4_canBeOf_42 rfl ?_
      refine v_if_eq (pc := 44) (tgt := 67) dX4_canBeOf_44 (by decide) (fun c_44 => ?_) (fun c_44 => ?_)
      · refine v_iconst (pc := 67) (v := 0) (by decide) dX4_canBeOf_67 ?_
        refine v_zret (pc := 68) dX4_canBeOf_68 (Nat.zero_le _) (Nat.zero_le _) (by first | exact Or.inl rfl | exact Or.inr rfl | assumption) ?_
        exact absurd c_44 (by decide)
      · refine v_aload_n (pc := 47) dX4_canBeOf_47 rfl ?_
        refine v_iload_n (pc := 48) dX4_canBeOf_48 rfl ?_
        refine v_aload_n (pc := 49) dX4_canBeOf_49 rfl ?_
        refine v_getR (pc := 50) fkX4_9 ly8 rfl dX4_canBeOf_50 ?_
        refine v_iload_n (pc := 53) dX4_canBeOf_53 rfl ?_
        refine v_iald (pc := 54) ly9 ?_ dX4_canBeOf_54 ?_
        · exact vp_in_nI (show j < 8 by omega) (by omega)
        refine v_cV2i (pc := 55) dX4_canBeOf_55 mkX4_35 (c_placeUp ly2 ly3) ly2 rfl (Nat.le_of_ble_eq_true rfl) rfl (Nat.zero_le _) (Nat.zero_le _) (fun r_55 M_55 J_55 h_55 => ?_)
        obtain ⟨e1_55, e2_55, e3_55⟩ := h_55
        replace e1_55 := e1_55.symm
        replace e2_55 := e2_55.symm
        replace e3_55 := e3_55.symm
        subst e1_55 e2_55 e3_55
        refine v_aload_n (pc := 58) dX4_canBeOf_58 rfl ?_
        refine v_getR (pc := 59) fkX4_18 ly8 rfl dX4_canBeOf_59 ?_
        refine v_iload_n (pc := 62) dX4_canBeOf_62 rfl ?_
        refine v_iald (pc := 63) ly11 ?_ dX4_canBeOf_63 ?_
        · exact vp_in_nI (show j < 8 by omega) (by omega)
        refine v_icmp_eq (pc := 64) (tgt := 69) dX4_canBeOf_64 (by decide) (fun c_64 => ?_) (fun c_64 => ?_)
        · refine v_inc_3 (pc := 69) (v := 1) dX4_canBeOf_69 (by decide) (by decide) rfl ?_
          refine v_goto (pc := 72) (tgt := 2) dX4_canBeOf_72 (by decide) ?_
          refine v_fg_4 ?_
          rw [nI_1]
          rw [hcl] at c_32 c_64
          rw [f7_in hk] at c_64
          refine V.mono (fun o a b d q => ?_) (ih (j + 1) (by omega))
          rw [cbA, if_pos ⟨Int32.not_lt.mp c_32, c_64⟩]
          exact q
        · refine v_iconst (pc := 67) (v := 0) (by decide) dX4_canBeOf_67 ?_
          refine v_zret (pc := 68) dX4_canBeOf_68 (Nat.zero_le _) (Nat.zero_le _) (by first | exact Or.inl rfl | exact Or.inr rfl | assumption) ?_
          rw [hcl] at c_32 c_64
          rw [f7_in hk] at c_64
          exact ⟨by rw [cbA, if_neg (fun q => c_64 q.2)]; rfl, rfl, rfl⟩

set_option maxRecDepth 100000 in
set_option maxHeartbeats 4000000 in
theorem c_canBe {k c : Nat} {M : mM} {J : mJ} (hk : k < 7) (hc : M 8 3 = nI c) (hc8 : c ≤ 8) : Ct yX4_canBeOf cX4_canBeOf 5 (some .boolean) (rmD 2) false [.ref 8, .int (nI k), .ref 2] LY M J (mNi LY (fun r0 M1 J1 => r0 = bI ((cbA (M 9) (M 10) (M 11) (M 2 5) (M 2 6) (M 3 k) c 0) = true) ∧ M1 = M ∧ J1 = J)) := by
  refine ct_of (own := RX4) (ini := false) (ls := [some (.ref 8), some (.int (nI k)), some (.ref 2), none, none]) 2 (by decide +kernel) rfl (fun h => by cases h) rfl (fun ad => by first | exact Nat.le_of_ble_eq_true rfl) ?_
  refine v_iconst (pc := 0) (v := 0) (by decide) dX4_canBeOf_0 ?_
  refine v_ist_3 (pc := 1) dX4_canBeOf_1 (by decide) rfl ?_
  exact l_canBe hk hc hc8 c 0 rfl

def whS (th : Int32) (sz mn pc : Nat → Int32) (dp td : Int32) (pl : Nat → Int32) (c : Nat) (i : Nat) (a : Int32) : Int32 := if bt th (nI i) ∧ cbA sz mn pc dp td (pl i) c 0 = true then a ||| bv (nI i) else a
def whoF (M : mM) (c : Nat) : Int32 := itN (whS (M 2 3) (M 9) (M 10) (M 11) (M 2 5) (M 2 6) (M 3) c) 0 7

set_option maxRecDepth 100000 in
set_option maxHeartbeats 4000000 in
theorem l_whose {c : Nat} {M : mM} {J : mJ} (hc : M 8 3 = nI c) (hc8 : c ≤ 8) : ∀ (n i : Nat), n + i = 7 → V RX6 cX6_whose 3 (some .int) false (rmD 3) false LY.length none (mNi LY (fun r0 M1 J1 => r0 = whoF M c ∧ M1 = M ∧ J1 = J)) 0 0 4 [some (.ref 0), some (.int (itN (whS (M 2 3) (M 9) (M 10) (M 11) (M 2 5) (M 2 6) (M 3) c) 0 i)), some (.int (nI i))] [] LY M J := by
  intro n
  induction n with
  | zero =>
    intro i hi
    obtain rfl : i = 7 := by omega
    refine v_iload_n (pc := 4) dX6_whose_4 rfl ?_
    refine v_bipush (pc := 5) (v := 7) (by decide) dX6_whose_5 ?_
    refine v_icmp_ge (pc := 7) (tgt := 57) dX6_whose_7 (by decide) (fun c_7 => ?_) (fun c_7 => absurd (by decide) c_7)
    refine v_iload_n (pc := 57) dX6_whose_57 rfl ?_
    refine v_iret (pc := 58) dX6_whose_58 (Nat.zero_le _) (Nat.zero_le _) ?_
    exact ⟨rfl, rfl, rfl⟩
  | succ n ih =>
    intro i hi
    have hb7 : i < 7 := by omega
    have hcl := nI_clamp (show i < 2 ^ 31 by omega)
    refine v_iload_n (pc := 4) dX6_whose_4 rfl ?_
    refine v_bipush (pc := 5) (v := 7) (by decide) dX6_whose_5 ?_
    refine v_icmp_ge (pc := 7) (tgt := 57) dX6_whose_7 (by decide) (fun c_7 => absurd c_7 (nI_ge (b := 7) hb7 (by omega))) (fun c_7 => ?_)
    refine v_aload_n (pc := 10) dX6_whose_10 rfl ?_
    refine v_getR (pc := 11) fkX6_12 ly0 rfl dX6_whose_11 ?_
    refine v_getR (pc := 14) fkX6_53 ly1 rfl dX6_whose_14 ?_
    refine v_iload_n (pc := 17) dX6_whose_17 rfl ?_
    refine v_cV1i (pc := 18) dX6_whose_18 mkX6_70 (c_isThere ly2) ly2 rfl (Nat.le_of_ble_eq_true rfl) rfl (Nat.zero_le _) (Nat.zero_le _) (fun r_18 M_18 J_18 h_18 => ?_)
    obtain ⟨e1_18, e2_18, e3_18⟩ := h_18
    replace e1_18 := e1_18.symm
    replace e2_18 := e2_18.symm
    replace e3_18 := e3_18.symm
    subst e1_18 e2_18 e3_18
    refine v_if_eq (pc := 21) (tgt := 51) dX6_whose_21 (by decide) (fun c_21 => ?_) (fun c_21 => ?_)
    · refine v_inc_2 (pc := 51) (v := 1) dX6_whose_51 (by decide) (by decide) rfl ?_
      refine v_goto (pc := 54) (tgt := 4) dX6_whose_54 (by decide) ?_
      rw [nI_1]
      have hs := sm7 hb7
      have e9 := ih (i + 1) (by omega)
      rw [itN_s _ _ i] at e9
      rw [show (whS (M 2 3) (M 9) (M 10) (M 11) (M 2 5) (M 2 6) (M 3) c) i (itN (whS (M 2 3) (M 9) (M 10) (M 11) (M 2 5) (M 2 6) (M 3) c) 0 i) = _ from if_neg (fun q => bI_0.mp c_21 ⟨hs.1, hs.2, q.1⟩)] at e9
      exact e9
    · refine v_aload_n (pc := 24) dX6_whose_24 rfl ?_
      refine v_getR (pc := 25) fkX6_12 ly0 rfl dX6_whose_25 ?_
      refine v_getR (pc := 28) fkX6_180 ly1 rfl dX6_whose_28 ?_
      refine v_iload_n (pc := 31) dX6_whose_31 rfl ?_
      refine v_aload_n (pc := 32) dX6_whose_32 rfl ?_
      refine v_getR (pc := 33) fkX6_12 ly0 rfl dX6_whose_33 ?_
      refine v_getR (pc := 36) fkX6_53 ly1 rfl dX6_whose_36 ?_
      refine v_cV2i (pc := 39) dX6_whose_39 mkX6_189 (c_canBe hb7 hc hc8) ly8 rfl (Nat.le_of_ble_eq_true rfl) rfl (Nat.zero_le _) (Nat.zero_le _) (fun r_39 M_39 J_39 h_39 => ?_)
      obtain ⟨e1_39, e2_39, e3_39⟩ := h_39
      replace e1_39 := e1_39.symm
      replace e2_39 := e2_39.symm
      replace e3_39 := e3_39.symm
      subst e1_39 e2_39 e3_39
      refine v_if_eq (pc := 42) (tgt := 51) dX6_whose_42 (by decide) (fun c_42 => ?_) (fun c_42 => ?_)
      · refine v_inc_2 (pc := 51) (v := 1) dX6_whose_51 (by decide) (by decide) rfl ?_
        refine v_goto (pc := 54) (tgt := 4) dX6_whose_54 (by decide) ?_
        rw [nI_1]
        have hs := sm7 hb7
        have e9 := ih (i + 1) (by omega)
        rw [itN_s _ _ i] at e9
        rw [show (whS (M 2 3) (M 9) (M 10) (M 11) (M 2 5) (M 2 6) (M 3) c) i (itN (whS (M 2 3) (M 9) (M 10) (M 11) (M 2 5) (M 2 6) (M 3) c) 0 i) = _ from if_neg (fun q => bI_0.mp c_42 q.2)] at e9
        exact e9
      · refine v_iload_n (pc := 45) dX6_whose_45 rfl ?_
        refine v_iconst (pc := 46) (v := 1) (by decide) dX6_whose_46 ?_
        refine v_iload_n (pc := 47) dX6_whose_47 rfl ?_
        refine v_ishl (pc := 48) dX6_whose_48 ?_
        refine v_ior (pc := 49) dX6_whose_49 ?_
        refine v_ist_1 (pc := 50) dX6_whose_50 (by decide) rfl ?_
        refine v_inc_2 (pc := 51) (v := 1) dX6_whose_51 (by decide) (by decide) rfl ?_
        refine v_goto (pc := 54) (tgt := 4) dX6_whose_54 (by decide) ?_
        rw [nI_1]
        have hs := sm7 hb7
        have e9 := ih (i + 1) (by omega)
        rw [itN_s _ _ i] at e9
        rw [show (whS (M 2 3) (M 9) (M 10) (M 11) (M 2 5) (M 2 6) (M 3) c) i (itN (whS (M 2 3) (M 9) (M 10) (M 11) (M 2 5) (M 2 6) (M 3) c) 0 i) = _ from if_pos ⟨(bI_n0.mp c_21).2.2, bI_n0.mp c_42⟩] at e9
        exact e9

set_option maxRecDepth 100000 in
set_option maxHeartbeats 4000000 in
theorem c_whose {c : Nat} {M : mM} {J : mJ} (hc : M 8 3 = nI c) (hc8 : c ≤ 8) : Ct yX6_whose cX6_whose 3 (some .int) (rmD 3) false [.ref 0] LY M J (mNi LY (fun r0 M1 J1 => r0 = whoF M c ∧ M1 = M ∧ J1 = J)) := by
  refine ct_of (own := RX6) (ini := false) (ls := [some (.ref 0), none, none]) 2 (by decide +kernel) rfl (fun h => by cases h) rfl (fun ad => by first | exact Nat.le_of_ble_eq_true rfl) ?_
  refine v_iconst (pc := 0) (v := 0) (by decide) dX6_whose_0 ?_
  refine v_ist_1 (pc := 1) dX6_whose_1 (by decide) rfl ?_
  refine v_iconst (pc := 2) (v := 0) (by decide) dX6_whose_2 ?_
  refine v_ist_2 (pc := 3) dX6_whose_3 (by decide) rfl ?_
  exact l_whose hc hc8 7 0 rfl

def aIn (C : Nat → Nat → Bool) (x : Int32) (p : Nat) : Nat → Nat → Int32 → Int32 ⊕ Int32
  | 0, _, c => .inr c
  | n + 1, q, c => if C p q = true then (if c = x then .inl (10 * nI p + nI q) else aIn C x p n (q + 1) (c + 1)) else aIn C x p n (q + 1) c
def aOut (C : Nat → Nat → Bool) (x : Int32) : Nat → Nat → Int32 → Int32
  | 0, _, c => if x = -1 then c else -6
  | n + 1, p, c => match aIn C x p (6 - p) (p + 1) c with
    | .inl r => r
    | .inr d => aOut C x n (p + 1) d
def alC (w : Int32) (pl : Nat → Int32) (p q : Nat) : Bool := decide ((bv (nI p) ||| bv (nI q)) &&& (w ^^^ (-1)) = 0 ∧ pl p = pl q)

set_option maxRecDepth 100000 in
set_option maxHeartbeats 4000000 in
theorem l_alikeI {x u : Int32} {p m : Nat} (hp : p < 7) {M : mM} {J : mJ} (ho : ∀ d : Int32, V RX6 cX6_alike 7 (some .int) false (rmD 4) false LY.length none (mNi LY (fun r0 M1 J1 => r0 = aOut (alC u (M 3)) x m (p + 1) d ∧ M1 = M ∧ J1 = J)) 0 0 10 [some (.ref 0), some (.int x), some (.int u), some (.int d), some (.int (nI (p + 1))), none, none] [] LY M J) : ∀ (n z : Nat) (d : Int32), n + z = 7 → V RX6 cX6_alike 7 (some .int) false (rmD 4) false LY.length none (mNi LY (fun r0 M1 J1 => r0 = (match aIn (alC u (M 3)) x p n z d with | .inl r => r | .inr d => aOut (alC u (M 3)) x m (p + 1) d) ∧ M1 = M ∧ J1 = J)) 0 0 23 [some (.ref 0), some (.int x), some (.int u), some (.int d), some (.int (nI p)), some (.int (nI z)), none] [] LY M J := by
  intro n
  induction n with
  | zero =>
    intro z d hz
    obtain rfl : z = 7 := by omega
    refine v_iload (pc := 23) dX6_alike_23 rfl ?_
    refine v_bipush (pc := 25) (v := 7) (by decide) dX6_alike_25 ?_
    refine v_icmp_ge (pc := 27) (tgt := 103) dX6_alike_27 (by decide) (fun c_27 => ?_) (fun c_27 => absurd (by decide) c_27)
    refine v_inc_4 (pc := 103) (v := 1) dX6_alike_103 (by decide) (by decide) rfl ?_
    refine v_goto (pc := 106) (tgt := 10) dX6_alike_106 (by decide) ?_
    refine v_fg_5 ?_
    rw [nI_1]
    exact ho d
  | succ n ih =>
    intro z d hz
    refine v_iload (pc := 23) dX6_alike_23 rfl ?_
    refine v_bipush (pc := 25) (v := 7) (by decide) dX6_alike_25 ?_
    refine v_icmp_ge (pc := 27) (tgt := 103) dX6_alike_27 (by decide) (fun c_27 => absurd c_27 (nI_ge (b := 7) (show z < 7 by omega) (by omega))) (fun c_27 => ?_)
    refine v_iconst (pc := 30) (v := 1) (by decide) dX6_alike_30 ?_
    refine v_iload (pc := 31) dX6_alike_31 rfl ?_
    refine v_ishl (pc := 33) dX6_alike_33 ?_
    refine v_iconst (pc := 34) (v := 1) (by decide) dX6_alike_34 ?_
    refine v_iload (pc := 35) dX6_alike_35 rfl ?_
    refine v_ishl (pc := 37) dX6_alike_37 ?_
    refine v_ior (pc := 38) dX6_alike_38 ?_
    refine v_ist_6 (pc := 39) dX6_alike_39 (by decide) rfl ?_
    refine v_iload (pc := 41) dX6_alike_41 rfl ?_
    refine v_iload_n (pc := 43) dX6_alike_43 rfl ?_
    refine v_iconst (pc := 44) (v := (-1)) (by decide) dX6_alike_44 ?_
    refine v_ixor (pc := 45) dX6_alike_45 ?_
    refine v_iand (pc := 46) dX6_alike_46 ?_
    refine v_if_ne (pc := 47) (tgt := 97) dX6_alike_47 (by decide) (fun c_47 => ?_) (fun c_47 => ?_)
    · refine v_inc_5 (pc := 97) (v := 1) dX6_alike_97 (by decide) (by decide) rfl ?_
      refine v_goto (pc := 100) (tgt := 23) dX6_alike_100 (by decide) ?_
      refine v_fg_6 ?_
      rw [nI_1]
      have hC : ¬ alC u (M 3) p z = true := fun h => c_47 (of_decide_eq_true h).1
      refine V.mono (fun o a b e q => ?_) (ih (z + 1) d (by omega))
      rw [aIn, if_neg hC]
      exact q
    · refine v_aload_n (pc := 50) dX6_alike_50 rfl ?_
      refine v_getR (pc := 51) fkX6_12 ly0 rfl dX6_alike_51 ?_
      refine v_getR (pc := 54) fkX6_53 ly1 rfl dX6_alike_54 ?_
      refine v_iload (pc := 57) dX6_alike_57 rfl ?_
      refine v_cV1i (pc := 59) dX6_alike_59 mkX6_196 (c_placeOf ly2 ly3) ly2 rfl (Nat.le_of_ble_eq_true rfl) rfl (Nat.zero_le _) (Nat.zero_le _) (fun r_59 M_59 J_59 h_59 => ?_)
      obtain ⟨e1_59, e2_59, e3_59⟩ := h_59
      replace e1_59 := e1_59.symm
      replace e2_59 := e2_59.symm
      replace e3_59 := e3_59.symm
      subst e1_59 e2_59 e3_59
      refine v_aload_n (pc := 62) dX6_alike_62 rfl ?_
      refine v_getR (pc := 63) fkX6_12 ly0 rfl dX6_alike_63 ?_
      refine v_getR (pc := 66) fkX6_53 ly1 rfl dX6_alike_66 ?_
      refine v_iload (pc := 69) dX6_alike_69 rfl ?_
      refine v_cV1i (pc := 71) dX6_alike_71 mkX6_196 (c_placeOf ly2 ly3) ly2 rfl (Nat.le_of_ble_eq_true rfl) rfl (Nat.zero_le _) (Nat.zero_le _) (fun r_71 M_71 J_71 h_71 => ?_)
      obtain ⟨e1_71, e2_71, e3_71⟩ := h_71
      replace e1_71 := e1_71.symm
      replace e2_71 := e2_71.symm
      replace e3_71 := e3_71.symm
      subst e1_71 e2_71 e3_71
      refine v_icmp_eq (pc := 74) (tgt := 80) dX6_alike_74 (by decide) (fun c_74 => ?_) (fun c_74 => ?_)
      · refine v_iload_n (pc := 80) dX6_alike_80 rfl ?_
        refine v_iload_n (pc := 81) dX6_alike_81 rfl ?_
        refine v_icmp_ne (pc := 82) (tgt := 94) dX6_alike_82 (by decide) (fun c_82 => ?_) (fun c_82 => ?_)
        · refine v_inc_3 (pc := 94) (v := 1) dX6_alike_94 (by decide) (by decide) rfl ?_
          refine v_inc_5 (pc := 97) (v := 1) dX6_alike_97 (by decide) (by decide) rfl ?_
          refine v_goto (pc := 100) (tgt := 23) dX6_alike_100 (by decide) ?_
          refine v_fg_6 ?_
          rw [nI_1]
          rw [f7_in (by omega), f7_in (by omega)] at c_74
          have hC : alC u (M 3) p z = true := decide_eq_true ⟨c_47, c_74⟩
          refine V.mono (fun o a b e q => ?_) (ih (z + 1) (d + 1) (by omega))
          rw [aIn, if_pos hC, if_neg c_82]
          exact q
        · refine v_bipush (pc := 85) (v := 10) (by decide) dX6_alike_85 ?_
          refine v_iload (pc := 87) dX6_alike_87 rfl ?_
          refine v_imul (pc := 89) dX6_alike_89 ?_
          refine v_iload (pc := 90) dX6_alike_90 rfl ?_
          refine v_iadd (pc := 92) dX6_alike_92 ?_
          refine v_iret (pc := 93) dX6_alike_93 (Nat.zero_le _) (Nat.zero_le _) ?_
          rw [f7_in (by omega), f7_in (by omega)] at c_74
          have hC : alC u (M 3) p z = true := decide_eq_true ⟨c_47, c_74⟩
          exact ⟨by rw [aIn, if_pos hC, if_pos c_82], rfl, rfl⟩
      · refine v_goto (pc := 77) (tgt := 97) dX6_alike_77 (by decide) ?_
        refine v_inc_5 (pc := 97) (v := 1) dX6_alike_97 (by decide) (by decide) rfl ?_
        refine v_goto (pc := 100) (tgt := 23) dX6_alike_100 (by decide) ?_
        refine v_fg_6 ?_
        rw [nI_1]
        rw [f7_in (by omega), f7_in (by omega)] at c_74
        have hC : ¬ alC u (M 3) p z = true := fun h => c_74 (of_decide_eq_true h).2
        refine V.mono (fun o a b e q => ?_) (ih (z + 1) d (by omega))
        rw [aIn, if_neg hC]
        exact q

set_option maxRecDepth 100000 in
set_option maxHeartbeats 4000000 in
theorem l_alikeO {x u : Int32} {M : mM} {J : mJ} : ∀ (m p : Nat) (d : Int32), m + p = 7 → V RX6 cX6_alike 7 (some .int) false (rmD 4) false LY.length none (mNi LY (fun r0 M1 J1 => r0 = aOut (alC u (M 3)) x m p d ∧ M1 = M ∧ J1 = J)) 0 0 10 [some (.ref 0), some (.int x), some (.int u), some (.int d), some (.int (nI p)), none, none] [] LY M J := by
  intro m
  induction m with
  | zero =>
    intro p d hz
    obtain rfl : p = 7 := by omega
    refine v_iload (pc := 10) dX6_alike_10 rfl ?_
    refine v_bipush (pc := 12) (v := 7) (by decide) dX6_alike_12 ?_
    refine v_icmp_ge (pc := 14) (tgt := 109) dX6_alike_14 (by decide) (fun c_14 => ?_) (fun c_14 => absurd (by decide) c_14)
    refine v_iload_n (pc := 109) dX6_alike_109 rfl ?_
    refine v_iconst (pc := 110) (v := (-1)) (by decide) dX6_alike_110 ?_
    refine v_icmp_ne (pc := 111) (tgt := 118) dX6_alike_111 (by decide) (fun c_111 => ?_) (fun c_111 => ?_)
    · refine v_bipush (pc := 118) (v := (-6)) (by decide) dX6_alike_118 ?_
      refine v_iret (pc := 120) dX6_alike_120 (Nat.zero_le _) (Nat.zero_le _) ?_
      first | exact ⟨by rw [aOut, if_pos c_111], rfl, rfl⟩ | exact ⟨by rw [aOut, if_neg c_111], rfl, rfl⟩
    · refine v_iload_n (pc := 114) dX6_alike_114 rfl ?_
      refine v_goto (pc := 115) (tgt := 120) dX6_alike_115 (by decide) ?_
      refine v_iret (pc := 120) dX6_alike_120 (Nat.zero_le _) (Nat.zero_le _) ?_
      first | exact ⟨by rw [aOut, if_pos c_111], rfl, rfl⟩ | exact ⟨by rw [aOut, if_neg c_111], rfl, rfl⟩
  | succ m ih =>
    intro p d hz
    refine v_iload (pc := 10) dX6_alike_10 rfl ?_
    refine v_bipush (pc := 12) (v := 7) (by decide) dX6_alike_12 ?_
    refine v_icmp_ge (pc := 14) (tgt := 109) dX6_alike_14 (by decide) (fun c_14 => absurd c_14 (nI_ge (b := 7) (show p < 7 by omega) (by omega))) (fun c_14 => ?_)
    refine v_iload (pc := 17) dX6_alike_17 rfl ?_
    refine v_iconst (pc := 19) (v := 1) (by decide) dX6_alike_19 ?_
    refine v_iadd (pc := 20) dX6_alike_20 ?_
    refine v_ist_5 (pc := 21) dX6_alike_21 (by decide) rfl ?_
    rw [nI_1]
    exact l_alikeI (by omega) (fun d => ih (p + 1) d (by omega)) (6 - p) (p + 1) d (by omega)

set_option maxRecDepth 100000 in
set_option maxHeartbeats 4000000 in
theorem c_alike {x : Int32} {c : Nat} {M : mM} {J : mJ} (hc : M 8 3 = nI c) (hc8 : c ≤ 8) : Ct yX6_alike cX6_alike 7 (some .int) (rmD 4) false [.ref 0, .int x] LY M J (mNi LY (fun r0 M1 J1 => r0 = aOut (alC (whoF M c) (M 3)) x 7 0 0 ∧ M1 = M ∧ J1 = J)) := by
  refine ct_of (own := RX6) (ini := false) (ls := [some (.ref 0), some (.int x), none, none, none, none, none]) 5 (by decide +kernel) rfl (fun h => by cases h) rfl (fun ad => by first | exact Nat.le_of_ble_eq_true rfl) ?_
  refine v_aload_n (pc := 0) dX6_alike_0 rfl ?_
  refine v_cV0i (pc := 1) dX6_alike_1 mkX6_193 (c_whose hc hc8) ly0 rfl (Nat.le_of_ble_eq_true rfl) rfl (Nat.zero_le _) (Nat.zero_le _) (fun r_1 M_1 J_1 h_1 => ?_)
  obtain ⟨e1_1, e2_1, e3_1⟩ := h_1
  replace e1_1 := e1_1.symm
  replace e2_1 := e2_1.symm
  replace e3_1 := e3_1.symm
  subst e1_1 e2_1 e3_1
  refine v_ist_2 (pc := 4) dX6_alike_4 (by decide) rfl ?_
  refine v_iconst (pc := 5) (v := 0) (by decide) dX6_alike_5 ?_
  refine v_ist_3 (pc := 6) dX6_alike_6 (by decide) rfl ?_
  refine v_iconst (pc := 7) (v := 0) (by decide) dX6_alike_7 ?_
  refine v_ist_4 (pc := 8) dX6_alike_8 (by decide) rfl ?_
  exact l_alikeO 7 0 0 rfl

def tOne (M : mM) (x : Int32) : Int32 := if (10 ≤ x ∧ x ≤ 16) ∧ gT M (x - 10) then f7 (M 3) (x - 10) else if (20 ≤ x ∧ x ≤ 26) ∧ gT M (x - 20) then f7 (M 4) (x - 20) else if 30 ≤ x ∧ x ≤ 35 then M 12 (x - 30).toNatClampNeg else -2
theorem vin30 {x : Int32} (h : 30 ≤ x ∧ x ≤ 35) : vp_in (x - 30) 6 := by
  obtain ⟨k, hk, rfl⟩ := rngN (a := 30) (n := 5) rfl rfl (by omega) h.1 h.2
  rw [show nI (30 + k) - 30 = nI (30 + k) - nI 30 from rfl, pk_sub (by omega)]
  exact vp_in_nI (by omega) (by omega)

set_option maxRecDepth 100000 in
set_option maxHeartbeats 4000000 in
theorem c_toldOne {x : Int32} {M : mM} {J : mJ}  : Ct yX6_toldOfOne cX6_toldOfOne 2 (some .int) (rmD 1) false [.ref 0, .int x] LY M J (mNi LY (fun r0 M1 J1 => r0 = tOne M x ∧ M1 = M ∧ J1 = J)) := by
  refine ct_of (own := RX6) (ini := false) (ls := [some (.ref 0), some (.int x)]) 0 (by decide +kernel) rfl (fun h => by cases h) rfl (fun ad => by first | exact Nat.le_of_ble_eq_true rfl) ?_
  refine v_iload_n (pc := 0) dX6_toldOfOne_0 rfl ?_
  refine v_bipush (pc := 1) (v := 10) (by decide) dX6_toldOfOne_1 ?_
  refine v_bipush (pc := 3) (v := 16) (by decide) dX6_toldOfOne_3 ?_
  refine v_cS3i (pc := 5) dX6_toldOfOne_5 mkX6_49 c_within (Nat.le_of_ble_eq_true rfl) rfl (Nat.zero_le _) (Nat.zero_le _) (fun r_5 M_5 J_5 h_5 => ?_)
  obtain ⟨e1_5, e2_5, e3_5⟩ := h_5
  replace e1_5 := e1_5.symm
  replace e2_5 := e2_5.symm
  replace e3_5 := e3_5.symm
  subst e1_5 e2_5 e3_5
  refine v_if_eq (pc := 8) (tgt := 43) dX6_toldOfOne_8 (by decide) (fun c_8 => ?_) (fun c_8 => ?_)
  · refine v_iload_n (pc := 43) dX6_toldOfOne_43 rfl ?_
    refine v_bipush (pc := 44) (v := 20) (by decide) dX6_toldOfOne_44 ?_
    refine v_bipush (pc := 46) (v := 26) (by decide) dX6_toldOfOne_46 ?_
    refine v_cS3i (pc := 48) dX6_toldOfOne_48 mkX6_49 c_within (Nat.le_of_ble_eq_true rfl) rfl (Nat.zero_le _) (Nat.zero_le _) (fun r_48 M_48 J_48 h_48 => ?_)
    obtain ⟨e1_48, e2_48, e3_48⟩ := h_48
    replace e1_48 := e1_48.symm
    replace e2_48 := e2_48.symm
    replace e3_48 := e3_48.symm
    subst e1_48 e2_48 e3_48
    refine v_if_eq (pc := 51) (tgt := 86) dX6_toldOfOne_51 (by decide) (fun c_51 => ?_) (fun c_51 => ?_)
    · refine v_iload_n (pc := 86) dX6_toldOfOne_86 rfl ?_
      refine v_bipush (pc := 87) (v := 30) (by decide) dX6_toldOfOne_87 ?_
      refine v_bipush (pc := 89) (v := 35) (by decide) dX6_toldOfOne_89 ?_
      refine v_cS3i (pc := 91) dX6_toldOfOne_91 mkX6_49 c_within (Nat.le_of_ble_eq_true rfl) rfl (Nat.zero_le _) (Nat.zero_le _) (fun r_91 M_91 J_91 h_91 => ?_)
      obtain ⟨e1_91, e2_91, e3_91⟩ := h_91
      replace e1_91 := e1_91.symm
      replace e2_91 := e2_91.symm
      replace e3_91 := e3_91.symm
      subst e1_91 e2_91 e3_91
      refine v_if_eq (pc := 94) (tgt := 110) dX6_toldOfOne_94 (by decide) (fun c_94 => ?_) (fun c_94 => ?_)
      · refine v_bipush (pc := 110) (v := (-2)) (by decide) dX6_toldOfOne_110 ?_
        refine v_iret (pc := 112) dX6_toldOfOne_112 (Nat.zero_le _) (Nat.zero_le _) ?_
        exact ⟨by unfold tOne; rw [if_neg (fun q => bI_0.mp c_8 q.1), if_neg (fun q => bI_0.mp c_51 q.1), if_neg (bI_0.mp c_94)], rfl, rfl⟩
      · refine v_aload_n (pc := 97) dX6_toldOfOne_97 rfl ?_
        refine v_getR (pc := 98) fkX6_12 ly0 rfl dX6_toldOfOne_98 ?_
        refine v_getR (pc := 101) fkX6_174 ly1 rfl dX6_toldOfOne_101 ?_
        refine v_iload_n (pc := 104) dX6_toldOfOne_104 rfl ?_
        refine v_bipush (pc := 105) (v := 30) (by decide) dX6_toldOfOne_105 ?_
        refine v_isub (pc := 107) dX6_toldOfOne_107 ?_
        refine v_iald (pc := 108) ly12 ?_ dX6_toldOfOne_108 ?_
        · exact vin30 (bI_n0.mp c_94)
        refine v_iret (pc := 109) dX6_toldOfOne_109 (Nat.zero_le _) (Nat.zero_le _) ?_
        exact ⟨by unfold tOne; rw [if_neg (fun q => bI_0.mp c_8 q.1), if_neg (fun q => bI_0.mp c_51 q.1), if_pos (bI_n0.mp c_94)], rfl, rfl⟩
    · refine v_aload_n (pc := 54) dX6_toldOfOne_54 rfl ?_
      refine v_getR (pc := 55) fkX6_12 ly0 rfl dX6_toldOfOne_55 ?_
      refine v_getR (pc := 58) fkX6_53 ly1 rfl dX6_toldOfOne_58 ?_
      refine v_iload_n (pc := 61) dX6_toldOfOne_61 rfl ?_
      refine v_bipush (pc := 62) (v := 20) (by decide) dX6_toldOfOne_62 ?_
      refine v_isub (pc := 64) dX6_toldOfOne_64 ?_
      refine v_cV1i (pc := 65) dX6_toldOfOne_65 mkX6_70 (c_isThere ly2) ly2 rfl (Nat.le_of_ble_eq_true rfl) rfl (Nat.zero_le _) (Nat.zero_le _) (fun r_65 M_65 J_65 h_65 => ?_)
      obtain ⟨e1_65, e2_65, e3_65⟩ := h_65
      replace e1_65 := e1_65.symm
      replace e2_65 := e2_65.symm
      replace e3_65 := e3_65.symm
      subst e1_65 e2_65 e3_65
      refine v_if_eq (pc := 68) (tgt := 86) dX6_toldOfOne_68 (by decide) (fun c_68 => ?_) (fun c_68 => ?_)
      · refine v_iload_n (pc := 86) dX6_toldOfOne_86 rfl ?_
        refine v_bipush (pc := 87) (v := 30) (by decide) dX6_toldOfOne_87 ?_
        refine v_bipush (pc := 89) (v := 35) (by decide) dX6_toldOfOne_89 ?_
        refine v_cS3i (pc := 91) dX6_toldOfOne_91 mkX6_49 c_within (Nat.le_of_ble_eq_true rfl) rfl (Nat.zero_le _) (Nat.zero_le _) (fun r_91 M_91 J_91 h_91 => ?_)
        obtain ⟨e1_91, e2_91, e3_91⟩ := h_91
        replace e1_91 := e1_91.symm
        replace e2_91 := e2_91.symm
        replace e3_91 := e3_91.symm
        subst e1_91 e2_91 e3_91
        refine v_if_eq (pc := 94) (tgt := 110) dX6_toldOfOne_94 (by decide) (fun c_94 => ?_) (fun c_94 => ?_)
        · refine v_bipush (pc := 110) (v := (-2)) (by decide) dX6_toldOfOne_110 ?_
          refine v_iret (pc := 112) dX6_toldOfOne_112 (Nat.zero_le _) (Nat.zero_le _) ?_
          exact ⟨by unfold tOne; rw [if_neg (fun q => bI_0.mp c_8 q.1), if_neg (fun q => bI_0.mp c_68 q.2), if_neg (bI_0.mp c_94)], rfl, rfl⟩
        · refine v_aload_n (pc := 97) dX6_toldOfOne_97 rfl ?_
          refine v_getR (pc := 98) fkX6_12 ly0 rfl dX6_toldOfOne_98 ?_
          refine v_getR (pc := 101) fkX6_174 ly1 rfl dX6_toldOfOne_101 ?_
          refine v_iload_n (pc := 104) dX6_toldOfOne_104 rfl ?_
          refine v_bipush (pc := 105) (v := 30) (by decide) dX6_toldOfOne_105 ?_
          refine v_isub (pc := 107) dX6_toldOfOne_107 ?_
          refine v_iald (pc := 108) ly12 ?_ dX6_toldOfOne_108 ?_
          · exact vin30 (bI_n0.mp c_94)
          refine v_iret (pc := 109) dX6_toldOfOne_109 (Nat.zero_le _) (Nat.zero_le _) ?_
          exact ⟨by unfold tOne; rw [if_neg (fun q => bI_0.mp c_8 q.1), if_neg (fun q => bI_0.mp c_68 q.2), if_pos (bI_n0.mp c_94)], rfl, rfl⟩
      · refine v_aload_n (pc := 71) dX6_toldOfOne_71 rfl ?_
        refine v_getR (pc := 72) fkX6_12 ly0 rfl dX6_toldOfOne_72 ?_
        refine v_getR (pc := 75) fkX6_53 ly1 rfl dX6_toldOfOne_75 ?_
        refine v_iload_n (pc := 78) dX6_toldOfOne_78 rfl ?_
        refine v_bipush (pc := 79) (v := 20) (by decide) dX6_toldOfOne_79 ?_
        refine v_isub (pc := 81) dX6_toldOfOne_81 ?_
        refine v_cV1i (pc := 82) dX6_toldOfOne_82 mkX6_126 (c_breathOf ly2 ly4) ly2 rfl (Nat.le_of_ble_eq_true rfl) rfl (Nat.zero_le _) (Nat.zero_le _) (fun r_82 M_82 J_82 h_82 => ?_)
        obtain ⟨e1_82, e2_82, e3_82⟩ := h_82
        replace e1_82 := e1_82.symm
        replace e2_82 := e2_82.symm
        replace e3_82 := e3_82.symm
        subst e1_82 e2_82 e3_82
        refine v_iret (pc := 85) dX6_toldOfOne_85 (Nat.zero_le _) (Nat.zero_le _) ?_
        exact ⟨by unfold tOne; rw [if_neg (fun q => bI_0.mp c_8 q.1), if_pos ⟨bI_n0.mp c_51, bI_n0.mp c_68⟩], rfl, rfl⟩
  · refine v_aload_n (pc := 11) dX6_toldOfOne_11 rfl ?_
    refine v_getR (pc := 12) fkX6_12 ly0 rfl dX6_toldOfOne_12 ?_
    refine v_getR (pc := 15) fkX6_53 ly1 rfl dX6_toldOfOne_15 ?_
    refine v_iload_n (pc := 18) dX6_toldOfOne_18 rfl ?_
    refine v_bipush (pc := 19) (v := 10) (by decide) dX6_toldOfOne_19 ?_
    refine v_isub (pc := 21) dX6_toldOfOne_21 ?_
    refine v_cV1i (pc := 22) dX6_toldOfOne_22 mkX6_70 (c_isThere ly2) ly2 rfl (Nat.le_of_ble_eq_true rfl) rfl (Nat.zero_le _) (Nat.zero_le _) (fun r_22 M_22 J_22 h_22 => ?_)
    obtain ⟨e1_22, e2_22, e3_22⟩ := h_22
    replace e1_22 := e1_22.symm
    replace e2_22 := e2_22.symm
    replace e3_22 := e3_22.symm
    subst e1_22 e2_22 e3_22
    refine v_if_eq (pc := 25) (tgt := 43) dX6_toldOfOne_25 (by decide) (fun c_25 => ?_) (fun c_25 => ?_)
    · refine v_iload_n (pc := 43) dX6_toldOfOne_43 rfl ?_
      refine v_bipush (pc := 44) (v := 20) (by decide) dX6_toldOfOne_44 ?_
      refine v_bipush (pc := 46) (v := 26) (by decide) dX6_toldOfOne_46 ?_
      refine v_cS3i (pc := 48) dX6_toldOfOne_48 mkX6_49 c_within (Nat.le_of_ble_eq_true rfl) rfl (Nat.zero_le _) (Nat.zero_le _) (fun r_48 M_48 J_48 h_48 => ?_)
      obtain ⟨e1_48, e2_48, e3_48⟩ := h_48
      replace e1_48 := e1_48.symm
      replace e2_48 := e2_48.symm
      replace e3_48 := e3_48.symm
      subst e1_48 e2_48 e3_48
      refine v_if_eq (pc := 51) (tgt := 86) dX6_toldOfOne_51 (by decide) (fun c_51 => ?_) (fun c_51 => ?_)
      · refine v_iload_n (pc := 86) dX6_toldOfOne_86 rfl ?_
        refine v_bipush (pc := 87) (v := 30) (by decide) dX6_toldOfOne_87 ?_
        refine v_bipush (pc := 89) (v := 35) (by decide) dX6_toldOfOne_89 ?_
        refine v_cS3i (pc := 91) dX6_toldOfOne_91 mkX6_49 c_within (Nat.le_of_ble_eq_true rfl) rfl (Nat.zero_le _) (Nat.zero_le _) (fun r_91 M_91 J_91 h_91 => ?_)
        obtain ⟨e1_91, e2_91, e3_91⟩ := h_91
        replace e1_91 := e1_91.symm
        replace e2_91 := e2_91.symm
        replace e3_91 := e3_91.symm
        subst e1_91 e2_91 e3_91
        refine v_if_eq (pc := 94) (tgt := 110) dX6_toldOfOne_94 (by decide) (fun c_94 => ?_) (fun c_94 => ?_)
        · refine v_bipush (pc := 110) (v := (-2)) (by decide) dX6_toldOfOne_110 ?_
          refine v_iret (pc := 112) dX6_toldOfOne_112 (Nat.zero_le _) (Nat.zero_le _) ?_
          exact ⟨by unfold tOne; rw [if_neg (fun q => bI_0.mp c_25 q.2), if_neg (fun q => bI_0.mp c_51 q.1), if_neg (bI_0.mp c_94)], rfl, rfl⟩
        · refine v_aload_n (pc := 97) dX6_toldOfOne_97 rfl ?_
          refine v_getR (pc := 98) fkX6_12 ly0 rfl dX6_toldOfOne_98 ?_
          refine v_getR (pc := 101) fkX6_174 ly1 rfl dX6_toldOfOne_101 ?_
          refine v_iload_n (pc := 104) dX6_toldOfOne_104 rfl ?_
          refine v_bipush (pc := 105) (v := 30) (by decide) dX6_toldOfOne_105 ?_
          refine v_isub (pc := 107) dX6_toldOfOne_107 ?_
          refine v_iald (pc := 108) ly12 ?_ dX6_toldOfOne_108 ?_
          · exact vin30 (bI_n0.mp c_94)
          refine v_iret (pc := 109) dX6_toldOfOne_109 (Nat.zero_le _) (Nat.zero_le _) ?_
          exact ⟨by unfold tOne; rw [if_neg (fun q => bI_0.mp c_25 q.2), if_neg (fun q => bI_0.mp c_51 q.1), if_pos (bI_n0.mp c_94)], rfl, rfl⟩
      · refine v_aload_n (pc := 54) dX6_toldOfOne_54 rfl ?_
        refine v_getR (pc := 55) fkX6_12 ly0 rfl dX6_toldOfOne_55 ?_
        refine v_getR (pc := 58) fkX6_53 ly1 rfl dX6_toldOfOne_58 ?_
        refine v_iload_n (pc := 61) dX6_toldOfOne_61 rfl ?_
        refine v_bipush (pc := 62) (v := 20) (by decide) dX6_toldOfOne_62 ?_
        refine v_isub (pc := 64) dX6_toldOfOne_64 ?_
        refine v_cV1i (pc := 65) dX6_toldOfOne_65 mkX6_70 (c_isThere ly2) ly2 rfl (Nat.le_of_ble_eq_true rfl) rfl (Nat.zero_le _) (Nat.zero_le _) (fun r_65 M_65 J_65 h_65 => ?_)
        obtain ⟨e1_65, e2_65, e3_65⟩ := h_65
        replace e1_65 := e1_65.symm
        replace e2_65 := e2_65.symm
        replace e3_65 := e3_65.symm
        subst e1_65 e2_65 e3_65
        refine v_if_eq (pc := 68) (tgt := 86) dX6_toldOfOne_68 (by decide) (fun c_68 => ?_) (fun c_68 => ?_)
        · refine v_iload_n (pc := 86) dX6_toldOfOne_86 rfl ?_
          refine v_bipush (pc := 87) (v := 30) (by decide) dX6_toldOfOne_87 ?_
          refine v_bipush (pc := 89) (v := 35) (by decide) dX6_toldOfOne_89 ?_
          refine v_cS3i (pc := 91) dX6_toldOfOne_91 mkX6_49 c_within (Nat.le_of_ble_eq_true rfl) rfl (Nat.zero_le _) (Nat.zero_le _) (fun r_91 M_91 J_91 h_91 => ?_)
          obtain ⟨e1_91, e2_91, e3_91⟩ := h_91
          replace e1_91 := e1_91.symm
          replace e2_91 := e2_91.symm
          replace e3_91 := e3_91.symm
          subst e1_91 e2_91 e3_91
          refine v_if_eq (pc := 94) (tgt := 110) dX6_toldOfOne_94 (by decide) (fun c_94 => ?_) (fun c_94 => ?_)
          · refine v_bipush (pc := 110) (v := (-2)) (by decide) dX6_toldOfOne_110 ?_
            refine v_iret (pc := 112) dX6_toldOfOne_112 (Nat.zero_le _) (Nat.zero_le _) ?_
            exact ⟨by unfold tOne; rw [if_neg (fun q => bI_0.mp c_25 q.2), if_neg (fun q => bI_0.mp c_68 q.2), if_neg (bI_0.mp c_94)], rfl, rfl⟩
          · refine v_aload_n (pc := 97) dX6_toldOfOne_97 rfl ?_
            refine v_getR (pc := 98) fkX6_12 ly0 rfl dX6_toldOfOne_98 ?_
            refine v_getR (pc := 101) fkX6_174 ly1 rfl dX6_toldOfOne_101 ?_
            refine v_iload_n (pc := 104) dX6_toldOfOne_104 rfl ?_
            refine v_bipush (pc := 105) (v := 30) (by decide) dX6_toldOfOne_105 ?_
            refine v_isub (pc := 107) dX6_toldOfOne_107 ?_
            refine v_iald (pc := 108) ly12 ?_ dX6_toldOfOne_108 ?_
            · exact vin30 (bI_n0.mp c_94)
            refine v_iret (pc := 109) dX6_toldOfOne_109 (Nat.zero_le _) (Nat.zero_le _) ?_
            exact ⟨by unfold tOne; rw [if_neg (fun q => bI_0.mp c_25 q.2), if_neg (fun q => bI_0.mp c_68 q.2), if_pos (bI_n0.mp c_94)], rfl, rfl⟩
        · refine v_aload_n (pc := 71) dX6_toldOfOne_71 rfl ?_
          refine v_getR (pc := 72) fkX6_12 ly0 rfl dX6_toldOfOne_72 ?_
          refine v_getR (pc := 75) fkX6_53 ly1 rfl dX6_toldOfOne_75 ?_
          refine v_iload_n (pc := 78) dX6_toldOfOne_78 rfl ?_
          refine v_bipush (pc := 79) (v := 20) (by decide) dX6_toldOfOne_79 ?_
          refine v_isub (pc := 81) dX6_toldOfOne_81 ?_
          refine v_cV1i (pc := 82) dX6_toldOfOne_82 mkX6_126 (c_breathOf ly2 ly4) ly2 rfl (Nat.le_of_ble_eq_true rfl) rfl (Nat.zero_le _) (Nat.zero_le _) (fun r_82 M_82 J_82 h_82 => ?_)
          obtain ⟨e1_82, e2_82, e3_82⟩ := h_82
          replace e1_82 := e1_82.symm
          replace e2_82 := e2_82.symm
          replace e3_82 := e3_82.symm
          subst e1_82 e2_82 e3_82
          refine v_iret (pc := 85) dX6_toldOfOne_85 (Nat.zero_le _) (Nat.zero_le _) ?_
          exact ⟨by unfold tOne; rw [if_neg (fun q => bI_0.mp c_25 q.2), if_pos ⟨bI_n0.mp c_51, bI_n0.mp c_68⟩], rfl, rfl⟩
    · refine v_aload_n (pc := 28) dX6_toldOfOne_28 rfl ?_
      refine v_getR (pc := 29) fkX6_12 ly0 rfl dX6_toldOfOne_29 ?_
      refine v_getR (pc := 32) fkX6_53 ly1 rfl dX6_toldOfOne_32 ?_
      refine v_iload_n (pc := 35) dX6_toldOfOne_35 rfl ?_
      refine v_bipush (pc := 36) (v := 10) (by decide) dX6_toldOfOne_36 ?_
      refine v_isub (pc := 38) dX6_toldOfOne_38 ?_
      refine v_cV1i (pc := 39) dX6_toldOfOne_39 mkX6_196 (c_placeOf ly2 ly3) ly2 rfl (Nat.le_of_ble_eq_true rfl) rfl (Nat.zero_le _) (Nat.zero_le _) (fun r_39 M_39 J_39 h_39 => ?_)
      obtain ⟨e1_39, e2_39, e3_39⟩ := h_39
      replace e1_39 := e1_39.symm
      replace e2_39 := e2_39.symm
      replace e3_39 := e3_39.symm
      subst e1_39 e2_39 e3_39
      refine v_iret (pc := 42) dX6_toldOfOne_42 (Nat.zero_le _) (Nat.zero_le _) ?_
      exact ⟨by unfold tOne; rw [if_pos ⟨bI_n0.mp c_8, bI_n0.mp c_25⟩], rfl, rfl⟩

def toldF (M : mM) (x : Int32) : Int32 := if x = 0 then M 44 1 else if x = 1 then M 2 3 else if x = 2 then M 2 4 else if x = 3 then M 2 7 else if x = 4 then M 2 5 else if x = 5 then M 2 6 else if x = 6 then M 8 3 else if x = 7 then M 5 3 else tOne M x
theorem toldF_d {M : mM} {x : Int32} (h : x < 0 ∨ 7 < x) : toldF M x = tOne M x := by
  unfold toldF
  rw [if_neg (fun q => by subst q; exact absurd h (by decide)), if_neg (fun q => by subst q; exact absurd h (by decide)), if_neg (fun q => by subst q; exact absurd h (by decide)), if_neg (fun q => by subst q; exact absurd h (by decide)), if_neg (fun q => by subst q; exact absurd h (by decide)), if_neg (fun q => by subst q; exact absurd h (by decide)), if_neg (fun q => by subst q; exact absurd h (by decide)), if_neg (fun q => by subst q; exact absurd h (by decide))]

set_option maxRecDepth 100000 in
set_option maxHeartbeats 4000000 in
theorem c_told {x : Int32} {M : mM} {J : mJ}  : Ct yX6_told cX6_told 3 (some .int) (rmD 2) false [.ref 0, .int x] LY M J (mNi LY (fun r0 M1 J1 => r0 = toldF M x ∧ M1 = M ∧ J1 = J)) := by
  refine ct_of (own := RX6) (ini := false) (ls := [some (.ref 0), some (.int x), none]) 1 (by decide +kernel) rfl (fun h => by cases h) rfl (fun ad => by first | exact Nat.le_of_ble_eq_true rfl) ?_
  refine v_aload_n (pc := 0) dX6_told_0 rfl ?_
  refine v_getR (pc := 1) fkX6_12 ly0 rfl dX6_told_1 ?_
  refine v_getR (pc := 4) fkX6_53 ly1 rfl dX6_told_4 ?_
  refine v_ast_2 (pc := 7) dX6_told_7 (by decide) rfl ?_
  refine v_iload_n (pc := 8) dX6_told_8 rfl ?_
  refine v_tbl8 (pc := 9) (t0 := 56) (t1 := 64) (t2 := 69) (t3 := 74) (t4 := 79) (t5 := 84) (t6 := 89) (t7 := 100) (t8 := 108) dX6_told_9 rfl rfl rfl rfl rfl rfl rfl rfl (by decide) (by decide) (by decide) (by decide) (by decide) (by decide) (by decide) (by decide) (by decide) (fun c_9 => ?_) (fun c_9 => ?_) (fun c_9 => ?_) (fun c_9 => ?_) (fun c_9 => ?_) (fun c_9 => ?_) (fun c_9 => ?_) (fun c_9 => ?_) (fun c_9 => ?_)
  · refine v_aload_n (pc := 56) dX6_told_56 rfl ?_
    refine v_getR (pc := 57) fkX6_30 ly0 rfl dX6_told_57 ?_
    refine v_getI (pc := 60) fkX6_102 ly44 rfl dX6_told_60 ?_
    refine v_iret (pc := 63) dX6_told_63 (Nat.zero_le _) (Nat.zero_le _) ?_
    subst c_9
    exact ⟨rfl, rfl, rfl⟩
  · refine v_aload_n (pc := 64) dX6_told_64 rfl ?_
    refine v_getI (pc := 65) fkX6_78 ly2 rfl dX6_told_65 ?_
    refine v_iret (pc := 68) dX6_told_68 (Nat.zero_le _) (Nat.zero_le _) ?_
    subst c_9
    exact ⟨rfl, rfl, rfl⟩
  · refine v_aload_n (pc := 69) dX6_told_69 rfl ?_
    refine v_getI (pc := 70) fkX6_60 ly2 rfl dX6_told_70 ?_
    refine v_iret (pc := 73) dX6_told_73 (Nat.zero_le _) (Nat.zero_le _) ?_
    subst c_9
    exact ⟨rfl, rfl, rfl⟩
  · refine v_aload_n (pc := 74) dX6_told_74 rfl ?_
    refine v_getI (pc := 75) fkX6_99 ly2 rfl dX6_told_75 ?_
    refine v_iret (pc := 78) dX6_told_78 (Nat.zero_le _) (Nat.zero_le _) ?_
    subst c_9
    exact ⟨rfl, rfl, rfl⟩
  · refine v_aload_n (pc := 79) dX6_told_79 rfl ?_
    refine v_getI (pc := 80) fkX6_81 ly2 rfl dX6_told_80 ?_
    refine v_iret (pc := 83) dX6_told_83 (Nat.zero_le _) (Nat.zero_le _) ?_
    subst c_9
    exact ⟨rfl, rfl, rfl⟩
  · refine v_aload_n (pc := 84) dX6_told_84 rfl ?_
    refine v_getI (pc := 85) fkX6_84 ly2 rfl dX6_told_85 ?_
    refine v_iret (pc := 88) dX6_told_88 (Nat.zero_le _) (Nat.zero_le _) ?_
    subst c_9
    exact ⟨rfl, rfl, rfl⟩
  · refine v_aload_n (pc := 89) dX6_told_89 rfl ?_
    refine v_getR (pc := 90) fkX6_12 ly0 rfl dX6_told_90 ?_
    refine v_getR (pc := 93) fkX6_180 ly1 rfl dX6_told_93 ?_
    refine v_getI (pc := 96) fkX6_184 ly8 rfl dX6_told_96 ?_
    refine v_iret (pc := 99) dX6_told_99 (Nat.zero_le _) (Nat.zero_le _) ?_
    subst c_9
    exact ⟨rfl, rfl, rfl⟩
  · refine v_aload_n (pc := 100) dX6_told_100 rfl ?_
    refine v_getR (pc := 101) fkX6_87 ly2 rfl dX6_told_101 ?_
    refine v_getI (pc := 104) fkX6_91 ly5 rfl dX6_told_104 ?_
    refine v_iret (pc := 107) dX6_told_107 (Nat.zero_le _) (Nat.zero_le _) ?_
    subst c_9
    exact ⟨rfl, rfl, rfl⟩
  · refine v_aload_n (pc := 108) dX6_told_108 rfl ?_
    refine v_iload_n (pc := 109) dX6_told_109 rfl ?_
    refine v_cV1i (pc := 110) dX6_told_110 mkX6_233 c_toldOne ly0 rfl (Nat.le_of_ble_eq_true rfl) rfl (Nat.zero_le _) (Nat.zero_le _) (fun r_110 M_110 J_110 h_110 => ?_)
    obtain ⟨e1_110, e2_110, e3_110⟩ := h_110
    replace e1_110 := e1_110.symm
    replace e2_110 := e2_110.symm
    replace e3_110 := e3_110.symm
    subst e1_110 e2_110 e3_110
    refine v_iret (pc := 113) dX6_told_113 (Nat.zero_le _) (Nat.zero_le _) ?_
    exact ⟨(toldF_d c_9).symm, rfl, rfl⟩
