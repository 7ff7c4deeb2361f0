/-! the model: the book read by minute and place, word, votes, orders, sights -/
def sz1 (B : Nat → Int32) (x y : Int32) (i : Nat) (a : Int32) : Int32 := if B (11 + 3 * i) = x ∧ B (12 + 3 * i) = y then a + B (13 + 3 * i) else a + 0
def sA (B : Nat → Int32) (n : Nat) (x y : Int32) : Int32 := itN (sz1 B x y) 0 n
def lm1 (B : Nat → Int32) (i : Nat) (a : Int32) : Int32 := if a < B (11 + 3 * i) then B (11 + 3 * i) else a
def lA (B : Nat → Int32) (n : Nat) : Int32 := itN (lm1 B) (-1) n
theorem ix3 (b i : Nat) : nI b + 3 * nI i = nI (b + 3 * i) := by rw [show (3 : Int32) * nI i = nI 3 * nI i from rfl, pk_mul, nI_add]
theorem last_lt (l : Nat) (hl : l < 141) (i : Nat) (hi : i < 1002) : (nI l + -1 < nI i ↔ l ≤ i) := by
  cases l with
  | zero => rw [Int32.lt_iff_toInt_lt, nI_toInt (by omega), show (nI 0 + -1).toInt = -1 from by decide]; omega
  | succ k => rw [pk_m1, nI_ltI (by omega) (by omega)]; omega

set_option maxRecDepth 100000 in
set_option maxHeartbeats 4000000 in
theorem lm_sizeAt {x y : Int32} {nb : Nat} {M : mM} {J : mJ} (hb : M 53 10 = nI nb) (hnb : nb ≤ 32) : ∀ (n i : Nat), n + i = nb → V RX7 cX7_sizeAt 5 (some .int) false (rmD 0) false LY.length none (mNi LY (fun r0 M1 J1 => r0 = sA (M 53) nb x y ∧ M1 = M ∧ J1 = J)) 0 0 5 [some (.ref 49), some (.int x), some (.int y), some (.int (itN (sz1 (M 53) x y) 0 i)), some (.int (nI i))] [] LY M J := by
  intro n
  induction n with
  | zero =>
    intro i hi
    obtain rfl : i = nb := by omega
    refine v_iload (pc := 5) dX7_sizeAt_5 rfl ?_
    refine v_aload_n (pc := 7) dX7_sizeAt_7 rfl ?_
    refine v_getR (pc := 8) fkX7_23 ly49 rfl dX7_sizeAt_8 ?_
    refine v_bipush (pc := 11) (v := 10) (by decide) dX7_sizeAt_11 ?_
    refine v_iald (pc := 13) ly53 ?_ dX7_sizeAt_13 ?_
    · unfold vp_in; decide
    rw [show Int32.toNatClampNeg 10 = 10 from rfl]
    refine v_icmp_ge (pc := 14) (tgt := 74) dX7_sizeAt_14 (by decide) (fun c_14 => ?_) (fun c_14 => absurd (by show M 53 10 ≤ _; rw [hb]; exact nI_le (Nat.le_refl _) (by omega)) c_14)
    refine v_iload_n (pc := 74) dX7_sizeAt_74 rfl ?_
    refine v_iret (pc := 75) dX7_sizeAt_75 (Nat.zero_le _) (Nat.zero_le _) ?_
    exact ⟨rfl, rfl, rfl⟩
  | succ n ih =>
    intro i hi
    have hb7 : i < nb := by omega
    have hcl := nI_clamp (show i < 2 ^ 31 by omega)
    refine v_iload (pc := 5) dX7_sizeAt_5 rfl ?_
    refine v_aload_n (pc := 7) dX7_sizeAt_7 rfl ?_
    refine v_getR (pc := 8) fkX7_23 ly49 rfl dX7_sizeAt_8 ?_
    refine v_bipush (pc := 11) (v := 10) (by decide) dX7_sizeAt_11 ?_
    refine v_iald (pc := 13) ly53 ?_ dX7_sizeAt_13 ?_
    · unfold vp_in; decide
    rw [show Int32.toNatClampNeg 10 = 10 from rfl]
    refine v_icmp_ge (pc := 14) (tgt := 74) dX7_sizeAt_14 (by decide) (fun c_14 => absurd c_14 (by show ¬ M 53 10 ≤ _; rw [hb]; exact nI_ge hb7 (by omega))) (fun c_14 => ?_)
    refine v_iload_n (pc := 17) dX7_sizeAt_17 rfl ?_
    refine v_aload_n (pc := 18) dX7_sizeAt_18 rfl ?_
    refine v_getR (pc := 19) fkX7_23 ly49 rfl dX7_sizeAt_19 ?_
    refine v_bipush (pc := 22) (v := 11) (by decide) dX7_sizeAt_22 ?_
    refine v_iconst (pc := 24) (v := 3) (by decide) dX7_sizeAt_24 ?_
    refine v_iload (pc := 25) dX7_sizeAt_25 rfl ?_
    refine v_imul (pc := 27) dX7_sizeAt_27 ?_
    refine v_iadd (pc := 28) dX7_sizeAt_28 ?_
    rw [show (11 : Int32) + 3 * nI i = nI (11 + 3 * i) from ix3 11 i]
    refine v_iald (pc := 29) ly53 ?_ dX7_sizeAt_29 ?_
    · exact vp_in_nI (show 11 + 3 * i < 107 by omega) (by omega)
    rw [nI_clamp (show 11 + 3 * i < 2 ^ 31 by omega)]
    refine v_iload_n (pc := 30) dX7_sizeAt_30 rfl ?_
    refine v_icmp_ne (pc := 31) (tgt := 65) dX7_sizeAt_31 (by decide) (fun c_31 => ?_) (fun c_31 => ?_)
    · refine v_iconst (pc := 65) (v := 0) (by decide) dX7_sizeAt_65 ?_
      refine v_iadd (pc := 66) dX7_sizeAt_66 ?_
      refine v_ist_3 (pc := 67) dX7_sizeAt_67 (by decide) rfl ?_
      refine v_inc_4 (pc := 68) (v := 1) dX7_sizeAt_68 (by decide) (by decide) rfl ?_
      refine v_goto (pc := 71) (tgt := 5) dX7_sizeAt_71 (by decide) ?_
      rw [nI_1]
      have e9 := ih (i + 1) (by omega)
      rw [itN_s _ _ i] at e9
      rw [show (sz1 (M 53) x y) i (itN (sz1 (M 53) x y) 0 i) = _ from if_neg (fun q => c_31 q.1)] at e9
      exact e9
    · refine v_aload_n (pc := 34) dX7_sizeAt_34 rfl ?_
      refine v_getR (pc := 35) fkX7_23 ly49 rfl dX7_sizeAt_35 ?_
      refine v_bipush (pc := 38) (v := 12) (by decide) dX7_sizeAt_38 ?_
      refine v_iconst (pc := 40) (v := 3) (by decide) dX7_sizeAt_40 ?_
      refine v_iload (pc := 41) dX7_sizeAt_41 rfl ?_
      refine v_imul (pc := 43) dX7_sizeAt_43 ?_
      refine v_iadd (pc := 44) dX7_sizeAt_44 ?_
      rw [show (12 : Int32) + 3 * nI i = nI (12 + 3 * i) from ix3 12 i]
      refine v_iald (pc := 45) ly53 ?_ dX7_sizeAt_45 ?_
      · exact vp_in_nI (show 12 + 3 * i < 107 by omega) (by omega)
      rw [nI_clamp (show 12 + 3 * i < 2 ^ 31 by omega)]
      refine v_iload_n (pc := 46) dX7_sizeAt_46 rfl ?_
      refine v_icmp_ne (pc := 47) (tgt := 65) dX7_sizeAt_47 (by decide) (fun c_47 => ?_) (fun c_47 => ?_)
      · refine v_iconst (pc := 65) (v := 0) (by decide) dX7_sizeAt_65 ?_
        refine v_iadd (pc := 66) dX7_sizeAt_66 ?_
        refine v_ist_3 (pc := 67) dX7_sizeAt_67 (by decide) rfl ?_
        refine v_inc_4 (pc := 68) (v := 1) dX7_sizeAt_68 (by decide) (by decide) rfl ?_
        refine v_goto (pc := 71) (tgt := 5) dX7_sizeAt_71 (by decide) ?_
        rw [nI_1]
        have e9 := ih (i + 1) (by omega)
        rw [itN_s _ _ i] at e9
        rw [show (sz1 (M 53) x y) i (itN (sz1 (M 53) x y) 0 i) = _ from if_neg (fun q => c_47 q.2)] at e9
        exact e9
      · refine v_aload_n (pc := 50) dX7_sizeAt_50 rfl ?_
        refine v_getR (pc := 51) fkX7_23 ly49 rfl dX7_sizeAt_51 ?_
        refine v_bipush (pc := 54) (v := 13) (by decide) dX7_sizeAt_54 ?_
        refine v_iconst (pc := 56) (v := 3) (by decide) dX7_sizeAt_56 ?_
        refine v_iload (pc := 57) dX7_sizeAt_57 rfl ?_
        refine v_imul (pc := 59) dX7_sizeAt_59 ?_
        refine v_iadd (pc := 60) dX7_sizeAt_60 ?_
        rw [show (13 : Int32) + 3 * nI i = nI (13 + 3 * i) from ix3 13 i]
        refine v_iald (pc := 61) ly53 ?_ dX7_sizeAt_61 ?_
        · exact vp_in_nI (show 13 + 3 * i < 107 by omega) (by omega)
        rw [nI_clamp (show 13 + 3 * i < 2 ^ 31 by omega)]
        refine v_goto (pc := 62) (tgt := 66) dX7_sizeAt_62 (by decide) ?_
        refine v_iadd (pc := 66) dX7_sizeAt_66 ?_
        refine v_ist_3 (pc := 67) dX7_sizeAt_67 (by decide) rfl ?_
        refine v_inc_4 (pc := 68) (v := 1) dX7_sizeAt_68 (by decide) (by decide) rfl ?_
        refine v_goto (pc := 71) (tgt := 5) dX7_sizeAt_71 (by decide) ?_
        rw [nI_1]
        have e9 := ih (i + 1) (by omega)
        rw [itN_s _ _ i] at e9
        rw [show (sz1 (M 53) x y) i (itN (sz1 (M 53) x y) 0 i) = _ from if_pos ⟨c_31, c_47⟩] at e9
        exact e9

set_option maxRecDepth 100000 in
set_option maxHeartbeats 4000000 in
theorem m_sizeAt {x y : Int32} {nb : Nat} {M : mM} {J : mJ} (hb : M 53 10 = nI nb) (hnb : nb ≤ 32) : Ct yX7_sizeAt cX7_sizeAt 5 (some .int) (rmD 0) false [.ref 49, .int x, .int y] LY M J (mNi LY (fun r0 M1 J1 => r0 = sA (M 53) nb x y ∧ M1 = M ∧ J1 = J)) := by
  refine ct_of (own := RX7) (ini := false) (ls := [some (.ref 49), some (.int x), some (.int y), none, none]) 2 (by decide +kernel) rfl (fun h => by cases h) rfl (fun ad => by first | exact Nat.le_of_ble_eq_true rfl) ?_
  refine v_iconst (pc := 0) (v := 0) (by decide) dX7_sizeAt_0 ?_
  refine v_ist_3 (pc := 1) dX7_sizeAt_1 (by decide) rfl ?_
  refine v_iconst (pc := 2) (v := 0) (by decide) dX7_sizeAt_2 ?_
  refine v_ist_4 (pc := 3) dX7_sizeAt_3 (by decide) rfl ?_
  exact lm_sizeAt hb hnb nb 0 rfl

set_option maxRecDepth 100000 in
set_option maxHeartbeats 4000000 in
theorem lm_last {nb : Nat} {M : mM} {J : mJ} (hb : M 53 10 = nI nb) (hnb : nb ≤ 32) : ∀ (n i : Nat), n + i = nb → V RX7 cX7_lastMinute 3 (some .int) false (rmD 0) false LY.length none (mNi LY (fun r0 M1 J1 => r0 = lA (M 53) nb ∧ M1 = M ∧ J1 = J)) 0 0 4 [some (.ref 49), some (.int (itN (lm1 (M 53)) (-1) i)), some (.int (nI i))] [] LY M J := by
  intro n
  induction n with
  | zero =>
    intro i hi
    obtain rfl : i = nb := by omega
    refine v_iload_n (pc := 4) dX7_lastMinute_4 rfl ?_
    refine v_aload_n (pc := 5) dX7_lastMinute_5 rfl ?_
    refine v_getR (pc := 6) fkX7_23 ly49 rfl dX7_lastMinute_6 ?_
    refine v_bipush (pc := 9) (v := 10) (by decide) dX7_lastMinute_9 ?_
    refine v_iald (pc := 11) ly53 ?_ dX7_lastMinute_11 ?_
    · unfold vp_in; decide
    rw [show Int32.toNatClampNeg 10 = 10 from rfl]
    refine v_icmp_ge (pc := 12) (tgt := 52) dX7_lastMinute_12 (by decide) (fun c_12 => ?_) (fun c_12 => absurd (by show M 53 10 ≤ _; rw [hb]; exact nI_le (Nat.le_refl _) (by omega)) c_12)
    refine v_iload_n (pc := 52) dX7_lastMinute_52 rfl ?_
    refine v_iret (pc := 53) dX7_lastMinute_53 (Nat.zero_le _) (Nat.zero_le _) ?_
    exact ⟨rfl, rfl, rfl⟩
  | succ n ih =>
    intro i hi
    have hb7 : i < nb := by omega
    have hcl := nI_clamp (show i < 2 ^ 31 by omega)
    refine v_iload_n (pc := 4) dX7_lastMinute_4 rfl ?_
    refine v_aload_n (pc := 5) dX7_lastMinute_5 rfl ?_
    refine v_getR (pc := 6) fkX7_23 ly49 rfl dX7_lastMinute_6 ?_
    refine v_bipush (pc := 9) (v := 10) (by decide) dX7_lastMinute_9 ?_
    refine v_iald (pc := 11) ly53 ?_ dX7_lastMinute_11 ?_
    · unfold vp_in; decide
    rw [show Int32.toNatClampNeg 10 = 10 from rfl]
    refine v_icmp_ge (pc := 12) (tgt := 52) dX7_lastMinute_12 (by decide) (fun c_12 => absurd c_12 (by show ¬ M 53 10 ≤ _; rw [hb]; exact nI_ge hb7 (by omega))) (fun c_12 => ?_)
    refine v_aload_n (pc := 15) dX7_lastMinute_15 rfl ?_
    refine v_getR (pc := 16) fkX7_23 ly49 rfl dX7_lastMinute_16 ?_
    refine v_bipush (pc := 19) (v := 11) (by decide) dX7_lastMinute_19 ?_
    refine v_iconst (pc := 21) (v := 3) (by decide) dX7_lastMinute_21 ?_
    refine v_iload_n (pc := 22) dX7_lastMinute_22 rfl ?_
    refine v_imul (pc := 23) dX7_lastMinute_23 ?_
    refine v_iadd (pc := 24) dX7_lastMinute_24 ?_
    rw [show (11 : Int32) + 3 * nI i = nI (11 + 3 * i) from ix3 11 i]
    refine v_iald (pc := 25) ly53 ?_ dX7_lastMinute_25 ?_
    · exact vp_in_nI (show 11 + 3 * i < 107 by omega) (by omega)
    rw [nI_clamp (show 11 + 3 * i < 2 ^ 31 by omega)]
    refine v_iload_n (pc := 26) dX7_lastMinute_26 rfl ?_
    refine v_icmp_le (pc := 27) (tgt := 44) dX7_lastMinute_27 (by decide) (fun c_27 => ?_) (fun c_27 => ?_)
    · refine v_iload_n (pc := 44) dX7_lastMinute_44 rfl ?_
      refine v_ist_1 (pc := 45) dX7_lastMinute_45 (by decide) rfl ?_
      refine v_inc_2 (pc := 46) (v := 1) dX7_lastMinute_46 (by decide) (by decide) rfl ?_
      refine v_goto (pc := 49) (tgt := 4) dX7_lastMinute_49 (by decide) ?_
      rw [nI_1]
      have e9 := ih (i + 1) (by omega)
      rw [itN_s _ _ i] at e9
      rw [show (lm1 (M 53)) i (itN (lm1 (M 53)) (-1) i) = _ from if_neg (Int32.not_lt.mpr c_27)] at e9
      exact e9
    · refine v_aload_n (pc := 30) dX7_lastMinute_30 rfl ?_
      refine v_getR (pc := 31) fkX7_23 ly49 rfl dX7_lastMinute_31 ?_
      refine v_bipush (pc := 34) (v := 11) (by decide) dX7_lastMinute_34 ?_
      refine v_iconst (pc := 36) (v := 3) (by decide) dX7_lastMinute_36 ?_
      refine v_iload_n (pc := 37) dX7_lastMinute_37 rfl ?_
      refine v_imul (pc := 38) dX7_lastMinute_38 ?_
      refine v_iadd (pc := 39) dX7_lastMinute_39 ?_
      rw [show (11 : Int32) + 3 * nI i = nI (11 + 3 * i) from ix3 11 i]
      refine v_iald (pc := 40) ly53 ?_ dX7_lastMinute_40 ?_
      · exact vp_in_nI (show 11 + 3 * i < 107 by omega) (by omega)
      rw [nI_clamp (show 11 + 3 * i < 2 ^ 31 by omega)]
      refine v_goto (pc := 41) (tgt := 45) dX7_lastMinute_41 (by decide) ?_
      refine v_ist_1 (pc := 45) dX7_lastMinute_45 (by decide) rfl ?_
      refine v_inc_2 (pc := 46) (v := 1) dX7_lastMinute_46 (by decide) (by decide) rfl ?_
      refine v_goto (pc := 49) (tgt := 4) dX7_lastMinute_49 (by decide) ?_
      rw [nI_1]
      have e9 := ih (i + 1) (by omega)
      rw [itN_s _ _ i] at e9
      rw [show (lm1 (M 53)) i (itN (lm1 (M 53)) (-1) i) = _ from if_pos (Int32.not_le.mp c_27)] at e9
      exact e9

set_option maxRecDepth 100000 in
set_option maxHeartbeats 4000000 in
theorem m_last {nb : Nat} {M : mM} {J : mJ} (hb : M 53 10 = nI nb) (hnb : nb ≤ 32) : Ct yX7_lastMinute cX7_lastMinute 3 (some .int) (rmD 0) false [.ref 49] LY M J (mNi LY (fun r0 M1 J1 => r0 = lA (M 53) nb ∧ M1 = M ∧ J1 = J)) := by
  refine ct_of (own := RX7) (ini := false) (ls := [some (.ref 49), none, none]) 2 (by decide +kernel) rfl (fun h => by cases h) rfl (fun ad => by first | exact Nat.le_of_ble_eq_true rfl) ?_
  refine v_iconst (pc := 0) (v := (-1)) (by decide) dX7_lastMinute_0 ?_
  refine v_ist_1 (pc := 1) dX7_lastMinute_1 (by decide) rfl ?_
  refine v_iconst (pc := 2) (v := 0) (by decide) dX7_lastMinute_2 ?_
  refine v_ist_2 (pc := 3) dX7_lastMinute_3 (by decide) rfl ?_
  exact lm_last hb hnb nb 0 rfl

def wdR (Z : Int32 → Int32 → Int32) (x y : Int32) : Nat → Nat → Int32 → Int32
  | 0, _, w => if x = -1 then w else -1
  | f + 1, q, w => if 0 < Z (nI (q / 10)) (nI (q % 10)) then (if w = x then sel3 y (nI (q / 10)) (nI (q % 10)) (Z (nI (q / 10)) (nI (q % 10))) else wdR Z x y f (q + 1) (w + 1)) else wdR Z x y f (q + 1) w

set_option maxRecDepth 100000 in
set_option maxHeartbeats 4000000 in
theorem lm_wordI {x y : Int32} {i m nb lm : Nat} {M : mM} {J : mJ} (hb : M 53 10 = nI nb) (hnb : nb ≤ 32) (ho : ∀ v : Int32, V RX7 cX7_word 8 (some .int) false (rmD 1) false LY.length none (mNi LY (fun r0 M1 J1 => r0 = wdR (sA (M 53) nb) x y (10 * m) (10 * (i + 1)) (v) ∧ M1 = M ∧ J1 = J)) 0 0 23 [some (.ref 49), some (.int x), some (.int y), some (.int (v)), some (.int (nI lm + -1)), some (.int (nI (i + 1))), none, none] [] LY M J) : ∀ (n j : Nat) (v : Int32), n + j = 10 → V RX7 cX7_word 8 (some .int) false (rmD 1) false LY.length none (mNi LY (fun r0 M1 J1 => r0 = wdR (sA (M 53) nb) x y (10 * m + n) (10 * i + j) (v) ∧ M1 = M ∧ J1 = J)) 0 0 33 [some (.ref 49), some (.int x), some (.int y), some (.int (v)), some (.int (nI lm + -1)), some (.int (nI (i))), some (.int (nI (j))), none] [] LY M J := by
  intro n
  induction n with
  | zero =>
    intro j v hj
    obtain rfl : j = 10 := by omega
    refine v_iload (pc := 33) dX7_word_33 rfl ?_
    refine v_bipush (pc := 35) (v := 10) (by decide) dX7_word_35 ?_
    refine v_icmp_ge (pc := 37) (tgt := 91) dX7_word_37 (by decide) (fun c_37 => ?_) (fun c_37 => absurd (by decide) c_37)
    refine v_inc_5 (pc := 91) (v := 1) dX7_word_91 (by decide) (by decide) rfl ?_
    refine v_goto (pc := 94) (tgt := 23) dX7_word_94 (by decide) ?_
    refine v_fg_6 ?_
    rw [nI_1]
    have e9 := ho v
    rw [show 10 * (i + 1) = 10 * i + 10 by omega] at e9
    exact e9
  | succ n ih =>
    intro j v hj
    have ed : (10 * i + j) / 10 = i := by omega
    have em : (10 * i + j) % 10 = j := by omega
    refine v_iload (pc := 33) dX7_word_33 rfl ?_
    refine v_bipush (pc := 35) (v := 10) (by decide) dX7_word_35 ?_
    refine v_icmp_ge (pc := 37) (tgt := 91) dX7_word_37 (by decide) (fun c_37 => absurd c_37 (nI_ge (b := 10) (show j < 10 by omega) (by omega))) (fun c_37 => ?_)
    refine v_aload_n (pc := 40) dX7_word_40 rfl ?_
    refine v_iload (pc := 41) dX7_word_41 rfl ?_
    refine v_iload (pc := 43) dX7_word_43 rfl ?_
    refine v_cV2i (pc := 45) dX7_word_45 mkX7_110 (m_sizeAt hb hnb) ly49 rfl (Nat.le_of_ble_eq_true rfl) rfl (Nat.zero_le _) (Nat.zero_le _) (fun r_45 M_45 J_45 h_45 => ?_)
    obtain ⟨e1_45, e2_45, e3_45⟩ := h_45
    replace e1_45 := e1_45.symm
    replace e2_45 := e2_45.symm
    replace e3_45 := e3_45.symm
    subst e1_45 e2_45 e3_45
    refine v_ist_7 (pc := 48) dX7_word_48 (by decide) rfl ?_
    refine v_iload (pc := 50) dX7_word_50 rfl ?_
    refine v_if_le (pc := 52) (tgt := 85) dX7_word_52 (by decide) (fun c_52 => ?_) (fun c_52 => ?_)
    · refine v_inc_6 (pc := 85) (v := 1) dX7_word_85 (by decide) (by decide) rfl ?_
      refine v_goto (pc := 88) (tgt := 33) dX7_word_88 (by decide) ?_
      refine v_fg_7 ?_
      rw [nI_1]
      refine V.mono (fun o a b c q => ?_) (ih (j + 1) v (by omega))
      rw [show 10 * m + (n + 1) = (10 * m + n) + 1 from rfl, wdR, ed, em, if_neg (Int32.not_lt.mpr c_52)]
      exact q
    · refine v_iload_n (pc := 55) dX7_word_55 rfl ?_
      refine v_iload_n (pc := 56) dX7_word_56 rfl ?_
      refine v_icmp_ne (pc := 57) (tgt := 82) dX7_word_57 (by decide) (fun c_57 => ?_) (fun c_57 => ?_)
      · refine v_inc_3 (pc := 82) (v := 1) dX7_word_82 (by decide) (by decide) rfl ?_
        refine v_inc_6 (pc := 85) (v := 1) dX7_word_85 (by decide) (by decide) rfl ?_
        refine v_goto (pc := 88) (tgt := 33) dX7_word_88 (by decide) ?_
        refine v_fg_7 ?_
        rw [nI_1]
        refine V.mono (fun o a b c q => ?_) (ih (j + 1) (v + 1) (by omega))
        rw [show 10 * m + (n + 1) = (10 * m + n) + 1 from rfl, wdR, ed, em, if_pos (Int32.not_le.mp c_52), if_neg c_57]
        exact q
      · refine v_iload_n (pc := 60) dX7_word_60 rfl ?_
        refine v_if_ne (pc := 61) (tgt := 69) dX7_word_61 (by decide) (fun c_61 => ?_) (fun c_61 => ?_)
        · refine v_iload_n (pc := 69) dX7_word_69 rfl ?_
          refine v_iconst (pc := 70) (v := 1) (by decide) dX7_word_70 ?_
          refine v_icmp_ne (pc := 71) (tgt := 79) dX7_word_71 (by decide) (fun c_71 => ?_) (fun c_71 => ?_)
          · refine v_iload (pc := 79) dX7_word_79 rfl ?_
            refine v_iret (pc := 81) dX7_word_81 (Nat.zero_le _) (Nat.zero_le _) ?_
            exact ⟨by rw [show 10 * m + (n + 1) = (10 * m + n) + 1 from rfl, wdR, ed, em, if_pos (Int32.not_le.mp c_52), if_pos c_57]; unfold sel3; rw [if_neg c_61, if_neg c_71], rfl, rfl⟩
          · refine v_iload (pc := 74) dX7_word_74 rfl ?_
            refine v_goto (pc := 76) (tgt := 81) dX7_word_76 (by decide) ?_
            refine v_iret (pc := 81) dX7_word_81 (Nat.zero_le _) (Nat.zero_le _) ?_
            exact ⟨by rw [show 10 * m + (n + 1) = (10 * m + n) + 1 from rfl, wdR, ed, em, if_pos (Int32.not_le.mp c_52), if_pos c_57]; unfold sel3; rw [if_neg c_61, if_pos c_71], rfl, rfl⟩
        · refine v_iload (pc := 64) dX7_word_64 rfl ?_
          refine v_goto (pc := 66) (tgt := 81) dX7_word_66 (by decide) ?_
          refine v_iret (pc := 81) dX7_word_81 (Nat.zero_le _) (Nat.zero_le _) ?_
          exact ⟨by rw [show 10 * m + (n + 1) = (10 * m + n) + 1 from rfl, wdR, ed, em, if_pos (Int32.not_le.mp c_52), if_pos c_57]; unfold sel3; rw [if_pos c_61], rfl, rfl⟩

set_option maxRecDepth 100000 in
set_option maxHeartbeats 4000000 in
theorem lm_wordO {x y : Int32} {nb lm : Nat} {M : mM} {J : mJ} (hb : M 53 10 = nI nb) (hnb : nb ≤ 32) (hlm : lm ≤ 140) : ∀ (n i : Nat) (v : Int32), n + i = lm → V RX7 cX7_word 8 (some .int) false (rmD 1) false LY.length none (mNi LY (fun r0 M1 J1 => r0 = wdR (sA (M 53) nb) x y (10 * n) (10 * i) (v) ∧ M1 = M ∧ J1 = J)) 0 0 23 [some (.ref 49), some (.int x), some (.int y), some (.int (v)), some (.int (nI lm + -1)), some (.int (nI (i))), none, none] [] LY M J := by
  intro n
  induction n with
  | zero =>
    intro i v hi
    obtain rfl : i = lm := by omega
    refine v_iload (pc := 23) dX7_word_23 rfl ?_
    refine v_iload (pc := 25) dX7_word_25 rfl ?_
    refine v_icmp_gt (pc := 27) (tgt := 97) dX7_word_27 (by decide) (fun c_27 => ?_) (fun c_27 => absurd ((last_lt i (by omega) i (by omega)).mpr (Nat.le_refl _)) c_27)
    refine v_iload_n (pc := 97) dX7_word_97 rfl ?_
    refine v_iconst (pc := 98) (v := (-1)) (by decide) dX7_word_98 ?_
    refine v_icmp_ne (pc := 99) (tgt := 106) dX7_word_99 (by decide) (fun c_99 => ?_) (fun c_99 => ?_)
    · refine v_iconst (pc := 106) (v := (-1)) (by decide) dX7_word_106 ?_
      refine v_iret (pc := 107) dX7_word_107 (Nat.zero_le _) (Nat.zero_le _) ?_
      exact ⟨by rw [Nat.mul_zero, wdR, if_neg c_99], rfl, rfl⟩
    · refine v_iload_n (pc := 102) dX7_word_102 rfl ?_
      refine v_goto (pc := 103) (tgt := 107) dX7_word_103 (by decide) ?_
      refine v_iret (pc := 107) dX7_word_107 (Nat.zero_le _) (Nat.zero_le _) ?_
      exact ⟨by rw [Nat.mul_zero, wdR, if_pos c_99], rfl, rfl⟩
  | succ n ih =>
    intro i v hi
    refine v_iload (pc := 23) dX7_word_23 rfl ?_
    refine v_iload (pc := 25) dX7_word_25 rfl ?_
    refine v_icmp_gt (pc := 27) (tgt := 97) dX7_word_27 (by decide) (fun c_27 => absurd c_27 (fun q => absurd ((last_lt lm (by omega) i (by omega)).mp q) (by omega))) (fun c_27 => ?_)
    refine v_iconst (pc := 30) (v := 0) (by decide) dX7_word_30 ?_
    refine v_ist_6 (pc := 31) dX7_word_31 (by decide) rfl ?_
    exact lm_wordI hb hnb (fun v => ih (i + 1) v (by omega)) 10 0 v rfl

set_option maxRecDepth 100000 in
set_option maxHeartbeats 4000000 in
theorem m_word {x y : Int32} {nb lm : Nat} {M : mM} {J : mJ} (hb : M 53 10 = nI nb) (hnb : nb ≤ 32) (hl : lA (M 53) nb = nI lm + -1) (hlm : lm ≤ 140) : Ct yX7_word cX7_word 8 (some .int) (rmD 1) false [.ref 49, .int x, .int y] LY M J (mNi LY (fun r0 M1 J1 => r0 = (if 0 ≤ y ∧ y ≤ 2 then wdR (sA (M 53) nb) x y (10 * lm) 0 0 else -2) ∧ M1 = M ∧ J1 = J)) := by
  refine ct_of (own := RX7) (ini := false) (ls := [some (.ref 49), some (.int x), some (.int y), none, none, none, none, none]) 5 (by decide +kernel) rfl (fun h => by cases h) rfl (fun ad => by first | exact Nat.le_of_ble_eq_true rfl) ?_
  refine v_iload_n (pc := 0) dX7_word_0 rfl ?_
  refine v_iconst (pc := 1) (v := 0) (by decide) dX7_word_1 ?_
  refine v_iconst (pc := 2) (v := 2) (by decide) dX7_word_2 ?_
  refine v_cS3i (pc := 3) dX7_word_3 mkX7_49 m_in (Nat.le_of_ble_eq_true rfl) rfl (Nat.zero_le _) (Nat.zero_le _) (fun r_3 M_3 J_3 h_3 => ?_)
  obtain ⟨e1_3, e2_3, e3_3⟩ := h_3
  replace e1_3 := e1_3.symm
  replace e2_3 := e2_3.symm
  replace e3_3 := e3_3.symm
  subst e1_3 e2_3 e3_3
  refine v_if_ne (pc := 6) (tgt := 12) dX7_word_6 (by decide) (fun c_6 => ?_) (fun c_6 => ?_)
  · refine v_iconst (pc := 12) (v := 0) (by decide) dX7_word_12 ?_
    refine v_ist_3 (pc := 13) dX7_word_13 (by decide) rfl ?_
    refine v_aload_n (pc := 14) dX7_word_14 rfl ?_
    refine v_cV0i (pc := 15) dX7_word_15 mkX7_107 (m_last hb hnb) ly49 rfl (Nat.le_of_ble_eq_true rfl) rfl (Nat.zero_le _) (Nat.zero_le _) (fun r_15 M_15 J_15 h_15 => ?_)
    obtain ⟨e1_15, e2_15, e3_15⟩ := h_15
    rw [hl] at e1_15
    replace e1_15 := e1_15.symm
    replace e2_15 := e2_15.symm
    replace e3_15 := e3_15.symm
    subst e1_15 e2_15 e3_15
    refine v_ist_4 (pc := 18) dX7_word_18 (by decide) rfl ?_
    refine v_iconst (pc := 20) (v := 0) (by decide) dX7_word_20 ?_
    refine v_ist_5 (pc := 21) dX7_word_21 (by decide) rfl ?_
    rw [if_pos (bI_n0.mp c_6)]
    exact lm_wordO hb hnb hlm lm 0 0 rfl
  · refine v_bipush (pc := 9) (v := (-2)) (by decide) dX7_word_9 ?_
    refine v_iret (pc := 11) dX7_word_11 (Nat.zero_le _) (Nat.zero_le _) ?_
    exact ⟨by rw [if_neg (bI_0.mp c_6)], rfl, rfl⟩

def vo1 (Z : Int32 → Int32 → Int32) (z p : Int32) (j : Nat) (a : Int32) : Int32 := if z = 0 then (if Z p (nI j) = 1 ∨ Z p (nI j) = 2 then a + 1 else a + 0) else (if 2 < Z p (nI j) then a + 1 else a + 0)
def voO (Z : Int32 → Int32 → Int32) (z : Int32) : Nat → Nat → Int32 → Int32
  | 0, _, a => a
  | n + 1, i, a => voO Z z n (i + 1) (itN (vo1 Z z (nI i)) a 10)

set_option maxRecDepth 100000 in
set_option maxHeartbeats 4000000 in
theorem lm_votesI {z v : Int32} {i m nb lm xx yy : Nat} {M : mM} {J : mJ} (hb : M 53 10 = nI nb) (hnb : nb ≤ 32) (ho : V RX7 cX7_votes 9 (some .int) false (rmD 2) false LY.length none (mNi LY (fun r0 M1 J1 => r0 = voO (sA (M 53) nb) z (m) (i + 1) (itN (vo1 (sA (M 53) nb) z (nI i)) v 10) ∧ M1 = M ∧ J1 = J)) 0 0 46 [some (.ref 49), some (.int (nI xx)), some (.int (nI yy)), some (.int z), some (.int (itN (vo1 (sA (M 53) nb) z (nI i)) v 10)), some (.int (nI lm + -1)), some (.int (nI (i + 1))), none, none] [] LY M J) : ∀ (n j : Nat), n + j = 10 → V RX7 cX7_votes 9 (some .int) false (rmD 2) false LY.length none (mNi LY (fun r0 M1 J1 => r0 = voO (sA (M 53) nb) z (m) (i + 1) (itN (vo1 (sA (M 53) nb) z (nI i)) v 10) ∧ M1 = M ∧ J1 = J)) 0 0 62 [some (.ref 49), some (.int (nI xx)), some (.int (nI yy)), some (.int z), some (.int (itN (vo1 (sA (M 53) nb) z (nI i)) v j)), some (.int (nI lm + -1)), some (.int (nI (i))), some (.int (nI (j))), none] [] LY M J := by
  intro n
  induction n with
  | zero =>
    intro j hj
    obtain rfl : j = 10 := by omega
    refine v_iload (pc := 62) dX7_votes_62 rfl ?_
    refine v_bipush (pc := 64) (v := 10) (by decide) dX7_votes_64 ?_
    refine v_icmp_ge (pc := 66) (tgt := 125) dX7_votes_66 (by decide) (fun c_66 => ?_) (fun c_66 => absurd (by decide) c_66)
    refine v_inc_6 (pc := 125) (v := 1) dX7_votes_125 (by decide) (by decide) rfl ?_
    refine v_goto (pc := 128) (tgt := 46) dX7_votes_128 (by decide) ?_
    refine v_fg_7 ?_
    rw [nI_1]
    exact ho
  | succ n ih =>
    intro j hj
    refine v_iload (pc := 62) dX7_votes_62 rfl ?_
    refine v_bipush (pc := 64) (v := 10) (by decide) dX7_votes_64 ?_
    refine v_icmp_ge (pc := 66) (tgt := 125) dX7_votes_66 (by decide) (fun c_66 => absurd c_66 (nI_ge (b := 10) (show j < 10 by omega) (by omega))) (fun c_66 => ?_)
    refine v_aload_n (pc := 69) dX7_votes_69 rfl ?_
    refine v_iload (pc := 70) dX7_votes_70 rfl ?_
    refine v_iload (pc := 72) dX7_votes_72 rfl ?_
    refine v_cV2i (pc := 74) dX7_votes_74 mkX7_110 (m_sizeAt hb hnb) ly49 rfl (Nat.le_of_ble_eq_true rfl) rfl (Nat.zero_le _) (Nat.zero_le _) (fun r_74 M_74 J_74 h_74 => ?_)
    obtain ⟨e1_74, e2_74, e3_74⟩ := h_74
    replace e1_74 := e1_74.symm
    replace e2_74 := e2_74.symm
    replace e3_74 := e3_74.symm
    subst e1_74 e2_74 e3_74
    refine v_ist_8 (pc := 77) dX7_votes_77 (by decide) rfl ?_
    refine v_iload (pc := 79) dX7_votes_79 rfl ?_
    refine v_iload_n (pc := 81) dX7_votes_81 rfl ?_
    refine v_if_ne (pc := 82) (tgt := 105) dX7_votes_82 (by decide) (fun c_82 => ?_) (fun c_82 => ?_)
    · refine v_iload (pc := 105) dX7_votes_105 rfl ?_
      refine v_iconst (pc := 107) (v := 2) (by decide) dX7_votes_107 ?_
      refine v_icmp_le (pc := 108) (tgt := 115) dX7_votes_108 (by decide) (fun c_108 => ?_) (fun c_108 => ?_)
      · refine v_iconst (pc := 115) (v := 0) (by decide) dX7_votes_115 ?_
        refine v_iadd (pc := 116) dX7_votes_116 ?_
        refine v_ist_4 (pc := 117) dX7_votes_117 (by decide) rfl ?_
        refine v_inc_7 (pc := 119) (v := 1) dX7_votes_119 (by decide) (by decide) rfl ?_
        refine v_goto (pc := 122) (tgt := 62) dX7_votes_122 (by decide) ?_
        refine v_fg_8 ?_
        rw [nI_1]
        have e9 := ih (j + 1) (by omega)
        rw [itN_s _ _ j] at e9
        rw [show (vo1 (sA (M 53) nb) z (nI i)) j (itN (vo1 (sA (M 53) nb) z (nI i)) v j) = _ from (if_neg c_82).trans (if_neg (Int32.not_lt.mpr c_108))] at e9
        exact e9
      · refine v_iconst (pc := 111) (v := 1) (by decide) dX7_votes_111 ?_
        refine v_goto (pc := 112) (tgt := 116) dX7_votes_112 (by decide) ?_
        refine v_iadd (pc := 116) dX7_votes_116 ?_
        refine v_ist_4 (pc := 117) dX7_votes_117 (by decide) rfl ?_
        refine v_inc_7 (pc := 119) (v := 1) dX7_votes_119 (by decide) (by decide) rfl ?_
        refine v_goto (pc := 122) (tgt := 62) dX7_votes_122 (by decide) ?_
        refine v_fg_8 ?_
        rw [nI_1]
        have e9 := ih (j + 1) (by omega)
        rw [itN_s _ _ j] at e9
        rw [show (vo1 (sA (M 53) nb) z (nI i)) j (itN (vo1 (sA (M 53) nb) z (nI i)) v j) = _ from (if_neg c_82).trans (if_pos (Int32.not_le.mp c_108))] at e9
        exact e9
    · refine v_iload (pc := 85) dX7_votes_85 rfl ?_
      refine v_iconst (pc := 87) (v := 1) (by decide) dX7_votes_87 ?_
      refine v_icmp_eq (pc := 88) (tgt := 97) dX7_votes_88 (by decide) (fun c_88 => ?_) (fun c_88 => ?_)
      · refine v_iconst (pc := 97) (v := 1) (by decide) dX7_votes_97 ?_
        refine v_goto (pc := 98) (tgt := 116) dX7_votes_98 (by decide) ?_
        refine v_iadd (pc := 116) dX7_votes_116 ?_
        refine v_ist_4 (pc := 117) dX7_votes_117 (by decide) rfl ?_
        refine v_inc_7 (pc := 119) (v := 1) dX7_votes_119 (by decide) (by decide) rfl ?_
        refine v_goto (pc := 122) (tgt := 62) dX7_votes_122 (by decide) ?_
        refine v_fg_8 ?_
        rw [nI_1]
        have e9 := ih (j + 1) (by omega)
        rw [itN_s _ _ j] at e9
        rw [show (vo1 (sA (M 53) nb) z (nI i)) j (itN (vo1 (sA (M 53) nb) z (nI i)) v j) = _ from (if_pos c_82).trans (if_pos (Or.inl c_88))] at e9
        exact e9
      · refine v_iload (pc := 91) dX7_votes_91 rfl ?_
        refine v_iconst (pc := 93) (v := 2) (by decide) dX7_votes_93 ?_
        refine v_icmp_ne (pc := 94) (tgt := 101) dX7_votes_94 (by decide) (fun c_94 => ?_) (fun c_94 => ?_)
        · refine v_iconst (pc := 101) (v := 0) (by decide) dX7_votes_101 ?_
          refine v_goto (pc := 102) (tgt := 116) dX7_votes_102 (by decide) ?_
          refine v_iadd (pc := 116) dX7_votes_116 ?_
          refine v_ist_4 (pc := 117) dX7_votes_117 (by decide) rfl ?_
          refine v_inc_7 (pc := 119) (v := 1) dX7_votes_119 (by decide) (by decide) rfl ?_
          refine v_goto (pc := 122) (tgt := 62) dX7_votes_122 (by decide) ?_
          refine v_fg_8 ?_
          rw [nI_1]
          have e9 := ih (j + 1) (by omega)
          rw [itN_s _ _ j] at e9
          rw [show (vo1 (sA (M 53) nb) z (nI i)) j (itN (vo1 (sA (M 53) nb) z (nI i)) v j) = _ from (if_pos c_82).trans (if_neg (fun q => q.elim c_88 c_94))] at e9
          exact e9
        · refine v_iconst (pc := 97) (v := 1) (by decide) dX7_votes_97 ?_
          refine v_goto (pc := 98) (tgt := 116) dX7_votes_98 (by decide) ?_
          refine v_iadd (pc := 116) dX7_votes_116 ?_
          refine v_ist_4 (pc := 117) dX7_votes_117 (by decide) rfl ?_
          refine v_inc_7 (pc := 119) (v := 1) dX7_votes_119 (by decide) (by decide) rfl ?_
          refine v_goto (pc := 122) (tgt := 62) dX7_votes_122 (by decide) ?_
          refine v_fg_8 ?_
          rw [nI_1]
          have e9 := ih (j + 1) (by omega)
          rw [itN_s _ _ j] at e9
          rw [show (vo1 (sA (M 53) nb) z (nI i)) j (itN (vo1 (sA (M 53) nb) z (nI i)) v j) = _ from (if_pos c_82).trans (if_pos (Or.inr c_94))] at e9
          exact e9

set_option maxRecDepth 100000 in
set_option maxHeartbeats 4000000 in
theorem lm_votesO {z : Int32} {nb lm xx yy : Nat} {M : mM} {J : mJ} (hb : M 53 10 = nI nb) (hnb : nb ≤ 32) (hlm : lm ≤ 140) (hy : yy ≤ 999) : ∀ (n i : Nat) (v : Int32), n = min (yy + 1) lm - i → i ≤ 999 + 1 → V RX7 cX7_votes 9 (some .int) false (rmD 2) false LY.length none (mNi LY (fun r0 M1 J1 => r0 = voO (sA (M 53) nb) z (n) (i) (v) ∧ M1 = M ∧ J1 = J)) 0 0 46 [some (.ref 49), some (.int (nI xx)), some (.int (nI yy)), some (.int z), some (.int (v)), some (.int (nI lm + -1)), some (.int (nI (i))), none, none] [] LY M J := by
  intro n
  induction n with
  | zero =>
    intro i v hi hi9
    refine v_iload (pc := 46) dX7_votes_46 rfl ?_
    refine v_iload_n (pc := 48) dX7_votes_48 rfl ?_
    refine v_icmp_gt (pc := 49) (tgt := 131) dX7_votes_49 (by decide) (fun c_49 => ?_) (fun c_49 => ?_)
    · refine v_iload (pc := 131) dX7_votes_131 rfl ?_
      refine v_iret (pc := 133) dX7_votes_133 (Nat.zero_le _) (Nat.zero_le _) ?_
      exact ⟨rfl, rfl, rfl⟩
    · refine v_iload (pc := 52) dX7_votes_52 rfl ?_
      refine v_iload (pc := 54) dX7_votes_54 rfl ?_
      refine v_icmp_gt (pc := 56) (tgt := 131) dX7_votes_56 (by decide) (fun c_56 => ?_) (fun c_56 => ?_)
      · refine v_iload (pc := 131) dX7_votes_131 rfl ?_
        refine v_iret (pc := 133) dX7_votes_133 (Nat.zero_le _) (Nat.zero_le _) ?_
        exact ⟨rfl, rfl, rfl⟩
      · refine v_iconst (pc := 59) (v := 0) (by decide) dX7_votes_59 ?_
        refine v_ist_7 (pc := 60) dX7_votes_60 (by decide) rfl ?_
        have h1 : ¬ yy < i := fun q => c_49 ((nI_ltI (by omega) (by omega)).mpr q)
        have h2 : ¬ lm ≤ i := fun q => c_56 ((last_lt lm (by omega) i (by omega)).mpr q)
        omega
  | succ n ih =>
    intro i v hi hi9
    refine v_iload (pc := 46) dX7_votes_46 rfl ?_
    refine v_iload_n (pc := 48) dX7_votes_48 rfl ?_
    refine v_icmp_gt (pc := 49) (tgt := 131) dX7_votes_49 (by decide) (fun c_49 => absurd c_49 (fun q => absurd ((nI_ltI (by omega) (by omega)).mp q) (by omega))) (fun c_49 => ?_)
    refine v_iload (pc := 52) dX7_votes_52 rfl ?_
    refine v_iload (pc := 54) dX7_votes_54 rfl ?_
    refine v_icmp_gt (pc := 56) (tgt := 131) dX7_votes_56 (by decide) (fun c_56 => absurd c_56 (fun q => absurd ((last_lt lm (by omega) i (by omega)).mp q) (by omega))) (fun c_56 => ?_)
    refine v_iconst (pc := 59) (v := 0) (by decide) dX7_votes_59 ?_
    refine v_ist_7 (pc := 60) dX7_votes_60 (by decide) rfl ?_
    exact lm_votesI hb hnb (ih (i + 1) _ (by omega) (by omega)) 10 0 rfl

set_option maxRecDepth 100000 in
set_option maxHeartbeats 4000000 in
theorem m_votes {x y z : Int32} {nb lm : Nat} {M : mM} {J : mJ} (hb : M 53 10 = nI nb) (hnb : nb ≤ 32) (hl : lA (M 53) nb = nI lm + -1) (hlm : lm ≤ 140) : Ct yX7_votes cX7_votes 9 (some .int) (rmD 2) false [.ref 49, .int x, .int y, .int z] LY M J (mNi LY (fun r0 M1 J1 => r0 = (if ((0 ≤ x ∧ x ≤ 999) ∧ (0 ≤ y ∧ y ≤ 999) ∧ (0 ≤ z ∧ z ≤ 1)) then voO (sA (M 53) nb) z (min (y.toNatClampNeg + 1) lm - x.toNatClampNeg) x.toNatClampNeg 0 else -2) ∧ M1 = M ∧ J1 = J)) := by
  refine ct_of (own := RX7) (ini := false) (ls := [some (.ref 49), some (.int x), some (.int y), some (.int z), none, none, none, none, none]) 5 (by decide +kernel) rfl (fun h => by cases h) rfl (fun ad => by first | exact Nat.le_of_ble_eq_true rfl) ?_
  refine v_iload_n (pc := 0) dX7_votes_0 rfl ?_
  refine v_iconst (pc := 1) (v := 0) (by decide) dX7_votes_1 ?_
  refine v_sipush (pc := 2) (v := 999) (by decide) dX7_votes_2 ?_
  refine v_cS3i (pc := 5) dX7_votes_5 mkX7_49 m_in (Nat.le_of_ble_eq_true rfl) rfl (Nat.zero_le _) (Nat.zero_le _) (fun r_5 M_5 J_5 h_5 => ?_)
  obtain ⟨e1_5, e2_5, e3_5⟩ := h_5
  replace e1_5 := e1_5.symm
  replace e2_5 := e2_5.symm
  replace e3_5 := e3_5.symm
  subst e1_5 e2_5 e3_5
  refine v_if_eq (pc := 8) (tgt := 31) dX7_votes_8 (by decide) (fun c_8 => ?_) (fun c_8 => ?_)
  · refine v_bipush (pc := 31) (v := (-2)) (by decide) dX7_votes_31 ?_
    refine v_iret (pc := 33) dX7_votes_33 (Nat.zero_le _) (Nat.zero_le _) ?_
    exact ⟨by rw [if_neg (fun q => bI_0.mp c_8 q.1)], rfl, rfl⟩
  · refine v_iload_n (pc := 11) dX7_votes_11 rfl ?_
    refine v_iconst (pc := 12) (v := 0) (by decide) dX7_votes_12 ?_
    refine v_sipush (pc := 13) (v := 999) (by decide) dX7_votes_13 ?_
    refine v_cS3i (pc := 16) dX7_votes_16 mkX7_49 m_in (Nat.le_of_ble_eq_true rfl) rfl (Nat.zero_le _) (Nat.zero_le _) (fun r_16 M_16 J_16 h_16 => ?_)
    obtain ⟨e1_16, e2_16, e3_16⟩ := h_16
    replace e1_16 := e1_16.symm
    replace e2_16 := e2_16.symm
    replace e3_16 := e3_16.symm
    subst e1_16 e2_16 e3_16
    refine v_if_eq (pc := 19) (tgt := 31) dX7_votes_19 (by decide) (fun c_19 => ?_) (fun c_19 => ?_)
    · refine v_bipush (pc := 31) (v := (-2)) (by decide) dX7_votes_31 ?_
      refine v_iret (pc := 33) dX7_votes_33 (Nat.zero_le _) (Nat.zero_le _) ?_
      exact ⟨by rw [if_neg (fun q => bI_0.mp c_19 q.2.1)], rfl, rfl⟩
    · refine v_iload_n (pc := 22) dX7_votes_22 rfl ?_
      refine v_iconst (pc := 23) (v := 0) (by decide) dX7_votes_23 ?_
      refine v_iconst (pc := 24) (v := 1) (by decide) dX7_votes_24 ?_
      refine v_cS3i (pc := 25) dX7_votes_25 mkX7_49 m_in (Nat.le_of_ble_eq_true rfl) rfl (Nat.zero_le _) (Nat.zero_le _) (fun r_25 M_25 J_25 h_25 => ?_)
      obtain ⟨e1_25, e2_25, e3_25⟩ := h_25
      replace e1_25 := e1_25.symm
      replace e2_25 := e2_25.symm
      replace e3_25 := e3_25.symm
      subst e1_25 e2_25 e3_25
      refine v_if_ne (pc := 28) (tgt := 34) dX7_votes_28 (by decide) (fun c_28 => ?_) (fun c_28 => ?_)
      · refine v_iconst (pc := 34) (v := 0) (by decide) dX7_votes_34 ?_
        refine v_ist_4 (pc := 35) dX7_votes_35 (by decide) rfl ?_
        refine v_aload_n (pc := 37) dX7_votes_37 rfl ?_
        refine v_cV0i (pc := 38) dX7_votes_38 mkX7_107 (m_last hb hnb) ly49 rfl (Nat.le_of_ble_eq_true rfl) rfl (Nat.zero_le _) (Nat.zero_le _) (fun r_38 M_38 J_38 h_38 => ?_)
        obtain ⟨e1_38, e2_38, e3_38⟩ := h_38
        rw [hl] at e1_38
        replace e1_38 := e1_38.symm
        replace e2_38 := e2_38.symm
        replace e3_38 := e3_38.symm
        subst e1_38 e2_38 e3_38
        refine v_ist_5 (pc := 41) dX7_votes_41 (by decide) rfl ?_
        refine v_iload_n (pc := 43) dX7_votes_43 rfl ?_
        refine v_ist_6 (pc := 44) dX7_votes_44 (by decide) rfl ?_
        rw [if_pos ⟨bI_n0.mp c_8, bI_n0.mp c_19, bI_n0.mp c_28⟩]
        obtain ⟨xx, hx, rfl⟩ := rngN (a := 0) (n := 999) rfl rfl (by omega) (bI_n0.mp c_8).1 (bI_n0.mp c_8).2
        obtain ⟨yy, hy, rfl⟩ := rngN (a := 0) (n := 999) rfl rfl (by omega) (bI_n0.mp c_19).1 (bI_n0.mp c_19).2
        rw [nI_clamp (show 0 + xx < 2 ^ 31 by omega), nI_clamp (show 0 + yy < 2 ^ 31 by omega)]
        exact lm_votesO hb hnb hlm (by omega) _ (0 + xx) 0 rfl (by omega)
      · refine v_bipush (pc := 31) (v := (-2)) (by decide) dX7_votes_31 ?_
        refine v_iret (pc := 33) dX7_votes_33 (Nat.zero_le _) (Nat.zero_le _) ?_
        exact ⟨by rw [if_neg (fun q => bI_0.mp c_28 q.2.2)], rfl, rfl⟩
