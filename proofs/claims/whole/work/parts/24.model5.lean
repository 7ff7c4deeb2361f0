/-! the model: orders, sights, told -/
def wv (y : Int32) (i : Nat) : Int32 := (y + pc7 (nI i) 7) - (y + pc7 (nI i) 7) / 24 * 24
def or0 (M : mM) (n : Nat) : mM := itN (fun i A => mU A 56 i (if nI i = 0 then 1 else 0)) M n
abbrev orC (M : mM) (y : Int32) (i j : Nat) : Prop := ¬ bt (nI i) (nI j) ∧ bt (M 51 j) (wv y i)
def orP (y : Int32) (i j : Nat) (M : mM) : mM := if orC M y i j then mU M 56 (nI i ||| bv (nI j)).toNatClampNeg (M 56 (nI i ||| bv (nI j)).toNatClampNeg + M 56 i) else M
def orR (y : Int32) (k i : Nat) (M : mM) : mM := itN (orP y i) M k
def orA (M : mM) (y : Int32) (k : Nat) : mM := itN (orR y k) (or0 M (2 ^ k)) (2 ^ k - 1)
theorem or_inD : ∀ i, i < 64 → ∀ j, j < 6 → 0 ≤ (nI i ||| bv (nI j)).toInt ∧ (nI i ||| bv (nI j)).toInt < 64 := by decide +kernel
theorem or_in (i : Nat) (hi : i < 64) (j : Nat) (hj : j < 6) : vp_in (nI i ||| bv (nI j)) 64 := vp_in_iff.mpr (or_inD i hi j hj)
theorem pow_m1 {k : Nat} : nI (2 ^ k) - 1 = nI (2 ^ k - 1) := by
  have := Nat.pow_pos (n := k) (show 0 < 2 by omega)
  rw [show (1 : Int32) = nI 1 from rfl, pk_sub this]

set_option maxRecDepth 100000 in
set_option maxHeartbeats 1000000 in
theorem lm_ordI {y : Int32} {i k : Nat} (hk : k ≤ 6) (hi : i < 2 ^ k - 1) {P9 : Int32 → mM → mJ → Prop} {A : mM} {J : mJ} (ho : V RX7 cX7_orders 6 (some .int) false (rmD 1) false LY.length none (mNi LY P9) 0 0 64 [some (.ref 49), some (.int (nI k)), some (.int y), some (.int (nI (2 ^ k - 1))), some (.int (nI (i + 1))), none] [] LY (orR y k i A) J) : ∀ (n j : Nat), n + j = k → V RX7 cX7_orders 6 (some .int) false (rmD 1) false LY.length none (mNi LY P9) 0 0 73 [some (.ref 49), some (.int (nI k)), some (.int y), some (.int (nI (2 ^ k - 1))), some (.int (nI (i))), some (.int (nI (j)))] [] LY (itN (orP y i) A j) J := by
  have hp : 2 ^ k ≤ 64 := by
    have : 2 ^ k ≤ 2 ^ 6 := Nat.pow_le_pow_right (by omega) (by omega)
    omega
  have hp0 : 0 < 2 ^ k := Nat.pow_pos (by omega)
  have hci := nI_clamp (show i < 2 ^ 31 by omega)
  intro n
  induction n with
  | zero =>
    intro j hj
    obtain rfl : j = k := by omega
    refine v_iload (pc := 73) dX7_orders_73 rfl ?_
    refine v_iload_n (pc := 75) dX7_orders_75 rfl ?_
    refine v_icmp_ge (pc := 76) (tgt := 140) dX7_orders_76 (by decide) (fun c_76 => ?_) (fun c_76 => absurd (nI_le (Nat.le_refl _) (by omega)) c_76)
    refine v_inc_4 (pc := 140) (v := 1) dX7_orders_140 (by decide) (by decide) rfl ?_
    refine v_goto (pc := 143) (tgt := 64) dX7_orders_143 (by decide) ?_
    refine v_fg_5 ?_
    rw [nI_1]
    exact ho
  | succ n ih =>
    intro j hj
    have hcj := nI_clamp (show j < 2 ^ 31 by omega)
    refine v_iload (pc := 73) dX7_orders_73 rfl ?_
    refine v_iload_n (pc := 75) dX7_orders_75 rfl ?_
    refine v_icmp_ge (pc := 76) (tgt := 140) dX7_orders_76 (by decide) (fun c_76 => absurd c_76 (nI_ge (show j < k by omega) (by omega))) (fun c_76 => ?_)
    refine v_iload (pc := 79) dX7_orders_79 rfl ?_
    refine v_iload (pc := 81) dX7_orders_81 rfl ?_
    refine v_cS2i (pc := 83) dX7_orders_83 mkX7_56 m_has (Nat.le_of_ble_eq_true rfl) rfl (Nat.zero_le _) (Nat.zero_le _) (fun r_83 M_83 J_83 h_83 => ?_)
    obtain ⟨e1_83, e2_83, e3_83⟩ := h_83
    replace e1_83 := e1_83.symm
    replace e2_83 := e2_83.symm
    replace e3_83 := e3_83.symm
    subst e1_83 e2_83 e3_83
    refine v_if_ne (pc := 86) (tgt := 134) dX7_orders_86 (by decide) (fun c_86 => ?_) (fun c_86 => ?_)
    · refine v_inc_5 (pc := 134) (v := 1) dX7_orders_134 (by decide) (by decide) rfl ?_
      refine v_goto (pc := 137) (tgt := 73) dX7_orders_137 (by decide) ?_
      rw [nI_1]
      have e9 := ih (j + 1) (by omega)
      rw [itN_s _ _ j] at e9
      rw [show orP y i j (itN (orP y i) A j) = _ from if_neg (fun q => q.1 (bI_n0.mp c_86))] at e9
      exact e9
    · refine v_aload_n (pc := 89) dX7_orders_89 rfl ?_
      refine v_getR (pc := 90) fkX7_17 ly49 rfl dX7_orders_90 ?_
      refine v_iload (pc := 93) dX7_orders_93 rfl ?_
      refine v_iald (pc := 95) ly51 ?_ dX7_orders_95 ?_
      · exact vp_in_nI (show j < 6 by omega) (by omega)
      refine v_iload_n (pc := 96) dX7_orders_96 rfl ?_
      refine v_iload (pc := 97) dX7_orders_97 rfl ?_
      refine v_cS1i (pc := 99) dX7_orders_99 mkX7_60 m_bits (Nat.le_of_ble_eq_true rfl) rfl (Nat.zero_le _) (Nat.zero_le _) (fun r_99 M_99 J_99 h_99 => ?_)
      obtain ⟨e1_99, e2_99, e3_99⟩ := h_99
      replace e1_99 := e1_99.symm
      replace e2_99 := e2_99.symm
      replace e3_99 := e3_99.symm
      subst e1_99 e2_99 e3_99
      refine v_iadd (pc := 102) dX7_orders_102 ?_
      refine v_bipush (pc := 103) (v := 24) (by decide) dX7_orders_103 ?_
      refine v_irem (pc := 105) (by decide) dX7_orders_105 ?_
      refine v_cS2i (pc := 106) dX7_orders_106 mkX7_56 m_has (Nat.le_of_ble_eq_true rfl) rfl (Nat.zero_le _) (Nat.zero_le _) (fun r_106 M_106 J_106 h_106 => ?_)
      obtain ⟨e1_106, e2_106, e3_106⟩ := h_106
      replace e1_106 := e1_106.symm
      replace e2_106 := e2_106.symm
      replace e3_106 := e3_106.symm
      subst e1_106 e2_106 e3_106
      refine v_if_eq (pc := 109) (tgt := 134) dX7_orders_109 (by decide) (fun c_109 => ?_) (fun c_109 => ?_)
      · refine v_inc_5 (pc := 134) (v := 1) dX7_orders_134 (by decide) (by decide) rfl ?_
        refine v_goto (pc := 137) (tgt := 73) dX7_orders_137 (by decide) ?_
        rw [nI_1]
        have e9 := ih (j + 1) (by omega)
        rw [itN_s _ _ j] at e9
        rw [hcj] at c_109
        rw [show orP y i j (itN (orP y i) A j) = _ from if_neg (fun q => bI_0.mp c_109 q.2)] at e9
        exact e9
      · refine v_aload_n (pc := 112) dX7_orders_112 rfl ?_
        refine v_getR (pc := 113) fkX7_32 ly49 rfl dX7_orders_113 ?_
        refine v_iload (pc := 116) dX7_orders_116 rfl ?_
        refine v_iconst (pc := 118) (v := 1) (by decide) dX7_orders_118 ?_
        refine v_iload (pc := 119) dX7_orders_119 rfl ?_
        refine v_ishl (pc := 121) dX7_orders_121 ?_
        refine v_ior (pc := 122) dX7_orders_122 ?_
        refine v_dup2IR (pc := 123) dX7_orders_123 ?_
        refine v_iald (pc := 124) ly56 ?_ dX7_orders_124 ?_
        · exact or_in i (by omega) j (by omega)
        refine v_aload_n (pc := 125) dX7_orders_125 rfl ?_
        refine v_getR (pc := 126) fkX7_32 ly49 rfl dX7_orders_126 ?_
        refine v_iload (pc := 129) dX7_orders_129 rfl ?_
        refine v_iald (pc := 131) ly56 ?_ dX7_orders_131 ?_
        · exact vp_in_nI (show i < 64 by omega) (by omega)
        refine v_iadd (pc := 132) dX7_orders_132 ?_
        refine v_iast (pc := 133) ly56 ?_ dX7_orders_133 ?_
        · exact or_in i (by omega) j (by omega)
        refine v_inc_5 (pc := 134) (v := 1) dX7_orders_134 (by decide) (by decide) rfl ?_
        refine v_goto (pc := 137) (tgt := 73) dX7_orders_137 (by decide) ?_
        rw [nI_1]
        have e9 := ih (j + 1) (by omega)
        rw [itN_s _ _ j] at e9
        rw [hcj] at c_109
        rw [hci]
        rw [show orP y i j (itN (orP y i) A j) = _ from if_pos ⟨bI_0.mp c_86, bI_n0.mp c_109⟩] at e9
        exact e9

set_option maxRecDepth 100000 in
set_option maxHeartbeats 1000000 in
theorem lm_ordO {y : Int32} {k : Nat} (hk : k ≤ 6) {A : mM} {J : mJ} : ∀ (n i : Nat), n + i = 2 ^ k - 1 → V RX7 cX7_orders 6 (some .int) false (rmD 1) false LY.length none (mNi LY ((fun r0 M1 J1 => r0 = (itN (orR y k) A (2 ^ k - 1)) 56 (2 ^ k - 1) ∧ M1 = (itN (orR y k) A (2 ^ k - 1)) ∧ J1 = J))) 0 0 64 [some (.ref 49), some (.int (nI k)), some (.int y), some (.int (nI (2 ^ k - 1))), some (.int (nI (i))), none] [] LY (itN (orR y k) A i) J := by
  have hp : 2 ^ k ≤ 64 := by
    have : 2 ^ k ≤ 2 ^ 6 := Nat.pow_le_pow_right (by omega) (by omega)
    omega
  have hp0 : 0 < 2 ^ k := Nat.pow_pos (by omega)
  have hcp := nI_clamp (show 2 ^ k - 1 < 2 ^ 31 by omega)
  intro n
  induction n with
  | zero =>
    intro i hi
    obtain rfl : i = 2 ^ k - 1 := by omega
    refine v_iload (pc := 64) dX7_orders_64 rfl ?_
    refine v_iload_n (pc := 66) dX7_orders_66 rfl ?_
    refine v_icmp_ge (pc := 67) (tgt := 146) dX7_orders_67 (by decide) (fun c_67 => ?_) (fun c_67 => absurd (nI_le (Nat.le_refl _) (by omega)) c_67)
    refine v_aload_n (pc := 146) dX7_orders_146 rfl ?_
    refine v_getR (pc := 147) fkX7_32 ly49 rfl dX7_orders_147 ?_
    refine v_iload_n (pc := 150) dX7_orders_150 rfl ?_
    refine v_iald (pc := 151) ly56 ?_ dX7_orders_151 ?_
    · exact vp_in_nI (show 2 ^ k - 1 < 64 by omega) (by omega)
    refine v_iret (pc := 152) dX7_orders_152 (Nat.zero_le _) (Nat.zero_le _) ?_
    exact ⟨by rw [hcp], rfl, rfl⟩
  | succ n ih =>
    intro i hi
    refine v_iload (pc := 64) dX7_orders_64 rfl ?_
    refine v_iload_n (pc := 66) dX7_orders_66 rfl ?_
    refine v_icmp_ge (pc := 67) (tgt := 146) dX7_orders_67 (by decide) (fun c_67 => absurd c_67 (nI_ge (show i < 2 ^ k - 1 by omega) (by omega))) (fun c_67 => ?_)
    refine v_iconst (pc := 70) (v := 0) (by decide) dX7_orders_70 ?_
    refine v_ist_5 (pc := 71) dX7_orders_71 (by decide) rfl ?_
    exact lm_ordI hk (by omega) (ih (i + 1) (by omega)) k 0 rfl

set_option maxRecDepth 100000 in
set_option maxHeartbeats 1000000 in
theorem lm_ord0 {y : Int32} {k : Nat} (hk : k ≤ 6) {M : mM} {J : mJ} : ∀ (n i : Nat), n + i = 2 ^ k → V RX7 cX7_orders 6 (some .int) false (rmD 1) false LY.length none (mNi LY ((fun r0 M1 J1 => r0 = (orA M y k) 56 (2 ^ k - 1) ∧ M1 = (orA M y k) ∧ J1 = J))) 0 0 32 [some (.ref 49), some (.int (nI k)), some (.int y), some (.int (nI (2 ^ k - 1))), some (.int (nI (i))), none] [] LY (or0 M i) J := by
  have hp : 2 ^ k ≤ 64 := by
    have : 2 ^ k ≤ 2 ^ 6 := Nat.pow_le_pow_right (by omega) (by omega)
    omega
  have hp0 : 0 < 2 ^ k := Nat.pow_pos (by omega)
  intro n
  induction n with
  | zero =>
    intro i hi
    obtain rfl : i = 2 ^ k := by omega
    refine v_iload (pc := 32) dX7_orders_32 rfl ?_
    refine v_iload_n (pc := 34) dX7_orders_34 rfl ?_
    refine v_icmp_gt (pc := 35) (tgt := 61) dX7_orders_35 (by decide) (fun c_35 => ?_) (fun c_35 => absurd ((nI_ltI (by omega) (by omega)).mpr (by omega)) c_35)
    refine v_iconst (pc := 61) (v := 0) (by decide) dX7_orders_61 ?_
    refine v_ist_4 (pc := 62) dX7_orders_62 (by decide) rfl ?_
    exact lm_ordO hk (A := or0 M (2 ^ k)) (2 ^ k - 1) 0 rfl
  | succ n ih =>
    intro i hi
    have hcl := nI_clamp (show i < 2 ^ 31 by omega)
    refine v_iload (pc := 32) dX7_orders_32 rfl ?_
    refine v_iload_n (pc := 34) dX7_orders_34 rfl ?_
    refine v_icmp_gt (pc := 35) (tgt := 61) dX7_orders_35 (by decide) (fun c_35 => absurd c_35 (fun q => absurd ((nI_ltI (by omega) (by omega)).mp q) (by omega))) (fun c_35 => ?_)
    refine v_aload_n (pc := 38) dX7_orders_38 rfl ?_
    refine v_getR (pc := 39) fkX7_32 ly49 rfl dX7_orders_39 ?_
    refine v_iload (pc := 42) dX7_orders_42 rfl ?_
    refine v_iload (pc := 44) dX7_orders_44 rfl ?_
    refine v_if_ne (pc := 46) (tgt := 53) dX7_orders_46 (by decide) (fun c_46 => ?_) (fun c_46 => ?_)
    · refine v_iconst (pc := 53) (v := 0) (by decide) dX7_orders_53 ?_
      refine v_iast (pc := 54) ly56 ?_ dX7_orders_54 ?_
      · exact vp_in_nI (show i < 64 by omega) (by omega)
      refine v_inc_4 (pc := 55) (v := 1) dX7_orders_55 (by decide) (by decide) rfl ?_
      refine v_goto (pc := 58) (tgt := 32) dX7_orders_58 (by decide) ?_
      rw [nI_1, hcl]
      have e9 := ih (i + 1) (by omega)
      rw [show or0 M (i + 1) = mU (or0 M i) 56 i (if nI i = 0 then 1 else 0) from rfl, if_neg c_46] at e9
      exact e9
    · refine v_iconst (pc := 49) (v := 1) (by decide) dX7_orders_49 ?_
      refine v_goto (pc := 50) (tgt := 54) dX7_orders_50 (by decide) ?_
      refine v_iast (pc := 54) ly56 ?_ dX7_orders_54 ?_
      · exact vp_in_nI (show i < 64 by omega) (by omega)
      refine v_inc_4 (pc := 55) (v := 1) dX7_orders_55 (by decide) (by decide) rfl ?_
      refine v_goto (pc := 58) (tgt := 32) dX7_orders_58 (by decide) ?_
      rw [nI_1, hcl]
      have e9 := ih (i + 1) (by omega)
      rw [show or0 M (i + 1) = mU (or0 M i) 56 i (if nI i = 0 then 1 else 0) from rfl, if_pos c_46] at e9
      exact e9

set_option maxRecDepth 100000 in
set_option maxHeartbeats 4000000 in
theorem m_orders {x y : Int32} {M : mM} {J : mJ}  : Ct yX7_orders cX7_orders 6 (some .int) (rmD 1) false [.ref 49, .int x, .int y] LY M J (mNi LY (fun r0 M1 J1 => r0 = (if ((1 ≤ x ∧ x ≤ 6) ∧ (0 ≤ y ∧ y ≤ 23)) then orA M y x.toNatClampNeg 56 (2 ^ x.toNatClampNeg - 1) else -2) ∧ M1 = (if ((1 ≤ x ∧ x ≤ 6) ∧ (0 ≤ y ∧ y ≤ 23)) then orA M y x.toNatClampNeg else M) ∧ J1 = J)) := by
  refine ct_of (own := RX7) (ini := false) (ls := [some (.ref 49), some (.int x), some (.int y), none, none, none]) 3 (by decide +kernel) rfl (fun h => by cases h) rfl (fun ad => by first | exact Nat.le_of_ble_eq_true rfl) ?_
  refine v_iload_n (pc := 0) dX7_orders_0 rfl ?_
  refine v_iconst (pc := 1) (v := 1) (by decide) dX7_orders_1 ?_
  refine v_bipush (pc := 2) (v := 6) (by decide) dX7_orders_2 ?_
  refine v_cS3i (pc := 4) dX7_orders_4 mkX7_49 m_in (Nat.le_of_ble_eq_true rfl) rfl (Nat.zero_le _) (Nat.zero_le _) (fun r_4 M_4 J_4 h_4 => ?_)
  obtain ⟨e1_4, e2_4, e3_4⟩ := h_4
  replace e1_4 := e1_4.symm
  replace e2_4 := e2_4.symm
  replace e3_4 := e3_4.symm
  subst e1_4 e2_4 e3_4
  refine v_if_eq (pc := 7) (tgt := 20) dX7_orders_7 (by decide) (fun c_7 => ?_) (fun c_7 => ?_)
  · refine v_bipush (pc := 20) (v := (-2)) (by decide) dX7_orders_20 ?_
    refine v_iret (pc := 22) dX7_orders_22 (Nat.zero_le _) (Nat.zero_le _) ?_
    exact ⟨by rw [if_neg (fun q => bI_0.mp c_7 q.1)]; try rfl, by rw [if_neg (fun q => bI_0.mp c_7 q.1)]; try rfl, rfl⟩
  · refine v_iload_n (pc := 10) dX7_orders_10 rfl ?_
    refine v_iconst (pc := 11) (v := 0) (by decide) dX7_orders_11 ?_
    refine v_bipush (pc := 12) (v := 23) (by decide) dX7_orders_12 ?_
    refine v_cS3i (pc := 14) dX7_orders_14 mkX7_49 m_in (Nat.le_of_ble_eq_true rfl) rfl (Nat.zero_le _) (Nat.zero_le _) (fun r_14 M_14 J_14 h_14 => ?_)
    obtain ⟨e1_14, e2_14, e3_14⟩ := h_14
    replace e1_14 := e1_14.symm
    replace e2_14 := e2_14.symm
    replace e3_14 := e3_14.symm
    subst e1_14 e2_14 e3_14
    refine v_if_ne (pc := 17) (tgt := 23) dX7_orders_17 (by decide) (fun c_17 => ?_) (fun c_17 => ?_)
    · obtain ⟨k0, hk0, rfl⟩ := rngN (a := 1) (n := 5) rfl rfl (by omega) (bI_n0.mp c_7).1 (bI_n0.mp c_7).2
      have hcl := nI_clamp (show 1 + k0 < 2 ^ 31 by omega)
      refine v_iconst (pc := 23) (v := 1) (by decide) dX7_orders_23 ?_
      refine v_iload_n (pc := 24) dX7_orders_24 rfl ?_
      refine v_ishl (pc := 25) dX7_orders_25 ?_
      rw [show (1 : Int32) <<< (nI (1 + k0) &&& 31) = nI (2 ^ (1 + k0)) from bv_pow (1 + k0) (by omega)]
      refine v_iconst (pc := 26) (v := 1) (by decide) dX7_orders_26 ?_
      refine v_isub (pc := 27) dX7_orders_27 ?_
      rw [pow_m1]
      refine v_ist_3 (pc := 28) dX7_orders_28 (by decide) rfl ?_
      refine v_iconst (pc := 29) (v := 0) (by decide) dX7_orders_29 ?_
      refine v_ist_4 (pc := 30) dX7_orders_30 (by decide) rfl ?_
      refine V.mono (fun o a b c q => ?_) (lm_ord0 (y := y) (k := 1 + k0) (by omega) (M := M) (J := J) (2 ^ (1 + k0)) 0 rfl)
      rw [if_pos ⟨bI_n0.mp c_7, bI_n0.mp c_17⟩, if_pos ⟨bI_n0.mp c_7, bI_n0.mp c_17⟩, hcl]
      exact q
    · refine v_bipush (pc := 20) (v := (-2)) (by decide) dX7_orders_20 ?_
      refine v_iret (pc := 22) dX7_orders_22 (Nat.zero_le _) (Nat.zero_le _) ?_
      exact ⟨by rw [if_neg (fun q => bI_0.mp c_17 q.2)]; try rfl, by rw [if_neg (fun q => bI_0.mp c_17 q.2)]; try rfl, rfl⟩

def nSeen (M : mM) (c : Nat) (x y z : Int32) : mM := mU (mU (mU (mU M 52 (0 + 3 * c) x) 52 (1 + 3 * c) y) 52 (2 + 3 * c) z) 49 4 (nI (c + 1))
theorem ix30 (i : Nat) : (3 : Int32) * nI i = nI (0 + 3 * i) := by rw [show (3 : Int32) * nI i = nI 3 * nI i from rfl, pk_mul, Nat.zero_add]
theorem ix31 (i : Nat) : (3 : Int32) * nI i + 1 = nI (1 + 3 * i) := by rw [ix30, nI_1]; congr 1; omega
theorem ix32 (i : Nat) : (3 : Int32) * nI i + 2 = nI (2 + 3 * i) := by rw [ix30, show (2 : Int32) = nI 2 from rfl, nI_add]; congr 1; omega

set_option maxRecDepth 100000 in
set_option maxHeartbeats 4000000 in
theorem m_seen {x y z : Int32} {c : Nat} {M : mM} {J : mJ} (hc : M 49 4 = nI c) (hc8 : c ≤ 8) : Ct yX7_seen cX7_seen 4 (some .int) (rmD 1) false [.ref 49, .int x, .int y, .int z] LY M J (mNi LY (fun r0 M1 J1 => r0 = (if ((1 ≤ x ∧ x ≤ 9) ∧ (0 ≤ y ∧ y ≤ 999) ∧ (0 ≤ z ∧ z ≤ 9)) then (if c < 8 then nI (c + 1) else -4) else -2) ∧ M1 = (if ((1 ≤ x ∧ x ≤ 9) ∧ (0 ≤ y ∧ y ≤ 999) ∧ (0 ≤ z ∧ z ≤ 9)) then (if c < 8 then nSeen M c x y z else M) else M) ∧ J1 = J)) := by
  refine ct_of (own := RX7) (ini := false) (ls := [some (.ref 49), some (.int x), some (.int y), some (.int z)]) 0 (by decide +kernel) rfl (fun h => by cases h) rfl (fun ad => by first | exact Nat.le_of_ble_eq_true rfl) ?_
  refine v_iload_n (pc := 0) dX7_seen_0 rfl ?_
  refine v_iconst (pc := 1) (v := 1) (by decide) dX7_seen_1 ?_
  refine v_bipush (pc := 2) (v := 9) (by decide) dX7_seen_2 ?_
  refine v_cS3i (pc := 4) dX7_seen_4 mkX7_49 m_in (Nat.le_of_ble_eq_true rfl) rfl (Nat.zero_le _) (Nat.zero_le _) (fun r_4 M_4 J_4 h_4 => ?_)
  obtain ⟨e1_4, e2_4, e3_4⟩ := h_4
  replace e1_4 := e1_4.symm
  replace e2_4 := e2_4.symm
  replace e3_4 := e3_4.symm
  subst e1_4 e2_4 e3_4
  refine v_if_eq (pc := 7) (tgt := 31) dX7_seen_7 (by decide) (fun c_7 => ?_) (fun c_7 => ?_)
  · refine v_bipush (pc := 31) (v := (-2)) (by decide) dX7_seen_31 ?_
    refine v_iret (pc := 33) dX7_seen_33 (Nat.zero_le _) (Nat.zero_le _) ?_
    exact ⟨by rw [if_neg (fun q => bI_0.mp c_7 q.1)]; try rfl, by rw [if_neg (fun q => bI_0.mp c_7 q.1)]; try rfl, rfl⟩
  · refine v_iload_n (pc := 10) dX7_seen_10 rfl ?_
    refine v_iconst (pc := 11) (v := 0) (by decide) dX7_seen_11 ?_
    refine v_sipush (pc := 12) (v := 999) (by decide) dX7_seen_12 ?_
    refine v_cS3i (pc := 15) dX7_seen_15 mkX7_49 m_in (Nat.le_of_ble_eq_true rfl) rfl (Nat.zero_le _) (Nat.zero_le _) (fun r_15 M_15 J_15 h_15 => ?_)
    obtain ⟨e1_15, e2_15, e3_15⟩ := h_15
    replace e1_15 := e1_15.symm
    replace e2_15 := e2_15.symm
    replace e3_15 := e3_15.symm
    subst e1_15 e2_15 e3_15
    refine v_if_eq (pc := 18) (tgt := 31) dX7_seen_18 (by decide) (fun c_18 => ?_) (fun c_18 => ?_)
    · refine v_bipush (pc := 31) (v := (-2)) (by decide) dX7_seen_31 ?_
      refine v_iret (pc := 33) dX7_seen_33 (Nat.zero_le _) (Nat.zero_le _) ?_
      exact ⟨by rw [if_neg (fun q => bI_0.mp c_18 q.2.1)]; try rfl, by rw [if_neg (fun q => bI_0.mp c_18 q.2.1)]; try rfl, rfl⟩
    · refine v_iload_n (pc := 21) dX7_seen_21 rfl ?_
      refine v_iconst (pc := 22) (v := 0) (by decide) dX7_seen_22 ?_
      refine v_bipush (pc := 23) (v := 9) (by decide) dX7_seen_23 ?_
      refine v_cS3i (pc := 25) dX7_seen_25 mkX7_49 m_in (Nat.le_of_ble_eq_true rfl) rfl (Nat.zero_le _) (Nat.zero_le _) (fun r_25 M_25 J_25 h_25 => ?_)
      obtain ⟨e1_25, e2_25, e3_25⟩ := h_25
      replace e1_25 := e1_25.symm
      replace e2_25 := e2_25.symm
      replace e3_25 := e3_25.symm
      subst e1_25 e2_25 e3_25
      refine v_if_ne (pc := 28) (tgt := 34) dX7_seen_28 (by decide) (fun c_28 => ?_) (fun c_28 => ?_)
      · refine v_aload_n (pc := 34) dX7_seen_34 rfl ?_
        refine v_getI (pc := 35) fkX7_133 ly49 rfl dX7_seen_35 ?_
        refine v_bipush (pc := 38) (v := 8) (by decide) dX7_seen_38 ?_
        refine v_icmp_ne (pc := 40) (tgt := 46) dX7_seen_40 (by decide) (fun c_40 => ?_) (fun c_40 => ?_)
        · have hlt : c < 8 := by
            rw [hc] at c_40
            exact Nat.lt_of_le_of_ne hc8 (fun q => c_40 (by rw [q]; rfl))
          refine v_aload_n (pc := 46) dX7_seen_46 rfl ?_
          refine v_getR (pc := 47) fkX7_20 ly49 rfl dX7_seen_47 ?_
          refine v_iconst (pc := 50) (v := 3) (by decide) dX7_seen_50 ?_
          refine v_aload_n (pc := 51) dX7_seen_51 rfl ?_
          refine v_getI (pc := 52) fkX7_133 ly49 rfl dX7_seen_52 ?_
          rw [hc]
          refine v_imul (pc := 55) dX7_seen_55 ?_
          refine v_iload_n (pc := 56) dX7_seen_56 rfl ?_
          rw [ix30]
          refine v_iast (pc := 57) ly52 ?_ dX7_seen_57 ?_
          · exact vp_in_nI (show 0 + 3 * c < 24 by omega) (by omega)
          rw [nI_clamp (show 0 + 3 * c < 2 ^ 31 by omega)]
          refine v_aload_n (pc := 58) dX7_seen_58 rfl ?_
          refine v_getR (pc := 59) fkX7_20 ly49 rfl dX7_seen_59 ?_
          refine v_iconst (pc := 62) (v := 3) (by decide) dX7_seen_62 ?_
          refine v_aload_n (pc := 63) dX7_seen_63 rfl ?_
          refine v_getI (pc := 64) fkX7_133 ly49 rfl dX7_seen_64 ?_
          rw [mU_neA (by decide), hc]
          refine v_imul (pc := 67) dX7_seen_67 ?_
          refine v_iconst (pc := 68) (v := 1) (by decide) dX7_seen_68 ?_
          refine v_iadd (pc := 69) dX7_seen_69 ?_
          rw [ix31]
          refine v_iload_n (pc := 70) dX7_seen_70 rfl ?_
          refine v_iast (pc := 71) ly52 ?_ dX7_seen_71 ?_
          · exact vp_in_nI (show 1 + 3 * c < 24 by omega) (by omega)
          rw [nI_clamp (show 1 + 3 * c < 2 ^ 31 by omega)]
          refine v_aload_n (pc := 72) dX7_seen_72 rfl ?_
          refine v_getR (pc := 73) fkX7_20 ly49 rfl dX7_seen_73 ?_
          refine v_iconst (pc := 76) (v := 3) (by decide) dX7_seen_76 ?_
          refine v_aload_n (pc := 77) dX7_seen_77 rfl ?_
          refine v_getI (pc := 78) fkX7_133 ly49 rfl dX7_seen_78 ?_
          rw [mU_neA (by decide), mU_neA (by decide), hc]
          refine v_imul (pc := 81) dX7_seen_81 ?_
          refine v_iconst (pc := 82) (v := 2) (by decide) dX7_seen_82 ?_
          refine v_iadd (pc := 83) dX7_seen_83 ?_
          rw [ix32]
          refine v_iload_n (pc := 84) dX7_seen_84 rfl ?_
          refine v_iast (pc := 85) ly52 ?_ dX7_seen_85 ?_
          · exact vp_in_nI (show 2 + 3 * c < 24 by omega) (by omega)
          rw [nI_clamp (show 2 + 3 * c < 2 ^ 31 by omega)]
          refine v_aload_n (pc := 86) dX7_seen_86 rfl ?_
          refine v_dupR (pc := 87) dX7_seen_87 ?_
          refine v_getI (pc := 88) fkX7_133 ly49 rfl dX7_seen_88 ?_
          rw [mU_neA (by decide), mU_neA (by decide), mU_neA (by decide), hc]
          refine v_iconst (pc := 91) (v := 1) (by decide) dX7_seen_91 ?_
          refine v_iadd (pc := 92) dX7_seen_92 ?_
          rw [nI_1]
          refine v_putI (pc := 93) fkX7_133p ly49 rfl dX7_seen_93 ?_
          refine v_aload_n (pc := 96) dX7_seen_96 rfl ?_
          refine v_getI (pc := 97) fkX7_133 ly49 rfl dX7_seen_97 ?_
          refine v_iret (pc := 100) dX7_seen_100 (Nat.zero_le _) (Nat.zero_le _) ?_
          exact ⟨by rw [if_pos ⟨bI_n0.mp c_7, bI_n0.mp c_18, bI_n0.mp c_28⟩, if_pos hlt]; try rfl, by rw [if_pos ⟨bI_n0.mp c_7, bI_n0.mp c_18, bI_n0.mp c_28⟩, if_pos hlt]; try rfl, rfl⟩
        · have hlt : ¬ c < 8 := by
            rw [hc] at c_40
            intro q
            have := congrArg Int32.toInt c_40
            rw [nI_toInt (by omega)] at this
            have e8 : (8 : Int32).toInt = 8 := by decide
            omega
          refine v_bipush (pc := 43) (v := (-4)) (by decide) dX7_seen_43 ?_
          refine v_iret (pc := 45) dX7_seen_45 (Nat.zero_le _) (Nat.zero_le _) ?_
          exact ⟨by rw [if_pos ⟨bI_n0.mp c_7, bI_n0.mp c_18, bI_n0.mp c_28⟩, if_neg hlt]; try rfl, by rw [if_pos ⟨bI_n0.mp c_7, bI_n0.mp c_18, bI_n0.mp c_28⟩, if_neg hlt]; try rfl, rfl⟩
      · refine v_bipush (pc := 31) (v := (-2)) (by decide) dX7_seen_31 ?_
        refine v_iret (pc := 33) dX7_seen_33 (Nat.zero_le _) (Nat.zero_le _) ?_
        exact ⟨by rw [if_neg (fun q => bI_0.mp c_28 q.2.2)]; try rfl, by rw [if_neg (fun q => bI_0.mp c_28 q.2.2)]; try rfl, rfl⟩

set_option maxRecDepth 100000 in
set_option maxHeartbeats 4000000 in
theorem m_forget  {M : mM} {J : mJ}  : Ct yX7_forget cX7_forget 2 (some .int) (rmD 0) false [.ref 49] LY M J (mNi LY (fun r0 M1 J1 => r0 = M 49 4 ∧ M1 = mU M 49 4 0 ∧ J1 = J)) := by
  refine ct_of (own := RX7) (ini := false) (ls := [some (.ref 49), none]) 1 (by decide +kernel) rfl (fun h => by cases h) rfl (fun ad => by first | exact Nat.le_of_ble_eq_true rfl) ?_
  refine v_aload_n (pc := 0) dX7_forget_0 rfl ?_
  refine v_getI (pc := 1) fkX7_133 ly49 rfl dX7_forget_1 ?_
  refine v_ist_1 (pc := 4) dX7_forget_4 (by decide) rfl ?_
  refine v_aload_n (pc := 5) dX7_forget_5 rfl ?_
  refine v_iconst (pc := 6) (v := 0) (by decide) dX7_forget_6 ?_
  refine v_putI (pc := 7) fkX7_133p ly49 rfl dX7_forget_7 ?_
  refine v_iload_n (pc := 10) dX7_forget_10 rfl ?_
  refine v_iret (pc := 11) dX7_forget_11 (Nat.zero_le _) (Nat.zero_le _) ?_
  exact ⟨rfl, rfl, rfl⟩

abbrev wsC (M : mM) (i j : Nat) : Prop := mUp M (M 52 (0 + 3 * i)) ≤ M 52 (1 + 3 * i) ∧ rem10 (M 50 j + mUp M (M 52 (0 + 3 * i)) * M 53 9) = M 52 (2 + 3 * i)
def ws1 (M : mM) (i j : Nat) (a : Int32) : Int32 := if wsC M i j then a &&& (-1) else a &&& nbit (nI j)
def whsM (M : mM) (c : Nat) : Int32 := itN (fun i a => itN (ws1 M i) a 7) (M 49 0) c

set_option maxRecDepth 100000 in
set_option maxHeartbeats 1000000 in
theorem lm_whoI {i c : Nat} {a : Int32} {M : mM} {J : mJ} (hi : i < 8) (hs : 1 ≤ M 52 (0 + 3 * i)) (ho : V RX7 cX7_whoseSet 6 (some .int) false (rmD 1) false LY.length none (mNi LY (fun r0 M1 J1 => r0 = whsM M c ∧ M1 = M ∧ J1 = J)) 0 0 7 [some (.ref 49), some (.int (itN (ws1 M i) a 7)), some (.int (nI (i + 1))), none, none, none] [] LY M J) : ∀ (n j : Nat), n + j = 7 → V RX7 cX7_whoseSet 6 (some .int) false (rmD 1) false LY.length none (mNi LY (fun r0 M1 J1 => r0 = whsM M c ∧ M1 = M ∧ J1 = J)) 0 0 27 [some (.ref 49), some (.int (itN (ws1 M i) a j)), some (.int (nI i)), some (.int (M 52 (0 + 3 * i))), some (.int (nI (j))), none] [] LY M J := by
  intro n
  induction n with
  | zero =>
    intro j hj
    obtain rfl : j = 7 := by omega
    refine v_iload (pc := 27) dX7_whoseSet_27 rfl ?_
    refine v_bipush (pc := 29) (v := 7) (by decide) dX7_whoseSet_29 ?_
    refine v_icmp_ge (pc := 31) (tgt := 120) dX7_whoseSet_31 (by decide) (fun c_31 => ?_) (fun c_31 => absurd (by decide) c_31)
    refine v_inc_2 (pc := 120) (v := 1) dX7_whoseSet_120 (by decide) (by decide) rfl ?_
    refine v_goto (pc := 123) (tgt := 7) dX7_whoseSet_123 (by decide) ?_
    refine v_fg_3 (v_fg_4 ?_)
    rw [nI_1]
    exact ho
  | succ n ih =>
    intro j hj
    have hcj := nI_clamp (show j < 2 ^ 31 by omega)
    refine v_iload (pc := 27) dX7_whoseSet_27 rfl ?_
    refine v_bipush (pc := 29) (v := 7) (by decide) dX7_whoseSet_29 ?_
    refine v_icmp_ge (pc := 31) (tgt := 120) dX7_whoseSet_31 (by decide) (fun c_31 => absurd c_31 (nI_ge (b := 7) (show j < 7 by omega) (by omega))) (fun c_31 => ?_)
    refine v_aload_n (pc := 34) dX7_whoseSet_34 rfl ?_
    refine v_getR (pc := 35) fkX7_20 ly49 rfl dX7_whoseSet_35 ?_
    refine v_iconst (pc := 38) (v := 3) (by decide) dX7_whoseSet_38 ?_
    refine v_iload_n (pc := 39) dX7_whoseSet_39 rfl ?_
    refine v_imul (pc := 40) dX7_whoseSet_40 ?_
    refine v_iconst (pc := 41) (v := 1) (by decide) dX7_whoseSet_41 ?_
    refine v_iadd (pc := 42) dX7_whoseSet_42 ?_
    rw [ix31]
    refine v_iald (pc := 43) ly52 ?_ dX7_whoseSet_43 ?_
    · exact vp_in_nI (show 1 + 3 * i < 24 by omega) (by omega)
    rw [nI_clamp (show 1 + 3 * i < 2 ^ 31 by omega)]
    refine v_aload_n (pc := 44) dX7_whoseSet_44 rfl ?_
    refine v_iload_n (pc := 45) dX7_whoseSet_45 rfl ?_
    refine v_cV1i (pc := 46) dX7_whoseSet_46 mkX7_78 (m_up hs) ly49 rfl (Nat.le_of_ble_eq_true rfl) rfl (Nat.zero_le _) (Nat.zero_le _) (fun r_46 M_46 J_46 h_46 => ?_)
    obtain ⟨e1_46, e2_46, e3_46⟩ := h_46
    replace e1_46 := e1_46.symm
    replace e2_46 := e2_46.symm
    replace e3_46 := e3_46.symm
    subst e1_46 e2_46 e3_46
    refine v_icmp_lt (pc := 49) (tgt := 93) dX7_whoseSet_49 (by decide) (fun c_49 => ?_) (fun c_49 => ?_)
    · refine v_iconst (pc := 93) (v := 0) (by decide) dX7_whoseSet_93 ?_
      refine v_ist_5 (pc := 94) dX7_whoseSet_94 (by decide) rfl ?_
      refine v_iload_n (pc := 96) dX7_whoseSet_96 rfl ?_
      refine v_iload (pc := 97) dX7_whoseSet_97 rfl ?_
      refine v_if_eq (pc := 99) (tgt := 106) dX7_whoseSet_99 (by decide) (fun c_99 => ?_) (fun c_99 => ?_)
      · refine v_iconst (pc := 106) (v := 1) (by decide) dX7_whoseSet_106 ?_
        refine v_iload (pc := 107) dX7_whoseSet_107 rfl ?_
        refine v_ishl (pc := 109) dX7_whoseSet_109 ?_
        refine v_iconst (pc := 110) (v := (-1)) (by decide) dX7_whoseSet_110 ?_
        refine v_ixor (pc := 111) dX7_whoseSet_111 ?_
        refine v_iand (pc := 112) dX7_whoseSet_112 ?_
        refine v_ist_1 (pc := 113) dX7_whoseSet_113 (by decide) rfl ?_
        refine v_inc_4 (pc := 114) (v := 1) dX7_whoseSet_114 (by decide) (by decide) rfl ?_
        refine v_goto (pc := 117) (tgt := 27) dX7_whoseSet_117 (by decide) ?_
        refine v_fg_5 ?_
        rw [nI_1]
        have e9 := ih (j + 1) (by omega)
        rw [itN_s _ _ j] at e9
        rw [show ws1 M i j (itN (ws1 M i) a j) = _ from if_neg (fun q => absurd q.1 (Int32.not_le.mpr c_49))] at e9
        exact e9
      · refine v_iconst (pc := 102) (v := (-1)) (by decide) dX7_whoseSet_102 ?_
        refine v_goto (pc := 103) (tgt := 112) dX7_whoseSet_103 (by decide) ?_
        refine v_iand (pc := 112) dX7_whoseSet_112 ?_
        refine v_ist_1 (pc := 113) dX7_whoseSet_113 (by decide) rfl ?_
        refine v_inc_4 (pc := 114) (v := 1) dX7_whoseSet_114 (by decide) (by decide) rfl ?_
        refine v_goto (pc := 117) (tgt := 27) dX7_whoseSet_117 (by decide) ?_
        exact absurd rfl c_99
    · refine v_aload_n (pc := 52) dX7_whoseSet_52 rfl ?_
      refine v_getR (pc := 53) fkX7_7 ly49 rfl dX7_whoseSet_53 ?_
      refine v_iload (pc := 56) dX7_whoseSet_56 rfl ?_
      refine v_iald (pc := 58) ly50 ?_ dX7_whoseSet_58 ?_
      · exact vp_in_nI (show j < 7 by omega) (by omega)
      refine v_aload_n (pc := 59) dX7_whoseSet_59 rfl ?_
      refine v_iload_n (pc := 60) dX7_whoseSet_60 rfl ?_
      refine v_cV1i (pc := 61) dX7_whoseSet_61 mkX7_78 (m_up hs) ly49 rfl (Nat.le_of_ble_eq_true rfl) rfl (Nat.zero_le _) (Nat.zero_le _) (fun r_61 M_61 J_61 h_61 => ?_)
      obtain ⟨e1_61, e2_61, e3_61⟩ := h_61
      replace e1_61 := e1_61.symm
      replace e2_61 := e2_61.symm
      replace e3_61 := e3_61.symm
      subst e1_61 e2_61 e3_61
      refine v_aload_n (pc := 64) dX7_whoseSet_64 rfl ?_
      refine v_getR (pc := 65) fkX7_23 ly49 rfl dX7_whoseSet_65 ?_
      refine v_bipush (pc := 68) (v := 9) (by decide) dX7_whoseSet_68 ?_
      refine v_iald (pc := 70) ly53 ?_ dX7_whoseSet_70 ?_
      · unfold vp_in; decide
      rw [show Int32.toNatClampNeg 9 = 9 from rfl]
      refine v_imul (pc := 71) dX7_whoseSet_71 ?_
      refine v_iadd (pc := 72) dX7_whoseSet_72 ?_
      refine v_bipush (pc := 73) (v := 10) (by decide) dX7_whoseSet_73 ?_
      refine v_irem (pc := 75) (by decide) dX7_whoseSet_75 ?_
      refine v_aload_n (pc := 76) dX7_whoseSet_76 rfl ?_
      refine v_getR (pc := 77) fkX7_20 ly49 rfl dX7_whoseSet_77 ?_
      refine v_iconst (pc := 80) (v := 3) (by decide) dX7_whoseSet_80 ?_
      refine v_iload_n (pc := 81) dX7_whoseSet_81 rfl ?_
      refine v_imul (pc := 82) dX7_whoseSet_82 ?_
      refine v_iconst (pc := 83) (v := 2) (by decide) dX7_whoseSet_83 ?_
      refine v_iadd (pc := 84) dX7_whoseSet_84 ?_
      rw [ix32]
      refine v_iald (pc := 85) ly52 ?_ dX7_whoseSet_85 ?_
      · exact vp_in_nI (show 2 + 3 * i < 24 by omega) (by omega)
      rw [nI_clamp (show 2 + 3 * i < 2 ^ 31 by omega)]
      refine v_icmp_ne (pc := 86) (tgt := 93) dX7_whoseSet_86 (by decide) (fun c_86 => ?_) (fun c_86 => ?_)
      · refine v_iconst (pc := 93) (v := 0) (by decide) dX7_whoseSet_93 ?_
        refine v_ist_5 (pc := 94) dX7_whoseSet_94 (by decide) rfl ?_
        refine v_iload_n (pc := 96) dX7_whoseSet_96 rfl ?_
        refine v_iload (pc := 97) dX7_whoseSet_97 rfl ?_
        refine v_if_eq (pc := 99) (tgt := 106) dX7_whoseSet_99 (by decide) (fun c_99 => ?_) (fun c_99 => ?_)
        · refine v_iconst (pc := 106) (v := 1) (by decide) dX7_whoseSet_106 ?_
          refine v_iload (pc := 107) dX7_whoseSet_107 rfl ?_
          refine v_ishl (pc := 109) dX7_whoseSet_109 ?_
          refine v_iconst (pc := 110) (v := (-1)) (by decide) dX7_whoseSet_110 ?_
          refine v_ixor (pc := 111) dX7_whoseSet_111 ?_
          refine v_iand (pc := 112) dX7_whoseSet_112 ?_
          refine v_ist_1 (pc := 113) dX7_whoseSet_113 (by decide) rfl ?_
          refine v_inc_4 (pc := 114) (v := 1) dX7_whoseSet_114 (by decide) (by decide) rfl ?_
          refine v_goto (pc := 117) (tgt := 27) dX7_whoseSet_117 (by decide) ?_
          refine v_fg_5 ?_
          rw [nI_1]
          rw [hcj] at c_86
          have e9 := ih (j + 1) (by omega)
          rw [itN_s _ _ j] at e9
          rw [show ws1 M i j (itN (ws1 M i) a j) = _ from if_neg (fun q => c_86 q.2)] at e9
          exact e9
        · refine v_iconst (pc := 102) (v := (-1)) (by decide) dX7_whoseSet_102 ?_
          refine v_goto (pc := 103) (tgt := 112) dX7_whoseSet_103 (by decide) ?_
          refine v_iand (pc := 112) dX7_whoseSet_112 ?_
          refine v_ist_1 (pc := 113) dX7_whoseSet_113 (by decide) rfl ?_
          refine v_inc_4 (pc := 114) (v := 1) dX7_whoseSet_114 (by decide) (by decide) rfl ?_
          refine v_goto (pc := 117) (tgt := 27) dX7_whoseSet_117 (by decide) ?_
          exact absurd rfl c_99
      · refine v_iconst (pc := 89) (v := 1) (by decide) dX7_whoseSet_89 ?_
        refine v_goto (pc := 90) (tgt := 94) dX7_whoseSet_90 (by decide) ?_
        refine v_ist_5 (pc := 94) dX7_whoseSet_94 (by decide) rfl ?_
        refine v_iload_n (pc := 96) dX7_whoseSet_96 rfl ?_
        refine v_iload (pc := 97) dX7_whoseSet_97 rfl ?_
        refine v_if_eq (pc := 99) (tgt := 106) dX7_whoseSet_99 (by decide) (fun c_99 => ?_) (fun c_99 => ?_)
        · refine v_iconst (pc := 106) (v := 1) (by decide) dX7_whoseSet_106 ?_
          refine v_iload (pc := 107) dX7_whoseSet_107 rfl ?_
          refine v_ishl (pc := 109) dX7_whoseSet_109 ?_
          refine v_iconst (pc := 110) (v := (-1)) (by decide) dX7_whoseSet_110 ?_
          refine v_ixor (pc := 111) dX7_whoseSet_111 ?_
          refine v_iand (pc := 112) dX7_whoseSet_112 ?_
          refine v_ist_1 (pc := 113) dX7_whoseSet_113 (by decide) rfl ?_
          refine v_inc_4 (pc := 114) (v := 1) dX7_whoseSet_114 (by decide) (by decide) rfl ?_
          refine v_goto (pc := 117) (tgt := 27) dX7_whoseSet_117 (by decide) ?_
          exact absurd c_99 (by decide)
        · refine v_iconst (pc := 102) (v := (-1)) (by decide) dX7_whoseSet_102 ?_
          refine v_goto (pc := 103) (tgt := 112) dX7_whoseSet_103 (by decide) ?_
          refine v_iand (pc := 112) dX7_whoseSet_112 ?_
          refine v_ist_1 (pc := 113) dX7_whoseSet_113 (by decide) rfl ?_
          refine v_inc_4 (pc := 114) (v := 1) dX7_whoseSet_114 (by decide) (by decide) rfl ?_
          refine v_goto (pc := 117) (tgt := 27) dX7_whoseSet_117 (by decide) ?_
          refine v_fg_5 ?_
          rw [nI_1]
          rw [hcj] at c_86
          have e9 := ih (j + 1) (by omega)
          rw [itN_s _ _ j] at e9
          rw [show ws1 M i j (itN (ws1 M i) a j) = _ from if_pos ⟨Int32.not_lt.mp c_49, c_86⟩] at e9
          exact e9

set_option maxRecDepth 100000 in
set_option maxHeartbeats 1000000 in
theorem lm_whoO {c : Nat} {M : mM} {J : mJ} (hc : M 49 4 = nI c) (hc8 : c ≤ 8) (hs : ∀ i, i < c → 1 ≤ M 52 (0 + 3 * i)) : ∀ (n i : Nat), n + i = c → V RX7 cX7_whoseSet 6 (some .int) false (rmD 1) false LY.length none (mNi LY (fun r0 M1 J1 => r0 = whsM M c ∧ M1 = M ∧ J1 = J)) 0 0 7 [some (.ref 49), some (.int (itN (fun i a => itN (ws1 M i) a 7) (M 49 0) i)), some (.int (nI (i))), none, none, none] [] LY M J := by
  intro n
  induction n with
  | zero =>
    intro i hi
    obtain rfl : i = c := by omega
    refine v_iload_n (pc := 7) dX7_whoseSet_7 rfl ?_
    refine v_aload_n (pc := 8) dX7_whoseSet_8 rfl ?_
    refine v_getI (pc := 9) fkX7_133 ly49 rfl dX7_whoseSet_9 ?_
    refine v_icmp_ge (pc := 12) (tgt := 126) dX7_whoseSet_12 (by decide) (fun c_12 => ?_) (fun c_12 => absurd (by rw [hc]; exact nI_le (Nat.le_refl _) (by omega)) c_12)
    refine v_iload_n (pc := 126) dX7_whoseSet_126 rfl ?_
    refine v_iret (pc := 127) dX7_whoseSet_127 (Nat.zero_le _) (Nat.zero_le _) ?_
    exact ⟨rfl, rfl, rfl⟩
  | succ n ih =>
    intro i hi
    refine v_iload_n (pc := 7) dX7_whoseSet_7 rfl ?_
    refine v_aload_n (pc := 8) dX7_whoseSet_8 rfl ?_
    refine v_getI (pc := 9) fkX7_133 ly49 rfl dX7_whoseSet_9 ?_
    refine v_icmp_ge (pc := 12) (tgt := 126) dX7_whoseSet_12 (by decide) (fun c_12 => absurd c_12 (by rw [hc]; exact nI_ge (show i < c by omega) (by omega))) (fun c_12 => ?_)
    refine v_aload_n (pc := 15) dX7_whoseSet_15 rfl ?_
    refine v_getR (pc := 16) fkX7_20 ly49 rfl dX7_whoseSet_16 ?_
    refine v_iconst (pc := 19) (v := 3) (by decide) dX7_whoseSet_19 ?_
    refine v_iload_n (pc := 20) dX7_whoseSet_20 rfl ?_
    refine v_imul (pc := 21) dX7_whoseSet_21 ?_
    rw [ix30]
    refine v_iald (pc := 22) ly52 ?_ dX7_whoseSet_22 ?_
    · exact vp_in_nI (show 0 + 3 * i < 24 by omega) (by omega)
    rw [nI_clamp (show 0 + 3 * i < 2 ^ 31 by omega)]
    refine v_ist_3 (pc := 23) dX7_whoseSet_23 (by decide) rfl ?_
    refine v_iconst (pc := 24) (v := 0) (by decide) dX7_whoseSet_24 ?_
    refine v_ist_4 (pc := 25) dX7_whoseSet_25 (by decide) rfl ?_
    exact lm_whoI (by omega) (hs i (by omega)) (ih (i + 1) (by omega)) 7 0 rfl

set_option maxRecDepth 100000 in
set_option maxHeartbeats 4000000 in
theorem m_whoSet {c : Nat} {M : mM} {J : mJ} (hc : M 49 4 = nI c) (hc8 : c ≤ 8) (hs : ∀ i, i < c → 1 ≤ M 52 (0 + 3 * i)) : Ct yX7_whoseSet cX7_whoseSet 6 (some .int) (rmD 1) false [.ref 49] LY M J (mNi LY (fun r0 M1 J1 => r0 = whsM M c ∧ M1 = M ∧ J1 = J)) := by
  refine ct_of (own := RX7) (ini := false) (ls := [some (.ref 49), none, none, none, none, none]) 5 (by decide +kernel) rfl (fun h => by cases h) rfl (fun ad => by first | exact Nat.le_of_ble_eq_true rfl) ?_
  refine v_aload_n (pc := 0) dX7_whoseSet_0 rfl ?_
  refine v_getI (pc := 1) fkX7_53 ly49 rfl dX7_whoseSet_1 ?_
  refine v_ist_1 (pc := 4) dX7_whoseSet_4 (by decide) rfl ?_
  refine v_iconst (pc := 5) (v := 0) (by decide) dX7_whoseSet_5 ?_
  refine v_ist_2 (pc := 6) dX7_whoseSet_6 (by decide) rfl ?_
  exact lm_whoO hc hc8 hs c 0 rfl

set_option maxRecDepth 100000 in
set_option maxHeartbeats 4000000 in
theorem m_whose {c : Nat} {M : mM} {J : mJ} (hc : M 49 4 = nI c) (hc8 : c ≤ 8) (hs : ∀ i, i < c → 1 ≤ M 52 (0 + 3 * i)) : Ct yX7_whose cX7_whose 1 (some .int) (rmD 2) false [.ref 49] LY M J (mNi LY (fun r0 M1 J1 => r0 = whsM M c ∧ M1 = M ∧ J1 = J)) := by
  refine ct_of (own := RX7) (ini := false) (ls := [some (.ref 49)]) 0 (by decide +kernel) rfl (fun h => by cases h) rfl (fun ad => by first | exact Nat.le_of_ble_eq_true rfl) ?_
  refine v_aload_n (pc := 0) dX7_whose_0 rfl ?_
  refine v_cV0i (pc := 1) dX7_whose_1 mkX7_136 (m_whoSet hc hc8 hs) ly49 rfl (Nat.le_of_ble_eq_true rfl) rfl (Nat.zero_le _) (Nat.zero_le _) (fun r_1 M_1 J_1 h_1 => ?_)
  obtain ⟨e1_1, e2_1, e3_1⟩ := h_1
  replace e1_1 := e1_1.symm
  replace e2_1 := e2_1.symm
  replace e3_1 := e3_1.symm
  subst e1_1 e2_1 e3_1
  refine v_iret (pc := 4) dX7_whose_4 (Nat.zero_le _) (Nat.zero_le _) ?_
  exact ⟨rfl, rfl, rfl⟩

def alN (u : Int32) (pl : Nat → Int32) (p q : Nat) : Bool := decide (bt u (nI p) ∧ bt u (nI q) ∧ pl p = pl q)

set_option maxRecDepth 100000 in
set_option maxHeartbeats 1000000 in
theorem lm_alikeI {x u : Int32} {p m : Nat} (hp : p < 7) {M : mM} {J : mJ} (ho : ∀ d : Int32, V RX7 cX7_alike 6 (some .int) false (rmD 2) false LY.length none (mNi LY (fun r0 M1 J1 => r0 = aOut (alN u (M 50)) x m (p + 1) d ∧ M1 = M ∧ J1 = J)) 0 0 10 [some (.ref 49), some (.int x), some (.int u), some (.int d), some (.int (nI (p + 1))), none] [] LY M J) : ∀ (n z : Nat) (d : Int32), n + z = 7 → V RX7 cX7_alike 6 (some .int) false (rmD 2) false LY.length none (mNi LY (fun r0 M1 J1 => r0 = (match aIn (alN u (M 50)) x p n z d with | .inl r => r | .inr d => aOut (alN u (M 50)) x m (p + 1) d) ∧ M1 = M ∧ J1 = J)) 0 0 23 [some (.ref 49), some (.int x), some (.int u), some (.int d), some (.int (nI p)), some (.int (nI z))] [] LY M J := by
  have hcp := nI_clamp (show p < 2 ^ 31 by omega)
  intro n
  induction n with
  | zero =>
    intro z d hz
    obtain rfl : z = 7 := by omega
    refine v_iload (pc := 23) dX7_alike_23 rfl ?_
    refine v_bipush (pc := 25) (v := 7) (by decide) dX7_alike_25 ?_
    refine v_icmp_ge (pc := 27) (tgt := 88) dX7_alike_27 (by decide) (fun c_27 => ?_) (fun c_27 => absurd (by decide) c_27)
    refine v_inc_4 (pc := 88) (v := 1) dX7_alike_88 (by decide) (by decide) rfl ?_
    refine v_goto (pc := 91) (tgt := 10) dX7_alike_91 (by decide) ?_
    refine v_fg_5 ?_
    rw [nI_1]
    exact ho d
  | succ n ih =>
    intro z d hz
    have hcz := nI_clamp (show z < 2 ^ 31 by omega)
    refine v_iload (pc := 23) dX7_alike_23 rfl ?_
    refine v_bipush (pc := 25) (v := 7) (by decide) dX7_alike_25 ?_
    refine v_icmp_ge (pc := 27) (tgt := 88) dX7_alike_27 (by decide) (fun c_27 => absurd c_27 (nI_ge (b := 7) (show z < 7 by omega) (by omega))) (fun c_27 => ?_)
    refine v_iload_n (pc := 30) dX7_alike_30 rfl ?_
    refine v_iload (pc := 31) dX7_alike_31 rfl ?_
    refine v_cS2i (pc := 33) dX7_alike_33 mkX7_56 m_has (Nat.le_of_ble_eq_true rfl) rfl (Nat.zero_le _) (Nat.zero_le _) (fun r_33 M_33 J_33 h_33 => ?_)
    obtain ⟨e1_33, e2_33, e3_33⟩ := h_33
    replace e1_33 := e1_33.symm
    replace e2_33 := e2_33.symm
    replace e3_33 := e3_33.symm
    subst e1_33 e2_33 e3_33
    refine v_if_eq (pc := 36) (tgt := 82) dX7_alike_36 (by decide) (fun c_36 => ?_) (fun c_36 => ?_)
    · refine v_inc_5 (pc := 82) (v := 1) dX7_alike_82 (by decide) (by decide) rfl ?_
      refine v_goto (pc := 85) (tgt := 23) dX7_alike_85 (by decide) ?_
      rw [nI_1]
      have hC : ¬ alN u (M 50) p z = true := fun h => bI_0.mp c_36 (of_decide_eq_true h).1
      refine V.mono (fun o a b e q => ?_) (ih (z + 1) d (by omega))
      rw [aIn, if_neg hC]
      exact q
    · refine v_iload_n (pc := 39) dX7_alike_39 rfl ?_
      refine v_iload (pc := 40) dX7_alike_40 rfl ?_
      refine v_cS2i (pc := 42) dX7_alike_42 mkX7_56 m_has (Nat.le_of_ble_eq_true rfl) rfl (Nat.zero_le _) (Nat.zero_le _) (fun r_42 M_42 J_42 h_42 => ?_)
      obtain ⟨e1_42, e2_42, e3_42⟩ := h_42
      replace e1_42 := e1_42.symm
      replace e2_42 := e2_42.symm
      replace e3_42 := e3_42.symm
      subst e1_42 e2_42 e3_42
      refine v_if_eq (pc := 45) (tgt := 82) dX7_alike_45 (by decide) (fun c_45 => ?_) (fun c_45 => ?_)
      · refine v_inc_5 (pc := 82) (v := 1) dX7_alike_82 (by decide) (by decide) rfl ?_
        refine v_goto (pc := 85) (tgt := 23) dX7_alike_85 (by decide) ?_
        rw [nI_1]
        have hC : ¬ alN u (M 50) p z = true := fun h => bI_0.mp c_45 (of_decide_eq_true h).2.1
        refine V.mono (fun o a b e q => ?_) (ih (z + 1) d (by omega))
        rw [aIn, if_neg hC]
        exact q
      · refine v_aload_n (pc := 48) dX7_alike_48 rfl ?_
        refine v_getR (pc := 49) fkX7_7 ly49 rfl dX7_alike_49 ?_
        refine v_iload (pc := 52) dX7_alike_52 rfl ?_
        refine v_iald (pc := 54) ly50 ?_ dX7_alike_54 ?_
        · exact vp_in_nI hp (by omega)
        refine v_aload_n (pc := 55) dX7_alike_55 rfl ?_
        refine v_getR (pc := 56) fkX7_7 ly49 rfl dX7_alike_56 ?_
        refine v_iload (pc := 59) dX7_alike_59 rfl ?_
        refine v_iald (pc := 61) ly50 ?_ dX7_alike_61 ?_
        · exact vp_in_nI (show z < 7 by omega) (by omega)
        refine v_icmp_ne (pc := 62) (tgt := 82) dX7_alike_62 (by decide) (fun c_62 => ?_) (fun c_62 => ?_)
        · refine v_inc_5 (pc := 82) (v := 1) dX7_alike_82 (by decide) (by decide) rfl ?_
          refine v_goto (pc := 85) (tgt := 23) dX7_alike_85 (by decide) ?_
          rw [nI_1]
          rw [hcp, hcz] at c_62
          have hC : ¬ alN u (M 50) p z = true := fun h => c_62 (of_decide_eq_true h).2.2
          refine V.mono (fun o a b e q => ?_) (ih (z + 1) d (by omega))
          rw [aIn, if_neg hC]
          exact q
        · refine v_iload_n (pc := 65) dX7_alike_65 rfl ?_
          refine v_iload_n (pc := 66) dX7_alike_66 rfl ?_
          refine v_icmp_ne (pc := 67) (tgt := 79) dX7_alike_67 (by decide) (fun c_67 => ?_) (fun c_67 => ?_)
          · refine v_inc_3 (pc := 79) (v := 1) dX7_alike_79 (by decide) (by decide) rfl ?_
            refine v_inc_5 (pc := 82) (v := 1) dX7_alike_82 (by decide) (by decide) rfl ?_
            refine v_goto (pc := 85) (tgt := 23) dX7_alike_85 (by decide) ?_
            rw [nI_1]
            rw [hcp, hcz] at c_62
            have hC : alN u (M 50) p z = true := decide_eq_true ⟨bI_n0.mp c_36, bI_n0.mp c_45, c_62⟩
            refine V.mono (fun o a b e q => ?_) (ih (z + 1) (d + 1) (by omega))
            rw [aIn, if_pos hC, if_neg c_67]
            exact q
          · refine v_bipush (pc := 70) (v := 10) (by decide) dX7_alike_70 ?_
            refine v_iload (pc := 72) dX7_alike_72 rfl ?_
            refine v_imul (pc := 74) dX7_alike_74 ?_
            refine v_iload (pc := 75) dX7_alike_75 rfl ?_
            refine v_iadd (pc := 77) dX7_alike_77 ?_
            refine v_iret (pc := 78) dX7_alike_78 (Nat.zero_le _) (Nat.zero_le _) ?_
            rw [hcp, hcz] at c_62
            have hC : alN u (M 50) p z = true := decide_eq_true ⟨bI_n0.mp c_36, bI_n0.mp c_45, c_62⟩
            exact ⟨by rw [aIn, if_pos hC, if_pos c_67], rfl, rfl⟩

set_option maxRecDepth 100000 in
set_option maxHeartbeats 1000000 in
theorem lm_alikeO {x u : Int32} {M : mM} {J : mJ} : ∀ (m p : Nat) (d : Int32), m + p = 7 → V RX7 cX7_alike 6 (some .int) false (rmD 2) false LY.length none (mNi LY (fun r0 M1 J1 => r0 = aOut (alN u (M 50)) x m p d ∧ M1 = M ∧ J1 = J)) 0 0 10 [some (.ref 49), some (.int x), some (.int u), some (.int d), some (.int (nI p)), none] [] LY M J := by
  intro m
  induction m with
  | zero =>
    intro p d hz
    obtain rfl : p = 7 := by omega
    refine v_iload (pc := 10) dX7_alike_10 rfl ?_
    refine v_bipush (pc := 12) (v := 7) (by decide) dX7_alike_12 ?_
    refine v_icmp_ge (pc := 14) (tgt := 94) dX7_alike_14 (by decide) (fun c_14 => ?_) (fun c_14 => absurd (by decide) c_14)
    refine v_iload_n (pc := 94) dX7_alike_94 rfl ?_
    refine v_iconst (pc := 95) (v := (-1)) (by decide) dX7_alike_95 ?_
    refine v_icmp_ne (pc := 96) (tgt := 103) dX7_alike_96 (by decide) (fun c_96 => ?_) (fun c_96 => ?_)
    · refine v_bipush (pc := 103) (v := (-6)) (by decide) dX7_alike_103 ?_
      refine v_iret (pc := 105) dX7_alike_105 (Nat.zero_le _) (Nat.zero_le _) ?_
      exact ⟨by rw [aOut, if_neg c_96], rfl, rfl⟩
    · refine v_iload_n (pc := 99) dX7_alike_99 rfl ?_
      refine v_goto (pc := 100) (tgt := 105) dX7_alike_100 (by decide) ?_
      refine v_iret (pc := 105) dX7_alike_105 (Nat.zero_le _) (Nat.zero_le _) ?_
      exact ⟨by rw [aOut, if_pos c_96], rfl, rfl⟩
  | succ m ih =>
    intro p d hz
    refine v_iload (pc := 10) dX7_alike_10 rfl ?_
    refine v_bipush (pc := 12) (v := 7) (by decide) dX7_alike_12 ?_
    refine v_icmp_ge (pc := 14) (tgt := 94) dX7_alike_14 (by decide) (fun c_14 => absurd c_14 (nI_ge (b := 7) (show p < 7 by omega) (by omega))) (fun c_14 => ?_)
    refine v_iload (pc := 17) dX7_alike_17 rfl ?_
    refine v_iconst (pc := 19) (v := 1) (by decide) dX7_alike_19 ?_
    refine v_iadd (pc := 20) dX7_alike_20 ?_
    refine v_ist_5 (pc := 21) dX7_alike_21 (by decide) rfl ?_
    rw [nI_1]
    exact lm_alikeI (by omega) (fun d => ih (p + 1) d (by omega)) (6 - p) (p + 1) d (by omega)

set_option maxRecDepth 100000 in
set_option maxHeartbeats 4000000 in
theorem m_alike {x : Int32} {c : Nat} {M : mM} {J : mJ} (hc : M 49 4 = nI c) (hc8 : c ≤ 8) (hs : ∀ i, i < c → 1 ≤ M 52 (0 + 3 * i)) : Ct yX7_alike cX7_alike 6 (some .int) (rmD 2) false [.ref 49, .int x] LY M J (mNi LY (fun r0 M1 J1 => r0 = aOut (alN (whsM M c) (M 50)) x 7 0 0 ∧ M1 = M ∧ J1 = J)) := by
  refine ct_of (own := RX7) (ini := false) (ls := [some (.ref 49), some (.int x), none, none, none, none]) 4 (by decide +kernel) rfl (fun h => by cases h) rfl (fun ad => by first | exact Nat.le_of_ble_eq_true rfl) ?_
  refine v_aload_n (pc := 0) dX7_alike_0 rfl ?_
  refine v_cV0i (pc := 1) dX7_alike_1 mkX7_136 (m_whoSet hc hc8 hs) ly49 rfl (Nat.le_of_ble_eq_true rfl) rfl (Nat.zero_le _) (Nat.zero_le _) (fun r_1 M_1 J_1 h_1 => ?_)
  obtain ⟨e1_1, e2_1, e3_1⟩ := h_1
  replace e1_1 := e1_1.symm
  replace e2_1 := e2_1.symm
  replace e3_1 := e3_1.symm
  subst e1_1 e2_1 e3_1
  refine v_ist_2 (pc := 4) dX7_alike_4 (by decide) rfl ?_
  refine v_iconst (pc := 5) (v := 0) (by decide) dX7_alike_5 ?_
  refine v_ist_3 (pc := 6) dX7_alike_6 (by decide) rfl ?_
  refine v_iconst (pc := 7) (v := 0) (by decide) dX7_alike_7 ?_
  refine v_ist_4 (pc := 8) dX7_alike_8 (by decide) rfl ?_
  exact lm_alikeO 7 0 0 rfl

def tldM (M : mM) (x : Int32) : Int32 := if 30 ≤ x then (if 30 ≤ x ∧ x ≤ 35 then M 51 (x - 30).toNatClampNeg else -2) else if 20 ≤ x then (if hT M (x - 20) then M 53 (x - 20).toNatClampNeg else -2) else if 10 ≤ x then (if hT M (x - 10) then M 50 (x - 10).toNatClampNeg else -2) else
  if x = 0 then M 49 8 else if x = 1 then M 49 0 else if x = 2 then M 53 7 else if x = 3 then M 53 8 else if x = 4 then M 49 2 else if x = 5 then M 53 9 else if x = 6 then M 49 4 else if x = 7 then M 53 10 else -2
theorem hT_in {M : mM} {x : Int32} {n : Nat} (h : hT M x) (hn : 7 ≤ n) (hn2 : n < 2 ^ 31) : vp_in x n := by
  obtain ⟨k, hk, rfl⟩ := gM_nat ⟨h.1, h.2.1⟩
  exact vp_in_nI (by omega) (by omega)

set_option maxRecDepth 100000 in
set_option maxHeartbeats 4000000 in
theorem m_told {x : Int32} {M : mM} {J : mJ}  : Ct yX7_told cX7_told 2 (some .int) (rmD 2) false [.ref 49, .int x] LY M J (mNi LY (fun r0 M1 J1 => r0 = tldM M x ∧ M1 = M ∧ J1 = J)) := by
  refine ct_of (own := RX7) (ini := false) (ls := [some (.ref 49), some (.int x)]) 0 (by decide +kernel) rfl (fun h => by cases h) rfl (fun ad => by first | exact Nat.le_of_ble_eq_true rfl) ?_
  refine v_iload_n (pc := 0) dX7_told_0 rfl ?_
  refine v_bipush (pc := 1) (v := 30) (by decide) dX7_told_1 ?_
  refine v_icmp_lt (pc := 3) (tgt := 32) dX7_told_3 (by decide) (fun c_3 => ?_) (fun c_3 => ?_)
  · refine v_iload_n (pc := 32) dX7_told_32 rfl ?_
    refine v_bipush (pc := 33) (v := 20) (by decide) dX7_told_33 ?_
    refine v_icmp_lt (pc := 35) (tgt := 64) dX7_told_35 (by decide) (fun c_35 => ?_) (fun c_35 => ?_)
    · refine v_iload_n (pc := 64) dX7_told_64 rfl ?_
      refine v_bipush (pc := 65) (v := 10) (by decide) dX7_told_65 ?_
      refine v_icmp_lt (pc := 67) (tgt := 96) dX7_told_67 (by decide) (fun c_67 => ?_) (fun c_67 => ?_)
      · refine v_iload_n (pc := 96) dX7_told_96 rfl ?_
        refine v_tbl7 (pc := 97) (t0 := 140) (t1 := 145) (t2 := 150) (t3 := 158) (t4 := 166) (t5 := 171) (t6 := 179) (t7 := 184) dX7_told_97 rfl rfl rfl rfl rfl rfl rfl (by decide) (by decide) (by decide) (by decide) (by decide) (by decide) (by decide) (by decide) (fun c_97 => ?_) (fun c_97 => ?_) (fun c_97 => ?_) (fun c_97 => ?_) (fun c_97 => ?_) (fun c_97 => ?_) (fun c_97 => ?_) (fun c_97 => ?_)
        · refine v_aload_n (pc := 140) dX7_told_140 rfl ?_
          refine v_getI (pc := 141) fkX7_68 ly49 rfl dX7_told_141 ?_
          refine v_iret (pc := 144) dX7_told_144 (Nat.zero_le _) (Nat.zero_le _) ?_
          have h1 := c_3
          have h2 := c_35
          have h3 := c_67
          subst c_97
          unfold tldM
          exact ⟨rfl, rfl, rfl⟩
        · refine v_aload_n (pc := 145) dX7_told_145 rfl ?_
          refine v_getI (pc := 146) fkX7_53 ly49 rfl dX7_told_146 ?_
          refine v_iret (pc := 149) dX7_told_149 (Nat.zero_le _) (Nat.zero_le _) ?_
          have h1 := c_3
          have h2 := c_35
          have h3 := c_67
          subst c_97
          unfold tldM
          exact ⟨rfl, rfl, rfl⟩
        · refine v_aload_n (pc := 150) dX7_told_150 rfl ?_
          refine v_getR (pc := 151) fkX7_23 ly49 rfl dX7_told_151 ?_
          refine v_bipush (pc := 154) (v := 7) (by decide) dX7_told_154 ?_
          refine v_iald (pc := 156) ly53 ?_ dX7_told_156 ?_
          · unfold vp_in; decide
          rw [show Int32.toNatClampNeg 7 = 7 from rfl]
          refine v_iret (pc := 157) dX7_told_157 (Nat.zero_le _) (Nat.zero_le _) ?_
          have h1 := c_3
          have h2 := c_35
          have h3 := c_67
          subst c_97
          unfold tldM
          exact ⟨rfl, rfl, rfl⟩
        · refine v_aload_n (pc := 158) dX7_told_158 rfl ?_
          refine v_getR (pc := 159) fkX7_23 ly49 rfl dX7_told_159 ?_
          refine v_bipush (pc := 162) (v := 8) (by decide) dX7_told_162 ?_
          refine v_iald (pc := 164) ly53 ?_ dX7_told_164 ?_
          · unfold vp_in; decide
          rw [show Int32.toNatClampNeg 8 = 8 from rfl]
          refine v_iret (pc := 165) dX7_told_165 (Nat.zero_le _) (Nat.zero_le _) ?_
          have h1 := c_3
          have h2 := c_35
          have h3 := c_67
          subst c_97
          unfold tldM
          exact ⟨rfl, rfl, rfl⟩
        · refine v_aload_n (pc := 166) dX7_told_166 rfl ?_
          refine v_getI (pc := 167) fkX7_13 ly49 rfl dX7_told_167 ?_
          refine v_iret (pc := 170) dX7_told_170 (Nat.zero_le _) (Nat.zero_le _) ?_
          have h1 := c_3
          have h2 := c_35
          have h3 := c_67
          subst c_97
          unfold tldM
          exact ⟨rfl, rfl, rfl⟩
        · refine v_aload_n (pc := 171) dX7_told_171 rfl ?_
          refine v_getR (pc := 172) fkX7_23 ly49 rfl dX7_told_172 ?_
          refine v_bipush (pc := 175) (v := 9) (by decide) dX7_told_175 ?_
          refine v_iald (pc := 177) ly53 ?_ dX7_told_177 ?_
          · unfold vp_in; decide
          rw [show Int32.toNatClampNeg 9 = 9 from rfl]
          refine v_iret (pc := 178) dX7_told_178 (Nat.zero_le _) (Nat.zero_le _) ?_
          have h1 := c_3
          have h2 := c_35
          have h3 := c_67
          subst c_97
          unfold tldM
          exact ⟨rfl, rfl, rfl⟩
        · refine v_aload_n (pc := 179) dX7_told_179 rfl ?_
          refine v_getI (pc := 180) fkX7_133 ly49 rfl dX7_told_180 ?_
          refine v_iret (pc := 183) dX7_told_183 (Nat.zero_le _) (Nat.zero_le _) ?_
          have h1 := c_3
          have h2 := c_35
          have h3 := c_67
          subst c_97
          unfold tldM
          exact ⟨rfl, rfl, rfl⟩
        · refine v_iload_n (pc := 184) dX7_told_184 rfl ?_
          refine v_bipush (pc := 185) (v := 7) (by decide) dX7_told_185 ?_
          refine v_icmp_ne (pc := 187) (tgt := 200) dX7_told_187 (by decide) (fun c_187 => ?_) (fun c_187 => ?_)
          · refine v_bipush (pc := 200) (v := (-2)) (by decide) dX7_told_200 ?_
            refine v_iret (pc := 202) dX7_told_202 (Nat.zero_le _) (Nat.zero_le _) ?_
            unfold tldM
            exact ⟨by rw [if_neg (Int32.not_le.mpr c_3), if_neg (Int32.not_le.mpr c_35), if_neg (Int32.not_le.mpr c_67), if_neg (fun q => by subst q; exact absurd c_97 (by decide)), if_neg (fun q => by subst q; exact absurd c_97 (by decide)), if_neg (fun q => by subst q; exact absurd c_97 (by decide)), if_neg (fun q => by subst q; exact absurd c_97 (by decide)), if_neg (fun q => by subst q; exact absurd c_97 (by decide)), if_neg (fun q => by subst q; exact absurd c_97 (by decide)), if_neg (fun q => by subst q; exact absurd c_97 (by decide)), if_neg c_187], rfl, rfl⟩
          · refine v_aload_n (pc := 190) dX7_told_190 rfl ?_
            refine v_getR (pc := 191) fkX7_23 ly49 rfl dX7_told_191 ?_
            refine v_bipush (pc := 194) (v := 10) (by decide) dX7_told_194 ?_
            refine v_iald (pc := 196) ly53 ?_ dX7_told_196 ?_
            · unfold vp_in; decide
            rw [show Int32.toNatClampNeg 10 = 10 from rfl]
            refine v_goto (pc := 197) (tgt := 202) dX7_told_197 (by decide) ?_
            refine v_iret (pc := 202) dX7_told_202 (Nat.zero_le _) (Nat.zero_le _) ?_
            subst c_187
            unfold tldM
            exact ⟨rfl, rfl, rfl⟩
      · refine v_aload_n (pc := 70) dX7_told_70 rfl ?_
        refine v_iload_n (pc := 71) dX7_told_71 rfl ?_
        refine v_bipush (pc := 72) (v := 10) (by decide) dX7_told_72 ?_
        refine v_isub (pc := 74) dX7_told_74 ?_
        refine v_cV1i (pc := 75) dX7_told_75 mkX7_64 m_isThere ly49 rfl (Nat.le_of_ble_eq_true rfl) rfl (Nat.zero_le _) (Nat.zero_le _) (fun r_75 M_75 J_75 h_75 => ?_)
        obtain ⟨e1_75, e2_75, e3_75⟩ := h_75
        replace e1_75 := e1_75.symm
        replace e2_75 := e2_75.symm
        replace e3_75 := e3_75.symm
        subst e1_75 e2_75 e3_75
        refine v_if_eq (pc := 78) (tgt := 93) dX7_told_78 (by decide) (fun c_78 => ?_) (fun c_78 => ?_)
        · refine v_bipush (pc := 93) (v := (-2)) (by decide) dX7_told_93 ?_
          refine v_iret (pc := 95) dX7_told_95 (Nat.zero_le _) (Nat.zero_le _) ?_
          unfold tldM
          exact ⟨by rw [if_neg (Int32.not_le.mpr c_3), if_neg (Int32.not_le.mpr c_35), if_pos (Int32.not_lt.mp c_67), if_neg (bI_0.mp c_78)], rfl, rfl⟩
        · refine v_aload_n (pc := 81) dX7_told_81 rfl ?_
          refine v_getR (pc := 82) fkX7_7 ly49 rfl dX7_told_82 ?_
          refine v_iload_n (pc := 85) dX7_told_85 rfl ?_
          refine v_bipush (pc := 86) (v := 10) (by decide) dX7_told_86 ?_
          refine v_isub (pc := 88) dX7_told_88 ?_
          refine v_iald (pc := 89) ly50 ?_ dX7_told_89 ?_
          · exact hT_in (M := M) (by first | exact bI_n0.mp c_46 | exact bI_n0.mp c_78) (by omega) (by omega)
          refine v_goto (pc := 90) (tgt := 95) dX7_told_90 (by decide) ?_
          refine v_iret (pc := 95) dX7_told_95 (Nat.zero_le _) (Nat.zero_le _) ?_
          unfold tldM
          exact ⟨by rw [if_neg (Int32.not_le.mpr c_3), if_neg (Int32.not_le.mpr c_35), if_pos (Int32.not_lt.mp c_67), if_pos (bI_n0.mp c_78)], rfl, rfl⟩
    · refine v_aload_n (pc := 38) dX7_told_38 rfl ?_
      refine v_iload_n (pc := 39) dX7_told_39 rfl ?_
      refine v_bipush (pc := 40) (v := 20) (by decide) dX7_told_40 ?_
      refine v_isub (pc := 42) dX7_told_42 ?_
      refine v_cV1i (pc := 43) dX7_told_43 mkX7_64 m_isThere ly49 rfl (Nat.le_of_ble_eq_true rfl) rfl (Nat.zero_le _) (Nat.zero_le _) (fun r_43 M_43 J_43 h_43 => ?_)
      obtain ⟨e1_43, e2_43, e3_43⟩ := h_43
      replace e1_43 := e1_43.symm
      replace e2_43 := e2_43.symm
      replace e3_43 := e3_43.symm
      subst e1_43 e2_43 e3_43
      refine v_if_eq (pc := 46) (tgt := 61) dX7_told_46 (by decide) (fun c_46 => ?_) (fun c_46 => ?_)
      · refine v_bipush (pc := 61) (v := (-2)) (by decide) dX7_told_61 ?_
        refine v_iret (pc := 63) dX7_told_63 (Nat.zero_le _) (Nat.zero_le _) ?_
        unfold tldM
        exact ⟨by rw [if_neg (Int32.not_le.mpr c_3), if_pos (Int32.not_lt.mp c_35), if_neg (bI_0.mp c_46)], rfl, rfl⟩
      · refine v_aload_n (pc := 49) dX7_told_49 rfl ?_
        refine v_getR (pc := 50) fkX7_23 ly49 rfl dX7_told_50 ?_
        refine v_iload_n (pc := 53) dX7_told_53 rfl ?_
        refine v_bipush (pc := 54) (v := 20) (by decide) dX7_told_54 ?_
        refine v_isub (pc := 56) dX7_told_56 ?_
        refine v_iald (pc := 57) ly53 ?_ dX7_told_57 ?_
        · exact hT_in (M := M) (by first | exact bI_n0.mp c_46 | exact bI_n0.mp c_78) (by omega) (by omega)
        refine v_goto (pc := 58) (tgt := 63) dX7_told_58 (by decide) ?_
        refine v_iret (pc := 63) dX7_told_63 (Nat.zero_le _) (Nat.zero_le _) ?_
        unfold tldM
        exact ⟨by rw [if_neg (Int32.not_le.mpr c_3), if_pos (Int32.not_lt.mp c_35), if_pos (bI_n0.mp c_46)], rfl, rfl⟩
  · refine v_iload_n (pc := 6) dX7_told_6 rfl ?_
    refine v_bipush (pc := 7) (v := 30) (by decide) dX7_told_7 ?_
    refine v_bipush (pc := 9) (v := 35) (by decide) dX7_told_9 ?_
    refine v_cS3i (pc := 11) dX7_told_11 mkX7_49 m_in (Nat.le_of_ble_eq_true rfl) rfl (Nat.zero_le _) (Nat.zero_le _) (fun r_11 M_11 J_11 h_11 => ?_)
    obtain ⟨e1_11, e2_11, e3_11⟩ := h_11
    replace e1_11 := e1_11.symm
    replace e2_11 := e2_11.symm
    replace e3_11 := e3_11.symm
    subst e1_11 e2_11 e3_11
    refine v_if_eq (pc := 14) (tgt := 29) dX7_told_14 (by decide) (fun c_14 => ?_) (fun c_14 => ?_)
    · refine v_bipush (pc := 29) (v := (-2)) (by decide) dX7_told_29 ?_
      refine v_iret (pc := 31) dX7_told_31 (Nat.zero_le _) (Nat.zero_le _) ?_
      unfold tldM
      exact ⟨by rw [if_pos (Int32.not_lt.mp c_3), if_neg (bI_0.mp c_14)], rfl, rfl⟩
    · refine v_aload_n (pc := 17) dX7_told_17 rfl ?_
      refine v_getR (pc := 18) fkX7_17 ly49 rfl dX7_told_18 ?_
      refine v_iload_n (pc := 21) dX7_told_21 rfl ?_
      refine v_bipush (pc := 22) (v := 30) (by decide) dX7_told_22 ?_
      refine v_isub (pc := 24) dX7_told_24 ?_
      refine v_iald (pc := 25) ly51 ?_ dX7_told_25 ?_
      · exact vin30 (bI_n0.mp c_14)
      refine v_goto (pc := 26) (tgt := 31) dX7_told_26 (by decide) ?_
      refine v_iret (pc := 31) dX7_told_31 (Nat.zero_le _) (Nat.zero_le _) ?_
      unfold tldM
      exact ⟨by rw [if_pos (Int32.not_lt.mp c_3), if_pos (bI_n0.mp c_14)], rfl, rfl⟩
