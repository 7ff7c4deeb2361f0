/-! the model: image, restore, breakAll, count -/
/-- n places of cell s from os copied into cell d from od -/
def cpO (M : mM) (d od s os n : Nat) : mM := fun a b => if a = d ∧ od ≤ b ∧ b < od + n then M s (os + (b - od)) else M a b
theorem cpO_0 {M : mM} {d od s os : Nat} : cpO M d od s os 0 = M := by
  funext a b
  unfold cpO
  rw [if_neg (by omega)]
theorem cpO_ne {M : mM} {d od s os n a : Nat} (h : a ≠ d) : cpO M d od s os n a = M a := by
  funext b
  unfold cpO
  rw [if_neg (fun q => h q.1)]
theorem cpO_nx {M : mM} {d od s os n : Nat} (h : s ≠ d) : mU (cpO M d od s os n) d (od + n) (cpO M d od s os n s (os + n)) = cpO M d od s os (n + 1) := by
  rw [cpO_ne h]
  funext a b
  unfold mU cpO
  by_cases h1 : a = d ∧ b = od + n
  · rw [if_pos h1, if_pos ⟨h1.1, by omega, by omega⟩, h1.2, show os + (od + n - od) = os + n by omega]
  · rw [if_neg h1]
    by_cases h2 : a = d ∧ od ≤ b ∧ b < od + n
    · rw [if_pos h2, if_pos ⟨h2.1, by omega, by omega⟩]
    · rw [if_neg h2, if_neg (fun q => h2 ⟨q.1, q.2.1, by
        have : ¬ b = od + n := fun z => h1 ⟨q.1, z⟩
        omega⟩)]
theorem ixo2 (b i : Nat) : nI b + nI i = nI (b + i) := nI_add b i
theorem ixo3 (b o i : Nat) : nI b + nI o + nI i = nI (b + o + i) := by rw [nI_add, nI_add]
theorem ixm (n : Nat) : (150 : Int32) * nI n = nI (150 * n) := by rw [show (150 : Int32) = nI 150 from rfl, pk_mul]

def fin_image (A : mM) (k : Nat) : mM :=
  let A1 := mU A 59 ((150 * k) + 146) (A 49 0)
  let A2 := mU A1 59 ((150 * k) + 147) (A1 49 2)
  let A3 := mU A2 59 ((150 * k) + 148) (A2 49 4)
  mU A3 60 k 1
set_option maxRecDepth 100000 in
set_option maxHeartbeats 1000000 in
theorem lm_image3 {k : Nat} (hk : k < 2) {A : mM} {J : mJ} : ∀ (n i : Nat), n + i = 24 → V RX7 cX7_image 4 (some .int) false (rmD 1) false LY.length none (mNi LY (fun r0 M1 J1 => r0 = 1 ∧ M1 = fin_image (cpO A 59 ((150 * k) + 122) 52 0 24) k ∧ J1 = J)) 0 0 110 [some (.ref 49), some (.int (nI k)), some (.int (nI (150 * k))), some (.int (nI i))] [] LY (cpO A 59 ((150 * k) + 122) 52 0 i) J := by
  intro n
  induction n with
  | zero =>
    intro i hi
    obtain rfl : i = 24 := by omega
    refine v_iload_n (pc := 110) dX7_image_110 rfl ?_
    refine v_bipush (pc := 111) (v := 24) (by decide) dX7_image_111 ?_
    refine v_icmp_ge (pc := 113) (tgt := 139) dX7_image_113 (by decide) (fun c_113 => ?_) (fun c_113 => absurd (by decide) c_113)
    refine v_aload_n (pc := 139) dX7_image_139 rfl ?_
    refine v_getR (pc := 140) fkX7_41 ly49 rfl dX7_image_140 ?_
    refine v_iload_n (pc := 143) dX7_image_143 rfl ?_
    refine v_sipush (pc := 144) (v := 146) (by decide) dX7_image_144 ?_
    refine v_iadd (pc := 147) dX7_image_147 ?_
    rw [show nI (150 * k) + 146 = nI ((150 * k) + 146) from ixo2 (150 * k) 146]
    refine v_aload_n (pc := 148) dX7_image_148 rfl ?_
    refine v_getI (pc := 149) fkX7_53 ly49 rfl dX7_image_149 ?_
    refine v_iast (pc := 152) ly59 ?_ dX7_image_152 ?_
    · exact vp_in_nI (show (150 * k) + 146 < 300 by omega) (by omega)
    rw [nI_clamp (show (150 * k) + 146 < 2 ^ 31 by omega)]
    refine v_aload_n (pc := 153) dX7_image_153 rfl ?_
    refine v_getR (pc := 154) fkX7_41 ly49 rfl dX7_image_154 ?_
    refine v_iload_n (pc := 157) dX7_image_157 rfl ?_
    refine v_sipush (pc := 158) (v := 147) (by decide) dX7_image_158 ?_
    refine v_iadd (pc := 161) dX7_image_161 ?_
    rw [show nI (150 * k) + 147 = nI ((150 * k) + 147) from ixo2 (150 * k) 147]
    refine v_aload_n (pc := 162) dX7_image_162 rfl ?_
    refine v_getI (pc := 163) fkX7_13 ly49 rfl dX7_image_163 ?_
    refine v_iast (pc := 166) ly59 ?_ dX7_image_166 ?_
    · exact vp_in_nI (show (150 * k) + 147 < 300 by omega) (by omega)
    rw [nI_clamp (show (150 * k) + 147 < 2 ^ 31 by omega)]
    refine v_aload_n (pc := 167) dX7_image_167 rfl ?_
    refine v_getR (pc := 168) fkX7_41 ly49 rfl dX7_image_168 ?_
    refine v_iload_n (pc := 171) dX7_image_171 rfl ?_
    refine v_sipush (pc := 172) (v := 148) (by decide) dX7_image_172 ?_
    refine v_iadd (pc := 175) dX7_image_175 ?_
    rw [show nI (150 * k) + 148 = nI ((150 * k) + 148) from ixo2 (150 * k) 148]
    refine v_aload_n (pc := 176) dX7_image_176 rfl ?_
    refine v_getI (pc := 177) fkX7_133 ly49 rfl dX7_image_177 ?_
    refine v_iast (pc := 180) ly59 ?_ dX7_image_180 ?_
    · exact vp_in_nI (show (150 * k) + 148 < 300 by omega) (by omega)
    rw [nI_clamp (show (150 * k) + 148 < 2 ^ 31 by omega)]
    refine v_aload_n (pc := 181) dX7_image_181 rfl ?_
    refine v_getR (pc := 182) fkX7_44 ly49 rfl dX7_image_182 ?_
    refine v_iload_n (pc := 185) dX7_image_185 rfl ?_
    refine v_iconst (pc := 186) (v := 1) (by decide) dX7_image_186 ?_
    refine v_zast (pc := 187) ly60 ?_ rfl dX7_image_187 ?_
    · exact vp_in_nI (show k < 2 by omega) (by omega)
    rw [nI_clamp (show k < 2 ^ 31 by omega)]
    refine v_iconst (pc := 188) (v := 1) (by decide) dX7_image_188 ?_
    refine v_iret (pc := 189) dX7_image_189 (Nat.zero_le _) (Nat.zero_le _) ?_
    exact ⟨rfl, rfl, rfl⟩
  | succ n ih =>
    intro i hi
    have hcl := nI_clamp (show i < 2 ^ 31 by omega)
    have hcb := nI_clamp (show (150 * k) + 122 + i < 2 ^ 31 by omega)
    refine v_iload_n (pc := 110) dX7_image_110 rfl ?_
    refine v_bipush (pc := 111) (v := 24) (by decide) dX7_image_111 ?_
    refine v_icmp_ge (pc := 113) (tgt := 139) dX7_image_113 (by decide) (fun c_113 => absurd c_113 (nI_ge (b := 24) (show i < 24 by omega) (by omega))) (fun c_113 => ?_)
    refine v_aload_n (pc := 116) dX7_image_116 rfl ?_
    refine v_getR (pc := 117) fkX7_41 ly49 rfl dX7_image_117 ?_
    refine v_iload_n (pc := 120) dX7_image_120 rfl ?_
    refine v_bipush (pc := 121) (v := 122) (by decide) dX7_image_121 ?_
    refine v_iadd (pc := 123) dX7_image_123 ?_
    refine v_iload_n (pc := 124) dX7_image_124 rfl ?_
    refine v_iadd (pc := 125) dX7_image_125 ?_
    rw [show nI (150 * k) + 122 + nI i = nI ((150 * k) + 122 + i) from ixo3 (150 * k) 122 i]
    refine v_aload_n (pc := 126) dX7_image_126 rfl ?_
    refine v_getR (pc := 127) fkX7_20 ly49 rfl dX7_image_127 ?_
    refine v_iload_n (pc := 130) dX7_image_130 rfl ?_
    refine v_iald (pc := 131) ly52 ?_ dX7_image_131 ?_
    · exact vp_in_nI (show i < 24 by omega) (by omega)
    rw [hcl]
    refine v_iast (pc := 132) ly59 ?_ dX7_image_132 ?_
    · exact vp_in_nI (show (150 * k) + 122 + i < 300 by omega) (by omega)
    refine v_inc_3 (pc := 133) (v := 1) dX7_image_133 (by decide) (by decide) rfl ?_
    refine v_goto (pc := 136) (tgt := 110) dX7_image_136 (by decide) ?_
    rw [hcb, nI_1]
    have e9 := ih (i + 1) (by omega)
    rw [← cpO_nx (M := A) (d := 59) (od := (150 * k) + 122) (s := 52) (os := 0) (n := i) (by decide)] at e9
    rw [Nat.zero_add] at e9
    exact e9

set_option maxRecDepth 100000 in
set_option maxHeartbeats 1000000 in
theorem lm_image2 {k : Nat} (hk : k < 2) {A : mM} {J : mJ} : ∀ (n i : Nat), n + i = 6 → V RX7 cX7_image 4 (some .int) false (rmD 1) false LY.length none (mNi LY (fun r0 M1 J1 => r0 = 1 ∧ M1 = fin_image (cpO (cpO A 59 ((150 * k) + 115) 51 0 6) 59 ((150 * k) + 122) 52 0 24) k ∧ J1 = J)) 0 0 79 [some (.ref 49), some (.int (nI k)), some (.int (nI (150 * k))), some (.int (nI i))] [] LY (cpO A 59 ((150 * k) + 115) 51 0 i) J := by
  intro n
  induction n with
  | zero =>
    intro i hi
    obtain rfl : i = 6 := by omega
    refine v_iload_n (pc := 79) dX7_image_79 rfl ?_
    refine v_bipush (pc := 80) (v := 6) (by decide) dX7_image_80 ?_
    refine v_icmp_ge (pc := 82) (tgt := 108) dX7_image_82 (by decide) (fun c_82 => ?_) (fun c_82 => absurd (by decide) c_82)
    refine v_iconst (pc := 108) (v := 0) (by decide) dX7_image_108 ?_
    refine v_ist_3 (pc := 109) dX7_image_109 (by decide) rfl ?_
    have e9 := lm_image3 (A := (cpO A 59 ((150 * k) + 115) 51 0 6)) (J := J) hk 24 0 rfl
    rw [cpO_0] at e9
    exact e9
  | succ n ih =>
    intro i hi
    have hcl := nI_clamp (show i < 2 ^ 31 by omega)
    have hcb := nI_clamp (show (150 * k) + 115 + i < 2 ^ 31 by omega)
    refine v_iload_n (pc := 79) dX7_image_79 rfl ?_
    refine v_bipush (pc := 80) (v := 6) (by decide) dX7_image_80 ?_
    refine v_icmp_ge (pc := 82) (tgt := 108) dX7_image_82 (by decide) (fun c_82 => absurd c_82 (nI_ge (b := 6) (show i < 6 by omega) (by omega))) (fun c_82 => ?_)
    refine v_aload_n (pc := 85) dX7_image_85 rfl ?_
    refine v_getR (pc := 86) fkX7_41 ly49 rfl dX7_image_86 ?_
    refine v_iload_n (pc := 89) dX7_image_89 rfl ?_
    refine v_bipush (pc := 90) (v := 115) (by decide) dX7_image_90 ?_
    refine v_iadd (pc := 92) dX7_image_92 ?_
    refine v_iload_n (pc := 93) dX7_image_93 rfl ?_
    refine v_iadd (pc := 94) dX7_image_94 ?_
    rw [show nI (150 * k) + 115 + nI i = nI ((150 * k) + 115 + i) from ixo3 (150 * k) 115 i]
    refine v_aload_n (pc := 95) dX7_image_95 rfl ?_
    refine v_getR (pc := 96) fkX7_17 ly49 rfl dX7_image_96 ?_
    refine v_iload_n (pc := 99) dX7_image_99 rfl ?_
    refine v_iald (pc := 100) ly51 ?_ dX7_image_100 ?_
    · exact vp_in_nI (show i < 6 by omega) (by omega)
    rw [hcl]
    refine v_iast (pc := 101) ly59 ?_ dX7_image_101 ?_
    · exact vp_in_nI (show (150 * k) + 115 + i < 300 by omega) (by omega)
    refine v_inc_3 (pc := 102) (v := 1) dX7_image_102 (by decide) (by decide) rfl ?_
    refine v_goto (pc := 105) (tgt := 79) dX7_image_105 (by decide) ?_
    rw [hcb, nI_1]
    have e9 := ih (i + 1) (by omega)
    rw [← cpO_nx (M := A) (d := 59) (od := (150 * k) + 115) (s := 51) (os := 0) (n := i) (by decide)] at e9
    rw [Nat.zero_add] at e9
    exact e9

set_option maxRecDepth 100000 in
set_option maxHeartbeats 1000000 in
theorem lm_image1 {k : Nat} (hk : k < 2) {A : mM} {J : mJ} : ∀ (n i : Nat), n + i = 7 → V RX7 cX7_image 4 (some .int) false (rmD 1) false LY.length none (mNi LY (fun r0 M1 J1 => r0 = 1 ∧ M1 = fin_image (cpO (cpO (cpO A 59 ((150 * k) + 107) 50 0 7) 59 ((150 * k) + 115) 51 0 6) 59 ((150 * k) + 122) 52 0 24) k ∧ J1 = J)) 0 0 48 [some (.ref 49), some (.int (nI k)), some (.int (nI (150 * k))), some (.int (nI i))] [] LY (cpO A 59 ((150 * k) + 107) 50 0 i) J := by
  intro n
  induction n with
  | zero =>
    intro i hi
    obtain rfl : i = 7 := by omega
    refine v_iload_n (pc := 48) dX7_image_48 rfl ?_
    refine v_bipush (pc := 49) (v := 7) (by decide) dX7_image_49 ?_
    refine v_icmp_ge (pc := 51) (tgt := 77) dX7_image_51 (by decide) (fun c_51 => ?_) (fun c_51 => absurd (by decide) c_51)
    refine v_iconst (pc := 77) (v := 0) (by decide) dX7_image_77 ?_
    refine v_ist_3 (pc := 78) dX7_image_78 (by decide) rfl ?_
    have e9 := lm_image2 (A := (cpO A 59 ((150 * k) + 107) 50 0 7)) (J := J) hk 6 0 rfl
    rw [cpO_0] at e9
    exact e9
  | succ n ih =>
    intro i hi
    have hcl := nI_clamp (show i < 2 ^ 31 by omega)
    have hcb := nI_clamp (show (150 * k) + 107 + i < 2 ^ 31 by omega)
    refine v_iload_n (pc := 48) dX7_image_48 rfl ?_
    refine v_bipush (pc := 49) (v := 7) (by decide) dX7_image_49 ?_
    refine v_icmp_ge (pc := 51) (tgt := 77) dX7_image_51 (by decide) (fun c_51 => absurd c_51 (nI_ge (b := 7) (show i < 7 by omega) (by omega))) (fun c_51 => ?_)
    refine v_aload_n (pc := 54) dX7_image_54 rfl ?_
    refine v_getR (pc := 55) fkX7_41 ly49 rfl dX7_image_55 ?_
    refine v_iload_n (pc := 58) dX7_image_58 rfl ?_
    refine v_bipush (pc := 59) (v := 107) (by decide) dX7_image_59 ?_
    refine v_iadd (pc := 61) dX7_image_61 ?_
    refine v_iload_n (pc := 62) dX7_image_62 rfl ?_
    refine v_iadd (pc := 63) dX7_image_63 ?_
    rw [show nI (150 * k) + 107 + nI i = nI ((150 * k) + 107 + i) from ixo3 (150 * k) 107 i]
    refine v_aload_n (pc := 64) dX7_image_64 rfl ?_
    refine v_getR (pc := 65) fkX7_7 ly49 rfl dX7_image_65 ?_
    refine v_iload_n (pc := 68) dX7_image_68 rfl ?_
    refine v_iald (pc := 69) ly50 ?_ dX7_image_69 ?_
    · exact vp_in_nI (show i < 7 by omega) (by omega)
    rw [hcl]
    refine v_iast (pc := 70) ly59 ?_ dX7_image_70 ?_
    · exact vp_in_nI (show (150 * k) + 107 + i < 300 by omega) (by omega)
    refine v_inc_3 (pc := 71) (v := 1) dX7_image_71 (by decide) (by decide) rfl ?_
    refine v_goto (pc := 74) (tgt := 48) dX7_image_74 (by decide) ?_
    rw [hcb, nI_1]
    have e9 := ih (i + 1) (by omega)
    rw [← cpO_nx (M := A) (d := 59) (od := (150 * k) + 107) (s := 50) (os := 0) (n := i) (by decide)] at e9
    rw [Nat.zero_add] at e9
    exact e9

set_option maxRecDepth 100000 in
set_option maxHeartbeats 1000000 in
theorem lm_image0 {k : Nat} (hk : k < 2) {A : mM} {J : mJ} : ∀ (n i : Nat), n + i = 107 → V RX7 cX7_image 4 (some .int) false (rmD 1) false LY.length none (mNi LY (fun r0 M1 J1 => r0 = 1 ∧ M1 = fin_image (cpO (cpO (cpO (cpO A 59 (150 * k) 53 0 107) 59 ((150 * k) + 107) 50 0 7) 59 ((150 * k) + 115) 51 0 6) 59 ((150 * k) + 122) 52 0 24) k ∧ J1 = J)) 0 0 20 [some (.ref 49), some (.int (nI k)), some (.int (nI (150 * k))), some (.int (nI i))] [] LY (cpO A 59 (150 * k) 53 0 i) J := by
  intro n
  induction n with
  | zero =>
    intro i hi
    obtain rfl : i = 107 := by omega
    refine v_iload_n (pc := 20) dX7_image_20 rfl ?_
    refine v_bipush (pc := 21) (v := 107) (by decide) dX7_image_21 ?_
    refine v_icmp_ge (pc := 23) (tgt := 46) dX7_image_23 (by decide) (fun c_23 => ?_) (fun c_23 => absurd (by decide) c_23)
    refine v_iconst (pc := 46) (v := 0) (by decide) dX7_image_46 ?_
    refine v_ist_3 (pc := 47) dX7_image_47 (by decide) rfl ?_
    have e9 := lm_image1 (A := (cpO A 59 (150 * k) 53 0 107)) (J := J) hk 7 0 rfl
    rw [cpO_0] at e9
    exact e9
  | succ n ih =>
    intro i hi
    have hcl := nI_clamp (show i < 2 ^ 31 by omega)
    have hcb := nI_clamp (show (150 * k) + i < 2 ^ 31 by omega)
    refine v_iload_n (pc := 20) dX7_image_20 rfl ?_
    refine v_bipush (pc := 21) (v := 107) (by decide) dX7_image_21 ?_
    refine v_icmp_ge (pc := 23) (tgt := 46) dX7_image_23 (by decide) (fun c_23 => absurd c_23 (nI_ge (b := 107) (show i < 107 by omega) (by omega))) (fun c_23 => ?_)
    refine v_aload_n (pc := 26) dX7_image_26 rfl ?_
    refine v_getR (pc := 27) fkX7_41 ly49 rfl dX7_image_27 ?_
    refine v_iload_n (pc := 30) dX7_image_30 rfl ?_
    refine v_iload_n (pc := 31) dX7_image_31 rfl ?_
    refine v_iadd (pc := 32) dX7_image_32 ?_
    rw [ixo2]
    refine v_aload_n (pc := 33) dX7_image_33 rfl ?_
    refine v_getR (pc := 34) fkX7_23 ly49 rfl dX7_image_34 ?_
    refine v_iload_n (pc := 37) dX7_image_37 rfl ?_
    refine v_iald (pc := 38) ly53 ?_ dX7_image_38 ?_
    · exact vp_in_nI (show i < 107 by omega) (by omega)
    rw [hcl]
    refine v_iast (pc := 39) ly59 ?_ dX7_image_39 ?_
    · exact vp_in_nI (show (150 * k) + i < 300 by omega) (by omega)
    refine v_inc_3 (pc := 40) (v := 1) dX7_image_40 (by decide) (by decide) rfl ?_
    refine v_goto (pc := 43) (tgt := 20) dX7_image_43 (by decide) ?_
    rw [hcb, nI_1]
    have e9 := ih (i + 1) (by omega)
    rw [← cpO_nx (M := A) (d := 59) (od := (150 * k)) (s := 53) (os := 0) (n := i) (by decide)] at e9
    rw [Nat.zero_add] at e9
    exact e9

def imageM (M : mM) (k : Nat) : mM := fin_image (cpO (cpO (cpO (cpO M 59 (150 * k) 53 0 107) 59 ((150 * k) + 107) 50 0 7) 59 ((150 * k) + 115) 51 0 6) 59 ((150 * k) + 122) 52 0 24) k
set_option maxRecDepth 100000 in
set_option maxHeartbeats 4000000 in
theorem m_image {k : Nat} {M : mM} {J : mJ} (hk : k < 2) : Ct yX7_image cX7_image 4 (some .int) (rmD 1) false [.ref 49, .int (nI k)] LY M J (mNi LY (fun r0 M1 J1 => r0 = 1 ∧ M1 = imageM M k ∧ J1 = J)) := by
  refine ct_of (own := RX7) (ini := false) (ls := [some (.ref 49), some (.int (nI k)), none, none]) 2 (by decide +kernel) rfl (fun h => by cases h) rfl (fun ad => by first | exact Nat.le_of_ble_eq_true rfl) ?_
  refine v_iload_n (pc := 0) dX7_image_0 rfl ?_
  refine v_iconst (pc := 1) (v := 0) (by decide) dX7_image_1 ?_
  refine v_iconst (pc := 2) (v := 1) (by decide) dX7_image_2 ?_
  refine v_cS3i (pc := 3) dX7_image_3 mkX7_49 m_in (Nat.le_of_ble_eq_true rfl) rfl (Nat.zero_le _) (Nat.zero_le _) (fun r_3 M_3 J_3 h_3 => ?_)
  obtain ⟨e1_3, e2_3, e3_3⟩ := h_3
  replace e1_3 := e1_3.symm
  replace e2_3 := e2_3.symm
  replace e3_3 := e3_3.symm
  subst e1_3 e2_3 e3_3
  refine v_if_ne (pc := 6) (tgt := 12) dX7_image_6 (by decide) (fun c_6 => ?_) (fun c_6 => absurd c_6 (bI_n0.mpr ⟨nI_pos' (by omega), nI_le (b := 1) (by omega) (by omega)⟩))
  refine v_sipush (pc := 12) (v := 150) (by decide) dX7_image_12 ?_
  refine v_iload_n (pc := 15) dX7_image_15 rfl ?_
  refine v_imul (pc := 16) dX7_image_16 ?_
  rw [ixm]
  refine v_ist_2 (pc := 17) dX7_image_17 (by decide) rfl ?_
  refine v_iconst (pc := 18) (v := 0) (by decide) dX7_image_18 ?_
  refine v_ist_3 (pc := 19) dX7_image_19 (by decide) rfl ?_
  have e9 := lm_image0 (A := M) (J := J) hk 107 0 rfl
  rw [cpO_0] at e9
  exact e9

set_option maxRecDepth 100000 in
set_option maxHeartbeats 4000000 in
theorem m_imageO {x : Int32} {M : mM} {J : mJ} (hx : ¬ (0 ≤ x ∧ x ≤ 1)) : Ct yX7_image cX7_image 4 (some .int) (rmD 1) false [.ref 49, .int x] LY M J (mNi LY (fun r0 M1 J1 => r0 = -2 ∧ M1 = M ∧ J1 = J)) := by
  refine ct_of (own := RX7) (ini := false) (ls := [some (.ref 49), some (.int x), none, none]) 2 (by decide +kernel) rfl (fun h => by cases h) rfl (fun ad => by first | exact Nat.le_of_ble_eq_true rfl) ?_
  refine v_iload_n (pc := 0) dX7_image_0 rfl ?_
  refine v_iconst (pc := 1) (v := 0) (by decide) dX7_image_1 ?_
  refine v_iconst (pc := 2) (v := 1) (by decide) dX7_image_2 ?_
  refine v_cS3i (pc := 3) dX7_image_3 mkX7_49 m_in (Nat.le_of_ble_eq_true rfl) rfl (Nat.zero_le _) (Nat.zero_le _) (fun r_3 M_3 J_3 h_3 => ?_)
  obtain ⟨e1_3, e2_3, e3_3⟩ := h_3
  replace e1_3 := e1_3.symm
  replace e2_3 := e2_3.symm
  replace e3_3 := e3_3.symm
  subst e1_3 e2_3 e3_3
  refine v_if_ne (pc := 6) (tgt := 12) dX7_image_6 (by decide) (fun c_6 => absurd (bI_0.mpr hx) c_6) (fun c_6 => ?_)
  refine v_bipush (pc := 9) (v := (-2)) (by decide) dX7_image_9 ?_
  refine v_iret (pc := 11) dX7_image_11 (Nat.zero_le _) (Nat.zero_le _) ?_
  exact ⟨rfl, rfl, rfl⟩

def fin_restore (A : mM) (k : Nat) : mM :=
  let A1 := mU A 49 0 (A 59 ((150 * k) + 146))
  let A2 := mU A1 49 2 (A1 59 ((150 * k) + 147))
  mU A2 49 4 (A2 59 ((150 * k) + 148))
set_option maxRecDepth 100000 in
set_option maxHeartbeats 1000000 in
theorem lm_restore3 {k : Nat} (hk : k < 2) {A : mM} {J : mJ} : ∀ (n i : Nat), n + i = 24 → V RX7 cX7_restore 4 (some .int) false (rmD 1) false LY.length none (mNi LY (fun r0 M1 J1 => r0 = 1 ∧ M1 = fin_restore (cpO A 52 0 59 ((150 * k) + 122) 24) k ∧ J1 = J)) 0 0 122 [some (.ref 49), some (.int (nI k)), some (.int (nI (150 * k))), some (.int (nI i))] [] LY (cpO A 52 0 59 ((150 * k) + 122) i) J := by
  intro n
  induction n with
  | zero =>
    intro i hi
    obtain rfl : i = 24 := by omega
    refine v_iload_n (pc := 122) dX7_restore_122 rfl ?_
    refine v_bipush (pc := 123) (v := 24) (by decide) dX7_restore_123 ?_
    refine v_icmp_ge (pc := 125) (tgt := 151) dX7_restore_125 (by decide) (fun c_125 => ?_) (fun c_125 => absurd (by decide) c_125)
    refine v_aload_n (pc := 151) dX7_restore_151 rfl ?_
    refine v_aload_n (pc := 152) dX7_restore_152 rfl ?_
    refine v_getR (pc := 153) fkX7_41 ly49 rfl dX7_restore_153 ?_
    refine v_iload_n (pc := 156) dX7_restore_156 rfl ?_
    refine v_sipush (pc := 157) (v := 146) (by decide) dX7_restore_157 ?_
    refine v_iadd (pc := 160) dX7_restore_160 ?_
    rw [show nI (150 * k) + 146 = nI ((150 * k) + 146) from ixo2 (150 * k) 146]
    refine v_iald (pc := 161) ly59 ?_ dX7_restore_161 ?_
    · exact vp_in_nI (show (150 * k) + 146 < 300 by omega) (by omega)
    rw [nI_clamp (show (150 * k) + 146 < 2 ^ 31 by omega)]
    refine v_putI (pc := 162) fkX7_53p ly49 rfl dX7_restore_162 ?_
    refine v_aload_n (pc := 165) dX7_restore_165 rfl ?_
    refine v_aload_n (pc := 166) dX7_restore_166 rfl ?_
    refine v_getR (pc := 167) fkX7_41 ly49 rfl dX7_restore_167 ?_
    refine v_iload_n (pc := 170) dX7_restore_170 rfl ?_
    refine v_sipush (pc := 171) (v := 147) (by decide) dX7_restore_171 ?_
    refine v_iadd (pc := 174) dX7_restore_174 ?_
    rw [show nI (150 * k) + 147 = nI ((150 * k) + 147) from ixo2 (150 * k) 147]
    refine v_iald (pc := 175) ly59 ?_ dX7_restore_175 ?_
    · exact vp_in_nI (show (150 * k) + 147 < 300 by omega) (by omega)
    rw [nI_clamp (show (150 * k) + 147 < 2 ^ 31 by omega)]
    refine v_putI (pc := 176) fkX7_13p ly49 rfl dX7_restore_176 ?_
    refine v_aload_n (pc := 179) dX7_restore_179 rfl ?_
    refine v_aload_n (pc := 180) dX7_restore_180 rfl ?_
    refine v_getR (pc := 181) fkX7_41 ly49 rfl dX7_restore_181 ?_
    refine v_iload_n (pc := 184) dX7_restore_184 rfl ?_
    refine v_sipush (pc := 185) (v := 148) (by decide) dX7_restore_185 ?_
    refine v_iadd (pc := 188) dX7_restore_188 ?_
    rw [show nI (150 * k) + 148 = nI ((150 * k) + 148) from ixo2 (150 * k) 148]
    refine v_iald (pc := 189) ly59 ?_ dX7_restore_189 ?_
    · exact vp_in_nI (show (150 * k) + 148 < 300 by omega) (by omega)
    rw [nI_clamp (show (150 * k) + 148 < 2 ^ 31 by omega)]
    refine v_putI (pc := 190) fkX7_133p ly49 rfl dX7_restore_190 ?_
    refine v_iconst (pc := 193) (v := 1) (by decide) dX7_restore_193 ?_
    refine v_iret (pc := 194) dX7_restore_194 (Nat.zero_le _) (Nat.zero_le _) ?_
    exact ⟨rfl, rfl, rfl⟩
  | succ n ih =>
    intro i hi
    have hcl := nI_clamp (show i < 2 ^ 31 by omega)
    have hcb := nI_clamp (show (150 * k) + 122 + i < 2 ^ 31 by omega)
    refine v_iload_n (pc := 122) dX7_restore_122 rfl ?_
    refine v_bipush (pc := 123) (v := 24) (by decide) dX7_restore_123 ?_
    refine v_icmp_ge (pc := 125) (tgt := 151) dX7_restore_125 (by decide) (fun c_125 => absurd c_125 (nI_ge (b := 24) (show i < 24 by omega) (by omega))) (fun c_125 => ?_)
    refine v_aload_n (pc := 128) dX7_restore_128 rfl ?_
    refine v_getR (pc := 129) fkX7_20 ly49 rfl dX7_restore_129 ?_
    refine v_iload_n (pc := 132) dX7_restore_132 rfl ?_
    refine v_aload_n (pc := 133) dX7_restore_133 rfl ?_
    refine v_getR (pc := 134) fkX7_41 ly49 rfl dX7_restore_134 ?_
    refine v_iload_n (pc := 137) dX7_restore_137 rfl ?_
    refine v_bipush (pc := 138) (v := 122) (by decide) dX7_restore_138 ?_
    refine v_iadd (pc := 140) dX7_restore_140 ?_
    refine v_iload_n (pc := 141) dX7_restore_141 rfl ?_
    refine v_iadd (pc := 142) dX7_restore_142 ?_
    rw [show nI (150 * k) + 122 + nI i = nI ((150 * k) + 122 + i) from ixo3 (150 * k) 122 i]
    refine v_iald (pc := 143) ly59 ?_ dX7_restore_143 ?_
    · exact vp_in_nI (show (150 * k) + 122 + i < 300 by omega) (by omega)
    rw [hcb]
    refine v_iast (pc := 144) ly52 ?_ dX7_restore_144 ?_
    · exact vp_in_nI (show i < 24 by omega) (by omega)
    refine v_inc_3 (pc := 145) (v := 1) dX7_restore_145 (by decide) (by decide) rfl ?_
    refine v_goto (pc := 148) (tgt := 122) dX7_restore_148 (by decide) ?_
    rw [hcl, nI_1]
    have e9 := ih (i + 1) (by omega)
    rw [← cpO_nx (M := A) (d := 52) (od := 0) (s := 59) (os := (150 * k) + 122) (n := i) (by decide)] at e9
    rw [Nat.zero_add] at e9
    exact e9

set_option maxRecDepth 100000 in
set_option maxHeartbeats 1000000 in
theorem lm_restore2 {k : Nat} (hk : k < 2) {A : mM} {J : mJ} : ∀ (n i : Nat), n + i = 6 → V RX7 cX7_restore 4 (some .int) false (rmD 1) false LY.length none (mNi LY (fun r0 M1 J1 => r0 = 1 ∧ M1 = fin_restore (cpO (cpO A 51 0 59 ((150 * k) + 115) 6) 52 0 59 ((150 * k) + 122) 24) k ∧ J1 = J)) 0 0 91 [some (.ref 49), some (.int (nI k)), some (.int (nI (150 * k))), some (.int (nI i))] [] LY (cpO A 51 0 59 ((150 * k) + 115) i) J := by
  intro n
  induction n with
  | zero =>
    intro i hi
    obtain rfl : i = 6 := by omega
    refine v_iload_n (pc := 91) dX7_restore_91 rfl ?_
    refine v_bipush (pc := 92) (v := 6) (by decide) dX7_restore_92 ?_
    refine v_icmp_ge (pc := 94) (tgt := 120) dX7_restore_94 (by decide) (fun c_94 => ?_) (fun c_94 => absurd (by decide) c_94)
    refine v_iconst (pc := 120) (v := 0) (by decide) dX7_restore_120 ?_
    refine v_ist_3 (pc := 121) dX7_restore_121 (by decide) rfl ?_
    have e9 := lm_restore3 (A := (cpO A 51 0 59 ((150 * k) + 115) 6)) (J := J) hk 24 0 rfl
    rw [cpO_0] at e9
    exact e9
  | succ n ih =>
    intro i hi
    have hcl := nI_clamp (show i < 2 ^ 31 by omega)
    have hcb := nI_clamp (show (150 * k) + 115 + i < 2 ^ 31 by omega)
    refine v_iload_n (pc := 91) dX7_restore_91 rfl ?_
    refine v_bipush (pc := 92) (v := 6) (by decide) dX7_restore_92 ?_
    refine v_icmp_ge (pc := 94) (tgt := 120) dX7_restore_94 (by decide) (fun c_94 => absurd c_94 (nI_ge (b := 6) (show i < 6 by omega) (by omega))) (fun c_94 => ?_)
    refine v_aload_n (pc := 97) dX7_restore_97 rfl ?_
    refine v_getR (pc := 98) fkX7_17 ly49 rfl dX7_restore_98 ?_
    refine v_iload_n (pc := 101) dX7_restore_101 rfl ?_
    refine v_aload_n (pc := 102) dX7_restore_102 rfl ?_
    refine v_getR (pc := 103) fkX7_41 ly49 rfl dX7_restore_103 ?_
    refine v_iload_n (pc := 106) dX7_restore_106 rfl ?_
    refine v_bipush (pc := 107) (v := 115) (by decide) dX7_restore_107 ?_
    refine v_iadd (pc := 109) dX7_restore_109 ?_
    refine v_iload_n (pc := 110) dX7_restore_110 rfl ?_
    refine v_iadd (pc := 111) dX7_restore_111 ?_
    rw [show nI (150 * k) + 115 + nI i = nI ((150 * k) + 115 + i) from ixo3 (150 * k) 115 i]
    refine v_iald (pc := 112) ly59 ?_ dX7_restore_112 ?_
    · exact vp_in_nI (show (150 * k) + 115 + i < 300 by omega) (by omega)
    rw [hcb]
    refine v_iast (pc := 113) ly51 ?_ dX7_restore_113 ?_
    · exact vp_in_nI (show i < 6 by omega) (by omega)
    refine v_inc_3 (pc := 114) (v := 1) dX7_restore_114 (by decide) (by decide) rfl ?_
    refine v_goto (pc := 117) (tgt := 91) dX7_restore_117 (by decide) ?_
    rw [hcl, nI_1]
    have e9 := ih (i + 1) (by omega)
    rw [← cpO_nx (M := A) (d := 51) (od := 0) (s := 59) (os := (150 * k) + 115) (n := i) (by decide)] at e9
    rw [Nat.zero_add] at e9
    exact e9

set_option maxRecDepth 100000 in
set_option maxHeartbeats 1000000 in
theorem lm_restore1 {k : Nat} (hk : k < 2) {A : mM} {J : mJ} : ∀ (n i : Nat), n + i = 7 → V RX7 cX7_restore 4 (some .int) false (rmD 1) false LY.length none (mNi LY (fun r0 M1 J1 => r0 = 1 ∧ M1 = fin_restore (cpO (cpO (cpO A 50 0 59 ((150 * k) + 107) 7) 51 0 59 ((150 * k) + 115) 6) 52 0 59 ((150 * k) + 122) 24) k ∧ J1 = J)) 0 0 60 [some (.ref 49), some (.int (nI k)), some (.int (nI (150 * k))), some (.int (nI i))] [] LY (cpO A 50 0 59 ((150 * k) + 107) i) J := by
  intro n
  induction n with
  | zero =>
    intro i hi
    obtain rfl : i = 7 := by omega
    refine v_iload_n (pc := 60) dX7_restore_60 rfl ?_
    refine v_bipush (pc := 61) (v := 7) (by decide) dX7_restore_61 ?_
    refine v_icmp_ge (pc := 63) (tgt := 89) dX7_restore_63 (by decide) (fun c_63 => ?_) (fun c_63 => absurd (by decide) c_63)
    refine v_iconst (pc := 89) (v := 0) (by decide) dX7_restore_89 ?_
    refine v_ist_3 (pc := 90) dX7_restore_90 (by decide) rfl ?_
    have e9 := lm_restore2 (A := (cpO A 50 0 59 ((150 * k) + 107) 7)) (J := J) hk 6 0 rfl
    rw [cpO_0] at e9
    exact e9
  | succ n ih =>
    intro i hi
    have hcl := nI_clamp (show i < 2 ^ 31 by omega)
    have hcb := nI_clamp (show (150 * k) + 107 + i < 2 ^ 31 by omega)
    refine v_iload_n (pc := 60) dX7_restore_60 rfl ?_
    refine v_bipush (pc := 61) (v := 7) (by decide) dX7_restore_61 ?_
    refine v_icmp_ge (pc := 63) (tgt := 89) dX7_restore_63 (by decide) (fun c_63 => absurd c_63 (nI_ge (b := 7) (show i < 7 by omega) (by omega))) (fun c_63 => ?_)
    refine v_aload_n (pc := 66) dX7_restore_66 rfl ?_
    refine v_getR (pc := 67) fkX7_7 ly49 rfl dX7_restore_67 ?_
    refine v_iload_n (pc := 70) dX7_restore_70 rfl ?_
    refine v_aload_n (pc := 71) dX7_restore_71 rfl ?_
    refine v_getR (pc := 72) fkX7_41 ly49 rfl dX7_restore_72 ?_
    refine v_iload_n (pc := 75) dX7_restore_75 rfl ?_
    refine v_bipush (pc := 76) (v := 107) (by decide) dX7_restore_76 ?_
    refine v_iadd (pc := 78) dX7_restore_78 ?_
    refine v_iload_n (pc := 79) dX7_restore_79 rfl ?_
    refine v_iadd (pc := 80) dX7_restore_80 ?_
    rw [show nI (150 * k) + 107 + nI i = nI ((150 * k) + 107 + i) from ixo3 (150 * k) 107 i]
    refine v_iald (pc := 81) ly59 ?_ dX7_restore_81 ?_
    · exact vp_in_nI (show (150 * k) + 107 + i < 300 by omega) (by omega)
    rw [hcb]
    refine v_iast (pc := 82) ly50 ?_ dX7_restore_82 ?_
    · exact vp_in_nI (show i < 7 by omega) (by omega)
    refine v_inc_3 (pc := 83) (v := 1) dX7_restore_83 (by decide) (by decide) rfl ?_
    refine v_goto (pc := 86) (tgt := 60) dX7_restore_86 (by decide) ?_
    rw [hcl, nI_1]
    have e9 := ih (i + 1) (by omega)
    rw [← cpO_nx (M := A) (d := 50) (od := 0) (s := 59) (os := (150 * k) + 107) (n := i) (by decide)] at e9
    rw [Nat.zero_add] at e9
    exact e9

set_option maxRecDepth 100000 in
set_option maxHeartbeats 1000000 in
theorem lm_restore0 {k : Nat} (hk : k < 2) {A : mM} {J : mJ} : ∀ (n i : Nat), n + i = 107 → V RX7 cX7_restore 4 (some .int) false (rmD 1) false LY.length none (mNi LY (fun r0 M1 J1 => r0 = 1 ∧ M1 = fin_restore (cpO (cpO (cpO (cpO A 53 0 59 (150 * k) 107) 50 0 59 ((150 * k) + 107) 7) 51 0 59 ((150 * k) + 115) 6) 52 0 59 ((150 * k) + 122) 24) k ∧ J1 = J)) 0 0 32 [some (.ref 49), some (.int (nI k)), some (.int (nI (150 * k))), some (.int (nI i))] [] LY (cpO A 53 0 59 (150 * k) i) J := by
  intro n
  induction n with
  | zero =>
    intro i hi
    obtain rfl : i = 107 := by omega
    refine v_iload_n (pc := 32) dX7_restore_32 rfl ?_
    refine v_bipush (pc := 33) (v := 107) (by decide) dX7_restore_33 ?_
    refine v_icmp_ge (pc := 35) (tgt := 58) dX7_restore_35 (by decide) (fun c_35 => ?_) (fun c_35 => absurd (by decide) c_35)
    refine v_iconst (pc := 58) (v := 0) (by decide) dX7_restore_58 ?_
    refine v_ist_3 (pc := 59) dX7_restore_59 (by decide) rfl ?_
    have e9 := lm_restore1 (A := (cpO A 53 0 59 (150 * k) 107)) (J := J) hk 7 0 rfl
    rw [cpO_0] at e9
    exact e9
  | succ n ih =>
    intro i hi
    have hcl := nI_clamp (show i < 2 ^ 31 by omega)
    have hcb := nI_clamp (show (150 * k) + i < 2 ^ 31 by omega)
    refine v_iload_n (pc := 32) dX7_restore_32 rfl ?_
    refine v_bipush (pc := 33) (v := 107) (by decide) dX7_restore_33 ?_
    refine v_icmp_ge (pc := 35) (tgt := 58) dX7_restore_35 (by decide) (fun c_35 => absurd c_35 (nI_ge (b := 107) (show i < 107 by omega) (by omega))) (fun c_35 => ?_)
    refine v_aload_n (pc := 38) dX7_restore_38 rfl ?_
    refine v_getR (pc := 39) fkX7_23 ly49 rfl dX7_restore_39 ?_
    refine v_iload_n (pc := 42) dX7_restore_42 rfl ?_
    refine v_aload_n (pc := 43) dX7_restore_43 rfl ?_
    refine v_getR (pc := 44) fkX7_41 ly49 rfl dX7_restore_44 ?_
    refine v_iload_n (pc := 47) dX7_restore_47 rfl ?_
    refine v_iload_n (pc := 48) dX7_restore_48 rfl ?_
    refine v_iadd (pc := 49) dX7_restore_49 ?_
    rw [ixo2]
    refine v_iald (pc := 50) ly59 ?_ dX7_restore_50 ?_
    · exact vp_in_nI (show (150 * k) + i < 300 by omega) (by omega)
    rw [hcb]
    refine v_iast (pc := 51) ly53 ?_ dX7_restore_51 ?_
    · exact vp_in_nI (show i < 107 by omega) (by omega)
    refine v_inc_3 (pc := 52) (v := 1) dX7_restore_52 (by decide) (by decide) rfl ?_
    refine v_goto (pc := 55) (tgt := 32) dX7_restore_55 (by decide) ?_
    rw [hcl, nI_1]
    have e9 := ih (i + 1) (by omega)
    rw [← cpO_nx (M := A) (d := 53) (od := 0) (s := 59) (os := (150 * k)) (n := i) (by decide)] at e9
    rw [Nat.zero_add] at e9
    exact e9

def restoreM (M : mM) (k : Nat) : mM := fin_restore (cpO (cpO (cpO (cpO M 53 0 59 (150 * k) 107) 50 0 59 ((150 * k) + 107) 7) 51 0 59 ((150 * k) + 115) 6) 52 0 59 ((150 * k) + 122) 24) k
set_option maxRecDepth 100000 in
set_option maxHeartbeats 4000000 in
theorem m_restore {k : Nat} {M : mM} {J : mJ} (hk : k < 2) : Ct yX7_restore cX7_restore 4 (some .int) (rmD 1) false [.ref 49, .int (nI k)] LY M J (mNi LY (fun r0 M1 J1 => r0 = (if M 60 k = 0 then -3 else 1) ∧ M1 = (if M 60 k = 0 then M else restoreM M k) ∧ J1 = J)) := by
  refine ct_of (own := RX7) (ini := false) (ls := [some (.ref 49), some (.int (nI k)), none, none]) 2 (by decide +kernel) rfl (fun h => by cases h) rfl (fun ad => by first | exact Nat.le_of_ble_eq_true rfl) ?_
  refine v_iload_n (pc := 0) dX7_restore_0 rfl ?_
  refine v_iconst (pc := 1) (v := 0) (by decide) dX7_restore_1 ?_
  refine v_iconst (pc := 2) (v := 1) (by decide) dX7_restore_2 ?_
  refine v_cS3i (pc := 3) dX7_restore_3 mkX7_49 m_in (Nat.le_of_ble_eq_true rfl) rfl (Nat.zero_le _) (Nat.zero_le _) (fun r_3 M_3 J_3 h_3 => ?_)
  obtain ⟨e1_3, e2_3, e3_3⟩ := h_3
  replace e1_3 := e1_3.symm
  replace e2_3 := e2_3.symm
  replace e3_3 := e3_3.symm
  subst e1_3 e2_3 e3_3
  refine v_if_ne (pc := 6) (tgt := 12) dX7_restore_6 (by decide) (fun c_6 => ?_) (fun c_6 => absurd c_6 (bI_n0.mpr ⟨nI_pos' (by omega), nI_le (b := 1) (by omega) (by omega)⟩))
  refine v_aload_n (pc := 12) dX7_restore_12 rfl ?_
  refine v_getR (pc := 13) fkX7_44 ly49 rfl dX7_restore_13 ?_
  refine v_iload_n (pc := 16) dX7_restore_16 rfl ?_
  refine v_zald (pc := 17) ly60 ?_ dX7_restore_17 ?_
  · exact vp_in_nI hk (by omega)
  rw [nI_clamp (show k < 2 ^ 31 by omega)]
  refine v_if_ne (pc := 18) (tgt := 24) dX7_restore_18 (by decide) (fun c_18 => ?_) (fun c_18 => ?_)
  · refine v_sipush (pc := 24) (v := 150) (by decide) dX7_restore_24 ?_
    refine v_iload_n (pc := 27) dX7_restore_27 rfl ?_
    refine v_imul (pc := 28) dX7_restore_28 ?_
    rw [ixm]
    refine v_ist_2 (pc := 29) dX7_restore_29 (by decide) rfl ?_
    refine v_iconst (pc := 30) (v := 0) (by decide) dX7_restore_30 ?_
    refine v_ist_3 (pc := 31) dX7_restore_31 (by decide) rfl ?_
    rw [if_neg c_18, if_neg c_18]
    have e9 := lm_restore0 (A := M) (J := J) hk 107 0 rfl
    rw [cpO_0] at e9
    exact e9
  · refine v_bipush (pc := 21) (v := (-3)) (by decide) dX7_restore_21 ?_
    refine v_iret (pc := 23) dX7_restore_23 (Nat.zero_le _) (Nat.zero_le _) ?_
    exact ⟨by rw [if_pos c_18], by rw [if_pos c_18], rfl⟩

set_option maxRecDepth 100000 in
set_option maxHeartbeats 4000000 in
theorem m_restoreO {x : Int32} {M : mM} {J : mJ} (hx : ¬ (0 ≤ x ∧ x ≤ 1)) : Ct yX7_restore cX7_restore 4 (some .int) (rmD 1) false [.ref 49, .int x] LY M J (mNi LY (fun r0 M1 J1 => r0 = -2 ∧ M1 = M ∧ J1 = J)) := by
  refine ct_of (own := RX7) (ini := false) (ls := [some (.ref 49), some (.int x), none, none]) 2 (by decide +kernel) rfl (fun h => by cases h) rfl (fun ad => by first | exact Nat.le_of_ble_eq_true rfl) ?_
  refine v_iload_n (pc := 0) dX7_restore_0 rfl ?_
  refine v_iconst (pc := 1) (v := 0) (by decide) dX7_restore_1 ?_
  refine v_iconst (pc := 2) (v := 1) (by decide) dX7_restore_2 ?_
  refine v_cS3i (pc := 3) dX7_restore_3 mkX7_49 m_in (Nat.le_of_ble_eq_true rfl) rfl (Nat.zero_le _) (Nat.zero_le _) (fun r_3 M_3 J_3 h_3 => ?_)
  obtain ⟨e1_3, e2_3, e3_3⟩ := h_3
  replace e1_3 := e1_3.symm
  replace e2_3 := e2_3.symm
  replace e3_3 := e3_3.symm
  subst e1_3 e2_3 e3_3
  refine v_if_ne (pc := 6) (tgt := 12) dX7_restore_6 (by decide) (fun c_6 => absurd (bI_0.mpr hx) c_6) (fun c_6 => ?_)
  refine v_bipush (pc := 9) (v := (-2)) (by decide) dX7_restore_9 ?_
  refine v_iret (pc := 11) dX7_restore_11 (Nat.zero_le _) (Nat.zero_le _) ?_
  exact ⟨rfl, rfl, rfl⟩

def bk1 (i : Nat) (A : mM) : mM := mU A 58 (i + 1) 0
def bk2 (i : Nat) (A : mM) : mM :=
  let A1 := mU A 58 ((i + 1) / 2) (A 58 ((i + 1) / 2) + (if i = 0 then 0 else A 57 (i + 1)))
  mU A1 58 ((i + 1) - (i + 1) / 2) (A1 58 ((i + 1) - (i + 1) / 2) + A1 57 (i + 1))
def bk3 (i : Nat) (A : mM) : mM := mU A 57 (i + 1) (A 58 (i + 1))
def bkA (M : mM) : mM := itN bk3 (itN bk2 (itN bk1 M 9) 9) 9
def cnA (P : Nat → Int32) (i : Nat) (a : Int32) : Int32 := a + P (i + 1)

set_option maxRecDepth 100000 in
set_option maxHeartbeats 1000000 in
theorem lm_bk3 {A Z : mM} {J : mJ} (hz : itN bk3 A 9 = Z) : ∀ (n i : Nat), n + i = 9 → V RX7 cX7_breakAll 2 none false (rmD 0) false LY.length none (mNv LY (fun M1 J1 => M1 = Z ∧ J1 = J)) 0 0 82 [some (.ref 49), some (.int (nI (i + 1)))] [] LY (itN bk3 A i) J := by
  intro n
  induction n with
  | zero =>
    intro i hi
    obtain rfl : i = 9 := by omega
    refine v_iload_n (pc := 82) dX7_breakAll_82 rfl ?_
    refine v_bipush (pc := 83) (v := 10) (by decide) dX7_breakAll_83 ?_
    refine v_icmp_ge (pc := 85) (tgt := 106) dX7_breakAll_85 (by decide) (fun c_85 => ?_) (fun c_85 => absurd (by decide) c_85)
    refine v_vret (pc := 106) dX7_breakAll_106 (Nat.zero_le _) (Nat.zero_le _) ?_
    exact ⟨hz, rfl⟩
  | succ n ih =>
    intro i hi
    have hcl := nI_clamp (show i + 1 < 2 ^ 31 by omega)
    have hch := nI_clamp (show (i + 1) / 2 < 2 ^ 31 by omega)
    have hcd := nI_clamp (show (i + 1) - (i + 1) / 2 < 2 ^ 31 by omega)
    have hdv : nI (i + 1) / 2 = nI ((i + 1) / 2) := pk_div (d := 2) (by omega) (by omega) (by omega)
    have hds : nI (i + 1) - nI ((i + 1) / 2) = nI ((i + 1) - (i + 1) / 2) := pk_sub (by omega)
    refine v_iload_n (pc := 82) dX7_breakAll_82 rfl ?_
    refine v_bipush (pc := 83) (v := 10) (by decide) dX7_breakAll_83 ?_
    refine v_icmp_ge (pc := 85) (tgt := 106) dX7_breakAll_85 (by decide) (fun c_85 => absurd c_85 (nI_ge (b := 10) (show i + 1 < 10 by omega) (by omega))) (fun c_85 => ?_)
    refine v_aload_n (pc := 88) dX7_breakAll_88 rfl ?_
    refine v_getR (pc := 89) fkX7_35 ly49 rfl dX7_breakAll_89 ?_
    refine v_iload_n (pc := 92) dX7_breakAll_92 rfl ?_
    refine v_aload_n (pc := 93) dX7_breakAll_93 rfl ?_
    refine v_getR (pc := 94) fkX7_38 ly49 rfl dX7_breakAll_94 ?_
    refine v_iload_n (pc := 97) dX7_breakAll_97 rfl ?_
    refine v_iald (pc := 98) ly58 ?_ dX7_breakAll_98 ?_
    · exact vp_in_nI (show i + 1 < 10 by omega) (by omega)
    rw [hcl]
    refine v_iast (pc := 99) ly57 ?_ dX7_breakAll_99 ?_
    · exact vp_in_nI (show i + 1 < 10 by omega) (by omega)
    refine v_inc_1 (pc := 100) (v := 1) dX7_breakAll_100 (by decide) (by decide) rfl ?_
    refine v_goto (pc := 103) (tgt := 82) dX7_breakAll_103 (by decide) ?_
    rw [hcl, nI_1]
    have e9 := ih (i + 1) (by omega)
    rw [itN_s _ _ i] at e9
    exact e9

set_option maxRecDepth 100000 in
set_option maxHeartbeats 1000000 in
theorem lm_bk2 {A Z : mM} {J : mJ} (hz : itN bk3 (itN bk2 A 9) 9 = Z) : ∀ (n i : Nat), n + i = 9 → V RX7 cX7_breakAll 2 none false (rmD 0) false LY.length none (mNv LY (fun M1 J1 => M1 = Z ∧ J1 = J)) 0 0 23 [some (.ref 49), some (.int (nI (i + 1)))] [] LY (itN bk2 A i) J := by
  intro n
  induction n with
  | zero =>
    intro i hi
    obtain rfl : i = 9 := by omega
    refine v_iload_n (pc := 23) dX7_breakAll_23 rfl ?_
    refine v_bipush (pc := 24) (v := 10) (by decide) dX7_breakAll_24 ?_
    refine v_icmp_ge (pc := 26) (tgt := 80) dX7_breakAll_26 (by decide) (fun c_26 => ?_) (fun c_26 => absurd (by decide) c_26)
    refine v_iconst (pc := 80) (v := 1) (by decide) dX7_breakAll_80 ?_
    refine v_ist_1 (pc := 81) dX7_breakAll_81 (by decide) rfl ?_
    exact lm_bk3 hz 9 0 rfl
  | succ n ih =>
    intro i hi
    have hcl := nI_clamp (show i + 1 < 2 ^ 31 by omega)
    have hch := nI_clamp (show (i + 1) / 2 < 2 ^ 31 by omega)
    have hcd := nI_clamp (show (i + 1) - (i + 1) / 2 < 2 ^ 31 by omega)
    have hdv : nI (i + 1) / 2 = nI ((i + 1) / 2) := pk_div (d := 2) (by omega) (by omega) (by omega)
    have hds : nI (i + 1) - nI ((i + 1) / 2) = nI ((i + 1) - (i + 1) / 2) := pk_sub (by omega)
    refine v_iload_n (pc := 23) dX7_breakAll_23 rfl ?_
    refine v_bipush (pc := 24) (v := 10) (by decide) dX7_breakAll_24 ?_
    refine v_icmp_ge (pc := 26) (tgt := 80) dX7_breakAll_26 (by decide) (fun c_26 => absurd c_26 (nI_ge (b := 10) (show i + 1 < 10 by omega) (by omega))) (fun c_26 => ?_)
    refine v_aload_n (pc := 29) dX7_breakAll_29 rfl ?_
    refine v_getR (pc := 30) fkX7_38 ly49 rfl dX7_breakAll_30 ?_
    refine v_iload_n (pc := 33) dX7_breakAll_33 rfl ?_
    refine v_iconst (pc := 34) (v := 2) (by decide) dX7_breakAll_34 ?_
    refine v_idiv (pc := 35) (by decide) dX7_breakAll_35 ?_
    rw [hdv]
    refine v_dup2IR (pc := 36) dX7_breakAll_36 ?_
    refine v_iald (pc := 37) ly58 ?_ dX7_breakAll_37 ?_
    · exact vp_in_nI (show (i + 1) / 2 < 10 by omega) (by omega)
    rw [hch]
    refine v_iload_n (pc := 38) dX7_breakAll_38 rfl ?_
    refine v_iconst (pc := 39) (v := 1) (by decide) dX7_breakAll_39 ?_
    refine v_icmp_ne (pc := 40) (tgt := 47) dX7_breakAll_40 (by decide) (fun c_40 => ?_) (fun c_40 => ?_)
    · refine v_aload_n (pc := 47) dX7_breakAll_47 rfl ?_
      refine v_getR (pc := 48) fkX7_35 ly49 rfl dX7_breakAll_48 ?_
      refine v_iload_n (pc := 51) dX7_breakAll_51 rfl ?_
      refine v_iald (pc := 52) ly57 ?_ dX7_breakAll_52 ?_
      · exact vp_in_nI (show i + 1 < 10 by omega) (by omega)
      rw [hcl]
      refine v_iadd (pc := 53) dX7_breakAll_53 ?_
      refine v_iast (pc := 54) ly58 ?_ dX7_breakAll_54 ?_
      · exact vp_in_nI (show (i + 1) / 2 < 10 by omega) (by omega)
      rw [hch]
      refine v_aload_n (pc := 55) dX7_breakAll_55 rfl ?_
      refine v_getR (pc := 56) fkX7_38 ly49 rfl dX7_breakAll_56 ?_
      refine v_iload_n (pc := 59) dX7_breakAll_59 rfl ?_
      refine v_iload_n (pc := 60) dX7_breakAll_60 rfl ?_
      refine v_iconst (pc := 61) (v := 2) (by decide) dX7_breakAll_61 ?_
      refine v_idiv (pc := 62) (by decide) dX7_breakAll_62 ?_
      rw [hdv]
      refine v_isub (pc := 63) dX7_breakAll_63 ?_
      rw [hds]
      refine v_dup2IR (pc := 64) dX7_breakAll_64 ?_
      refine v_iald (pc := 65) ly58 ?_ dX7_breakAll_65 ?_
      · exact vp_in_nI (show (i + 1) - (i + 1) / 2 < 10 by omega) (by omega)
      rw [hcd]
      refine v_aload_n (pc := 66) dX7_breakAll_66 rfl ?_
      refine v_getR (pc := 67) fkX7_35 ly49 rfl dX7_breakAll_67 ?_
      refine v_iload_n (pc := 70) dX7_breakAll_70 rfl ?_
      refine v_iald (pc := 71) ly57 ?_ dX7_breakAll_71 ?_
      · exact vp_in_nI (show i + 1 < 10 by omega) (by omega)
      rw [hcl]
      refine v_iadd (pc := 72) dX7_breakAll_72 ?_
      refine v_iast (pc := 73) ly58 ?_ dX7_breakAll_73 ?_
      · exact vp_in_nI (show (i + 1) - (i + 1) / 2 < 10 by omega) (by omega)
      rw [hcd]
      refine v_inc_1 (pc := 74) (v := 1) dX7_breakAll_74 (by decide) (by decide) rfl ?_
      refine v_goto (pc := 77) (tgt := 23) dX7_breakAll_77 (by decide) ?_
      rw [nI_1]
      have e9 := ih (i + 1) (by omega)
      rw [itN_s _ _ i] at e9
      unfold bk2 at e9
      rw [if_neg (show ¬ i = 0 by intro q0; subst q0; exact c_40 rfl)] at e9
      exact e9
    · refine v_iconst (pc := 43) (v := 0) (by decide) dX7_breakAll_43 ?_
      refine v_goto (pc := 44) (tgt := 53) dX7_breakAll_44 (by decide) ?_
      skip
      refine v_iadd (pc := 53) dX7_breakAll_53 ?_
      refine v_iast (pc := 54) ly58 ?_ dX7_breakAll_54 ?_
      · exact vp_in_nI (show (i + 1) / 2 < 10 by omega) (by omega)
      rw [hch]
      refine v_aload_n (pc := 55) dX7_breakAll_55 rfl ?_
      refine v_getR (pc := 56) fkX7_38 ly49 rfl dX7_breakAll_56 ?_
      refine v_iload_n (pc := 59) dX7_breakAll_59 rfl ?_
      refine v_iload_n (pc := 60) dX7_breakAll_60 rfl ?_
      refine v_iconst (pc := 61) (v := 2) (by decide) dX7_breakAll_61 ?_
      refine v_idiv (pc := 62) (by decide) dX7_breakAll_62 ?_
      rw [hdv]
      refine v_isub (pc := 63) dX7_breakAll_63 ?_
      rw [hds]
      refine v_dup2IR (pc := 64) dX7_breakAll_64 ?_
      refine v_iald (pc := 65) ly58 ?_ dX7_breakAll_65 ?_
      · exact vp_in_nI (show (i + 1) - (i + 1) / 2 < 10 by omega) (by omega)
      rw [hcd]
      refine v_aload_n (pc := 66) dX7_breakAll_66 rfl ?_
      refine v_getR (pc := 67) fkX7_35 ly49 rfl dX7_breakAll_67 ?_
      refine v_iload_n (pc := 70) dX7_breakAll_70 rfl ?_
      refine v_iald (pc := 71) ly57 ?_ dX7_breakAll_71 ?_
      · exact vp_in_nI (show i + 1 < 10 by omega) (by omega)
      rw [hcl]
      refine v_iadd (pc := 72) dX7_breakAll_72 ?_
      refine v_iast (pc := 73) ly58 ?_ dX7_breakAll_73 ?_
      · exact vp_in_nI (show (i + 1) - (i + 1) / 2 < 10 by omega) (by omega)
      rw [hcd]
      refine v_inc_1 (pc := 74) (v := 1) dX7_breakAll_74 (by decide) (by decide) rfl ?_
      refine v_goto (pc := 77) (tgt := 23) dX7_breakAll_77 (by decide) ?_
      rw [nI_1]
      have e9 := ih (i + 1) (by omega)
      rw [itN_s _ _ i] at e9
      unfold bk2 at e9
      rw [if_pos (show i = 0 by have := congrArg Int32.toInt c_40; rw [nI_toInt (by omega)] at this; have e1 : (1 : Int32).toInt = 1 := (by decide); omega)] at e9
      exact e9

set_option maxRecDepth 100000 in
set_option maxHeartbeats 1000000 in
theorem lm_bk1 {A Z : mM} {J : mJ} (hz : itN bk3 (itN bk2 (itN bk1 A 9) 9) 9 = Z) : ∀ (n i : Nat), n + i = 9 → V RX7 cX7_breakAll 2 none false (rmD 0) false LY.length none (mNv LY (fun M1 J1 => M1 = Z ∧ J1 = J)) 0 0 2 [some (.ref 49), some (.int (nI (i + 1)))] [] LY (itN bk1 A i) J := by
  intro n
  induction n with
  | zero =>
    intro i hi
    obtain rfl : i = 9 := by omega
    refine v_iload_n (pc := 2) dX7_breakAll_2 rfl ?_
    refine v_bipush (pc := 3) (v := 10) (by decide) dX7_breakAll_3 ?_
    refine v_icmp_ge (pc := 5) (tgt := 21) dX7_breakAll_5 (by decide) (fun c_5 => ?_) (fun c_5 => absurd (by decide) c_5)
    refine v_iconst (pc := 21) (v := 1) (by decide) dX7_breakAll_21 ?_
    refine v_ist_1 (pc := 22) dX7_breakAll_22 (by decide) rfl ?_
    exact lm_bk2 hz 9 0 rfl
  | succ n ih =>
    intro i hi
    have hcl := nI_clamp (show i + 1 < 2 ^ 31 by omega)
    have hch := nI_clamp (show (i + 1) / 2 < 2 ^ 31 by omega)
    have hcd := nI_clamp (show (i + 1) - (i + 1) / 2 < 2 ^ 31 by omega)
    have hdv : nI (i + 1) / 2 = nI ((i + 1) / 2) := pk_div (d := 2) (by omega) (by omega) (by omega)
    have hds : nI (i + 1) - nI ((i + 1) / 2) = nI ((i + 1) - (i + 1) / 2) := pk_sub (by omega)
    refine v_iload_n (pc := 2) dX7_breakAll_2 rfl ?_
    refine v_bipush (pc := 3) (v := 10) (by decide) dX7_breakAll_3 ?_
    refine v_icmp_ge (pc := 5) (tgt := 21) dX7_breakAll_5 (by decide) (fun c_5 => absurd c_5 (nI_ge (b := 10) (show i + 1 < 10 by omega) (by omega))) (fun c_5 => ?_)
    refine v_aload_n (pc := 8) dX7_breakAll_8 rfl ?_
    refine v_getR (pc := 9) fkX7_38 ly49 rfl dX7_breakAll_9 ?_
    refine v_iload_n (pc := 12) dX7_breakAll_12 rfl ?_
    refine v_iconst (pc := 13) (v := 0) (by decide) dX7_breakAll_13 ?_
    refine v_iast (pc := 14) ly58 ?_ dX7_breakAll_14 ?_
    · exact vp_in_nI (show i + 1 < 10 by omega) (by omega)
    refine v_inc_1 (pc := 15) (v := 1) dX7_breakAll_15 (by decide) (by decide) rfl ?_
    refine v_goto (pc := 18) (tgt := 2) dX7_breakAll_18 (by decide) ?_
    rw [hcl, nI_1]
    have e9 := ih (i + 1) (by omega)
    rw [itN_s _ _ i] at e9
    exact e9

set_option maxRecDepth 100000 in
set_option maxHeartbeats 4000000 in
theorem m_breakAll  {M : mM} {J : mJ}  : Ct yX7_breakAll cX7_breakAll 2 none (rmD 0) false [.ref 49] LY M J (mNv LY (fun M1 J1 => M1 = bkA M ∧ J1 = J)) := by
  refine ct_of (own := RX7) (ini := false) (ls := [some (.ref 49), none]) 1 (by decide +kernel) rfl (fun h => by cases h) rfl (fun ad => by first | exact Nat.le_of_ble_eq_true rfl) ?_
  refine v_iconst (pc := 0) (v := 1) (by decide) dX7_breakAll_0 ?_
  refine v_ist_1 (pc := 1) dX7_breakAll_1 (by decide) rfl ?_
  exact lm_bk1 rfl 9 0 rfl

set_option maxRecDepth 100000 in
set_option maxHeartbeats 4000000 in
theorem lm_count  {M : mM} {J : mJ}  : ∀ (n i : Nat), n + i = 9 → V RX7 cX7_count 3 (some .int) false (rmD 0) false LY.length none (mNi LY (fun r0 M1 J1 => r0 = itN (cnA (M 57)) 0 9 ∧ M1 = M ∧ J1 = J)) 0 0 4 [some (.ref 49), some (.int (itN (cnA (M 57)) 0 i)), some (.int (nI (i + 1)))] [] LY M J := by
  intro n
  induction n with
  | zero =>
    intro i hi
    obtain rfl : i = 9 := by omega
    refine v_iload_n (pc := 4) dX7_count_4 rfl ?_
    refine v_bipush (pc := 5) (v := 10) (by decide) dX7_count_5 ?_
    refine v_icmp_ge (pc := 7) (tgt := 25) dX7_count_7 (by decide) (fun c_7 => ?_) (fun c_7 => absurd (by decide) c_7)
    refine v_iload_n (pc := 25) dX7_count_25 rfl ?_
    refine v_iret (pc := 26) dX7_count_26 (Nat.zero_le _) (Nat.zero_le _) ?_
    exact ⟨rfl, rfl, rfl⟩
  | succ n ih =>
    intro i hi
    have hb7 : i < 9 := by omega
    have hcl := nI_clamp (show i < 2 ^ 31 by omega)
    refine v_iload_n (pc := 4) dX7_count_4 rfl ?_
    refine v_bipush (pc := 5) (v := 10) (by decide) dX7_count_5 ?_
    refine v_icmp_ge (pc := 7) (tgt := 25) dX7_count_7 (by decide) (fun c_7 => absurd c_7 (nI_ge (b := 10) (show i + 1 < 10 by omega) (by omega))) (fun c_7 => ?_)
    refine v_iload_n (pc := 10) dX7_count_10 rfl ?_
    refine v_aload_n (pc := 11) dX7_count_11 rfl ?_
    refine v_getR (pc := 12) fkX7_35 ly49 rfl dX7_count_12 ?_
    refine v_iload_n (pc := 15) dX7_count_15 rfl ?_
    refine v_iald (pc := 16) ly57 ?_ dX7_count_16 ?_
    · exact vp_in_nI (show i + 1 < 10 by omega) (by omega)
    refine v_iadd (pc := 17) dX7_count_17 ?_
    refine v_ist_1 (pc := 18) dX7_count_18 (by decide) rfl ?_
    refine v_inc_2 (pc := 19) (v := 1) dX7_count_19 (by decide) (by decide) rfl ?_
    refine v_goto (pc := 22) (tgt := 4) dX7_count_22 (by decide) ?_
    rw [nI_clamp (show i + 1 < 2 ^ 31 by omega), nI_1]
    exact ih (i + 1) (by omega)

set_option maxRecDepth 100000 in
set_option maxHeartbeats 4000000 in
theorem m_count  {M : mM} {J : mJ}  : Ct yX7_count cX7_count 3 (some .int) (rmD 0) false [.ref 49] LY M J (mNi LY (fun r0 M1 J1 => r0 = itN (cnA (M 57)) 0 9 ∧ M1 = M ∧ J1 = J)) := by
  refine ct_of (own := RX7) (ini := false) (ls := [some (.ref 49), none, none]) 2 (by decide +kernel) rfl (fun h => by cases h) rfl (fun ad => by first | exact Nat.le_of_ble_eq_true rfl) ?_
  refine v_iconst (pc := 0) (v := 0) (by decide) dX7_count_0 ?_
  refine v_ist_1 (pc := 1) dX7_count_1 (by decide) rfl ?_
  refine v_iconst (pc := 2) (v := 1) (by decide) dX7_count_2 ?_
  refine v_ist_2 (pc := 3) dX7_count_3 (by decide) rfl ?_
  exact lm_count 9 0 rfl
