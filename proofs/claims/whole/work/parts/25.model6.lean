/-! the model: over, filibuster, day -/
def ov1 (x : Int32) (kk : Nat) (z u : Int32) (B : Nat → Int32) (i : Nat) (a : Int32) : Int32 := if bt x (nI i) then (if nI i = z then a ^^^ hp (B i - u) kk else a ^^^ hp (B i - 0) kk) else a ^^^ 0
def ovF (x : Int32) (kk : Nat) (z u : Int32) (B : Nat → Int32) : Int32 := itN (ov1 x kk z u B) 0 7
def fsM (x z : Int32) (kk : Nat) (B : Nat → Int32) (p : Nat) : Nat → Nat → Int32 → Int32
  | 0, _, k => k
  | n + 1, s, k => if bt x (nI p) ∧ nI s ≤ B p then (if ovF x kk (nI p) (nI s) B = 0 then (if z = 1 then nI p else nI s) else fsM x z kk B p n (s + 1) k) else k
def foM (x z : Int32) (kk : Nat) (B : Nat → Int32) : Nat → Nat → Int32
  | 0, _ => -6
  | n + 1, p => fsM x z kk B p kk 1 (foM x z kk B n (p + 1))

set_option maxRecDepth 100000 in
set_option maxHeartbeats 4000000 in
theorem lm_over {x z u : Int32} {kk : Nat} {M : mM} {J : mJ} (hk9 : kk ≤ 9) : ∀ (n i : Nat), n + i = 7 → V RX7 cX7_over 7 (some .int) false (rmD 1) false LY.length none (mNi LY (fun r0 M1 J1 => r0 = ovF x kk z u (M 53) ∧ M1 = M ∧ J1 = J)) 0 0 6 [some (.ref 49), some (.int x), some (.int (nI kk)), some (.int z), some (.int u), some (.int (itN (ov1 x kk z u (M 53)) 0 i)), some (.int (nI i))] [] LY M J := by
  intro n
  induction n with
  | zero =>
    intro i hi
    obtain rfl : i = 7 := by omega
    refine v_iload (pc := 6) dX7_over_6 rfl ?_
    refine v_bipush (pc := 8) (v := 7) (by decide) dX7_over_8 ?_
    refine v_icmp_ge (pc := 10) (tgt := 61) dX7_over_10 (by decide) (fun c_10 => ?_) (fun c_10 => absurd (by decide) c_10)
    refine v_iload (pc := 61) dX7_over_61 rfl ?_
    refine v_iret (pc := 63) dX7_over_63 (Nat.zero_le _) (Nat.zero_le _) ?_
    exact ⟨rfl, rfl, rfl⟩
  | succ n ih =>
    intro i hi
    have hb7 : i < 7 := by omega
    have hcl := nI_clamp (show i < 2 ^ 31 by omega)
    refine v_iload (pc := 6) dX7_over_6 rfl ?_
    refine v_bipush (pc := 8) (v := 7) (by decide) dX7_over_8 ?_
    refine v_icmp_ge (pc := 10) (tgt := 61) dX7_over_10 (by decide) (fun c_10 => absurd c_10 (nI_ge (b := 7) hb7 (by omega))) (fun c_10 => ?_)
    refine v_iload (pc := 13) dX7_over_13 rfl ?_
    refine v_iload_n (pc := 15) dX7_over_15 rfl ?_
    refine v_iload (pc := 16) dX7_over_16 rfl ?_
    refine v_cS2i (pc := 18) dX7_over_18 mkX7_56 m_has (Nat.le_of_ble_eq_true rfl) rfl (Nat.zero_le _) (Nat.zero_le _) (fun r_18 M_18 J_18 h_18 => ?_)
    obtain ⟨e1_18, e2_18, e3_18⟩ := h_18
    replace e1_18 := e1_18.symm
    replace e2_18 := e2_18.symm
    replace e3_18 := e3_18.symm
    subst e1_18 e2_18 e3_18
    refine v_if_eq (pc := 21) (tgt := 51) dX7_over_21 (by decide) (fun c_21 => ?_) (fun c_21 => ?_)
    · refine v_iconst (pc := 51) (v := 0) (by decide) dX7_over_51 ?_
      refine v_ixor (pc := 52) dX7_over_52 ?_
      refine v_ist_5 (pc := 53) dX7_over_53 (by decide) rfl ?_
      refine v_inc_6 (pc := 55) (v := 1) dX7_over_55 (by decide) (by decide) rfl ?_
      refine v_goto (pc := 58) (tgt := 6) dX7_over_58 (by decide) ?_
      rw [nI_1]
      have e9 := ih (i + 1) (by omega)
      rw [itN_s _ _ i] at e9
      rw [show (ov1 x kk z u (M 53)) i (itN (ov1 x kk z u (M 53)) 0 i) = _ from if_neg (bI_0.mp c_21)] at e9
      exact e9
    · refine v_aload_n (pc := 24) dX7_over_24 rfl ?_
      refine v_getR (pc := 25) fkX7_23 ly49 rfl dX7_over_25 ?_
      refine v_iload (pc := 28) dX7_over_28 rfl ?_
      refine v_iald (pc := 30) ly53 ?_ dX7_over_30 ?_
      · exact vp_in_nI (show i < 107 by omega) (by omega)
      refine v_iload (pc := 31) dX7_over_31 rfl ?_
      refine v_iload_n (pc := 33) dX7_over_33 rfl ?_
      refine v_icmp_ne (pc := 34) (tgt := 42) dX7_over_34 (by decide) (fun c_34 => ?_) (fun c_34 => ?_)
      · refine v_iconst (pc := 42) (v := 0) (by decide) dX7_over_42 ?_
        refine v_isub (pc := 43) dX7_over_43 ?_
        refine v_iload_n (pc := 44) dX7_over_44 rfl ?_
        refine v_iconst (pc := 45) (v := 1) (by decide) dX7_over_45 ?_
        refine v_iadd (pc := 46) dX7_over_46 ?_
        rw [nI_1]
        refine v_irem (pc := 47) (nI_ne0 (by omega) (by omega)) dX7_over_47 ?_
        refine v_goto (pc := 48) (tgt := 52) dX7_over_48 (by decide) ?_
        refine v_ixor (pc := 52) dX7_over_52 ?_
        refine v_ist_5 (pc := 53) dX7_over_53 (by decide) rfl ?_
        refine v_inc_6 (pc := 55) (v := 1) dX7_over_55 (by decide) (by decide) rfl ?_
        refine v_goto (pc := 58) (tgt := 6) dX7_over_58 (by decide) ?_
        rw [nI_1]
        have e9 := ih (i + 1) (by omega)
        rw [itN_s _ _ i] at e9
        rw [hcl]
        rw [show (ov1 x kk z u (M 53)) i (itN (ov1 x kk z u (M 53)) 0 i) = _ from (if_pos (bI_n0.mp c_21)).trans (if_neg c_34)] at e9
        exact e9
      · refine v_iload (pc := 37) dX7_over_37 rfl ?_
        refine v_goto (pc := 39) (tgt := 43) dX7_over_39 (by decide) ?_
        refine v_isub (pc := 43) dX7_over_43 ?_
        refine v_iload_n (pc := 44) dX7_over_44 rfl ?_
        refine v_iconst (pc := 45) (v := 1) (by decide) dX7_over_45 ?_
        refine v_iadd (pc := 46) dX7_over_46 ?_
        rw [nI_1]
        refine v_irem (pc := 47) (nI_ne0 (by omega) (by omega)) dX7_over_47 ?_
        refine v_goto (pc := 48) (tgt := 52) dX7_over_48 (by decide) ?_
        refine v_ixor (pc := 52) dX7_over_52 ?_
        refine v_ist_5 (pc := 53) dX7_over_53 (by decide) rfl ?_
        refine v_inc_6 (pc := 55) (v := 1) dX7_over_55 (by decide) (by decide) rfl ?_
        refine v_goto (pc := 58) (tgt := 6) dX7_over_58 (by decide) ?_
        rw [nI_1]
        have e9 := ih (i + 1) (by omega)
        rw [itN_s _ _ i] at e9
        rw [hcl]
        rw [show (ov1 x kk z u (M 53)) i (itN (ov1 x kk z u (M 53)) 0 i) = _ from (if_pos (bI_n0.mp c_21)).trans (if_pos c_34)] at e9
        exact e9

set_option maxRecDepth 100000 in
set_option maxHeartbeats 4000000 in
theorem m_over {x z u : Int32} {kk : Nat} {M : mM} {J : mJ} (hk9 : kk ≤ 9) : Ct yX7_over cX7_over 7 (some .int) (rmD 1) false [.ref 49, .int x, .int (nI kk), .int z, .int u] LY M J (mNi LY (fun r0 M1 J1 => r0 = ovF x kk z u (M 53) ∧ M1 = M ∧ J1 = J)) := by
  refine ct_of (own := RX7) (ini := false) (ls := [some (.ref 49), some (.int x), some (.int (nI kk)), some (.int z), some (.int u), none, none]) 2 (by decide +kernel) rfl (fun h => by cases h) rfl (fun ad => by first | exact Nat.le_of_ble_eq_true rfl) ?_
  refine v_iconst (pc := 0) (v := 0) (by decide) dX7_over_0 ?_
  refine v_ist_5 (pc := 1) dX7_over_1 (by decide) rfl ?_
  refine v_iconst (pc := 3) (v := 0) (by decide) dX7_over_3 ?_
  refine v_ist_6 (pc := 4) dX7_over_4 (by decide) rfl ?_
  exact lm_over hk9 7 0 rfl

set_option maxRecDepth 100000 in
set_option maxHeartbeats 1000000 in
theorem lm_filI {x z : Int32} {kk p m : Nat} (hk1 : 1 ≤ kk) (hk9 : kk ≤ 9) (hp7 : p < 7) {M : mM} {J : mJ} (ho : V RX7 cX7_filibuster 7 (some .int) false (rmD 2) false LY.length none (mNi LY (fun r0 M1 J1 => r0 = foM x z kk (M 53) m (p + 1) ∧ M1 = M ∧ J1 = J)) 0 0 69 [some (.ref 49), some (.int x), some (.int (nI kk)), some (.int z), some (.int 1), some (.int (nI (p + 1))), none] [] LY M J) : ∀ (n s : Nat), n + s = kk + 1 → V RX7 cX7_filibuster 7 (some .int) false (rmD 2) false LY.length none (mNi LY (fun r0 M1 J1 => r0 = fsM x z kk (M 53) p n s (foM x z kk (M 53) m (p + 1)) ∧ M1 = M ∧ J1 = J)) 0 0 84 [some (.ref 49), some (.int x), some (.int (nI kk)), some (.int z), some (.int 1), some (.int (nI (p))), some (.int (nI (s)))] [] LY M J := by
  have hcp := nI_clamp (show p < 2 ^ 31 by omega)
  intro n
  induction n with
  | zero =>
    intro s hs
    refine v_iload (pc := 84) dX7_filibuster_84 rfl ?_
    refine v_iload_n (pc := 86) dX7_filibuster_86 rfl ?_
    refine v_icmp_gt (pc := 87) (tgt := 143) dX7_filibuster_87 (by decide) (fun c_87 => ?_) (fun c_87 => absurd ((nI_ltI (by omega) (by omega)).mpr (by omega)) c_87)
    refine v_inc_5 (pc := 143) (v := 1) dX7_filibuster_143 (by decide) (by decide) rfl ?_
    refine v_goto (pc := 146) (tgt := 69) dX7_filibuster_146 (by decide) ?_
    refine v_fg_6 ?_
    rw [nI_1]
    exact ho
  | succ n ih =>
    intro s hs
    refine v_iload (pc := 84) dX7_filibuster_84 rfl ?_
    refine v_iload_n (pc := 86) dX7_filibuster_86 rfl ?_
    refine v_icmp_gt (pc := 87) (tgt := 143) dX7_filibuster_87 (by decide) (fun c_87 => absurd c_87 (fun q => absurd ((nI_ltI (by omega) (by omega)).mp q) (by omega))) (fun c_87 => ?_)
    refine v_iload_n (pc := 90) dX7_filibuster_90 rfl ?_
    refine v_iload (pc := 91) dX7_filibuster_91 rfl ?_
    refine v_cS2i (pc := 93) dX7_filibuster_93 mkX7_56 m_has (Nat.le_of_ble_eq_true rfl) rfl (Nat.zero_le _) (Nat.zero_le _) (fun r_93 M_93 J_93 h_93 => ?_)
    obtain ⟨e1_93, e2_93, e3_93⟩ := h_93
    replace e1_93 := e1_93.symm
    replace e2_93 := e2_93.symm
    replace e3_93 := e3_93.symm
    subst e1_93 e2_93 e3_93
    refine v_if_eq (pc := 96) (tgt := 143) dX7_filibuster_96 (by decide) (fun c_96 => ?_) (fun c_96 => ?_)
    · refine v_inc_5 (pc := 143) (v := 1) dX7_filibuster_143 (by decide) (by decide) rfl ?_
      refine v_goto (pc := 146) (tgt := 69) dX7_filibuster_146 (by decide) ?_
      refine v_fg_6 ?_
      rw [nI_1]
      refine V.mono (fun o a b d q => ?_) ho
      rw [fsM, if_neg (fun q => bI_0.mp c_96 q.1)]
      exact q
    · refine v_iload (pc := 99) dX7_filibuster_99 rfl ?_
      refine v_aload_n (pc := 101) dX7_filibuster_101 rfl ?_
      refine v_getR (pc := 102) fkX7_23 ly49 rfl dX7_filibuster_102 ?_
      refine v_iload (pc := 105) dX7_filibuster_105 rfl ?_
      refine v_iald (pc := 107) ly53 ?_ dX7_filibuster_107 ?_
      · exact vp_in_nI (show p < 107 by omega) (by omega)
      refine v_icmp_gt (pc := 108) (tgt := 143) dX7_filibuster_108 (by decide) (fun c_108 => ?_) (fun c_108 => ?_)
      · refine v_inc_5 (pc := 143) (v := 1) dX7_filibuster_143 (by decide) (by decide) rfl ?_
        refine v_goto (pc := 146) (tgt := 69) dX7_filibuster_146 (by decide) ?_
        refine v_fg_6 ?_
        rw [nI_1]
        rw [hcp] at c_108
        refine V.mono (fun o a b d q => ?_) ho
        rw [fsM, if_neg (fun q => absurd q.2 (Int32.not_le.mpr c_108))]
        exact q
      · refine v_aload_n (pc := 111) dX7_filibuster_111 rfl ?_
        refine v_iload_n (pc := 112) dX7_filibuster_112 rfl ?_
        refine v_iload_n (pc := 113) dX7_filibuster_113 rfl ?_
        refine v_iload (pc := 114) dX7_filibuster_114 rfl ?_
        refine v_iload (pc := 116) dX7_filibuster_116 rfl ?_
        refine v_cV4i (pc := 118) dX7_filibuster_118 mkX7_139 (m_over hk9) ly49 rfl (Nat.le_of_ble_eq_true rfl) rfl (Nat.zero_le _) (Nat.zero_le _) (fun r_118 M_118 J_118 h_118 => ?_)
        obtain ⟨e1_118, e2_118, e3_118⟩ := h_118
        replace e1_118 := e1_118.symm
        replace e2_118 := e2_118.symm
        replace e3_118 := e3_118.symm
        subst e1_118 e2_118 e3_118
        refine v_if_ne (pc := 121) (tgt := 137) dX7_filibuster_121 (by decide) (fun c_121 => ?_) (fun c_121 => ?_)
        · refine v_inc_6 (pc := 137) (v := 1) dX7_filibuster_137 (by decide) (by decide) rfl ?_
          refine v_goto (pc := 140) (tgt := 84) dX7_filibuster_140 (by decide) ?_
          rw [nI_1]
          refine V.mono (fun o a b d q => ?_) (ih (s + 1) (by omega))
          rw [hcp] at c_108
          rw [fsM, if_pos ⟨bI_n0.mp c_96, Int32.not_lt.mp c_108⟩, if_neg c_121]
          exact q
        · refine v_iload_n (pc := 124) dX7_filibuster_124 rfl ?_
          refine v_iconst (pc := 125) (v := 1) (by decide) dX7_filibuster_125 ?_
          refine v_icmp_ne (pc := 126) (tgt := 134) dX7_filibuster_126 (by decide) (fun c_126 => ?_) (fun c_126 => ?_)
          · refine v_iload (pc := 134) dX7_filibuster_134 rfl ?_
            refine v_iret (pc := 136) dX7_filibuster_136 (Nat.zero_le _) (Nat.zero_le _) ?_
            rw [hcp] at c_108
            exact ⟨by rw [fsM, if_pos ⟨bI_n0.mp c_96, Int32.not_lt.mp c_108⟩, if_pos c_121, if_neg c_126], rfl, rfl⟩
          · refine v_iload (pc := 129) dX7_filibuster_129 rfl ?_
            refine v_goto (pc := 131) (tgt := 136) dX7_filibuster_131 (by decide) ?_
            refine v_iret (pc := 136) dX7_filibuster_136 (Nat.zero_le _) (Nat.zero_le _) ?_
            rw [hcp] at c_108
            exact ⟨by rw [fsM, if_pos ⟨bI_n0.mp c_96, Int32.not_lt.mp c_108⟩, if_pos c_121, if_pos c_126], rfl, rfl⟩

set_option maxRecDepth 100000 in
set_option maxHeartbeats 1000000 in
theorem lm_filO {x z : Int32} {kk : Nat} (hk1 : 1 ≤ kk) (hk9 : kk ≤ 9) {M : mM} {J : mJ} : ∀ (n p : Nat), n + p = 7 → V RX7 cX7_filibuster 7 (some .int) false (rmD 2) false LY.length none (mNi LY (fun r0 M1 J1 => r0 = foM x z kk (M 53) n (p) ∧ M1 = M ∧ J1 = J)) 0 0 69 [some (.ref 49), some (.int x), some (.int (nI kk)), some (.int z), some (.int 1), some (.int (nI (p))), none] [] LY M J := by
  intro n
  induction n with
  | zero =>
    intro p hpn
    obtain rfl : p = 7 := by omega
    refine v_iload (pc := 69) dX7_filibuster_69 rfl ?_
    refine v_bipush (pc := 71) (v := 7) (by decide) dX7_filibuster_71 ?_
    refine v_icmp_ge (pc := 73) (tgt := 149) dX7_filibuster_73 (by decide) (fun c_73 => ?_) (fun c_73 => absurd (by decide) c_73)
    refine v_bipush (pc := 149) (v := (-6)) (by decide) dX7_filibuster_149 ?_
    refine v_iret (pc := 151) dX7_filibuster_151 (Nat.zero_le _) (Nat.zero_le _) ?_
    exact ⟨rfl, rfl, rfl⟩
  | succ n ih =>
    intro p hpn
    refine v_iload (pc := 69) dX7_filibuster_69 rfl ?_
    refine v_bipush (pc := 71) (v := 7) (by decide) dX7_filibuster_71 ?_
    refine v_icmp_ge (pc := 73) (tgt := 149) dX7_filibuster_73 (by decide) (fun c_73 => absurd c_73 (nI_ge (b := 7) (show p < 7 by omega) (by omega))) (fun c_73 => ?_)
    refine v_iload (pc := 76) dX7_filibuster_76 rfl ?_
    refine v_if_eq (pc := 78) (tgt := 149) dX7_filibuster_78 (by decide) (fun c_78 => absurd c_78 (by decide)) (fun c_78 => ?_)
    refine v_iconst (pc := 81) (v := 1) (by decide) dX7_filibuster_81 ?_
    refine v_ist_6 (pc := 82) dX7_filibuster_82 (by decide) rfl ?_
    exact lm_filI hk1 hk9 (by omega) (ih (p + 1) (by omega)) kk 1 rfl

set_option maxRecDepth 100000 in
set_option maxHeartbeats 1000000 in
theorem lm_fil0 {x y z : Int32} {M : mM} {J : mJ} : V RX7 cX7_filibuster 7 (some .int) false (rmD 2) false LY.length none (mNi LY (fun r0 M1 J1 => r0 = -6 ∧ M1 = M ∧ J1 = J)) 0 0 69 [some (.ref 49), some (.int x), some (.int y), some (.int z), some (.int 0), some (.int 0), none] [] LY M J := by
  refine v_iload (pc := 69) dX7_filibuster_69 rfl ?_
  refine v_bipush (pc := 71) (v := 7) (by decide) dX7_filibuster_71 ?_
  refine v_icmp_ge (pc := 73) (tgt := 149) dX7_filibuster_73 (by decide) (fun c_73 => absurd c_73 (by decide)) (fun c_73 => ?_)
  refine v_iload (pc := 76) dX7_filibuster_76 rfl ?_
  refine v_if_eq (pc := 78) (tgt := 149) dX7_filibuster_78 (by decide) (fun c_78 => ?_) (fun c_78 => absurd (rfl) c_78)
  refine v_bipush (pc := 149) (v := (-6)) (by decide) dX7_filibuster_149 ?_
  refine v_iret (pc := 151) dX7_filibuster_151 (Nat.zero_le _) (Nat.zero_le _) ?_
  exact ⟨rfl, rfl, rfl⟩

set_option maxRecDepth 100000 in
set_option maxHeartbeats 4000000 in
theorem m_fili {x y z : Int32} {M : mM} {J : mJ}  : Ct yX7_filibuster cX7_filibuster 7 (some .int) (rmD 2) false [.ref 49, .int x, .int y, .int z] LY M J (mNi LY (fun r0 M1 J1 => r0 = (if gS (M 53 7) x then (if ((1 ≤ y ∧ y ≤ 9) ∧ (0 ≤ z ∧ z ≤ 2)) then (if z = 0 then (if ovF x y.toNatClampNeg (-6) 0 (M 53) = 0 then 1 else 0) else if ovF x y.toNatClampNeg (-6) 0 (M 53) = 0 then -6 else foM x z y.toNatClampNeg (M 53) 7 0) else -2) else -1) ∧ M1 = M ∧ J1 = J)) := by
  refine ct_of (own := RX7) (ini := false) (ls := [some (.ref 49), some (.int x), some (.int y), some (.int z), none, none, none]) 3 (by decide +kernel) rfl (fun h => by cases h) rfl (fun ad => by first | exact Nat.le_of_ble_eq_true rfl) ?_
  refine v_aload_n (pc := 0) dX7_filibuster_0 rfl ?_
  refine v_iload_n (pc := 1) dX7_filibuster_1 rfl ?_
  refine v_cV1i (pc := 2) dX7_filibuster_2 mkX7_130 m_areBelow ly49 rfl (Nat.le_of_ble_eq_true rfl) rfl (Nat.zero_le _) (Nat.zero_le _) (fun r_2 M_2 J_2 h_2 => ?_)
  obtain ⟨e1_2, e2_2, e3_2⟩ := h_2
  replace e1_2 := e1_2.symm
  replace e2_2 := e2_2.symm
  replace e3_2 := e3_2.symm
  subst e1_2 e2_2 e3_2
  refine v_if_ne (pc := 5) (tgt := 10) dX7_filibuster_5 (by decide) (fun c_5 => ?_) (fun c_5 => ?_)
  · refine v_iload_n (pc := 10) dX7_filibuster_10 rfl ?_
    refine v_iconst (pc := 11) (v := 1) (by decide) dX7_filibuster_11 ?_
    refine v_bipush (pc := 12) (v := 9) (by decide) dX7_filibuster_12 ?_
    refine v_cS3i (pc := 14) dX7_filibuster_14 mkX7_49 m_in (Nat.le_of_ble_eq_true rfl) rfl (Nat.zero_le _) (Nat.zero_le _) (fun r_14 M_14 J_14 h_14 => ?_)
    obtain ⟨e1_14, e2_14, e3_14⟩ := h_14
    replace e1_14 := e1_14.symm
    replace e2_14 := e2_14.symm
    replace e3_14 := e3_14.symm
    subst e1_14 e2_14 e3_14
    refine v_if_eq (pc := 17) (tgt := 29) dX7_filibuster_17 (by decide) (fun c_17 => ?_) (fun c_17 => ?_)
    · refine v_bipush (pc := 29) (v := (-2)) (by decide) dX7_filibuster_29 ?_
      refine v_iret (pc := 31) dX7_filibuster_31 (Nat.zero_le _) (Nat.zero_le _) ?_
      exact ⟨by rw [if_pos (bI_n0.mp c_5), if_neg (fun q => bI_0.mp c_17 q.1)], rfl, rfl⟩
    · refine v_iload_n (pc := 20) dX7_filibuster_20 rfl ?_
      refine v_iconst (pc := 21) (v := 0) (by decide) dX7_filibuster_21 ?_
      refine v_iconst (pc := 22) (v := 2) (by decide) dX7_filibuster_22 ?_
      refine v_cS3i (pc := 23) dX7_filibuster_23 mkX7_49 m_in (Nat.le_of_ble_eq_true rfl) rfl (Nat.zero_le _) (Nat.zero_le _) (fun r_23 M_23 J_23 h_23 => ?_)
      obtain ⟨e1_23, e2_23, e3_23⟩ := h_23
      replace e1_23 := e1_23.symm
      replace e2_23 := e2_23.symm
      replace e3_23 := e3_23.symm
      subst e1_23 e2_23 e3_23
      refine v_if_ne (pc := 26) (tgt := 32) dX7_filibuster_26 (by decide) (fun c_26 => ?_) (fun c_26 => ?_)
      · obtain ⟨k0, hk0, rfl⟩ := rngN (a := 1) (n := 8) rfl rfl (by omega) (bI_n0.mp c_17).1 (bI_n0.mp c_17).2
        have hcl := nI_clamp (show 1 + k0 < 2 ^ 31 by omega)
        have hk1 : 1 ≤ 1 + k0 := by omega
        have hk9 : 1 + k0 ≤ 9 := by omega
        have hG : gS (M 53 7) x := bI_n0.mp c_5
        have hF : (1 ≤ nI (1 + k0) ∧ nI (1 + k0) ≤ 9) ∧ (0 ≤ z ∧ z ≤ 2) := ⟨bI_n0.mp c_17, bI_n0.mp c_26⟩
        refine v_aload_n (pc := 32) dX7_filibuster_32 rfl ?_
        refine v_iload_n (pc := 33) dX7_filibuster_33 rfl ?_
        refine v_iload_n (pc := 34) dX7_filibuster_34 rfl ?_
        refine v_bipush (pc := 35) (v := (-6)) (by decide) dX7_filibuster_35 ?_
        refine v_iconst (pc := 37) (v := 0) (by decide) dX7_filibuster_37 ?_
        refine v_cV4i (pc := 38) dX7_filibuster_38 mkX7_139 (m_over hk9) ly49 rfl (Nat.le_of_ble_eq_true rfl) rfl (Nat.zero_le _) (Nat.zero_le _) (fun r_38 M_38 J_38 h_38 => ?_)
        obtain ⟨e1_38, e2_38, e3_38⟩ := h_38
        replace e1_38 := e1_38.symm
        replace e2_38 := e2_38.symm
        replace e3_38 := e3_38.symm
        subst e1_38 e2_38 e3_38
        refine v_if_eq (pc := 41) (tgt := 48) dX7_filibuster_41 (by decide) (fun c_41 => ?_) (fun c_41 => ?_)
        · refine v_iconst (pc := 48) (v := 0) (by decide) dX7_filibuster_48 ?_
          refine v_ist_4 (pc := 49) dX7_filibuster_49 (by decide) rfl ?_
          refine v_iload_n (pc := 51) dX7_filibuster_51 rfl ?_
          refine v_if_ne (pc := 52) (tgt := 66) dX7_filibuster_52 (by decide) (fun c_52 => ?_) (fun c_52 => ?_)
          · refine v_iconst (pc := 66) (v := 0) (by decide) dX7_filibuster_66 ?_
            refine v_ist_5 (pc := 67) dX7_filibuster_67 (by decide) rfl ?_
            refine V.mono (fun o a b d q => ?_) lm_fil0
            rw [if_pos hG, if_pos hF, if_neg c_52, hcl, if_pos c_41]
            exact q
          · refine v_iload (pc := 55) dX7_filibuster_55 rfl ?_
            refine v_if_eq (pc := 57) (tgt := 64) dX7_filibuster_57 (by decide) (fun c_57 => ?_) (fun c_57 => ?_)
            · refine v_iconst (pc := 64) (v := 1) (by decide) dX7_filibuster_64 ?_
              refine v_iret (pc := 65) dX7_filibuster_65 (Nat.zero_le _) (Nat.zero_le _) ?_
              exact ⟨by rw [if_pos hG, if_pos hF, if_pos c_52, hcl, if_pos c_41], rfl, rfl⟩
            · refine v_iconst (pc := 60) (v := 0) (by decide) dX7_filibuster_60 ?_
              refine v_goto (pc := 61) (tgt := 65) dX7_filibuster_61 (by decide) ?_
              refine v_iret (pc := 65) dX7_filibuster_65 (Nat.zero_le _) (Nat.zero_le _) ?_
              exact absurd rfl c_57
        · refine v_iconst (pc := 44) (v := 1) (by decide) dX7_filibuster_44 ?_
          refine v_goto (pc := 45) (tgt := 49) dX7_filibuster_45 (by decide) ?_
          refine v_ist_4 (pc := 49) dX7_filibuster_49 (by decide) rfl ?_
          refine v_iload_n (pc := 51) dX7_filibuster_51 rfl ?_
          refine v_if_ne (pc := 52) (tgt := 66) dX7_filibuster_52 (by decide) (fun c_52 => ?_) (fun c_52 => ?_)
          · refine v_iconst (pc := 66) (v := 0) (by decide) dX7_filibuster_66 ?_
            refine v_ist_5 (pc := 67) dX7_filibuster_67 (by decide) rfl ?_
            refine V.mono (fun o a b d q => ?_) (lm_filO hk1 hk9 7 0 rfl)
            rw [if_pos hG, if_pos hF, if_neg c_52, hcl, if_neg c_41]
            exact q
          · refine v_iload (pc := 55) dX7_filibuster_55 rfl ?_
            refine v_if_eq (pc := 57) (tgt := 64) dX7_filibuster_57 (by decide) (fun c_57 => ?_) (fun c_57 => ?_)
            · refine v_iconst (pc := 64) (v := 1) (by decide) dX7_filibuster_64 ?_
              refine v_iret (pc := 65) dX7_filibuster_65 (Nat.zero_le _) (Nat.zero_le _) ?_
              exact absurd c_57 (by decide)
            · refine v_iconst (pc := 60) (v := 0) (by decide) dX7_filibuster_60 ?_
              refine v_goto (pc := 61) (tgt := 65) dX7_filibuster_61 (by decide) ?_
              refine v_iret (pc := 65) dX7_filibuster_65 (Nat.zero_le _) (Nat.zero_le _) ?_
              exact ⟨by rw [if_pos hG, if_pos hF, if_pos c_52, hcl, if_neg c_41], rfl, rfl⟩
      · refine v_bipush (pc := 29) (v := (-2)) (by decide) dX7_filibuster_29 ?_
        refine v_iret (pc := 31) dX7_filibuster_31 (Nat.zero_le _) (Nat.zero_le _) ?_
        exact ⟨by rw [if_pos (bI_n0.mp c_5), if_neg (fun q => bI_0.mp c_26 q.2)], rfl, rfl⟩
  · refine v_iconst (pc := 8) (v := (-1)) (by decide) dX7_filibuster_8 ?_
    refine v_iret (pc := 9) dX7_filibuster_9 (Nat.zero_le _) (Nat.zero_le _) ?_
    exact ⟨by rw [if_neg (bI_0.mp c_5)], rfl, rfl⟩

def nDraw (M : mM) (n : Nat) : mM := if n % 8 < 3 then nPass M else if n % 8 = 3 then mU M 54 9 (nI (n / 8 % 10)) else if nWhy (M 54) (n / 8 % 7) (nI (1 + n / 64 % 9)) = 0 then nBub M (nbN M) (n / 8 % 7) (nI (1 + n / 64 % 9)) else M
def ndy (_ : Nat) (p : Nat × mM) : Nat × mM := (lcg p.1, nDraw p.2 (lcg p.1))
def ndP (M : mM) (s m : Nat) : Nat × mM := itN ndy (s, cpR M 54 53 0 107) m
theorem nbN_lt {M : mM} {k : Nat} {z : Int32} (h : WN M) (hw : nWhy (M 54) k z = 0) : M 54 10 = nI (nbN M) ∧ nbN M < 32 := by
  obtain ⟨nb, h1, h2⟩ := h
  have hn := nWhy_n hw
  rw [h1] at hn
  have : nb < 32 := Nat.lt_of_le_of_ne h2 (fun q => hn (by rw [q]; rfl))
  unfold nbN
  rw [h1, nI_clamp (by omega)]
  exact ⟨rfl, this⟩
theorem WN_draw {M : mM} {n : Nat} (w : WN M) : WN (nDraw M n) := by
  have w0 := w
  obtain ⟨nb, h1, h2⟩ := w
  unfold nDraw
  split
  · refine ⟨nb, ?_, h2⟩
    unfold nPass
    split
    · exact h1
    · rw [show mU (nsN M 7) 54 8 (nsN M 7 54 8 + 1) 54 10 = nsN M 7 54 10 from rfl, nsN_10 7 (by omega), h1]
  split
  · exact ⟨nb, h1, h2⟩
  split
  · next a b d =>
    obtain ⟨q1, q2⟩ := nbN_lt w0 d
    exact ⟨nbN M + 1, by rw [nBub_10 (Nat.mod_lt _ (by omega))], by omega⟩
  · exact ⟨nb, h1, h2⟩
theorem ndP_ok {M : mM} {s : Nat} (hs : s < 65537) (hwf : WNb M) : ∀ m, (ndP M s m).1 < 65537 ∧ WN (ndP M s m).2
  | 0 => ⟨hs, hwf⟩
  | m + 1 => ⟨lcg_lt _, WN_draw (ndP_ok hs hwf m).2⟩

set_option maxRecDepth 100000 in
set_option maxHeartbeats 4000000 in
theorem lm_dayS {x y z s : Int32} {N : mM} {J : mJ}  : ∀ (n i : Nat), n + i = 7 → V RX7 cX7_day 9 (some .int) false (rmD 3) false LY.length none (mNi LY (fun r0 M1 J1 => r0 = sel3 z (N 54 10) (bsum (N 54) (N 54 7) 7) (pc7 (N 54 7) 7) ∧ M1 = N ∧ J1 = J)) 0 0 160 [some (.ref 49), some (.int x), some (.int y), some (.int z), some (.int s), some (.int (bsum (N 54) (N 54 7) i)), some (.int (nI i)), none, none] [] LY N J := by
  intro n
  induction n with
  | zero =>
    intro i hi
    obtain rfl : i = 7 := by omega
    refine v_iload (pc := 160) dX7_day_160 rfl ?_
    refine v_bipush (pc := 162) (v := 7) (by decide) dX7_day_162 ?_
    refine v_icmp_ge (pc := 164) (tgt := 204) dX7_day_164 (by decide) (fun c_164 => ?_) (fun c_164 => absurd (by decide) c_164)
    refine v_iload_n (pc := 204) dX7_day_204 rfl ?_
    refine v_if_ne (pc := 205) (tgt := 218) dX7_day_205 (by decide) (fun c_205 => ?_) (fun c_205 => ?_)
    · refine v_iload_n (pc := 218) dX7_day_218 rfl ?_
      refine v_iconst (pc := 219) (v := 1) (by decide) dX7_day_219 ?_
      refine v_icmp_ne (pc := 220) (tgt := 228) dX7_day_220 (by decide) (fun c_220 => ?_) (fun c_220 => ?_)
      · refine v_aload_n (pc := 228) dX7_day_228 rfl ?_
        refine v_getR (pc := 229) fkX7_26 ly49 rfl dX7_day_229 ?_
        refine v_bipush (pc := 232) (v := 7) (by decide) dX7_day_232 ?_
        refine v_iald (pc := 234) ly54 ?_ dX7_day_234 ?_
        · unfold vp_in; decide
        rw [show Int32.toNatClampNeg 7 = 7 from rfl]
        refine v_cS1i (pc := 235) dX7_day_235 mkX7_60 m_bits (Nat.le_of_ble_eq_true rfl) rfl (Nat.zero_le _) (Nat.zero_le _) (fun r_235 M_235 J_235 h_235 => ?_)
        obtain ⟨e1_235, e2_235, e3_235⟩ := h_235
        replace e1_235 := e1_235.symm
        replace e2_235 := e2_235.symm
        replace e3_235 := e3_235.symm
        subst e1_235 e2_235 e3_235
        refine v_iret (pc := 238) dX7_day_238 (Nat.zero_le _) (Nat.zero_le _) ?_
        exact ⟨by unfold sel3; rw [if_neg c_205, if_neg c_220], rfl, rfl⟩
      · refine v_iload (pc := 223) dX7_day_223 rfl ?_
        refine v_goto (pc := 225) (tgt := 238) dX7_day_225 (by decide) ?_
        refine v_iret (pc := 238) dX7_day_238 (Nat.zero_le _) (Nat.zero_le _) ?_
        exact ⟨by unfold sel3; rw [if_neg c_205, if_pos c_220], rfl, rfl⟩
    · refine v_aload_n (pc := 208) dX7_day_208 rfl ?_
      refine v_getR (pc := 209) fkX7_26 ly49 rfl dX7_day_209 ?_
      refine v_bipush (pc := 212) (v := 10) (by decide) dX7_day_212 ?_
      refine v_iald (pc := 214) ly54 ?_ dX7_day_214 ?_
      · unfold vp_in; decide
      rw [show Int32.toNatClampNeg 10 = 10 from rfl]
      refine v_goto (pc := 215) (tgt := 238) dX7_day_215 (by decide) ?_
      refine v_iret (pc := 238) dX7_day_238 (Nat.zero_le _) (Nat.zero_le _) ?_
      exact ⟨by unfold sel3; rw [if_pos c_205], rfl, rfl⟩
  | succ n ih =>
    intro i hi
    have hb7 : i < 7 := by omega
    have hcl := nI_clamp (show i < 2 ^ 31 by omega)
    refine v_iload (pc := 160) dX7_day_160 rfl ?_
    refine v_bipush (pc := 162) (v := 7) (by decide) dX7_day_162 ?_
    refine v_icmp_ge (pc := 164) (tgt := 204) dX7_day_164 (by decide) (fun c_164 => absurd c_164 (nI_ge (b := 7) hb7 (by omega))) (fun c_164 => ?_)
    refine v_iload (pc := 167) dX7_day_167 rfl ?_
    refine v_aload_n (pc := 169) dX7_day_169 rfl ?_
    refine v_getR (pc := 170) fkX7_26 ly49 rfl dX7_day_170 ?_
    refine v_bipush (pc := 173) (v := 7) (by decide) dX7_day_173 ?_
    refine v_iald (pc := 175) ly54 ?_ dX7_day_175 ?_
    · unfold vp_in; decide
    rw [show Int32.toNatClampNeg 7 = 7 from rfl]
    refine v_iload (pc := 176) dX7_day_176 rfl ?_
    refine v_cS2i (pc := 178) dX7_day_178 mkX7_56 m_has (Nat.le_of_ble_eq_true rfl) rfl (Nat.zero_le _) (Nat.zero_le _) (fun r_178 M_178 J_178 h_178 => ?_)
    obtain ⟨e1_178, e2_178, e3_178⟩ := h_178
    replace e1_178 := e1_178.symm
    replace e2_178 := e2_178.symm
    replace e3_178 := e3_178.symm
    subst e1_178 e2_178 e3_178
    refine v_if_eq (pc := 181) (tgt := 194) dX7_day_181 (by decide) (fun c_181 => ?_) (fun c_181 => ?_)
    · refine v_iconst (pc := 194) (v := 0) (by decide) dX7_day_194 ?_
      refine v_iadd (pc := 195) dX7_day_195 ?_
      refine v_ist_5 (pc := 196) dX7_day_196 (by decide) rfl ?_
      refine v_inc_6 (pc := 198) (v := 1) dX7_day_198 (by decide) (by decide) rfl ?_
      refine v_goto (pc := 201) (tgt := 160) dX7_day_201 (by decide) ?_
      rw [nI_1]
      have e9 := ih (i + 1) (by omega)
      rw [show bsum (N 54) (N 54 7) (i + 1) = _ from if_neg (bI_0.mp c_181)] at e9
      rw [Int32.add_zero]
      exact e9
    · refine v_aload_n (pc := 184) dX7_day_184 rfl ?_
      refine v_getR (pc := 185) fkX7_26 ly49 rfl dX7_day_185 ?_
      refine v_iload (pc := 188) dX7_day_188 rfl ?_
      refine v_iald (pc := 190) ly54 ?_ dX7_day_190 ?_
      · exact vp_in_nI (show i < 107 by omega) (by omega)
      refine v_goto (pc := 191) (tgt := 195) dX7_day_191 (by decide) ?_
      refine v_iadd (pc := 195) dX7_day_195 ?_
      refine v_ist_5 (pc := 196) dX7_day_196 (by decide) rfl ?_
      refine v_inc_6 (pc := 198) (v := 1) dX7_day_198 (by decide) (by decide) rfl ?_
      refine v_goto (pc := 201) (tgt := 160) dX7_day_201 (by decide) ?_
      rw [nI_1]
      have e9 := ih (i + 1) (by omega)
      rw [hcl]
      rw [show bsum (N 54) (N 54 7) (i + 1) = _ from if_pos (bI_n0.mp c_181)] at e9
      exact e9

set_option maxRecDepth 100000 in
set_option maxHeartbeats 1000000 in
theorem lm_day {x z : Int32} {s mm : Nat} (hs : s < 65537) (hmm : mm ≤ 99) {M : mM} {J : mJ} (hwf : WNb M) : ∀ (n i : Nat), n + i = mm → V RX7 cX7_day 9 (some .int) false (rmD 3) false LY.length none (mNi LY (fun r0 M1 J1 => r0 = sel3 z ((ndP M s mm).2 54 10) (bsum ((ndP M s mm).2 54) ((ndP M s mm).2 54 7) 7) (pc7 ((ndP M s mm).2 54 7) 7) ∧ M1 = (ndP M s mm).2 ∧ J1 = J)) 0 0 43 [some (.ref 49), some (.int x), some (.int (nI mm)), some (.int z), some (.int (nI (ndP M s i).1)), some (.int (nI i)), none, none, none] [] LY (ndP M s i).2 J := by
  intro n
  induction n with
  | zero =>
    intro i hi
    obtain rfl : i = mm := by omega
    refine v_iload (pc := 43) dX7_day_43 rfl ?_
    refine v_iload_n (pc := 45) dX7_day_45 rfl ?_
    refine v_icmp_ge (pc := 46) (tgt := 154) dX7_day_46 (by decide) (fun c_46 => ?_) (fun c_46 => absurd (nI_le (Nat.le_refl i) (by omega)) c_46)
    refine v_iconst (pc := 154) (v := 0) (by decide) dX7_day_154 ?_
    refine v_ist_5 (pc := 155) dX7_day_155 (by decide) rfl ?_
    refine v_iconst (pc := 157) (v := 0) (by decide) dX7_day_157 ?_
    refine v_ist_6 (pc := 158) dX7_day_158 (by decide) rfl ?_
    exact lm_dayS 7 0 rfl
  | succ n ih =>
    intro i hi
    obtain ⟨h1, h2⟩ := ndP_ok hs hwf i
    have hl := lcg_lt (ndP M s i).1
    have e8 : nI (lcg (ndP M s i).1) - nI (lcg (ndP M s i).1) / 8 * 8 = nI (lcg (ndP M s i).1 % 8) := pk_rem (d := 8) (by omega) (by omega) (by omega)
    have e9' : nI (lcg (ndP M s i).1) / 8 = nI (lcg (ndP M s i).1 / 8) := pk_div (d := 8) (by omega) (by omega) (by omega)
    have e64 : nI (lcg (ndP M s i).1) / 64 = nI (lcg (ndP M s i).1 / 64) := pk_div (d := 64) (by omega) (by omega) (by omega)
    have e10 : nI (lcg (ndP M s i).1 / 8) - nI (lcg (ndP M s i).1 / 8) / 10 * 10 = nI (lcg (ndP M s i).1 / 8 % 10) := pk_rem (d := 10) (by omega) (by omega) (by omega)
    have e7 : nI (lcg (ndP M s i).1 / 8) - nI (lcg (ndP M s i).1 / 8) / 7 * 7 = nI (lcg (ndP M s i).1 / 8 % 7) := pk_rem (d := 7) (by omega) (by omega) (by omega)
    have e6 : nI (lcg (ndP M s i).1 / 64) - nI (lcg (ndP M s i).1 / 64) / 9 * 9 = nI (lcg (ndP M s i).1 / 64 % 9) := pk_rem (d := 9) (by omega) (by omega) (by omega)
    have e1 : (1 : Int32) + nI (lcg (ndP M s i).1 / 64 % 9) = nI (1 + lcg (ndP M s i).1 / 64 % 9) := nI_add 1 _
    have h3 : (3 : Int32) ≤ nI (lcg (ndP M s i).1 % 8) ↔ 3 ≤ lcg (ndP M s i).1 % 8 := nI_leI (a := 3) (by omega) (by omega)
    have h4 : nI (lcg (ndP M s i).1 % 8) = (3 : Int32) ↔ lcg (ndP M s i).1 % 8 = 3 := nI_eq (b := 3) (by omega) (by omega)
    have hz9 : (1 : Int32) ≤ nI (1 + lcg (ndP M s i).1 / 64 % 9) := nI_le (a := 1) (by omega) (by omega)
    refine v_iload (pc := 43) dX7_day_43 rfl ?_
    refine v_iload_n (pc := 45) dX7_day_45 rfl ?_
    refine v_icmp_ge (pc := 46) (tgt := 154) dX7_day_46 (by decide) (fun c_46 => absurd c_46 (nI_ge (show i < mm by omega) (by omega))) (fun c_46 => ?_)
    refine v_bipush (pc := 49) (v := 75) (by decide) dX7_day_49 ?_
    refine v_iload (pc := 51) dX7_day_51 rfl ?_
    refine v_imul (pc := 53) dX7_day_53 ?_
    refine v_bipush (pc := 54) (v := 74) (by decide) dX7_day_54 ?_
    refine v_iadd (pc := 56) dX7_day_56 ?_
    refine v_ldc (pc := 57) ckX7_152 dX7_day_57 ?_
    refine v_irem (pc := 59) (by decide) dX7_day_59 ?_
    rw [lcg_I h1]
    refine v_ist_4 (pc := 60) dX7_day_60 (by decide) rfl ?_
    refine v_iload (pc := 62) dX7_day_62 rfl ?_
    refine v_bipush (pc := 64) (v := 8) (by decide) dX7_day_64 ?_
    refine v_irem (pc := 66) (by decide) dX7_day_66 ?_
    rw [e8]
    refine v_ist_6 (pc := 67) dX7_day_67 (by decide) rfl ?_
    refine v_iload (pc := 69) dX7_day_69 rfl ?_
    refine v_bipush (pc := 71) (v := 8) (by decide) dX7_day_71 ?_
    refine v_idiv (pc := 73) (by decide) dX7_day_73 ?_
    refine v_bipush (pc := 74) (v := 7) (by decide) dX7_day_74 ?_
    refine v_irem (pc := 76) (by decide) dX7_day_76 ?_
    rw [e9', e7]
    refine v_ist_7 (pc := 77) dX7_day_77 (by decide) rfl ?_
    refine v_iconst (pc := 79) (v := 1) (by decide) dX7_day_79 ?_
    refine v_iload (pc := 80) dX7_day_80 rfl ?_
    refine v_bipush (pc := 82) (v := 64) (by decide) dX7_day_82 ?_
    refine v_idiv (pc := 84) (by decide) dX7_day_84 ?_
    refine v_bipush (pc := 85) (v := 9) (by decide) dX7_day_85 ?_
    refine v_irem (pc := 87) (by decide) dX7_day_87 ?_
    refine v_iadd (pc := 88) dX7_day_88 ?_
    rw [e64, e6, e1]
    refine v_ist_8 (pc := 89) dX7_day_89 (by decide) rfl ?_
    refine v_iload (pc := 91) dX7_day_91 rfl ?_
    refine v_iconst (pc := 93) (v := 3) (by decide) dX7_day_93 ?_
    refine v_icmp_ge (pc := 94) (tgt := 105) dX7_day_94 (by decide) (fun c_94 => ?_) (fun c_94 => ?_)
    · refine v_iload (pc := 105) dX7_day_105 rfl ?_
      refine v_iconst (pc := 107) (v := 3) (by decide) dX7_day_107 ?_
      refine v_icmp_ne (pc := 108) (tgt := 129) dX7_day_108 (by decide) (fun c_108 => ?_) (fun c_108 => ?_)
      · refine v_aload_n (pc := 129) dX7_day_129 rfl ?_
        refine v_iload (pc := 130) dX7_day_130 rfl ?_
        refine v_iload (pc := 132) dX7_day_132 rfl ?_
        refine v_cV2i (pc := 134) dX7_day_134 mkX7_93 (m_why (Nat.mod_lt _ (by omega))) ly49 rfl (Nat.le_of_ble_eq_true rfl) rfl (Nat.zero_le _) (Nat.zero_le _) (fun r_134 M_134 J_134 h_134 => ?_)
        obtain ⟨e1_134, e2_134, e3_134⟩ := h_134
        replace e1_134 := e1_134.symm
        replace e2_134 := e2_134.symm
        replace e3_134 := e3_134.symm
        subst e1_134 e2_134 e3_134
        refine v_if_ne (pc := 137) (tgt := 148) dX7_day_137 (by decide) (fun c_137 => ?_) (fun c_137 => ?_)
        · refine v_inc_5 (pc := 148) (v := 1) dX7_day_148 (by decide) (by decide) rfl ?_
          refine v_goto (pc := 151) (tgt := 43) dX7_day_151 (by decide) ?_
          refine v_fg_6 (v_fg_7 (v_fg_8 ?_))
          rw [nI_1]
          have e9 := ih (i + 1) (by omega)
          have g3 : ¬ lcg (ndP M s i).1 % 8 < 3 := by
            have := c_94
            rw [h3] at this
            omega
          rw [h4] at c_108
          rw [show (ndP M s (i + 1)).1 = lcg (ndP M s i).1 from rfl, show (ndP M s (i + 1)).2 = nDraw (ndP M s i).2 (lcg (ndP M s i).1) from rfl, show nDraw (ndP M s i).2 (lcg (ndP M s i).1) = _ from (if_neg g3).trans ((if_neg c_108).trans (if_neg c_137))] at e9
          exact e9
        · obtain ⟨hn1, hn2⟩ := nbN_lt h2 c_137
          refine v_aload_n (pc := 140) dX7_day_140 rfl ?_
          refine v_iload (pc := 141) dX7_day_141 rfl ?_
          refine v_iload (pc := 143) dX7_day_143 rfl ?_
          refine v_cV2v (pc := 145) dX7_day_145 mkX7_97 (m_bubble (Nat.mod_lt _ (by omega)) hz9 hn1 hn2) ly49 rfl (Nat.le_of_ble_eq_true rfl) rfl (Nat.zero_le _) (Nat.zero_le _) (fun M_145 J_145 h_145 => ?_)
          obtain ⟨e2_145, e3_145⟩ := h_145
          replace e2_145 := e2_145.symm
          replace e3_145 := e3_145.symm
          subst e2_145 e3_145
          refine v_inc_5 (pc := 148) (v := 1) dX7_day_148 (by decide) (by decide) rfl ?_
          refine v_goto (pc := 151) (tgt := 43) dX7_day_151 (by decide) ?_
          refine v_fg_6 (v_fg_7 (v_fg_8 ?_))
          rw [nI_1]
          have e9 := ih (i + 1) (by omega)
          have g3 : ¬ lcg (ndP M s i).1 % 8 < 3 := by
            have := c_94
            rw [h3] at this
            omega
          rw [h4] at c_108
          rw [show (ndP M s (i + 1)).1 = lcg (ndP M s i).1 from rfl, show (ndP M s (i + 1)).2 = nDraw (ndP M s i).2 (lcg (ndP M s i).1) from rfl, show nDraw (ndP M s i).2 (lcg (ndP M s i).1) = _ from (if_neg g3).trans ((if_neg c_108).trans (if_pos c_137))] at e9
          exact e9
      · refine v_aload_n (pc := 111) dX7_day_111 rfl ?_
        refine v_getR (pc := 112) fkX7_26 ly49 rfl dX7_day_112 ?_
        refine v_bipush (pc := 115) (v := 9) (by decide) dX7_day_115 ?_
        refine v_iload (pc := 117) dX7_day_117 rfl ?_
        refine v_bipush (pc := 119) (v := 8) (by decide) dX7_day_119 ?_
        refine v_idiv (pc := 121) (by decide) dX7_day_121 ?_
        refine v_bipush (pc := 122) (v := 10) (by decide) dX7_day_122 ?_
        refine v_irem (pc := 124) (by decide) dX7_day_124 ?_
        rw [e9', e10]
        refine v_iast (pc := 125) ly54 ?_ dX7_day_125 ?_
        · unfold vp_in; decide
        rw [show Int32.toNatClampNeg 9 = 9 from rfl]
        refine v_goto (pc := 126) (tgt := 148) dX7_day_126 (by decide) ?_
        refine v_inc_5 (pc := 148) (v := 1) dX7_day_148 (by decide) (by decide) rfl ?_
        refine v_goto (pc := 151) (tgt := 43) dX7_day_151 (by decide) ?_
        refine v_fg_6 (v_fg_7 (v_fg_8 ?_))
        rw [nI_1]
        have e9 := ih (i + 1) (by omega)
        have g3 : ¬ lcg (ndP M s i).1 % 8 < 3 := by
          have := c_94
          rw [h3] at this
          omega
        rw [h4] at c_108
        rw [show (ndP M s (i + 1)).1 = lcg (ndP M s i).1 from rfl, show (ndP M s (i + 1)).2 = nDraw (ndP M s i).2 (lcg (ndP M s i).1) from rfl, show nDraw (ndP M s i).2 (lcg (ndP M s i).1) = _ from (if_neg g3).trans (if_pos c_108)] at e9
        exact e9
    · refine v_aload_n (pc := 97) dX7_day_97 rfl ?_
      refine v_cV0i (pc := 98) dX7_day_98 mkX7_90 m_pass ly49 rfl (Nat.le_of_ble_eq_true rfl) rfl (Nat.zero_le _) (Nat.zero_le _) (fun r_98 M_98 J_98 h_98 => ?_)
      obtain ⟨e1_98, e2_98, e3_98⟩ := h_98
      replace e1_98 := e1_98.symm
      replace e2_98 := e2_98.symm
      replace e3_98 := e3_98.symm
      subst e1_98 e2_98 e3_98
      refine v_popI (pc := 101) dX7_day_101 ?_
      refine v_goto (pc := 102) (tgt := 148) dX7_day_102 (by decide) ?_
      refine v_inc_5 (pc := 148) (v := 1) dX7_day_148 (by decide) (by decide) rfl ?_
      refine v_goto (pc := 151) (tgt := 43) dX7_day_151 (by decide) ?_
      refine v_fg_6 (v_fg_7 (v_fg_8 ?_))
      rw [nI_1]
      have e9 := ih (i + 1) (by omega)
      have g3 : lcg (ndP M s i).1 % 8 < 3 := by
        have := c_94
        rw [h3] at this
        omega
      rw [show (ndP M s (i + 1)).1 = lcg (ndP M s i).1 from rfl, show (ndP M s (i + 1)).2 = nDraw (ndP M s i).2 (lcg (ndP M s i).1) from rfl, show nDraw (ndP M s i).2 (lcg (ndP M s i).1) = _ from if_pos g3] at e9
      exact e9

set_option maxRecDepth 100000 in
set_option maxHeartbeats 4000000 in
theorem m_day {x y z : Int32} {M : mM} {J : mJ} (hwf : WNb M) : Ct yX7_day cX7_day 9 (some .int) (rmD 3) false [.ref 49, .int x, .int y, .int z] LY M J (mNi LY (fun r0 M1 J1 => r0 = (if ((0 ≤ x ∧ x ≤ 9999) ∧ (1 ≤ y ∧ y ≤ 99) ∧ (0 ≤ z ∧ z ≤ 2)) then sel3 z ((ndP M x.toNatClampNeg y.toNatClampNeg).2 54 10) (bsum ((ndP M x.toNatClampNeg y.toNatClampNeg).2 54) ((ndP M x.toNatClampNeg y.toNatClampNeg).2 54 7) 7) (pc7 ((ndP M x.toNatClampNeg y.toNatClampNeg).2 54 7) 7) else -2) ∧ M1 = (if ((0 ≤ x ∧ x ≤ 9999) ∧ (1 ≤ y ∧ y ≤ 99) ∧ (0 ≤ z ∧ z ≤ 2)) then (ndP M x.toNatClampNeg y.toNatClampNeg).2 else M) ∧ J1 = J)) := by
  refine ct_of (own := RX7) (ini := false) (ls := [some (.ref 49), some (.int x), some (.int y), some (.int z), none, none, none, none, none]) 5 (by decide +kernel) rfl (fun h => by cases h) rfl (fun ad => by first | exact Nat.le_of_ble_eq_true rfl) ?_
  refine v_iload_n (pc := 0) dX7_day_0 rfl ?_
  refine v_iconst (pc := 1) (v := 0) (by decide) dX7_day_1 ?_
  refine v_sipush (pc := 2) (v := 9999) (by decide) dX7_day_2 ?_
  refine v_cS3i (pc := 5) dX7_day_5 mkX7_49 m_in (Nat.le_of_ble_eq_true rfl) rfl (Nat.zero_le _) (Nat.zero_le _) (fun r_5 M_5 J_5 h_5 => ?_)
  obtain ⟨e1_5, e2_5, e3_5⟩ := h_5
  replace e1_5 := e1_5.symm
  replace e2_5 := e2_5.symm
  replace e3_5 := e3_5.symm
  subst e1_5 e2_5 e3_5
  refine v_if_eq (pc := 8) (tgt := 30) dX7_day_8 (by decide) (fun c_8 => ?_) (fun c_8 => ?_)
  · refine v_bipush (pc := 30) (v := (-2)) (by decide) dX7_day_30 ?_
    refine v_iret (pc := 32) dX7_day_32 (Nat.zero_le _) (Nat.zero_le _) ?_
    exact ⟨by rw [if_neg (fun q => bI_0.mp c_8 q.1)]; try rfl, by rw [if_neg (fun q => bI_0.mp c_8 q.1)]; try rfl, rfl⟩
  · refine v_iload_n (pc := 11) dX7_day_11 rfl ?_
    refine v_iconst (pc := 12) (v := 1) (by decide) dX7_day_12 ?_
    refine v_bipush (pc := 13) (v := 99) (by decide) dX7_day_13 ?_
    refine v_cS3i (pc := 15) dX7_day_15 mkX7_49 m_in (Nat.le_of_ble_eq_true rfl) rfl (Nat.zero_le _) (Nat.zero_le _) (fun r_15 M_15 J_15 h_15 => ?_)
    obtain ⟨e1_15, e2_15, e3_15⟩ := h_15
    replace e1_15 := e1_15.symm
    replace e2_15 := e2_15.symm
    replace e3_15 := e3_15.symm
    subst e1_15 e2_15 e3_15
    refine v_if_eq (pc := 18) (tgt := 30) dX7_day_18 (by decide) (fun c_18 => ?_) (fun c_18 => ?_)
    · refine v_bipush (pc := 30) (v := (-2)) (by decide) dX7_day_30 ?_
      refine v_iret (pc := 32) dX7_day_32 (Nat.zero_le _) (Nat.zero_le _) ?_
      exact ⟨by rw [if_neg (fun q => bI_0.mp c_18 q.2.1)]; try rfl, by rw [if_neg (fun q => bI_0.mp c_18 q.2.1)]; try rfl, rfl⟩
    · refine v_iload_n (pc := 21) dX7_day_21 rfl ?_
      refine v_iconst (pc := 22) (v := 0) (by decide) dX7_day_22 ?_
      refine v_iconst (pc := 23) (v := 2) (by decide) dX7_day_23 ?_
      refine v_cS3i (pc := 24) dX7_day_24 mkX7_49 m_in (Nat.le_of_ble_eq_true rfl) rfl (Nat.zero_le _) (Nat.zero_le _) (fun r_24 M_24 J_24 h_24 => ?_)
      obtain ⟨e1_24, e2_24, e3_24⟩ := h_24
      replace e1_24 := e1_24.symm
      replace e2_24 := e2_24.symm
      replace e3_24 := e3_24.symm
      subst e1_24 e2_24 e3_24
      refine v_if_ne (pc := 27) (tgt := 33) dX7_day_27 (by decide) (fun c_27 => ?_) (fun c_27 => ?_)
      · have hG := And.intro (bI_n0.mp c_8) (And.intro (bI_n0.mp c_18) (bI_n0.mp c_27))
        obtain ⟨s0, hs0, rfl⟩ := rngN (a := 0) (n := 9999) rfl rfl (by omega) hG.1.1 hG.1.2
        obtain ⟨m0, hm0, rfl⟩ := rngN (a := 1) (n := 98) rfl rfl (by omega) hG.2.1.1 hG.2.1.2
        have hcs := nI_clamp (show 0 + s0 < 2 ^ 31 by omega)
        have hcm := nI_clamp (show 1 + m0 < 2 ^ 31 by omega)
        refine v_aload_n (pc := 33) dX7_day_33 rfl ?_
        refine v_cV0v (pc := 34) dX7_day_34 mkX7_81 m_asNow ly49 rfl (Nat.le_of_ble_eq_true rfl) rfl (Nat.zero_le _) (Nat.zero_le _) (fun M_34 J_34 h_34 => ?_)
        obtain ⟨e2_34, e3_34⟩ := h_34
        replace e2_34 := e2_34.symm
        replace e3_34 := e3_34.symm
        subst e2_34 e3_34
        refine v_iload_n (pc := 37) dX7_day_37 rfl ?_
        refine v_ist_4 (pc := 38) dX7_day_38 (by decide) rfl ?_
        refine v_iconst (pc := 40) (v := 0) (by decide) dX7_day_40 ?_
        refine v_ist_5 (pc := 41) dX7_day_41 (by decide) rfl ?_
        refine V.mono (fun o a b c q => ?_) (lm_day (x := nI (0 + s0)) (z := z) (s := 0 + s0) (mm := 1 + m0) (by omega) (by omega) hwf (1 + m0) 0 rfl)
        rw [if_pos hG, if_pos hG, hcs, hcm]
        exact q
      · refine v_bipush (pc := 30) (v := (-2)) (by decide) dX7_day_30 ?_
        refine v_iret (pc := 32) dX7_day_32 (Nat.zero_le _) (Nat.zero_le _) ?_
        exact ⟨by rw [if_neg (fun q => bI_0.mp c_27 q.2.2)]; try rfl, by rw [if_neg (fun q => bI_0.mp c_27 q.2.2)]; try rfl, rfl⟩
