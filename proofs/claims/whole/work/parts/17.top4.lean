/-! the house's calls: filibuster, breaks, day, image, restore -/
def hp (a : Int32) (kk : Nat) : Int32 := a - a / nI (kk + 1) * nI (kk + 1)
def nm (x : Int32) (b : Nat → Int32) (kk : Nat) (i : Nat) (a : Int32) : Int32 := if bt x (nI i) then a ^^^ hp (b i) kk else a
def wsF (br wn : Int32) (kk : Nat) : Nat → Nat → Int32
  | 0, _ => -6
  | n + 1, s => if br < nI s then -6 else if hp (br - nI s) kk = wn then nI s else wsF br wn kk n (s + 1)
def fbF (x z : Int32) (b : Nat → Int32) (kk : Nat) (ni : Int32) : Nat → Nat → Int32
  | 0, _ => -6
  | n + 1, p => if (if bt x (nI p) then wsF (b p) (hp (b p) kk ^^^ ni) kk kk 1 else -6) = -6 then fbF x z b kk ni n (p + 1) else if z = 1 then nI p else (if bt x (nI p) then wsF (b p) (hp (b p) kk ^^^ ni) kk kk 1 else -6)

set_option maxRecDepth 100000 in
set_option maxHeartbeats 4000000 in
theorem c_heap {x : Int32} {kk : Nat} {M : mM} {J : mJ} (hk1 : 1 ≤ kk) (hk9 : kk ≤ 9) : Ct yX6_heapWorth cX6_heapWorth 2 (some .int) (rmD 0) false [.int x, .int (nI kk)] LY M J (mNi LY (fun r0 M1 J1 => r0 = hp x kk ∧ M1 = M ∧ J1 = J)) := by
  refine ct_of (own := RX6) (ini := false) (ls := [some (.int x), some (.int (nI kk))]) 0 (by decide +kernel) rfl (fun h => by cases h) rfl (fun ad => by first | exact Nat.le_of_ble_eq_true rfl) ?_
  refine v_iload_n (pc := 0) dX6_heapWorth_0 rfl ?_
  refine v_iconst (pc := 1) (v := 1) (by decide) dX6_heapWorth_1 ?_
  refine v_icmp_ge (pc := 2) (tgt := 9) dX6_heapWorth_2 (by decide) (fun c_2 => ?_) (fun c_2 => absurd (nI_le (a := 1) hk1 (by omega)) c_2)
  refine v_iload_n (pc := 9) dX6_heapWorth_9 rfl ?_
  refine v_iload_n (pc := 10) dX6_heapWorth_10 rfl ?_
  refine v_iconst (pc := 11) (v := 1) (by decide) dX6_heapWorth_11 ?_
  refine v_iadd (pc := 12) dX6_heapWorth_12 ?_
  rw [nI_1]
  refine v_irem (pc := 13) (nI_ne0 (by omega) (by omega)) dX6_heapWorth_13 ?_
  refine v_iret (pc := 14) dX6_heapWorth_14 (Nat.zero_le _) (Nat.zero_le _) ?_
  exact ⟨rfl, rfl, rfl⟩

set_option maxRecDepth 100000 in
set_option maxHeartbeats 4000000 in
theorem l_nim {x : Int32} {kk : Nat} {M : mM} {J : mJ} (hk1 : 1 ≤ kk) (hk9 : kk ≤ 9) : ∀ (n i : Nat), n + i = 7 → V RX6 cX6_nimSum 5 (some .int) false (rmD 1) false LY.length none (mNi LY (fun r0 M1 J1 => r0 = itN (nm x (M 4) kk) 0 7 ∧ M1 = M ∧ J1 = J)) 0 0 5 [some (.ref 0), some (.int x), some (.int (nI kk)), some (.int (itN (nm x (M 4) kk) 0 i)), some (.int (nI i))] [] LY M J := by
  intro n
  induction n with
  | zero =>
    intro i hi
    obtain rfl : i = 7 := by omega
    refine v_iload (pc := 5) dX6_nimSum_5 rfl ?_
    refine v_bipush (pc := 7) (v := 7) (by decide) dX6_nimSum_7 ?_
    refine v_icmp_ge (pc := 9) (tgt := 47) dX6_nimSum_9 (by decide) (fun c_9 => ?_) (fun c_9 => absurd (by decide) c_9)
    refine v_iload_n (pc := 47) dX6_nimSum_47 rfl ?_
    refine v_iret (pc := 48) dX6_nimSum_48 (Nat.zero_le _) (Nat.zero_le _) ?_
    exact ⟨rfl, rfl, rfl⟩
  | succ n ih =>
    intro i hi
    have hb7 : i < 7 := by omega
    have hcl := nI_clamp (show i < 2 ^ 31 by omega)
    refine v_iload (pc := 5) dX6_nimSum_5 rfl ?_
    refine v_bipush (pc := 7) (v := 7) (by decide) dX6_nimSum_7 ?_
    refine v_icmp_ge (pc := 9) (tgt := 47) dX6_nimSum_9 (by decide) (fun c_9 => absurd c_9 (nI_ge (b := 7) hb7 (by omega))) (fun c_9 => ?_)
    refine v_iload_n (pc := 12) dX6_nimSum_12 rfl ?_
    refine v_iload (pc := 13) dX6_nimSum_13 rfl ?_
    refine v_ishr (pc := 15) dX6_nimSum_15 ?_
    refine v_iconst (pc := 16) (v := 1) (by decide) dX6_nimSum_16 ?_
    refine v_iand (pc := 17) dX6_nimSum_17 ?_
    refine v_iconst (pc := 18) (v := 1) (by decide) dX6_nimSum_18 ?_
    refine v_icmp_ne (pc := 19) (tgt := 41) dX6_nimSum_19 (by decide) (fun c_19 => ?_) (fun c_19 => ?_)
    · refine v_inc_4 (pc := 41) (v := 1) dX6_nimSum_41 (by decide) (by decide) rfl ?_
      refine v_goto (pc := 44) (tgt := 5) dX6_nimSum_44 (by decide) ?_
      rw [nI_1]
      have e9 := ih (i + 1) (by omega)
      rw [itN_s _ _ i] at e9
      rw [show (nm x (M 4) kk) i (itN (nm x (M 4) kk) 0 i) = _ from if_neg c_19] at e9
      exact e9
    · refine v_iload_n (pc := 22) dX6_nimSum_22 rfl ?_
      refine v_aload_n (pc := 23) dX6_nimSum_23 rfl ?_
      refine v_getR (pc := 24) fkX6_12 ly0 rfl dX6_nimSum_24 ?_
      refine v_getR (pc := 27) fkX6_53 ly1 rfl dX6_nimSum_27 ?_
      refine v_iload (pc := 30) dX6_nimSum_30 rfl ?_
      refine v_cV1i (pc := 32) dX6_nimSum_32 mkX6_126 (c_breathOf ly2 ly4) ly2 rfl (Nat.le_of_ble_eq_true rfl) rfl (Nat.zero_le _) (Nat.zero_le _) (fun r_32 M_32 J_32 h_32 => ?_)
      obtain ⟨e1_32, e2_32, e3_32⟩ := h_32
      replace e1_32 := e1_32.symm
      replace e2_32 := e2_32.symm
      replace e3_32 := e3_32.symm
      subst e1_32 e2_32 e3_32
      refine v_iload_n (pc := 35) dX6_nimSum_35 rfl ?_
      refine v_cS2i (pc := 36) dX6_nimSum_36 mkX6_240 (c_heap hk1 hk9) (Nat.le_of_ble_eq_true rfl) rfl (Nat.zero_le _) (Nat.zero_le _) (fun r_36 M_36 J_36 h_36 => ?_)
      obtain ⟨e1_36, e2_36, e3_36⟩ := h_36
      replace e1_36 := e1_36.symm
      replace e2_36 := e2_36.symm
      replace e3_36 := e3_36.symm
      subst e1_36 e2_36 e3_36
      refine v_ixor (pc := 39) dX6_nimSum_39 ?_
      refine v_ist_3 (pc := 40) dX6_nimSum_40 (by decide) rfl ?_
      refine v_inc_4 (pc := 41) (v := 1) dX6_nimSum_41 (by decide) (by decide) rfl ?_
      refine v_goto (pc := 44) (tgt := 5) dX6_nimSum_44 (by decide) ?_
      rw [nI_1]
      have e9 := ih (i + 1) (by omega)
      rw [itN_s _ _ i] at e9
      rw [f7_in hb7]
      rw [show (nm x (M 4) kk) i (itN (nm x (M 4) kk) 0 i) = _ from if_pos c_19] at e9
      exact e9

set_option maxRecDepth 100000 in
set_option maxHeartbeats 4000000 in
theorem c_nim {x : Int32} {kk : Nat} {M : mM} {J : mJ} (hk1 : 1 ≤ kk) (hk9 : kk ≤ 9) : Ct yX6_nimSum cX6_nimSum 5 (some .int) (rmD 1) false [.ref 0, .int x, .int (nI kk)] LY M J (mNi LY (fun r0 M1 J1 => r0 = itN (nm x (M 4) kk) 0 7 ∧ M1 = M ∧ J1 = J)) := by
  refine ct_of (own := RX6) (ini := false) (ls := [some (.ref 0), some (.int x), some (.int (nI kk)), none, none]) 2 (by decide +kernel) rfl (fun h => by cases h) rfl (fun ad => by first | exact Nat.le_of_ble_eq_true rfl) ?_
  refine v_iconst (pc := 0) (v := 0) (by decide) dX6_nimSum_0 ?_
  refine v_ist_3 (pc := 1) dX6_nimSum_1 (by decide) rfl ?_
  refine v_iconst (pc := 2) (v := 0) (by decide) dX6_nimSum_2 ?_
  refine v_ist_4 (pc := 3) dX6_nimSum_3 (by decide) rfl ?_
  exact l_nim hk1 hk9 7 0 rfl

set_option maxRecDepth 100000 in
set_option maxHeartbeats 4000000 in
theorem l_spend {ni : Int32} {p kk : Nat} (hk1 : 1 ≤ kk) (hk9 : kk ≤ 9) {M : mM} {J : mJ} : ∀ (n s : Nat), n + s = kk + 1 → V RX6 cX6_winningSpend 7 (some .int) false (rmD 1) false LY.length none (mNi LY (fun r0 M1 J1 => r0 = wsF (M 4 p) (hp (M 4 p) kk ^^^ ni) kk n s ∧ M1 = M ∧ J1 = J)) 0 0 26 [some (.ref 0), some (.int (nI p)), some (.int (nI kk)), some (.int ni), some (.int (M 4 p)), some (.int (hp (M 4 p) kk ^^^ ni)), some (.int (nI s))] [] LY M J := by
  intro n
  induction n with
  | zero =>
    intro s hs
    refine v_iload (pc := 26) dX6_winningSpend_26 rfl ?_
    refine v_iload_n (pc := 28) dX6_winningSpend_28 rfl ?_
    refine v_icmp_gt (pc := 29) (tgt := 62) dX6_winningSpend_29 (by decide) (fun c_29 => ?_) (fun c_29 => absurd (nI_lt (show kk < s by omega) (by omega)) c_29)
    refine v_bipush (pc := 62) (v := (-6)) (by decide) dX6_winningSpend_62 ?_
    refine v_iret (pc := 64) dX6_winningSpend_64 (Nat.zero_le _) (Nat.zero_le _) ?_
    exact ⟨by rw [wsF], rfl, rfl⟩
  | succ n ih =>
    intro s hs
    refine v_iload (pc := 26) dX6_winningSpend_26 rfl ?_
    refine v_iload_n (pc := 28) dX6_winningSpend_28 rfl ?_
    refine v_icmp_gt (pc := 29) (tgt := 62) dX6_winningSpend_29 (by decide) (fun c_29 => absurd c_29 (nI_nlt (show s ≤ kk by omega) (by omega))) (fun c_29 => ?_)
    refine v_iload (pc := 32) dX6_winningSpend_32 rfl ?_
    refine v_iload (pc := 34) dX6_winningSpend_34 rfl ?_
    refine v_icmp_gt (pc := 36) (tgt := 62) dX6_winningSpend_36 (by decide) (fun c_36 => ?_) (fun c_36 => ?_)
    · refine v_bipush (pc := 62) (v := (-6)) (by decide) dX6_winningSpend_62 ?_
      refine v_iret (pc := 64) dX6_winningSpend_64 (Nat.zero_le _) (Nat.zero_le _) ?_
      exact ⟨by rw [wsF, if_pos c_36], rfl, rfl⟩
    · refine v_iload (pc := 39) dX6_winningSpend_39 rfl ?_
      refine v_iload (pc := 41) dX6_winningSpend_41 rfl ?_
      refine v_isub (pc := 43) dX6_winningSpend_43 ?_
      refine v_iload_n (pc := 44) dX6_winningSpend_44 rfl ?_
      refine v_cS2i (pc := 45) dX6_winningSpend_45 mkX6_240 (c_heap hk1 hk9) (Nat.le_of_ble_eq_true rfl) rfl (Nat.zero_le _) (Nat.zero_le _) (fun r_45 M_45 J_45 h_45 => ?_)
      obtain ⟨e1_45, e2_45, e3_45⟩ := h_45
      replace e1_45 := e1_45.symm
      replace e2_45 := e2_45.symm
      replace e3_45 := e3_45.symm
      subst e1_45 e2_45 e3_45
      refine v_iload (pc := 48) dX6_winningSpend_48 rfl ?_
      refine v_icmp_ne (pc := 50) (tgt := 56) dX6_winningSpend_50 (by decide) (fun c_50 => ?_) (fun c_50 => ?_)
      · refine v_inc_6 (pc := 56) (v := 1) dX6_winningSpend_56 (by decide) (by decide) rfl ?_
        refine v_goto (pc := 59) (tgt := 26) dX6_winningSpend_59 (by decide) ?_
        rw [nI_1]
        refine V.mono (fun o a b d q => ?_) (ih (s + 1) (by omega))
        rw [wsF, if_neg c_36, if_neg c_50]
        exact q
      · refine v_iload (pc := 53) dX6_winningSpend_53 rfl ?_
        refine v_iret (pc := 55) dX6_winningSpend_55 (Nat.zero_le _) (Nat.zero_le _) ?_
        exact ⟨by rw [wsF, if_neg c_36, if_pos c_50], rfl, rfl⟩

set_option maxRecDepth 100000 in
set_option maxHeartbeats 4000000 in
theorem c_spend {ni : Int32} {p kk : Nat} {M : mM} {J : mJ} (hp7 : p < 7) (hk1 : 1 ≤ kk) (hk9 : kk ≤ 9) : Ct yX6_winningSpend cX6_winningSpend 7 (some .int) (rmD 1) false [.ref 0, .int (nI p), .int (nI kk), .int ni] LY M J (mNi LY (fun r0 M1 J1 => r0 = wsF (M 4 p) (hp (M 4 p) kk ^^^ ni) kk kk 1 ∧ M1 = M ∧ J1 = J)) := by
  refine ct_of (own := RX6) (ini := false) (ls := [some (.ref 0), some (.int (nI p)), some (.int (nI kk)), some (.int ni), none, none, none]) 3 (by decide +kernel) rfl (fun h => by cases h) rfl (fun ad => by first | exact Nat.le_of_ble_eq_true rfl) ?_
  refine v_aload_n (pc := 0) dX6_winningSpend_0 rfl ?_
  refine v_getR (pc := 1) fkX6_12 ly0 rfl dX6_winningSpend_1 ?_
  refine v_getR (pc := 4) fkX6_53 ly1 rfl dX6_winningSpend_4 ?_
  refine v_iload_n (pc := 7) dX6_winningSpend_7 rfl ?_
  refine v_cV1i (pc := 8) dX6_winningSpend_8 mkX6_126 (c_breathOf ly2 ly4) ly2 rfl (Nat.le_of_ble_eq_true rfl) rfl (Nat.zero_le _) (Nat.zero_le _) (fun r_8 M_8 J_8 h_8 => ?_)
  obtain ⟨e1_8, e2_8, e3_8⟩ := h_8
  replace e1_8 := e1_8.symm
  replace e2_8 := e2_8.symm
  replace e3_8 := e3_8.symm
  subst e1_8 e2_8 e3_8
  rw [f7_in hp7]
  refine v_ist_4 (pc := 11) dX6_winningSpend_11 (by decide) rfl ?_
  refine v_iload (pc := 13) dX6_winningSpend_13 rfl ?_
  refine v_iload_n (pc := 15) dX6_winningSpend_15 rfl ?_
  refine v_cS2i (pc := 16) dX6_winningSpend_16 mkX6_240 (c_heap hk1 hk9) (Nat.le_of_ble_eq_true rfl) rfl (Nat.zero_le _) (Nat.zero_le _) (fun r_16 M_16 J_16 h_16 => ?_)
  obtain ⟨e1_16, e2_16, e3_16⟩ := h_16
  replace e1_16 := e1_16.symm
  replace e2_16 := e2_16.symm
  replace e3_16 := e3_16.symm
  subst e1_16 e2_16 e3_16
  refine v_iload_n (pc := 19) dX6_winningSpend_19 rfl ?_
  refine v_ixor (pc := 20) dX6_winningSpend_20 ?_
  refine v_ist_5 (pc := 21) dX6_winningSpend_21 (by decide) rfl ?_
  refine v_iconst (pc := 23) (v := 1) (by decide) dX6_winningSpend_23 ?_
  refine v_ist_6 (pc := 24) dX6_winningSpend_24 (by decide) rfl ?_
  exact l_spend hk1 hk9 kk 1 rfl

set_option maxRecDepth 100000 in
set_option maxHeartbeats 4000000 in
theorem l_fili {x z ni : Int32} {kk : Nat} (hk1 : 1 ≤ kk) (hk9 : kk ≤ 9) {M : mM} {J : mJ} : ∀ (n p : Nat), n + p = 7 → V RX6 cX6_filibuster 7 (some .int) false (rmD 2) false LY.length none (mNi LY (fun r0 M1 J1 => r0 = fbF x z (M 4) kk ni n p ∧ M1 = M ∧ J1 = J)) 0 0 66 [some (.ref 0), some (.int x), some (.int (nI kk)), some (.int z), some (.int ni), some (.int (nI p)), none] [] LY M J := by
  intro n
  induction n with
  | zero =>
    intro p hpn
    obtain rfl : p = 7 := by omega
    refine v_iload (pc := 66) dX6_filibuster_66 rfl ?_
    refine v_bipush (pc := 68) (v := 7) (by decide) dX6_filibuster_68 ?_
    refine v_icmp_ge (pc := 70) (tgt := 125) dX6_filibuster_70 (by decide) (fun c_70 => ?_) (fun c_70 => absurd (by decide) c_70)
    refine v_bipush (pc := 125) (v := (-6)) (by decide) dX6_filibuster_125 ?_
    refine v_iret (pc := 127) dX6_filibuster_127 (Nat.zero_le _) (Nat.zero_le _) ?_
    exact ⟨by rw [fbF], rfl, rfl⟩
  | succ n ih =>
    intro p hpn
    refine v_iload (pc := 66) dX6_filibuster_66 rfl ?_
    refine v_bipush (pc := 68) (v := 7) (by decide) dX6_filibuster_68 ?_
    refine v_icmp_ge (pc := 70) (tgt := 125) dX6_filibuster_70 (by decide) (fun c_70 => absurd c_70 (nI_ge (b := 7) (show p < 7 by omega) (by omega))) (fun c_70 => ?_)
    refine v_iload_n (pc := 73) dX6_filibuster_73 rfl ?_
    refine v_iload (pc := 74) dX6_filibuster_74 rfl ?_
    refine v_ishr (pc := 76) dX6_filibuster_76 ?_
    refine v_iconst (pc := 77) (v := 1) (by decide) dX6_filibuster_77 ?_
    refine v_iand (pc := 78) dX6_filibuster_78 ?_
    refine v_iconst (pc := 79) (v := 1) (by decide) dX6_filibuster_79 ?_
    refine v_icmp_ne (pc := 80) (tgt := 95) dX6_filibuster_80 (by decide) (fun c_80 => ?_) (fun c_80 => ?_)
    · refine v_bipush (pc := 95) (v := (-6)) (by decide) dX6_filibuster_95 ?_
      refine v_ist_6 (pc := 97) dX6_filibuster_97 (by decide) rfl ?_
      refine v_iload (pc := 99) dX6_filibuster_99 rfl ?_
      refine v_bipush (pc := 101) (v := (-6)) (by decide) dX6_filibuster_101 ?_
      refine v_icmp_eq (pc := 103) (tgt := 119) dX6_filibuster_103 (by decide) (fun c_103 => ?_) (fun c_103 => ?_)
      · refine v_inc_5 (pc := 119) (v := 1) dX6_filibuster_119 (by decide) (by decide) rfl ?_
        refine v_goto (pc := 122) (tgt := 66) dX6_filibuster_122 (by decide) ?_
        refine v_fg_6 ?_
        rw [nI_1]
        refine V.mono (fun o a b d q => ?_) (ih (p + 1) (by omega))
        rw [fbF, if_pos (show (if bt x (nI p) then wsF (M 4 p) (hp (M 4 p) kk ^^^ ni) kk kk 1 else -6) = -6 by rw [if_neg c_80])]
        exact q
      · refine v_iload_n (pc := 106) dX6_filibuster_106 rfl ?_
        refine v_iconst (pc := 107) (v := 1) (by decide) dX6_filibuster_107 ?_
        refine v_icmp_ne (pc := 108) (tgt := 116) dX6_filibuster_108 (by decide) (fun c_108 => ?_) (fun c_108 => ?_)
        · refine v_iload (pc := 116) dX6_filibuster_116 rfl ?_
          refine v_iret (pc := 118) dX6_filibuster_118 (Nat.zero_le _) (Nat.zero_le _) ?_
          exact absurd rfl c_103
        · refine v_iload (pc := 111) dX6_filibuster_111 rfl ?_
          refine v_goto (pc := 113) (tgt := 118) dX6_filibuster_113 (by decide) ?_
          refine v_iret (pc := 118) dX6_filibuster_118 (Nat.zero_le _) (Nat.zero_le _) ?_
          exact absurd rfl c_103
    · refine v_aload_n (pc := 83) dX6_filibuster_83 rfl ?_
      refine v_iload (pc := 84) dX6_filibuster_84 rfl ?_
      refine v_iload_n (pc := 86) dX6_filibuster_86 rfl ?_
      refine v_iload (pc := 87) dX6_filibuster_87 rfl ?_
      refine v_cV3i (pc := 89) dX6_filibuster_89 mkX6_200 (c_spend (by omega) hk1 hk9) ly0 rfl (Nat.le_of_ble_eq_true rfl) rfl (Nat.zero_le _) (Nat.zero_le _) (fun r_89 M_89 J_89 h_89 => ?_)
      obtain ⟨e1_89, e2_89, e3_89⟩ := h_89
      replace e1_89 := e1_89.symm
      replace e2_89 := e2_89.symm
      replace e3_89 := e3_89.symm
      subst e1_89 e2_89 e3_89
      refine v_goto (pc := 92) (tgt := 97) dX6_filibuster_92 (by decide) ?_
      refine v_ist_6 (pc := 97) dX6_filibuster_97 (by decide) rfl ?_
      refine v_iload (pc := 99) dX6_filibuster_99 rfl ?_
      refine v_bipush (pc := 101) (v := (-6)) (by decide) dX6_filibuster_101 ?_
      refine v_icmp_eq (pc := 103) (tgt := 119) dX6_filibuster_103 (by decide) (fun c_103 => ?_) (fun c_103 => ?_)
      · refine v_inc_5 (pc := 119) (v := 1) dX6_filibuster_119 (by decide) (by decide) rfl ?_
        refine v_goto (pc := 122) (tgt := 66) dX6_filibuster_122 (by decide) ?_
        refine v_fg_6 ?_
        rw [nI_1]
        refine V.mono (fun o a b d q => ?_) (ih (p + 1) (by omega))
        rw [fbF, if_pos (show (if bt x (nI p) then wsF (M 4 p) (hp (M 4 p) kk ^^^ ni) kk kk 1 else -6) = -6 by rw [if_pos c_80]; exact c_103)]
        exact q
      · refine v_iload_n (pc := 106) dX6_filibuster_106 rfl ?_
        refine v_iconst (pc := 107) (v := 1) (by decide) dX6_filibuster_107 ?_
        refine v_icmp_ne (pc := 108) (tgt := 116) dX6_filibuster_108 (by decide) (fun c_108 => ?_) (fun c_108 => ?_)
        · refine v_iload (pc := 116) dX6_filibuster_116 rfl ?_
          refine v_iret (pc := 118) dX6_filibuster_118 (Nat.zero_le _) (Nat.zero_le _) ?_
          exact ⟨by rw [fbF, if_neg (show ¬ (if bt x (nI p) then wsF (M 4 p) (hp (M 4 p) kk ^^^ ni) kk kk 1 else -6) = -6 by rw [if_pos c_80]; exact c_103), if_neg c_108, if_pos c_80], rfl, rfl⟩
        · refine v_iload (pc := 111) dX6_filibuster_111 rfl ?_
          refine v_goto (pc := 113) (tgt := 118) dX6_filibuster_113 (by decide) ?_
          refine v_iret (pc := 118) dX6_filibuster_118 (Nat.zero_le _) (Nat.zero_le _) ?_
          exact ⟨by rw [fbF, if_neg (show ¬ (if bt x (nI p) then wsF (M 4 p) (hp (M 4 p) kk ^^^ ni) kk kk 1 else -6) = -6 by rw [if_pos c_80]; exact c_103), if_pos c_108], rfl, rfl⟩

set_option maxRecDepth 100000 in
set_option maxHeartbeats 4000000 in
theorem c_fili {x y z : Int32} {M : mM} {J : mJ}  : Ct yX6_filibuster cX6_filibuster 7 (some .int) (rmD 2) false [.ref 0, .int x, .int y, .int z] LY M J (mNi LY (fun r0 M1 J1 => r0 = (if gS (M 2 4) x then (if ((1 ≤ y ∧ y ≤ 9) ∧ (0 ≤ z ∧ z ≤ 2)) then (if z = 0 then (if (itN (nm x (M 4) y.toNatClampNeg) 0 7) = 0 then 1 else 0) else if (itN (nm x (M 4) y.toNatClampNeg) 0 7) = 0 then -6 else fbF x z (M 4) y.toNatClampNeg (itN (nm x (M 4) y.toNatClampNeg) 0 7) 7 0) else -2) else -1) ∧ M1 = M ∧ J1 = J)) := by
  refine ct_of (own := RX6) (ini := false) (ls := [some (.ref 0), some (.int x), some (.int y), some (.int z), none, none, none]) 3 (by decide +kernel) rfl (fun h => by cases h) rfl (fun ad => by first | exact Nat.le_of_ble_eq_true rfl) ?_
  refine v_aload_n (pc := 0) dX6_filibuster_0 rfl ?_
  refine v_iload_n (pc := 1) dX6_filibuster_1 rfl ?_
  refine v_cV1i (pc := 2) dX6_filibuster_2 mkX6_170 c_areBelow ly0 rfl (Nat.le_of_ble_eq_true rfl) rfl (Nat.zero_le _) (Nat.zero_le _) (fun r_2 M_2 J_2 h_2 => ?_)
  obtain ⟨e1_2, e2_2, e3_2⟩ := h_2
  replace e1_2 := e1_2.symm
  replace e2_2 := e2_2.symm
  replace e3_2 := e3_2.symm
  subst e1_2 e2_2 e3_2
  refine v_if_ne (pc := 5) (tgt := 10) dX6_filibuster_5 (by decide) (fun c_5 => ?_) (fun c_5 => ?_)
  · refine v_iload_n (pc := 10) dX6_filibuster_10 rfl ?_
    refine v_iconst (pc := 11) (v := 1) (by decide) dX6_filibuster_11 ?_
    refine v_bipush (pc := 12) (v := 9) (by decide) dX6_filibuster_12 ?_
    refine v_cS3i (pc := 14) dX6_filibuster_14 mkX6_49 c_within (Nat.le_of_ble_eq_true rfl) rfl (Nat.zero_le _) (Nat.zero_le _) (fun r_14 M_14 J_14 h_14 => ?_)
    obtain ⟨e1_14, e2_14, e3_14⟩ := h_14
    replace e1_14 := e1_14.symm
    replace e2_14 := e2_14.symm
    replace e3_14 := e3_14.symm
    subst e1_14 e2_14 e3_14
    refine v_if_eq (pc := 17) (tgt := 29) dX6_filibuster_17 (by decide) (fun c_17 => ?_) (fun c_17 => ?_)
    · refine v_bipush (pc := 29) (v := (-2)) (by decide) dX6_filibuster_29 ?_
      refine v_iret (pc := 31) dX6_filibuster_31 (Nat.zero_le _) (Nat.zero_le _) ?_
      exact ⟨by rw [if_pos (bI_n0.mp c_5), if_neg (fun q => bI_0.mp c_17 q.1)], rfl, rfl⟩
    · refine v_iload_n (pc := 20) dX6_filibuster_20 rfl ?_
      refine v_iconst (pc := 21) (v := 0) (by decide) dX6_filibuster_21 ?_
      refine v_iconst (pc := 22) (v := 2) (by decide) dX6_filibuster_22 ?_
      refine v_cS3i (pc := 23) dX6_filibuster_23 mkX6_49 c_within (Nat.le_of_ble_eq_true rfl) rfl (Nat.zero_le _) (Nat.zero_le _) (fun r_23 M_23 J_23 h_23 => ?_)
      obtain ⟨e1_23, e2_23, e3_23⟩ := h_23
      replace e1_23 := e1_23.symm
      replace e2_23 := e2_23.symm
      replace e3_23 := e3_23.symm
      subst e1_23 e2_23 e3_23
      refine v_if_ne (pc := 26) (tgt := 32) dX6_filibuster_26 (by decide) (fun c_26 => ?_) (fun c_26 => ?_)
      · obtain ⟨k0, hk0, rfl⟩ := rngN (a := 1) (n := 8) rfl rfl (by omega) (bI_n0.mp c_17).1 (bI_n0.mp c_17).2
        have hcl := nI_clamp (show 1 + k0 < 2 ^ 31 by omega)
        have hk1 : 1 ≤ 1 + k0 := by omega
        have hk9 : 1 + k0 ≤ 9 := by omega
        have hG : gS (M 2 4) x := bI_n0.mp c_5
        have hF : (1 ≤ nI (1 + k0) ∧ nI (1 + k0) ≤ 9) ∧ (0 ≤ z ∧ z ≤ 2) := ⟨bI_n0.mp c_17, bI_n0.mp c_26⟩
        refine v_aload_n (pc := 32) dX6_filibuster_32 rfl ?_
        refine v_iload_n (pc := 33) dX6_filibuster_33 rfl ?_
        refine v_iload_n (pc := 34) dX6_filibuster_34 rfl ?_
        refine v_cV2i (pc := 35) dX6_filibuster_35 mkX6_197 (c_nim hk1 hk9) ly0 rfl (Nat.le_of_ble_eq_true rfl) rfl (Nat.zero_le _) (Nat.zero_le _) (fun r_35 M_35 J_35 h_35 => ?_)
        obtain ⟨e1_35, e2_35, e3_35⟩ := h_35
        replace e1_35 := e1_35.symm
        replace e2_35 := e2_35.symm
        replace e3_35 := e3_35.symm
        subst e1_35 e2_35 e3_35
        refine v_ist_4 (pc := 38) dX6_filibuster_38 (by decide) rfl ?_
        refine v_iload_n (pc := 40) dX6_filibuster_40 rfl ?_
        refine v_if_ne (pc := 41) (tgt := 55) dX6_filibuster_41 (by decide) (fun c_41 => ?_) (fun c_41 => ?_)
        · refine v_iload (pc := 55) dX6_filibuster_55 rfl ?_
          refine v_if_ne (pc := 57) (tgt := 63) dX6_filibuster_57 (by decide) (fun c_57 => ?_) (fun c_57 => ?_)
          · refine v_iconst (pc := 63) (v := 0) (by decide) dX6_filibuster_63 ?_
            refine v_ist_5 (pc := 64) dX6_filibuster_64 (by decide) rfl ?_
            refine V.mono (fun o a b d q => ?_) (l_fili hk1 hk9 7 0 rfl)
            rw [if_pos hG, if_pos hF, if_neg c_41, hcl, if_neg c_57]
            exact q
          · refine v_bipush (pc := 60) (v := (-6)) (by decide) dX6_filibuster_60 ?_
            refine v_iret (pc := 62) dX6_filibuster_62 (Nat.zero_le _) (Nat.zero_le _) ?_
            exact ⟨by rw [if_pos hG, if_pos hF, if_neg c_41, hcl, if_pos c_57], rfl, rfl⟩
        · refine v_iload (pc := 44) dX6_filibuster_44 rfl ?_
          refine v_if_eq (pc := 46) (tgt := 53) dX6_filibuster_46 (by decide) (fun c_46 => ?_) (fun c_46 => ?_)
          · refine v_iconst (pc := 53) (v := 1) (by decide) dX6_filibuster_53 ?_
            refine v_iret (pc := 54) dX6_filibuster_54 (Nat.zero_le _) (Nat.zero_le _) ?_
            exact ⟨by rw [if_pos hG, if_pos hF, if_pos c_41, hcl, if_pos c_46], rfl, rfl⟩
          · refine v_iconst (pc := 49) (v := 0) (by decide) dX6_filibuster_49 ?_
            refine v_goto (pc := 50) (tgt := 54) dX6_filibuster_50 (by decide) ?_
            refine v_iret (pc := 54) dX6_filibuster_54 (Nat.zero_le _) (Nat.zero_le _) ?_
            exact ⟨by rw [if_pos hG, if_pos hF, if_pos c_41, hcl, if_neg c_46], rfl, rfl⟩
      · refine v_bipush (pc := 29) (v := (-2)) (by decide) dX6_filibuster_29 ?_
        refine v_iret (pc := 31) dX6_filibuster_31 (Nat.zero_le _) (Nat.zero_le _) ?_
        exact ⟨by rw [if_pos (bI_n0.mp c_5), if_neg (fun q => bI_0.mp c_26 q.2)], rfl, rfl⟩
  · refine v_iconst (pc := 8) (v := (-1)) (by decide) dX6_filibuster_8 ?_
    refine v_iret (pc := 9) dX6_filibuster_9 (Nat.zero_le _) (Nat.zero_le _) ?_
    exact ⟨by rw [if_neg (bI_0.mp c_5)], rfl, rfl⟩

set_option maxRecDepth 100000 in
set_option maxHeartbeats 4000000 in
theorem c_image0  {M : mM} {J : mJ}  : Ct yX6_image cX6_image 2 (some .int) (rmD 3) false [.ref 0, .int 0] LY M J (mNi LY (fun r0 M1 J1 => r0 = 1 ∧ M1 = mU (cHs M 14 1) 14 3 1 ∧ J1 = J)) := by
  refine ct_of (own := RX6) (ini := false) (ls := [some (.ref 0), some (.int 0)]) 0 (by decide +kernel) rfl (fun h => by cases h) rfl (fun ad => by first | exact Nat.le_of_ble_eq_true rfl) ?_
  refine v_iload_n (pc := 0) dX6_image_0 rfl ?_
  refine v_iconst (pc := 1) (v := 0) (by decide) dX6_image_1 ?_
  refine v_iconst (pc := 2) (v := 1) (by decide) dX6_image_2 ?_
  refine v_cS3i (pc := 3) dX6_image_3 mkX6_49 c_within (Nat.le_of_ble_eq_true rfl) rfl (Nat.zero_le _) (Nat.zero_le _) (fun r_3 M_3 J_3 h_3 => ?_)
  obtain ⟨e1_3, e2_3, e3_3⟩ := h_3
  replace e1_3 := e1_3.symm
  replace e2_3 := e2_3.symm
  replace e3_3 := e3_3.symm
  subst e1_3 e2_3 e3_3
  refine v_if_ne (pc := 6) (tgt := 12) dX6_image_6 (by decide) (fun c_6 => ?_) (fun c_6 => absurd c_6 (by decide))
  refine v_aload_n (pc := 12) dX6_image_12 rfl ?_
  refine v_getR (pc := 13) fkX6_16 ly0 rfl dX6_image_13 ?_
  refine v_iload_n (pc := 16) dX6_image_16 rfl ?_
  refine v_aald (pc := 17) (r2 := 14) ly13 ?_ ?_ dX6_image_17 ?_
  · unfold vp_in; decide
  · rfl
  refine v_aload_n (pc := 18) dX6_image_18 rfl ?_
  refine v_getR (pc := 19) fkX6_12 ly0 rfl dX6_image_19 ?_
  refine v_cV1v (pc := 22) dX6_image_22 mkX6_226 c_hsCopy_14_1 ly14 rfl (Nat.le_of_ble_eq_true rfl) rfl (Nat.zero_le _) (Nat.zero_le _) (fun M_22 J_22 h_22 => ?_)
  obtain ⟨e2_22, e3_22⟩ := h_22
  replace e2_22 := e2_22.symm
  replace e3_22 := e3_22.symm
  subst e2_22 e3_22
  refine v_aload_n (pc := 25) dX6_image_25 rfl ?_
  refine v_getR (pc := 26) fkX6_16 ly0 rfl dX6_image_26 ?_
  refine v_iload_n (pc := 29) dX6_image_29 rfl ?_
  refine v_aald (pc := 30) (r2 := 14) ly13 ?_ ?_ dX6_image_30 ?_
  · unfold vp_in; decide
  · rfl
  refine v_iconst (pc := 31) (v := 1) (by decide) dX6_image_31 ?_
  refine v_putZ (pc := 32) fkX6_229p ly14 rfl rfl rfl dX6_image_32 ?_
  refine v_iconst (pc := 35) (v := 1) (by decide) dX6_image_35 ?_
  refine v_iret (pc := 36) dX6_image_36 (Nat.zero_le _) (Nat.zero_le _) ?_
  exact ⟨rfl, rfl, rfl⟩

set_option maxRecDepth 100000 in
set_option maxHeartbeats 4000000 in
theorem c_restore0  {M : mM} {J : mJ}  : Ct yX6_restore cX6_restore 2 (some .int) (rmD 3) false [.ref 0, .int 0] LY M J (mNi LY (fun r0 M1 J1 => r0 = (if M 14 3 = 0 then -3 else 1) ∧ M1 = (if M 14 3 = 0 then M else cHs M 1 14) ∧ J1 = J)) := by
  refine ct_of (own := RX6) (ini := false) (ls := [some (.ref 0), some (.int 0)]) 0 (by decide +kernel) rfl (fun h => by cases h) rfl (fun ad => by first | exact Nat.le_of_ble_eq_true rfl) ?_
  refine v_iload_n (pc := 0) dX6_restore_0 rfl ?_
  refine v_iconst (pc := 1) (v := 0) (by decide) dX6_restore_1 ?_
  refine v_iconst (pc := 2) (v := 1) (by decide) dX6_restore_2 ?_
  refine v_cS3i (pc := 3) dX6_restore_3 mkX6_49 c_within (Nat.le_of_ble_eq_true rfl) rfl (Nat.zero_le _) (Nat.zero_le _) (fun r_3 M_3 J_3 h_3 => ?_)
  obtain ⟨e1_3, e2_3, e3_3⟩ := h_3
  replace e1_3 := e1_3.symm
  replace e2_3 := e2_3.symm
  replace e3_3 := e3_3.symm
  subst e1_3 e2_3 e3_3
  refine v_if_ne (pc := 6) (tgt := 12) dX6_restore_6 (by decide) (fun c_6 => ?_) (fun c_6 => absurd c_6 (by decide))
  refine v_aload_n (pc := 12) dX6_restore_12 rfl ?_
  refine v_getR (pc := 13) fkX6_16 ly0 rfl dX6_restore_13 ?_
  refine v_iload_n (pc := 16) dX6_restore_16 rfl ?_
  refine v_aald (pc := 17) (r2 := 14) ly13 ?_ ?_ dX6_restore_17 ?_
  · unfold vp_in; decide
  · rfl
  refine v_getI (pc := 18) fkX6_229 ly14 rfl dX6_restore_18 ?_
  refine v_if_ne (pc := 21) (tgt := 27) dX6_restore_21 (by decide) (fun c_21 => ?_) (fun c_21 => ?_)
  · refine v_aload_n (pc := 27) dX6_restore_27 rfl ?_
    refine v_getR (pc := 28) fkX6_12 ly0 rfl dX6_restore_28 ?_
    refine v_aload_n (pc := 31) dX6_restore_31 rfl ?_
    refine v_getR (pc := 32) fkX6_16 ly0 rfl dX6_restore_32 ?_
    refine v_iload_n (pc := 35) dX6_restore_35 rfl ?_
    refine v_aald (pc := 36) (r2 := 14) ly13 ?_ ?_ dX6_restore_36 ?_
    · unfold vp_in; decide
    · rfl
    refine v_cV1v (pc := 37) dX6_restore_37 mkX6_226 c_hsCopy_1_14 ly1 rfl (Nat.le_of_ble_eq_true rfl) rfl (Nat.zero_le _) (Nat.zero_le _) (fun M_37 J_37 h_37 => ?_)
    obtain ⟨e2_37, e3_37⟩ := h_37
    replace e2_37 := e2_37.symm
    replace e3_37 := e3_37.symm
    subst e2_37 e3_37
    refine v_iconst (pc := 40) (v := 1) (by decide) dX6_restore_40 ?_
    refine v_iret (pc := 41) dX6_restore_41 (Nat.zero_le _) (Nat.zero_le _) ?_
    exact ⟨by rw [if_neg c_21], by rw [if_neg c_21], rfl⟩
  · refine v_bipush (pc := 24) (v := (-3)) (by decide) dX6_restore_24 ?_
    refine v_iret (pc := 26) dX6_restore_26 (Nat.zero_le _) (Nat.zero_le _) ?_
    exact ⟨by rw [if_pos c_21], by rw [if_pos c_21], rfl⟩

set_option maxRecDepth 100000 in
set_option maxHeartbeats 4000000 in
theorem c_image1  {M : mM} {J : mJ}  : Ct yX6_image cX6_image 2 (some .int) (rmD 3) false [.ref 0, .int 1] LY M J (mNi LY (fun r0 M1 J1 => r0 = 1 ∧ M1 = mU (cHs M 26 1) 26 3 1 ∧ J1 = J)) := by
  refine ct_of (own := RX6) (ini := false) (ls := [some (.ref 0), some (.int 1)]) 0 (by decide +kernel) rfl (fun h => by cases h) rfl (fun ad => by first | exact Nat.le_of_ble_eq_true rfl) ?_
  refine v_iload_n (pc := 0) dX6_image_0 rfl ?_
  refine v_iconst (pc := 1) (v := 0) (by decide) dX6_image_1 ?_
  refine v_iconst (pc := 2) (v := 1) (by decide) dX6_image_2 ?_
  refine v_cS3i (pc := 3) dX6_image_3 mkX6_49 c_within (Nat.le_of_ble_eq_true rfl) rfl (Nat.zero_le _) (Nat.zero_le _) (fun r_3 M_3 J_3 h_3 => ?_)
  obtain ⟨e1_3, e2_3, e3_3⟩ := h_3
  replace e1_3 := e1_3.symm
  replace e2_3 := e2_3.symm
  replace e3_3 := e3_3.symm
  subst e1_3 e2_3 e3_3
  refine v_if_ne (pc := 6) (tgt := 12) dX6_image_6 (by decide) (fun c_6 => ?_) (fun c_6 => absurd c_6 (by decide))
  refine v_aload_n (pc := 12) dX6_image_12 rfl ?_
  refine v_getR (pc := 13) fkX6_16 ly0 rfl dX6_image_13 ?_
  refine v_iload_n (pc := 16) dX6_image_16 rfl ?_
  refine v_aald (pc := 17) (r2 := 26) ly13 ?_ ?_ dX6_image_17 ?_
  · unfold vp_in; decide
  · rfl
  refine v_aload_n (pc := 18) dX6_image_18 rfl ?_
  refine v_getR (pc := 19) fkX6_12 ly0 rfl dX6_image_19 ?_
  refine v_cV1v (pc := 22) dX6_image_22 mkX6_226 c_hsCopy_26_1 ly26 rfl (Nat.le_of_ble_eq_true rfl) rfl (Nat.zero_le _) (Nat.zero_le _) (fun M_22 J_22 h_22 => ?_)
  obtain ⟨e2_22, e3_22⟩ := h_22
  replace e2_22 := e2_22.symm
  replace e3_22 := e3_22.symm
  subst e2_22 e3_22
  refine v_aload_n (pc := 25) dX6_image_25 rfl ?_
  refine v_getR (pc := 26) fkX6_16 ly0 rfl dX6_image_26 ?_
  refine v_iload_n (pc := 29) dX6_image_29 rfl ?_
  refine v_aald (pc := 30) (r2 := 26) ly13 ?_ ?_ dX6_image_30 ?_
  · unfold vp_in; decide
  · rfl
  refine v_iconst (pc := 31) (v := 1) (by decide) dX6_image_31 ?_
  refine v_putZ (pc := 32) fkX6_229p ly26 rfl rfl rfl dX6_image_32 ?_
  refine v_iconst (pc := 35) (v := 1) (by decide) dX6_image_35 ?_
  refine v_iret (pc := 36) dX6_image_36 (Nat.zero_le _) (Nat.zero_le _) ?_
  exact ⟨rfl, rfl, rfl⟩

set_option maxRecDepth 100000 in
set_option maxHeartbeats 4000000 in
theorem c_restore1  {M : mM} {J : mJ}  : Ct yX6_restore cX6_restore 2 (some .int) (rmD 3) false [.ref 0, .int 1] LY M J (mNi LY (fun r0 M1 J1 => r0 = (if M 26 3 = 0 then -3 else 1) ∧ M1 = (if M 26 3 = 0 then M else cHs M 1 26) ∧ J1 = J)) := by
  refine ct_of (own := RX6) (ini := false) (ls := [some (.ref 0), some (.int 1)]) 0 (by decide +kernel) rfl (fun h => by cases h) rfl (fun ad => by first | exact Nat.le_of_ble_eq_true rfl) ?_
  refine v_iload_n (pc := 0) dX6_restore_0 rfl ?_
  refine v_iconst (pc := 1) (v := 0) (by decide) dX6_restore_1 ?_
  refine v_iconst (pc := 2) (v := 1) (by decide) dX6_restore_2 ?_
  refine v_cS3i (pc := 3) dX6_restore_3 mkX6_49 c_within (Nat.le_of_ble_eq_true rfl) rfl (Nat.zero_le _) (Nat.zero_le _) (fun r_3 M_3 J_3 h_3 => ?_)
  obtain ⟨e1_3, e2_3, e3_3⟩ := h_3
  replace e1_3 := e1_3.symm
  replace e2_3 := e2_3.symm
  replace e3_3 := e3_3.symm
  subst e1_3 e2_3 e3_3
  refine v_if_ne (pc := 6) (tgt := 12) dX6_restore_6 (by decide) (fun c_6 => ?_) (fun c_6 => absurd c_6 (by decide))
  refine v_aload_n (pc := 12) dX6_restore_12 rfl ?_
  refine v_getR (pc := 13) fkX6_16 ly0 rfl dX6_restore_13 ?_
  refine v_iload_n (pc := 16) dX6_restore_16 rfl ?_
  refine v_aald (pc := 17) (r2 := 26) ly13 ?_ ?_ dX6_restore_17 ?_
  · unfold vp_in; decide
  · rfl
  refine v_getI (pc := 18) fkX6_229 ly26 rfl dX6_restore_18 ?_
  refine v_if_ne (pc := 21) (tgt := 27) dX6_restore_21 (by decide) (fun c_21 => ?_) (fun c_21 => ?_)
  · refine v_aload_n (pc := 27) dX6_restore_27 rfl ?_
    refine v_getR (pc := 28) fkX6_12 ly0 rfl dX6_restore_28 ?_
    refine v_aload_n (pc := 31) dX6_restore_31 rfl ?_
    refine v_getR (pc := 32) fkX6_16 ly0 rfl dX6_restore_32 ?_
    refine v_iload_n (pc := 35) dX6_restore_35 rfl ?_
    refine v_aald (pc := 36) (r2 := 26) ly13 ?_ ?_ dX6_restore_36 ?_
    · unfold vp_in; decide
    · rfl
    refine v_cV1v (pc := 37) dX6_restore_37 mkX6_226 c_hsCopy_1_26 ly1 rfl (Nat.le_of_ble_eq_true rfl) rfl (Nat.zero_le _) (Nat.zero_le _) (fun M_37 J_37 h_37 => ?_)
    obtain ⟨e2_37, e3_37⟩ := h_37
    replace e2_37 := e2_37.symm
    replace e3_37 := e3_37.symm
    subst e2_37 e3_37
    refine v_iconst (pc := 40) (v := 1) (by decide) dX6_restore_40 ?_
    refine v_iret (pc := 41) dX6_restore_41 (Nat.zero_le _) (Nat.zero_le _) ?_
    exact ⟨by rw [if_neg c_21], by rw [if_neg c_21], rfl⟩
  · refine v_bipush (pc := 24) (v := (-3)) (by decide) dX6_restore_24 ?_
    refine v_iret (pc := 26) dX6_restore_26 (Nat.zero_le _) (Nat.zero_le _) ?_
    exact ⟨by rw [if_pos c_21], by rw [if_pos c_21], rfl⟩

set_option maxRecDepth 100000 in
set_option maxHeartbeats 4000000 in
theorem c_imageO {x : Int32} {M : mM} {J : mJ} (hx : ¬ (0 ≤ x ∧ x ≤ 1)) : Ct yX6_image cX6_image 2 (some .int) (rmD 3) false [.ref 0, .int x] LY M J (mNi LY (fun r0 M1 J1 => r0 = -2 ∧ M1 = M ∧ J1 = J)) := by
  refine ct_of (own := RX6) (ini := false) (ls := [some (.ref 0), some (.int x)]) 0 (by decide +kernel) rfl (fun h => by cases h) rfl (fun ad => by first | exact Nat.le_of_ble_eq_true rfl) ?_
  refine v_iload_n (pc := 0) dX6_image_0 rfl ?_
  refine v_iconst (pc := 1) (v := 0) (by decide) dX6_image_1 ?_
  refine v_iconst (pc := 2) (v := 1) (by decide) dX6_image_2 ?_
  refine v_cS3i (pc := 3) dX6_image_3 mkX6_49 c_within (Nat.le_of_ble_eq_true rfl) rfl (Nat.zero_le _) (Nat.zero_le _) (fun r_3 M_3 J_3 h_3 => ?_)
  obtain ⟨e1_3, e2_3, e3_3⟩ := h_3
  replace e1_3 := e1_3.symm
  replace e2_3 := e2_3.symm
  replace e3_3 := e3_3.symm
  subst e1_3 e2_3 e3_3
  refine v_if_ne (pc := 6) (tgt := 12) dX6_image_6 (by decide) (fun c_6 => absurd (bI_0.mpr hx) c_6) (fun c_6 => ?_)
  refine v_bipush (pc := 9) (v := (-2)) (by decide) dX6_image_9 ?_
  refine v_iret (pc := 11) dX6_image_11 (Nat.zero_le _) (Nat.zero_le _) ?_
  exact ⟨rfl, rfl, rfl⟩

set_option maxRecDepth 100000 in
set_option maxHeartbeats 4000000 in
theorem c_restoreO {x : Int32} {M : mM} {J : mJ} (hx : ¬ (0 ≤ x ∧ x ≤ 1)) : Ct yX6_restore cX6_restore 2 (some .int) (rmD 3) false [.ref 0, .int x] LY M J (mNi LY (fun r0 M1 J1 => r0 = -2 ∧ M1 = M ∧ J1 = J)) := by
  refine ct_of (own := RX6) (ini := false) (ls := [some (.ref 0), some (.int x)]) 0 (by decide +kernel) rfl (fun h => by cases h) rfl (fun ad => by first | exact Nat.le_of_ble_eq_true rfl) ?_
  refine v_iload_n (pc := 0) dX6_restore_0 rfl ?_
  refine v_iconst (pc := 1) (v := 0) (by decide) dX6_restore_1 ?_
  refine v_iconst (pc := 2) (v := 1) (by decide) dX6_restore_2 ?_
  refine v_cS3i (pc := 3) dX6_restore_3 mkX6_49 c_within (Nat.le_of_ble_eq_true rfl) rfl (Nat.zero_le _) (Nat.zero_le _) (fun r_3 M_3 J_3 h_3 => ?_)
  obtain ⟨e1_3, e2_3, e3_3⟩ := h_3
  replace e1_3 := e1_3.symm
  replace e2_3 := e2_3.symm
  replace e3_3 := e3_3.symm
  subst e1_3 e2_3 e3_3
  refine v_if_ne (pc := 6) (tgt := 12) dX6_restore_6 (by decide) (fun c_6 => absurd (bI_0.mpr hx) c_6) (fun c_6 => ?_)
  refine v_bipush (pc := 9) (v := (-2)) (by decide) dX6_restore_9 ?_
  refine v_iret (pc := 11) dX6_restore_11 (Nat.zero_le _) (Nat.zero_le _) ?_
  exact ⟨rfl, rfl, rfl⟩

theorem two_cases {x : Int32} (h : 0 ≤ x ∧ x ≤ 1) : x = 0 ∨ x = 1 := by
  obtain ⟨k, hk, rfl⟩ := rngN (a := 0) (n := 1) rfl rfl (by omega) h.1 h.2
  have : k = 0 ∨ k = 1 := by omega
  rcases this with rfl | rfl
  · exact Or.inl rfl
  · exact Or.inr rfl

def lcg (n : Nat) : Nat := (75 * n + 74) % 65537
def dy (_ : Nat) (p : Nat × mM) : Nat × mM := (lcg p.1, fDraw p.2 (lcg p.1))
def dayP (M : mM) (s m : Nat) : Nat × mM := itN dy (s, cLg M 38 2) m
theorem lcg_lt (n : Nat) : lcg n < 65537 := Nat.mod_lt _ (by omega)
theorem lcg_I {n : Nat} (h : n < 65537) : (75 * nI n + 74) - (75 * nI n + 74) / 65537 * 65537 = nI (lcg n) := by
  rw [show (75 : Int32) * nI n + 74 = nI (75 * n + 74) by rw [show (75 : Int32) * nI n = nI 75 * nI n from rfl, pk_mul, show (74 : Int32) = nI 74 from rfl, nI_add]]
  exact pk_rem (d := 65537) (by omega) (by omega) (by omega)
theorem dayP_ok {M : mM} {s : Nat} (hs : s < 65537) (hwf : WFn M) : ∀ m, (dayP M s m).1 < 65537 ∧ WF (dayP M s m).2
  | 0 => ⟨hs, WF_copy hwf⟩
  | m + 1 => ⟨lcg_lt _, WF_draw (dayP_ok hs hwf m).2⟩

set_option maxRecDepth 100000 in
set_option maxHeartbeats 4000000 in
theorem l_day {x z : Int32} {s mm : Nat} (hs : s < 65537) (hmm : mm ≤ 99) {M : mM} {J : mJ} (hwf : WFn M) : ∀ (n i : Nat), n + i = mm → V RX6 cX6_day 6 (some .int) false (rmD 4) false LY.length none (mNi LY (fun r0 M1 J1 => r0 = sel3 z ((dayP M s mm).2 41 3) (bsum ((dayP M s mm).2 40) ((dayP M s mm).2 38 4) 7) (bcI ((dayP M s mm).2 38 4)) ∧ M1 = (dayP M s mm).2 ∧ J1 = J)) 0 0 53 [some (.ref 0), some (.int x), some (.int (nI mm)), some (.int z), some (.int (nI (dayP M s i).1)), some (.int (nI i))] [] LY (dayP M s i).2 J := by
  intro n
  induction n with
  | zero =>
    intro i hi
    obtain rfl : i = mm := by omega
    refine v_iload (pc := 53) dX6_day_53 rfl ?_
    refine v_iload_n (pc := 55) dX6_day_55 rfl ?_
    refine v_icmp_ge (pc := 56) (tgt := 87) dX6_day_56 (by decide) (fun c_56 => ?_) (fun c_56 => absurd (nI_le (Nat.le_refl i) (by omega)) c_56)
    refine v_iload_n (pc := 87) dX6_day_87 rfl ?_
    refine v_lk2 (pc := 88) (t0 := 116) (t1 := 127) (t2 := 142) dX6_day_88 (by decide) (by decide) (by decide) (fun c_88 => ?_) (fun c_88 => ?_) (fun c_88 => ?_)
    · refine v_aload_n (pc := 116) dX6_day_116 rfl ?_
      refine v_getR (pc := 117) fkX6_23 ly0 rfl dX6_day_117 ?_
      refine v_getR (pc := 120) fkX6_87 ly38 rfl dX6_day_120 ?_
      refine v_getI (pc := 123) fkX6_91 ly41 rfl dX6_day_123 ?_
      refine v_iret (pc := 126) dX6_day_126 (Nat.zero_le _) (Nat.zero_le _) ?_
      subst c_88
      exact ⟨rfl, rfl, rfl⟩
    · refine v_aload_n (pc := 127) dX6_day_127 rfl ?_
      refine v_getR (pc := 128) fkX6_23 ly0 rfl dX6_day_128 ?_
      refine v_aload_n (pc := 131) dX6_day_131 rfl ?_
      refine v_getR (pc := 132) fkX6_23 ly0 rfl dX6_day_132 ?_
      refine v_getI (pc := 135) fkX6_60 ly38 rfl dX6_day_135 ?_
      refine v_cV1i (pc := 138) dX6_day_138 mkX6_223 (c_breathOfAll ly38 ly40) ly38 rfl (Nat.le_of_ble_eq_true rfl) rfl (Nat.zero_le _) (Nat.zero_le _) (fun r_138 M_138 J_138 h_138 => ?_)
      obtain ⟨e1_138, e2_138, e3_138⟩ := h_138
      replace e1_138 := e1_138.symm
      replace e2_138 := e2_138.symm
      replace e3_138 := e3_138.symm
      subst e1_138 e2_138 e3_138
      refine v_iret (pc := 141) dX6_day_141 (Nat.zero_le _) (Nat.zero_le _) ?_
      subst c_88
      exact ⟨rfl, rfl, rfl⟩
    · refine v_aload_n (pc := 142) dX6_day_142 rfl ?_
      refine v_getR (pc := 143) fkX6_23 ly0 rfl dX6_day_143 ?_
      refine v_getI (pc := 146) fkX6_60 ly38 rfl dX6_day_146 ?_
      refine v_cS1i (pc := 149) dX6_day_149 mkX6_64 c_bitCount (Nat.le_of_ble_eq_true rfl) rfl (Nat.zero_le _) (Nat.zero_le _) (fun r_149 M_149 J_149 h_149 => ?_)
      obtain ⟨e1_149, e2_149, e3_149⟩ := h_149
      replace e1_149 := e1_149.symm
      replace e2_149 := e2_149.symm
      replace e3_149 := e3_149.symm
      subst e1_149 e2_149 e3_149
      refine v_iret (pc := 152) dX6_day_152 (Nat.zero_le _) (Nat.zero_le _) ?_
      exact ⟨(sel3_2 c_88).symm, rfl, rfl⟩
  | succ n ih =>
    intro i hi
    obtain ⟨h1, h2⟩ := dayP_ok hs hwf i
    refine v_iload (pc := 53) dX6_day_53 rfl ?_
    refine v_iload_n (pc := 55) dX6_day_55 rfl ?_
    refine v_icmp_ge (pc := 56) (tgt := 87) dX6_day_56 (by decide) (fun c_56 => absurd c_56 (nI_ge (show i < mm by omega) (by omega))) (fun c_56 => ?_)
    refine v_bipush (pc := 59) (v := 75) (by decide) dX6_day_59 ?_
    refine v_iload (pc := 61) dX6_day_61 rfl ?_
    refine v_imul (pc := 63) dX6_day_63 ?_
    refine v_bipush (pc := 64) (v := 74) (by decide) dX6_day_64 ?_
    refine v_iadd (pc := 66) dX6_day_66 ?_
    refine v_ldc (pc := 67) ckX6_219 dX6_day_67 ?_
    refine v_irem (pc := 69) (by decide) dX6_day_69 ?_
    rw [lcg_I h1]
    refine v_ist_4 (pc := 70) dX6_day_70 (by decide) rfl ?_
    refine v_aload_n (pc := 72) dX6_day_72 rfl ?_
    refine v_getR (pc := 73) fkX6_23 ly0 rfl dX6_day_73 ?_
    refine v_iload (pc := 76) dX6_day_76 rfl ?_
    refine v_cV1v (pc := 78) dX6_day_78 mkX6_220 (c_drawn (lcg_lt _) h2) ly38 rfl (Nat.le_of_ble_eq_true rfl) rfl (Nat.zero_le _) (Nat.zero_le _) (fun M_78 J_78 h_78 => ?_)
    obtain ⟨e2_78, e3_78⟩ := h_78
    replace e2_78 := e2_78.symm
    replace e3_78 := e3_78.symm
    subst e2_78 e3_78
    refine v_inc_5 (pc := 81) (v := 1) dX6_day_81 (by decide) (by decide) rfl ?_
    refine v_goto (pc := 84) (tgt := 53) dX6_day_84 (by decide) ?_
    rw [nI_1]
    exact ih (i + 1) (by omega)

set_option maxRecDepth 100000 in
set_option maxHeartbeats 4000000 in
theorem c_day {x y z : Int32} {M : mM} {J : mJ} (hwf : WFn M) : Ct yX6_day cX6_day 6 (some .int) (rmD 4) false [.ref 0, .int x, .int y, .int z] LY M J (mNi LY (fun r0 M1 J1 => r0 = (if ((0 ≤ x ∧ x ≤ 9999) ∧ (1 ≤ y ∧ y ≤ 99) ∧ (0 ≤ z ∧ z ≤ 2)) then sel3 z ((dayP M x.toNatClampNeg y.toNatClampNeg).2 41 3) (bsum ((dayP M x.toNatClampNeg y.toNatClampNeg).2 40) ((dayP M x.toNatClampNeg y.toNatClampNeg).2 38 4) 7) (bcI ((dayP M x.toNatClampNeg y.toNatClampNeg).2 38 4)) else -2) ∧ M1 = (if ((0 ≤ x ∧ x ≤ 9999) ∧ (1 ≤ y ∧ y ≤ 99) ∧ (0 ≤ z ∧ z ≤ 2)) then (dayP M x.toNatClampNeg y.toNatClampNeg).2 else M) ∧ J1 = J)) := by
  refine ct_of (own := RX6) (ini := false) (ls := [some (.ref 0), some (.int x), some (.int y), some (.int z), none, none]) 2 (by decide +kernel) rfl (fun h => by cases h) rfl (fun ad => by first | exact Nat.le_of_ble_eq_true rfl) ?_
  refine v_iload_n (pc := 0) dX6_day_0 rfl ?_
  refine v_iconst (pc := 1) (v := 0) (by decide) dX6_day_1 ?_
  refine v_sipush (pc := 2) (v := 9999) (by decide) dX6_day_2 ?_
  refine v_cS3i (pc := 5) dX6_day_5 mkX6_49 c_within (Nat.le_of_ble_eq_true rfl) rfl (Nat.zero_le _) (Nat.zero_le _) (fun r_5 M_5 J_5 h_5 => ?_)
  obtain ⟨e1_5, e2_5, e3_5⟩ := h_5
  replace e1_5 := e1_5.symm
  replace e2_5 := e2_5.symm
  replace e3_5 := e3_5.symm
  subst e1_5 e2_5 e3_5
  refine v_if_eq (pc := 8) (tgt := 30) dX6_day_8 (by decide) (fun c_8 => ?_) (fun c_8 => ?_)
  · refine v_bipush (pc := 30) (v := (-2)) (by decide) dX6_day_30 ?_
    refine v_iret (pc := 32) dX6_day_32 (Nat.zero_le _) (Nat.zero_le _) ?_
    exact ⟨by rw [if_neg (fun q => bI_0.mp c_8 q.1)]; try rfl, by rw [if_neg (fun q => bI_0.mp c_8 q.1)]; try rfl, rfl⟩
  · refine v_iload_n (pc := 11) dX6_day_11 rfl ?_
    refine v_iconst (pc := 12) (v := 1) (by decide) dX6_day_12 ?_
    refine v_bipush (pc := 13) (v := 99) (by decide) dX6_day_13 ?_
    refine v_cS3i (pc := 15) dX6_day_15 mkX6_49 c_within (Nat.le_of_ble_eq_true rfl) rfl (Nat.zero_le _) (Nat.zero_le _) (fun r_15 M_15 J_15 h_15 => ?_)
    obtain ⟨e1_15, e2_15, e3_15⟩ := h_15
    replace e1_15 := e1_15.symm
    replace e2_15 := e2_15.symm
    replace e3_15 := e3_15.symm
    subst e1_15 e2_15 e3_15
    refine v_if_eq (pc := 18) (tgt := 30) dX6_day_18 (by decide) (fun c_18 => ?_) (fun c_18 => ?_)
    · refine v_bipush (pc := 30) (v := (-2)) (by decide) dX6_day_30 ?_
      refine v_iret (pc := 32) dX6_day_32 (Nat.zero_le _) (Nat.zero_le _) ?_
      exact ⟨by rw [if_neg (fun q => bI_0.mp c_18 q.2.1)]; try rfl, by rw [if_neg (fun q => bI_0.mp c_18 q.2.1)]; try rfl, rfl⟩
    · refine v_iload_n (pc := 21) dX6_day_21 rfl ?_
      refine v_iconst (pc := 22) (v := 0) (by decide) dX6_day_22 ?_
      refine v_iconst (pc := 23) (v := 2) (by decide) dX6_day_23 ?_
      refine v_cS3i (pc := 24) dX6_day_24 mkX6_49 c_within (Nat.le_of_ble_eq_true rfl) rfl (Nat.zero_le _) (Nat.zero_le _) (fun r_24 M_24 J_24 h_24 => ?_)
      obtain ⟨e1_24, e2_24, e3_24⟩ := h_24
      replace e1_24 := e1_24.symm
      replace e2_24 := e2_24.symm
      replace e3_24 := e3_24.symm
      subst e1_24 e2_24 e3_24
      refine v_if_ne (pc := 27) (tgt := 33) dX6_day_27 (by decide) (fun c_27 => ?_) (fun c_27 => ?_)
      · have hG := And.intro (bI_n0.mp c_8) (And.intro (bI_n0.mp c_18) (bI_n0.mp c_27))
        obtain ⟨s0, hs0, rfl⟩ := rngN (a := 0) (n := 9999) rfl rfl (by omega) hG.1.1 hG.1.2
        obtain ⟨m0, hm0, rfl⟩ := rngN (a := 1) (n := 98) rfl rfl (by omega) hG.2.1.1 hG.2.1.2
        have hcs := nI_clamp (show 0 + s0 < 2 ^ 31 by omega)
        have hcm := nI_clamp (show 1 + m0 < 2 ^ 31 by omega)
        refine v_aload_n (pc := 33) dX6_day_33 rfl ?_
        refine v_getR (pc := 34) fkX6_23 ly0 rfl dX6_day_34 ?_
        refine v_aload_n (pc := 37) dX6_day_37 rfl ?_
        refine v_getR (pc := 38) fkX6_12 ly0 rfl dX6_day_38 ?_
        refine v_getR (pc := 41) fkX6_53 ly1 rfl dX6_day_41 ?_
        refine v_cV1v (pc := 44) dX6_day_44 mkX6_122 c_lgCopy_38_2 ly38 rfl (Nat.le_of_ble_eq_true rfl) rfl (Nat.zero_le _) (Nat.zero_le _) (fun M_44 J_44 h_44 => ?_)
        obtain ⟨e2_44, e3_44⟩ := h_44
        replace e2_44 := e2_44.symm
        replace e3_44 := e3_44.symm
        subst e2_44 e3_44
        refine v_iload_n (pc := 47) dX6_day_47 rfl ?_
        refine v_ist_4 (pc := 48) dX6_day_48 (by decide) rfl ?_
        refine v_iconst (pc := 50) (v := 0) (by decide) dX6_day_50 ?_
        refine v_ist_5 (pc := 51) dX6_day_51 (by decide) rfl ?_
        refine V.mono (fun o a b c q => ?_) (l_day (x := nI (0 + s0)) (z := z) (s := 0 + s0) (mm := 1 + m0) (by omega) (by omega) hwf (1 + m0) 0 rfl)
        rw [if_pos hG, if_pos hG, hcs, hcm]
        exact q
      · refine v_bipush (pc := 30) (v := (-2)) (by decide) dX6_day_30 ?_
        refine v_iret (pc := 32) dX6_day_32 (Nat.zero_le _) (Nat.zero_le _) ?_
        exact ⟨by rw [if_neg (fun q => bI_0.mp c_27 q.2.2)]; try rfl, by rw [if_neg (fun q => bI_0.mp c_27 q.2.2)]; try rfl, rfl⟩
