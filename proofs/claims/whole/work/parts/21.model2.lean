/-! the model: fault, sittings -/
abbrev fitS (st s : Int32) : Prop := (st = 0 ∧ ((65 ≤ s ∧ s ≤ 71) ∨ s = 126 ∨ s = 46)) ∨ (¬ st = 0 ∧ st = 1 ∧ (s = 94 ∨ (49 ≤ s ∧ s ≤ 57))) ∨ (¬ st = 0 ∧ ¬ st = 1 ∧ (48 ≤ s ∧ s ≤ 57))
def nxS (st s : Int32) : Int32 := if ¬ st = 0 ∨ s = 46 then 0 else if s = 126 then 2 else 1
def mFl (S : Nat → Int32) (n : Nat) : Nat → Nat → Int32 → Int32
  | 0, _, _ => 0
  | f + 1, k, st => if k < n then (if fitS st (S k) then mFl S n f (k + 1) (nxS st (S k)) else nI k) else if st = 0 then -6 else nI n

set_option maxRecDepth 100000 in
set_option maxHeartbeats 4000000 in
theorem m_letter {x : Int32} {M : mM} {J : mJ}  : Ct yX7_isLetter cX7_isLetter 1 (some .boolean) (rmD 1) false [.int x] LY M J (mNi LY (fun r0 M1 J1 => r0 = bI (65 ≤ x ∧ x ≤ 71) ∧ M1 = M ∧ J1 = J)) := by
  refine ct_of (own := RX7) (ini := false) (ls := [some (.int x)]) 0 (by decide +kernel) rfl (fun h => by cases h) rfl (fun ad => by first | exact Nat.le_of_ble_eq_true rfl) ?_
  refine v_iload_n (pc := 0) dX7_isLetter_0 rfl ?_
  refine v_bipush (pc := 1) (v := 65) (by decide) dX7_isLetter_1 ?_
  refine v_bipush (pc := 3) (v := 71) (by decide) dX7_isLetter_3 ?_
  refine v_cS3i (pc := 5) dX7_isLetter_5 mkX7_49 m_in (Nat.le_of_ble_eq_true rfl) rfl (Nat.zero_le _) (Nat.zero_le _) (fun r_5 M_5 J_5 h_5 => ?_)
  obtain ⟨e1_5, e2_5, e3_5⟩ := h_5
  replace e1_5 := e1_5.symm
  replace e2_5 := e2_5.symm
  replace e3_5 := e3_5.symm
  subst e1_5 e2_5 e3_5
  refine v_zret (pc := 8) dX7_isLetter_8 (Nat.zero_le _) (Nat.zero_le _) bI_or ?_
  exact ⟨rfl, rfl, rfl⟩

set_option maxRecDepth 100000 in
set_option maxHeartbeats 400000 in
theorem l_mf2 {n f k : Nat} {u : Int32} {M : mM} {J : mJ} (hlt : k < n) (h60 : n ≤ 60) (ih : ∀ v : Int32, V RX7 cX7_faultOf 5 (some .int) false (rmD 2) false LY.length none (mNi LY (fun r0 M1 J1 => r0 = mFl (M 55) n f (k + 1) v ∧ M1 = M ∧ J1 = J)) 0 0 4 [some (.ref 49), some (.int v), some (.int (nI (k + 1))), none, none] [] LY M J) : V RX7 cX7_faultOf 5 (some .int) false (rmD 2) false LY.length none (mNi LY (fun r0 M1 J1 => r0 = mFl (M 55) n (f + 1) k u ∧ M1 = M ∧ J1 = J)) 0 0 88 [some (.ref 49), some (.int u), some (.int (nI k)), some (.int (M 55 k)), none] [.int (bI (fitS u (M 55 k)))] LY M J := by
  refine v_ist_4 (pc := 88) dX7_faultOf_88 (by decide) rfl ?_
  refine v_iload (pc := 90) dX7_faultOf_90 rfl ?_
  refine v_if_ne (pc := 92) (tgt := 97) dX7_faultOf_92 (by decide) (fun c_92 => ?_) (fun c_92 => ?_)
  · refine v_iload_n (pc := 97) dX7_faultOf_97 rfl ?_
    refine v_if_ne (pc := 98) (tgt := 107) dX7_faultOf_98 (by decide) (fun c_98 => ?_) (fun c_98 => ?_)
    · refine v_iconst (pc := 107) (v := 0) (by decide) dX7_faultOf_107 ?_
      refine v_goto (pc := 108) (tgt := 122) dX7_faultOf_108 (by decide) ?_
      refine v_ist_1 (pc := 122) dX7_faultOf_122 (by decide) rfl ?_
      refine v_inc_2 (pc := 123) (v := 1) dX7_faultOf_123 (by decide) (by decide) rfl ?_
      refine v_goto (pc := 126) (tgt := 4) dX7_faultOf_126 (by decide) ?_
      refine v_fg_3 (v_fg_4 ?_)
      rw [nI_1]
      have e9 := ih (nxS u (M 55 k))
      rw [show nxS u (M 55 k) = _ from if_pos (Or.inl c_98)] at e9
      refine V.mono (fun o a b c q => ?_) e9
      rw [mFl, if_pos hlt, if_pos (bI_n0.mp c_92), show nxS u (M 55 k) = _ from if_pos (Or.inl c_98)]
      exact q
    · refine v_iload_n (pc := 101) dX7_faultOf_101 rfl ?_
      refine v_bipush (pc := 102) (v := 46) (by decide) dX7_faultOf_102 ?_
      refine v_icmp_ne (pc := 104) (tgt := 111) dX7_faultOf_104 (by decide) (fun c_104 => ?_) (fun c_104 => ?_)
      · refine v_iload_n (pc := 111) dX7_faultOf_111 rfl ?_
        refine v_bipush (pc := 112) (v := 126) (by decide) dX7_faultOf_112 ?_
        refine v_icmp_ne (pc := 114) (tgt := 121) dX7_faultOf_114 (by decide) (fun c_114 => ?_) (fun c_114 => ?_)
        · refine v_iconst (pc := 121) (v := 1) (by decide) dX7_faultOf_121 ?_
          refine v_ist_1 (pc := 122) dX7_faultOf_122 (by decide) rfl ?_
          refine v_inc_2 (pc := 123) (v := 1) dX7_faultOf_123 (by decide) (by decide) rfl ?_
          refine v_goto (pc := 126) (tgt := 4) dX7_faultOf_126 (by decide) ?_
          refine v_fg_3 (v_fg_4 ?_)
          rw [nI_1]
          have e9 := ih (nxS u (M 55 k))
          rw [show nxS u (M 55 k) = _ from (if_neg (fun q => q.elim (fun z => z c_98) c_104)).trans (if_neg c_114)] at e9
          refine V.mono (fun o a b c q => ?_) e9
          rw [mFl, if_pos hlt, if_pos (bI_n0.mp c_92), show nxS u (M 55 k) = _ from (if_neg (fun q => q.elim (fun z => z c_98) c_104)).trans (if_neg c_114)]
          exact q
        · refine v_iconst (pc := 117) (v := 2) (by decide) dX7_faultOf_117 ?_
          refine v_goto (pc := 118) (tgt := 122) dX7_faultOf_118 (by decide) ?_
          refine v_ist_1 (pc := 122) dX7_faultOf_122 (by decide) rfl ?_
          refine v_inc_2 (pc := 123) (v := 1) dX7_faultOf_123 (by decide) (by decide) rfl ?_
          refine v_goto (pc := 126) (tgt := 4) dX7_faultOf_126 (by decide) ?_
          refine v_fg_3 (v_fg_4 ?_)
          rw [nI_1]
          have e9 := ih (nxS u (M 55 k))
          rw [show nxS u (M 55 k) = _ from (if_neg (fun q => q.elim (fun z => z c_98) c_104)).trans (if_pos c_114)] at e9
          refine V.mono (fun o a b c q => ?_) e9
          rw [mFl, if_pos hlt, if_pos (bI_n0.mp c_92), show nxS u (M 55 k) = _ from (if_neg (fun q => q.elim (fun z => z c_98) c_104)).trans (if_pos c_114)]
          exact q
      · refine v_iconst (pc := 107) (v := 0) (by decide) dX7_faultOf_107 ?_
        refine v_goto (pc := 108) (tgt := 122) dX7_faultOf_108 (by decide) ?_
        refine v_ist_1 (pc := 122) dX7_faultOf_122 (by decide) rfl ?_
        refine v_inc_2 (pc := 123) (v := 1) dX7_faultOf_123 (by decide) (by decide) rfl ?_
        refine v_goto (pc := 126) (tgt := 4) dX7_faultOf_126 (by decide) ?_
        refine v_fg_3 (v_fg_4 ?_)
        rw [nI_1]
        have e9 := ih (nxS u (M 55 k))
        rw [show nxS u (M 55 k) = _ from if_pos (Or.inr c_104)] at e9
        refine V.mono (fun o a b c q => ?_) e9
        rw [mFl, if_pos hlt, if_pos (bI_n0.mp c_92), show nxS u (M 55 k) = _ from if_pos (Or.inr c_104)]
        exact q
  · refine v_iload_n (pc := 95) dX7_faultOf_95 rfl ?_
    refine v_iret (pc := 96) dX7_faultOf_96 (Nat.zero_le _) (Nat.zero_le _) ?_
    exact ⟨by rw [mFl, if_pos hlt, if_neg (bI_0.mp c_92)], rfl, rfl⟩

set_option maxRecDepth 100000 in
set_option maxHeartbeats 400000 in
theorem l_mf {n : Nat} {M : mM} {J : mJ} (hn : M 49 8 = nI n) (h60 : n ≤ 60) : ∀ (f k : Nat) (u : Int32), k ≤ n → n - k < f → V RX7 cX7_faultOf 5 (some .int) false (rmD 2) false LY.length none (mNi LY (fun r0 M1 J1 => r0 = mFl (M 55) n f k u ∧ M1 = M ∧ J1 = J)) 0 0 4 [some (.ref 49), some (.int u), some (.int (nI k)), none, none] [] LY M J := by
  intro f
  induction f with
  | zero => intro k u h1 h2; omega
  | succ f ih =>
    intro k u h1 h2
    have hcl := nI_clamp (show k < 2 ^ 31 by omega)
    rcases Nat.lt_or_ge k n with hlt | hge
    · skip
      refine v_iload_n (pc := 4) dX7_faultOf_4 rfl ?_
      refine v_aload_n (pc := 5) dX7_faultOf_5 rfl ?_
      refine v_getI (pc := 6) fkX7_68 ly49 rfl dX7_faultOf_6 ?_
      refine v_icmp_ge (pc := 9) (tgt := 129) dX7_faultOf_9 (by decide) (fun c_9 => absurd c_9 (by rw [hn]; exact nI_ge hlt (by omega))) (fun c_9 => ?_)
      refine v_aload_n (pc := 12) dX7_faultOf_12 rfl ?_
      refine v_getR (pc := 13) fkX7_29 ly49 rfl dX7_faultOf_13 ?_
      refine v_iload_n (pc := 16) dX7_faultOf_16 rfl ?_
      refine v_iald (pc := 17) ly55 ?_ dX7_faultOf_17 ?_
      · exact vp_in_nI (show k < 60 by omega) (by omega)
      rw [hcl]
      refine v_ist_3 (pc := 18) dX7_faultOf_18 (by decide) rfl ?_
      refine v_iload_n (pc := 19) dX7_faultOf_19 rfl ?_
      refine v_if_ne (pc := 20) (tgt := 50) dX7_faultOf_20 (by decide) (fun c_20 => ?_) (fun c_20 => ?_)
      · refine v_iload_n (pc := 50) dX7_faultOf_50 rfl ?_
        refine v_iconst (pc := 51) (v := 1) (by decide) dX7_faultOf_51 ?_
        refine v_icmp_ne (pc := 52) (tgt := 80) dX7_faultOf_52 (by decide) (fun c_52 => ?_) (fun c_52 => ?_)
        · refine v_iload_n (pc := 80) dX7_faultOf_80 rfl ?_
          refine v_bipush (pc := 81) (v := 48) (by decide) dX7_faultOf_81 ?_
          refine v_bipush (pc := 83) (v := 57) (by decide) dX7_faultOf_83 ?_
          refine v_cS3i (pc := 85) dX7_faultOf_85 mkX7_49 m_in (Nat.le_of_ble_eq_true rfl) rfl (Nat.zero_le _) (Nat.zero_le _) (fun r_85 M_85 J_85 h_85 => ?_)
          obtain ⟨e1_85, e2_85, e3_85⟩ := h_85
          replace e1_85 := e1_85.symm
          replace e2_85 := e2_85.symm
          replace e3_85 := e3_85.symm
          subst e1_85 e2_85 e3_85
          have e9 := l_mf2 (u := u) hlt h60 (fun v => ih (k + 1) v (by omega) (by omega))
          rw [bI_cong (p := fitS u (M 55 k)) (q := 48 ≤ M 55 k ∧ M 55 k ≤ 57) ⟨fun q => by
            rcases q with ⟨q, -⟩ | ⟨-, q, -⟩ | ⟨-, -, q⟩
            · exact absurd q c_20
            · exact absurd q c_52
            · exact q, fun q => Or.inr (Or.inr ⟨c_20, c_52, q⟩)⟩] at e9
          exact e9
        · refine v_iload_n (pc := 55) dX7_faultOf_55 rfl ?_
          refine v_bipush (pc := 56) (v := 94) (by decide) dX7_faultOf_56 ?_
          refine v_icmp_eq (pc := 58) (tgt := 72) dX7_faultOf_58 (by decide) (fun c_58 => ?_) (fun c_58 => ?_)
          · refine v_iconst (pc := 72) (v := 1) (by decide) dX7_faultOf_72 ?_
            refine v_goto (pc := 73) (tgt := 88) dX7_faultOf_73 (by decide) ?_
            have e9 := l_mf2 (u := u) hlt h60 (fun v => ih (k + 1) v (by omega) (by omega))
            rw [← bI_t (p := fitS u (M 55 k)) (Or.inr (Or.inl ⟨c_20, c_52, Or.inl c_58⟩))] at e9
            exact e9
          · refine v_iload_n (pc := 61) dX7_faultOf_61 rfl ?_
            refine v_bipush (pc := 62) (v := 49) (by decide) dX7_faultOf_62 ?_
            refine v_bipush (pc := 64) (v := 57) (by decide) dX7_faultOf_64 ?_
            refine v_cS3i (pc := 66) dX7_faultOf_66 mkX7_49 m_in (Nat.le_of_ble_eq_true rfl) rfl (Nat.zero_le _) (Nat.zero_le _) (fun r_66 M_66 J_66 h_66 => ?_)
            obtain ⟨e1_66, e2_66, e3_66⟩ := h_66
            replace e1_66 := e1_66.symm
            replace e2_66 := e2_66.symm
            replace e3_66 := e3_66.symm
            subst e1_66 e2_66 e3_66
            refine v_if_eq (pc := 69) (tgt := 76) dX7_faultOf_69 (by decide) (fun c_69 => ?_) (fun c_69 => ?_)
            · refine v_iconst (pc := 76) (v := 0) (by decide) dX7_faultOf_76 ?_
              refine v_goto (pc := 77) (tgt := 88) dX7_faultOf_77 (by decide) ?_
              have e9 := l_mf2 (u := u) hlt h60 (fun v => ih (k + 1) v (by omega) (by omega))
              rw [← bI_f (p := fitS u (M 55 k)) (fun q => by
                rcases q with ⟨q, -⟩ | ⟨-, -, q | q⟩ | ⟨-, q, -⟩
                · exact c_20 q
                · exact c_58 q
                · exact bI_0.mp c_69 q
                · exact q c_52)] at e9
              exact e9
            · refine v_iconst (pc := 72) (v := 1) (by decide) dX7_faultOf_72 ?_
              refine v_goto (pc := 73) (tgt := 88) dX7_faultOf_73 (by decide) ?_
              have e9 := l_mf2 (u := u) hlt h60 (fun v => ih (k + 1) v (by omega) (by omega))
              rw [← bI_t (p := fitS u (M 55 k)) (Or.inr (Or.inl ⟨c_20, c_52, Or.inr (bI_n0.mp c_69)⟩))] at e9
              exact e9
      · refine v_iload_n (pc := 23) dX7_faultOf_23 rfl ?_
        refine v_cS1i (pc := 24) dX7_faultOf_24 mkX7_71 m_letter (Nat.le_of_ble_eq_true rfl) rfl (Nat.zero_le _) (Nat.zero_le _) (fun r_24 M_24 J_24 h_24 => ?_)
        obtain ⟨e1_24, e2_24, e3_24⟩ := h_24
        replace e1_24 := e1_24.symm
        replace e2_24 := e2_24.symm
        replace e3_24 := e3_24.symm
        subst e1_24 e2_24 e3_24
        refine v_if_ne (pc := 27) (tgt := 42) dX7_faultOf_27 (by decide) (fun c_27 => ?_) (fun c_27 => ?_)
        · refine v_iconst (pc := 42) (v := 1) (by decide) dX7_faultOf_42 ?_
          refine v_goto (pc := 43) (tgt := 88) dX7_faultOf_43 (by decide) ?_
          have e9 := l_mf2 (u := u) hlt h60 (fun v => ih (k + 1) v (by omega) (by omega))
          rw [← bI_t (p := fitS u (M 55 k)) (Or.inl ⟨c_20, Or.inl (bI_n0.mp c_27)⟩)] at e9
          exact e9
        · refine v_iload_n (pc := 30) dX7_faultOf_30 rfl ?_
          refine v_bipush (pc := 31) (v := 126) (by decide) dX7_faultOf_31 ?_
          refine v_icmp_eq (pc := 33) (tgt := 42) dX7_faultOf_33 (by decide) (fun c_33 => ?_) (fun c_33 => ?_)
          · refine v_iconst (pc := 42) (v := 1) (by decide) dX7_faultOf_42 ?_
            refine v_goto (pc := 43) (tgt := 88) dX7_faultOf_43 (by decide) ?_
            have e9 := l_mf2 (u := u) hlt h60 (fun v => ih (k + 1) v (by omega) (by omega))
            rw [← bI_t (p := fitS u (M 55 k)) (Or.inl ⟨c_20, Or.inr (Or.inl c_33)⟩)] at e9
            exact e9
          · refine v_iload_n (pc := 36) dX7_faultOf_36 rfl ?_
            refine v_bipush (pc := 37) (v := 46) (by decide) dX7_faultOf_37 ?_
            refine v_icmp_ne (pc := 39) (tgt := 46) dX7_faultOf_39 (by decide) (fun c_39 => ?_) (fun c_39 => ?_)
            · refine v_iconst (pc := 46) (v := 0) (by decide) dX7_faultOf_46 ?_
              refine v_goto (pc := 47) (tgt := 88) dX7_faultOf_47 (by decide) ?_
              have e9 := l_mf2 (u := u) hlt h60 (fun v => ih (k + 1) v (by omega) (by omega))
              rw [← bI_f (p := fitS u (M 55 k)) (fun q => by
                rcases q with ⟨-, q | q | q⟩ | ⟨q, -⟩ | ⟨q, -⟩
                · exact bI_0.mp c_27 q
                · exact c_33 q
                · exact c_39 q
                · exact q c_20
                · exact q c_20)] at e9
              exact e9
            · refine v_iconst (pc := 42) (v := 1) (by decide) dX7_faultOf_42 ?_
              refine v_goto (pc := 43) (tgt := 88) dX7_faultOf_43 (by decide) ?_
              have e9 := l_mf2 (u := u) hlt h60 (fun v => ih (k + 1) v (by omega) (by omega))
              rw [← bI_t (p := fitS u (M 55 k)) (Or.inl ⟨c_20, Or.inr (Or.inr c_39)⟩)] at e9
              exact e9
    · obtain rfl : k = n := by omega
      refine v_iload_n (pc := 4) dX7_faultOf_4 rfl ?_
      refine v_aload_n (pc := 5) dX7_faultOf_5 rfl ?_
      refine v_getI (pc := 6) fkX7_68 ly49 rfl dX7_faultOf_6 ?_
      refine v_icmp_ge (pc := 9) (tgt := 129) dX7_faultOf_9 (by decide) (fun c_9 => ?_) (fun c_9 => absurd (by rw [hn]; exact nI_le (Nat.le_refl _) (by omega)) c_9)
      refine v_iload_n (pc := 129) dX7_faultOf_129 rfl ?_
      refine v_if_ne (pc := 130) (tgt := 138) dX7_faultOf_130 (by decide) (fun c_130 => ?_) (fun c_130 => ?_)
      · refine v_aload_n (pc := 138) dX7_faultOf_138 rfl ?_
        refine v_getI (pc := 139) fkX7_68 ly49 rfl dX7_faultOf_139 ?_
        refine v_iret (pc := 142) dX7_faultOf_142 (Nat.zero_le _) (Nat.zero_le _) ?_
        exact ⟨by rw [mFl, if_neg (Nat.lt_irrefl k), if_neg c_130]; exact hn, rfl, rfl⟩
      · refine v_bipush (pc := 133) (v := (-6)) (by decide) dX7_faultOf_133 ?_
        refine v_goto (pc := 135) (tgt := 142) dX7_faultOf_135 (by decide) ?_
        refine v_iret (pc := 142) dX7_faultOf_142 (Nat.zero_le _) (Nat.zero_le _) ?_
        exact ⟨by rw [mFl, if_neg (Nat.lt_irrefl k), if_pos c_130], rfl, rfl⟩

set_option maxRecDepth 100000 in
set_option maxHeartbeats 4000000 in
theorem m_faultOf {n : Nat} {M : mM} {J : mJ} (hn : M 49 8 = nI n) (h60 : n ≤ 60) : Ct yX7_faultOf cX7_faultOf 5 (some .int) (rmD 2) false [.ref 49] LY M J (mNi LY (fun r0 M1 J1 => r0 = mFl (M 55) n 61 0 0 ∧ M1 = M ∧ J1 = J)) := by
  refine ct_of (own := RX7) (ini := false) (ls := [some (.ref 49), none, none, none, none]) 4 (by decide +kernel) rfl (fun h => by cases h) rfl (fun ad => by first | exact Nat.le_of_ble_eq_true rfl) ?_
  refine v_iconst (pc := 0) (v := 0) (by decide) dX7_faultOf_0 ?_
  refine v_ist_1 (pc := 1) dX7_faultOf_1 (by decide) rfl ?_
  refine v_iconst (pc := 2) (v := 0) (by decide) dX7_faultOf_2 ?_
  refine v_ist_2 (pc := 3) dX7_faultOf_3 (by decide) rfl ?_
  exact l_mf hn h60 61 0 0 (by omega) (by omega)

set_option maxRecDepth 100000 in
set_option maxHeartbeats 4000000 in
theorem m_fault {n : Nat} {M : mM} {J : mJ} (hn : M 49 8 = nI n) (h60 : n ≤ 60) : Ct yX7_fault cX7_fault 1 (some .int) (rmD 3) false [.ref 49] LY M J (mNi LY (fun r0 M1 J1 => r0 = mFl (M 55) n 61 0 0 ∧ M1 = M ∧ J1 = J)) := by
  refine ct_of (own := RX7) (ini := false) (ls := [some (.ref 49)]) 0 (by decide +kernel) rfl (fun h => by cases h) rfl (fun ad => by first | exact Nat.le_of_ble_eq_true rfl) ?_
  refine v_aload_n (pc := 0) dX7_fault_0 rfl ?_
  refine v_cV0i (pc := 1) dX7_fault_1 mkX7_74 (m_faultOf hn h60) ly49 rfl (Nat.le_of_ble_eq_true rfl) rfl (Nat.zero_le _) (Nat.zero_le _) (fun r_1 M_1 J_1 h_1 => ?_)
  obtain ⟨e1_1, e2_1, e3_1⟩ := h_1
  replace e1_1 := e1_1.symm
  replace e2_1 := e2_1.symm
  replace e3_1 := e3_1.symm
  subst e1_1 e2_1 e3_1
  refine v_iret (pc := 4) dX7_fault_4 (Nat.zero_le _) (Nat.zero_le _) ?_
  exact ⟨rfl, rfl, rfl⟩

/-- bubbles in now -/
def WN (M : mM) : Prop := ∃ nb : Nat, M 54 10 = nI nb ∧ nb ≤ 32
def nbN (M : mM) : Nat := (M 54 10).toNatClampNeg
def nActW (M : mM) (x y : Int32) : Int32 := if x = 46 then (if M 54 8 = 99 then 4 else 0) else if x = 126 then 0 else if y = 94 then (if bt (M 54 7) (x - 65) then 0 else 1) else nWhy (M 54) (x - 65).toNatClampNeg (y - 48)
def nActM (M : mM) (x y : Int32) : mM := if x = 46 then nPass M else if x = 126 then mU M 54 9 (y - 48) else if y = 94 then mU M 54 7 (M 54 7 &&& nbit (x - 65)) else (if nWhy (M 54) (x - 65).toNatClampNeg (y - 48) = 0 then nBub M (nbN M) (x - 65).toNatClampNeg (y - 48) else M)
theorem nstN_ne {M : mM} {a : Nat} (h : a ≠ 54) : ∀ n, nsN M n a = M a
  | 0 => rfl
  | n + 1 => by
    rw [show nsN M (n + 1) = nst (nsN M n) n from rfl]
    unfold nst
    split
    · split
      · rw [mU_neA h, nstN_ne h n]
      · rw [mU_neA h, nstN_ne h n]
    · exact nstN_ne h n
theorem nPass_ne {M : mM} {a : Nat} (h : a ≠ 54) : nPass M a = M a := by
  unfold nPass
  split
  · rfl
  · rw [mU_neA h, nstN_ne h]
theorem nBub_ne {M : mM} {nb k : Nat} {z : Int32} {a : Nat} (h : a ≠ 54) : nBub M nb k z a = M a := by
  unfold nBub
  rw [mU_neA h, mU_neA h, mU_neA h, mU_neA h, mU_neA h]
theorem nActM_ne {M : mM} {x y : Int32} {a : Nat} (h : a ≠ 54) : nActM M x y a = M a := by
  unfold nActM
  split
  · exact nPass_ne h
  split
  · exact mU_neA h
  split
  · exact mU_neA h
  split
  · exact nBub_ne h
  · rfl
/-- a sitting on now, from sign a on: what stands behind it (49 10 the reason, 49 11 the acts), and its answer -/
def mRun (S : Nat → Int32) (n : Nat) : Nat → Nat → mM → Int32 × mM
  | 0, _, M => (-6, M)
  | f + 1, a, M => if a < n then
      (if 0 < nActW M (S a) (S (a + 1)) then (M 49 11, mU (nActM (mU M 49 10 0) (S a) (S (a + 1))) 49 10 (nActW M (S a) (S (a + 1))))
       else mRun S n f (if S a = 46 then a + 1 else a + 2) (mU (mU (nActM (mU M 49 10 0) (S a) (S (a + 1))) 49 10 (nActW M (S a) (S (a + 1)))) 49 11 (M 49 11 + 1))) else (-6, M)
theorem WN_cong {M M' : mM} (h : M' 54 = M 54) (w : WN M) : WN M' := by
  obtain ⟨nb, h1, h2⟩ := w
  exact ⟨nb, by rw [h]; exact h1, h2⟩
theorem nsN_10 {M : mM} : ∀ n, n ≤ 7 → nsN M n 54 10 = M 54 10
  | 0, _ => rfl
  | n + 1, h => by
    rw [show nsN M (n + 1) = nst (nsN M n) n from rfl]
    unfold nst
    split
    · split
      · rw [show mU (nsN M n) 54 7 (nsN M n 54 7 &&& nbit (nI n)) 54 10 = nsN M n 54 10 from rfl]
        exact nsN_10 n (by omega)
      · rw [show mU (nsN M n) 54 n (nsN M n 54 n - 1) 54 10 = nsN M n 54 10 by simp only [mU]; rw [if_neg (by omega)]]
        exact nsN_10 n (by omega)
    · exact nsN_10 n (by omega)
theorem nBub_10 {M : mM} {nb k : Nat} {z : Int32} (hk : k < 7) : nBub M nb k z 54 10 = nI (nb + 1) := by
  unfold nBub
  have h1 : ¬ 10 = k := by omega
  simp [mU, h1]
theorem nWhy_n {N : Nat → Int32} {k : Nat} {z : Int32} (h : nWhy N k z = 0) : ¬ N 10 = 32 := by
  unfold nWhy at h
  split at h
  · split at h
    · split at h
      · exact absurd h (by decide)
      · assumption
    · exact absurd h (by decide)
  · exact absurd h (by decide)
theorem WN_act {M : mM} {x y : Int32} (hok : okS x y) (w : WN M) : WN (nActM M x y) := by
  obtain ⟨nb, h1, h2⟩ := w
  unfold nActM
  split
  · refine ⟨nb, ?_, h2⟩
    unfold nPass
    split
    · exact h1
    · rw [show mU (nsN M 7) 54 8 (nsN M 7 54 8 + 1) 54 10 = nsN M 7 54 10 from rfl, nsN_10 7 (by omega), h1]
  split
  · exact ⟨nb, h1, h2⟩
  split
  · exact ⟨nb, h1, h2⟩
  split
  · next a b c d =>
    obtain ⟨k, hk, hx⟩ := okS_k hok a b
    have hn := nWhy_n d
    rw [h1] at hn
    have : nb < 32 := Nat.lt_of_le_of_ne h2 (fun q => hn (by rw [q]; rfl))
    refine ⟨nbN M + 1, ?_, ?_⟩
    · rw [nBub_10 (by rw [hx, nI_clamp (by omega)]; exact hk)]
    · unfold nbN
      rw [h1, nI_clamp (by omega)]
      omega
  · exact ⟨nb, h1, h2⟩

set_option maxRecDepth 100000 in
set_option maxHeartbeats 400000 in
theorem l_go2 {n f a b : Nat} {S : Nat → Int32} {M : mM} {J : mJ} {l2 l3 : Option Value} (hlt : a < n) (hb : b + 1 = (if S a = 46 then a + 1 else a + 2)) (ih : V RX7 cX7_goSitting 4 (some .int) false (rmD 3) false LY.length none (mNi LY (fun r0 M1 J1 => r0 = (mRun S n f (b + 1) (mU (mU (nActM (mU M 49 10 0) (S a) (S (a + 1))) 49 10 (nActW M (S a) (S (a + 1)))) 49 11 (M 49 11 + 1))).1 ∧ M1 = (mRun S n f (b + 1) (mU (mU (nActM (mU M 49 10 0) (S a) (S (a + 1))) 49 10 (nActW M (S a) (S (a + 1)))) 49 11 (M 49 11 + 1))).2 ∧ J1 = J)) 0 0 11 [some (.ref 49), some (.int (nI (b + 1))), none, none] [] LY (mU (mU (nActM (mU M 49 10 0) (S a) (S (a + 1))) 49 10 (nActW M (S a) (S (a + 1)))) 49 11 (M 49 11 + 1)) J) : V RX7 cX7_goSitting 4 (some .int) false (rmD 3) false LY.length none (mNi LY (fun r0 M1 J1 => r0 = (mRun S n (f + 1) a M).1 ∧ M1 = (mRun S n (f + 1) a M).2 ∧ J1 = J)) 0 0 175 [some (.ref 49), some (.int (nI b)), l2, l3] [] LY (mU (nActM (mU M 49 10 0) (S a) (S (a + 1))) 49 10 (nActW M (S a) (S (a + 1)))) J := by
  have e10 : (mU (nActM (mU M 49 10 0) (S a) (S (a + 1))) 49 10 (nActW M (S a) (S (a + 1)))) 49 10 = nActW M (S a) (S (a + 1)) := by simp [mU]
  have e11 : (mU (nActM (mU M 49 10 0) (S a) (S (a + 1))) 49 10 (nActW M (S a) (S (a + 1)))) 49 11 = M 49 11 := by
    simp only [mU]
    rw [if_neg (by omega), nActM_ne (by decide)]
    rfl
  refine v_aload_n (pc := 175) dX7_goSitting_175 rfl ?_
  refine v_getI (pc := 176) fkX7_87 ly49 rfl dX7_goSitting_176 ?_
  rw [e10]
  refine v_if_le (pc := 179) (tgt := 187) dX7_goSitting_179 (by decide) (fun c_179 => ?_) (fun c_179 => ?_)
  · refine v_inc_1 (pc := 187) (v := 1) dX7_goSitting_187 (by decide) (by decide) rfl ?_
    refine v_aload_n (pc := 190) dX7_goSitting_190 rfl ?_
    refine v_dupR (pc := 191) dX7_goSitting_191 ?_
    refine v_getI (pc := 192) fkX7_84 ly49 rfl dX7_goSitting_192 ?_
    rw [e11]
    refine v_iconst (pc := 195) (v := 1) (by decide) dX7_goSitting_195 ?_
    refine v_iadd (pc := 196) dX7_goSitting_196 ?_
    refine v_putI (pc := 197) fkX7_84p ly49 rfl dX7_goSitting_197 ?_
    refine v_goto (pc := 200) (tgt := 11) dX7_goSitting_200 (by decide) ?_
    refine v_fg_2 (v_fg_3 ?_)
    rw [nI_1]
    refine V.mono (fun o a b c q => ?_) ih
    rw [mRun, if_pos hlt, if_neg (Int32.not_lt.mpr c_179), ← hb]
    exact q
  · refine v_aload_n (pc := 182) dX7_goSitting_182 rfl ?_
    refine v_getI (pc := 183) fkX7_84 ly49 rfl dX7_goSitting_183 ?_
    rw [e11]
    refine v_iret (pc := 186) dX7_goSitting_186 (Nat.zero_le _) (Nat.zero_le _) ?_
    exact ⟨by rw [mRun, if_pos hlt, if_pos (Int32.not_le.mp c_179)], by rw [mRun, if_pos hlt, if_pos (Int32.not_le.mp c_179)], rfl⟩

theorem mU_10 {M : mM} {r v : Int32} {j : Nat} : mU (mU M 49 j r) 49 j v = mU M 49 j v := by
  funext a b
  simp only [mU]
  split
  · rfl
  · rfl
theorem mU_sw {M : mM} {r s i j : Nat} {u v : Int32} (h : r ≠ s) : mU (mU M r i u) s j v = mU (mU M s j v) r i u := by
  funext a b
  simp only [mU]
  by_cases h1 : a = r ∧ b = i
  · rw [if_pos h1, if_pos h1, if_neg (fun q => h (h1.1.symm.trans q.1))]
  · rw [if_neg h1, if_neg h1]
theorem mU_idem {M : mM} {r j : Nat} {v : Int32} (h : M r j = v) : mU M r j v = M := by
  funext a b
  simp only [mU]
  split
  · next q => rw [q.1, q.2, h]
  · rfl

theorem okS_z {x y : Int32} (h : okS x y) (h1 : ¬ x = 46) (h2 : ¬ x = 126) (h3 : ¬ y = 94) : ∃ z, 1 ≤ z ∧ z ≤ 9 ∧ y = nI (48 + z) := by
  rcases h with h | h | ⟨k, hk, -, h | h⟩
  · exact absurd h h1
  · exact absurd h.1 h2
  · exact absurd h h3
  · exact h
theorem WN_actX {S : Nat → Int32} {n a : Nat} {M : mM} (h : okS (S a) (sg S (a + 1))) (h2 : ¬ S a = 46 → a + 1 < n) (hn : n ≤ 60) (w : WN M) : WN (nActM (mU M 49 10 0) (S a) (S (a + 1))) := by
  have w' : WN (mU M 49 10 0) := WN_cong (by rw [mU_neA (by decide)]) w
  by_cases h46 : S a = 46
  · exact WN_act (Or.inl h46) w'
  · have := h2 h46
    rw [sg_in (show a + 1 ≤ 59 by omega)] at h
    exact WN_act h w'

set_option maxRecDepth 100000 in
set_option maxHeartbeats 400000 in
theorem l_go {n : Nat} {S : Nat → Int32} {J : mJ} (h60 : n ≤ 60) : ∀ (f a : Nat) (M : mM), a ≤ n → n - a < f → M 49 8 = nI n → M 55 = S → WN M → cFl S n f a = -6 → V RX7 cX7_goSitting 4 (some .int) false (rmD 3) false LY.length none (mNi LY (fun r0 M1 J1 => r0 = (mRun S n f a M).1 ∧ M1 = (mRun S n f a M).2 ∧ J1 = J)) 0 0 11 [some (.ref 49), some (.int (nI a)), none, none] [] LY M J := by
  intro f
  induction f with
  | zero => intro a M h1 h2; omega
  | succ f ih =>
    intro a M h1 h2 hn hS hwf hok
    have hcl := nI_clamp (show a < 2 ^ 31 by omega)
    have hcl1 := nI_clamp (show a + 1 < 2 ^ 31 by omega)
    rcases Nat.lt_or_ge a n with hlt | hge
    · obtain ⟨ok1, ok2, ok3⟩ := cFl_tok h60 hlt hok
      have hWx : WN (mU (mU (nActM (mU M 49 10 0) (S a) (S (a + 1))) 49 10 (nActW M (S a) (S (a + 1)))) 49 11 (M 49 11 + 1)) := WN_cong (by rw [mU_neA (by decide), mU_neA (by decide)]) (WN_actX ok1 ok3 h60 hwf)
      have hnx : (mU (mU (nActM (mU M 49 10 0) (S a) (S (a + 1))) 49 10 (nActW M (S a) (S (a + 1)))) 49 11 (M 49 11 + 1)) 49 8 = nI n := by
        simp only [mU]
        rw [if_neg (by omega), if_neg (by omega), nActM_ne (by decide), ← hn]
        rfl
      have hSx : (mU (mU (nActM (mU M 49 10 0) (S a) (S (a + 1))) 49 10 (nActW M (S a) (S (a + 1)))) 49 11 (M 49 11 + 1)) 55 = S := by rw [mU_neA (by decide), mU_neA (by decide), nActM_ne (by decide), mU_neA (by decide), hS]
      refine v_iload_n (pc := 11) dX7_goSitting_11 rfl ?_
      refine v_aload_n (pc := 12) dX7_goSitting_12 rfl ?_
      refine v_getI (pc := 13) fkX7_68 ly49 rfl dX7_goSitting_13 ?_
      refine v_icmp_ge (pc := 16) (tgt := 203) dX7_goSitting_16 (by decide) (fun c_16 => absurd c_16 (by rw [hn]; exact nI_ge hlt (by omega))) (fun c_16 => ?_)
      refine v_aload_n (pc := 19) dX7_goSitting_19 rfl ?_
      refine v_getR (pc := 20) fkX7_29 ly49 rfl dX7_goSitting_20 ?_
      refine v_iload_n (pc := 23) dX7_goSitting_23 rfl ?_
      refine v_iald (pc := 24) ly55 ?_ dX7_goSitting_24 ?_
      · exact vp_in_nI (show a < 60 by omega) (by omega)
      rw [hcl, hS]
      refine v_ist_2 (pc := 25) dX7_goSitting_25 (by decide) rfl ?_
      refine v_aload_n (pc := 26) dX7_goSitting_26 rfl ?_
      refine v_iconst (pc := 27) (v := 0) (by decide) dX7_goSitting_27 ?_
      refine v_putI (pc := 28) fkX7_87p ly49 rfl dX7_goSitting_28 ?_
      refine v_iload_n (pc := 31) dX7_goSitting_31 rfl ?_
      refine v_bipush (pc := 32) (v := 46) (by decide) dX7_goSitting_32 ?_
      refine v_icmp_ne (pc := 34) (tgt := 48) dX7_goSitting_34 (by decide) (fun c_34 => ?_) (fun c_34 => ?_)
      · refine v_iload_n (pc := 48) dX7_goSitting_48 rfl ?_
        refine v_bipush (pc := 49) (v := 126) (by decide) dX7_goSitting_49 ?_
        refine v_icmp_ne (pc := 51) (tgt := 76) dX7_goSitting_51 (by decide) (fun c_51 => ?_) (fun c_51 => ?_)
        · have h9 := ok3 c_34
          have ih1 := ih (a + 2) _ (by omega) (by omega) hnx hSx hWx (by rw [if_neg c_34] at ok2; exact ok2)
          obtain ⟨k, hk, hx⟩ := okS_k ok1 c_34 c_51
          refine v_inc_1 (pc := 76) (v := 1) dX7_goSitting_76 (by decide) (by decide) rfl ?_
          rw [nI_1]
          refine v_iload_n (pc := 79) dX7_goSitting_79 rfl ?_
          refine v_bipush (pc := 80) (v := 65) (by decide) dX7_goSitting_80 ?_
          refine v_isub (pc := 82) dX7_goSitting_82 ?_
          refine v_ist_3 (pc := 83) dX7_goSitting_83 (by decide) rfl ?_
          refine v_aload_n (pc := 84) dX7_goSitting_84 rfl ?_
          refine v_getR (pc := 85) fkX7_29 ly49 rfl dX7_goSitting_85 ?_
          refine v_iload_n (pc := 88) dX7_goSitting_88 rfl ?_
          refine v_iald (pc := 89) ly55 ?_ dX7_goSitting_89 ?_
          · exact vp_in_nI (show a + 1 < 60 by omega) (by omega)
          rw [hcl1, mU_neA (show (55 : Nat) ≠ 49 by decide), hS]
          refine v_bipush (pc := 90) (v := 94) (by decide) dX7_goSitting_90 ?_
          refine v_icmp_ne (pc := 92) (tgt := 136) dX7_goSitting_92 (by decide) (fun c_92 => ?_) (fun c_92 => ?_)
          · refine v_aload_n (pc := 136) dX7_goSitting_136 rfl ?_
            refine v_aload_n (pc := 137) dX7_goSitting_137 rfl ?_
            refine v_iload_n (pc := 138) dX7_goSitting_138 rfl ?_
            refine v_aload_n (pc := 139) dX7_goSitting_139 rfl ?_
            refine v_getR (pc := 140) fkX7_29 ly49 rfl dX7_goSitting_140 ?_
            refine v_iload_n (pc := 143) dX7_goSitting_143 rfl ?_
            refine v_iald (pc := 144) ly55 ?_ dX7_goSitting_144 ?_
            · exact vp_in_nI (show a + 1 < 60 by omega) (by omega)
            rw [hcl1, mU_neA (show (55 : Nat) ≠ 49 by decide), hS]
            refine v_bipush (pc := 145) (v := 48) (by decide) dX7_goSitting_145 ?_
            refine v_isub (pc := 147) dX7_goSitting_147 ?_
            rw [hx]
            refine v_cV2i (pc := 148) dX7_goSitting_148 mkX7_93 (m_why hk) ly49 rfl (Nat.le_of_ble_eq_true rfl) rfl (Nat.zero_le _) (Nat.zero_le _) (fun r_148 M_148 J_148 h_148 => ?_)
            obtain ⟨e1_148, e2_148, e3_148⟩ := h_148
            replace e1_148 := e1_148.symm
            replace e2_148 := e2_148.symm
            replace e3_148 := e3_148.symm
            subst e1_148 e2_148 e3_148
            refine v_putI (pc := 151) fkX7_87p ly49 rfl dX7_goSitting_151 ?_
            refine v_aload_n (pc := 154) dX7_goSitting_154 rfl ?_
            refine v_getI (pc := 155) fkX7_87 ly49 rfl dX7_goSitting_155 ?_
            refine v_if_ne (pc := 158) (tgt := 175) dX7_goSitting_158 (by decide) (fun c_158 => ?_) (fun c_158 => ?_)
            · have e158 : nWhy (mU M 49 10 0 54) k (S (a + 1) - 48) = nWhy (M 54) k (S (a + 1) - 48) := by rw [mU_neA (show (54 : Nat) ≠ 49 by decide)]
              have hW : nActW M (S a) (S (a + 1)) = nWhy (M 54) k (S (a + 1) - 48) := by unfold nActW; rw [if_neg c_34, if_neg c_51, if_neg c_92, hx, nI_clamp (by omega)]
              rw [e158, mU_10] at c_158
              rw [show mU M 49 10 (nWhy (M 54) k (S (a + 1) - 48)) 49 10 = nWhy (M 54) k (S (a + 1) - 48) by simp [mU]] at c_158
              have hM : nActM (mU M 49 10 0) (S a) (S (a + 1)) = mU M 49 10 0 := by unfold nActM; rw [if_neg c_34, if_neg c_51, if_neg c_92, hx, nI_clamp (by omega), e158, if_neg c_158]
              have e9 := l_go2 (b := a + 1) (l2 := some (.int (S a))) (l3 := some (.int (nI k))) hlt (by rw [if_neg c_34]) ih1
              rw [hM, hW] at e9
              rw [e158]
              exact e9
            · have e158 : nWhy (mU M 49 10 0 54) k (S (a + 1) - 48) = nWhy (M 54) k (S (a + 1) - 48) := by rw [mU_neA (show (54 : Nat) ≠ 49 by decide)]
              rw [e158, mU_10] at c_158
              rw [show mU M 49 10 (nWhy (M 54) k (S (a + 1) - 48)) 49 10 = nWhy (M 54) k (S (a + 1) - 48) by simp [mU]] at c_158
              obtain ⟨z, hz1, hz9, hz⟩ := okS_z ok1 c_34 c_51 (by rw [sg_in (show a + 1 ≤ 59 by omega)]; exact c_92)
              rw [sg_in (show a + 1 ≤ 59 by omega)] at hz
              have hz1 : 1 ≤ S (a + 1) - 48 := by
                rw [hz, show nI (48 + z) - 48 = nI z by rw [show nI (48 + z) - 48 = nI (48 + z) - nI 48 from rfl, pk_sub (by omega), show 48 + z - 48 = z by omega]]
                exact nI_le (a := 1) hz1 (by omega)
              obtain ⟨nb, hnb, hnb32⟩ := hwf
              have hnn := nWhy_n c_158
              have hnb1 : mU M 49 10 0 54 10 = nI (nbN (mU M 49 10 0)) := by
                unfold nbN
                rw [mU_neA (show (54 : Nat) ≠ 49 by decide), hnb, nI_clamp (by omega)]
              have hnb2 : nbN (mU M 49 10 0) < 32 := by
                unfold nbN
                rw [mU_neA (show (54 : Nat) ≠ 49 by decide), hnb, nI_clamp (by omega)]
                rw [hnb] at hnn
                exact Nat.lt_of_le_of_ne hnb32 (fun q => hnn (by rw [q]; rfl))
              refine v_aload_n (pc := 161) dX7_goSitting_161 rfl ?_
              refine v_iload_n (pc := 162) dX7_goSitting_162 rfl ?_
              refine v_aload_n (pc := 163) dX7_goSitting_163 rfl ?_
              refine v_getR (pc := 164) fkX7_29 ly49 rfl dX7_goSitting_164 ?_
              refine v_iload_n (pc := 167) dX7_goSitting_167 rfl ?_
              refine v_iald (pc := 168) ly55 ?_ dX7_goSitting_168 ?_
              · exact vp_in_nI (show a + 1 < 60 by omega) (by omega)
              rw [hcl1, mU_10, mU_neA (show (55 : Nat) ≠ 49 by decide), hS]
              refine v_bipush (pc := 169) (v := 48) (by decide) dX7_goSitting_169 ?_
              refine v_isub (pc := 171) dX7_goSitting_171 ?_
              rw [e158, c_158]
              refine v_cV2v (pc := 172) dX7_goSitting_172 mkX7_97 (m_bubble (nb := nbN (mU M 49 10 0)) hk hz1 hnb1 hnb2) ly49 rfl (Nat.le_of_ble_eq_true rfl) rfl (Nat.zero_le _) (Nat.zero_le _) (fun M_172 J_172 h_172 => ?_)
              obtain ⟨e2_172, e3_172⟩ := h_172
              replace e2_172 := e2_172.symm
              replace e3_172 := e3_172.symm
              subst e2_172 e3_172
              have hW : nActW M (S a) (S (a + 1)) = nWhy (M 54) k (S (a + 1) - 48) := by unfold nActW; rw [if_neg c_34, if_neg c_51, if_neg c_92, hx, nI_clamp (by omega)]
              have hM : nActM (mU M 49 10 0) (S a) (S (a + 1)) = nBub (mU M 49 10 0) (nbN (mU M 49 10 0)) k (S (a + 1) - 48) := by
                unfold nActM
                rw [if_neg c_34, if_neg c_51, if_neg c_92, hx, nI_clamp (by omega), e158, if_pos c_158]
              have e9 := l_go2 (b := a + 1) (l2 := some (.int (S a))) (l3 := some (.int (nI k))) hlt (by rw [if_neg c_34]) ih1
              rw [hM, hW, c_158] at e9
              rw [mU_idem (show nBub (mU M 49 10 0) (nbN (mU M 49 10 0)) k (S (a + 1) - 48) 49 10 = 0 by rw [nBub_ne (by decide)]; simp [mU])] at e9
              exact e9
          · refine v_aload_n (pc := 95) dX7_goSitting_95 rfl ?_
            refine v_aload_n (pc := 96) dX7_goSitting_96 rfl ?_
            refine v_getR (pc := 97) fkX7_26 ly49 rfl dX7_goSitting_97 ?_
            refine v_bipush (pc := 100) (v := 7) (by decide) dX7_goSitting_100 ?_
            refine v_iald (pc := 102) ly54 ?_ dX7_goSitting_102 ?_
            · unfold vp_in; decide
            rw [show Int32.toNatClampNeg 7 = 7 from rfl]
            refine v_iload_n (pc := 103) dX7_goSitting_103 rfl ?_
            refine v_cS2i (pc := 104) dX7_goSitting_104 mkX7_56 m_has (Nat.le_of_ble_eq_true rfl) rfl (Nat.zero_le _) (Nat.zero_le _) (fun r_104 M_104 J_104 h_104 => ?_)
            obtain ⟨e1_104, e2_104, e3_104⟩ := h_104
            replace e1_104 := e1_104.symm
            replace e2_104 := e2_104.symm
            replace e3_104 := e3_104.symm
            subst e1_104 e2_104 e3_104
            refine v_if_eq (pc := 107) (tgt := 114) dX7_goSitting_107 (by decide) (fun c_107 => ?_) (fun c_107 => ?_)
            · refine v_iconst (pc := 114) (v := 1) (by decide) dX7_goSitting_114 ?_
              refine v_putI (pc := 115) fkX7_87p ly49 rfl dX7_goSitting_115 ?_
              refine v_aload_n (pc := 118) dX7_goSitting_118 rfl ?_
              refine v_getR (pc := 119) fkX7_26 ly49 rfl dX7_goSitting_119 ?_
              refine v_bipush (pc := 122) (v := 7) (by decide) dX7_goSitting_122 ?_
              refine v_dup2IR (pc := 124) dX7_goSitting_124 ?_
              refine v_iald (pc := 125) ly54 ?_ dX7_goSitting_125 ?_
              · unfold vp_in; decide
              rw [show Int32.toNatClampNeg 7 = 7 from rfl]
              refine v_iconst (pc := 126) (v := 1) (by decide) dX7_goSitting_126 ?_
              refine v_iload_n (pc := 127) dX7_goSitting_127 rfl ?_
              refine v_ishl (pc := 128) dX7_goSitting_128 ?_
              refine v_iconst (pc := 129) (v := (-1)) (by decide) dX7_goSitting_129 ?_
              refine v_ixor (pc := 130) dX7_goSitting_130 ?_
              refine v_iand (pc := 131) dX7_goSitting_131 ?_
              refine v_iast (pc := 132) ly54 ?_ dX7_goSitting_132 ?_
              · unfold vp_in; decide
              rw [show Int32.toNatClampNeg 7 = 7 from rfl]
              refine v_goto (pc := 133) (tgt := 175) dX7_goSitting_133 (by decide) ?_
              rw [mU_neA (show (54 : Nat) ≠ 49 by decide)] at c_107
              have hW : nActW M (S a) (S (a + 1)) = 1 := by unfold nActW; rw [if_neg c_34, if_neg c_51, if_pos c_92, if_neg (bI_0.mp c_107)]
              have hM : nActM (mU M 49 10 0) (S a) (S (a + 1)) = mU (mU M 49 10 0) 54 7 (M 54 7 &&& nbit (S a - 65)) := by unfold nActM; rw [if_neg c_34, if_neg c_51, if_pos c_92]; rfl
              have e9 := l_go2 (b := a + 1) (l2 := some (.int (S a))) (l3 := some (.int (S a - 65))) hlt (by rw [if_neg c_34]) ih1
              rw [hM, hW] at e9
              rw [mU_10, mU_neA (show (54 : Nat) ≠ 49 by decide), mU_sw (show (49 : Nat) ≠ 54 by decide)]
              rw [mU_sw (show (49 : Nat) ≠ 54 by decide), mU_10] at e9
              exact e9
            · refine v_iconst (pc := 110) (v := 0) (by decide) dX7_goSitting_110 ?_
              refine v_goto (pc := 111) (tgt := 115) dX7_goSitting_111 (by decide) ?_
              refine v_putI (pc := 115) fkX7_87p ly49 rfl dX7_goSitting_115 ?_
              refine v_aload_n (pc := 118) dX7_goSitting_118 rfl ?_
              refine v_getR (pc := 119) fkX7_26 ly49 rfl dX7_goSitting_119 ?_
              refine v_bipush (pc := 122) (v := 7) (by decide) dX7_goSitting_122 ?_
              refine v_dup2IR (pc := 124) dX7_goSitting_124 ?_
              refine v_iald (pc := 125) ly54 ?_ dX7_goSitting_125 ?_
              · unfold vp_in; decide
              rw [show Int32.toNatClampNeg 7 = 7 from rfl]
              refine v_iconst (pc := 126) (v := 1) (by decide) dX7_goSitting_126 ?_
              refine v_iload_n (pc := 127) dX7_goSitting_127 rfl ?_
              refine v_ishl (pc := 128) dX7_goSitting_128 ?_
              refine v_iconst (pc := 129) (v := (-1)) (by decide) dX7_goSitting_129 ?_
              refine v_ixor (pc := 130) dX7_goSitting_130 ?_
              refine v_iand (pc := 131) dX7_goSitting_131 ?_
              refine v_iast (pc := 132) ly54 ?_ dX7_goSitting_132 ?_
              · unfold vp_in; decide
              rw [show Int32.toNatClampNeg 7 = 7 from rfl]
              refine v_goto (pc := 133) (tgt := 175) dX7_goSitting_133 (by decide) ?_
              rw [mU_neA (show (54 : Nat) ≠ 49 by decide)] at c_107
              have hW : nActW M (S a) (S (a + 1)) = 0 := by unfold nActW; rw [if_neg c_34, if_neg c_51, if_pos c_92, if_pos (bI_n0.mp c_107)]
              have hM : nActM (mU M 49 10 0) (S a) (S (a + 1)) = mU (mU M 49 10 0) 54 7 (M 54 7 &&& nbit (S a - 65)) := by unfold nActM; rw [if_neg c_34, if_neg c_51, if_pos c_92]; rfl
              have e9 := l_go2 (b := a + 1) (l2 := some (.int (S a))) (l3 := some (.int (S a - 65))) hlt (by rw [if_neg c_34]) ih1
              rw [hM, hW] at e9
              rw [mU_10, mU_neA (show (54 : Nat) ≠ 49 by decide), mU_sw (show (49 : Nat) ≠ 54 by decide)]
              rw [mU_sw (show (49 : Nat) ≠ 54 by decide), mU_10] at e9
              exact e9
        · have h9 := ok3 c_34
          have ih1 := ih (a + 2) _ (by omega) (by omega) hnx hSx hWx (by rw [if_neg c_34] at ok2; exact ok2)
          refine v_inc_1 (pc := 54) (v := 1) dX7_goSitting_54 (by decide) (by decide) rfl ?_
          rw [nI_1]
          refine v_aload_n (pc := 57) dX7_goSitting_57 rfl ?_
          refine v_getR (pc := 58) fkX7_26 ly49 rfl dX7_goSitting_58 ?_
          refine v_bipush (pc := 61) (v := 9) (by decide) dX7_goSitting_61 ?_
          refine v_aload_n (pc := 63) dX7_goSitting_63 rfl ?_
          refine v_getR (pc := 64) fkX7_29 ly49 rfl dX7_goSitting_64 ?_
          refine v_iload_n (pc := 67) dX7_goSitting_67 rfl ?_
          refine v_iald (pc := 68) ly55 ?_ dX7_goSitting_68 ?_
          · exact vp_in_nI (show a + 1 < 60 by omega) (by omega)
          rw [hcl1, mU_neA (show (55 : Nat) ≠ 49 by decide), hS]
          refine v_bipush (pc := 69) (v := 48) (by decide) dX7_goSitting_69 ?_
          refine v_isub (pc := 71) dX7_goSitting_71 ?_
          refine v_iast (pc := 72) ly54 ?_ dX7_goSitting_72 ?_
          · unfold vp_in; decide
          rw [show Int32.toNatClampNeg 9 = 9 from rfl]
          refine v_goto (pc := 73) (tgt := 175) dX7_goSitting_73 (by decide) ?_
          have hW : nActW M (S a) (S (a + 1)) = 0 := by unfold nActW; rw [if_neg c_34, if_pos c_51]
          have hM : nActM (mU M 49 10 0) (S a) (S (a + 1)) = mU (mU M 49 10 0) 54 9 (S (a + 1) - 48) := by unfold nActM; rw [if_neg c_34, if_pos c_51]
          have e9 := l_go2 (b := a + 1) (l2 := some (.int (S a))) (l3 := none) hlt (by rw [if_neg c_34]) ih1
          rw [hM, hW, mU_idem (show mU (mU M 49 10 0) 54 9 (S (a + 1) - 48) 49 10 = 0 by simp [mU])] at e9
          exact e9
      · have ih1 := ih (a + 1) _ (by omega) (by omega) hnx hSx hWx (by rw [if_pos c_34] at ok2; exact ok2)
        refine v_aload_n (pc := 37) dX7_goSitting_37 rfl ?_
        refine v_aload_n (pc := 38) dX7_goSitting_38 rfl ?_
        refine v_cV0i (pc := 39) dX7_goSitting_39 mkX7_90 m_pass ly49 rfl (Nat.le_of_ble_eq_true rfl) rfl (Nat.zero_le _) (Nat.zero_le _) (fun r_39 M_39 J_39 h_39 => ?_)
        obtain ⟨e1_39, e2_39, e3_39⟩ := h_39
        replace e1_39 := e1_39.symm
        replace e2_39 := e2_39.symm
        replace e3_39 := e3_39.symm
        subst e1_39 e2_39 e3_39
        refine v_putI (pc := 42) fkX7_87p ly49 rfl dX7_goSitting_42 ?_
        refine v_goto (pc := 45) (tgt := 175) dX7_goSitting_45 (by decide) ?_
        have hW : nActW M (S a) (S (a + 1)) = if M 54 8 = 99 then 4 else 0 := by unfold nActW; rw [if_pos c_34]
        have hM : nActM (mU M 49 10 0) (S a) (S (a + 1)) = nPass (mU M 49 10 0) := by unfold nActM; rw [if_pos c_34]
        have e9 := l_go2 (b := a) (l2 := some (.int (S a))) (l3 := none) hlt (by rw [if_pos c_34]) ih1
        rw [hM, hW] at e9
        rw [mU_neA (show (54 : Nat) ≠ 49 by decide)]
        exact e9
    · obtain rfl : a = n := by omega
      refine v_iload_n (pc := 11) dX7_goSitting_11 rfl ?_
      refine v_aload_n (pc := 12) dX7_goSitting_12 rfl ?_
      refine v_getI (pc := 13) fkX7_68 ly49 rfl dX7_goSitting_13 ?_
      refine v_icmp_ge (pc := 16) (tgt := 203) dX7_goSitting_16 (by decide) (fun c_16 => ?_) (fun c_16 => absurd (by rw [hn]; exact nI_le (Nat.le_refl _) (by omega)) c_16)
      refine v_bipush (pc := 203) (v := (-6)) (by decide) dX7_goSitting_203 ?_
      refine v_iret (pc := 205) dX7_goSitting_205 (Nat.zero_le _) (Nat.zero_le _) ?_
      exact ⟨by rw [mRun, if_neg (Nat.lt_irrefl a)], by rw [mRun, if_neg (Nat.lt_irrefl a)], rfl⟩

def goM (M : mM) (n : Nat) : Int32 × mM := mRun (M 55) n 61 0 (mU (cpR M 54 53 0 107) 49 11 0)
def WNb (M : mM) : Prop := ∃ nb : Nat, M 53 10 = nI nb ∧ nb ≤ 32

set_option maxRecDepth 100000 in
set_option maxHeartbeats 4000000 in
theorem m_go {n : Nat} {M : mM} {J : mJ} (hn : M 49 8 = nI n) (h60 : n ≤ 60) (hwf : WNb M) (hok : cFl (M 55) n 61 0 = -6) : Ct yX7_goSitting cX7_goSitting 4 (some .int) (rmD 3) false [.ref 49] LY M J (mNi LY (fun r0 M1 J1 => r0 = (goM M n).1 ∧ M1 = (goM M n).2 ∧ J1 = J)) := by
  refine ct_of (own := RX7) (ini := false) (ls := [some (.ref 49), none, none, none]) 3 (by decide +kernel) rfl (fun h => by cases h) rfl (fun ad => by first | exact Nat.le_of_ble_eq_true rfl) ?_
  refine v_aload_n (pc := 0) dX7_goSitting_0 rfl ?_
  refine v_cV0v (pc := 1) dX7_goSitting_1 mkX7_81 m_asNow ly49 rfl (Nat.le_of_ble_eq_true rfl) rfl (Nat.zero_le _) (Nat.zero_le _) (fun M_1 J_1 h_1 => ?_)
  obtain ⟨e2_1, e3_1⟩ := h_1
  replace e2_1 := e2_1.symm
  replace e3_1 := e3_1.symm
  subst e2_1 e3_1
  refine v_aload_n (pc := 4) dX7_goSitting_4 rfl ?_
  refine v_iconst (pc := 5) (v := 0) (by decide) dX7_goSitting_5 ?_
  refine v_putI (pc := 6) fkX7_84p ly49 rfl dX7_goSitting_6 ?_
  refine v_iconst (pc := 9) (v := 0) (by decide) dX7_goSitting_9 ?_
  refine v_ist_1 (pc := 10) dX7_goSitting_10 (by decide) rfl ?_
  refine l_go (S := M 55) h60 61 0 _ (by omega) (by omega) ?_ ?_ ?_ hok
  · simp only [mU]
    rw [if_neg (by omega), cpR_ne (by decide), hn]
  · rw [mU_neA (by decide), cpR_ne (by decide)]
  · obtain ⟨nb, h1, h2⟩ := hwf
    refine ⟨nb, ?_, h2⟩
    rw [mU_neA (by decide), ← h1]
    rfl
