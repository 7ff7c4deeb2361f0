/-! the pad, a sitting run on the trial lagoon -/
theorem rngN {x lo hi : Int32} {a n : Nat} (hl : lo = nI a) (hh : hi = nI (a + n)) (hb : a + n < 2 ^ 31) (h1 : lo ≤ x) (h2 : x ≤ hi) : ∃ k, k ≤ n ∧ x = nI (a + k) := by
  subst hl; subst hh
  have h0 : ¬ x < 0 := by
    rw [Int32.lt_iff_toInt_lt, Int32.toInt_zero]
    rw [Int32.le_iff_toInt_le, nI_toInt (by omega)] at h1
    omega
  obtain ⟨j, hj, rfl⟩ := nI_of h0
  rw [nI_leI (by omega) hj] at h1
  rw [nI_leI hj (by omega)] at h2
  exact ⟨j - a, by omega, by rw [show a + (j - a) = j by omega]⟩
abbrev canF (x y : Int32) : Prop := (x = 126 ∧ 48 ≤ y ∧ y ≤ 57) ∨ (¬ x = 126 ∧ (y = 94 ∨ (49 ≤ y ∧ y ≤ 57)))
def sg (S : Nat → Int32) (a : Nat) : Int32 := if a ≤ 59 then S a else 0
def cFl (S : Nat → Int32) (n : Nat) : Nat → Nat → Int32
  | 0, _ => -6
  | f + 1, a => if a < n then (if S a = 46 then cFl S n f (a + 1) else if S a = 126 ∨ (65 ≤ S a ∧ S a ≤ 71) then (if a + 1 < n then (if canF (S a) (S (a + 1)) then cFl S n f (a + 2) else nI (a + 1)) else nI n) else nI a) else -6

set_option maxRecDepth 100000 in
set_option maxHeartbeats 4000000 in
theorem c_signAt {a : Nat} {M : mM} {J : mJ} (ha : a ≤ 60) : Ct yX3_signAt cX3_signAt 2 (some .int) (rmD 1) false [.ref 44, .int (nI a)] LY M J (mNi LY (fun r0 M1 J1 => r0 = sg (M 45) a ∧ M1 = M ∧ J1 = J)) := by
  refine ct_of (own := RX3) (ini := false) (ls := [some (.ref 44), some (.int (nI a))]) 0 (by decide +kernel) rfl (fun h => by cases h) rfl (fun ad => by first | exact Nat.le_of_ble_eq_true rfl) ?_
  have e59 : nI a ≤ (59 : Int32) ↔ a ≤ 59 := nI_leI (b := 59) (by omega) (by omega)
  have hcl := nI_clamp (show a < 2 ^ 31 by omega)
  refine v_iload_n (pc := 0) dX3_signAt_0 rfl ?_
  refine v_iconst (pc := 1) (v := 0) (by decide) dX3_signAt_1 ?_
  refine v_bipush (pc := 2) (v := 59) (by decide) dX3_signAt_2 ?_
  refine v_cS3i (pc := 4) dX3_signAt_4 mkX3_19 c_within (Nat.le_of_ble_eq_true rfl) rfl (Nat.zero_le _) (Nat.zero_le _) (fun r_4 M_4 J_4 h_4 => ?_)
  obtain ⟨e1_4, e2_4, e3_4⟩ := h_4
  replace e1_4 := e1_4.symm
  replace e2_4 := e2_4.symm
  replace e3_4 := e3_4.symm
  subst e1_4 e2_4 e3_4
  refine v_if_eq (pc := 7) (tgt := 19) dX3_signAt_7 (by decide) (fun c_7 => ?_) (fun c_7 => ?_)
  · refine v_iconst (pc := 19) (v := 0) (by decide) dX3_signAt_19 ?_
    refine v_iret (pc := 20) dX3_signAt_20 (Nat.zero_le _) (Nat.zero_le _) ?_
    first
      | (refine ⟨?_, rfl, rfl⟩
         have h := (bI_n0.mp c_7).2
         rw [e59] at h
         unfold sg
         rw [if_pos h, hcl])
      | (refine ⟨?_, rfl, rfl⟩
         unfold sg
         rw [if_neg (fun q => bI_0.mp c_7 ⟨nI_pos' (by omega), e59.mpr q⟩)])
  · refine v_aload_n (pc := 10) dX3_signAt_10 rfl ?_
    refine v_getR (pc := 11) fkX3_9 ly44 rfl dX3_signAt_11 ?_
    refine v_iload_n (pc := 14) dX3_signAt_14 rfl ?_
    refine v_iald (pc := 15) ly45 ?_ dX3_signAt_15 ?_
    · exact vp_in_nI (show a < 60 from by have h := (bI_n0.mp c_7).2; rw [e59] at h; omega) (by omega)
    refine v_goto (pc := 16) (tgt := 20) dX3_signAt_16 (by decide) ?_
    refine v_iret (pc := 20) dX3_signAt_20 (Nat.zero_le _) (Nat.zero_le _) ?_
    first
      | (refine ⟨?_, rfl, rfl⟩
         have h := (bI_n0.mp c_7).2
         rw [e59] at h
         unfold sg
         rw [if_pos h, hcl])
      | (refine ⟨?_, rfl, rfl⟩
         unfold sg
         rw [if_neg (fun q => bI_0.mp c_7 ⟨nI_pos' (by omega), e59.mpr q⟩)])

set_option maxRecDepth 100000 in
set_option maxHeartbeats 4000000 in
theorem c_canF {x y : Int32} {M : mM} {J : mJ}  : Ct yX3_canFollow cX3_canFollow 2 (some .boolean) (rmD 1) false [.int x, .int y] LY M J (mNi LY (fun r0 M1 J1 => r0 = bI (canF x y) ∧ M1 = M ∧ J1 = J)) := by
  refine ct_of (own := RX3) (ini := false) (ls := [some (.int x), some (.int y)]) 0 (by decide +kernel) rfl (fun h => by cases h) rfl (fun ad => by first | exact Nat.le_of_ble_eq_true rfl) ?_
  refine v_iload_n (pc := 0) dX3_canFollow_0 rfl ?_
  refine v_bipush (pc := 1) (v := 126) (by decide) dX3_canFollow_1 ?_
  refine v_icmp_ne (pc := 3) (tgt := 15) dX3_canFollow_3 (by decide) (fun c_3 => ?_) (fun c_3 => ?_)
  · refine v_iload_n (pc := 15) dX3_canFollow_15 rfl ?_
    refine v_bipush (pc := 16) (v := 94) (by decide) dX3_canFollow_16 ?_
    refine v_icmp_eq (pc := 18) (tgt := 32) dX3_canFollow_18 (by decide) (fun c_18 => ?_) (fun c_18 => ?_)
    · refine v_iconst (pc := 32) (v := 1) (by decide) dX3_canFollow_32 ?_
      refine v_goto (pc := 33) (tgt := 37) dX3_canFollow_33 (by decide) ?_
      refine v_zret (pc := 37) dX3_canFollow_37 (Nat.zero_le _) (Nat.zero_le _) (by first | exact Or.inl rfl | exact Or.inr rfl | exact bI_or) ?_
      first
        | exact ⟨bI_cong ⟨fun q => Or.inl ⟨c_3, q⟩, fun q => q.elim (fun z => z.2) (fun z => absurd c_3 z.1)⟩, rfl, rfl⟩
        | exact ⟨bI_t (Or.inr ⟨c_3, Or.inl c_18⟩), rfl, rfl⟩
        | exact ⟨bI_t (Or.inr ⟨c_3, Or.inr (bI_n0.mp c_29)⟩), rfl, rfl⟩
        | exact ⟨bI_f (fun q => q.elim (fun z => c_3 z.1) (fun z => z.2.elim c_18 (bI_0.mp c_29))), rfl, rfl⟩
    · refine v_iload_n (pc := 21) dX3_canFollow_21 rfl ?_
      refine v_bipush (pc := 22) (v := 49) (by decide) dX3_canFollow_22 ?_
      refine v_bipush (pc := 24) (v := 57) (by decide) dX3_canFollow_24 ?_
      refine v_cS3i (pc := 26) dX3_canFollow_26 mkX3_19 c_within (Nat.le_of_ble_eq_true rfl) rfl (Nat.zero_le _) (Nat.zero_le _) (fun r_26 M_26 J_26 h_26 => ?_)
      obtain ⟨e1_26, e2_26, e3_26⟩ := h_26
      replace e1_26 := e1_26.symm
      replace e2_26 := e2_26.symm
      replace e3_26 := e3_26.symm
      subst e1_26 e2_26 e3_26
      refine v_if_eq (pc := 29) (tgt := 36) dX3_canFollow_29 (by decide) (fun c_29 => ?_) (fun c_29 => ?_)
      · refine v_iconst (pc := 36) (v := 0) (by decide) dX3_canFollow_36 ?_
        refine v_zret (pc := 37) dX3_canFollow_37 (Nat.zero_le _) (Nat.zero_le _) (by first | exact Or.inl rfl | exact Or.inr rfl | exact bI_or) ?_
        first
          | exact ⟨bI_cong ⟨fun q => Or.inl ⟨c_3, q⟩, fun q => q.elim (fun z => z.2) (fun z => absurd c_3 z.1)⟩, rfl, rfl⟩
          | exact ⟨bI_t (Or.inr ⟨c_3, Or.inl c_18⟩), rfl, rfl⟩
          | exact ⟨bI_t (Or.inr ⟨c_3, Or.inr (bI_n0.mp c_29)⟩), rfl, rfl⟩
          | exact ⟨bI_f (fun q => q.elim (fun z => c_3 z.1) (fun z => z.2.elim c_18 (bI_0.mp c_29))), rfl, rfl⟩
      · refine v_iconst (pc := 32) (v := 1) (by decide) dX3_canFollow_32 ?_
        refine v_goto (pc := 33) (tgt := 37) dX3_canFollow_33 (by decide) ?_
        refine v_zret (pc := 37) dX3_canFollow_37 (Nat.zero_le _) (Nat.zero_le _) (by first | exact Or.inl rfl | exact Or.inr rfl | exact bI_or) ?_
        first
          | exact ⟨bI_cong ⟨fun q => Or.inl ⟨c_3, q⟩, fun q => q.elim (fun z => z.2) (fun z => absurd c_3 z.1)⟩, rfl, rfl⟩
          | exact ⟨bI_t (Or.inr ⟨c_3, Or.inl c_18⟩), rfl, rfl⟩
          | exact ⟨bI_t (Or.inr ⟨c_3, Or.inr (bI_n0.mp c_29)⟩), rfl, rfl⟩
          | exact ⟨bI_f (fun q => q.elim (fun z => c_3 z.1) (fun z => z.2.elim c_18 (bI_0.mp c_29))), rfl, rfl⟩
  · refine v_iload_n (pc := 6) dX3_canFollow_6 rfl ?_
    refine v_bipush (pc := 7) (v := 48) (by decide) dX3_canFollow_7 ?_
    refine v_bipush (pc := 9) (v := 57) (by decide) dX3_canFollow_9 ?_
    refine v_cS3i (pc := 11) dX3_canFollow_11 mkX3_19 c_within (Nat.le_of_ble_eq_true rfl) rfl (Nat.zero_le _) (Nat.zero_le _) (fun r_11 M_11 J_11 h_11 => ?_)
    obtain ⟨e1_11, e2_11, e3_11⟩ := h_11
    replace e1_11 := e1_11.symm
    replace e2_11 := e2_11.symm
    replace e3_11 := e3_11.symm
    subst e1_11 e2_11 e3_11
    refine v_zret (pc := 14) dX3_canFollow_14 (Nat.zero_le _) (Nat.zero_le _) (by first | exact Or.inl rfl | exact Or.inr rfl | exact bI_or) ?_
    first
      | exact ⟨bI_cong ⟨fun q => Or.inl ⟨c_3, q⟩, fun q => q.elim (fun z => z.2) (fun z => absurd c_3 z.1)⟩, rfl, rfl⟩
      | exact ⟨bI_t (Or.inr ⟨c_3, Or.inl c_18⟩), rfl, rfl⟩
      | exact ⟨bI_t (Or.inr ⟨c_3, Or.inr (bI_n0.mp c_29)⟩), rfl, rfl⟩
      | exact ⟨bI_f (fun q => q.elim (fun z => c_3 z.1) (fun z => z.2.elim c_18 (bI_0.mp c_29))), rfl, rfl⟩

set_option maxRecDepth 100000 in
set_option maxHeartbeats 4000000 in
theorem c_padAdd {x : Int32} {n : Nat} {M : mM} {J : mJ} (hn : M 44 1 = nI n) (h60 : n < 60) : Ct yX3_add cX3_add 2 none (rmD 1) false [.ref 44, .int x] LY M J (mNv LY (fun M1 J1 => M1 = mU (mU M 45 n x) 44 1 (nI (n + 1)) ∧ J1 = J)) := by
  refine ct_of (own := RX3) (ini := false) (ls := [some (.ref 44), some (.int x)]) 0 (by decide +kernel) rfl (fun h => by cases h) rfl (fun ad => by first | exact Nat.le_of_ble_eq_true rfl) ?_
  have e59 : (0 : Int32) ≤ M 44 1 ∧ M 44 1 ≤ 59 := by rw [hn]; exact ⟨nI_pos' (by omega), nI_le (b := 59) (by omega) (by omega)⟩
  have hcl : (M 44 1).toNatClampNeg = n := by rw [hn, nI_clamp (by omega)]
  refine v_aload_n (pc := 0) dX3_add_0 rfl ?_
  refine v_getI (pc := 1) fkX3_15 ly44 rfl dX3_add_1 ?_
  refine v_iconst (pc := 4) (v := 0) (by decide) dX3_add_4 ?_
  refine v_bipush (pc := 5) (v := 59) (by decide) dX3_add_5 ?_
  refine v_cS3i (pc := 7) dX3_add_7 mkX3_19 c_within (Nat.le_of_ble_eq_true rfl) rfl (Nat.zero_le _) (Nat.zero_le _) (fun r_7 M_7 J_7 h_7 => ?_)
  obtain ⟨e1_7, e2_7, e3_7⟩ := h_7
  replace e1_7 := e1_7.symm
  replace e2_7 := e2_7.symm
  replace e3_7 := e3_7.symm
  subst e1_7 e2_7 e3_7
  refine v_if_eq (pc := 10) (tgt := 33) dX3_add_10 (by decide) (fun c_10 => absurd c_10 (bI_n0.mpr e59)) (fun c_10 => ?_)
  refine v_aload_n (pc := 13) dX3_add_13 rfl ?_
  refine v_getR (pc := 14) fkX3_9 ly44 rfl dX3_add_14 ?_
  refine v_aload_n (pc := 17) dX3_add_17 rfl ?_
  refine v_getI (pc := 18) fkX3_15 ly44 rfl dX3_add_18 ?_
  refine v_iload_n (pc := 21) dX3_add_21 rfl ?_
  refine v_iast (pc := 22) ly45 ?_ dX3_add_22 ?_
  · rw [hn]; exact vp_in_nI h60 (by omega)
  refine v_aload_n (pc := 23) dX3_add_23 rfl ?_
  refine v_dupR (pc := 24) dX3_add_24 ?_
  refine v_getI (pc := 25) fkX3_15 ly44 rfl dX3_add_25 ?_
  refine v_iconst (pc := 28) (v := 1) (by decide) dX3_add_28 ?_
  refine v_iadd (pc := 29) dX3_add_29 ?_
  refine v_putI (pc := 30) fkX3_15p ly44 rfl dX3_add_30 ?_
  refine v_vret (pc := 33) dX3_add_33 (Nat.zero_le _) (Nat.zero_le _) ?_
  refine ⟨?_, rfl⟩
  rw [hcl, mU_neA (by decide), hn, nI_1]

theorem sg_in {S : Nat → Int32} {a : Nat} (h : a ≤ 59) : sg S a = S a := by
  unfold sg
  rw [if_pos h]

set_option maxRecDepth 100000 in
set_option maxHeartbeats 4000000 in
theorem l_fault {n : Nat} {M : mM} {J : mJ} (hn : M 44 1 = nI n) (h60 : n ≤ 60) : ∀ (f a : Nat), a ≤ n → n - a < f → V RX3 cX3_firstFault 3 (some .int) false (rmD 2) false LY.length none (mNi LY (fun r0 M1 J1 => r0 = cFl (M 45) n f a ∧ M1 = M ∧ J1 = J)) 0 0 2 [some (.ref 44), some (.int (nI a)), none] [] LY M J := by
  intro f
  induction f with
  | zero => intro a h1 h2; omega
  | succ f ih =>
    intro a h1 h2
    rcases Nat.lt_or_ge a n with hlt | hge
    · have hsg : sg (M 45) a = M 45 a := sg_in (by omega)
      refine v_iload_n (pc := 2) dX3_firstFault_2 rfl ?_
      refine v_aload_n (pc := 3) dX3_firstFault_3 rfl ?_
      refine v_getI (pc := 4) fkX3_15 ly44 rfl dX3_firstFault_4 ?_
      refine v_icmp_ge (pc := 7) (tgt := 86) dX3_firstFault_7 (by decide) (fun c_7 => absurd c_7 (by rw [hn]; exact nI_ge hlt (by omega))) (fun c_7 => ?_)
      refine v_aload_n (pc := 10) dX3_firstFault_10 rfl ?_
      refine v_iload_n (pc := 11) dX3_firstFault_11 rfl ?_
      refine v_cV1i (pc := 12) dX3_firstFault_12 mkX3_23 (c_signAt (a := a) (by omega)) ly44 rfl (Nat.le_of_ble_eq_true rfl) rfl (Nat.zero_le _) (Nat.zero_le _) (fun r_12 M_12 J_12 h_12 => ?_)
      obtain ⟨e1_12, e2_12, e3_12⟩ := h_12
      replace e1_12 := e1_12.symm
      replace e2_12 := e2_12.symm
      replace e3_12 := e3_12.symm
      subst e1_12 e2_12 e3_12
      rw [hsg]
      refine v_ist_2 (pc := 15) dX3_firstFault_15 (by decide) rfl ?_
      refine v_iload_n (pc := 16) dX3_firstFault_16 rfl ?_
      refine v_bipush (pc := 17) (v := 46) (by decide) dX3_firstFault_17 ?_
      refine v_icmp_ne (pc := 19) (tgt := 28) dX3_firstFault_19 (by decide) (fun c_19 => ?_) (fun c_19 => ?_)
      · refine v_iload_n (pc := 28) dX3_firstFault_28 rfl ?_
        refine v_bipush (pc := 29) (v := 126) (by decide) dX3_firstFault_29 ?_
        refine v_icmp_eq (pc := 31) (tgt := 47) dX3_firstFault_31 (by decide) (fun c_31 => ?_) (fun c_31 => ?_)
        · have hl9 : M 45 a = 126 ∨ (65 ≤ M 45 a ∧ M 45 a ≤ 71) := by first | exact Or.inl c_31 | exact Or.inr (bI_n0.mp c_42)
          refine v_iload_n (pc := 47) dX3_firstFault_47 rfl ?_
          refine v_iconst (pc := 48) (v := 1) (by decide) dX3_firstFault_48 ?_
          refine v_iadd (pc := 49) dX3_firstFault_49 ?_
          refine v_aload_n (pc := 50) dX3_firstFault_50 rfl ?_
          refine v_getI (pc := 51) fkX3_15 ly44 rfl dX3_firstFault_51 ?_
          rw [nI_1, hn]
          refine v_icmp_lt (pc := 54) (tgt := 62) dX3_firstFault_54 (by decide) (fun c_54 => ?_) (fun c_54 => ?_)
          · have hlt1 : a + 1 < n := (nI_ltI (by omega) (by omega)).mp c_54
            have hsg1 : sg (M 45) (a + 1) = M 45 (a + 1) := sg_in (by omega)
            refine v_iload_n (pc := 62) dX3_firstFault_62 rfl ?_
            refine v_aload_n (pc := 63) dX3_firstFault_63 rfl ?_
            refine v_iload_n (pc := 64) dX3_firstFault_64 rfl ?_
            refine v_iconst (pc := 65) (v := 1) (by decide) dX3_firstFault_65 ?_
            refine v_iadd (pc := 66) dX3_firstFault_66 ?_
            rw [nI_1]
            refine v_cV1i (pc := 67) dX3_firstFault_67 mkX3_23 (c_signAt (a := a + 1) (by omega)) ly44 rfl (Nat.le_of_ble_eq_true rfl) rfl (Nat.zero_le _) (Nat.zero_le _) (fun r_67 M_67 J_67 h_67 => ?_)
            obtain ⟨e1_67, e2_67, e3_67⟩ := h_67
            replace e1_67 := e1_67.symm
            replace e2_67 := e2_67.symm
            replace e3_67 := e3_67.symm
            subst e1_67 e2_67 e3_67
            rw [hsg1]
            refine v_cS2i (pc := 70) dX3_firstFault_70 mkX3_27 c_canF (Nat.le_of_ble_eq_true rfl) rfl (Nat.zero_le _) (Nat.zero_le _) (fun r_70 M_70 J_70 h_70 => ?_)
            obtain ⟨e1_70, e2_70, e3_70⟩ := h_70
            replace e1_70 := e1_70.symm
            replace e2_70 := e2_70.symm
            replace e3_70 := e3_70.symm
            subst e1_70 e2_70 e3_70
            refine v_if_ne (pc := 73) (tgt := 80) dX3_firstFault_73 (by decide) (fun c_73 => ?_) (fun c_73 => ?_)
            · refine v_inc_1 (pc := 80) (v := 2) dX3_firstFault_80 (by decide) (by decide) rfl ?_
              refine v_goto (pc := 83) (tgt := 2) dX3_firstFault_83 (by decide) ?_
              refine v_fg_2 ?_
              first
                | (rw [show nI a + 2 = nI (a + 2) from nI_add a 2]
                   refine V.mono (fun o b c d q => ?_) (ih (a + 2) (by omega) (by omega))
                   rw [cFl, if_pos hlt, if_neg c_19, if_pos hl9, if_pos hlt1, if_pos (bI_n0.mp c_73)]
                   exact q)
                | (rw [nI_1]
                   refine V.mono (fun o b c d q => ?_) (ih (a + 1) (by omega) (by omega))
                   rw [cFl, if_pos hlt, if_pos c_19]
                   exact q)
            · refine v_iload_n (pc := 76) dX3_firstFault_76 rfl ?_
              refine v_iconst (pc := 77) (v := 1) (by decide) dX3_firstFault_77 ?_
              refine v_iadd (pc := 78) dX3_firstFault_78 ?_
              rw [nI_1]
              refine v_iret (pc := 79) dX3_firstFault_79 (Nat.zero_le _) (Nat.zero_le _) ?_
              exact ⟨by rw [cFl, if_pos hlt, if_neg c_19, if_pos hl9, if_pos hlt1, if_neg (bI_0.mp c_73)], rfl, rfl⟩
          · 
            refine v_aload_n (pc := 57) dX3_firstFault_57 rfl ?_
            refine v_getI (pc := 58) fkX3_15 ly44 rfl dX3_firstFault_58 ?_
            rw [hn]
            refine v_iret (pc := 61) dX3_firstFault_61 (Nat.zero_le _) (Nat.zero_le _) ?_
            exact ⟨by rw [cFl, if_pos hlt, if_neg c_19, if_pos hl9, if_neg (fun q => c_54 ((nI_ltI (by omega) (by omega)).mpr q))], rfl, rfl⟩
        · refine v_iload_n (pc := 34) dX3_firstFault_34 rfl ?_
          refine v_bipush (pc := 35) (v := 65) (by decide) dX3_firstFault_35 ?_
          refine v_bipush (pc := 37) (v := 71) (by decide) dX3_firstFault_37 ?_
          refine v_cS3i (pc := 39) dX3_firstFault_39 mkX3_19 c_within (Nat.le_of_ble_eq_true rfl) rfl (Nat.zero_le _) (Nat.zero_le _) (fun r_39 M_39 J_39 h_39 => ?_)
          obtain ⟨e1_39, e2_39, e3_39⟩ := h_39
          replace e1_39 := e1_39.symm
          replace e2_39 := e2_39.symm
          replace e3_39 := e3_39.symm
          subst e1_39 e2_39 e3_39
          refine v_if_ne (pc := 42) (tgt := 47) dX3_firstFault_42 (by decide) (fun c_42 => ?_) (fun c_42 => ?_)
          · have hl9 : M 45 a = 126 ∨ (65 ≤ M 45 a ∧ M 45 a ≤ 71) := by first | exact Or.inl c_31 | exact Or.inr (bI_n0.mp c_42)
            refine v_iload_n (pc := 47) dX3_firstFault_47 rfl ?_
            refine v_iconst (pc := 48) (v := 1) (by decide) dX3_firstFault_48 ?_
            refine v_iadd (pc := 49) dX3_firstFault_49 ?_
            refine v_aload_n (pc := 50) dX3_firstFault_50 rfl ?_
            refine v_getI (pc := 51) fkX3_15 ly44 rfl dX3_firstFault_51 ?_
            rw [nI_1, hn]
            refine v_icmp_lt (pc := 54) (tgt := 62) dX3_firstFault_54 (by decide) (fun c_54 => ?_) (fun c_54 => ?_)
            · have hlt1 : a + 1 < n := (nI_ltI (by omega) (by omega)).mp c_54
              have hsg1 : sg (M 45) (a + 1) = M 45 (a + 1) := sg_in (by omega)
              refine v_iload_n (pc := 62) dX3_firstFault_62 rfl ?_
              refine v_aload_n (pc := 63) dX3_firstFault_63 rfl ?_
              refine v_iload_n (pc := 64) dX3_firstFault_64 rfl ?_
              refine v_iconst (pc := 65) (v := 1) (by decide) dX3_firstFault_65 ?_
              refine v_iadd (pc := 66) dX3_firstFault_66 ?_
              rw [nI_1]
              refine v_cV1i (pc := 67) dX3_firstFault_67 mkX3_23 (c_signAt (a := a + 1) (by omega)) ly44 rfl (Nat.le_of_ble_eq_true rfl) rfl (Nat.zero_le _) (Nat.zero_le _) (fun r_67 M_67 J_67 h_67 => ?_)
              obtain ⟨e1_67, e2_67, e3_67⟩ := h_67
              replace e1_67 := e1_67.symm
              replace e2_67 := e2_67.symm
              replace e3_67 := e3_67.symm
              subst e1_67 e2_67 e3_67
              rw [hsg1]
              refine v_cS2i (pc := 70) dX3_firstFault_70 mkX3_27 c_canF (Nat.le_of_ble_eq_true rfl) rfl (Nat.zero_le _) (Nat.zero_le _) (fun r_70 M_70 J_70 h_70 => ?_)
              obtain ⟨e1_70, e2_70, e3_70⟩ := h_70
              replace e1_70 := e1_70.symm
              replace e2_70 := e2_70.symm
              replace e3_70 := e3_70.symm
              subst e1_70 e2_70 e3_70
              refine v_if_ne (pc := 73) (tgt := 80) dX3_firstFault_73 (by decide) (fun c_73 => ?_) (fun c_73 => ?_)
              · refine v_inc_1 (pc := 80) (v := 2) dX3_firstFault_80 (by decide) (by decide) rfl ?_
                refine v_goto (pc := 83) (tgt := 2) dX3_firstFault_83 (by decide) ?_
                refine v_fg_2 ?_
                first
                  | (rw [show nI a + 2 = nI (a + 2) from nI_add a 2]
                     refine V.mono (fun o b c d q => ?_) (ih (a + 2) (by omega) (by omega))
                     rw [cFl, if_pos hlt, if_neg c_19, if_pos hl9, if_pos hlt1, if_pos (bI_n0.mp c_73)]
                     exact q)
                  | (rw [nI_1]
                     refine V.mono (fun o b c d q => ?_) (ih (a + 1) (by omega) (by omega))
                     rw [cFl, if_pos hlt, if_pos c_19]
                     exact q)
              · refine v_iload_n (pc := 76) dX3_firstFault_76 rfl ?_
                refine v_iconst (pc := 77) (v := 1) (by decide) dX3_firstFault_77 ?_
                refine v_iadd (pc := 78) dX3_firstFault_78 ?_
                rw [nI_1]
                refine v_iret (pc := 79) dX3_firstFault_79 (Nat.zero_le _) (Nat.zero_le _) ?_
                exact ⟨by rw [cFl, if_pos hlt, if_neg c_19, if_pos hl9, if_pos hlt1, if_neg (bI_0.mp c_73)], rfl, rfl⟩
            · 
              refine v_aload_n (pc := 57) dX3_firstFault_57 rfl ?_
              refine v_getI (pc := 58) fkX3_15 ly44 rfl dX3_firstFault_58 ?_
              rw [hn]
              refine v_iret (pc := 61) dX3_firstFault_61 (Nat.zero_le _) (Nat.zero_le _) ?_
              exact ⟨by rw [cFl, if_pos hlt, if_neg c_19, if_pos hl9, if_neg (fun q => c_54 ((nI_ltI (by omega) (by omega)).mpr q))], rfl, rfl⟩
          · refine v_iload_n (pc := 45) dX3_firstFault_45 rfl ?_
            refine v_iret (pc := 46) dX3_firstFault_46 (Nat.zero_le _) (Nat.zero_le _) ?_
            exact ⟨by rw [cFl, if_pos hlt, if_neg c_19, if_neg (fun q => q.elim c_31 (bI_0.mp c_42))], rfl, rfl⟩
      · refine v_inc_1 (pc := 22) (v := 1) dX3_firstFault_22 (by decide) (by decide) rfl ?_
        refine v_goto (pc := 25) (tgt := 2) dX3_firstFault_25 (by decide) ?_
        refine v_fg_2 ?_
        first
          | (rw [show nI a + 2 = nI (a + 2) from nI_add a 2]
             refine V.mono (fun o b c d q => ?_) (ih (a + 2) (by omega) (by omega))
             rw [cFl, if_pos hlt, if_neg c_19, if_pos hl9, if_pos hlt1, if_pos (bI_n0.mp c_73)]
             exact q)
          | (rw [nI_1]
             refine V.mono (fun o b c d q => ?_) (ih (a + 1) (by omega) (by omega))
             rw [cFl, if_pos hlt, if_pos c_19]
             exact q)
    · obtain rfl : a = n := by omega
      refine v_iload_n (pc := 2) dX3_firstFault_2 rfl ?_
      refine v_aload_n (pc := 3) dX3_firstFault_3 rfl ?_
      refine v_getI (pc := 4) fkX3_15 ly44 rfl dX3_firstFault_4 ?_
      refine v_icmp_ge (pc := 7) (tgt := 86) dX3_firstFault_7 (by decide) (fun c_7 => ?_) (fun c_7 => absurd (by rw [hn]; exact nI_le (Nat.le_refl a) (by omega)) c_7)
      refine v_bipush (pc := 86) (v := (-6)) (by decide) dX3_firstFault_86 ?_
      refine v_iret (pc := 88) dX3_firstFault_88 (Nat.zero_le _) (Nat.zero_le _) ?_
      exact ⟨by rw [cFl, if_neg (Nat.lt_irrefl a)], rfl, rfl⟩

set_option maxRecDepth 100000 in
set_option maxHeartbeats 4000000 in
theorem c_fault {n : Nat} {M : mM} {J : mJ} (hn : M 44 1 = nI n) (h60 : n ≤ 60) : Ct yX3_firstFault cX3_firstFault 3 (some .int) (rmD 2) false [.ref 44] LY M J (mNi LY (fun r0 M1 J1 => r0 = cFl (M 45) n 61 0 ∧ M1 = M ∧ J1 = J)) := by
  refine ct_of (own := RX3) (ini := false) (ls := [some (.ref 44), none, none]) 2 (by decide +kernel) rfl (fun h => by cases h) rfl (fun ad => by first | exact Nat.le_of_ble_eq_true rfl) ?_
  refine v_iconst (pc := 0) (v := 0) (by decide) dX3_firstFault_0 ?_
  refine v_ist_1 (pc := 1) dX3_firstFault_1 (by decide) rfl ?_
  exact l_fault hn h60 61 0 (by omega) (by omega)

def okS (x y : Int32) : Prop := x = 46 ∨ (x = 126 ∧ ∃ d, d < 10 ∧ y = nI (48 + d)) ∨ (∃ k, k < 7 ∧ x = nI (65 + k) ∧ (y = 94 ∨ ∃ z, 1 ≤ z ∧ z ≤ 9 ∧ y = nI (48 + z)))
theorem okS_k {x y : Int32} (h : okS x y) (h1 : ¬ x = 46) (h2 : ¬ x = 126) : ∃ k, k < 7 ∧ x - 65 = nI k := by
  rcases h with h | h | ⟨k, hk, rfl, -⟩
  · exact absurd h h1
  · exact absurd h.1 h2
  · exact ⟨k, hk, by rw [show nI (65 + k) - 65 = nI (65 + k) - nI 65 from rfl, pk_sub (by omega), show 65 + k - 65 = k by omega]⟩
def fActW (M : mM) (x y : Int32) : Int32 := if x = 46 then (if M 38 7 < 99 then 0 else 4) else if x = 126 then 0 else if y = 94 then (if 0 ≤ x - 65 ∧ x - 65 ≤ 6 ∧ bt (M 38 4) (x - 65) then 0 else 1) else fWhyT M (x - 65).toNatClampNeg (y - 48)
def fActM (M : mM) (x y : Int32) : mM := if x = 46 then fPass M else if x = 126 then mU M 38 6 (y - 48) else if y = 94 then (if 0 ≤ x - 65 ∧ x - 65 ≤ 6 ∧ bt (M 38 4) (x - 65) then fRise M (x - 65) else M) else (if fWhyT M (x - 65).toNatClampNeg (y - 48) = 0 then fBub M (x - 65).toNatClampNeg (y - 48) else M)

set_option maxRecDepth 100000 in
set_option maxHeartbeats 4000000 in
theorem c_act {x y : Int32} {M : mM} {J : mJ} (hok : okS x y) (hwf : WF M) : Ct yX5_act cX5_act 3 (some .int) (rmD 3) false [.ref 38, .int x, .int y] LY M J (mNi LY (fun r0 M1 J1 => r0 = fActW M x y ∧ M1 = fActM M x y ∧ J1 = J)) := by
  refine ct_of (own := RX5) (ini := false) (ls := [some (.ref 38), some (.int x), some (.int y)]) 0 (by decide +kernel) rfl (fun h => by cases h) rfl (fun ad => by first | exact Nat.le_of_ble_eq_true rfl) ?_
  refine v_iload_n (pc := 0) dX5_act_0 rfl ?_
  refine v_bipush (pc := 1) (v := 46) (by decide) dX5_act_1 ?_
  refine v_icmp_ne (pc := 3) (tgt := 11) dX5_act_3 (by decide) (fun c_3 => ?_) (fun c_3 => ?_)
  · refine v_iload_n (pc := 11) dX5_act_11 rfl ?_
    refine v_bipush (pc := 12) (v := 126) (by decide) dX5_act_12 ?_
    refine v_icmp_ne (pc := 14) (tgt := 27) dX5_act_14 (by decide) (fun c_14 => ?_) (fun c_14 => ?_)
    · refine v_iload_n (pc := 27) dX5_act_27 rfl ?_
      refine v_bipush (pc := 28) (v := 94) (by decide) dX5_act_28 ?_
      refine v_icmp_ne (pc := 30) (tgt := 42) dX5_act_30 (by decide) (fun c_30 => ?_) (fun c_30 => ?_)
      · refine v_aload_n (pc := 42) dX5_act_42 rfl ?_
        refine v_iload_n (pc := 43) dX5_act_43 rfl ?_
        refine v_bipush (pc := 44) (v := 65) (by decide) dX5_act_44 ?_
        refine v_isub (pc := 46) dX5_act_46 ?_
        refine v_iload_n (pc := 47) dX5_act_47 rfl ?_
        refine v_bipush (pc := 48) (v := 48) (by decide) dX5_act_48 ?_
        refine v_isub (pc := 50) dX5_act_50 ?_
        obtain ⟨k, hk, hx⟩ := okS_k hok c_3 c_14
        rw [hx]
        refine v_cV2i (pc := 51) dX5_act_51 mkX5_41 (c_bubble (k := k) hk hwf) ly38 rfl (Nat.le_of_ble_eq_true rfl) rfl (Nat.zero_le _) (Nat.zero_le _) (fun r_51 M_51 J_51 h_51 => ?_)
        obtain ⟨e1_51, e2_51, e3_51⟩ := h_51
        replace e1_51 := e1_51.symm
        replace e2_51 := e2_51.symm
        replace e3_51 := e3_51.symm
        subst e1_51 e2_51 e3_51
        refine v_iret (pc := 54) dX5_act_54 (Nat.zero_le _) (Nat.zero_le _) ?_
        exact ⟨by unfold fActW; rw [if_neg c_3, if_neg c_14, if_neg c_30, hx, nI_clamp (by omega)], by unfold fActM; rw [if_neg c_3, if_neg c_14, if_neg c_30, hx, nI_clamp (by omega)], rfl⟩
      · refine v_aload_n (pc := 33) dX5_act_33 rfl ?_
        refine v_iload_n (pc := 34) dX5_act_34 rfl ?_
        refine v_bipush (pc := 35) (v := 65) (by decide) dX5_act_35 ?_
        refine v_isub (pc := 37) dX5_act_37 ?_
        refine v_cV1i (pc := 38) dX5_act_38 mkX5_38 c_rise ly38 rfl (Nat.le_of_ble_eq_true rfl) rfl (Nat.zero_le _) (Nat.zero_le _) (fun r_38 M_38 J_38 h_38 => ?_)
        obtain ⟨e1_38, e2_38, e3_38⟩ := h_38
        replace e1_38 := e1_38.symm
        replace e2_38 := e2_38.symm
        replace e3_38 := e3_38.symm
        subst e1_38 e2_38 e3_38
        refine v_iret (pc := 41) dX5_act_41 (Nat.zero_le _) (Nat.zero_le _) ?_
        exact ⟨by unfold fActW; rw [if_neg c_3, if_neg c_14, if_pos c_30], by unfold fActM; rw [if_neg c_3, if_neg c_14, if_pos c_30], rfl⟩
    · refine v_aload_n (pc := 17) dX5_act_17 rfl ?_
      refine v_iload_n (pc := 18) dX5_act_18 rfl ?_
      refine v_bipush (pc := 19) (v := 48) (by decide) dX5_act_19 ?_
      refine v_isub (pc := 21) dX5_act_21 ?_
      refine v_putI (pc := 22) fkX5_35p ly38 rfl dX5_act_22 ?_
      refine v_iconst (pc := 25) (v := 0) (by decide) dX5_act_25 ?_
      refine v_iret (pc := 26) dX5_act_26 (Nat.zero_le _) (Nat.zero_le _) ?_
      exact ⟨by unfold fActW; rw [if_neg c_3, if_pos c_14], by unfold fActM; rw [if_neg c_3, if_pos c_14], rfl⟩
  · refine v_aload_n (pc := 6) dX5_act_6 rfl ?_
    refine v_cV0i (pc := 7) dX5_act_7 mkX5_29 c_pass ly38 rfl (Nat.le_of_ble_eq_true rfl) rfl (Nat.zero_le _) (Nat.zero_le _) (fun r_7 M_7 J_7 h_7 => ?_)
    obtain ⟨e1_7, e2_7, e3_7⟩ := h_7
    replace e1_7 := e1_7.symm
    replace e2_7 := e2_7.symm
    replace e3_7 := e3_7.symm
    subst e1_7 e2_7 e3_7
    refine v_iret (pc := 10) dX5_act_10 (Nat.zero_le _) (Nat.zero_le _) ?_
    exact ⟨by unfold fActW; rw [if_pos c_3], by unfold fActM; rw [if_pos c_3], rfl⟩

theorem psN_ne {M : mM} {a : Nat} (h1 : a ≠ 38) (h2 : a ≠ 40) : ∀ n, psN M n a = M a
  | 0 => rfl
  | n + 1 => by
    rw [show psN M (n + 1) = pst (psN M n) n from rfl]
    unfold pst
    split
    · split
      · rw [mU_neA h1, psN_ne h1 h2 n]
      · rw [mU_neA h2, psN_ne h1 h2 n]
    · exact psN_ne h1 h2 n
theorem fPass_ne {M : mM} {a : Nat} (h1 : a ≠ 38) (h2 : a ≠ 40) : fPass M a = M a := by
  unfold fPass
  split
  · rw [psN_ne h1 h2, mU_neA h1]
  · rfl
theorem rmS_ne {M : mM} {a i : Nat} (h1 : a ≠ 42) (h2 : a ≠ 43) : rmS M i a = M a := by
  funext b
  unfold rmS
  rw [if_neg (fun q => q.1.elim h1 h2)]
theorem fAdd_ne {M : mM} {key z : Int32} {a : Nat} (h1 : a ≠ 41) (h2 : a ≠ 42) (h3 : a ≠ 43) : fAdd M key z a = M a := by
  unfold fAdd
  rw [mU_neA h1, mU_neA h3]
  split
  · rw [mU_neA h3, mU_neA h2, mU_neA h1, rmS_ne h2 h3]
  · rfl
theorem fBub_ne {M : mM} {k : Nat} {z : Int32} {a : Nat} (h1 : a ≠ 40) (h2 : a ≠ 41) (h3 : a ≠ 42) (h4 : a ≠ 43) : fBub M k z a = M a := by
  unfold fBub
  rw [fAdd_ne h2 h3 h4, mU_neA h1]
theorem fActM_ne {M : mM} {x y : Int32} {a : Nat} (h0 : a ≠ 38) (h1 : a ≠ 40) (h2 : a ≠ 41) (h3 : a ≠ 42) (h4 : a ≠ 43) : fActM M x y a = M a := by
  unfold fActM
  split
  · exact fPass_ne h0 h1
  split
  · exact mU_neA h0
  split
  · split
    · exact mU_neA h0
    · rfl
  split
  · exact fBub_ne h1 h2 h3 h4
  · rfl
theorem WF_cong {M M' : mM} (h : M' 41 = M 41) (w : WF M) : WF M' := by
  obtain ⟨wd, nb, h1, h2, h3, h4⟩ := w
  exact ⟨wd, nb, by rw [h]; exact h1, by rw [h]; exact h2, h3, h4⟩
theorem fAdd_words {M : mM} {key z : Int32} : fAdd M key z 41 2 = M 41 2 ∨ fAdd M key z 41 2 = M 41 2 + 1 := by
  unfold fAdd
  split
  · right
    simp [mU]
  · left
    simp [mU]
theorem fAdd_bubbles {M : mM} {key z : Int32} : fAdd M key z 41 3 = M 41 3 + 1 := by
  unfold fAdd
  simp [mU]
theorem WF_add {M : mM} {key z : Int32} (w : WF M) (h : M 41 3 < 32) : WF (fAdd M key z) := by
  obtain ⟨wd, nb, h1, h2, h3, h4⟩ := w
  rw [h2] at h
  have hn : nb < 32 := (nI_ltI (b := 32) (by omega) (by omega)).mp h
  have e := fAdd_bubbles (M := M) (key := key) (z := z)
  rw [h2, nI_1] at e
  rcases fAdd_words (M := M) (key := key) (z := z) with g | g
  · rw [h1] at g
    exact ⟨wd, nb + 1, g, e, by omega, by omega⟩
  · rw [h1, nI_1] at g
    exact ⟨wd + 1, nb + 1, g, e, by omega, by omega⟩
theorem WF_bub {M : mM} {k : Nat} {z : Int32} (w : WF M) (h : fWhyT M k z = 0) : WF (fBub M k z) := by
  unfold fBub
  refine WF_add (WF_cong (mU_neA (by decide)) w) ?_
  rw [mU_neA (by decide)]
  unfold fWhyT fWhy at h
  split at h
  · split at h
    · split at h
      · assumption
      · exact absurd h (by decide)
    · exact absurd h (by decide)
  · exact absurd h (by decide)
theorem WF_act {M : mM} {x y : Int32} (w : WF M) : WF (fActM M x y) := by
  unfold fActM
  split
  · exact WF_cong (fPass_ne (by decide) (by decide)) w
  split
  · exact WF_cong (mU_neA (by decide)) w
  split
  · split
    · exact WF_cong (mU_neA (by decide)) w
    · exact w
  split
  · exact WF_bub w (by assumption)
  · exact w
theorem WF_draw {M : mM} {n : Nat} (w : WF M) : WF (fDraw M n) := by
  unfold fDraw
  split
  · exact WF_cong (fPass_ne (by decide) (by decide)) w
  split
  · exact WF_cong (mU_neA (by decide)) w
  split
  · exact WF_bub w (by assumption)
  · exact w
/-- a sitting on the trial lagoon, from sign a on -/
def fRun (S : Nat → Int32) (n : Nat) : Nat → Nat → mM → mM
  | 0, _, M => M
  | f + 1, a, M => if a < n then
      (if fActW M (S a) (sg S (a + 1)) = 0 then fRun S n f (if S a = 46 then a + 1 else a + 2) (mU (mU (fActM M (S a) (sg S (a + 1))) 46 1 (fActW M (S a) (sg S (a + 1)))) 46 0 (M 46 0 + 1))
       else mU (fActM M (S a) (sg S (a + 1))) 46 1 (fActW M (S a) (sg S (a + 1)))) else M
theorem nI_m6 {a : Nat} (h : a < 2 ^ 31) : ¬ nI a = -6 := by
  intro q
  have h1 := congrArg Int32.toInt q
  rw [nI_toInt h, show (-6 : Int32).toInt = -6 by decide] at h1
  omega
/-- what no fault means, a token at a time -/
theorem cFl_tok {S : Nat → Int32} {n f a : Nat} (hn : n ≤ 60) (hlt : a < n) (h : cFl S n (f + 1) a = -6) : okS (S a) (sg S (a + 1)) ∧ cFl S n f (if S a = 46 then a + 1 else a + 2) = -6 ∧ (¬ S a = 46 → a + 1 < n) := by
  rw [cFl, if_pos hlt] at h
  by_cases h46 : S a = 46
  · rw [if_pos h46] at h ⊢
    exact ⟨Or.inl h46, h, fun q => absurd h46 q⟩
  · rw [if_neg h46] at h ⊢
    by_cases hl : S a = 126 ∨ (65 ≤ S a ∧ S a ≤ 71)
    · rw [if_pos hl] at h
      by_cases h1 : a + 1 < n
      · rw [if_pos h1] at h
        by_cases hc : canF (S a) (S (a + 1))
        · rw [if_pos hc] at h
          rw [sg_in (show a + 1 ≤ 59 by omega)]
          refine ⟨?_, h, fun _ => h1⟩
          rcases hc with ⟨h2, h3, h4⟩ | ⟨h2, h3⟩
          · obtain ⟨k, hk, e⟩ := rngN (a := 48) (n := 9) rfl rfl (by omega) h3 h4
            exact Or.inr (Or.inl ⟨h2, k, by omega, e⟩)
          · obtain ⟨k, hk, e⟩ := rngN (a := 65) (n := 6) rfl rfl (by omega) (hl.resolve_left h2).1 (hl.resolve_left h2).2
            refine Or.inr (Or.inr ⟨k, by omega, e, ?_⟩)
            rcases h3 with h3 | ⟨h3, h4⟩
            · exact Or.inl h3
            · obtain ⟨z, hz, e2⟩ := rngN (a := 49) (n := 8) rfl rfl (by omega) h3 h4
              exact Or.inr ⟨z + 1, by omega, by omega, by rw [e2, show 49 + z = 48 + (z + 1) by omega]⟩
        · rw [if_neg hc] at h
          exact absurd h (nI_m6 (by omega))
      · rw [if_neg h1] at h
        exact absurd h (nI_m6 (by omega))
    · rw [if_neg hl] at h
      exact absurd h (nI_m6 (by omega))

set_option maxRecDepth 100000 in
set_option maxHeartbeats 4000000 in
theorem l_run {n : Nat} {S : Nat → Int32} {J : mJ} (h60 : n ≤ 60) : ∀ (f a : Nat) (M : mM), a ≤ n → n - a < f → M 44 1 = nI n → M 45 = S → WF M → cFl S n f a = -6 → V RX5 cX5_run 5 none false (rmD 4) false LY.length none (mNv LY (fun M1 J1 => M1 = fRun S n f a M ∧ J1 = J)) 0 0 12 [some (.ref 46), some (.ref 44), some (.ref 38), some (.int (nI a)), none] [] LY M J := by
  intro f
  induction f with
  | zero => intro a M h1 h2; omega
  | succ f ih =>
    intro a M h1 h2 hn hS hwf hok
    rcases Nat.lt_or_ge a n with hlt | hge
    · obtain ⟨ok1, ok2, ok3⟩ := cFl_tok h60 hlt hok
      have hsg : sg (M 45) a = S a := by rw [hS]; exact sg_in (by omega)
      have hsg1 : sg (M 45) (a + 1) = sg S (a + 1) := by rw [hS]
      refine v_iload_n (pc := 12) dX5_run_12 rfl ?_
      refine v_aload_n (pc := 13) dX5_run_13 rfl ?_
      refine v_getI (pc := 14) fkX5_16 ly44 rfl dX5_run_14 ?_
      refine v_icmp_ge (pc := 17) (tgt := 80) dX5_run_17 (by decide) (fun c_17 => absurd c_17 (by rw [hn]; exact nI_ge hlt (by omega))) (fun c_17 => ?_)
      refine v_aload_n (pc := 20) dX5_run_20 rfl ?_
      refine v_iload_n (pc := 21) dX5_run_21 rfl ?_
      refine v_cV1i (pc := 22) dX5_run_22 mkX5_21 (c_signAt (a := a) (by omega)) ly44 rfl (Nat.le_of_ble_eq_true rfl) rfl (Nat.zero_le _) (Nat.zero_le _) (fun r_22 M_22 J_22 h_22 => ?_)
      obtain ⟨e1_22, e2_22, e3_22⟩ := h_22
      replace e1_22 := e1_22.symm
      replace e2_22 := e2_22.symm
      replace e3_22 := e3_22.symm
      subst e1_22 e2_22 e3_22
      rw [hsg]
      refine v_ist_4 (pc := 25) dX5_run_25 (by decide) rfl ?_
      refine v_aload_n (pc := 27) dX5_run_27 rfl ?_
      refine v_aload_n (pc := 28) dX5_run_28 rfl ?_
      refine v_iload (pc := 29) dX5_run_29 rfl ?_
      refine v_aload_n (pc := 31) dX5_run_31 rfl ?_
      refine v_iload_n (pc := 32) dX5_run_32 rfl ?_
      refine v_iconst (pc := 33) (v := 1) (by decide) dX5_run_33 ?_
      refine v_iadd (pc := 34) dX5_run_34 ?_
      rw [nI_1]
      refine v_cV1i (pc := 35) dX5_run_35 mkX5_21 (c_signAt (a := a + 1) (by omega)) ly44 rfl (Nat.le_of_ble_eq_true rfl) rfl (Nat.zero_le _) (Nat.zero_le _) (fun r_35 M_35 J_35 h_35 => ?_)
      obtain ⟨e1_35, e2_35, e3_35⟩ := h_35
      replace e1_35 := e1_35.symm
      replace e2_35 := e2_35.symm
      replace e3_35 := e3_35.symm
      subst e1_35 e2_35 e3_35
      rw [hsg1]
      refine v_cS3i (pc := 38) dX5_run_38 mkX5_25 (c_act ok1 hwf) (Nat.le_of_ble_eq_true rfl) rfl (Nat.zero_le _) (Nat.zero_le _) (fun r_38 M_38 J_38 h_38 => ?_)
      obtain ⟨e1_38, e2_38, e3_38⟩ := h_38
      replace e1_38 := e1_38.symm
      replace e2_38 := e2_38.symm
      replace e3_38 := e3_38.symm
      subst e1_38 e2_38 e3_38
      refine v_putI (pc := 41) fkX5_13p ly46 rfl dX5_run_41 ?_
      refine v_aload_n (pc := 44) dX5_run_44 rfl ?_
      refine v_getI (pc := 45) fkX5_13 ly46 rfl dX5_run_45 ?_
      refine v_if_eq (pc := 48) (tgt := 52) dX5_run_48 (by decide) (fun c_48 => ?_) (fun c_48 => ?_)
      · refine v_aload_n (pc := 52) dX5_run_52 rfl ?_
        refine v_dupR (pc := 53) dX5_run_53 ?_
        refine v_getI (pc := 54) fkX5_7 ly46 rfl dX5_run_54 ?_
        refine v_iconst (pc := 57) (v := 1) (by decide) dX5_run_57 ?_
        refine v_iadd (pc := 58) dX5_run_58 ?_
        refine v_putI (pc := 59) fkX5_7p ly46 rfl dX5_run_59 ?_
        refine v_iload_n (pc := 62) dX5_run_62 rfl ?_
        refine v_iload (pc := 63) dX5_run_63 rfl ?_
        refine v_bipush (pc := 65) (v := 46) (by decide) dX5_run_65 ?_
        refine v_icmp_ne (pc := 67) (tgt := 74) dX5_run_67 (by decide) (fun c_67 => ?_) (fun c_67 => ?_)
        · refine v_iconst (pc := 74) (v := 2) (by decide) dX5_run_74 ?_
          refine v_iadd (pc := 75) dX5_run_75 ?_
          refine v_ist_3 (pc := 76) dX5_run_76 (by decide) rfl ?_
          refine v_goto (pc := 77) (tgt := 12) dX5_run_77 (by decide) ?_
          refine v_fg_4 ?_
          rw [show mU (fActM M (S a) (sg S (a + 1))) 46 1 (fActW M (S a) (sg S (a + 1))) 46 1 = fActW M (S a) (sg S (a + 1)) by simp [mU]] at c_48
          have e46 : mU (fActM M (S a) (sg S (a + 1))) 46 1 (fActW M (S a) (sg S (a + 1))) 46 0 = M 46 0 := by
            simp only [mU]
            rw [if_neg (by omega), fActM_ne (by decide) (by decide) (by decide) (by decide) (by decide)]
          rw [e46]
          have hnx : (mU (mU (fActM M (S a) (sg S (a + 1))) 46 1 (fActW M (S a) (sg S (a + 1)))) 46 0 (M 46 0 + 1)) 44 1 = nI n := by
            rw [mU_neA (by decide), mU_neA (by decide), fActM_ne (by decide) (by decide) (by decide) (by decide) (by decide), hn]
          have hSx : (mU (mU (fActM M (S a) (sg S (a + 1))) 46 1 (fActW M (S a) (sg S (a + 1)))) 46 0 (M 46 0 + 1)) 45 = S := by
            rw [mU_neA (by decide), mU_neA (by decide), fActM_ne (by decide) (by decide) (by decide) (by decide) (by decide), hS]
          have hWx : WF (mU (mU (fActM M (S a) (sg S (a + 1))) 46 1 (fActW M (S a) (sg S (a + 1)))) 46 0 (M 46 0 + 1)) := WF_cong (by rw [mU_neA (by decide), mU_neA (by decide)]) (WF_act hwf)
          first
            | (rw [if_pos c_67] at ok2
               rw [nI_1]
               refine V.mono (fun o b c d q => ?_) (ih (a + 1) _ (by omega) (by omega) hnx hSx hWx ok2)
               rw [fRun, if_pos hlt, if_pos c_48, if_pos c_67]
               exact q)
            | (rw [if_neg c_67] at ok2
               have h9 := ok3 c_67
               rw [show nI a + 2 = nI (a + 2) from nI_add a 2]
               refine V.mono (fun o b c d q => ?_) (ih (a + 2) _ (by omega) (by omega) hnx hSx hWx ok2)
               rw [fRun, if_pos hlt, if_pos c_48, if_neg c_67]
               exact q)
        · refine v_iconst (pc := 70) (v := 1) (by decide) dX5_run_70 ?_
          refine v_goto (pc := 71) (tgt := 75) dX5_run_71 (by decide) ?_
          refine v_iadd (pc := 75) dX5_run_75 ?_
          refine v_ist_3 (pc := 76) dX5_run_76 (by decide) rfl ?_
          refine v_goto (pc := 77) (tgt := 12) dX5_run_77 (by decide) ?_
          refine v_fg_4 ?_
          rw [show mU (fActM M (S a) (sg S (a + 1))) 46 1 (fActW M (S a) (sg S (a + 1))) 46 1 = fActW M (S a) (sg S (a + 1)) by simp [mU]] at c_48
          have e46 : mU (fActM M (S a) (sg S (a + 1))) 46 1 (fActW M (S a) (sg S (a + 1))) 46 0 = M 46 0 := by
            simp only [mU]
            rw [if_neg (by omega), fActM_ne (by decide) (by decide) (by decide) (by decide) (by decide)]
          rw [e46]
          have hnx : (mU (mU (fActM M (S a) (sg S (a + 1))) 46 1 (fActW M (S a) (sg S (a + 1)))) 46 0 (M 46 0 + 1)) 44 1 = nI n := by
            rw [mU_neA (by decide), mU_neA (by decide), fActM_ne (by decide) (by decide) (by decide) (by decide) (by decide), hn]
          have hSx : (mU (mU (fActM M (S a) (sg S (a + 1))) 46 1 (fActW M (S a) (sg S (a + 1)))) 46 0 (M 46 0 + 1)) 45 = S := by
            rw [mU_neA (by decide), mU_neA (by decide), fActM_ne (by decide) (by decide) (by decide) (by decide) (by decide), hS]
          have hWx : WF (mU (mU (fActM M (S a) (sg S (a + 1))) 46 1 (fActW M (S a) (sg S (a + 1)))) 46 0 (M 46 0 + 1)) := WF_cong (by rw [mU_neA (by decide), mU_neA (by decide)]) (WF_act hwf)
          first
            | (rw [if_pos c_67] at ok2
               rw [nI_1]
               refine V.mono (fun o b c d q => ?_) (ih (a + 1) _ (by omega) (by omega) hnx hSx hWx ok2)
               rw [fRun, if_pos hlt, if_pos c_48, if_pos c_67]
               exact q)
            | (rw [if_neg c_67] at ok2
               have h9 := ok3 c_67
               rw [show nI a + 2 = nI (a + 2) from nI_add a 2]
               refine V.mono (fun o b c d q => ?_) (ih (a + 2) _ (by omega) (by omega) hnx hSx hWx ok2)
               rw [fRun, if_pos hlt, if_pos c_48, if_neg c_67]
               exact q)
      · refine v_vret (pc := 51) dX5_run_51 (Nat.zero_le _) (Nat.zero_le _) ?_
        refine ⟨?_, rfl⟩
        rw [show mU (fActM M (S a) (sg S (a + 1))) 46 1 (fActW M (S a) (sg S (a + 1))) 46 1 = fActW M (S a) (sg S (a + 1)) by simp [mU]] at c_48
        rw [fRun, if_pos hlt, if_neg c_48]
    · obtain rfl : a = n := by omega
      refine v_iload_n (pc := 12) dX5_run_12 rfl ?_
      refine v_aload_n (pc := 13) dX5_run_13 rfl ?_
      refine v_getI (pc := 14) fkX5_16 ly44 rfl dX5_run_14 ?_
      refine v_icmp_ge (pc := 17) (tgt := 80) dX5_run_17 (by decide) (fun c_17 => ?_) (fun c_17 => absurd (by rw [hn]; exact nI_le (Nat.le_refl a) (by omega)) c_17)
      refine v_vret (pc := 80) dX5_run_80 (Nat.zero_le _) (Nat.zero_le _) ?_
      exact ⟨by rw [fRun, if_neg (Nat.lt_irrefl a)], rfl⟩

set_option maxRecDepth 100000 in
set_option maxHeartbeats 4000000 in
theorem c_run {n : Nat} {M : mM} {J : mJ} (hn : M 44 1 = nI n) (h60 : n ≤ 60) (hwf : WF M) (hok : cFl (M 45) n 61 0 = -6) : Ct yX5_run cX5_run 5 none (rmD 4) false [.ref 46, .ref 44, .ref 38] LY M J (mNv LY (fun M1 J1 => M1 = fRun (M 45) n 61 0 (mU (mU M 46 0 0) 46 1 0) ∧ J1 = J)) := by
  refine ct_of (own := RX5) (ini := false) (ls := [some (.ref 46), some (.ref 44), some (.ref 38), none, none]) 2 (by decide +kernel) rfl (fun h => by cases h) rfl (fun ad => by first | exact Nat.le_of_ble_eq_true rfl) ?_
  refine v_aload_n (pc := 0) dX5_run_0 rfl ?_
  refine v_iconst (pc := 1) (v := 0) (by decide) dX5_run_1 ?_
  refine v_putI (pc := 2) fkX5_7p ly46 rfl dX5_run_2 ?_
  refine v_aload_n (pc := 5) dX5_run_5 rfl ?_
  refine v_iconst (pc := 6) (v := 0) (by decide) dX5_run_6 ?_
  refine v_putI (pc := 7) fkX5_13p ly46 rfl dX5_run_7 ?_
  refine v_iconst (pc := 10) (v := 0) (by decide) dX5_run_10 ?_
  refine v_ist_3 (pc := 11) dX5_run_11 (by decide) rfl ?_
  exact l_run (S := M 45) h60 61 0 _ (by omega) (by omega) (by rw [mU_neA (by decide), mU_neA (by decide), hn]) (by rw [mU_neA (by decide), mU_neA (by decide)]) (WF_cong (by rw [mU_neA (by decide), mU_neA (by decide)]) hwf) hok

def tryM (M : mM) (n : Nat) : mM := fRun (M 45) n 61 0 (mU (mU (cLg M 38 2) 46 0 0) 46 1 0)
/-- the book's numbers of the house as it is -/
def WFn (M : mM) : Prop := ∃ wd nb : Nat, M 5 2 = nI wd ∧ M 5 3 = nI nb ∧ wd ≤ nb ∧ nb ≤ 32
theorem cLg_ne {M : mM} {d s a : Nat} (h : ¬ (d ≤ a ∧ a ≤ d + 5)) : cLg M d s a = M a := by
  unfold cLg cBk
  rw [cpR_ne (by omega), cpR_ne (by omega), cpR_ne (by omega), cpR_ne (by omega), cpR_ne (by omega), cpR_ne (by omega)]
theorem WF_copy {M : mM} (h : WFn M) : WF (cLg M 38 2) := by
  obtain ⟨wd, nb, h1, h2, h3, h4⟩ := h
  refine ⟨wd, nb, ?_, ?_, h3, h4⟩
  · rw [← h1]; simp [cLg, cBk, cpR]
  · rw [← h2]; simp [cLg, cBk, cpR]

abbrev okT (M : mM) (n : Nat) : Prop := cFl (M 45) n 61 0 = -6 ∧ tryM M n 46 1 = 0
def tryT (M : mM) (n : Nat) : mM := if cFl (M 45) n 61 0 = -6 then tryM M n else M

set_option maxRecDepth 100000 in
set_option maxHeartbeats 4000000 in
theorem c_tryPad {n : Nat} {M : mM} {J : mJ} (hn : M 44 1 = nI n) (h60 : n ≤ 60) (hwf : WFn M) : Ct yX6_tryPad cX6_tryPad 1 (some .boolean) (rmD 5) false [.ref 0] LY M J (mNi LY (fun r0 M1 J1 => r0 = bI (okT M n) ∧ M1 = tryT M n ∧ J1 = J)) := by
  refine ct_of (own := RX6) (ini := false) (ls := [some (.ref 0)]) 0 (by decide +kernel) rfl (fun h => by cases h) rfl (fun ad => by first | exact Nat.le_of_ble_eq_true rfl) ?_
  refine v_aload_n (pc := 0) dX6_tryPad_0 rfl ?_
  refine v_getR (pc := 1) fkX6_30 ly0 rfl dX6_tryPad_1 ?_
  refine v_cV0i (pc := 4) dX6_tryPad_4 mkX6_108 (c_fault hn h60) ly44 rfl (Nat.le_of_ble_eq_true rfl) rfl (Nat.zero_le _) (Nat.zero_le _) (fun r_4 M_4 J_4 h_4 => ?_)
  obtain ⟨e1_4, e2_4, e3_4⟩ := h_4
  replace e1_4 := e1_4.symm
  replace e2_4 := e2_4.symm
  replace e3_4 := e3_4.symm
  subst e1_4 e2_4 e3_4
  refine v_bipush (pc := 7) (v := (-6)) (by decide) dX6_tryPad_7 ?_
  refine v_icmp_eq (pc := 9) (tgt := 14) dX6_tryPad_9 (by decide) (fun c_9 => ?_) (fun c_9 => ?_)
  · refine v_aload_n (pc := 14) dX6_tryPad_14 rfl ?_
    refine v_getR (pc := 15) fkX6_23 ly0 rfl dX6_tryPad_15 ?_
    refine v_aload_n (pc := 18) dX6_tryPad_18 rfl ?_
    refine v_getR (pc := 19) fkX6_12 ly0 rfl dX6_tryPad_19 ?_
    refine v_getR (pc := 22) fkX6_53 ly1 rfl dX6_tryPad_22 ?_
    refine v_cV1v (pc := 25) dX6_tryPad_25 mkX6_122 c_lgCopy_38_2 ly38 rfl (Nat.le_of_ble_eq_true rfl) rfl (Nat.zero_le _) (Nat.zero_le _) (fun M_25 J_25 h_25 => ?_)
    obtain ⟨e2_25, e3_25⟩ := h_25
    replace e2_25 := e2_25.symm
    replace e3_25 := e3_25.symm
    subst e2_25 e3_25
    refine v_aload_n (pc := 28) dX6_tryPad_28 rfl ?_
    refine v_getR (pc := 29) fkX6_37 ly0 rfl dX6_tryPad_29 ?_
    refine v_aload_n (pc := 32) dX6_tryPad_32 rfl ?_
    refine v_getR (pc := 33) fkX6_30 ly0 rfl dX6_tryPad_33 ?_
    refine v_aload_n (pc := 36) dX6_tryPad_36 rfl ?_
    refine v_getR (pc := 37) fkX6_23 ly0 rfl dX6_tryPad_37 ?_
    refine v_cV2v (pc := 40) dX6_tryPad_40 mkX6_236 (c_run (n := n) (by rw [cLg_ne (by omega)]; exact hn) h60 (WF_copy hwf) (by rw [cLg_ne (by omega)]; exact c_9)) ly46 rfl (Nat.le_of_ble_eq_true rfl) rfl (Nat.zero_le _) (Nat.zero_le _) (fun M_40 J_40 h_40 => ?_)
    obtain ⟨e2_40, e3_40⟩ := h_40
    replace e2_40 := e2_40.symm
    replace e3_40 := e3_40.symm
    subst e2_40 e3_40
    rw [cLg_ne (M := M) (d := 38) (s := 2) (a := 45) (by omega)]
    rw [show fRun (M 45) n 61 0 (mU (mU (cLg M 38 2) 46 0 0) 46 1 0) = tryM M n from rfl]
    refine v_aload_n (pc := 43) dX6_tryPad_43 rfl ?_
    refine v_getR (pc := 44) fkX6_37 ly0 rfl dX6_tryPad_44 ?_
    refine v_getI (pc := 47) fkX6_119 ly46 rfl dX6_tryPad_47 ?_
    refine v_if_ne (pc := 50) (tgt := 57) dX6_tryPad_50 (by decide) (fun c_50 => ?_) (fun c_50 => ?_)
    · refine v_iconst (pc := 57) (v := 0) (by decide) dX6_tryPad_57 ?_
      refine v_zret (pc := 58) dX6_tryPad_58 (Nat.zero_le _) (Nat.zero_le _) (by first | exact Or.inl rfl | exact Or.inr rfl | assumption) ?_
      first | exact ⟨bI_t ⟨c_9, c_50⟩, by unfold tryT; rw [if_pos c_9], rfl⟩ | exact ⟨bI_f (fun q => c_50 q.2), by unfold tryT; rw [if_pos c_9], rfl⟩
    · refine v_iconst (pc := 53) (v := 1) (by decide) dX6_tryPad_53 ?_
      refine v_goto (pc := 54) (tgt := 58) dX6_tryPad_54 (by decide) ?_
      refine v_zret (pc := 58) dX6_tryPad_58 (Nat.zero_le _) (Nat.zero_le _) (by first | exact Or.inl rfl | exact Or.inr rfl | assumption) ?_
      first | exact ⟨bI_t ⟨c_9, c_50⟩, by unfold tryT; rw [if_pos c_9], rfl⟩ | exact ⟨bI_f (fun q => c_50 q.2), by unfold tryT; rw [if_pos c_9], rfl⟩
  · refine v_iconst (pc := 12) (v := 0) (by decide) dX6_tryPad_12 ?_
    refine v_zret (pc := 13) dX6_tryPad_13 (Nat.zero_le _) (Nat.zero_le _) (by first | exact Or.inl rfl | exact Or.inr rfl | assumption) ?_
    exact ⟨bI_f (fun q => c_9 q.1), by unfold tryT; rw [if_neg c_9], rfl⟩
