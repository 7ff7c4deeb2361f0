/-! the model: judge, done, behind, then; falls, speak, laws, power, held -/
theorem cFl_neg {S : Nat → Int32} {n : Nat} (hn : n ≤ 60) : ∀ f a, a ≤ n → cFl S n f a < 0 → cFl S n f a = -6
  | 0, _, _, _ => rfl
  | f + 1, a, ha, h => by
    rw [cFl] at h ⊢
    split at h
    · next hlt =>
      rw [if_pos hlt]
      split at h
      · next h1 => rw [if_pos h1]; exact cFl_neg hn f (a + 1) (by omega) h
      · next h1 =>
        rw [if_neg h1]
        split at h
        · next h2 =>
          rw [if_pos h2]
          split at h
          · next h3 =>
            rw [if_pos h3]
            split at h
            · next h4 => rw [if_pos h4]; exact cFl_neg hn f (a + 2) (by omega) h
            · exact absurd h (nI_pos (by omega))
          · exact absurd h (nI_pos (by omega))
        · exact absurd h (nI_pos (by omega))
    · next hlt => rw [if_neg hlt]
theorem mFl_eq {S : Nat → Int32} {n : Nat} (hn : n ≤ 60) : ∀ f a, a ≤ n → n - a < f → ∀ f2, n - a < f2 → mFl S n f2 a 0 = cFl S n f a := by
  intro f
  induction f with
  | zero => intro a h1 h2; omega
  | succ f ih =>
    intro a h1 h2 f2 h3
    obtain ⟨g, rfl⟩ : ∃ g, f2 = g + 1 := ⟨f2 - 1, by omega⟩
    rw [cFl, mFl]
    by_cases hlt : a < n
    · rw [if_pos hlt, if_pos hlt]
      by_cases h46 : S a = 46
      · rw [if_pos h46, if_pos (Or.inl ⟨rfl, Or.inr (Or.inr h46)⟩)]
        rw [show nxS 0 (S a) = 0 from if_pos (Or.inr h46)]
        exact ih (a + 1) (by omega) (by omega) g (by omega)
      · rw [if_neg h46]
        by_cases hl : S a = 126 ∨ (65 ≤ S a ∧ S a ≤ 71)
        · rw [if_pos hl, if_pos (Or.inl ⟨rfl, hl.elim (fun q => Or.inr (Or.inl q)) (fun q => Or.inl q)⟩)]
          have hst : ∃ st : Int32, nxS 0 (S a) = st ∧ ¬ st = 0 ∧ (st = 1 ↔ ¬ S a = 126) := by
            by_cases h126 : S a = 126
            · refine ⟨2, ?_, by decide, ⟨fun q => absurd q (by decide), fun q => absurd h126 q⟩⟩
              unfold nxS
              rw [if_neg (fun q => q.elim (fun z => z rfl) h46), if_pos h126]
            · refine ⟨1, ?_, by decide, ⟨fun _ => h126, fun _ => rfl⟩⟩
              unfold nxS
              rw [if_neg (fun q => q.elim (fun z => z rfl) h46), if_neg h126]
          obtain ⟨st, e1, e2, e3⟩ := hst
          rw [e1]
          by_cases h1n : a + 1 < n
          · obtain ⟨g2, rfl⟩ : ∃ g2, g = g2 + 1 := ⟨g - 1, by omega⟩
            rw [if_pos h1n, mFl, if_pos h1n]
            have hiff : fitS st (S (a + 1)) ↔ canF (S a) (S (a + 1)) := by
              constructor
              · rintro (⟨q, -⟩ | ⟨-, q, r⟩ | ⟨-, q, r⟩)
                · exact absurd q e2
                · exact Or.inr ⟨e3.mp q, r⟩
                · exact Or.inl ⟨Decidable.byContradiction (fun z => q (e3.mpr z)), r⟩
              · rintro (⟨q, r⟩ | ⟨q, r⟩)
                · exact Or.inr (Or.inr ⟨e2, fun z => e3.mp z q, r⟩)
                · exact Or.inr (Or.inl ⟨e2, e3.mpr q, r⟩)
            by_cases hc : canF (S a) (S (a + 1))
            · rw [if_pos hc, if_pos (hiff.mpr hc), show nxS st (S (a + 1)) = 0 from if_pos (Or.inl e2)]
              exact ih (a + 2) (by omega) (by omega) g2 (by omega)
            · rw [if_neg hc, if_neg (fun q => hc (hiff.mp q))]
          · obtain ⟨g2, rfl⟩ : ∃ g2, g = g2 + 1 := ⟨g - 1, by omega⟩
            rw [if_neg h1n, mFl, if_neg h1n, if_neg e2]
        · rw [if_neg hl, if_neg]
          rintro (⟨-, q | q | q⟩ | ⟨q, -⟩ | ⟨q, -⟩)
          · exact hl (Or.inr q)
          · exact hl (Or.inl q)
          · exact h46 q
          · exact q rfl
          · exact q rfl
    · rw [if_neg hlt, if_neg hlt, if_pos rfl]
abbrev okG (M : mM) (n : Nat) : Prop := cFl (M 55) n 61 0 = -6 ∧ (goM M n).1 < 0
def goT (M : mM) (n : Nat) : mM := if cFl (M 55) n 61 0 = -6 then (goM M n).2 else M

set_option maxRecDepth 100000 in
set_option maxHeartbeats 4000000 in
theorem m_judge {x : Int32} {n : Nat} {M : mM} {J : mJ} (hn : M 49 8 = nI n) (h60 : n ≤ 60) (hwf : WNb M) : Ct yX7_judge cX7_judge 3 (some .int) (rmD 4) false [.ref 49, .int x] LY M J (mNi LY (fun r0 M1 J1 => r0 = (if 0 ≤ x ∧ x ≤ 1 then (if cFl (M 55) n 61 0 = -6 then (if (goM M n).1 < 0 ∨ x = 0 then (goM M n).1 else (goM M n).2 49 10) else -5) else -2) ∧ M1 = (if 0 ≤ x ∧ x ≤ 1 then goT M n else M) ∧ J1 = J)) := by
  refine ct_of (own := RX7) (ini := false) (ls := [some (.ref 49), some (.int x), none]) 1 (by decide +kernel) rfl (fun h => by cases h) rfl (fun ad => by first | exact Nat.le_of_ble_eq_true rfl) ?_
  have eF := mFl_eq (S := M 55) h60 61 0 (Nat.zero_le _) (by omega) 61 (by omega)
  refine v_iload_n (pc := 0) dX7_judge_0 rfl ?_
  refine v_iconst (pc := 1) (v := 0) (by decide) dX7_judge_1 ?_
  refine v_iconst (pc := 2) (v := 1) (by decide) dX7_judge_2 ?_
  refine v_cS3i (pc := 3) dX7_judge_3 mkX7_49 m_in (Nat.le_of_ble_eq_true rfl) rfl (Nat.zero_le _) (Nat.zero_le _) (fun r_3 M_3 J_3 h_3 => ?_)
  obtain ⟨e1_3, e2_3, e3_3⟩ := h_3
  replace e1_3 := e1_3.symm
  replace e2_3 := e2_3.symm
  replace e3_3 := e3_3.symm
  subst e1_3 e2_3 e3_3
  refine v_if_ne (pc := 6) (tgt := 12) dX7_judge_6 (by decide) (fun c_6 => ?_) (fun c_6 => ?_)
  · refine v_aload_n (pc := 12) dX7_judge_12 rfl ?_
    refine v_cV0i (pc := 13) dX7_judge_13 mkX7_74 (m_faultOf hn h60) ly49 rfl (Nat.le_of_ble_eq_true rfl) rfl (Nat.zero_le _) (Nat.zero_le _) (fun r_13 M_13 J_13 h_13 => ?_)
    obtain ⟨e1_13, e2_13, e3_13⟩ := h_13
    replace e1_13 := e1_13.symm
    replace e2_13 := e2_13.symm
    replace e3_13 := e3_13.symm
    subst e1_13 e2_13 e3_13
    rw [eF]
    refine v_if_lt (pc := 16) (tgt := 22) dX7_judge_16 (by decide) (fun c_16 => ?_) (fun c_16 => ?_)
    · refine v_aload_n (pc := 22) dX7_judge_22 rfl ?_
      refine v_cV0i (pc := 23) dX7_judge_23 mkX7_101 (m_go hn h60 hwf (cFl_neg h60 61 0 (Nat.zero_le _) c_16)) ly49 rfl (Nat.le_of_ble_eq_true rfl) rfl (Nat.zero_le _) (Nat.zero_le _) (fun r_23 M_23 J_23 h_23 => ?_)
      obtain ⟨e1_23, e2_23, e3_23⟩ := h_23
      replace e1_23 := e1_23.symm
      replace e2_23 := e2_23.symm
      replace e3_23 := e3_23.symm
      subst e1_23 e2_23 e3_23
      refine v_ist_2 (pc := 26) dX7_judge_26 (by decide) rfl ?_
      refine v_iload_n (pc := 27) dX7_judge_27 rfl ?_
      refine v_if_lt (pc := 28) (tgt := 35) dX7_judge_28 (by decide) (fun c_28 => ?_) (fun c_28 => ?_)
      · refine v_iload_n (pc := 35) dX7_judge_35 rfl ?_
        refine v_goto (pc := 36) (tgt := 43) dX7_judge_36 (by decide) ?_
        refine v_iret (pc := 43) dX7_judge_43 (Nat.zero_le _) (Nat.zero_le _) ?_
        have hz := cFl_neg h60 61 0 (Nat.zero_le _) c_16
        exact ⟨by rw [if_pos (bI_n0.mp c_6), if_pos hz, if_pos (Or.inl c_28)], by rw [if_pos (bI_n0.mp c_6)]; unfold goT; rw [if_pos hz], rfl⟩
      · refine v_iload_n (pc := 31) dX7_judge_31 rfl ?_
        refine v_if_ne (pc := 32) (tgt := 39) dX7_judge_32 (by decide) (fun c_32 => ?_) (fun c_32 => ?_)
        · refine v_aload_n (pc := 39) dX7_judge_39 rfl ?_
          refine v_getI (pc := 40) fkX7_87 ly49 rfl dX7_judge_40 ?_
          refine v_iret (pc := 43) dX7_judge_43 (Nat.zero_le _) (Nat.zero_le _) ?_
          have hz := cFl_neg h60 61 0 (Nat.zero_le _) c_16
          exact ⟨by rw [if_pos (bI_n0.mp c_6), if_pos hz, if_neg (fun q => q.elim c_28 c_32)], by rw [if_pos (bI_n0.mp c_6)]; unfold goT; rw [if_pos hz], rfl⟩
        · refine v_iload_n (pc := 35) dX7_judge_35 rfl ?_
          refine v_goto (pc := 36) (tgt := 43) dX7_judge_36 (by decide) ?_
          refine v_iret (pc := 43) dX7_judge_43 (Nat.zero_le _) (Nat.zero_le _) ?_
          have hz := cFl_neg h60 61 0 (Nat.zero_le _) c_16
          exact ⟨by rw [if_pos (bI_n0.mp c_6), if_pos hz, if_pos (Or.inr c_32)], by rw [if_pos (bI_n0.mp c_6)]; unfold goT; rw [if_pos hz], rfl⟩
    · refine v_bipush (pc := 19) (v := (-5)) (by decide) dX7_judge_19 ?_
      refine v_iret (pc := 21) dX7_judge_21 (Nat.zero_le _) (Nat.zero_le _) ?_
      have hz : ¬ cFl (M 55) n 61 0 = -6 := fun q => c_16 (by rw [q]; decide)
      exact ⟨by rw [if_pos (bI_n0.mp c_6), if_neg hz], by rw [if_pos (bI_n0.mp c_6)]; unfold goT; rw [if_neg hz], rfl⟩
  · refine v_bipush (pc := 9) (v := (-2)) (by decide) dX7_judge_9 ?_
    refine v_iret (pc := 11) dX7_judge_11 (Nat.zero_le _) (Nat.zero_le _) ?_
    exact ⟨by rw [if_neg (bI_0.mp c_6)]; try rfl, by rw [if_neg (bI_0.mp c_6)]; try rfl, rfl⟩

set_option maxRecDepth 100000 in
set_option maxHeartbeats 4000000 in
theorem m_bar {n : Nat} {M : mM} {J : mJ} (hn : M 49 8 = nI n) (h60 : n ≤ 60) (hwf : WNb M) : Ct yX7_barOfSitting cX7_barOfSitting 1 (some .int) (rmD 4) false [.ref 49] LY M J (mNi LY (fun r0 M1 J1 => r0 = (if okG M n then 0 else -5) ∧ M1 = goT M n ∧ J1 = J)) := by
  refine ct_of (own := RX7) (ini := false) (ls := [some (.ref 49)]) 0 (by decide +kernel) rfl (fun h => by cases h) rfl (fun ad => by first | exact Nat.le_of_ble_eq_true rfl) ?_
  have eF := mFl_eq (S := M 55) h60 61 0 (Nat.zero_le _) (by omega) 61 (by omega)
  refine v_aload_n (pc := 0) dX7_barOfSitting_0 rfl ?_
  refine v_cV0i (pc := 1) dX7_barOfSitting_1 mkX7_74 (m_faultOf hn h60) ly49 rfl (Nat.le_of_ble_eq_true rfl) rfl (Nat.zero_le _) (Nat.zero_le _) (fun r_1 M_1 J_1 h_1 => ?_)
  obtain ⟨e1_1, e2_1, e3_1⟩ := h_1
  replace e1_1 := e1_1.symm
  replace e2_1 := e2_1.symm
  replace e3_1 := e3_1.symm
  subst e1_1 e2_1 e3_1
  rw [eF]
  refine v_if_ge (pc := 4) (tgt := 14) dX7_barOfSitting_4 (by decide) (fun c_4 => ?_) (fun c_4 => ?_)
  · refine v_bipush (pc := 14) (v := (-5)) (by decide) dX7_barOfSitting_14 ?_
    refine v_goto (pc := 16) (tgt := 20) dX7_barOfSitting_16 (by decide) ?_
    refine v_iret (pc := 20) dX7_barOfSitting_20 (Nat.zero_le _) (Nat.zero_le _) ?_
    have hz : ¬ cFl (M 55) n 61 0 = -6 := fun q => absurd c_4 (by rw [q]; decide)
    exact ⟨by rw [if_neg (fun q => hz q.1)], by unfold goT; rw [if_neg hz], rfl⟩
  · refine v_aload_n (pc := 7) dX7_barOfSitting_7 rfl ?_
    refine v_cV0i (pc := 8) dX7_barOfSitting_8 mkX7_101 (m_go hn h60 hwf (cFl_neg h60 61 0 (Nat.zero_le _) (Int32.not_le.mp c_4))) ly49 rfl (Nat.le_of_ble_eq_true rfl) rfl (Nat.zero_le _) (Nat.zero_le _) (fun r_8 M_8 J_8 h_8 => ?_)
    obtain ⟨e1_8, e2_8, e3_8⟩ := h_8
    replace e1_8 := e1_8.symm
    replace e2_8 := e2_8.symm
    replace e3_8 := e3_8.symm
    subst e1_8 e2_8 e3_8
    refine v_if_lt (pc := 11) (tgt := 19) dX7_barOfSitting_11 (by decide) (fun c_11 => ?_) (fun c_11 => ?_)
    · refine v_iconst (pc := 19) (v := 0) (by decide) dX7_barOfSitting_19 ?_
      refine v_iret (pc := 20) dX7_barOfSitting_20 (Nat.zero_le _) (Nat.zero_le _) ?_
      have hz := cFl_neg h60 61 0 (Nat.zero_le _) (Int32.not_le.mp c_4)
      exact ⟨by rw [if_pos ⟨hz, c_11⟩], by unfold goT; rw [if_pos hz], rfl⟩
    · refine v_bipush (pc := 14) (v := (-5)) (by decide) dX7_barOfSitting_14 ?_
      refine v_goto (pc := 16) (tgt := 20) dX7_barOfSitting_16 (by decide) ?_
      refine v_iret (pc := 20) dX7_barOfSitting_20 (Nat.zero_le _) (Nat.zero_le _) ?_
      have hz := cFl_neg h60 61 0 (Nat.zero_le _) (Int32.not_le.mp c_4)
      exact ⟨by rw [if_neg (fun q => c_11 q.2)], by unfold goT; rw [if_pos hz], rfl⟩

theorem bar_lt {p : Prop} [Decidable p] : (0 : Int32) ≤ (if p then 0 else -5) ↔ p := by
  by_cases h : p
  · rw [if_pos h]; exact ⟨fun _ => h, fun _ => by decide⟩
  · rw [if_neg h]; exact ⟨fun q => absurd q (by decide), fun q => absurd q h⟩

set_option maxRecDepth 100000 in
set_option maxHeartbeats 1000000 in
theorem l_done {M0 : mM} {M : mM} {J : mJ} : ∀ (n i : Nat), n + i = 107 → V RX7 cX7_done 2 (some .int) false (rmD 5) false LY.length none (mNi LY (fun r0 M1 J1 => r0 = cpR M 53 54 0 107 49 11 ∧ M1 = mU (cpR M 53 54 0 107) 49 8 0 ∧ J1 = J)) 0 0 12 [some (.ref 49), some (.int (nI i))] [] LY (cpR M 53 54 0 i) J := by
  intro n
  induction n with
  | zero =>
    intro i hi
    obtain rfl : i = 107 := by omega
    refine v_iload_n (pc := 12) dX7_done_12 rfl ?_
    refine v_bipush (pc := 13) (v := 107) (by decide) dX7_done_13 ?_
    refine v_icmp_ge (pc := 15) (tgt := 36) dX7_done_15 (by decide) (fun c_15 => ?_) (fun c_15 => absurd (by decide) c_15)
    refine v_aload_n (pc := 36) dX7_done_36 rfl ?_
    refine v_iconst (pc := 37) (v := 0) (by decide) dX7_done_37 ?_
    refine v_putI (pc := 38) fkX7_68p ly49 rfl dX7_done_38 ?_
    refine v_aload_n (pc := 41) dX7_done_41 rfl ?_
    refine v_getI (pc := 42) fkX7_84 ly49 rfl dX7_done_42 ?_
    refine v_iret (pc := 45) dX7_done_45 (Nat.zero_le _) (Nat.zero_le _) ?_
    exact ⟨rfl, rfl, rfl⟩
  | succ n ih =>
    intro i hi
    have hcl := nI_clamp (show i < 2 ^ 31 by omega)
    refine v_iload_n (pc := 12) dX7_done_12 rfl ?_
    refine v_bipush (pc := 13) (v := 107) (by decide) dX7_done_13 ?_
    refine v_icmp_ge (pc := 15) (tgt := 36) dX7_done_15 (by decide) (fun c_15 => absurd c_15 (nI_ge (b := 107) (show i < 107 by omega) (by omega))) (fun c_15 => ?_)
    refine v_aload_n (pc := 18) dX7_done_18 rfl ?_
    refine v_getR (pc := 19) fkX7_23 ly49 rfl dX7_done_19 ?_
    refine v_iload_n (pc := 22) dX7_done_22 rfl ?_
    refine v_aload_n (pc := 23) dX7_done_23 rfl ?_
    refine v_getR (pc := 24) fkX7_26 ly49 rfl dX7_done_24 ?_
    refine v_iload_n (pc := 27) dX7_done_27 rfl ?_
    refine v_iald (pc := 28) ly54 ?_ dX7_done_28 ?_
    · exact vp_in_nI (show i < 107 by omega) (by omega)
    refine v_iast (pc := 29) ly53 ?_ dX7_done_29 ?_
    · exact vp_in_nI (show i < 107 by omega) (by omega)
    refine v_inc_1 (pc := 30) (v := 1) dX7_done_30 (by decide) (by decide) rfl ?_
    refine v_goto (pc := 33) (tgt := 12) dX7_done_33 (by decide) ?_
    rw [hcl, cpR_nx (by decide) (Nat.zero_le _), nI_1]
    exact ih (i + 1) (by omega)

set_option maxRecDepth 100000 in
set_option maxHeartbeats 4000000 in
theorem m_done {n : Nat} {M : mM} {J : mJ} (hn : M 49 8 = nI n) (h60 : n ≤ 60) (hwf : WNb M) : Ct yX7_done cX7_done 2 (some .int) (rmD 5) false [.ref 49] LY M J (mNi LY (fun r0 M1 J1 => r0 = (if okG M n then goT M n 49 11 else -5) ∧ M1 = (if okG M n then mU (cpR (goT M n) 53 54 0 107) 49 8 0 else goT M n) ∧ J1 = J)) := by
  refine ct_of (own := RX7) (ini := false) (ls := [some (.ref 49), none]) 1 (by decide +kernel) rfl (fun h => by cases h) rfl (fun ad => by first | exact Nat.le_of_ble_eq_true rfl) ?_
  refine v_aload_n (pc := 0) dX7_done_0 rfl ?_
  refine v_cV0i (pc := 1) dX7_done_1 mkX7_104 (m_bar hn h60 hwf) ly49 rfl (Nat.le_of_ble_eq_true rfl) rfl (Nat.zero_le _) (Nat.zero_le _) (fun r_1 M_1 J_1 h_1 => ?_)
  obtain ⟨e1_1, e2_1, e3_1⟩ := h_1
  replace e1_1 := e1_1.symm
  replace e2_1 := e2_1.symm
  replace e3_1 := e3_1.symm
  subst e1_1 e2_1 e3_1
  refine v_if_ge (pc := 4) (tgt := 10) dX7_done_4 (by decide) (fun c_4 => ?_) (fun c_4 => ?_)
  · refine v_iconst (pc := 10) (v := 0) (by decide) dX7_done_10 ?_
    refine v_ist_1 (pc := 11) dX7_done_11 (by decide) rfl ?_
    have hz := bar_lt.mp c_4
    have e9 := l_done (M0 := M) (M := goT M n) (J := J) 107 0 rfl
    rw [cpR_0] at e9
    refine V.mono (fun o a b c q => ?_) e9
    rw [if_pos hz, if_pos hz]
    rw [cpR_ne (show (49 : Nat) ≠ 53 by decide)] at q
    exact q
  · refine v_bipush (pc := 7) (v := (-5)) (by decide) dX7_done_7 ?_
    refine v_iret (pc := 9) dX7_done_9 (Nat.zero_le _) (Nat.zero_le _) ?_
    exact ⟨by rw [if_neg (fun q => c_4 (bar_lt.mpr q))]; try rfl, by rw [if_neg (fun q => c_4 (bar_lt.mpr q))]; try rfl, rfl⟩

set_option maxRecDepth 100000 in
set_option maxHeartbeats 4000000 in
theorem m_behind {x y : Int32} {n : Nat} {M : mM} {J : mJ} (hn : M 49 8 = nI n) (h60 : n ≤ 60) (hwf : WNb M) : Ct yX7_behind cX7_behind 3 (some .int) (rmD 5) false [.ref 49, .int x, .int y] LY M J (mNi LY (fun r0 M1 J1 => r0 = (if hT M x then (if 0 ≤ y ∧ y ≤ 1 then (if okG M n then (if y = 0 then goT M n 54 x.toNatClampNeg else (goT M n 54 7 >>> (x &&& 31)) &&& 1) else -5) else -2) else -1) ∧ M1 = (if hT M x then (if 0 ≤ y ∧ y ≤ 1 then goT M n else M) else M) ∧ J1 = J)) := by
  refine ct_of (own := RX7) (ini := false) (ls := [some (.ref 49), some (.int x), some (.int y)]) 0 (by decide +kernel) rfl (fun h => by cases h) rfl (fun ad => by first | exact Nat.le_of_ble_eq_true rfl) ?_
  refine v_aload_n (pc := 0) dX7_behind_0 rfl ?_
  refine v_iload_n (pc := 1) dX7_behind_1 rfl ?_
  refine v_cV1i (pc := 2) dX7_behind_2 mkX7_64 m_isThere ly49 rfl (Nat.le_of_ble_eq_true rfl) rfl (Nat.zero_le _) (Nat.zero_le _) (fun r_2 M_2 J_2 h_2 => ?_)
  obtain ⟨e1_2, e2_2, e3_2⟩ := h_2
  replace e1_2 := e1_2.symm
  replace e2_2 := e2_2.symm
  replace e3_2 := e3_2.symm
  subst e1_2 e2_2 e3_2
  refine v_if_ne (pc := 5) (tgt := 10) dX7_behind_5 (by decide) (fun c_5 => ?_) (fun c_5 => ?_)
  · refine v_iload_n (pc := 10) dX7_behind_10 rfl ?_
    refine v_iconst (pc := 11) (v := 0) (by decide) dX7_behind_11 ?_
    refine v_iconst (pc := 12) (v := 1) (by decide) dX7_behind_12 ?_
    refine v_cS3i (pc := 13) dX7_behind_13 mkX7_49 m_in (Nat.le_of_ble_eq_true rfl) rfl (Nat.zero_le _) (Nat.zero_le _) (fun r_13 M_13 J_13 h_13 => ?_)
    obtain ⟨e1_13, e2_13, e3_13⟩ := h_13
    replace e1_13 := e1_13.symm
    replace e2_13 := e2_13.symm
    replace e3_13 := e3_13.symm
    subst e1_13 e2_13 e3_13
    refine v_if_ne (pc := 16) (tgt := 22) dX7_behind_16 (by decide) (fun c_16 => ?_) (fun c_16 => ?_)
    · refine v_aload_n (pc := 22) dX7_behind_22 rfl ?_
      refine v_cV0i (pc := 23) dX7_behind_23 mkX7_104 (m_bar hn h60 hwf) ly49 rfl (Nat.le_of_ble_eq_true rfl) rfl (Nat.zero_le _) (Nat.zero_le _) (fun r_23 M_23 J_23 h_23 => ?_)
      obtain ⟨e1_23, e2_23, e3_23⟩ := h_23
      replace e1_23 := e1_23.symm
      replace e2_23 := e2_23.symm
      replace e3_23 := e3_23.symm
      subst e1_23 e2_23 e3_23
      refine v_if_ge (pc := 26) (tgt := 32) dX7_behind_26 (by decide) (fun c_26 => ?_) (fun c_26 => ?_)
      · refine v_iload_n (pc := 32) dX7_behind_32 rfl ?_
        refine v_if_ne (pc := 33) (tgt := 45) dX7_behind_33 (by decide) (fun c_33 => ?_) (fun c_33 => ?_)
        · refine v_aload_n (pc := 45) dX7_behind_45 rfl ?_
          refine v_getR (pc := 46) fkX7_26 ly49 rfl dX7_behind_46 ?_
          refine v_bipush (pc := 49) (v := 7) (by decide) dX7_behind_49 ?_
          refine v_iald (pc := 51) ly54 ?_ dX7_behind_51 ?_
          · unfold vp_in; decide
          rw [show Int32.toNatClampNeg 7 = 7 from rfl]
          refine v_iload_n (pc := 52) dX7_behind_52 rfl ?_
          refine v_ishr (pc := 53) dX7_behind_53 ?_
          refine v_iconst (pc := 54) (v := 1) (by decide) dX7_behind_54 ?_
          refine v_iand (pc := 55) dX7_behind_55 ?_
          refine v_iret (pc := 56) dX7_behind_56 (Nat.zero_le _) (Nat.zero_le _) ?_
          exact ⟨by rw [if_pos (bI_n0.mp c_5), if_pos (bI_n0.mp c_16), if_pos (bar_lt.mp c_26), if_neg c_33], by rw [if_pos (bI_n0.mp c_5), if_pos (bI_n0.mp c_16)], rfl⟩
        · refine v_aload_n (pc := 36) dX7_behind_36 rfl ?_
          refine v_getR (pc := 37) fkX7_26 ly49 rfl dX7_behind_37 ?_
          refine v_iload_n (pc := 40) dX7_behind_40 rfl ?_
          refine v_iald (pc := 41) ly54 ?_ dX7_behind_41 ?_
          · exact vp_in_iff.mpr (by obtain ⟨k, hk, hx⟩ := gM_nat ⟨(bI_n0.mp c_5).1, (bI_n0.mp c_5).2.1⟩; rw [hx, nI_toInt (by omega)]; omega)
          refine v_goto (pc := 42) (tgt := 56) dX7_behind_42 (by decide) ?_
          refine v_iret (pc := 56) dX7_behind_56 (Nat.zero_le _) (Nat.zero_le _) ?_
          exact ⟨by rw [if_pos (bI_n0.mp c_5), if_pos (bI_n0.mp c_16), if_pos (bar_lt.mp c_26), if_pos c_33], by rw [if_pos (bI_n0.mp c_5), if_pos (bI_n0.mp c_16)], rfl⟩
      · refine v_bipush (pc := 29) (v := (-5)) (by decide) dX7_behind_29 ?_
        refine v_iret (pc := 31) dX7_behind_31 (Nat.zero_le _) (Nat.zero_le _) ?_
        exact ⟨by rw [if_pos (bI_n0.mp c_5), if_pos (bI_n0.mp c_16), if_neg (fun q => c_26 (bar_lt.mpr q))], by rw [if_pos (bI_n0.mp c_5), if_pos (bI_n0.mp c_16)], rfl⟩
    · refine v_bipush (pc := 19) (v := (-2)) (by decide) dX7_behind_19 ?_
      refine v_iret (pc := 21) dX7_behind_21 (Nat.zero_le _) (Nat.zero_le _) ?_
      exact ⟨by rw [if_pos (bI_n0.mp c_5), if_neg (bI_0.mp c_16)]; try rfl, by rw [if_pos (bI_n0.mp c_5), if_neg (bI_0.mp c_16)]; try rfl, rfl⟩
  · refine v_iconst (pc := 8) (v := (-1)) (by decide) dX7_behind_8 ?_
    refine v_iret (pc := 9) dX7_behind_9 (Nat.zero_le _) (Nat.zero_le _) ?_
    exact ⟨by rw [if_neg (bI_0.mp c_5)]; try rfl, by rw [if_neg (bI_0.mp c_5)]; try rfl, rfl⟩

set_option maxRecDepth 100000 in
set_option maxHeartbeats 4000000 in
theorem m_then {x : Int32} {n : Nat} {M : mM} {J : mJ} (hn : M 49 8 = nI n) (h60 : n ≤ 60) (hwf : WNb M) : Ct yX7_then cX7_then 2 (some .int) (rmD 5) false [.ref 49, .int x] LY M J (mNi LY (fun r0 M1 J1 => r0 = (if 0 ≤ x ∧ x ≤ 3 then (if okG M n then goT M n 54 (7 + x).toNatClampNeg else -5) else -2) ∧ M1 = (if 0 ≤ x ∧ x ≤ 3 then goT M n else M) ∧ J1 = J)) := by
  refine ct_of (own := RX7) (ini := false) (ls := [some (.ref 49), some (.int x)]) 0 (by decide +kernel) rfl (fun h => by cases h) rfl (fun ad => by first | exact Nat.le_of_ble_eq_true rfl) ?_
  refine v_iload_n (pc := 0) dX7_then_0 rfl ?_
  refine v_iconst (pc := 1) (v := 0) (by decide) dX7_then_1 ?_
  refine v_iconst (pc := 2) (v := 3) (by decide) dX7_then_2 ?_
  refine v_cS3i (pc := 3) dX7_then_3 mkX7_49 m_in (Nat.le_of_ble_eq_true rfl) rfl (Nat.zero_le _) (Nat.zero_le _) (fun r_3 M_3 J_3 h_3 => ?_)
  obtain ⟨e1_3, e2_3, e3_3⟩ := h_3
  replace e1_3 := e1_3.symm
  replace e2_3 := e2_3.symm
  replace e3_3 := e3_3.symm
  subst e1_3 e2_3 e3_3
  refine v_if_ne (pc := 6) (tgt := 12) dX7_then_6 (by decide) (fun c_6 => ?_) (fun c_6 => ?_)
  · refine v_aload_n (pc := 12) dX7_then_12 rfl ?_
    refine v_cV0i (pc := 13) dX7_then_13 mkX7_104 (m_bar hn h60 hwf) ly49 rfl (Nat.le_of_ble_eq_true rfl) rfl (Nat.zero_le _) (Nat.zero_le _) (fun r_13 M_13 J_13 h_13 => ?_)
    obtain ⟨e1_13, e2_13, e3_13⟩ := h_13
    replace e1_13 := e1_13.symm
    replace e2_13 := e2_13.symm
    replace e3_13 := e3_13.symm
    subst e1_13 e2_13 e3_13
    refine v_if_ge (pc := 16) (tgt := 24) dX7_then_16 (by decide) (fun c_16 => ?_) (fun c_16 => ?_)
    · refine v_aload_n (pc := 24) dX7_then_24 rfl ?_
      refine v_getR (pc := 25) fkX7_26 ly49 rfl dX7_then_25 ?_
      refine v_bipush (pc := 28) (v := 7) (by decide) dX7_then_28 ?_
      refine v_iload_n (pc := 30) dX7_then_30 rfl ?_
      refine v_iadd (pc := 31) dX7_then_31 ?_
      refine v_iald (pc := 32) ly54 ?_ dX7_then_32 ?_
      · exact vp_in_iff.mpr (by obtain ⟨k, hk, rfl⟩ := rngN (a := 0) (n := 3) rfl rfl (by omega) (bI_n0.mp c_6).1 (bI_n0.mp c_6).2; rw [show (7 : Int32) + nI (0 + k) = nI (7 + (0 + k)) from nI_add 7 (0 + k), nI_toInt (by omega)]; omega)
      refine v_iret (pc := 33) dX7_then_33 (Nat.zero_le _) (Nat.zero_le _) ?_
      exact ⟨by rw [if_pos (bI_n0.mp c_6), if_pos (bar_lt.mp c_16)], by rw [if_pos (bI_n0.mp c_6)], rfl⟩
    · refine v_bipush (pc := 19) (v := (-5)) (by decide) dX7_then_19 ?_
      refine v_goto (pc := 21) (tgt := 33) dX7_then_21 (by decide) ?_
      refine v_iret (pc := 33) dX7_then_33 (Nat.zero_le _) (Nat.zero_le _) ?_
      exact ⟨by rw [if_pos (bI_n0.mp c_6), if_neg (fun q => c_16 (bar_lt.mpr q))], by rw [if_pos (bI_n0.mp c_6)], rfl⟩
  · refine v_bipush (pc := 9) (v := (-2)) (by decide) dX7_then_9 ?_
    refine v_iret (pc := 11) dX7_then_11 (Nat.zero_le _) (Nat.zero_le _) ?_
    exact ⟨by rw [if_neg (bI_0.mp c_6)]; try rfl, by rw [if_neg (bI_0.mp c_6)]; try rfl, rfl⟩

set_option maxRecDepth 100000 in
set_option maxHeartbeats 4000000 in
theorem lm_falls  {M : mM} {J : mJ}  : ∀ (n i : Nat), n + i = 7 → V RX7 cX7_falls 3 (some .int) false (rmD 1) false LY.length none (mNi LY (fun r0 M1 J1 => r0 = itN (fl (M 53 7) (M 53)) 0 7 ∧ M1 = M ∧ J1 = J)) 0 0 4 [some (.ref 49), some (.int (itN (fl (M 53 7) (M 53)) 0 i)), some (.int (nI i))] [] LY M J := by
  intro n
  induction n with
  | zero =>
    intro i hi
    obtain rfl : i = 7 := by omega
    refine v_iload_n (pc := 4) dX7_falls_4 rfl ?_
    refine v_bipush (pc := 5) (v := 7) (by decide) dX7_falls_5 ?_
    refine v_icmp_ge (pc := 7) (tgt := 55) dX7_falls_7 (by decide) (fun c_7 => ?_) (fun c_7 => absurd (by decide) c_7)
    refine v_iload_n (pc := 55) dX7_falls_55 rfl ?_
    refine v_iret (pc := 56) dX7_falls_56 (Nat.zero_le _) (Nat.zero_le _) ?_
    exact ⟨rfl, rfl, rfl⟩
  | succ n ih =>
    intro i hi
    have hb7 : i < 7 := by omega
    have hcl := nI_clamp (show i < 2 ^ 31 by omega)
    refine v_iload_n (pc := 4) dX7_falls_4 rfl ?_
    refine v_bipush (pc := 5) (v := 7) (by decide) dX7_falls_5 ?_
    refine v_icmp_ge (pc := 7) (tgt := 55) dX7_falls_7 (by decide) (fun c_7 => absurd c_7 (nI_ge (b := 7) hb7 (by omega))) (fun c_7 => ?_)
    refine v_aload_n (pc := 10) dX7_falls_10 rfl ?_
    refine v_getR (pc := 11) fkX7_23 ly49 rfl dX7_falls_11 ?_
    refine v_bipush (pc := 14) (v := 7) (by decide) dX7_falls_14 ?_
    refine v_iald (pc := 16) ly53 ?_ dX7_falls_16 ?_
    · unfold vp_in; decide
    rw [show Int32.toNatClampNeg 7 = 7 from rfl]
    refine v_iload_n (pc := 17) dX7_falls_17 rfl ?_
    refine v_cS2i (pc := 18) dX7_falls_18 mkX7_56 m_has (Nat.le_of_ble_eq_true rfl) rfl (Nat.zero_le _) (Nat.zero_le _) (fun r_18 M_18 J_18 h_18 => ?_)
    obtain ⟨e1_18, e2_18, e3_18⟩ := h_18
    replace e1_18 := e1_18.symm
    replace e2_18 := e2_18.symm
    replace e3_18 := e3_18.symm
    subst e1_18 e2_18 e3_18
    refine v_if_eq (pc := 21) (tgt := 47) dX7_falls_21 (by decide) (fun c_21 => ?_) (fun c_21 => ?_)
    · refine v_iload_n (pc := 47) dX7_falls_47 rfl ?_
      refine v_ist_1 (pc := 48) dX7_falls_48 (by decide) rfl ?_
      refine v_inc_2 (pc := 49) (v := 1) dX7_falls_49 (by decide) (by decide) rfl ?_
      refine v_goto (pc := 52) (tgt := 4) dX7_falls_52 (by decide) ?_
      rw [nI_1]
      have e9 := ih (i + 1) (by omega)
      rw [itN_s _ _ i] at e9
      rw [show (fl (M 53 7) (M 53)) i (itN (fl (M 53 7) (M 53)) 0 i) = _ from if_neg (bI_0.mp c_21)] at e9
      exact e9
    · refine v_aload_n (pc := 24) dX7_falls_24 rfl ?_
      refine v_getR (pc := 25) fkX7_23 ly49 rfl dX7_falls_25 ?_
      refine v_iload_n (pc := 28) dX7_falls_28 rfl ?_
      refine v_iald (pc := 29) ly53 ?_ dX7_falls_29 ?_
      · exact vp_in_nI (show i < 107 by omega) (by omega)
      refine v_iconst (pc := 30) (v := 1) (by decide) dX7_falls_30 ?_
      refine v_iadd (pc := 31) dX7_falls_31 ?_
      refine v_iload_n (pc := 32) dX7_falls_32 rfl ?_
      refine v_icmp_le (pc := 33) (tgt := 47) dX7_falls_33 (by decide) (fun c_33 => ?_) (fun c_33 => ?_)
      · refine v_iload_n (pc := 47) dX7_falls_47 rfl ?_
        refine v_ist_1 (pc := 48) dX7_falls_48 (by decide) rfl ?_
        refine v_inc_2 (pc := 49) (v := 1) dX7_falls_49 (by decide) (by decide) rfl ?_
        refine v_goto (pc := 52) (tgt := 4) dX7_falls_52 (by decide) ?_
        rw [nI_1]
        have e9 := ih (i + 1) (by omega)
        rw [itN_s _ _ i] at e9
        rw [hcl] at c_33
        rw [show (fl (M 53 7) (M 53)) i (itN (fl (M 53 7) (M 53)) 0 i) = _ from (if_pos (bI_n0.mp c_21)).trans (if_neg (Int32.not_lt.mpr c_33))] at e9
        exact e9
      · refine v_aload_n (pc := 36) dX7_falls_36 rfl ?_
        refine v_getR (pc := 37) fkX7_23 ly49 rfl dX7_falls_37 ?_
        refine v_iload_n (pc := 40) dX7_falls_40 rfl ?_
        refine v_iald (pc := 41) ly53 ?_ dX7_falls_41 ?_
        · exact vp_in_nI (show i < 107 by omega) (by omega)
        refine v_iconst (pc := 42) (v := 1) (by decide) dX7_falls_42 ?_
        refine v_iadd (pc := 43) dX7_falls_43 ?_
        refine v_goto (pc := 44) (tgt := 48) dX7_falls_44 (by decide) ?_
        refine v_ist_1 (pc := 48) dX7_falls_48 (by decide) rfl ?_
        refine v_inc_2 (pc := 49) (v := 1) dX7_falls_49 (by decide) (by decide) rfl ?_
        refine v_goto (pc := 52) (tgt := 4) dX7_falls_52 (by decide) ?_
        rw [nI_1]
        have e9 := ih (i + 1) (by omega)
        rw [itN_s _ _ i] at e9
        rw [hcl] at c_33
        rw [hcl]
        rw [show (fl (M 53 7) (M 53)) i (itN (fl (M 53 7) (M 53)) 0 i) = _ from (if_pos (bI_n0.mp c_21)).trans (if_pos (Int32.not_le.mp c_33))] at e9
        exact e9

set_option maxRecDepth 100000 in
set_option maxHeartbeats 4000000 in
theorem m_falls  {M : mM} {J : mJ}  : Ct yX7_falls cX7_falls 3 (some .int) (rmD 1) false [.ref 49] LY M J (mNi LY (fun r0 M1 J1 => r0 = itN (fl (M 53 7) (M 53)) 0 7 ∧ M1 = M ∧ J1 = J)) := by
  refine ct_of (own := RX7) (ini := false) (ls := [some (.ref 49), none, none]) 2 (by decide +kernel) rfl (fun h => by cases h) rfl (fun ad => by first | exact Nat.le_of_ble_eq_true rfl) ?_
  refine v_iconst (pc := 0) (v := 0) (by decide) dX7_falls_0 ?_
  refine v_ist_1 (pc := 1) dX7_falls_1 (by decide) rfl ?_
  refine v_iconst (pc := 2) (v := 0) (by decide) dX7_falls_2 ?_
  refine v_ist_2 (pc := 3) dX7_falls_3 (by decide) rfl ?_
  exact lm_falls 7 0 rfl

def nWait (M : mM) (k : Nat) (y m z : Int32) : Int32 := if 0 ≤ m - M 53 8 - mUp M z ∧ z ≤ M 53 k - (m - M 53 8 - mUp M z) ∧ rem10 (M 50 k + mUp M z * M 53 9) = y then m - M 53 8 - mUp M z else -6
def nsp (M : mM) (k : Nat) (y m : Int32) (j : Nat) (p : Int32 × Int32) : Int32 × Int32 := if nWait M k y m (nI (9 - j)) < 0 then p else (p.1 + 1, nI (9 - j))
theorem nsp_ok {M : mM} {k : Nat} {y m : Int32} : ∀ j, j ≤ 9 → (itN (nsp M k y m) (0, -6) j).2 = -6 ∨ ∃ s, 1 ≤ s ∧ s ≤ 9 ∧ (itN (nsp M k y m) (0, -6) j).2 = nI s
  | 0, _ => Or.inl rfl
  | j + 1, h => by
    rw [itN_s]
    unfold nsp
    split
    · exact nsp_ok j (by omega)
    · exact Or.inr ⟨9 - j, by omega, by omega, rfl⟩

set_option maxRecDepth 100000 in
set_option maxHeartbeats 4000000 in
theorem m_wait {k : Nat} {y m z : Int32} {M : mM} {J : mJ} (hk : k < 7) (hz : 1 ≤ z) : Ct yX7_waitFor cX7_waitFor 7 (some .int) (rmD 1) false [.ref 49, .int (nI k), .int y, .int m, .int z] LY M J (mNi LY (fun r0 M1 J1 => r0 = nWait M k y m z ∧ M1 = M ∧ J1 = J)) := by
  refine ct_of (own := RX7) (ini := false) (ls := [some (.ref 49), some (.int (nI k)), some (.int y), some (.int m), some (.int z), none, none]) 2 (by decide +kernel) rfl (fun h => by cases h) rfl (fun ad => by first | exact Nat.le_of_ble_eq_true rfl) ?_
  have hcl := nI_clamp (show k < 2 ^ 31 by omega)
  refine v_iload_n (pc := 0) dX7_waitFor_0 rfl ?_
  refine v_aload_n (pc := 1) dX7_waitFor_1 rfl ?_
  refine v_getR (pc := 2) fkX7_23 ly49 rfl dX7_waitFor_2 ?_
  refine v_bipush (pc := 5) (v := 8) (by decide) dX7_waitFor_5 ?_
  refine v_iald (pc := 7) ly53 ?_ dX7_waitFor_7 ?_
  · unfold vp_in; decide
  rw [show Int32.toNatClampNeg 8 = 8 from rfl]
  refine v_isub (pc := 8) dX7_waitFor_8 ?_
  refine v_aload_n (pc := 9) dX7_waitFor_9 rfl ?_
  refine v_iload (pc := 10) dX7_waitFor_10 rfl ?_
  refine v_cV1i (pc := 12) dX7_waitFor_12 mkX7_78 (m_up hz) ly49 rfl (Nat.le_of_ble_eq_true rfl) rfl (Nat.zero_le _) (Nat.zero_le _) (fun r_12 M_12 J_12 h_12 => ?_)
  obtain ⟨e1_12, e2_12, e3_12⟩ := h_12
  replace e1_12 := e1_12.symm
  replace e2_12 := e2_12.symm
  replace e3_12 := e3_12.symm
  subst e1_12 e2_12 e3_12
  refine v_isub (pc := 15) dX7_waitFor_15 ?_
  refine v_ist_5 (pc := 16) dX7_waitFor_16 (by decide) rfl ?_
  refine v_iload (pc := 18) dX7_waitFor_18 rfl ?_
  refine v_if_lt (pc := 20) (tgt := 69) dX7_waitFor_20 (by decide) (fun c_20 => ?_) (fun c_20 => ?_)
  · refine v_iconst (pc := 69) (v := 0) (by decide) dX7_waitFor_69 ?_
    refine v_ist_6 (pc := 70) dX7_waitFor_70 (by decide) rfl ?_
    refine v_iload (pc := 72) dX7_waitFor_72 rfl ?_
    refine v_if_eq (pc := 74) (tgt := 82) dX7_waitFor_74 (by decide) (fun c_74 => ?_) (fun c_74 => ?_)
    · refine v_bipush (pc := 82) (v := (-6)) (by decide) dX7_waitFor_82 ?_
      refine v_iret (pc := 84) dX7_waitFor_84 (Nat.zero_le _) (Nat.zero_le _) ?_
      unfold nWait mUp
      exact ⟨by rw [if_neg (fun q => absurd q.1 (Int32.not_le.mpr c_20))], rfl, rfl⟩
    · refine v_iload (pc := 77) dX7_waitFor_77 rfl ?_
      refine v_goto (pc := 79) (tgt := 84) dX7_waitFor_79 (by decide) ?_
      refine v_iret (pc := 84) dX7_waitFor_84 (Nat.zero_le _) (Nat.zero_le _) ?_
      exact absurd rfl c_74
  · refine v_aload_n (pc := 23) dX7_waitFor_23 rfl ?_
    refine v_getR (pc := 24) fkX7_23 ly49 rfl dX7_waitFor_24 ?_
    refine v_iload_n (pc := 27) dX7_waitFor_27 rfl ?_
    refine v_iald (pc := 28) ly53 ?_ dX7_waitFor_28 ?_
    · exact vp_in_nI (show k < 107 by omega) (by omega)
    refine v_iload (pc := 29) dX7_waitFor_29 rfl ?_
    refine v_isub (pc := 31) dX7_waitFor_31 ?_
    refine v_iload (pc := 32) dX7_waitFor_32 rfl ?_
    refine v_icmp_lt (pc := 34) (tgt := 69) dX7_waitFor_34 (by decide) (fun c_34 => ?_) (fun c_34 => ?_)
    · refine v_iconst (pc := 69) (v := 0) (by decide) dX7_waitFor_69 ?_
      refine v_ist_6 (pc := 70) dX7_waitFor_70 (by decide) rfl ?_
      refine v_iload (pc := 72) dX7_waitFor_72 rfl ?_
      refine v_if_eq (pc := 74) (tgt := 82) dX7_waitFor_74 (by decide) (fun c_74 => ?_) (fun c_74 => ?_)
      · refine v_bipush (pc := 82) (v := (-6)) (by decide) dX7_waitFor_82 ?_
        refine v_iret (pc := 84) dX7_waitFor_84 (Nat.zero_le _) (Nat.zero_le _) ?_
        unfold nWait mUp
        rw [hcl] at c_34
        exact ⟨by rw [if_neg (fun q => absurd q.2.1 (Int32.not_le.mpr c_34))], rfl, rfl⟩
      · refine v_iload (pc := 77) dX7_waitFor_77 rfl ?_
        refine v_goto (pc := 79) (tgt := 84) dX7_waitFor_79 (by decide) ?_
        refine v_iret (pc := 84) dX7_waitFor_84 (Nat.zero_le _) (Nat.zero_le _) ?_
        exact absurd rfl c_74
    · refine v_aload_n (pc := 37) dX7_waitFor_37 rfl ?_
      refine v_getR (pc := 38) fkX7_7 ly49 rfl dX7_waitFor_38 ?_
      refine v_iload_n (pc := 41) dX7_waitFor_41 rfl ?_
      refine v_iald (pc := 42) ly50 ?_ dX7_waitFor_42 ?_
      · exact vp_in_nI hk (by omega)
      refine v_aload_n (pc := 43) dX7_waitFor_43 rfl ?_
      refine v_iload (pc := 44) dX7_waitFor_44 rfl ?_
      refine v_cV1i (pc := 46) dX7_waitFor_46 mkX7_78 (m_up hz) ly49 rfl (Nat.le_of_ble_eq_true rfl) rfl (Nat.zero_le _) (Nat.zero_le _) (fun r_46 M_46 J_46 h_46 => ?_)
      obtain ⟨e1_46, e2_46, e3_46⟩ := h_46
      replace e1_46 := e1_46.symm
      replace e2_46 := e2_46.symm
      replace e3_46 := e3_46.symm
      subst e1_46 e2_46 e3_46
      refine v_aload_n (pc := 49) dX7_waitFor_49 rfl ?_
      refine v_getR (pc := 50) fkX7_23 ly49 rfl dX7_waitFor_50 ?_
      refine v_bipush (pc := 53) (v := 9) (by decide) dX7_waitFor_53 ?_
      refine v_iald (pc := 55) ly53 ?_ dX7_waitFor_55 ?_
      · unfold vp_in; decide
      rw [show Int32.toNatClampNeg 9 = 9 from rfl]
      refine v_imul (pc := 56) dX7_waitFor_56 ?_
      refine v_iadd (pc := 57) dX7_waitFor_57 ?_
      refine v_bipush (pc := 58) (v := 10) (by decide) dX7_waitFor_58 ?_
      refine v_irem (pc := 60) (by decide) dX7_waitFor_60 ?_
      refine v_iload_n (pc := 61) dX7_waitFor_61 rfl ?_
      refine v_icmp_ne (pc := 62) (tgt := 69) dX7_waitFor_62 (by decide) (fun c_62 => ?_) (fun c_62 => ?_)
      · refine v_iconst (pc := 69) (v := 0) (by decide) dX7_waitFor_69 ?_
        refine v_ist_6 (pc := 70) dX7_waitFor_70 (by decide) rfl ?_
        refine v_iload (pc := 72) dX7_waitFor_72 rfl ?_
        refine v_if_eq (pc := 74) (tgt := 82) dX7_waitFor_74 (by decide) (fun c_74 => ?_) (fun c_74 => ?_)
        · refine v_bipush (pc := 82) (v := (-6)) (by decide) dX7_waitFor_82 ?_
          refine v_iret (pc := 84) dX7_waitFor_84 (Nat.zero_le _) (Nat.zero_le _) ?_
          unfold nWait mUp
          rw [hcl] at c_34 c_62
          exact ⟨by rw [if_neg (fun q => c_62 q.2.2)], rfl, rfl⟩
        · refine v_iload (pc := 77) dX7_waitFor_77 rfl ?_
          refine v_goto (pc := 79) (tgt := 84) dX7_waitFor_79 (by decide) ?_
          refine v_iret (pc := 84) dX7_waitFor_84 (Nat.zero_le _) (Nat.zero_le _) ?_
          exact absurd rfl c_74
      · refine v_iconst (pc := 65) (v := 1) (by decide) dX7_waitFor_65 ?_
        refine v_goto (pc := 66) (tgt := 70) dX7_waitFor_66 (by decide) ?_
        refine v_ist_6 (pc := 70) dX7_waitFor_70 (by decide) rfl ?_
        refine v_iload (pc := 72) dX7_waitFor_72 rfl ?_
        refine v_if_eq (pc := 74) (tgt := 82) dX7_waitFor_74 (by decide) (fun c_74 => ?_) (fun c_74 => ?_)
        · refine v_bipush (pc := 82) (v := (-6)) (by decide) dX7_waitFor_82 ?_
          refine v_iret (pc := 84) dX7_waitFor_84 (Nat.zero_le _) (Nat.zero_le _) ?_
          exact absurd c_74 (by decide)
        · refine v_iload (pc := 77) dX7_waitFor_77 rfl ?_
          refine v_goto (pc := 79) (tgt := 84) dX7_waitFor_79 (by decide) ?_
          refine v_iret (pc := 84) dX7_waitFor_84 (Nat.zero_le _) (Nat.zero_le _) ?_
          unfold nWait mUp
          rw [hcl] at c_34 c_62
          exact ⟨by rw [if_pos ⟨Int32.not_lt.mp c_20, Int32.not_lt.mp c_34, c_62⟩], rfl, rfl⟩

set_option maxRecDepth 100000 in
set_option maxHeartbeats 4000000 in
theorem lm_speak {k : Nat} {y z u : Int32} {M : mM} {J : mJ} (hk : k < 7) : ∀ (n i : Nat), n + i = 9 → V RX7 cX7_speak 8 (some .int) false (rmD 2) false LY.length none (mNi LY (fun r0 M1 J1 => r0 = (if u = 0 then (itN (nsp M k y z) (0, -6) 9).1 else if (itN (nsp M k y z) (0, -6) 9).2 < 0 ∨ u = 1 then (itN (nsp M k y z) (0, -6) 9).2 else nWait M k y z (itN (nsp M k y z) (0, -6) 9).2) ∧ M1 = M ∧ J1 = J)) 0 0 55 [some (.ref 49), some (.int (nI k)), some (.int y), some (.int z), some (.int u), some (.int (itN (nsp M k y z) (0, -6) i).1), some (.int (itN (nsp M k y z) (0, -6) i).2), some (.int (nI (9 - i)))] [] LY M J := by
  intro n
  induction n with
  | zero =>
    intro i hi
    obtain rfl : i = 9 := by omega
    refine v_iload (pc := 55) dX7_speak_55 rfl ?_
    refine v_if_le (pc := 57) (tgt := 85) dX7_speak_57 (by decide) (fun c_57 => ?_) (fun c_57 => absurd (by decide) c_57)
    refine v_iload (pc := 85) dX7_speak_85 rfl ?_
    refine v_if_ne (pc := 87) (tgt := 95) dX7_speak_87 (by decide) (fun c_87 => ?_) (fun c_87 => ?_)
    · refine v_iload (pc := 95) dX7_speak_95 rfl ?_
      refine v_if_lt (pc := 97) (tgt := 106) dX7_speak_97 (by decide) (fun c_97 => ?_) (fun c_97 => ?_)
      · refine v_iload (pc := 106) dX7_speak_106 rfl ?_
        refine v_goto (pc := 108) (tgt := 120) dX7_speak_108 (by decide) ?_
        refine v_iret (pc := 120) dX7_speak_120 (Nat.zero_le _) (Nat.zero_le _) ?_
        exact ⟨by rw [if_neg c_87, if_pos (Or.inl c_97)], rfl, rfl⟩
      · refine v_iload (pc := 100) dX7_speak_100 rfl ?_
        refine v_iconst (pc := 102) (v := 1) (by decide) dX7_speak_102 ?_
        refine v_icmp_ne (pc := 103) (tgt := 111) dX7_speak_103 (by decide) (fun c_103 => ?_) (fun c_103 => ?_)
        · have hsz : 1 ≤ (itN (nsp M k y z) (0, -6) 9).2 := by
            rcases nsp_ok (M := M) (k := k) (y := y) (m := z) 9 (Nat.le_refl 9) with h | ⟨s, h1, h2, h⟩
            · exact absurd (by rw [h]; decide) c_97
            · rw [h]; exact nI_le (a := 1) h1 (by omega)
          refine v_aload_n (pc := 111) dX7_speak_111 rfl ?_
          refine v_iload_n (pc := 112) dX7_speak_112 rfl ?_
          refine v_iload_n (pc := 113) dX7_speak_113 rfl ?_
          refine v_iload_n (pc := 114) dX7_speak_114 rfl ?_
          refine v_iload (pc := 115) dX7_speak_115 rfl ?_
          refine v_cV4i (pc := 117) dX7_speak_117 mkX7_116 (m_wait hk hsz) ly49 rfl (Nat.le_of_ble_eq_true rfl) rfl (Nat.zero_le _) (Nat.zero_le _) (fun r_117 M_117 J_117 h_117 => ?_)
          obtain ⟨e1_117, e2_117, e3_117⟩ := h_117
          replace e1_117 := e1_117.symm
          replace e2_117 := e2_117.symm
          replace e3_117 := e3_117.symm
          subst e1_117 e2_117 e3_117
          refine v_iret (pc := 120) dX7_speak_120 (Nat.zero_le _) (Nat.zero_le _) ?_
          exact ⟨by rw [if_neg c_87, if_neg (fun q => q.elim c_97 c_103)], rfl, rfl⟩
        · refine v_iload (pc := 106) dX7_speak_106 rfl ?_
          refine v_goto (pc := 108) (tgt := 120) dX7_speak_108 (by decide) ?_
          refine v_iret (pc := 120) dX7_speak_120 (Nat.zero_le _) (Nat.zero_le _) ?_
          exact ⟨by rw [if_neg c_87, if_pos (Or.inr c_103)], rfl, rfl⟩
    · refine v_iload (pc := 90) dX7_speak_90 rfl ?_
      refine v_goto (pc := 92) (tgt := 120) dX7_speak_92 (by decide) ?_
      refine v_iret (pc := 120) dX7_speak_120 (Nat.zero_le _) (Nat.zero_le _) ?_
      exact ⟨by rw [if_pos c_87], rfl, rfl⟩
  | succ n ih =>
    intro i hi
    have hb7 : i < 9 := by omega
    have hcl := nI_clamp (show i < 2 ^ 31 by omega)
    refine v_iload (pc := 55) dX7_speak_55 rfl ?_
    refine v_if_le (pc := 57) (tgt := 85) dX7_speak_57 (by decide) (fun c_57 => absurd c_57 (nI_nle (show 0 < 9 - i by omega) (by omega))) (fun c_57 => ?_)
    refine v_aload_n (pc := 60) dX7_speak_60 rfl ?_
    refine v_iload_n (pc := 61) dX7_speak_61 rfl ?_
    refine v_iload_n (pc := 62) dX7_speak_62 rfl ?_
    refine v_iload_n (pc := 63) dX7_speak_63 rfl ?_
    refine v_iload (pc := 64) dX7_speak_64 rfl ?_
    refine v_cV4i (pc := 66) dX7_speak_66 mkX7_116 (m_wait hk (nI_le (a := 1) (show 1 ≤ 9 - i by omega) (by omega))) ly49 rfl (Nat.le_of_ble_eq_true rfl) rfl (Nat.zero_le _) (Nat.zero_le _) (fun r_66 M_66 J_66 h_66 => ?_)
    obtain ⟨e1_66, e2_66, e3_66⟩ := h_66
    replace e1_66 := e1_66.symm
    replace e2_66 := e2_66.symm
    replace e3_66 := e3_66.symm
    subst e1_66 e2_66 e3_66
    refine v_if_lt (pc := 69) (tgt := 79) dX7_speak_69 (by decide) (fun c_69 => ?_) (fun c_69 => ?_)
    · refine v_inc_7 (pc := 79) (v := (-1)) dX7_speak_79 (by decide) (by decide) rfl ?_
      refine v_goto (pc := 82) (tgt := 55) dX7_speak_82 (by decide) ?_
      have hm : nI (9 - i) + (-1) = nI (9 - (i + 1)) := by
        rw [show 9 - i = (9 - (i + 1)) + 1 by omega, pk_m1]
      rw [hm]
      have e9 := ih (i + 1) (by omega)
      rw [itN_s _ _ i] at e9
      rw [show (nsp M k y z) i (itN (nsp M k y z) (0, -6) i) = _ from if_pos c_69] at e9
      exact e9
    · refine v_inc_5 (pc := 72) (v := 1) dX7_speak_72 (by decide) (by decide) rfl ?_
      refine v_iload (pc := 75) dX7_speak_75 rfl ?_
      refine v_ist_6 (pc := 77) dX7_speak_77 (by decide) rfl ?_
      refine v_inc_7 (pc := 79) (v := (-1)) dX7_speak_79 (by decide) (by decide) rfl ?_
      refine v_goto (pc := 82) (tgt := 55) dX7_speak_82 (by decide) ?_
      have hm : nI (9 - i) + (-1) = nI (9 - (i + 1)) := by
        rw [show 9 - i = (9 - (i + 1)) + 1 by omega, pk_m1]
      rw [hm]
      have e9 := ih (i + 1) (by omega)
      rw [itN_s _ _ i] at e9
      rw [show (nsp M k y z) i (itN (nsp M k y z) (0, -6) i) = _ from if_neg c_69] at e9
      exact e9

set_option maxRecDepth 100000 in
set_option maxHeartbeats 4000000 in
theorem m_speak {x y z u : Int32} {M : mM} {J : mJ}  : Ct yX7_speak cX7_speak 8 (some .int) (rmD 2) false [.ref 49, .int x, .int y, .int z, .int u] LY M J (mNi LY (fun r0 M1 J1 => r0 = (if hB M x then (if ((0 ≤ y ∧ y ≤ 9) ∧ (0 ≤ z ∧ z ≤ 999) ∧ (0 ≤ u ∧ u ≤ 2)) then (if u = 0 then (itN (nsp M x.toNatClampNeg y z) (0, -6) 9).1 else if (itN (nsp M x.toNatClampNeg y z) (0, -6) 9).2 < 0 ∨ u = 1 then (itN (nsp M x.toNatClampNeg y z) (0, -6) 9).2 else nWait M x.toNatClampNeg y z (itN (nsp M x.toNatClampNeg y z) (0, -6) 9).2) else -2) else -1) ∧ M1 = M ∧ J1 = J)) := by
  refine ct_of (own := RX7) (ini := false) (ls := [some (.ref 49), some (.int x), some (.int y), some (.int z), some (.int u), none, none, none]) 3 (by decide +kernel) rfl (fun h => by cases h) rfl (fun ad => by first | exact Nat.le_of_ble_eq_true rfl) ?_
  refine v_aload_n (pc := 0) dX7_speak_0 rfl ?_
  refine v_iload_n (pc := 1) dX7_speak_1 rfl ?_
  refine v_cV1i (pc := 2) dX7_speak_2 mkX7_113 m_isBelow ly49 rfl (Nat.le_of_ble_eq_true rfl) rfl (Nat.zero_le _) (Nat.zero_le _) (fun r_2 M_2 J_2 h_2 => ?_)
  obtain ⟨e1_2, e2_2, e3_2⟩ := h_2
  replace e1_2 := e1_2.symm
  replace e2_2 := e2_2.symm
  replace e3_2 := e3_2.symm
  subst e1_2 e2_2 e3_2
  refine v_if_ne (pc := 5) (tgt := 10) dX7_speak_5 (by decide) (fun c_5 => ?_) (fun c_5 => ?_)
  · refine v_iload_n (pc := 10) dX7_speak_10 rfl ?_
    refine v_iconst (pc := 11) (v := 0) (by decide) dX7_speak_11 ?_
    refine v_bipush (pc := 12) (v := 9) (by decide) dX7_speak_12 ?_
    refine v_cS3i (pc := 14) dX7_speak_14 mkX7_49 m_in (Nat.le_of_ble_eq_true rfl) rfl (Nat.zero_le _) (Nat.zero_le _) (fun r_14 M_14 J_14 h_14 => ?_)
    obtain ⟨e1_14, e2_14, e3_14⟩ := h_14
    replace e1_14 := e1_14.symm
    replace e2_14 := e2_14.symm
    replace e3_14 := e3_14.symm
    subst e1_14 e2_14 e3_14
    refine v_if_eq (pc := 17) (tgt := 41) dX7_speak_17 (by decide) (fun c_17 => ?_) (fun c_17 => ?_)
    · refine v_bipush (pc := 41) (v := (-2)) (by decide) dX7_speak_41 ?_
      refine v_iret (pc := 43) dX7_speak_43 (Nat.zero_le _) (Nat.zero_le _) ?_
      exact ⟨by rw [if_pos (bI_n0.mp c_5), if_neg (fun q => bI_0.mp c_17 q.1)], rfl, rfl⟩
    · refine v_iload_n (pc := 20) dX7_speak_20 rfl ?_
      refine v_iconst (pc := 21) (v := 0) (by decide) dX7_speak_21 ?_
      refine v_sipush (pc := 22) (v := 999) (by decide) dX7_speak_22 ?_
      refine v_cS3i (pc := 25) dX7_speak_25 mkX7_49 m_in (Nat.le_of_ble_eq_true rfl) rfl (Nat.zero_le _) (Nat.zero_le _) (fun r_25 M_25 J_25 h_25 => ?_)
      obtain ⟨e1_25, e2_25, e3_25⟩ := h_25
      replace e1_25 := e1_25.symm
      replace e2_25 := e2_25.symm
      replace e3_25 := e3_25.symm
      subst e1_25 e2_25 e3_25
      refine v_if_eq (pc := 28) (tgt := 41) dX7_speak_28 (by decide) (fun c_28 => ?_) (fun c_28 => ?_)
      · refine v_bipush (pc := 41) (v := (-2)) (by decide) dX7_speak_41 ?_
        refine v_iret (pc := 43) dX7_speak_43 (Nat.zero_le _) (Nat.zero_le _) ?_
        exact ⟨by rw [if_pos (bI_n0.mp c_5), if_neg (fun q => bI_0.mp c_28 q.2.1)], rfl, rfl⟩
      · refine v_iload (pc := 31) dX7_speak_31 rfl ?_
        refine v_iconst (pc := 33) (v := 0) (by decide) dX7_speak_33 ?_
        refine v_iconst (pc := 34) (v := 2) (by decide) dX7_speak_34 ?_
        refine v_cS3i (pc := 35) dX7_speak_35 mkX7_49 m_in (Nat.le_of_ble_eq_true rfl) rfl (Nat.zero_le _) (Nat.zero_le _) (fun r_35 M_35 J_35 h_35 => ?_)
        obtain ⟨e1_35, e2_35, e3_35⟩ := h_35
        replace e1_35 := e1_35.symm
        replace e2_35 := e2_35.symm
        replace e3_35 := e3_35.symm
        subst e1_35 e2_35 e3_35
        refine v_if_ne (pc := 38) (tgt := 44) dX7_speak_38 (by decide) (fun c_38 => ?_) (fun c_38 => ?_)
        · refine v_iconst (pc := 44) (v := 0) (by decide) dX7_speak_44 ?_
          refine v_ist_5 (pc := 45) dX7_speak_45 (by decide) rfl ?_
          refine v_bipush (pc := 47) (v := (-6)) (by decide) dX7_speak_47 ?_
          refine v_ist_6 (pc := 49) dX7_speak_49 (by decide) rfl ?_
          refine v_bipush (pc := 51) (v := 9) (by decide) dX7_speak_51 ?_
          refine v_ist_7 (pc := 53) dX7_speak_53 (by decide) rfl ?_
          have hG := bI_n0.mp c_5
          obtain ⟨k, hk, rfl⟩ := gM_nat ⟨hG.1, hG.2.1⟩
          refine V.mono (fun o a b c q => ?_) (lm_speak hk 9 0 rfl)
          rw [if_pos hG, if_pos ⟨bI_n0.mp c_17, bI_n0.mp c_28, bI_n0.mp c_38⟩, nI_clamp (by omega)]
          exact q
        · refine v_bipush (pc := 41) (v := (-2)) (by decide) dX7_speak_41 ?_
          refine v_iret (pc := 43) dX7_speak_43 (Nat.zero_le _) (Nat.zero_le _) ?_
          exact ⟨by rw [if_pos (bI_n0.mp c_5), if_neg (fun q => bI_0.mp c_38 q.2.2)], rfl, rfl⟩
  · refine v_iconst (pc := 8) (v := (-1)) (by decide) dX7_speak_8 ?_
    refine v_iret (pc := 9) dX7_speak_9 (Nat.zero_le _) (Nat.zero_le _) ?_
    exact ⟨by rw [if_neg (bI_0.mp c_5)], rfl, rfl⟩

def dgv (x : Int32) (k : Nat) : Int32 := itN (fun _ v => v / 10) x k
def dg (x : Int32) (k : Nat) : Int32 := rem10 (dgv x k)

set_option maxRecDepth 100000 in
set_option maxHeartbeats 4000000 in
theorem lm_digit {x : Int32} {k : Nat} {M : mM} {J : mJ} (hk : k < 6) : ∀ (n i : Nat), n + i = k → V RX7 cX7_digit 4 (some .int) false (rmD 0) false LY.length none (mNi LY (fun r0 M1 J1 => r0 = dg x k ∧ M1 = M ∧ J1 = J)) 0 0 4 [some (.int x), some (.int (nI k)), some (.int (dgv x i)), some (.int (nI i))] [] LY M J := by
  intro n
  induction n with
  | zero =>
    intro i hi
    obtain rfl : i = k := by omega
    refine v_iload_n (pc := 4) dX7_digit_4 rfl ?_
    refine v_iload_n (pc := 5) dX7_digit_5 rfl ?_
    refine v_icmp_ge (pc := 6) (tgt := 20) dX7_digit_6 (by decide) (fun c_6 => ?_) (fun c_6 => absurd (nI_le (Nat.le_refl _) (by omega)) c_6)
    refine v_iload_n (pc := 20) dX7_digit_20 rfl ?_
    refine v_bipush (pc := 21) (v := 10) (by decide) dX7_digit_21 ?_
    refine v_irem (pc := 23) (by decide) dX7_digit_23 ?_
    refine v_iret (pc := 24) dX7_digit_24 (Nat.zero_le _) (Nat.zero_le _) ?_
    exact ⟨rfl, rfl, rfl⟩
  | succ n ih =>
    intro i hi
    have hb7 : i < k := by omega
    have hcl := nI_clamp (show i < 2 ^ 31 by omega)
    refine v_iload_n (pc := 4) dX7_digit_4 rfl ?_
    refine v_iload_n (pc := 5) dX7_digit_5 rfl ?_
    refine v_icmp_ge (pc := 6) (tgt := 20) dX7_digit_6 (by decide) (fun c_6 => absurd c_6 (nI_ge hb7 (by omega))) (fun c_6 => ?_)
    refine v_iload_n (pc := 9) dX7_digit_9 rfl ?_
    refine v_bipush (pc := 10) (v := 10) (by decide) dX7_digit_10 ?_
    refine v_idiv (pc := 12) (by decide) dX7_digit_12 ?_
    refine v_ist_2 (pc := 13) dX7_digit_13 (by decide) rfl ?_
    refine v_inc_3 (pc := 14) (v := 1) dX7_digit_14 (by decide) (by decide) rfl ?_
    refine v_goto (pc := 17) (tgt := 4) dX7_digit_17 (by decide) ?_
    rw [nI_1]
    exact ih (i + 1) (by omega)

set_option maxRecDepth 100000 in
set_option maxHeartbeats 4000000 in
theorem m_digit {x : Int32} {k : Nat} {M : mM} {J : mJ} (hk : k < 6) : Ct yX7_digit cX7_digit 4 (some .int) (rmD 0) false [.int x, .int (nI k)] LY M J (mNi LY (fun r0 M1 J1 => r0 = dg x k ∧ M1 = M ∧ J1 = J)) := by
  refine ct_of (own := RX7) (ini := false) (ls := [some (.int x), some (.int (nI k)), none, none]) 2 (by decide +kernel) rfl (fun h => by cases h) rfl (fun ad => by first | exact Nat.le_of_ble_eq_true rfl) ?_
  refine v_iload_n (pc := 0) dX7_digit_0 rfl ?_
  refine v_ist_2 (pc := 1) dX7_digit_1 (by decide) rfl ?_
  refine v_iconst (pc := 2) (v := 0) (by decide) dX7_digit_2 ?_
  refine v_ist_3 (pc := 3) dX7_digit_3 (by decide) rfl ?_
  exact lm_digit hk k 0 rfl

def lI (x y : Int32) (s : Nat) (i : Nat) (p : Int32 × Int32 × Int32) : Int32 × Int32 × Int32 := if bt (nI s) (nI i) then (p.1 + dg x i, p.2.1 + dg y i, if ¬ p.2.2 = 0 ∧ 0 < dg x i then 1 else 0) else p
def lIn (x y : Int32) (s : Nat) : Int32 × Int32 × Int32 := itN (lI x y s) (0, 0, 1) 6
def lOs (x y z : Int32) (s : Nat) (p : Int32 × Int32 × Int32) : Int32 × Int32 × Int32 :=
  (if ¬ (lIn x y s).2.2 = 0 ∧ (lIn x y s).1 ≤ z ∧ p.1 < (lIn x y s).2.1 then (lIn x y s).2.1 else p.1,
   if ¬ (lIn x y s).2.2 = 0 ∧ (lIn x y s).1 ≤ z ∧ p.1 < (lIn x y s).2.1 then nI s else p.2.1,
   p.2.2 + (if ¬ (lIn x y s).2.2 = 0 ∧ (lIn x y s).1 = z then 1 else 0))

set_option maxRecDepth 100000 in
set_option maxHeartbeats 1000000 in
theorem lm_laws1 {x y z u : Int32} {s : Nat} (hs : s < 64) {M : mM} {J : mJ} (iho : V RX7 cX7_laws 13 (some .int) false (rmD 1) false LY.length none (mNi LY (fun r0 M1 J1 => r0 = sel3 u (itN (lOs x y z) (-1, 0, 0) 64).1 (itN (lOs x y z) (-1, 0, 0) 64).2.1 (itN (lOs x y z) (-1, 0, 0) 64).2.2 ∧ M1 = M ∧ J1 = J)) 0 0 55 [some (.ref 49), some (.int x), some (.int y), some (.int z), some (.int u), some (.int (itN (lOs x y z) (-1, 0, 0) (s + 1)).1), some (.int (itN (lOs x y z) (-1, 0, 0) (s + 1)).2.1), some (.int (itN (lOs x y z) (-1, 0, 0) (s + 1)).2.2), some (.int (nI (s + 1))), none, none, none, none] [] LY M J) : ∀ (n i : Nat), n + i = 6 → V RX7 cX7_laws 13 (some .int) false (rmD 1) false LY.length none (mNi LY (fun r0 M1 J1 => r0 = sel3 u (itN (lOs x y z) (-1, 0, 0) 64).1 (itN (lOs x y z) (-1, 0, 0) 64).2.1 (itN (lOs x y z) (-1, 0, 0) 64).2.2 ∧ M1 = M ∧ J1 = J)) 0 0 74 [some (.ref 49), some (.int x), some (.int y), some (.int z), some (.int u), some (.int (itN (lOs x y z) (-1, 0, 0) s).1), some (.int (itN (lOs x y z) (-1, 0, 0) s).2.1), some (.int (itN (lOs x y z) (-1, 0, 0) s).2.2), some (.int (nI s)), some (.int (itN (lI x y s) (0, 0, 1) i).1), some (.int (itN (lI x y s) (0, 0, 1) i).2.1), some (.int (itN (lI x y s) (0, 0, 1) i).2.2), some (.int (nI i))] [] LY M J := by
  intro n
  induction n with
  | zero =>
    intro i hi
    obtain rfl : i = 6 := by omega
    rw [show itN (lI x y s) (0, 0, 1) 6 = lIn x y s from rfl]
    refine v_iload (pc := 74) dX7_laws_74 rfl ?_
    refine v_bipush (pc := 76) (v := 6) (by decide) dX7_laws_76 ?_
    refine v_icmp_ge (pc := 78) (tgt := 140) dX7_laws_78 (by decide) (fun c_78 => ?_) (fun c_78 => absurd (by decide) c_78)
    refine v_iload (pc := 140) dX7_laws_140 rfl ?_
    refine v_iload (pc := 142) dX7_laws_142 rfl ?_
    refine v_if_eq (pc := 144) (tgt := 157) dX7_laws_144 (by decide) (fun c_144 => ?_) (fun c_144 => ?_)
    · refine v_iconst (pc := 157) (v := 0) (by decide) dX7_laws_157 ?_
      refine v_iadd (pc := 158) dX7_laws_158 ?_
      refine v_ist_7 (pc := 159) dX7_laws_159 (by decide) rfl ?_
      refine v_iload (pc := 161) dX7_laws_161 rfl ?_
      refine v_if_eq (pc := 163) (tgt := 183) dX7_laws_163 (by decide) (fun c_163 => ?_) (fun c_163 => ?_)
      · refine v_iconst (pc := 183) (v := 0) (by decide) dX7_laws_183 ?_
        refine v_ist_12 (pc := 184) dX7_laws_184 (by decide) rfl ?_
        refine v_iload (pc := 186) dX7_laws_186 rfl ?_
        refine v_if_eq (pc := 188) (tgt := 196) dX7_laws_188 (by decide) (fun c_188 => ?_) (fun c_188 => ?_)
        · refine v_iload (pc := 196) dX7_laws_196 rfl ?_
          refine v_ist_6 (pc := 198) dX7_laws_198 (by decide) rfl ?_
          refine v_iload (pc := 200) dX7_laws_200 rfl ?_
          refine v_if_eq (pc := 202) (tgt := 210) dX7_laws_202 (by decide) (fun c_202 => ?_) (fun c_202 => ?_)
          · refine v_iload (pc := 210) dX7_laws_210 rfl ?_
            refine v_ist_5 (pc := 212) dX7_laws_212 (by decide) rfl ?_
            refine v_inc_8 (pc := 214) (v := 1) dX7_laws_214 (by decide) (by decide) rfl ?_
            refine v_goto (pc := 217) (tgt := 55) dX7_laws_217 (by decide) ?_
            refine v_fg_9 (v_fg_10 (v_fg_11 (v_fg_12 ?_)))
            rw [nI_1]
            rw [itN_s _ _ s, show lOs x y z s (itN (lOs x y z) (-1, 0, 0) s) = ((itN (lOs x y z) (-1, 0, 0) s).1, (itN (lOs x y z) (-1, 0, 0) s).2.1, (itN (lOs x y z) (-1, 0, 0) s).2.2 + 0) from by
              unfold lOs
              rw [if_neg (fun q => q.1 c_163), if_neg (fun q => q.1 c_163), if_neg (fun q => q.1 c_144)]] at iho
            exact iho
          · refine v_iload (pc := 205) dX7_laws_205 rfl ?_
            refine v_goto (pc := 207) (tgt := 212) dX7_laws_207 (by decide) ?_
            refine v_ist_5 (pc := 212) dX7_laws_212 (by decide) rfl ?_
            refine v_inc_8 (pc := 214) (v := 1) dX7_laws_214 (by decide) (by decide) rfl ?_
            refine v_goto (pc := 217) (tgt := 55) dX7_laws_217 (by decide) ?_
            exact absurd rfl c_202
        · refine v_iload (pc := 191) dX7_laws_191 rfl ?_
          refine v_goto (pc := 193) (tgt := 198) dX7_laws_193 (by decide) ?_
          refine v_ist_6 (pc := 198) dX7_laws_198 (by decide) rfl ?_
          refine v_iload (pc := 200) dX7_laws_200 rfl ?_
          refine v_if_eq (pc := 202) (tgt := 210) dX7_laws_202 (by decide) (fun c_202 => ?_) (fun c_202 => ?_)
          · refine v_iload (pc := 210) dX7_laws_210 rfl ?_
            refine v_ist_5 (pc := 212) dX7_laws_212 (by decide) rfl ?_
            refine v_inc_8 (pc := 214) (v := 1) dX7_laws_214 (by decide) (by decide) rfl ?_
            refine v_goto (pc := 217) (tgt := 55) dX7_laws_217 (by decide) ?_
            exact absurd rfl c_188
          · refine v_iload (pc := 205) dX7_laws_205 rfl ?_
            refine v_goto (pc := 207) (tgt := 212) dX7_laws_207 (by decide) ?_
            refine v_ist_5 (pc := 212) dX7_laws_212 (by decide) rfl ?_
            refine v_inc_8 (pc := 214) (v := 1) dX7_laws_214 (by decide) (by decide) rfl ?_
            refine v_goto (pc := 217) (tgt := 55) dX7_laws_217 (by decide) ?_
            exact absurd rfl c_188
      · refine v_iload (pc := 166) dX7_laws_166 rfl ?_
        refine v_iload_n (pc := 168) dX7_laws_168 rfl ?_
        refine v_icmp_gt (pc := 169) (tgt := 183) dX7_laws_169 (by decide) (fun c_169 => ?_) (fun c_169 => ?_)
        · refine v_iconst (pc := 183) (v := 0) (by decide) dX7_laws_183 ?_
          refine v_ist_12 (pc := 184) dX7_laws_184 (by decide) rfl ?_
          refine v_iload (pc := 186) dX7_laws_186 rfl ?_
          refine v_if_eq (pc := 188) (tgt := 196) dX7_laws_188 (by decide) (fun c_188 => ?_) (fun c_188 => ?_)
          · refine v_iload (pc := 196) dX7_laws_196 rfl ?_
            refine v_ist_6 (pc := 198) dX7_laws_198 (by decide) rfl ?_
            refine v_iload (pc := 200) dX7_laws_200 rfl ?_
            refine v_if_eq (pc := 202) (tgt := 210) dX7_laws_202 (by decide) (fun c_202 => ?_) (fun c_202 => ?_)
            · refine v_iload (pc := 210) dX7_laws_210 rfl ?_
              refine v_ist_5 (pc := 212) dX7_laws_212 (by decide) rfl ?_
              refine v_inc_8 (pc := 214) (v := 1) dX7_laws_214 (by decide) (by decide) rfl ?_
              refine v_goto (pc := 217) (tgt := 55) dX7_laws_217 (by decide) ?_
              exact absurd c_144 c_163
            · refine v_iload (pc := 205) dX7_laws_205 rfl ?_
              refine v_goto (pc := 207) (tgt := 212) dX7_laws_207 (by decide) ?_
              refine v_ist_5 (pc := 212) dX7_laws_212 (by decide) rfl ?_
              refine v_inc_8 (pc := 214) (v := 1) dX7_laws_214 (by decide) (by decide) rfl ?_
              refine v_goto (pc := 217) (tgt := 55) dX7_laws_217 (by decide) ?_
              exact absurd c_144 c_163
          · refine v_iload (pc := 191) dX7_laws_191 rfl ?_
            refine v_goto (pc := 193) (tgt := 198) dX7_laws_193 (by decide) ?_
            refine v_ist_6 (pc := 198) dX7_laws_198 (by decide) rfl ?_
            refine v_iload (pc := 200) dX7_laws_200 rfl ?_
            refine v_if_eq (pc := 202) (tgt := 210) dX7_laws_202 (by decide) (fun c_202 => ?_) (fun c_202 => ?_)
            · refine v_iload (pc := 210) dX7_laws_210 rfl ?_
              refine v_ist_5 (pc := 212) dX7_laws_212 (by decide) rfl ?_
              refine v_inc_8 (pc := 214) (v := 1) dX7_laws_214 (by decide) (by decide) rfl ?_
              refine v_goto (pc := 217) (tgt := 55) dX7_laws_217 (by decide) ?_
              exact absurd c_144 c_163
            · refine v_iload (pc := 205) dX7_laws_205 rfl ?_
              refine v_goto (pc := 207) (tgt := 212) dX7_laws_207 (by decide) ?_
              refine v_ist_5 (pc := 212) dX7_laws_212 (by decide) rfl ?_
              refine v_inc_8 (pc := 214) (v := 1) dX7_laws_214 (by decide) (by decide) rfl ?_
              refine v_goto (pc := 217) (tgt := 55) dX7_laws_217 (by decide) ?_
              exact absurd c_144 c_163
        · refine v_iload (pc := 172) dX7_laws_172 rfl ?_
          refine v_iload (pc := 174) dX7_laws_174 rfl ?_
          refine v_icmp_le (pc := 176) (tgt := 183) dX7_laws_176 (by decide) (fun c_176 => ?_) (fun c_176 => ?_)
          · refine v_iconst (pc := 183) (v := 0) (by decide) dX7_laws_183 ?_
            refine v_ist_12 (pc := 184) dX7_laws_184 (by decide) rfl ?_
            refine v_iload (pc := 186) dX7_laws_186 rfl ?_
            refine v_if_eq (pc := 188) (tgt := 196) dX7_laws_188 (by decide) (fun c_188 => ?_) (fun c_188 => ?_)
            · refine v_iload (pc := 196) dX7_laws_196 rfl ?_
              refine v_ist_6 (pc := 198) dX7_laws_198 (by decide) rfl ?_
              refine v_iload (pc := 200) dX7_laws_200 rfl ?_
              refine v_if_eq (pc := 202) (tgt := 210) dX7_laws_202 (by decide) (fun c_202 => ?_) (fun c_202 => ?_)
              · refine v_iload (pc := 210) dX7_laws_210 rfl ?_
                refine v_ist_5 (pc := 212) dX7_laws_212 (by decide) rfl ?_
                refine v_inc_8 (pc := 214) (v := 1) dX7_laws_214 (by decide) (by decide) rfl ?_
                refine v_goto (pc := 217) (tgt := 55) dX7_laws_217 (by decide) ?_
                exact absurd c_144 c_163
              · refine v_iload (pc := 205) dX7_laws_205 rfl ?_
                refine v_goto (pc := 207) (tgt := 212) dX7_laws_207 (by decide) ?_
                refine v_ist_5 (pc := 212) dX7_laws_212 (by decide) rfl ?_
                refine v_inc_8 (pc := 214) (v := 1) dX7_laws_214 (by decide) (by decide) rfl ?_
                refine v_goto (pc := 217) (tgt := 55) dX7_laws_217 (by decide) ?_
                exact absurd c_144 c_163
            · refine v_iload (pc := 191) dX7_laws_191 rfl ?_
              refine v_goto (pc := 193) (tgt := 198) dX7_laws_193 (by decide) ?_
              refine v_ist_6 (pc := 198) dX7_laws_198 (by decide) rfl ?_
              refine v_iload (pc := 200) dX7_laws_200 rfl ?_
              refine v_if_eq (pc := 202) (tgt := 210) dX7_laws_202 (by decide) (fun c_202 => ?_) (fun c_202 => ?_)
              · refine v_iload (pc := 210) dX7_laws_210 rfl ?_
                refine v_ist_5 (pc := 212) dX7_laws_212 (by decide) rfl ?_
                refine v_inc_8 (pc := 214) (v := 1) dX7_laws_214 (by decide) (by decide) rfl ?_
                refine v_goto (pc := 217) (tgt := 55) dX7_laws_217 (by decide) ?_
                exact absurd c_144 c_163
              · refine v_iload (pc := 205) dX7_laws_205 rfl ?_
                refine v_goto (pc := 207) (tgt := 212) dX7_laws_207 (by decide) ?_
                refine v_ist_5 (pc := 212) dX7_laws_212 (by decide) rfl ?_
                refine v_inc_8 (pc := 214) (v := 1) dX7_laws_214 (by decide) (by decide) rfl ?_
                refine v_goto (pc := 217) (tgt := 55) dX7_laws_217 (by decide) ?_
                exact absurd c_144 c_163
          · refine v_iconst (pc := 179) (v := 1) (by decide) dX7_laws_179 ?_
            refine v_goto (pc := 180) (tgt := 184) dX7_laws_180 (by decide) ?_
            refine v_ist_12 (pc := 184) dX7_laws_184 (by decide) rfl ?_
            refine v_iload (pc := 186) dX7_laws_186 rfl ?_
            refine v_if_eq (pc := 188) (tgt := 196) dX7_laws_188 (by decide) (fun c_188 => ?_) (fun c_188 => ?_)
            · refine v_iload (pc := 196) dX7_laws_196 rfl ?_
              refine v_ist_6 (pc := 198) dX7_laws_198 (by decide) rfl ?_
              refine v_iload (pc := 200) dX7_laws_200 rfl ?_
              refine v_if_eq (pc := 202) (tgt := 210) dX7_laws_202 (by decide) (fun c_202 => ?_) (fun c_202 => ?_)
              · refine v_iload (pc := 210) dX7_laws_210 rfl ?_
                refine v_ist_5 (pc := 212) dX7_laws_212 (by decide) rfl ?_
                refine v_inc_8 (pc := 214) (v := 1) dX7_laws_214 (by decide) (by decide) rfl ?_
                refine v_goto (pc := 217) (tgt := 55) dX7_laws_217 (by decide) ?_
                exact absurd c_144 c_163
              · refine v_iload (pc := 205) dX7_laws_205 rfl ?_
                refine v_goto (pc := 207) (tgt := 212) dX7_laws_207 (by decide) ?_
                refine v_ist_5 (pc := 212) dX7_laws_212 (by decide) rfl ?_
                refine v_inc_8 (pc := 214) (v := 1) dX7_laws_214 (by decide) (by decide) rfl ?_
                refine v_goto (pc := 217) (tgt := 55) dX7_laws_217 (by decide) ?_
                exact absurd c_144 c_163
            · refine v_iload (pc := 191) dX7_laws_191 rfl ?_
              refine v_goto (pc := 193) (tgt := 198) dX7_laws_193 (by decide) ?_
              refine v_ist_6 (pc := 198) dX7_laws_198 (by decide) rfl ?_
              refine v_iload (pc := 200) dX7_laws_200 rfl ?_
              refine v_if_eq (pc := 202) (tgt := 210) dX7_laws_202 (by decide) (fun c_202 => ?_) (fun c_202 => ?_)
              · refine v_iload (pc := 210) dX7_laws_210 rfl ?_
                refine v_ist_5 (pc := 212) dX7_laws_212 (by decide) rfl ?_
                refine v_inc_8 (pc := 214) (v := 1) dX7_laws_214 (by decide) (by decide) rfl ?_
                refine v_goto (pc := 217) (tgt := 55) dX7_laws_217 (by decide) ?_
                exact absurd c_144 c_163
              · refine v_iload (pc := 205) dX7_laws_205 rfl ?_
                refine v_goto (pc := 207) (tgt := 212) dX7_laws_207 (by decide) ?_
                refine v_ist_5 (pc := 212) dX7_laws_212 (by decide) rfl ?_
                refine v_inc_8 (pc := 214) (v := 1) dX7_laws_214 (by decide) (by decide) rfl ?_
                refine v_goto (pc := 217) (tgt := 55) dX7_laws_217 (by decide) ?_
                exact absurd c_144 c_163
    · refine v_iload (pc := 147) dX7_laws_147 rfl ?_
      refine v_iload_n (pc := 149) dX7_laws_149 rfl ?_
      refine v_icmp_ne (pc := 150) (tgt := 157) dX7_laws_150 (by decide) (fun c_150 => ?_) (fun c_150 => ?_)
      · refine v_iconst (pc := 157) (v := 0) (by decide) dX7_laws_157 ?_
        refine v_iadd (pc := 158) dX7_laws_158 ?_
        refine v_ist_7 (pc := 159) dX7_laws_159 (by decide) rfl ?_
        refine v_iload (pc := 161) dX7_laws_161 rfl ?_
        refine v_if_eq (pc := 163) (tgt := 183) dX7_laws_163 (by decide) (fun c_163 => ?_) (fun c_163 => ?_)
        · refine v_iconst (pc := 183) (v := 0) (by decide) dX7_laws_183 ?_
          refine v_ist_12 (pc := 184) dX7_laws_184 (by decide) rfl ?_
          refine v_iload (pc := 186) dX7_laws_186 rfl ?_
          refine v_if_eq (pc := 188) (tgt := 196) dX7_laws_188 (by decide) (fun c_188 => ?_) (fun c_188 => ?_)
          · refine v_iload (pc := 196) dX7_laws_196 rfl ?_
            refine v_ist_6 (pc := 198) dX7_laws_198 (by decide) rfl ?_
            refine v_iload (pc := 200) dX7_laws_200 rfl ?_
            refine v_if_eq (pc := 202) (tgt := 210) dX7_laws_202 (by decide) (fun c_202 => ?_) (fun c_202 => ?_)
            · refine v_iload (pc := 210) dX7_laws_210 rfl ?_
              refine v_ist_5 (pc := 212) dX7_laws_212 (by decide) rfl ?_
              refine v_inc_8 (pc := 214) (v := 1) dX7_laws_214 (by decide) (by decide) rfl ?_
              refine v_goto (pc := 217) (tgt := 55) dX7_laws_217 (by decide) ?_
              exact absurd c_163 c_144
            · refine v_iload (pc := 205) dX7_laws_205 rfl ?_
              refine v_goto (pc := 207) (tgt := 212) dX7_laws_207 (by decide) ?_
              refine v_ist_5 (pc := 212) dX7_laws_212 (by decide) rfl ?_
              refine v_inc_8 (pc := 214) (v := 1) dX7_laws_214 (by decide) (by decide) rfl ?_
              refine v_goto (pc := 217) (tgt := 55) dX7_laws_217 (by decide) ?_
              exact absurd c_163 c_144
          · refine v_iload (pc := 191) dX7_laws_191 rfl ?_
            refine v_goto (pc := 193) (tgt := 198) dX7_laws_193 (by decide) ?_
            refine v_ist_6 (pc := 198) dX7_laws_198 (by decide) rfl ?_
            refine v_iload (pc := 200) dX7_laws_200 rfl ?_
            refine v_if_eq (pc := 202) (tgt := 210) dX7_laws_202 (by decide) (fun c_202 => ?_) (fun c_202 => ?_)
            · refine v_iload (pc := 210) dX7_laws_210 rfl ?_
              refine v_ist_5 (pc := 212) dX7_laws_212 (by decide) rfl ?_
              refine v_inc_8 (pc := 214) (v := 1) dX7_laws_214 (by decide) (by decide) rfl ?_
              refine v_goto (pc := 217) (tgt := 55) dX7_laws_217 (by decide) ?_
              exact absurd c_163 c_144
            · refine v_iload (pc := 205) dX7_laws_205 rfl ?_
              refine v_goto (pc := 207) (tgt := 212) dX7_laws_207 (by decide) ?_
              refine v_ist_5 (pc := 212) dX7_laws_212 (by decide) rfl ?_
              refine v_inc_8 (pc := 214) (v := 1) dX7_laws_214 (by decide) (by decide) rfl ?_
              refine v_goto (pc := 217) (tgt := 55) dX7_laws_217 (by decide) ?_
              exact absurd c_163 c_144
        · refine v_iload (pc := 166) dX7_laws_166 rfl ?_
          refine v_iload_n (pc := 168) dX7_laws_168 rfl ?_
          refine v_icmp_gt (pc := 169) (tgt := 183) dX7_laws_169 (by decide) (fun c_169 => ?_) (fun c_169 => ?_)
          · refine v_iconst (pc := 183) (v := 0) (by decide) dX7_laws_183 ?_
            refine v_ist_12 (pc := 184) dX7_laws_184 (by decide) rfl ?_
            refine v_iload (pc := 186) dX7_laws_186 rfl ?_
            refine v_if_eq (pc := 188) (tgt := 196) dX7_laws_188 (by decide) (fun c_188 => ?_) (fun c_188 => ?_)
            · refine v_iload (pc := 196) dX7_laws_196 rfl ?_
              refine v_ist_6 (pc := 198) dX7_laws_198 (by decide) rfl ?_
              refine v_iload (pc := 200) dX7_laws_200 rfl ?_
              refine v_if_eq (pc := 202) (tgt := 210) dX7_laws_202 (by decide) (fun c_202 => ?_) (fun c_202 => ?_)
              · refine v_iload (pc := 210) dX7_laws_210 rfl ?_
                refine v_ist_5 (pc := 212) dX7_laws_212 (by decide) rfl ?_
                refine v_inc_8 (pc := 214) (v := 1) dX7_laws_214 (by decide) (by decide) rfl ?_
                refine v_goto (pc := 217) (tgt := 55) dX7_laws_217 (by decide) ?_
                refine v_fg_9 (v_fg_10 (v_fg_11 (v_fg_12 ?_)))
                rw [nI_1]
                rw [itN_s _ _ s, show lOs x y z s (itN (lOs x y z) (-1, 0, 0) s) = ((itN (lOs x y z) (-1, 0, 0) s).1, (itN (lOs x y z) (-1, 0, 0) s).2.1, (itN (lOs x y z) (-1, 0, 0) s).2.2 + 0) from by
                  unfold lOs
                  rw [if_neg (fun q => absurd q.2.1 (Int32.not_le.mpr c_169)), if_neg (fun q => absurd q.2.1 (Int32.not_le.mpr c_169)), if_neg (fun q => c_150 q.2)]] at iho
                exact iho
              · refine v_iload (pc := 205) dX7_laws_205 rfl ?_
                refine v_goto (pc := 207) (tgt := 212) dX7_laws_207 (by decide) ?_
                refine v_ist_5 (pc := 212) dX7_laws_212 (by decide) rfl ?_
                refine v_inc_8 (pc := 214) (v := 1) dX7_laws_214 (by decide) (by decide) rfl ?_
                refine v_goto (pc := 217) (tgt := 55) dX7_laws_217 (by decide) ?_
                exact absurd rfl c_202
            · refine v_iload (pc := 191) dX7_laws_191 rfl ?_
              refine v_goto (pc := 193) (tgt := 198) dX7_laws_193 (by decide) ?_
              refine v_ist_6 (pc := 198) dX7_laws_198 (by decide) rfl ?_
              refine v_iload (pc := 200) dX7_laws_200 rfl ?_
              refine v_if_eq (pc := 202) (tgt := 210) dX7_laws_202 (by decide) (fun c_202 => ?_) (fun c_202 => ?_)
              · refine v_iload (pc := 210) dX7_laws_210 rfl ?_
                refine v_ist_5 (pc := 212) dX7_laws_212 (by decide) rfl ?_
                refine v_inc_8 (pc := 214) (v := 1) dX7_laws_214 (by decide) (by decide) rfl ?_
                refine v_goto (pc := 217) (tgt := 55) dX7_laws_217 (by decide) ?_
                exact absurd rfl c_188
              · refine v_iload (pc := 205) dX7_laws_205 rfl ?_
                refine v_goto (pc := 207) (tgt := 212) dX7_laws_207 (by decide) ?_
                refine v_ist_5 (pc := 212) dX7_laws_212 (by decide) rfl ?_
                refine v_inc_8 (pc := 214) (v := 1) dX7_laws_214 (by decide) (by decide) rfl ?_
                refine v_goto (pc := 217) (tgt := 55) dX7_laws_217 (by decide) ?_
                exact absurd rfl c_188
          · refine v_iload (pc := 172) dX7_laws_172 rfl ?_
            refine v_iload (pc := 174) dX7_laws_174 rfl ?_
            refine v_icmp_le (pc := 176) (tgt := 183) dX7_laws_176 (by decide) (fun c_176 => ?_) (fun c_176 => ?_)
            · refine v_iconst (pc := 183) (v := 0) (by decide) dX7_laws_183 ?_
              refine v_ist_12 (pc := 184) dX7_laws_184 (by decide) rfl ?_
              refine v_iload (pc := 186) dX7_laws_186 rfl ?_
              refine v_if_eq (pc := 188) (tgt := 196) dX7_laws_188 (by decide) (fun c_188 => ?_) (fun c_188 => ?_)
              · refine v_iload (pc := 196) dX7_laws_196 rfl ?_
                refine v_ist_6 (pc := 198) dX7_laws_198 (by decide) rfl ?_
                refine v_iload (pc := 200) dX7_laws_200 rfl ?_
                refine v_if_eq (pc := 202) (tgt := 210) dX7_laws_202 (by decide) (fun c_202 => ?_) (fun c_202 => ?_)
                · refine v_iload (pc := 210) dX7_laws_210 rfl ?_
                  refine v_ist_5 (pc := 212) dX7_laws_212 (by decide) rfl ?_
                  refine v_inc_8 (pc := 214) (v := 1) dX7_laws_214 (by decide) (by decide) rfl ?_
                  refine v_goto (pc := 217) (tgt := 55) dX7_laws_217 (by decide) ?_
                  refine v_fg_9 (v_fg_10 (v_fg_11 (v_fg_12 ?_)))
                  rw [nI_1]
                  rw [itN_s _ _ s, show lOs x y z s (itN (lOs x y z) (-1, 0, 0) s) = ((itN (lOs x y z) (-1, 0, 0) s).1, (itN (lOs x y z) (-1, 0, 0) s).2.1, (itN (lOs x y z) (-1, 0, 0) s).2.2 + 0) from by
                    unfold lOs
                    rw [if_neg (fun q => absurd q.2.2 (Int32.not_lt.mpr c_176)), if_neg (fun q => absurd q.2.2 (Int32.not_lt.mpr c_176)), if_neg (fun q => c_150 q.2)]] at iho
                  exact iho
                · refine v_iload (pc := 205) dX7_laws_205 rfl ?_
                  refine v_goto (pc := 207) (tgt := 212) dX7_laws_207 (by decide) ?_
                  refine v_ist_5 (pc := 212) dX7_laws_212 (by decide) rfl ?_
                  refine v_inc_8 (pc := 214) (v := 1) dX7_laws_214 (by decide) (by decide) rfl ?_
                  refine v_goto (pc := 217) (tgt := 55) dX7_laws_217 (by decide) ?_
                  exact absurd rfl c_202
              · refine v_iload (pc := 191) dX7_laws_191 rfl ?_
                refine v_goto (pc := 193) (tgt := 198) dX7_laws_193 (by decide) ?_
                refine v_ist_6 (pc := 198) dX7_laws_198 (by decide) rfl ?_
                refine v_iload (pc := 200) dX7_laws_200 rfl ?_
                refine v_if_eq (pc := 202) (tgt := 210) dX7_laws_202 (by decide) (fun c_202 => ?_) (fun c_202 => ?_)
                · refine v_iload (pc := 210) dX7_laws_210 rfl ?_
                  refine v_ist_5 (pc := 212) dX7_laws_212 (by decide) rfl ?_
                  refine v_inc_8 (pc := 214) (v := 1) dX7_laws_214 (by decide) (by decide) rfl ?_
                  refine v_goto (pc := 217) (tgt := 55) dX7_laws_217 (by decide) ?_
                  exact absurd rfl c_188
                · refine v_iload (pc := 205) dX7_laws_205 rfl ?_
                  refine v_goto (pc := 207) (tgt := 212) dX7_laws_207 (by decide) ?_
                  refine v_ist_5 (pc := 212) dX7_laws_212 (by decide) rfl ?_
                  refine v_inc_8 (pc := 214) (v := 1) dX7_laws_214 (by decide) (by decide) rfl ?_
                  refine v_goto (pc := 217) (tgt := 55) dX7_laws_217 (by decide) ?_
                  exact absurd rfl c_188
            · refine v_iconst (pc := 179) (v := 1) (by decide) dX7_laws_179 ?_
              refine v_goto (pc := 180) (tgt := 184) dX7_laws_180 (by decide) ?_
              refine v_ist_12 (pc := 184) dX7_laws_184 (by decide) rfl ?_
              refine v_iload (pc := 186) dX7_laws_186 rfl ?_
              refine v_if_eq (pc := 188) (tgt := 196) dX7_laws_188 (by decide) (fun c_188 => ?_) (fun c_188 => ?_)
              · refine v_iload (pc := 196) dX7_laws_196 rfl ?_
                refine v_ist_6 (pc := 198) dX7_laws_198 (by decide) rfl ?_
                refine v_iload (pc := 200) dX7_laws_200 rfl ?_
                refine v_if_eq (pc := 202) (tgt := 210) dX7_laws_202 (by decide) (fun c_202 => ?_) (fun c_202 => ?_)
                · refine v_iload (pc := 210) dX7_laws_210 rfl ?_
                  refine v_ist_5 (pc := 212) dX7_laws_212 (by decide) rfl ?_
                  refine v_inc_8 (pc := 214) (v := 1) dX7_laws_214 (by decide) (by decide) rfl ?_
                  refine v_goto (pc := 217) (tgt := 55) dX7_laws_217 (by decide) ?_
                  exact absurd c_188 (by decide)
                · refine v_iload (pc := 205) dX7_laws_205 rfl ?_
                  refine v_goto (pc := 207) (tgt := 212) dX7_laws_207 (by decide) ?_
                  refine v_ist_5 (pc := 212) dX7_laws_212 (by decide) rfl ?_
                  refine v_inc_8 (pc := 214) (v := 1) dX7_laws_214 (by decide) (by decide) rfl ?_
                  refine v_goto (pc := 217) (tgt := 55) dX7_laws_217 (by decide) ?_
                  exact absurd c_188 (by decide)
              · refine v_iload (pc := 191) dX7_laws_191 rfl ?_
                refine v_goto (pc := 193) (tgt := 198) dX7_laws_193 (by decide) ?_
                refine v_ist_6 (pc := 198) dX7_laws_198 (by decide) rfl ?_
                refine v_iload (pc := 200) dX7_laws_200 rfl ?_
                refine v_if_eq (pc := 202) (tgt := 210) dX7_laws_202 (by decide) (fun c_202 => ?_) (fun c_202 => ?_)
                · refine v_iload (pc := 210) dX7_laws_210 rfl ?_
                  refine v_ist_5 (pc := 212) dX7_laws_212 (by decide) rfl ?_
                  refine v_inc_8 (pc := 214) (v := 1) dX7_laws_214 (by decide) (by decide) rfl ?_
                  refine v_goto (pc := 217) (tgt := 55) dX7_laws_217 (by decide) ?_
                  exact absurd c_202 (by decide)
                · refine v_iload (pc := 205) dX7_laws_205 rfl ?_
                  refine v_goto (pc := 207) (tgt := 212) dX7_laws_207 (by decide) ?_
                  refine v_ist_5 (pc := 212) dX7_laws_212 (by decide) rfl ?_
                  refine v_inc_8 (pc := 214) (v := 1) dX7_laws_214 (by decide) (by decide) rfl ?_
                  refine v_goto (pc := 217) (tgt := 55) dX7_laws_217 (by decide) ?_
                  refine v_fg_9 (v_fg_10 (v_fg_11 (v_fg_12 ?_)))
                  rw [nI_1]
                  rw [itN_s _ _ s, show lOs x y z s (itN (lOs x y z) (-1, 0, 0) s) = ((lIn x y s).2.1, nI s, (itN (lOs x y z) (-1, 0, 0) s).2.2 + 0) from by
                    unfold lOs
                    rw [if_pos ⟨c_163, Int32.not_lt.mp c_169, Int32.not_le.mp c_176⟩, if_pos ⟨c_163, Int32.not_lt.mp c_169, Int32.not_le.mp c_176⟩, if_neg (fun q => c_150 q.2)]] at iho
                  exact iho
      · refine v_iconst (pc := 153) (v := 1) (by decide) dX7_laws_153 ?_
        refine v_goto (pc := 154) (tgt := 158) dX7_laws_154 (by decide) ?_
        refine v_iadd (pc := 158) dX7_laws_158 ?_
        refine v_ist_7 (pc := 159) dX7_laws_159 (by decide) rfl ?_
        refine v_iload (pc := 161) dX7_laws_161 rfl ?_
        refine v_if_eq (pc := 163) (tgt := 183) dX7_laws_163 (by decide) (fun c_163 => ?_) (fun c_163 => ?_)
        · refine v_iconst (pc := 183) (v := 0) (by decide) dX7_laws_183 ?_
          refine v_ist_12 (pc := 184) dX7_laws_184 (by decide) rfl ?_
          refine v_iload (pc := 186) dX7_laws_186 rfl ?_
          refine v_if_eq (pc := 188) (tgt := 196) dX7_laws_188 (by decide) (fun c_188 => ?_) (fun c_188 => ?_)
          · refine v_iload (pc := 196) dX7_laws_196 rfl ?_
            refine v_ist_6 (pc := 198) dX7_laws_198 (by decide) rfl ?_
            refine v_iload (pc := 200) dX7_laws_200 rfl ?_
            refine v_if_eq (pc := 202) (tgt := 210) dX7_laws_202 (by decide) (fun c_202 => ?_) (fun c_202 => ?_)
            · refine v_iload (pc := 210) dX7_laws_210 rfl ?_
              refine v_ist_5 (pc := 212) dX7_laws_212 (by decide) rfl ?_
              refine v_inc_8 (pc := 214) (v := 1) dX7_laws_214 (by decide) (by decide) rfl ?_
              refine v_goto (pc := 217) (tgt := 55) dX7_laws_217 (by decide) ?_
              exact absurd c_163 c_144
            · refine v_iload (pc := 205) dX7_laws_205 rfl ?_
              refine v_goto (pc := 207) (tgt := 212) dX7_laws_207 (by decide) ?_
              refine v_ist_5 (pc := 212) dX7_laws_212 (by decide) rfl ?_
              refine v_inc_8 (pc := 214) (v := 1) dX7_laws_214 (by decide) (by decide) rfl ?_
              refine v_goto (pc := 217) (tgt := 55) dX7_laws_217 (by decide) ?_
              exact absurd c_163 c_144
          · refine v_iload (pc := 191) dX7_laws_191 rfl ?_
            refine v_goto (pc := 193) (tgt := 198) dX7_laws_193 (by decide) ?_
            refine v_ist_6 (pc := 198) dX7_laws_198 (by decide) rfl ?_
            refine v_iload (pc := 200) dX7_laws_200 rfl ?_
            refine v_if_eq (pc := 202) (tgt := 210) dX7_laws_202 (by decide) (fun c_202 => ?_) (fun c_202 => ?_)
            · refine v_iload (pc := 210) dX7_laws_210 rfl ?_
              refine v_ist_5 (pc := 212) dX7_laws_212 (by decide) rfl ?_
              refine v_inc_8 (pc := 214) (v := 1) dX7_laws_214 (by decide) (by decide) rfl ?_
              refine v_goto (pc := 217) (tgt := 55) dX7_laws_217 (by decide) ?_
              exact absurd c_163 c_144
            · refine v_iload (pc := 205) dX7_laws_205 rfl ?_
              refine v_goto (pc := 207) (tgt := 212) dX7_laws_207 (by decide) ?_
              refine v_ist_5 (pc := 212) dX7_laws_212 (by decide) rfl ?_
              refine v_inc_8 (pc := 214) (v := 1) dX7_laws_214 (by decide) (by decide) rfl ?_
              refine v_goto (pc := 217) (tgt := 55) dX7_laws_217 (by decide) ?_
              exact absurd c_163 c_144
        · refine v_iload (pc := 166) dX7_laws_166 rfl ?_
          refine v_iload_n (pc := 168) dX7_laws_168 rfl ?_
          refine v_icmp_gt (pc := 169) (tgt := 183) dX7_laws_169 (by decide) (fun c_169 => ?_) (fun c_169 => ?_)
          · refine v_iconst (pc := 183) (v := 0) (by decide) dX7_laws_183 ?_
            refine v_ist_12 (pc := 184) dX7_laws_184 (by decide) rfl ?_
            refine v_iload (pc := 186) dX7_laws_186 rfl ?_
            refine v_if_eq (pc := 188) (tgt := 196) dX7_laws_188 (by decide) (fun c_188 => ?_) (fun c_188 => ?_)
            · refine v_iload (pc := 196) dX7_laws_196 rfl ?_
              refine v_ist_6 (pc := 198) dX7_laws_198 (by decide) rfl ?_
              refine v_iload (pc := 200) dX7_laws_200 rfl ?_
              refine v_if_eq (pc := 202) (tgt := 210) dX7_laws_202 (by decide) (fun c_202 => ?_) (fun c_202 => ?_)
              · refine v_iload (pc := 210) dX7_laws_210 rfl ?_
                refine v_ist_5 (pc := 212) dX7_laws_212 (by decide) rfl ?_
                refine v_inc_8 (pc := 214) (v := 1) dX7_laws_214 (by decide) (by decide) rfl ?_
                refine v_goto (pc := 217) (tgt := 55) dX7_laws_217 (by decide) ?_
                refine v_fg_9 (v_fg_10 (v_fg_11 (v_fg_12 ?_)))
                rw [nI_1]
                rw [itN_s _ _ s, show lOs x y z s (itN (lOs x y z) (-1, 0, 0) s) = ((itN (lOs x y z) (-1, 0, 0) s).1, (itN (lOs x y z) (-1, 0, 0) s).2.1, (itN (lOs x y z) (-1, 0, 0) s).2.2 + 1) from by
                  unfold lOs
                  rw [if_neg (fun q => absurd q.2.1 (Int32.not_le.mpr c_169)), if_neg (fun q => absurd q.2.1 (Int32.not_le.mpr c_169)), if_pos ⟨c_144, c_150⟩]] at iho
                exact iho
              · refine v_iload (pc := 205) dX7_laws_205 rfl ?_
                refine v_goto (pc := 207) (tgt := 212) dX7_laws_207 (by decide) ?_
                refine v_ist_5 (pc := 212) dX7_laws_212 (by decide) rfl ?_
                refine v_inc_8 (pc := 214) (v := 1) dX7_laws_214 (by decide) (by decide) rfl ?_
                refine v_goto (pc := 217) (tgt := 55) dX7_laws_217 (by decide) ?_
                exact absurd rfl c_202
            · refine v_iload (pc := 191) dX7_laws_191 rfl ?_
              refine v_goto (pc := 193) (tgt := 198) dX7_laws_193 (by decide) ?_
              refine v_ist_6 (pc := 198) dX7_laws_198 (by decide) rfl ?_
              refine v_iload (pc := 200) dX7_laws_200 rfl ?_
              refine v_if_eq (pc := 202) (tgt := 210) dX7_laws_202 (by decide) (fun c_202 => ?_) (fun c_202 => ?_)
              · refine v_iload (pc := 210) dX7_laws_210 rfl ?_
                refine v_ist_5 (pc := 212) dX7_laws_212 (by decide) rfl ?_
                refine v_inc_8 (pc := 214) (v := 1) dX7_laws_214 (by decide) (by decide) rfl ?_
                refine v_goto (pc := 217) (tgt := 55) dX7_laws_217 (by decide) ?_
                exact absurd rfl c_188
              · refine v_iload (pc := 205) dX7_laws_205 rfl ?_
                refine v_goto (pc := 207) (tgt := 212) dX7_laws_207 (by decide) ?_
                refine v_ist_5 (pc := 212) dX7_laws_212 (by decide) rfl ?_
                refine v_inc_8 (pc := 214) (v := 1) dX7_laws_214 (by decide) (by decide) rfl ?_
                refine v_goto (pc := 217) (tgt := 55) dX7_laws_217 (by decide) ?_
                exact absurd rfl c_188
          · refine v_iload (pc := 172) dX7_laws_172 rfl ?_
            refine v_iload (pc := 174) dX7_laws_174 rfl ?_
            refine v_icmp_le (pc := 176) (tgt := 183) dX7_laws_176 (by decide) (fun c_176 => ?_) (fun c_176 => ?_)
            · refine v_iconst (pc := 183) (v := 0) (by decide) dX7_laws_183 ?_
              refine v_ist_12 (pc := 184) dX7_laws_184 (by decide) rfl ?_
              refine v_iload (pc := 186) dX7_laws_186 rfl ?_
              refine v_if_eq (pc := 188) (tgt := 196) dX7_laws_188 (by decide) (fun c_188 => ?_) (fun c_188 => ?_)
              · refine v_iload (pc := 196) dX7_laws_196 rfl ?_
                refine v_ist_6 (pc := 198) dX7_laws_198 (by decide) rfl ?_
                refine v_iload (pc := 200) dX7_laws_200 rfl ?_
                refine v_if_eq (pc := 202) (tgt := 210) dX7_laws_202 (by decide) (fun c_202 => ?_) (fun c_202 => ?_)
                · refine v_iload (pc := 210) dX7_laws_210 rfl ?_
                  refine v_ist_5 (pc := 212) dX7_laws_212 (by decide) rfl ?_
                  refine v_inc_8 (pc := 214) (v := 1) dX7_laws_214 (by decide) (by decide) rfl ?_
                  refine v_goto (pc := 217) (tgt := 55) dX7_laws_217 (by decide) ?_
                  refine v_fg_9 (v_fg_10 (v_fg_11 (v_fg_12 ?_)))
                  rw [nI_1]
                  rw [itN_s _ _ s, show lOs x y z s (itN (lOs x y z) (-1, 0, 0) s) = ((itN (lOs x y z) (-1, 0, 0) s).1, (itN (lOs x y z) (-1, 0, 0) s).2.1, (itN (lOs x y z) (-1, 0, 0) s).2.2 + 1) from by
                    unfold lOs
                    rw [if_neg (fun q => absurd q.2.2 (Int32.not_lt.mpr c_176)), if_neg (fun q => absurd q.2.2 (Int32.not_lt.mpr c_176)), if_pos ⟨c_144, c_150⟩]] at iho
                  exact iho
                · refine v_iload (pc := 205) dX7_laws_205 rfl ?_
                  refine v_goto (pc := 207) (tgt := 212) dX7_laws_207 (by decide) ?_
                  refine v_ist_5 (pc := 212) dX7_laws_212 (by decide) rfl ?_
                  refine v_inc_8 (pc := 214) (v := 1) dX7_laws_214 (by decide) (by decide) rfl ?_
                  refine v_goto (pc := 217) (tgt := 55) dX7_laws_217 (by decide) ?_
                  exact absurd rfl c_202
              · refine v_iload (pc := 191) dX7_laws_191 rfl ?_
                refine v_goto (pc := 193) (tgt := 198) dX7_laws_193 (by decide) ?_
                refine v_ist_6 (pc := 198) dX7_laws_198 (by decide) rfl ?_
                refine v_iload (pc := 200) dX7_laws_200 rfl ?_
                refine v_if_eq (pc := 202) (tgt := 210) dX7_laws_202 (by decide) (fun c_202 => ?_) (fun c_202 => ?_)
                · refine v_iload (pc := 210) dX7_laws_210 rfl ?_
                  refine v_ist_5 (pc := 212) dX7_laws_212 (by decide) rfl ?_
                  refine v_inc_8 (pc := 214) (v := 1) dX7_laws_214 (by decide) (by decide) rfl ?_
                  refine v_goto (pc := 217) (tgt := 55) dX7_laws_217 (by decide) ?_
                  exact absurd rfl c_188
                · refine v_iload (pc := 205) dX7_laws_205 rfl ?_
                  refine v_goto (pc := 207) (tgt := 212) dX7_laws_207 (by decide) ?_
                  refine v_ist_5 (pc := 212) dX7_laws_212 (by decide) rfl ?_
                  refine v_inc_8 (pc := 214) (v := 1) dX7_laws_214 (by decide) (by decide) rfl ?_
                  refine v_goto (pc := 217) (tgt := 55) dX7_laws_217 (by decide) ?_
                  exact absurd rfl c_188
            · refine v_iconst (pc := 179) (v := 1) (by decide) dX7_laws_179 ?_
              refine v_goto (pc := 180) (tgt := 184) dX7_laws_180 (by decide) ?_
              refine v_ist_12 (pc := 184) dX7_laws_184 (by decide) rfl ?_
              refine v_iload (pc := 186) dX7_laws_186 rfl ?_
              refine v_if_eq (pc := 188) (tgt := 196) dX7_laws_188 (by decide) (fun c_188 => ?_) (fun c_188 => ?_)
              · refine v_iload (pc := 196) dX7_laws_196 rfl ?_
                refine v_ist_6 (pc := 198) dX7_laws_198 (by decide) rfl ?_
                refine v_iload (pc := 200) dX7_laws_200 rfl ?_
                refine v_if_eq (pc := 202) (tgt := 210) dX7_laws_202 (by decide) (fun c_202 => ?_) (fun c_202 => ?_)
                · refine v_iload (pc := 210) dX7_laws_210 rfl ?_
                  refine v_ist_5 (pc := 212) dX7_laws_212 (by decide) rfl ?_
                  refine v_inc_8 (pc := 214) (v := 1) dX7_laws_214 (by decide) (by decide) rfl ?_
                  refine v_goto (pc := 217) (tgt := 55) dX7_laws_217 (by decide) ?_
                  exact absurd c_188 (by decide)
                · refine v_iload (pc := 205) dX7_laws_205 rfl ?_
                  refine v_goto (pc := 207) (tgt := 212) dX7_laws_207 (by decide) ?_
                  refine v_ist_5 (pc := 212) dX7_laws_212 (by decide) rfl ?_
                  refine v_inc_8 (pc := 214) (v := 1) dX7_laws_214 (by decide) (by decide) rfl ?_
                  refine v_goto (pc := 217) (tgt := 55) dX7_laws_217 (by decide) ?_
                  exact absurd c_188 (by decide)
              · refine v_iload (pc := 191) dX7_laws_191 rfl ?_
                refine v_goto (pc := 193) (tgt := 198) dX7_laws_193 (by decide) ?_
                refine v_ist_6 (pc := 198) dX7_laws_198 (by decide) rfl ?_
                refine v_iload (pc := 200) dX7_laws_200 rfl ?_
                refine v_if_eq (pc := 202) (tgt := 210) dX7_laws_202 (by decide) (fun c_202 => ?_) (fun c_202 => ?_)
                · refine v_iload (pc := 210) dX7_laws_210 rfl ?_
                  refine v_ist_5 (pc := 212) dX7_laws_212 (by decide) rfl ?_
                  refine v_inc_8 (pc := 214) (v := 1) dX7_laws_214 (by decide) (by decide) rfl ?_
                  refine v_goto (pc := 217) (tgt := 55) dX7_laws_217 (by decide) ?_
                  exact absurd c_202 (by decide)
                · refine v_iload (pc := 205) dX7_laws_205 rfl ?_
                  refine v_goto (pc := 207) (tgt := 212) dX7_laws_207 (by decide) ?_
                  refine v_ist_5 (pc := 212) dX7_laws_212 (by decide) rfl ?_
                  refine v_inc_8 (pc := 214) (v := 1) dX7_laws_214 (by decide) (by decide) rfl ?_
                  refine v_goto (pc := 217) (tgt := 55) dX7_laws_217 (by decide) ?_
                  refine v_fg_9 (v_fg_10 (v_fg_11 (v_fg_12 ?_)))
                  rw [nI_1]
                  rw [itN_s _ _ s, show lOs x y z s (itN (lOs x y z) (-1, 0, 0) s) = ((lIn x y s).2.1, nI s, (itN (lOs x y z) (-1, 0, 0) s).2.2 + 1) from by
                    unfold lOs
                    rw [if_pos ⟨c_163, Int32.not_lt.mp c_169, Int32.not_le.mp c_176⟩, if_pos ⟨c_163, Int32.not_lt.mp c_169, Int32.not_le.mp c_176⟩, if_pos ⟨c_144, c_150⟩]] at iho
                  exact iho
  | succ n ih =>
    intro i hi
    have hb7 : i < 6 := by omega
    refine v_iload (pc := 74) dX7_laws_74 rfl ?_
    refine v_bipush (pc := 76) (v := 6) (by decide) dX7_laws_76 ?_
    refine v_icmp_ge (pc := 78) (tgt := 140) dX7_laws_78 (by decide) (fun c_78 => absurd c_78 (nI_ge (b := 6) hb7 (by omega))) (fun c_78 => ?_)
    refine v_iload (pc := 81) dX7_laws_81 rfl ?_
    refine v_iload (pc := 83) dX7_laws_83 rfl ?_
    refine v_cS2i (pc := 85) dX7_laws_85 mkX7_56 m_has (Nat.le_of_ble_eq_true rfl) rfl (Nat.zero_le _) (Nat.zero_le _) (fun r_85 M_85 J_85 h_85 => ?_)
    obtain ⟨e1_85, e2_85, e3_85⟩ := h_85
    replace e1_85 := e1_85.symm
    replace e2_85 := e2_85.symm
    replace e3_85 := e3_85.symm
    subst e1_85 e2_85 e3_85
    refine v_if_eq (pc := 88) (tgt := 134) dX7_laws_88 (by decide) (fun c_88 => ?_) (fun c_88 => ?_)
    · refine v_inc_12 (pc := 134) (v := 1) dX7_laws_134 (by decide) (by decide) rfl ?_
      refine v_goto (pc := 137) (tgt := 74) dX7_laws_137 (by decide) ?_
      rw [nI_1]
      have e9 := ih (i + 1) (by omega)
      rw [itN_s _ _ i] at e9
      rw [show (lI x y s) i (itN (lI x y s) (0, 0, 1) i) = _ from if_neg (bI_0.mp c_88)] at e9
      exact e9
    · refine v_iload (pc := 91) dX7_laws_91 rfl ?_
      refine v_if_eq (pc := 93) (tgt := 109) dX7_laws_93 (by decide) (fun c_93 => ?_) (fun c_93 => ?_)
      · refine v_iconst (pc := 109) (v := 0) (by decide) dX7_laws_109 ?_
        refine v_ist_11 (pc := 110) dX7_laws_110 (by decide) rfl ?_
        refine v_iload (pc := 112) dX7_laws_112 rfl ?_
        refine v_iload_n (pc := 114) dX7_laws_114 rfl ?_
        refine v_iload (pc := 115) dX7_laws_115 rfl ?_
        refine v_cS2i (pc := 117) dX7_laws_117 mkX7_121 (m_digit hb7) (Nat.le_of_ble_eq_true rfl) rfl (Nat.zero_le _) (Nat.zero_le _) (fun r_117 M_117 J_117 h_117 => ?_)
        obtain ⟨e1_117, e2_117, e3_117⟩ := h_117
        replace e1_117 := e1_117.symm
        replace e2_117 := e2_117.symm
        replace e3_117 := e3_117.symm
        subst e1_117 e2_117 e3_117
        refine v_iadd (pc := 120) dX7_laws_120 ?_
        refine v_ist_9 (pc := 121) dX7_laws_121 (by decide) rfl ?_
        refine v_iload (pc := 123) dX7_laws_123 rfl ?_
        refine v_iload_n (pc := 125) dX7_laws_125 rfl ?_
        refine v_iload (pc := 126) dX7_laws_126 rfl ?_
        refine v_cS2i (pc := 128) dX7_laws_128 mkX7_121 (m_digit hb7) (Nat.le_of_ble_eq_true rfl) rfl (Nat.zero_le _) (Nat.zero_le _) (fun r_128 M_128 J_128 h_128 => ?_)
        obtain ⟨e1_128, e2_128, e3_128⟩ := h_128
        replace e1_128 := e1_128.symm
        replace e2_128 := e2_128.symm
        replace e3_128 := e3_128.symm
        subst e1_128 e2_128 e3_128
        refine v_iadd (pc := 131) dX7_laws_131 ?_
        refine v_ist_10 (pc := 132) dX7_laws_132 (by decide) rfl ?_
        refine v_inc_12 (pc := 134) (v := 1) dX7_laws_134 (by decide) (by decide) rfl ?_
        refine v_goto (pc := 137) (tgt := 74) dX7_laws_137 (by decide) ?_
        rw [nI_1]
        have e9 := ih (i + 1) (by omega)
        rw [itN_s _ _ i] at e9
        rw [show lI x y s i (itN (lI x y s) (0, 0, 1) i) = ((itN (lI x y s) (0, 0, 1) i).1 + dg x i, (itN (lI x y s) (0, 0, 1) i).2.1 + dg y i, 0) from by unfold lI; rw [if_pos (bI_n0.mp c_88)]; exact congrArg (fun v => ((itN (lI x y s) (0, 0, 1) i).1 + dg x i, (itN (lI x y s) (0, 0, 1) i).2.1 + dg y i, v)) (if_neg (fun q => q.1 c_93))] at e9
        exact e9
      · refine v_iload_n (pc := 96) dX7_laws_96 rfl ?_
        refine v_iload (pc := 97) dX7_laws_97 rfl ?_
        refine v_cS2i (pc := 99) dX7_laws_99 mkX7_121 (m_digit hb7) (Nat.le_of_ble_eq_true rfl) rfl (Nat.zero_le _) (Nat.zero_le _) (fun r_99 M_99 J_99 h_99 => ?_)
        obtain ⟨e1_99, e2_99, e3_99⟩ := h_99
        replace e1_99 := e1_99.symm
        replace e2_99 := e2_99.symm
        replace e3_99 := e3_99.symm
        subst e1_99 e2_99 e3_99
        refine v_if_le (pc := 102) (tgt := 109) dX7_laws_102 (by decide) (fun c_102 => ?_) (fun c_102 => ?_)
        · refine v_iconst (pc := 109) (v := 0) (by decide) dX7_laws_109 ?_
          refine v_ist_11 (pc := 110) dX7_laws_110 (by decide) rfl ?_
          refine v_iload (pc := 112) dX7_laws_112 rfl ?_
          refine v_iload_n (pc := 114) dX7_laws_114 rfl ?_
          refine v_iload (pc := 115) dX7_laws_115 rfl ?_
          refine v_cS2i (pc := 117) dX7_laws_117 mkX7_121 (m_digit hb7) (Nat.le_of_ble_eq_true rfl) rfl (Nat.zero_le _) (Nat.zero_le _) (fun r_117 M_117 J_117 h_117 => ?_)
          obtain ⟨e1_117, e2_117, e3_117⟩ := h_117
          replace e1_117 := e1_117.symm
          replace e2_117 := e2_117.symm
          replace e3_117 := e3_117.symm
          subst e1_117 e2_117 e3_117
          refine v_iadd (pc := 120) dX7_laws_120 ?_
          refine v_ist_9 (pc := 121) dX7_laws_121 (by decide) rfl ?_
          refine v_iload (pc := 123) dX7_laws_123 rfl ?_
          refine v_iload_n (pc := 125) dX7_laws_125 rfl ?_
          refine v_iload (pc := 126) dX7_laws_126 rfl ?_
          refine v_cS2i (pc := 128) dX7_laws_128 mkX7_121 (m_digit hb7) (Nat.le_of_ble_eq_true rfl) rfl (Nat.zero_le _) (Nat.zero_le _) (fun r_128 M_128 J_128 h_128 => ?_)
          obtain ⟨e1_128, e2_128, e3_128⟩ := h_128
          replace e1_128 := e1_128.symm
          replace e2_128 := e2_128.symm
          replace e3_128 := e3_128.symm
          subst e1_128 e2_128 e3_128
          refine v_iadd (pc := 131) dX7_laws_131 ?_
          refine v_ist_10 (pc := 132) dX7_laws_132 (by decide) rfl ?_
          refine v_inc_12 (pc := 134) (v := 1) dX7_laws_134 (by decide) (by decide) rfl ?_
          refine v_goto (pc := 137) (tgt := 74) dX7_laws_137 (by decide) ?_
          rw [nI_1]
          have e9 := ih (i + 1) (by omega)
          rw [itN_s _ _ i] at e9
          rw [show lI x y s i (itN (lI x y s) (0, 0, 1) i) = ((itN (lI x y s) (0, 0, 1) i).1 + dg x i, (itN (lI x y s) (0, 0, 1) i).2.1 + dg y i, 0) from by unfold lI; rw [if_pos (bI_n0.mp c_88)]; exact congrArg (fun v => ((itN (lI x y s) (0, 0, 1) i).1 + dg x i, (itN (lI x y s) (0, 0, 1) i).2.1 + dg y i, v)) (if_neg (fun q => absurd q.2 (Int32.not_lt.mpr c_102)))] at e9
          exact e9
        · refine v_iconst (pc := 105) (v := 1) (by decide) dX7_laws_105 ?_
          refine v_goto (pc := 106) (tgt := 110) dX7_laws_106 (by decide) ?_
          refine v_ist_11 (pc := 110) dX7_laws_110 (by decide) rfl ?_
          refine v_iload (pc := 112) dX7_laws_112 rfl ?_
          refine v_iload_n (pc := 114) dX7_laws_114 rfl ?_
          refine v_iload (pc := 115) dX7_laws_115 rfl ?_
          refine v_cS2i (pc := 117) dX7_laws_117 mkX7_121 (m_digit hb7) (Nat.le_of_ble_eq_true rfl) rfl (Nat.zero_le _) (Nat.zero_le _) (fun r_117 M_117 J_117 h_117 => ?_)
          obtain ⟨e1_117, e2_117, e3_117⟩ := h_117
          replace e1_117 := e1_117.symm
          replace e2_117 := e2_117.symm
          replace e3_117 := e3_117.symm
          subst e1_117 e2_117 e3_117
          refine v_iadd (pc := 120) dX7_laws_120 ?_
          refine v_ist_9 (pc := 121) dX7_laws_121 (by decide) rfl ?_
          refine v_iload (pc := 123) dX7_laws_123 rfl ?_
          refine v_iload_n (pc := 125) dX7_laws_125 rfl ?_
          refine v_iload (pc := 126) dX7_laws_126 rfl ?_
          refine v_cS2i (pc := 128) dX7_laws_128 mkX7_121 (m_digit hb7) (Nat.le_of_ble_eq_true rfl) rfl (Nat.zero_le _) (Nat.zero_le _) (fun r_128 M_128 J_128 h_128 => ?_)
          obtain ⟨e1_128, e2_128, e3_128⟩ := h_128
          replace e1_128 := e1_128.symm
          replace e2_128 := e2_128.symm
          replace e3_128 := e3_128.symm
          subst e1_128 e2_128 e3_128
          refine v_iadd (pc := 131) dX7_laws_131 ?_
          refine v_ist_10 (pc := 132) dX7_laws_132 (by decide) rfl ?_
          refine v_inc_12 (pc := 134) (v := 1) dX7_laws_134 (by decide) (by decide) rfl ?_
          refine v_goto (pc := 137) (tgt := 74) dX7_laws_137 (by decide) ?_
          rw [nI_1]
          have e9 := ih (i + 1) (by omega)
          rw [itN_s _ _ i] at e9
          rw [show lI x y s i (itN (lI x y s) (0, 0, 1) i) = ((itN (lI x y s) (0, 0, 1) i).1 + dg x i, (itN (lI x y s) (0, 0, 1) i).2.1 + dg y i, 1) from by unfold lI; rw [if_pos (bI_n0.mp c_88)]; exact congrArg (fun v => ((itN (lI x y s) (0, 0, 1) i).1 + dg x i, (itN (lI x y s) (0, 0, 1) i).2.1 + dg y i, v)) (if_pos ⟨c_93, Int32.not_le.mp c_102⟩)] at e9
          exact e9

set_option maxRecDepth 100000 in
set_option maxHeartbeats 1000000 in
theorem lm_laws {x y z u : Int32} {M : mM} {J : mJ} : ∀ (n i : Nat), n + i = 64 → V RX7 cX7_laws 13 (some .int) false (rmD 1) false LY.length none (mNi LY (fun r0 M1 J1 => r0 = sel3 u (itN (lOs x y z) (-1, 0, 0) 64).1 (itN (lOs x y z) (-1, 0, 0) 64).2.1 (itN (lOs x y z) (-1, 0, 0) 64).2.2 ∧ M1 = M ∧ J1 = J)) 0 0 55 [some (.ref 49), some (.int x), some (.int y), some (.int z), some (.int u), some (.int (itN (lOs x y z) (-1, 0, 0) i).1), some (.int (itN (lOs x y z) (-1, 0, 0) i).2.1), some (.int (itN (lOs x y z) (-1, 0, 0) i).2.2), some (.int (nI i)), none, none, none, none] [] LY M J := by
  intro n
  induction n with
  | zero =>
    intro i hi
    obtain rfl : i = 64 := by omega
    refine v_iload (pc := 55) dX7_laws_55 rfl ?_
    refine v_bipush (pc := 57) (v := 64) (by decide) dX7_laws_57 ?_
    refine v_icmp_ge (pc := 59) (tgt := 220) dX7_laws_59 (by decide) (fun c_59 => ?_) (fun c_59 => absurd (by decide) c_59)
    refine v_iload (pc := 220) dX7_laws_220 rfl ?_
    refine v_if_ne (pc := 222) (tgt := 230) dX7_laws_222 (by decide) (fun c_222 => ?_) (fun c_222 => ?_)
    · refine v_iload (pc := 230) dX7_laws_230 rfl ?_
      refine v_iconst (pc := 232) (v := 1) (by decide) dX7_laws_232 ?_
      refine v_icmp_ne (pc := 233) (tgt := 241) dX7_laws_233 (by decide) (fun c_233 => ?_) (fun c_233 => ?_)
      · refine v_iload (pc := 241) dX7_laws_241 rfl ?_
        refine v_iret (pc := 243) dX7_laws_243 (Nat.zero_le _) (Nat.zero_le _) ?_
        exact ⟨(sel3_2 ⟨c_222, c_233⟩).symm, rfl, rfl⟩
      · refine v_iload (pc := 236) dX7_laws_236 rfl ?_
        refine v_goto (pc := 238) (tgt := 243) dX7_laws_238 (by decide) ?_
        refine v_iret (pc := 243) dX7_laws_243 (Nat.zero_le _) (Nat.zero_le _) ?_
        subst c_233
        exact ⟨rfl, rfl, rfl⟩
    · refine v_iload (pc := 225) dX7_laws_225 rfl ?_
      refine v_goto (pc := 227) (tgt := 243) dX7_laws_227 (by decide) ?_
      refine v_iret (pc := 243) dX7_laws_243 (Nat.zero_le _) (Nat.zero_le _) ?_
      subst c_222
      exact ⟨rfl, rfl, rfl⟩
  | succ n ih =>
    intro i hi
    have hb7 : i < 64 := by omega
    refine v_iload (pc := 55) dX7_laws_55 rfl ?_
    refine v_bipush (pc := 57) (v := 64) (by decide) dX7_laws_57 ?_
    refine v_icmp_ge (pc := 59) (tgt := 220) dX7_laws_59 (by decide) (fun c_59 => absurd c_59 (nI_ge (b := 64) hb7 (by omega))) (fun c_59 => ?_)
    refine v_iconst (pc := 62) (v := 0) (by decide) dX7_laws_62 ?_
    refine v_ist_9 (pc := 63) dX7_laws_63 (by decide) rfl ?_
    refine v_iconst (pc := 65) (v := 0) (by decide) dX7_laws_65 ?_
    refine v_ist_10 (pc := 66) dX7_laws_66 (by decide) rfl ?_
    refine v_iconst (pc := 68) (v := 1) (by decide) dX7_laws_68 ?_
    refine v_ist_11 (pc := 69) dX7_laws_69 (by decide) rfl ?_
    refine v_iconst (pc := 71) (v := 0) (by decide) dX7_laws_71 ?_
    refine v_ist_12 (pc := 72) dX7_laws_72 (by decide) rfl ?_
    exact lm_laws1 hb7 (ih (i + 1) (by omega)) 6 0 rfl

set_option maxRecDepth 100000 in
set_option maxHeartbeats 4000000 in
theorem m_laws {x y z u : Int32} {M : mM} {J : mJ}  : Ct yX7_laws cX7_laws 13 (some .int) (rmD 1) false [.ref 49, .int x, .int y, .int z, .int u] LY M J (mNi LY (fun r0 M1 J1 => r0 = (if ((0 ≤ x ∧ x ≤ 999999) ∧ (0 ≤ y ∧ y ≤ 999999) ∧ (0 ≤ z ∧ z ≤ 54) ∧ (0 ≤ u ∧ u ≤ 2)) then sel3 u (itN (lOs x y z) (-1, 0, 0) 64).1 (itN (lOs x y z) (-1, 0, 0) 64).2.1 (itN (lOs x y z) (-1, 0, 0) 64).2.2 else -2) ∧ M1 = M ∧ J1 = J)) := by
  refine ct_of (own := RX7) (ini := false) (ls := [some (.ref 49), some (.int x), some (.int y), some (.int z), some (.int u), none, none, none, none, none, none, none, none]) 8 (by decide +kernel) rfl (fun h => by cases h) rfl (fun ad => by first | exact Nat.le_of_ble_eq_true rfl) ?_
  refine v_iload_n (pc := 0) dX7_laws_0 rfl ?_
  refine v_iconst (pc := 1) (v := 0) (by decide) dX7_laws_1 ?_
  refine v_ldc (pc := 2) ckX7_120 dX7_laws_2 ?_
  refine v_cS3i (pc := 4) dX7_laws_4 mkX7_49 m_in (Nat.le_of_ble_eq_true rfl) rfl (Nat.zero_le _) (Nat.zero_le _) (fun r_4 M_4 J_4 h_4 => ?_)
  obtain ⟨e1_4, e2_4, e3_4⟩ := h_4
  replace e1_4 := e1_4.symm
  replace e2_4 := e2_4.symm
  replace e3_4 := e3_4.symm
  subst e1_4 e2_4 e3_4
  refine v_if_eq (pc := 7) (tgt := 40) dX7_laws_7 (by decide) (fun c_7 => ?_) (fun c_7 => ?_)
  · refine v_bipush (pc := 40) (v := (-2)) (by decide) dX7_laws_40 ?_
    refine v_iret (pc := 42) dX7_laws_42 (Nat.zero_le _) (Nat.zero_le _) ?_
    exact ⟨by rw [if_neg (fun q => bI_0.mp c_7 q.1)], rfl, rfl⟩
  · refine v_iload_n (pc := 10) dX7_laws_10 rfl ?_
    refine v_iconst (pc := 11) (v := 0) (by decide) dX7_laws_11 ?_
    refine v_ldc (pc := 12) ckX7_120 dX7_laws_12 ?_
    refine v_cS3i (pc := 14) dX7_laws_14 mkX7_49 m_in (Nat.le_of_ble_eq_true rfl) rfl (Nat.zero_le _) (Nat.zero_le _) (fun r_14 M_14 J_14 h_14 => ?_)
    obtain ⟨e1_14, e2_14, e3_14⟩ := h_14
    replace e1_14 := e1_14.symm
    replace e2_14 := e2_14.symm
    replace e3_14 := e3_14.symm
    subst e1_14 e2_14 e3_14
    refine v_if_eq (pc := 17) (tgt := 40) dX7_laws_17 (by decide) (fun c_17 => ?_) (fun c_17 => ?_)
    · refine v_bipush (pc := 40) (v := (-2)) (by decide) dX7_laws_40 ?_
      refine v_iret (pc := 42) dX7_laws_42 (Nat.zero_le _) (Nat.zero_le _) ?_
      exact ⟨by rw [if_neg (fun q => bI_0.mp c_17 q.2.1)], rfl, rfl⟩
    · refine v_iload_n (pc := 20) dX7_laws_20 rfl ?_
      refine v_iconst (pc := 21) (v := 0) (by decide) dX7_laws_21 ?_
      refine v_bipush (pc := 22) (v := 54) (by decide) dX7_laws_22 ?_
      refine v_cS3i (pc := 24) dX7_laws_24 mkX7_49 m_in (Nat.le_of_ble_eq_true rfl) rfl (Nat.zero_le _) (Nat.zero_le _) (fun r_24 M_24 J_24 h_24 => ?_)
      obtain ⟨e1_24, e2_24, e3_24⟩ := h_24
      replace e1_24 := e1_24.symm
      replace e2_24 := e2_24.symm
      replace e3_24 := e3_24.symm
      subst e1_24 e2_24 e3_24
      refine v_if_eq (pc := 27) (tgt := 40) dX7_laws_27 (by decide) (fun c_27 => ?_) (fun c_27 => ?_)
      · refine v_bipush (pc := 40) (v := (-2)) (by decide) dX7_laws_40 ?_
        refine v_iret (pc := 42) dX7_laws_42 (Nat.zero_le _) (Nat.zero_le _) ?_
        exact ⟨by rw [if_neg (fun q => bI_0.mp c_27 q.2.2.1)], rfl, rfl⟩
      · refine v_iload (pc := 30) dX7_laws_30 rfl ?_
        refine v_iconst (pc := 32) (v := 0) (by decide) dX7_laws_32 ?_
        refine v_iconst (pc := 33) (v := 2) (by decide) dX7_laws_33 ?_
        refine v_cS3i (pc := 34) dX7_laws_34 mkX7_49 m_in (Nat.le_of_ble_eq_true rfl) rfl (Nat.zero_le _) (Nat.zero_le _) (fun r_34 M_34 J_34 h_34 => ?_)
        obtain ⟨e1_34, e2_34, e3_34⟩ := h_34
        replace e1_34 := e1_34.symm
        replace e2_34 := e2_34.symm
        replace e3_34 := e3_34.symm
        subst e1_34 e2_34 e3_34
        refine v_if_ne (pc := 37) (tgt := 43) dX7_laws_37 (by decide) (fun c_37 => ?_) (fun c_37 => ?_)
        · refine v_iconst (pc := 43) (v := (-1)) (by decide) dX7_laws_43 ?_
          refine v_ist_5 (pc := 44) dX7_laws_44 (by decide) rfl ?_
          refine v_iconst (pc := 46) (v := 0) (by decide) dX7_laws_46 ?_
          refine v_ist_6 (pc := 47) dX7_laws_47 (by decide) rfl ?_
          refine v_iconst (pc := 49) (v := 0) (by decide) dX7_laws_49 ?_
          refine v_ist_7 (pc := 50) dX7_laws_50 (by decide) rfl ?_
          refine v_iconst (pc := 52) (v := 0) (by decide) dX7_laws_52 ?_
          refine v_ist_8 (pc := 53) dX7_laws_53 (by decide) rfl ?_
          refine V.mono (fun o a b c q => ?_) (lm_laws 64 0 rfl)
          rw [if_pos ⟨bI_n0.mp c_7, bI_n0.mp c_17, bI_n0.mp c_27, bI_n0.mp c_37⟩]
          exact q
        · refine v_bipush (pc := 40) (v := (-2)) (by decide) dX7_laws_40 ?_
          refine v_iret (pc := 42) dX7_laws_42 (Nat.zero_le _) (Nat.zero_le _) ?_
          exact ⟨by rw [if_neg (fun q => bI_0.mp c_37 q.2.2.2)], rfl, rfl⟩

set_option maxRecDepth 100000 in
set_option maxHeartbeats 4000000 in
theorem lm_breath {x : Int32} {M : mM} {J : mJ}  : ∀ (n i : Nat), n + i = 7 → V RX7 cX7_breathOf 4 (some .int) false (rmD 1) false LY.length none (mNi LY (fun r0 M1 J1 => r0 = bsum (M 53) x 7 ∧ M1 = M ∧ J1 = J)) 0 0 4 [some (.ref 49), some (.int x), some (.int (bsum (M 53) x i)), some (.int (nI i))] [] LY M J := by
  intro n
  induction n with
  | zero =>
    intro i hi
    obtain rfl : i = 7 := by omega
    refine v_iload_n (pc := 4) dX7_breathOf_4 rfl ?_
    refine v_bipush (pc := 5) (v := 7) (by decide) dX7_breathOf_5 ?_
    refine v_icmp_ge (pc := 7) (tgt := 37) dX7_breathOf_7 (by decide) (fun c_7 => ?_) (fun c_7 => absurd (by decide) c_7)
    refine v_iload_n (pc := 37) dX7_breathOf_37 rfl ?_
    refine v_iret (pc := 38) dX7_breathOf_38 (Nat.zero_le _) (Nat.zero_le _) ?_
    exact ⟨rfl, rfl, rfl⟩
  | succ n ih =>
    intro i hi
    have hb7 : i < 7 := by omega
    have hcl := nI_clamp (show i < 2 ^ 31 by omega)
    refine v_iload_n (pc := 4) dX7_breathOf_4 rfl ?_
    refine v_bipush (pc := 5) (v := 7) (by decide) dX7_breathOf_5 ?_
    refine v_icmp_ge (pc := 7) (tgt := 37) dX7_breathOf_7 (by decide) (fun c_7 => absurd c_7 (nI_ge (b := 7) hb7 (by omega))) (fun c_7 => ?_)
    refine v_iload_n (pc := 10) dX7_breathOf_10 rfl ?_
    refine v_iload_n (pc := 11) dX7_breathOf_11 rfl ?_
    refine v_iload_n (pc := 12) dX7_breathOf_12 rfl ?_
    refine v_cS2i (pc := 13) dX7_breathOf_13 mkX7_56 m_has (Nat.le_of_ble_eq_true rfl) rfl (Nat.zero_le _) (Nat.zero_le _) (fun r_13 M_13 J_13 h_13 => ?_)
    obtain ⟨e1_13, e2_13, e3_13⟩ := h_13
    replace e1_13 := e1_13.symm
    replace e2_13 := e2_13.symm
    replace e3_13 := e3_13.symm
    subst e1_13 e2_13 e3_13
    refine v_if_eq (pc := 16) (tgt := 28) dX7_breathOf_16 (by decide) (fun c_16 => ?_) (fun c_16 => ?_)
    · refine v_iconst (pc := 28) (v := 0) (by decide) dX7_breathOf_28 ?_
      refine v_iadd (pc := 29) dX7_breathOf_29 ?_
      refine v_ist_2 (pc := 30) dX7_breathOf_30 (by decide) rfl ?_
      refine v_inc_3 (pc := 31) (v := 1) dX7_breathOf_31 (by decide) (by decide) rfl ?_
      refine v_goto (pc := 34) (tgt := 4) dX7_breathOf_34 (by decide) ?_
      rw [nI_1]
      have e9 := ih (i + 1) (by omega)
      rw [show bsum (M 53) x (i + 1) = _ from if_neg (bI_0.mp c_16)] at e9
      rw [Int32.add_zero]
      exact e9
    · refine v_aload_n (pc := 19) dX7_breathOf_19 rfl ?_
      refine v_getR (pc := 20) fkX7_23 ly49 rfl dX7_breathOf_20 ?_
      refine v_iload_n (pc := 23) dX7_breathOf_23 rfl ?_
      refine v_iald (pc := 24) ly53 ?_ dX7_breathOf_24 ?_
      · exact vp_in_nI (show i < 107 by omega) (by omega)
      refine v_goto (pc := 25) (tgt := 29) dX7_breathOf_25 (by decide) ?_
      refine v_iadd (pc := 29) dX7_breathOf_29 ?_
      refine v_ist_2 (pc := 30) dX7_breathOf_30 (by decide) rfl ?_
      refine v_inc_3 (pc := 31) (v := 1) dX7_breathOf_31 (by decide) (by decide) rfl ?_
      refine v_goto (pc := 34) (tgt := 4) dX7_breathOf_34 (by decide) ?_
      rw [nI_1]
      have e9 := ih (i + 1) (by omega)
      rw [hcl]
      rw [show bsum (M 53) x (i + 1) = _ from if_pos (bI_n0.mp c_16)] at e9
      exact e9

set_option maxRecDepth 100000 in
set_option maxHeartbeats 4000000 in
theorem m_breath {x : Int32} {M : mM} {J : mJ}  : Ct yX7_breathOf cX7_breathOf 4 (some .int) (rmD 1) false [.ref 49, .int x] LY M J (mNi LY (fun r0 M1 J1 => r0 = bsum (M 53) x 7 ∧ M1 = M ∧ J1 = J)) := by
  refine ct_of (own := RX7) (ini := false) (ls := [some (.ref 49), some (.int x), none, none]) 2 (by decide +kernel) rfl (fun h => by cases h) rfl (fun ad => by first | exact Nat.le_of_ble_eq_true rfl) ?_
  refine v_iconst (pc := 0) (v := 0) (by decide) dX7_breathOf_0 ?_
  refine v_ist_2 (pc := 1) dX7_breathOf_1 (by decide) rfl ?_
  refine v_iconst (pc := 2) (v := 0) (by decide) dX7_breathOf_2 ?_
  refine v_ist_3 (pc := 3) dX7_breathOf_3 (by decide) rfl ?_
  exact lm_breath 7 0 rfl

set_option maxRecDepth 100000 in
set_option maxHeartbeats 4000000 in
theorem m_passes {x : Int32} {M : mM} {J : mJ}  : Ct yX7_passes cX7_passes 2 (some .boolean) (rmD 2) false [.ref 49, .int x] LY M J (mNi LY (fun r0 M1 J1 => r0 = bI (psP (M 53 7) (M 53) x) ∧ M1 = M ∧ J1 = J)) := by
  refine ct_of (own := RX7) (ini := false) (ls := [some (.ref 49), some (.int x)]) 0 (by decide +kernel) rfl (fun h => by cases h) rfl (fun ad => by first | exact Nat.le_of_ble_eq_true rfl) ?_
  refine v_iconst (pc := 0) (v := 2) (by decide) dX7_passes_0 ?_
  refine v_aload_n (pc := 1) dX7_passes_1 rfl ?_
  refine v_iload_n (pc := 2) dX7_passes_2 rfl ?_
  refine v_cV1i (pc := 3) dX7_passes_3 mkX7_124 m_breath ly49 rfl (Nat.le_of_ble_eq_true rfl) rfl (Nat.zero_le _) (Nat.zero_le _) (fun r_3 M_3 J_3 h_3 => ?_)
  obtain ⟨e1_3, e2_3, e3_3⟩ := h_3
  replace e1_3 := e1_3.symm
  replace e2_3 := e2_3.symm
  replace e3_3 := e3_3.symm
  subst e1_3 e2_3 e3_3
  refine v_imul (pc := 6) dX7_passes_6 ?_
  refine v_aload_n (pc := 7) dX7_passes_7 rfl ?_
  refine v_aload_n (pc := 8) dX7_passes_8 rfl ?_
  refine v_getR (pc := 9) fkX7_23 ly49 rfl dX7_passes_9 ?_
  refine v_bipush (pc := 12) (v := 7) (by decide) dX7_passes_12 ?_
  refine v_iald (pc := 14) ly53 ?_ dX7_passes_14 ?_
  · unfold vp_in; decide
  rw [show Int32.toNatClampNeg 7 = 7 from rfl]
  refine v_cV1i (pc := 15) dX7_passes_15 mkX7_124 m_breath ly49 rfl (Nat.le_of_ble_eq_true rfl) rfl (Nat.zero_le _) (Nat.zero_le _) (fun r_15 M_15 J_15 h_15 => ?_)
  obtain ⟨e1_15, e2_15, e3_15⟩ := h_15
  replace e1_15 := e1_15.symm
  replace e2_15 := e2_15.symm
  replace e3_15 := e3_15.symm
  subst e1_15 e2_15 e3_15
  refine v_icmp_le (pc := 18) (tgt := 25) dX7_passes_18 (by decide) (fun c_18 => ?_) (fun c_18 => ?_)
  · refine v_iconst (pc := 25) (v := 0) (by decide) dX7_passes_25 ?_
    refine v_zret (pc := 26) dX7_passes_26 (Nat.zero_le _) (Nat.zero_le _) (by first | exact Or.inl rfl | exact Or.inr rfl | assumption) ?_
    exact ⟨bI_f (Int32.not_lt.mpr c_18), rfl, rfl⟩
  · refine v_iconst (pc := 21) (v := 1) (by decide) dX7_passes_21 ?_
    refine v_goto (pc := 22) (tgt := 26) dX7_passes_22 (by decide) ?_
    refine v_zret (pc := 26) dX7_passes_26 (Nat.zero_le _) (Nat.zero_le _) (by first | exact Or.inl rfl | exact Or.inr rfl | assumption) ?_
    exact ⟨bI_t (Int32.not_le.mp c_18), rfl, rfl⟩

def npw (bl : Int32) (b : Nat → Int32) (x : Int32) (i : Nat) (a : Int32) : Int32 := if nI i &&& (bl ^^^ (-1)) = 0 ∧ ¬ bt (nI i) x ∧ ¬ psP bl b (nI i) ∧ psP bl b (nI i ||| bv x) then a + 1 else a
def nhd (bl : Int32) (b : Nat → Int32) (x : Int32) (i : Nat) (a : Int32) : Int32 := if nI i &&& (x ^^^ (-1)) = 0 ∧ (a < 0 ∨ pc7 (nI i) 7 < pc7 a 7) ∧ ¬ psP bl b (x &&& (nI i ^^^ (-1))) then nI i else a

set_option maxRecDepth 100000 in
set_option maxHeartbeats 4000000 in
theorem lm_power {x : Int32} {M : mM} {J : mJ}  : ∀ (n i : Nat), n + i = 128 → V RX7 cX7_power 5 (some .int) false (rmD 3) false LY.length none (mNi LY (fun r0 M1 J1 => r0 = itN (npw (M 53 7) (M 53) x) 0 128 ∧ M1 = M ∧ J1 = J)) 0 0 14 [some (.ref 49), some (.int x), some (.int (itN (npw (M 53 7) (M 53) x) 0 i)), some (.int (nI i)), none] [] LY M J := by
  intro n
  induction n with
  | zero =>
    intro i hi
    obtain rfl : i = 128 := by omega
    refine v_iload_n (pc := 14) dX7_power_14 rfl ?_
    refine v_sipush (pc := 15) (v := 128) (by decide) dX7_power_15 ?_
    refine v_icmp_ge (pc := 18) (tgt := 89) dX7_power_18 (by decide) (fun c_18 => ?_) (fun c_18 => absurd (by decide) c_18)
    refine v_iload_n (pc := 89) dX7_power_89 rfl ?_
    refine v_iret (pc := 90) dX7_power_90 (Nat.zero_le _) (Nat.zero_le _) ?_
    exact ⟨rfl, rfl, rfl⟩
  | succ n ih =>
    intro i hi
    have hb7 : i < 128 := by omega
    have hcl := nI_clamp (show i < 2 ^ 31 by omega)
    refine v_iload_n (pc := 14) dX7_power_14 rfl ?_
    refine v_sipush (pc := 15) (v := 128) (by decide) dX7_power_15 ?_
    refine v_icmp_ge (pc := 18) (tgt := 89) dX7_power_18 (by decide) (fun c_18 => absurd c_18 (nI_ge (b := 128) hb7 (by omega))) (fun c_18 => ?_)
    refine v_iload_n (pc := 21) dX7_power_21 rfl ?_
    refine v_aload_n (pc := 22) dX7_power_22 rfl ?_
    refine v_getR (pc := 23) fkX7_23 ly49 rfl dX7_power_23 ?_
    refine v_bipush (pc := 26) (v := 7) (by decide) dX7_power_26 ?_
    refine v_iald (pc := 28) ly53 ?_ dX7_power_28 ?_
    · unfold vp_in; decide
    rw [show Int32.toNatClampNeg 7 = 7 from rfl]
    refine v_iconst (pc := 29) (v := (-1)) (by decide) dX7_power_29 ?_
    refine v_ixor (pc := 30) dX7_power_30 ?_
    refine v_iand (pc := 31) dX7_power_31 ?_
    refine v_if_ne (pc := 32) (tgt := 47) dX7_power_32 (by decide) (fun c_32 => ?_) (fun c_32 => ?_)
    · refine v_iconst (pc := 47) (v := 0) (by decide) dX7_power_47 ?_
      refine v_ist_4 (pc := 48) dX7_power_48 (by decide) rfl ?_
      refine v_iload_n (pc := 50) dX7_power_50 rfl ?_
      refine v_iload (pc := 51) dX7_power_51 rfl ?_
      refine v_if_eq (pc := 53) (tgt := 80) dX7_power_53 (by decide) (fun c_53 => ?_) (fun c_53 => ?_)
      · refine v_iconst (pc := 80) (v := 0) (by decide) dX7_power_80 ?_
        refine v_iadd (pc := 81) dX7_power_81 ?_
        refine v_ist_2 (pc := 82) dX7_power_82 (by decide) rfl ?_
        refine v_inc_3 (pc := 83) (v := 1) dX7_power_83 (by decide) (by decide) rfl ?_
        refine v_goto (pc := 86) (tgt := 14) dX7_power_86 (by decide) ?_
        refine v_fg_4 ?_
        rw [nI_1]
        have e9 := ih (i + 1) (by omega)
        rw [itN_s _ _ i] at e9
        rw [Int32.add_zero]
        rw [show (npw (M 53 7) (M 53) x) i (itN (npw (M 53 7) (M 53) x) 0 i) = _ from if_neg (fun q => c_32 q.1)] at e9
        exact e9
      · exact absurd rfl c_53
    · refine v_iload_n (pc := 35) dX7_power_35 rfl ?_
      refine v_iload_n (pc := 36) dX7_power_36 rfl ?_
      refine v_cS2i (pc := 37) dX7_power_37 mkX7_56 m_has (Nat.le_of_ble_eq_true rfl) rfl (Nat.zero_le _) (Nat.zero_le _) (fun r_37 M_37 J_37 h_37 => ?_)
      obtain ⟨e1_37, e2_37, e3_37⟩ := h_37
      replace e1_37 := e1_37.symm
      replace e2_37 := e2_37.symm
      replace e3_37 := e3_37.symm
      subst e1_37 e2_37 e3_37
      refine v_if_ne (pc := 40) (tgt := 47) dX7_power_40 (by decide) (fun c_40 => ?_) (fun c_40 => ?_)
      · refine v_iconst (pc := 47) (v := 0) (by decide) dX7_power_47 ?_
        refine v_ist_4 (pc := 48) dX7_power_48 (by decide) rfl ?_
        refine v_iload_n (pc := 50) dX7_power_50 rfl ?_
        refine v_iload (pc := 51) dX7_power_51 rfl ?_
        refine v_if_eq (pc := 53) (tgt := 80) dX7_power_53 (by decide) (fun c_53 => ?_) (fun c_53 => ?_)
        · refine v_iconst (pc := 80) (v := 0) (by decide) dX7_power_80 ?_
          refine v_iadd (pc := 81) dX7_power_81 ?_
          refine v_ist_2 (pc := 82) dX7_power_82 (by decide) rfl ?_
          refine v_inc_3 (pc := 83) (v := 1) dX7_power_83 (by decide) (by decide) rfl ?_
          refine v_goto (pc := 86) (tgt := 14) dX7_power_86 (by decide) ?_
          refine v_fg_4 ?_
          rw [nI_1]
          have e9 := ih (i + 1) (by omega)
          rw [itN_s _ _ i] at e9
          rw [Int32.add_zero]
          rw [show (npw (M 53 7) (M 53) x) i (itN (npw (M 53 7) (M 53) x) 0 i) = _ from if_neg (fun q => q.2.1 (bI_n0.mp c_40))] at e9
          exact e9
        · exact absurd rfl c_53
      · refine v_iconst (pc := 43) (v := 1) (by decide) dX7_power_43 ?_
        refine v_goto (pc := 44) (tgt := 48) dX7_power_44 (by decide) ?_
        refine v_ist_4 (pc := 48) dX7_power_48 (by decide) rfl ?_
        refine v_iload_n (pc := 50) dX7_power_50 rfl ?_
        refine v_iload (pc := 51) dX7_power_51 rfl ?_
        refine v_if_eq (pc := 53) (tgt := 80) dX7_power_53 (by decide) (fun c_53 => ?_) (fun c_53 => ?_)
        · refine v_iconst (pc := 80) (v := 0) (by decide) dX7_power_80 ?_
          refine v_iadd (pc := 81) dX7_power_81 ?_
          refine v_ist_2 (pc := 82) dX7_power_82 (by decide) rfl ?_
          refine v_inc_3 (pc := 83) (v := 1) dX7_power_83 (by decide) (by decide) rfl ?_
          refine v_goto (pc := 86) (tgt := 14) dX7_power_86 (by decide) ?_
          exact absurd c_53 (by decide)
        · refine v_aload_n (pc := 56) dX7_power_56 rfl ?_
          refine v_iload_n (pc := 57) dX7_power_57 rfl ?_
          refine v_cV1i (pc := 58) dX7_power_58 mkX7_127 m_passes ly49 rfl (Nat.le_of_ble_eq_true rfl) rfl (Nat.zero_le _) (Nat.zero_le _) (fun r_58 M_58 J_58 h_58 => ?_)
          obtain ⟨e1_58, e2_58, e3_58⟩ := h_58
          replace e1_58 := e1_58.symm
          replace e2_58 := e2_58.symm
          replace e3_58 := e3_58.symm
          subst e1_58 e2_58 e3_58
          refine v_if_ne (pc := 61) (tgt := 80) dX7_power_61 (by decide) (fun c_61 => ?_) (fun c_61 => ?_)
          · refine v_iconst (pc := 80) (v := 0) (by decide) dX7_power_80 ?_
            refine v_iadd (pc := 81) dX7_power_81 ?_
            refine v_ist_2 (pc := 82) dX7_power_82 (by decide) rfl ?_
            refine v_inc_3 (pc := 83) (v := 1) dX7_power_83 (by decide) (by decide) rfl ?_
            refine v_goto (pc := 86) (tgt := 14) dX7_power_86 (by decide) ?_
            refine v_fg_4 ?_
            rw [nI_1]
            have e9 := ih (i + 1) (by omega)
            rw [itN_s _ _ i] at e9
            rw [Int32.add_zero]
            rw [show (npw (M 53 7) (M 53) x) i (itN (npw (M 53 7) (M 53) x) 0 i) = _ from if_neg (fun q => q.2.2.1 (bI_n0.mp c_61))] at e9
            exact e9
          · refine v_aload_n (pc := 64) dX7_power_64 rfl ?_
            refine v_iload_n (pc := 65) dX7_power_65 rfl ?_
            refine v_iconst (pc := 66) (v := 1) (by decide) dX7_power_66 ?_
            refine v_iload_n (pc := 67) dX7_power_67 rfl ?_
            refine v_ishl (pc := 68) dX7_power_68 ?_
            refine v_ior (pc := 69) dX7_power_69 ?_
            refine v_cV1i (pc := 70) dX7_power_70 mkX7_127 m_passes ly49 rfl (Nat.le_of_ble_eq_true rfl) rfl (Nat.zero_le _) (Nat.zero_le _) (fun r_70 M_70 J_70 h_70 => ?_)
            obtain ⟨e1_70, e2_70, e3_70⟩ := h_70
            replace e1_70 := e1_70.symm
            replace e2_70 := e2_70.symm
            replace e3_70 := e3_70.symm
            subst e1_70 e2_70 e3_70
            refine v_if_eq (pc := 73) (tgt := 80) dX7_power_73 (by decide) (fun c_73 => ?_) (fun c_73 => ?_)
            · refine v_iconst (pc := 80) (v := 0) (by decide) dX7_power_80 ?_
              refine v_iadd (pc := 81) dX7_power_81 ?_
              refine v_ist_2 (pc := 82) dX7_power_82 (by decide) rfl ?_
              refine v_inc_3 (pc := 83) (v := 1) dX7_power_83 (by decide) (by decide) rfl ?_
              refine v_goto (pc := 86) (tgt := 14) dX7_power_86 (by decide) ?_
              refine v_fg_4 ?_
              rw [nI_1]
              have e9 := ih (i + 1) (by omega)
              rw [itN_s _ _ i] at e9
              rw [Int32.add_zero]
              rw [show (npw (M 53 7) (M 53) x) i (itN (npw (M 53 7) (M 53) x) 0 i) = _ from if_neg (fun q => bI_0.mp c_73 q.2.2.2)] at e9
              exact e9
            · refine v_iconst (pc := 76) (v := 1) (by decide) dX7_power_76 ?_
              refine v_goto (pc := 77) (tgt := 81) dX7_power_77 (by decide) ?_
              refine v_iadd (pc := 81) dX7_power_81 ?_
              refine v_ist_2 (pc := 82) dX7_power_82 (by decide) rfl ?_
              refine v_inc_3 (pc := 83) (v := 1) dX7_power_83 (by decide) (by decide) rfl ?_
              refine v_goto (pc := 86) (tgt := 14) dX7_power_86 (by decide) ?_
              refine v_fg_4 ?_
              rw [nI_1]
              have e9 := ih (i + 1) (by omega)
              rw [itN_s _ _ i] at e9
              rw [show (npw (M 53 7) (M 53) x) i (itN (npw (M 53 7) (M 53) x) 0 i) = _ from if_pos ⟨c_32, bI_0.mp c_40, bI_0.mp c_61, bI_n0.mp c_73⟩] at e9
              exact e9

set_option maxRecDepth 100000 in
set_option maxHeartbeats 4000000 in
theorem m_power {x : Int32} {M : mM} {J : mJ}  : Ct yX7_power cX7_power 5 (some .int) (rmD 3) false [.ref 49, .int x] LY M J (mNi LY (fun r0 M1 J1 => r0 = (if hB M x then itN (npw (M 53 7) (M 53) x) 0 128 else -1) ∧ M1 = M ∧ J1 = J)) := by
  refine ct_of (own := RX7) (ini := false) (ls := [some (.ref 49), some (.int x), none, none, none]) 3 (by decide +kernel) rfl (fun h => by cases h) rfl (fun ad => by first | exact Nat.le_of_ble_eq_true rfl) ?_
  refine v_aload_n (pc := 0) dX7_power_0 rfl ?_
  refine v_iload_n (pc := 1) dX7_power_1 rfl ?_
  refine v_cV1i (pc := 2) dX7_power_2 mkX7_113 m_isBelow ly49 rfl (Nat.le_of_ble_eq_true rfl) rfl (Nat.zero_le _) (Nat.zero_le _) (fun r_2 M_2 J_2 h_2 => ?_)
  obtain ⟨e1_2, e2_2, e3_2⟩ := h_2
  replace e1_2 := e1_2.symm
  replace e2_2 := e2_2.symm
  replace e3_2 := e3_2.symm
  subst e1_2 e2_2 e3_2
  refine v_if_ne (pc := 5) (tgt := 10) dX7_power_5 (by decide) (fun c_5 => ?_) (fun c_5 => ?_)
  · refine v_iconst (pc := 10) (v := 0) (by decide) dX7_power_10 ?_
    refine v_ist_2 (pc := 11) dX7_power_11 (by decide) rfl ?_
    refine v_iconst (pc := 12) (v := 0) (by decide) dX7_power_12 ?_
    refine v_ist_3 (pc := 13) dX7_power_13 (by decide) rfl ?_
    refine V.mono (fun o a b c q => ?_) (lm_power 128 0 rfl)
    rw [if_pos (bI_n0.mp c_5)]
    exact q
  · refine v_iconst (pc := 8) (v := (-1)) (by decide) dX7_power_8 ?_
    refine v_iret (pc := 9) dX7_power_9 (Nat.zero_le _) (Nat.zero_le _) ?_
    exact ⟨by rw [if_neg (bI_0.mp c_5)], rfl, rfl⟩

set_option maxRecDepth 100000 in
set_option maxHeartbeats 4000000 in
theorem m_areBelow {x : Int32} {M : mM} {J : mJ}  : Ct yX7_areBelow cX7_areBelow 2 (some .boolean) (rmD 1) false [.ref 49, .int x] LY M J (mNi LY (fun r0 M1 J1 => r0 = bI (gS (M 53 7) x) ∧ M1 = M ∧ J1 = J)) := by
  refine ct_of (own := RX7) (ini := false) (ls := [some (.ref 49), some (.int x)]) 0 (by decide +kernel) rfl (fun h => by cases h) rfl (fun ad => by first | exact Nat.le_of_ble_eq_true rfl) ?_
  refine v_iload_n (pc := 0) dX7_areBelow_0 rfl ?_
  refine v_iconst (pc := 1) (v := 0) (by decide) dX7_areBelow_1 ?_
  refine v_bipush (pc := 2) (v := 127) (by decide) dX7_areBelow_2 ?_
  refine v_cS3i (pc := 4) dX7_areBelow_4 mkX7_49 m_in (Nat.le_of_ble_eq_true rfl) rfl (Nat.zero_le _) (Nat.zero_le _) (fun r_4 M_4 J_4 h_4 => ?_)
  obtain ⟨e1_4, e2_4, e3_4⟩ := h_4
  replace e1_4 := e1_4.symm
  replace e2_4 := e2_4.symm
  replace e3_4 := e3_4.symm
  subst e1_4 e2_4 e3_4
  refine v_if_eq (pc := 7) (tgt := 28) dX7_areBelow_7 (by decide) (fun c_7 => ?_) (fun c_7 => ?_)
  · refine v_iconst (pc := 28) (v := 0) (by decide) dX7_areBelow_28 ?_
    refine v_zret (pc := 29) dX7_areBelow_29 (Nat.zero_le _) (Nat.zero_le _) (by first | exact Or.inl rfl | exact Or.inr rfl | assumption) ?_
    exact ⟨bI_f (fun q => bI_0.mp c_7 q.1), rfl, rfl⟩
  · refine v_iload_n (pc := 10) dX7_areBelow_10 rfl ?_
    refine v_aload_n (pc := 11) dX7_areBelow_11 rfl ?_
    refine v_getR (pc := 12) fkX7_23 ly49 rfl dX7_areBelow_12 ?_
    refine v_bipush (pc := 15) (v := 7) (by decide) dX7_areBelow_15 ?_
    refine v_iald (pc := 17) ly53 ?_ dX7_areBelow_17 ?_
    · unfold vp_in; decide
    rw [show Int32.toNatClampNeg 7 = 7 from rfl]
    refine v_iconst (pc := 18) (v := (-1)) (by decide) dX7_areBelow_18 ?_
    refine v_ixor (pc := 19) dX7_areBelow_19 ?_
    refine v_iand (pc := 20) dX7_areBelow_20 ?_
    refine v_if_ne (pc := 21) (tgt := 28) dX7_areBelow_21 (by decide) (fun c_21 => ?_) (fun c_21 => ?_)
    · refine v_iconst (pc := 28) (v := 0) (by decide) dX7_areBelow_28 ?_
      refine v_zret (pc := 29) dX7_areBelow_29 (Nat.zero_le _) (Nat.zero_le _) (by first | exact Or.inl rfl | exact Or.inr rfl | assumption) ?_
      exact ⟨bI_f (fun q => c_21 q.2), rfl, rfl⟩
    · refine v_iconst (pc := 24) (v := 1) (by decide) dX7_areBelow_24 ?_
      refine v_goto (pc := 25) (tgt := 29) dX7_areBelow_25 (by decide) ?_
      refine v_zret (pc := 29) dX7_areBelow_29 (Nat.zero_le _) (Nat.zero_le _) (by first | exact Or.inl rfl | exact Or.inr rfl | assumption) ?_
      exact ⟨bI_t ⟨bI_n0.mp c_7, c_21⟩, rfl, rfl⟩

set_option maxRecDepth 100000 in
set_option maxHeartbeats 4000000 in
theorem lm_held {x y : Int32} {M : mM} {J : mJ}  : ∀ (n i : Nat), n + i = 128 → V RX7 cX7_held 6 (some .int) false (rmD 3) false LY.length none (mNi LY (fun r0 M1 J1 => r0 = (if y = 1 then (itN (nhd (M 53 7) (M 53) x) (-6) 128) else pc7 (itN (nhd (M 53 7) (M 53) x) (-6) 128) 7) ∧ M1 = M ∧ J1 = J)) 0 0 28 [some (.ref 49), some (.int x), some (.int y), some (.int (itN (nhd (M 53 7) (M 53) x) (-6) i)), some (.int (nI i)), none] [] LY M J := by
  intro n
  induction n with
  | zero =>
    intro i hi
    obtain rfl : i = 128 := by omega
    refine v_iload (pc := 28) dX7_held_28 rfl ?_
    refine v_sipush (pc := 30) (v := 128) (by decide) dX7_held_30 ?_
    refine v_icmp_ge (pc := 33) (tgt := 99) dX7_held_33 (by decide) (fun c_33 => ?_) (fun c_33 => absurd (by decide) c_33)
    refine v_iload_n (pc := 99) dX7_held_99 rfl ?_
    refine v_iconst (pc := 100) (v := 1) (by decide) dX7_held_100 ?_
    refine v_icmp_ne (pc := 101) (tgt := 108) dX7_held_101 (by decide) (fun c_101 => ?_) (fun c_101 => ?_)
    · refine v_iload_n (pc := 108) dX7_held_108 rfl ?_
      refine v_cS1i (pc := 109) dX7_held_109 mkX7_60 m_bits (Nat.le_of_ble_eq_true rfl) rfl (Nat.zero_le _) (Nat.zero_le _) (fun r_109 M_109 J_109 h_109 => ?_)
      obtain ⟨e1_109, e2_109, e3_109⟩ := h_109
      replace e1_109 := e1_109.symm
      replace e2_109 := e2_109.symm
      replace e3_109 := e3_109.symm
      subst e1_109 e2_109 e3_109
      refine v_iret (pc := 112) dX7_held_112 (Nat.zero_le _) (Nat.zero_le _) ?_
      exact ⟨by rw [if_neg c_101], rfl, rfl⟩
    · refine v_iload_n (pc := 104) dX7_held_104 rfl ?_
      refine v_goto (pc := 105) (tgt := 112) dX7_held_105 (by decide) ?_
      refine v_iret (pc := 112) dX7_held_112 (Nat.zero_le _) (Nat.zero_le _) ?_
      exact ⟨by rw [if_pos c_101], rfl, rfl⟩
  | succ n ih =>
    intro i hi
    have hb7 : i < 128 := by omega
    have hcl := nI_clamp (show i < 2 ^ 31 by omega)
    refine v_iload (pc := 28) dX7_held_28 rfl ?_
    refine v_sipush (pc := 30) (v := 128) (by decide) dX7_held_30 ?_
    refine v_icmp_ge (pc := 33) (tgt := 99) dX7_held_33 (by decide) (fun c_33 => absurd c_33 (nI_ge (b := 128) hb7 (by omega))) (fun c_33 => ?_)
    refine v_iload (pc := 36) dX7_held_36 rfl ?_
    refine v_iload_n (pc := 38) dX7_held_38 rfl ?_
    refine v_iconst (pc := 39) (v := (-1)) (by decide) dX7_held_39 ?_
    refine v_ixor (pc := 40) dX7_held_40 ?_
    refine v_iand (pc := 41) dX7_held_41 ?_
    refine v_if_ne (pc := 42) (tgt := 65) dX7_held_42 (by decide) (fun c_42 => ?_) (fun c_42 => ?_)
    · refine v_iconst (pc := 65) (v := 0) (by decide) dX7_held_65 ?_
      refine v_ist_5 (pc := 66) dX7_held_66 (by decide) rfl ?_
      refine v_iload (pc := 68) dX7_held_68 rfl ?_
      refine v_if_eq (pc := 70) (tgt := 91) dX7_held_70 (by decide) (fun c_70 => ?_) (fun c_70 => ?_)
      · refine v_iload_n (pc := 91) dX7_held_91 rfl ?_
        refine v_ist_3 (pc := 92) dX7_held_92 (by decide) rfl ?_
        refine v_inc_4 (pc := 93) (v := 1) dX7_held_93 (by decide) (by decide) rfl ?_
        refine v_goto (pc := 96) (tgt := 28) dX7_held_96 (by decide) ?_
        refine v_fg_5 ?_
        rw [nI_1]
        have e9 := ih (i + 1) (by omega)
        rw [itN_s _ _ i] at e9
        rw [show (nhd (M 53 7) (M 53) x) i (itN (nhd (M 53 7) (M 53) x) (-6) i) = _ from if_neg (fun q => c_42 q.1)] at e9
        exact e9
      · refine v_aload_n (pc := 73) dX7_held_73 rfl ?_
        refine v_iload_n (pc := 74) dX7_held_74 rfl ?_
        refine v_iload (pc := 75) dX7_held_75 rfl ?_
        refine v_iconst (pc := 77) (v := (-1)) (by decide) dX7_held_77 ?_
        refine v_ixor (pc := 78) dX7_held_78 ?_
        refine v_iand (pc := 79) dX7_held_79 ?_
        refine v_cV1i (pc := 80) dX7_held_80 mkX7_127 m_passes ly49 rfl (Nat.le_of_ble_eq_true rfl) rfl (Nat.zero_le _) (Nat.zero_le _) (fun r_80 M_80 J_80 h_80 => ?_)
        obtain ⟨e1_80, e2_80, e3_80⟩ := h_80
        replace e1_80 := e1_80.symm
        replace e2_80 := e2_80.symm
        replace e3_80 := e3_80.symm
        subst e1_80 e2_80 e3_80
        refine v_if_ne (pc := 83) (tgt := 91) dX7_held_83 (by decide) (fun c_83 => ?_) (fun c_83 => ?_)
        · refine v_iload_n (pc := 91) dX7_held_91 rfl ?_
          refine v_ist_3 (pc := 92) dX7_held_92 (by decide) rfl ?_
          refine v_inc_4 (pc := 93) (v := 1) dX7_held_93 (by decide) (by decide) rfl ?_
          refine v_goto (pc := 96) (tgt := 28) dX7_held_96 (by decide) ?_
          exact absurd rfl c_70
        · refine v_iload (pc := 86) dX7_held_86 rfl ?_
          refine v_goto (pc := 88) (tgt := 92) dX7_held_88 (by decide) ?_
          refine v_ist_3 (pc := 92) dX7_held_92 (by decide) rfl ?_
          refine v_inc_4 (pc := 93) (v := 1) dX7_held_93 (by decide) (by decide) rfl ?_
          refine v_goto (pc := 96) (tgt := 28) dX7_held_96 (by decide) ?_
          exact absurd rfl c_70
    · refine v_iload_n (pc := 45) dX7_held_45 rfl ?_
      refine v_if_lt (pc := 46) (tgt := 61) dX7_held_46 (by decide) (fun c_46 => ?_) (fun c_46 => ?_)
      · refine v_iconst (pc := 61) (v := 1) (by decide) dX7_held_61 ?_
        refine v_goto (pc := 62) (tgt := 66) dX7_held_62 (by decide) ?_
        refine v_ist_5 (pc := 66) dX7_held_66 (by decide) rfl ?_
        refine v_iload (pc := 68) dX7_held_68 rfl ?_
        refine v_if_eq (pc := 70) (tgt := 91) dX7_held_70 (by decide) (fun c_70 => ?_) (fun c_70 => ?_)
        · refine v_iload_n (pc := 91) dX7_held_91 rfl ?_
          refine v_ist_3 (pc := 92) dX7_held_92 (by decide) rfl ?_
          refine v_inc_4 (pc := 93) (v := 1) dX7_held_93 (by decide) (by decide) rfl ?_
          refine v_goto (pc := 96) (tgt := 28) dX7_held_96 (by decide) ?_
          exact absurd c_70 (by decide)
        · refine v_aload_n (pc := 73) dX7_held_73 rfl ?_
          refine v_iload_n (pc := 74) dX7_held_74 rfl ?_
          refine v_iload (pc := 75) dX7_held_75 rfl ?_
          refine v_iconst (pc := 77) (v := (-1)) (by decide) dX7_held_77 ?_
          refine v_ixor (pc := 78) dX7_held_78 ?_
          refine v_iand (pc := 79) dX7_held_79 ?_
          refine v_cV1i (pc := 80) dX7_held_80 mkX7_127 m_passes ly49 rfl (Nat.le_of_ble_eq_true rfl) rfl (Nat.zero_le _) (Nat.zero_le _) (fun r_80 M_80 J_80 h_80 => ?_)
          obtain ⟨e1_80, e2_80, e3_80⟩ := h_80
          replace e1_80 := e1_80.symm
          replace e2_80 := e2_80.symm
          replace e3_80 := e3_80.symm
          subst e1_80 e2_80 e3_80
          refine v_if_ne (pc := 83) (tgt := 91) dX7_held_83 (by decide) (fun c_83 => ?_) (fun c_83 => ?_)
          · refine v_iload_n (pc := 91) dX7_held_91 rfl ?_
            refine v_ist_3 (pc := 92) dX7_held_92 (by decide) rfl ?_
            refine v_inc_4 (pc := 93) (v := 1) dX7_held_93 (by decide) (by decide) rfl ?_
            refine v_goto (pc := 96) (tgt := 28) dX7_held_96 (by decide) ?_
            refine v_fg_5 ?_
            rw [nI_1]
            have e9 := ih (i + 1) (by omega)
            rw [itN_s _ _ i] at e9
            rw [show (nhd (M 53 7) (M 53) x) i (itN (nhd (M 53 7) (M 53) x) (-6) i) = _ from if_neg (fun q => q.2.2 (bI_n0.mp c_83))] at e9
            exact e9
          · refine v_iload (pc := 86) dX7_held_86 rfl ?_
            refine v_goto (pc := 88) (tgt := 92) dX7_held_88 (by decide) ?_
            refine v_ist_3 (pc := 92) dX7_held_92 (by decide) rfl ?_
            refine v_inc_4 (pc := 93) (v := 1) dX7_held_93 (by decide) (by decide) rfl ?_
            refine v_goto (pc := 96) (tgt := 28) dX7_held_96 (by decide) ?_
            refine v_fg_5 ?_
            rw [nI_1]
            have e9 := ih (i + 1) (by omega)
            rw [itN_s _ _ i] at e9
            rw [show (nhd (M 53 7) (M 53) x) i (itN (nhd (M 53 7) (M 53) x) (-6) i) = _ from if_pos ⟨c_42, Or.inl c_46, bI_0.mp c_83⟩] at e9
            exact e9
      · refine v_iload (pc := 49) dX7_held_49 rfl ?_
        refine v_cS1i (pc := 51) dX7_held_51 mkX7_60 m_bits (Nat.le_of_ble_eq_true rfl) rfl (Nat.zero_le _) (Nat.zero_le _) (fun r_51 M_51 J_51 h_51 => ?_)
        obtain ⟨e1_51, e2_51, e3_51⟩ := h_51
        replace e1_51 := e1_51.symm
        replace e2_51 := e2_51.symm
        replace e3_51 := e3_51.symm
        subst e1_51 e2_51 e3_51
        refine v_iload_n (pc := 54) dX7_held_54 rfl ?_
        refine v_cS1i (pc := 55) dX7_held_55 mkX7_60 m_bits (Nat.le_of_ble_eq_true rfl) rfl (Nat.zero_le _) (Nat.zero_le _) (fun r_55 M_55 J_55 h_55 => ?_)
        obtain ⟨e1_55, e2_55, e3_55⟩ := h_55
        replace e1_55 := e1_55.symm
        replace e2_55 := e2_55.symm
        replace e3_55 := e3_55.symm
        subst e1_55 e2_55 e3_55
        refine v_icmp_ge (pc := 58) (tgt := 65) dX7_held_58 (by decide) (fun c_58 => ?_) (fun c_58 => ?_)
        · refine v_iconst (pc := 65) (v := 0) (by decide) dX7_held_65 ?_
          refine v_ist_5 (pc := 66) dX7_held_66 (by decide) rfl ?_
          refine v_iload (pc := 68) dX7_held_68 rfl ?_
          refine v_if_eq (pc := 70) (tgt := 91) dX7_held_70 (by decide) (fun c_70 => ?_) (fun c_70 => ?_)
          · refine v_iload_n (pc := 91) dX7_held_91 rfl ?_
            refine v_ist_3 (pc := 92) dX7_held_92 (by decide) rfl ?_
            refine v_inc_4 (pc := 93) (v := 1) dX7_held_93 (by decide) (by decide) rfl ?_
            refine v_goto (pc := 96) (tgt := 28) dX7_held_96 (by decide) ?_
            refine v_fg_5 ?_
            rw [nI_1]
            have e9 := ih (i + 1) (by omega)
            rw [itN_s _ _ i] at e9
            rw [show (nhd (M 53 7) (M 53) x) i (itN (nhd (M 53 7) (M 53) x) (-6) i) = _ from if_neg (fun q => q.2.1.elim c_46 (fun z => absurd z (Int32.not_lt.mpr c_58)))] at e9
            exact e9
          · refine v_aload_n (pc := 73) dX7_held_73 rfl ?_
            refine v_iload_n (pc := 74) dX7_held_74 rfl ?_
            refine v_iload (pc := 75) dX7_held_75 rfl ?_
            refine v_iconst (pc := 77) (v := (-1)) (by decide) dX7_held_77 ?_
            refine v_ixor (pc := 78) dX7_held_78 ?_
            refine v_iand (pc := 79) dX7_held_79 ?_
            refine v_cV1i (pc := 80) dX7_held_80 mkX7_127 m_passes ly49 rfl (Nat.le_of_ble_eq_true rfl) rfl (Nat.zero_le _) (Nat.zero_le _) (fun r_80 M_80 J_80 h_80 => ?_)
            obtain ⟨e1_80, e2_80, e3_80⟩ := h_80
            replace e1_80 := e1_80.symm
            replace e2_80 := e2_80.symm
            replace e3_80 := e3_80.symm
            subst e1_80 e2_80 e3_80
            refine v_if_ne (pc := 83) (tgt := 91) dX7_held_83 (by decide) (fun c_83 => ?_) (fun c_83 => ?_)
            · refine v_iload_n (pc := 91) dX7_held_91 rfl ?_
              refine v_ist_3 (pc := 92) dX7_held_92 (by decide) rfl ?_
              refine v_inc_4 (pc := 93) (v := 1) dX7_held_93 (by decide) (by decide) rfl ?_
              refine v_goto (pc := 96) (tgt := 28) dX7_held_96 (by decide) ?_
              exact absurd rfl c_70
            · refine v_iload (pc := 86) dX7_held_86 rfl ?_
              refine v_goto (pc := 88) (tgt := 92) dX7_held_88 (by decide) ?_
              refine v_ist_3 (pc := 92) dX7_held_92 (by decide) rfl ?_
              refine v_inc_4 (pc := 93) (v := 1) dX7_held_93 (by decide) (by decide) rfl ?_
              refine v_goto (pc := 96) (tgt := 28) dX7_held_96 (by decide) ?_
              exact absurd rfl c_70
        · refine v_iconst (pc := 61) (v := 1) (by decide) dX7_held_61 ?_
          refine v_goto (pc := 62) (tgt := 66) dX7_held_62 (by decide) ?_
          refine v_ist_5 (pc := 66) dX7_held_66 (by decide) rfl ?_
          refine v_iload (pc := 68) dX7_held_68 rfl ?_
          refine v_if_eq (pc := 70) (tgt := 91) dX7_held_70 (by decide) (fun c_70 => ?_) (fun c_70 => ?_)
          · refine v_iload_n (pc := 91) dX7_held_91 rfl ?_
            refine v_ist_3 (pc := 92) dX7_held_92 (by decide) rfl ?_
            refine v_inc_4 (pc := 93) (v := 1) dX7_held_93 (by decide) (by decide) rfl ?_
            refine v_goto (pc := 96) (tgt := 28) dX7_held_96 (by decide) ?_
            exact absurd c_70 (by decide)
          · refine v_aload_n (pc := 73) dX7_held_73 rfl ?_
            refine v_iload_n (pc := 74) dX7_held_74 rfl ?_
            refine v_iload (pc := 75) dX7_held_75 rfl ?_
            refine v_iconst (pc := 77) (v := (-1)) (by decide) dX7_held_77 ?_
            refine v_ixor (pc := 78) dX7_held_78 ?_
            refine v_iand (pc := 79) dX7_held_79 ?_
            refine v_cV1i (pc := 80) dX7_held_80 mkX7_127 m_passes ly49 rfl (Nat.le_of_ble_eq_true rfl) rfl (Nat.zero_le _) (Nat.zero_le _) (fun r_80 M_80 J_80 h_80 => ?_)
            obtain ⟨e1_80, e2_80, e3_80⟩ := h_80
            replace e1_80 := e1_80.symm
            replace e2_80 := e2_80.symm
            replace e3_80 := e3_80.symm
            subst e1_80 e2_80 e3_80
            refine v_if_ne (pc := 83) (tgt := 91) dX7_held_83 (by decide) (fun c_83 => ?_) (fun c_83 => ?_)
            · refine v_iload_n (pc := 91) dX7_held_91 rfl ?_
              refine v_ist_3 (pc := 92) dX7_held_92 (by decide) rfl ?_
              refine v_inc_4 (pc := 93) (v := 1) dX7_held_93 (by decide) (by decide) rfl ?_
              refine v_goto (pc := 96) (tgt := 28) dX7_held_96 (by decide) ?_
              refine v_fg_5 ?_
              rw [nI_1]
              have e9 := ih (i + 1) (by omega)
              rw [itN_s _ _ i] at e9
              rw [show (nhd (M 53 7) (M 53) x) i (itN (nhd (M 53 7) (M 53) x) (-6) i) = _ from if_neg (fun q => q.2.2 (bI_n0.mp c_83))] at e9
              exact e9
            · refine v_iload (pc := 86) dX7_held_86 rfl ?_
              refine v_goto (pc := 88) (tgt := 92) dX7_held_88 (by decide) ?_
              refine v_ist_3 (pc := 92) dX7_held_92 (by decide) rfl ?_
              refine v_inc_4 (pc := 93) (v := 1) dX7_held_93 (by decide) (by decide) rfl ?_
              refine v_goto (pc := 96) (tgt := 28) dX7_held_96 (by decide) ?_
              refine v_fg_5 ?_
              rw [nI_1]
              have e9 := ih (i + 1) (by omega)
              rw [itN_s _ _ i] at e9
              rw [show (nhd (M 53 7) (M 53) x) i (itN (nhd (M 53 7) (M 53) x) (-6) i) = _ from if_pos ⟨c_42, Or.inr (Int32.not_le.mp c_58), bI_0.mp c_83⟩] at e9
              exact e9

set_option maxRecDepth 100000 in
set_option maxHeartbeats 4000000 in
theorem m_held {x y : Int32} {M : mM} {J : mJ}  : Ct yX7_held cX7_held 6 (some .int) (rmD 3) false [.ref 49, .int x, .int y] LY M J (mNi LY (fun r0 M1 J1 => r0 = (if gS (M 53 7) x then (if 0 ≤ y ∧ y ≤ 1 then (if y = 1 then (itN (nhd (M 53 7) (M 53) x) (-6) 128) else pc7 (itN (nhd (M 53 7) (M 53) x) (-6) 128) 7) else -2) else -1) ∧ M1 = M ∧ J1 = J)) := by
  refine ct_of (own := RX7) (ini := false) (ls := [some (.ref 49), some (.int x), some (.int y), none, none, none]) 3 (by decide +kernel) rfl (fun h => by cases h) rfl (fun ad => by first | exact Nat.le_of_ble_eq_true rfl) ?_
  refine v_aload_n (pc := 0) dX7_held_0 rfl ?_
  refine v_iload_n (pc := 1) dX7_held_1 rfl ?_
  refine v_cV1i (pc := 2) dX7_held_2 mkX7_130 m_areBelow ly49 rfl (Nat.le_of_ble_eq_true rfl) rfl (Nat.zero_le _) (Nat.zero_le _) (fun r_2 M_2 J_2 h_2 => ?_)
  obtain ⟨e1_2, e2_2, e3_2⟩ := h_2
  replace e1_2 := e1_2.symm
  replace e2_2 := e2_2.symm
  replace e3_2 := e3_2.symm
  subst e1_2 e2_2 e3_2
  refine v_if_ne (pc := 5) (tgt := 10) dX7_held_5 (by decide) (fun c_5 => ?_) (fun c_5 => ?_)
  · refine v_iload_n (pc := 10) dX7_held_10 rfl ?_
    refine v_iconst (pc := 11) (v := 0) (by decide) dX7_held_11 ?_
    refine v_iconst (pc := 12) (v := 1) (by decide) dX7_held_12 ?_
    refine v_cS3i (pc := 13) dX7_held_13 mkX7_49 m_in (Nat.le_of_ble_eq_true rfl) rfl (Nat.zero_le _) (Nat.zero_le _) (fun r_13 M_13 J_13 h_13 => ?_)
    obtain ⟨e1_13, e2_13, e3_13⟩ := h_13
    replace e1_13 := e1_13.symm
    replace e2_13 := e2_13.symm
    replace e3_13 := e3_13.symm
    subst e1_13 e2_13 e3_13
    refine v_if_ne (pc := 16) (tgt := 22) dX7_held_16 (by decide) (fun c_16 => ?_) (fun c_16 => ?_)
    · refine v_bipush (pc := 22) (v := (-6)) (by decide) dX7_held_22 ?_
      refine v_ist_3 (pc := 24) dX7_held_24 (by decide) rfl ?_
      refine v_iconst (pc := 25) (v := 0) (by decide) dX7_held_25 ?_
      refine v_ist_4 (pc := 26) dX7_held_26 (by decide) rfl ?_
      refine V.mono (fun o a b c q => ?_) (lm_held 128 0 rfl)
      rw [if_pos (bI_n0.mp c_5), if_pos (bI_n0.mp c_16)]
      exact q
    · refine v_bipush (pc := 19) (v := (-2)) (by decide) dX7_held_19 ?_
      refine v_iret (pc := 21) dX7_held_21 (Nat.zero_le _) (Nat.zero_le _) ?_
      exact ⟨by rw [if_pos (bI_n0.mp c_5), if_neg (bI_0.mp c_16)], rfl, rfl⟩
  · refine v_iconst (pc := 8) (v := (-1)) (by decide) dX7_held_8 ?_
    refine v_iret (pc := 9) dX7_held_9 (Nat.zero_le _) (Nat.zero_le _) ?_
    exact ⟨by rw [if_neg (bI_0.mp c_5)], rfl, rfl⟩

set_option maxRecDepth 100000 in
set_option maxHeartbeats 4000000 in
theorem m_hours {x y : Int32} {M : mM} {J : mJ}  : Ct yX7_hours cX7_hours 4 (some .int) (rmD 1) false [.ref 49, .int x, .int y] LY M J (mNi LY (fun r0 M1 J1 => r0 = (if 0 ≤ x ∧ x ≤ 5 then (if 0 ≤ y ∧ y ≤ 16777215 then M 51 x.toNatClampNeg else -2) else -1) ∧ M1 = (if 0 ≤ x ∧ x ≤ 5 then (if 0 ≤ y ∧ y ≤ 16777215 then mU M 51 x.toNatClampNeg y else M) else M) ∧ J1 = J)) := by
  refine ct_of (own := RX7) (ini := false) (ls := [some (.ref 49), some (.int x), some (.int y), none]) 1 (by decide +kernel) rfl (fun h => by cases h) rfl (fun ad => by first | exact Nat.le_of_ble_eq_true rfl) ?_
  refine v_iload_n (pc := 0) dX7_hours_0 rfl ?_
  refine v_iconst (pc := 1) (v := 0) (by decide) dX7_hours_1 ?_
  refine v_iconst (pc := 2) (v := 5) (by decide) dX7_hours_2 ?_
  refine v_cS3i (pc := 3) dX7_hours_3 mkX7_49 m_in (Nat.le_of_ble_eq_true rfl) rfl (Nat.zero_le _) (Nat.zero_le _) (fun r_3 M_3 J_3 h_3 => ?_)
  obtain ⟨e1_3, e2_3, e3_3⟩ := h_3
  replace e1_3 := e1_3.symm
  replace e2_3 := e2_3.symm
  replace e3_3 := e3_3.symm
  subst e1_3 e2_3 e3_3
  refine v_if_ne (pc := 6) (tgt := 11) dX7_hours_6 (by decide) (fun c_6 => ?_) (fun c_6 => ?_)
  · refine v_iload_n (pc := 11) dX7_hours_11 rfl ?_
    refine v_iconst (pc := 12) (v := 0) (by decide) dX7_hours_12 ?_
    refine v_ldc (pc := 13) ckX7_48 dX7_hours_13 ?_
    refine v_cS3i (pc := 15) dX7_hours_15 mkX7_49 m_in (Nat.le_of_ble_eq_true rfl) rfl (Nat.zero_le _) (Nat.zero_le _) (fun r_15 M_15 J_15 h_15 => ?_)
    obtain ⟨e1_15, e2_15, e3_15⟩ := h_15
    replace e1_15 := e1_15.symm
    replace e2_15 := e2_15.symm
    replace e3_15 := e3_15.symm
    subst e1_15 e2_15 e3_15
    refine v_if_ne (pc := 18) (tgt := 24) dX7_hours_18 (by decide) (fun c_18 => ?_) (fun c_18 => ?_)
    · refine v_aload_n (pc := 24) dX7_hours_24 rfl ?_
      refine v_getR (pc := 25) fkX7_17 ly49 rfl dX7_hours_25 ?_
      refine v_iload_n (pc := 28) dX7_hours_28 rfl ?_
      refine v_iald (pc := 29) ly51 ?_ dX7_hours_29 ?_
      · exact vinP (by decide) (bI_n0.mp c_6).1 (bI_n0.mp c_6).2
      refine v_ist_3 (pc := 30) dX7_hours_30 (by decide) rfl ?_
      refine v_aload_n (pc := 31) dX7_hours_31 rfl ?_
      refine v_getR (pc := 32) fkX7_17 ly49 rfl dX7_hours_32 ?_
      refine v_iload_n (pc := 35) dX7_hours_35 rfl ?_
      refine v_iload_n (pc := 36) dX7_hours_36 rfl ?_
      refine v_iast (pc := 37) ly51 ?_ dX7_hours_37 ?_
      · exact vinP (by decide) (bI_n0.mp c_6).1 (bI_n0.mp c_6).2
      refine v_iload_n (pc := 38) dX7_hours_38 rfl ?_
      refine v_iret (pc := 39) dX7_hours_39 (Nat.zero_le _) (Nat.zero_le _) ?_
      exact ⟨by rw [if_pos (bI_n0.mp c_6), if_pos (bI_n0.mp c_18)]; try rfl, by rw [if_pos (bI_n0.mp c_6), if_pos (bI_n0.mp c_18)]; try rfl, rfl⟩
    · refine v_bipush (pc := 21) (v := (-2)) (by decide) dX7_hours_21 ?_
      refine v_iret (pc := 23) dX7_hours_23 (Nat.zero_le _) (Nat.zero_le _) ?_
      exact ⟨by rw [if_pos (bI_n0.mp c_6), if_neg (bI_0.mp c_18)]; try rfl, by rw [if_pos (bI_n0.mp c_6), if_neg (bI_0.mp c_18)]; try rfl, rfl⟩
  · refine v_iconst (pc := 9) (v := (-1)) (by decide) dX7_hours_9 ?_
    refine v_iret (pc := 10) dX7_hours_10 (Nat.zero_le _) (Nat.zero_le _) ?_
    exact ⟨by rw [if_neg (bI_0.mp c_6)]; try rfl, by rw [if_neg (bI_0.mp c_6)]; try rfl, rfl⟩
