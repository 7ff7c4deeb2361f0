/-! the law's loop, its start, what the relation says at the start -/
theorem end6 {L i : Nat} (hL : L ≤ 384) (hi : i ≤ 400) : nI L - 6 < nI i ↔ L < i + 6 := by
  by_cases h : 6 ≤ L
  · rw [show (6 : Int32) = nI 6 from rfl, nI_sub h, nI_ltI (by omega) (by omega)]
    omega
  · have hl : L = 0 ∨ L = 1 ∨ L = 2 ∨ L = 3 ∨ L = 4 ∨ L = 5 := by omega
    refine ⟨fun _ => by omega, fun _ => ?_⟩
    have h0 : nI L - 6 < 0 := by
      rcases hl with e | e | e | e | e | e <;> (rw [e]; decide)
    exact Int32.lt_of_lt_of_le h0 (nI_pos' (by omega))
set_option maxRecDepth 100000 in
set_option maxHeartbeats 4000000 in
theorem law_loop {L kc ks : Nat} {xs : Nat → Int32} (hL : L ≤ 384) (hkc : kc ≤ room_1.cells) (hks : ks ≤ room_1.slots) : ∀ (f i : Nat) (M : mM) (J : mJ), L < i + f → i ≤ 390 → Rel M → VL L xs kc ks 18 i M J := by
  intro f
  induction f with
  | zero =>
    intro i M J h1 h2 g
    refine v_iload_n (pc := 18) dL_law_18 rfl ?_
    refine v_aload_n (pc := 19) dL_law_19 rfl ?_
    refine v_slen (pc := 20) rfl dL_law_20 ?_
    refine v_bipush (pc := 21) (v := 6) (by decide) dL_law_21 ?_
    refine v_isub (pc := 23) dL_law_23 ?_
    refine v_icmp_gt (pc := 24) (tgt := 1055) dL_law_24 (by decide) (fun c_24 => ?_) (fun c_24 => absurd ((end6 hL (by omega)).mpr (by omega)) c_24)
    refine v_iconst (pc := 1055) (v := 1) (by decide) dL_law_1055 ?_
    exact v_ret (pc := 1056) (some (.int 1)) rfl rfl rfl hkc hks dL_law_1056
  | succ f ih =>
    intro i M J h1 h2 g
    refine v_iload_n (pc := 18) dL_law_18 rfl ?_
    refine v_aload_n (pc := 19) dL_law_19 rfl ?_
    refine v_slen (pc := 20) rfl dL_law_20 ?_
    refine v_bipush (pc := 21) (v := 6) (by decide) dL_law_21 ?_
    refine v_isub (pc := 23) dL_law_23 ?_
    refine v_icmp_gt (pc := 24) (tgt := 1055) dL_law_24 (by decide) (fun c_24 => ?_) (fun c_24 => ?_)
    · refine v_iconst (pc := 1055) (v := 1) (by decide) dL_law_1055 ?_
      exact v_ret (pc := 1056) (some (.int 1)) rfl rfl rfl hkc hks dL_law_1056
    have hi : i + 6 ≤ L := by
      have : ¬ L < i + 6 := fun q => c_24 ((end6 hL (by omega)).mpr q)
      omega
    have hl : ∀ N K, Rel N → VL L xs kc ks 1049 i N K := fun N K gN => by
      refine v_inc_3 (pc := 1049) (v := 6) dL_law_1049 (by decide) (by decide) rfl ?_
      refine v_goto (pc := 1052) (tgt := 18) dL_law_1052 (by decide) ?_
      have e9 := ih (i + 6) N K (by omega) (by omega) gN
      rw [show nI i + 6 = nI (i + 6) from nI_add i 6]
      exact e9
    refine v_aload_n (pc := 27) dL_law_27 rfl ?_
    refine v_iload_n (pc := 28) dL_law_28 rfl ?_
    refine v_sld (pc := 29) rfl ?_ dL_law_29 ?_
    · exact vp_in_nI (show i < L by omega) (by omega)
    refine v_bipush (pc := 30) (v := 31) (by decide) dL_law_30 ?_
    refine v_iand (pc := 32) dL_law_32 ?_
    refine v_tbl30 (pc := 33) (t0 := 168) (t1 := 211) (t2 := 234) (t3 := 267) (t4 := 280) (t5 := 303) (t6 := 316) (t7 := 329) (t8 := 352) (t9 := 365) (t10 := 398) (t11 := 421) (t12 := 454) (t13 := 497) (t14 := 510) (t15 := 563) (t16 := 616) (t17 := 639) (t18 := 672) (t19 := 705) (t20 := 738) (t21 := 781) (t22 := 794) (t23 := 807) (t24 := 830) (t25 := 873) (t26 := 937) (t27 := 980) (t28 := 1003) (t29 := 1026) (t30 := 1049) dL_law_33 rfl rfl rfl rfl rfl rfl rfl rfl rfl rfl rfl rfl rfl rfl rfl rfl rfl rfl rfl rfl rfl rfl rfl rfl rfl rfl rfl rfl rfl rfl (by decide) (by decide) (by decide) (by decide) (by decide) (by decide) (by decide) (by decide) (by decide) (by decide) (by decide) (by decide) (by decide) (by decide) (by decide) (by decide) (by decide) (by decide) (by decide) (by decide) (by decide) (by decide) (by decide) (by decide) (by decide) (by decide) (by decide) (by decide) (by decide) (by decide) (by decide) (fun _ => ?_) (fun _ => ?_) (fun _ => ?_) (fun _ => ?_) (fun _ => ?_) (fun _ => ?_) (fun _ => ?_) (fun _ => ?_) (fun _ => ?_) (fun _ => ?_) (fun _ => ?_) (fun _ => ?_) (fun _ => ?_) (fun _ => ?_) (fun _ => ?_) (fun _ => ?_) (fun _ => ?_) (fun _ => ?_) (fun _ => ?_) (fun _ => ?_) (fun _ => ?_) (fun _ => ?_) (fun _ => ?_) (fun _ => ?_) (fun _ => ?_) (fun _ => ?_) (fun _ => ?_) (fun _ => ?_) (fun _ => ?_) (fun _ => ?_) (fun _ => ?_)
    · exact k_dive hL hi hkc hks g hl
    · exact k_leave hL hi hkc hks g hl
    · exact k_set hL hi hkc hks g hl
    · exact k_close hL hi hkc hks g hl
    · exact k_say hL hi hkc hks g hl
    · exact k_wipe hL hi hkc hks g hl
    · exact k_fault hL hi hkc hks g hl
    · exact k_judge hL hi hkc hks g hl
    · exact k_done hL hi hkc hks g hl
    · exact k_behind hL hi hkc hks g hl
    · exact k_then hL hi hkc hks g hl
    · exact k_word hL hi hkc hks g hl
    · exact k_votes hL hi hkc hks g hl
    · exact k_falls hL hi hkc hks g hl
    · exact k_speak hL hi hkc hks g hl
    · exact k_laws hL hi hkc hks g hl
    · exact k_power hL hi hkc hks g hl
    · exact k_held hL hi hkc hks g hl
    · exact k_hours hL hi hkc hks g hl
    · exact k_orders hL hi hkc hks g hl
    · exact k_seen hL hi hkc hks g hl
    · exact k_forget hL hi hkc hks g hl
    · exact k_whose hL hi hkc hks g hl
    · exact k_alike hL hi hkc hks g hl
    · exact k_fili hL hi hkc hks g hl
    · exact k_breaks hL hi hkc hks g hl
    · exact k_day hL hi hkc hks g hl
    · exact k_image hL hi hkc hks g hl
    · exact k_restore hL hi hkc hks g hl
    · exact k_told hL hi hkc hks g hl
    · exact hl M J g

/-! what stands in the cells at the start -/
abbrev M0 : mM := fun _ _ => 0
abbrev J0 : mJ := fun _ _ => 0
abbrev Ms : mM := msM (mU (hsM (hsM (hsM M0 1) 14) 26) 38 5 12)
theorem hsM_11 {M : mM} {h i : Nat} (hi : i < 6) : hsM M h (h + 11) i = 16777215 := by
  have e : ∀ n, i < n → itN (hsI h) (mU M (h + 1) 5 12) n (h + 11) i = 16777215 := by
    intro n
    induction n with
    | zero => intro q; omega
    | succ n ih =>
      intro q
      rw [itN_s]
      show mU (itN (hsI h) (mU M (h + 1) 5 12) n) (h + 11) n 16777215 (h + 11) i = 16777215
      by_cases hin : i = n
      · rw [hin, mU_at]
      · rw [mU_o (fun z => hin z.2)]
        exact ih (by omega)
  exact e 6 hi
theorem hsM_1 {M : mM} {h i : Nat} : hsM M h (h + 1) i = if i = 5 then 12 else M (h + 1) i := by
  have e : hsM M h (h + 1) = mU M (h + 1) 5 12 (h + 1) := itN_ne (f := hsI h) (fun i A => mU_ne (h + 1) (by omega)) _ 6
  rw [e]
  by_cases hi : i = 5
  · rw [if_pos hi, hi, mU_at]
  · rw [if_neg hi, mU_o (fun q => hi q.2)]
theorem msM_51 {M : mM} {i : Nat} (hi : i < 6) : msM M 51 i = 16777215 := by
  have e : ∀ n, i < n → itN msI (mU M 49 2 12) n 51 i = 16777215 := by
    intro n
    induction n with
    | zero => intro q; omega
    | succ n ih =>
      intro q
      rw [itN_s]
      show mU (itN msI (mU M 49 2 12) n) 51 n 16777215 51 i = 16777215
      by_cases hin : i = n
      · rw [hin, mU_at]
      · rw [mU_o (fun z => hin z.2)]
        exact ih (by omega)
  exact e 6 hi
theorem msM_ne {M : mM} {a : Nat} (h : a ≠ 51) : msM M a = mU M 49 2 12 a := itN_ne (f := msI) (fun i A => mU_ne a h) _ 6
theorem Ms_lo {a : Nat} (h1 : a ≠ 51) (h2 : a ≠ 49) (h3 : a ≠ 38) (h4 : a ≠ 27) (h5 : a ≠ 37) (h6 : a ≠ 15) (h7 : a ≠ 25) : Ms a = hsM M0 1 a := by
  show msM (mU (hsM (hsM (hsM M0 1) 14) 26) 38 5 12) a = _
  rw [msM_ne h1, mU_ne _ h2, mU_ne _ h3, hsM_ne h4 h5, hsM_ne h6 h7]
theorem Ms_0 {a : Nat} (h1 : a ≠ 51) (h2 : a ≠ 49) (h3 : a ≠ 38) (h4 : a ≠ 27) (h5 : a ≠ 37) (h6 : a ≠ 15) (h7 : a ≠ 25) (h8 : a ≠ 2) (h9 : a ≠ 12) : Ms a = fun _ => 0 := by
  rw [Ms_lo h1 h2 h3 h4 h5 h6 h7, hsM_ne h8 h9]
theorem Ms_2 {i : Nat} : Ms 2 i = if i = 5 then 12 else 0 := by
  rw [Ms_lo (by decide) (by decide) (by decide) (by decide) (by decide) (by decide) (by decide)]
  exact hsM_1 (h := 1)
theorem Ms_49 {i : Nat} : Ms 49 i = if i = 2 then 12 else 0 := by
  show msM (mU (hsM (hsM (hsM M0 1) 14) 26) 38 5 12) 49 i = _
  rw [msM_ne (by decide)]
  by_cases hi : i = 2
  · rw [if_pos hi, hi, mU_at]
  · rw [if_neg hi, mU_o (fun q => hi q.2), mU_ne _ (by decide), hsM_ne (by decide) (by decide), hsM_ne (by decide) (by decide), hsM_ne (by decide) (by decide)]
theorem Rel_start : Rel Ms := by
  have z : ∀ a, a ≠ 51 → a ≠ 49 → a ≠ 38 → a ≠ 27 → a ≠ 37 → a ≠ 15 → a ≠ 25 → a ≠ 2 → a ≠ 12 → ∀ i, Ms a i = 0 := fun a h1 h2 h3 h4 h5 h6 h7 h8 h9 i => congrFun (Ms_0 h1 h2 h3 h4 h5 h6 h7 h8 h9) i
  have z3 := z 3 (by decide) (by decide) (by decide) (by decide) (by decide) (by decide) (by decide) (by decide) (by decide)
  have z4 := z 4 (by decide) (by decide) (by decide) (by decide) (by decide) (by decide) (by decide) (by decide) (by decide)
  have z5 := z 5 (by decide) (by decide) (by decide) (by decide) (by decide) (by decide) (by decide) (by decide) (by decide)
  have z8 := z 8 (by decide) (by decide) (by decide) (by decide) (by decide) (by decide) (by decide) (by decide) (by decide)
  have z44 := z 44 (by decide) (by decide) (by decide) (by decide) (by decide) (by decide) (by decide) (by decide) (by decide)
  have z50 := z 50 (by decide) (by decide) (by decide) (by decide) (by decide) (by decide) (by decide) (by decide) (by decide)
  have z53 := z 53 (by decide) (by decide) (by decide) (by decide) (by decide) (by decide) (by decide) (by decide) (by decide)
  have z60 := z 60 (by decide) (by decide) (by decide) (by decide) (by decide) (by decide) (by decide) (by decide) (by decide)
  have z14 := z 14 (by decide) (by decide) (by decide) (by decide) (by decide) (by decide) (by decide) (by decide) (by decide)
  have z26 := z 26 (by decide) (by decide) (by decide) (by decide) (by decide) (by decide) (by decide) (by decide) (by decide)
  generalize hM : Ms = M at z3 z4 z5 z8 z44 z50 z53 z60 z14 z26 ⊢
  have e2 : ∀ i, M 2 i = if i = 5 then 12 else 0 := fun i => by
    rw [← hM]
    exact Ms_2
  have e49 : ∀ i, M 49 i = if i = 2 then 12 else 0 := fun i => by
    rw [← hM]
    exact Ms_49
  have e51 : ∀ i, i < 6 → M 51 i = 16777215 := fun i hi => by
    rw [← hM]
    exact msM_51 hi
  have e12 : ∀ i, i < 6 → M 12 i = 16777215 := fun i hi => by
    rw [← hM, Ms_lo (by decide) (by decide) (by decide) (by decide) (by decide) (by decide) (by decide)]
    exact hsM_11 (h := 1) hi
  refine ⟨⟨⟨fun i hi => ?_, fun i hi => ?_, ?_, ?_, ?_, ?_, ?_, 0, 0, fun _ => 0, ?_, ?_, ?_, by omega, by omega, (bBook_0 (B := M 53)).1, (bBook_0 (K := M 6) (S := M 7)).2⟩, fun i hi => ?_, 0, ?_, ?_, by omega, fun i hi => by omega⟩, ⟨0, ?_, ?_, by omega, fun i hi => by omega⟩, Or.inl ⟨?_, ?_⟩, Or.inl ⟨?_, ?_⟩⟩
  · show M 3 i = M 50 i ∧ ∃ k, k ≤ 9 ∧ M 50 i = nI k
    rw [z3, z50]
    exact ⟨rfl, 0, by omega, rfl⟩
  · show M 4 i = M 53 i ∧ ∃ k, k ≤ 99 ∧ M 53 i = nI k
    rw [z4, z53]
    exact ⟨rfl, 0, by omega, rfl⟩
  · show M 2 3 = M 49 0 ∧ sB (M 49 0)
    rw [e2, e49]
    exact ⟨rfl, sB_0⟩
  · show M 2 4 = M 53 7 ∧ sB (M 53 7)
    rw [e2, z53]
    exact ⟨rfl, sB_0⟩
  · show M 2 5 = M 49 2 ∧ ∃ k, 1 ≤ k ∧ k ≤ 40 ∧ M 49 2 = nI k
    rw [e2, e49]
    exact ⟨rfl, 12, by omega, by omega, rfl⟩
  · show M 2 6 = M 53 9 ∧ ∃ k, k ≤ 9 ∧ M 53 9 = nI k
    rw [e2, z53]
    exact ⟨rfl, 0, by omega, rfl⟩
  · show M 2 7 = M 53 8 ∧ ∃ k, k ≤ 99 ∧ M 53 8 = nI k
    rw [e2, z53]
    exact ⟨rfl, 0, by omega, rfl⟩
  · show M 5 2 = 0
    exact z5 2
  · show M 5 3 = 0
    exact z5 3
  · show M 53 10 = 0
    exact z53 10
  · show M 12 i = M 51 i
    rw [e12 i hi, e51 i hi]
  · show M 8 3 = 0
    exact z8 3
  · show M 49 4 = 0
    rw [e49]
    rfl
  · show M 44 1 = 0
    exact z44 1
  · show M 49 8 = 0
    rw [e49]
    rfl
  · exact z14 3
  · exact z60 0
  · exact z26 3
  · exact z60 1
theorem gw_RL7 : Cond.classLink RL 7 RX6 ∈ GW := gwi 39 (by decide +kernel) (by decide +kernel)
theorem gw_RL10 : Cond.classLink RL 10 RX7 ∈ GW := gwi 541 (by decide +kernel) (by decide +kernel)
set_option maxRecDepth 100000 in
set_option maxHeartbeats 4000000 in
theorem start_V {L : Nat} {xs : Nat → Int32} (hL : L ≤ 384) : V RL cL_law 4 (some .boolean) false room_1 true 0 (some (L, xs)) lwV 0 0 0 [some (.ref 1000), none, none, none] [] LS_0 M0 J0 := by
  refine v_newO (pc := 0) (r := 0) (ly' := LS_1) gw_RL7 wi6 wj6 lyX6 tyX6_ok rfl hf6 (by decide +kernel) (by decide) (Nat.zero_le _) rfl rfl (by decide +kernel) rfl rfl rfl (Nat.le_of_ble_eq_true rfl) (Nat.le_of_ble_eq_true rfl) dL_law_0 ?_
  refine v_dupR (pc := 3) dL_law_3 ?_
  refine v_callI (pc := 4) (As := []) (r := 0) mkL_9 (n_X6_0 (fun k hk => rfl) rfl) rfl (Nat.le_of_ble_eq_true rfl) rfl (Nat.le_of_ble_eq_true rfl) (Nat.le_of_ble_eq_true rfl) (Nat.zero_le _) rfl rfl dL_law_4 (fun o_4 ly_4 M_4 J_4 h_4 => ?_)
  obtain ⟨e1, e2, e3, e4⟩ := h_4
  replace e4 := e4.symm
  subst e1 e2 e3 e4
  refine v_ast_1 (pc := 7) dL_law_7 (by decide) rfl ?_
  have hz : ∀ k, 49 ≤ k → (mU (hsM (hsM (hsM M0 1) 14) 26) 38 5 12) k = fun _ => 0 := fun k hk => by
    rw [mU_ne _ (by omega), hsM_ne (by omega) (by omega), hsM_ne (by omega) (by omega), hsM_ne (by omega) (by omega)]
  refine v_newO (pc := 8) (r := 49) (ly' := LS_98) gw_RL10 wi7 wj7 lyX7 tyX7_ok rfl hf7 (by decide +kernel) (by decide) (Nat.zero_le _) rfl rfl (by decide +kernel) rfl (hz 49 (by omega)) rfl (Nat.le_of_ble_eq_true rfl) (Nat.le_of_ble_eq_true rfl) dL_law_8 ?_
  refine v_dupR (pc := 11) dL_law_11 ?_
  refine v_callI (pc := 12) (As := []) (r := 49) mkL_12 (n_X7_49 (fun k hk => hz k (by omega))) rfl (Nat.le_of_ble_eq_true rfl) rfl (Nat.le_of_ble_eq_true rfl) (Nat.le_of_ble_eq_true rfl) (Nat.zero_le _) rfl rfl dL_law_12 (fun o_12 ly_12 M_12 J_12 h_12 => ?_)
  obtain ⟨f1, f2, f3, f4⟩ := h_12
  replace f4 := f4.symm
  subst f1 f2 f3 f4
  rw [LS_LY]
  refine v_ast_2 (pc := 15) dL_law_15 (by decide) rfl ?_
  refine v_iconst (pc := 16) (v := 0) (by decide) dL_law_16 ?_
  refine v_ist_3 (pc := 17) dL_law_17 (by decide) rfl ?_
  exact law_loop hL (Nat.le_of_ble_eq_true rfl) (Nat.le_of_ble_eq_true rfl) (L + 1) 0 Ms J0 (by omega) (by omega) Rel_start
