/-! the house: breaks -/
def lt2 (d : Int64) (p : Int64 × Int64) : Int64 × Int64 := if p.1 - p.1 / d * d = 0 ∧ p.2 - p.2 / d * d = 0 then (p.1 / d, p.2 / d) else p
def ltR : Nat → Int64 × Int64 → Int64 × Int64
  | 0, p => p
  | n + 1, p => ltR n (lt2 5 (lt2 2 p))

set_option maxRecDepth 100000 in
set_option maxHeartbeats 300000 in
theorem l_low {S T : Int64} {u : Int32} {M : mM} {J : mJ} : ∀ (n i : Nat) (a b : Int64), n + i = 6 → V RX6 cX6_lowestTerms 10 (some .long) false (rmD 0) false LY.length none (mNl LY (fun r0 M1 J1 => r0 = (if u = 0 then (ltR n (a, b)).1 else (ltR n (a, b)).2) ∧ M1 = M ∧ J1 = J)) 0 0 9 [some (.long S), none, some (.long T), none, some (.int u), some (.long a), none, some (.long b), none, some (.int (nI i))] [] LY M J := by
  intro n
  induction n with
  | zero =>
    intro i a b hi
    obtain rfl : i = 6 := by omega
    refine v_iload (pc := 9) dX6_lowestTerms_9 rfl ?_
    refine v_bipush (pc := 11) (v := 6) (by decide) dX6_lowestTerms_11 ?_
    refine v_icmp_ge (pc := 13) (tgt := 98) dX6_lowestTerms_13 (by decide) (fun c_13 => ?_) (fun c_13 => absurd (by decide) c_13)
    refine v_iload (pc := 98) dX6_lowestTerms_98 rfl ?_
    refine v_if_ne (pc := 100) (tgt := 108) dX6_lowestTerms_100 (by decide) (fun c_100 => ?_) (fun c_100 => ?_)
    · refine v_lload (pc := 108) dX6_lowestTerms_108 rfl ?_
      refine v_lret (pc := 110) dX6_lowestTerms_110 (Nat.zero_le _) (Nat.zero_le _) ?_
      exact ⟨by rw [if_neg c_100]; rfl, rfl, rfl⟩
    · refine v_lload (pc := 103) dX6_lowestTerms_103 rfl ?_
      refine v_goto (pc := 105) (tgt := 110) dX6_lowestTerms_105 (by decide) ?_
      refine v_lret (pc := 110) dX6_lowestTerms_110 (Nat.zero_le _) (Nat.zero_le _) ?_
      exact ⟨by rw [if_pos c_100]; rfl, rfl, rfl⟩
  | succ n ih =>
    intro i a b hi
    refine v_iload (pc := 9) dX6_lowestTerms_9 rfl ?_
    refine v_bipush (pc := 11) (v := 6) (by decide) dX6_lowestTerms_11 ?_
    refine v_icmp_ge (pc := 13) (tgt := 98) dX6_lowestTerms_13 (by decide) (fun c_13 => absurd c_13 (nI_ge (b := 6) (show i < 6 by omega) (by omega))) (fun c_13 => ?_)
    refine v_lload (pc := 16) dX6_lowestTerms_16 rfl ?_
    refine v_ldc2 (pc := 18) ckX6_243 dX6_lowestTerms_18 ?_
    refine v_lrem (pc := 21) (by decide) dX6_lowestTerms_21 ?_
    refine v_lconst (pc := 22) (v := 0) (by decide) dX6_lowestTerms_22 ?_
    refine v_lcmp (pc := 23) dX6_lowestTerms_23 ?_
    refine v_if_ne (pc := 24) (tgt := 54) dX6_lowestTerms_24 (by decide) (fun c_24 => ?_) (fun c_24 => ?_)
    · refine v_lload (pc := 54) dX6_lowestTerms_54 rfl ?_
      refine v_ldc2 (pc := 56) ckX6_245 dX6_lowestTerms_56 ?_
      refine v_lrem (pc := 59) (by decide) dX6_lowestTerms_59 ?_
      refine v_lconst (pc := 60) (v := 0) (by decide) dX6_lowestTerms_60 ?_
      refine v_lcmp (pc := 61) dX6_lowestTerms_61 ?_
      refine v_if_ne (pc := 62) (tgt := 92) dX6_lowestTerms_62 (by decide) (fun c_62 => ?_) (fun c_62 => ?_)
      · refine v_inc_9 (pc := 92) (v := 1) dX6_lowestTerms_92 (by decide) (by decide) rfl ?_
        refine v_goto (pc := 95) (tgt := 9) dX6_lowestTerms_95 (by decide) ?_
        rw [nI_1]
        have h1 : lt2 2 (a, b) = ((a), (b)) := if_neg (fun q => c_24 (lg0.mpr q.1))
        have h2 : lt2 5 ((a), (b)) = ((a), (b)) := if_neg (fun q => c_62 (lg0.mpr q.1))
        have e9 := ih (i + 1) (a) (b) (by omega)
        rw [ltR, h1, h2]
        exact e9
      · refine v_lload (pc := 65) dX6_lowestTerms_65 rfl ?_
        refine v_ldc2 (pc := 67) ckX6_245 dX6_lowestTerms_67 ?_
        refine v_lrem (pc := 70) (by decide) dX6_lowestTerms_70 ?_
        refine v_lconst (pc := 71) (v := 0) (by decide) dX6_lowestTerms_71 ?_
        refine v_lcmp (pc := 72) dX6_lowestTerms_72 ?_
        refine v_if_ne (pc := 73) (tgt := 92) dX6_lowestTerms_73 (by decide) (fun c_73 => ?_) (fun c_73 => ?_)
        · refine v_inc_9 (pc := 92) (v := 1) dX6_lowestTerms_92 (by decide) (by decide) rfl ?_
          refine v_goto (pc := 95) (tgt := 9) dX6_lowestTerms_95 (by decide) ?_
          rw [nI_1]
          have h1 : lt2 2 (a, b) = ((a), (b)) := if_neg (fun q => c_24 (lg0.mpr q.1))
          have h2 : lt2 5 ((a), (b)) = ((a), (b)) := if_neg (fun q => c_73 (lg0.mpr q.2))
          have e9 := ih (i + 1) (a) (b) (by omega)
          rw [ltR, h1, h2]
          exact e9
        · refine v_lload (pc := 76) dX6_lowestTerms_76 rfl ?_
          refine v_ldc2 (pc := 78) ckX6_245 dX6_lowestTerms_78 ?_
          refine v_ldiv (pc := 81) (by decide) dX6_lowestTerms_81 ?_
          refine v_lst_5 (pc := 82) dX6_lowestTerms_82 (by decide) rfl ?_
          refine v_lload (pc := 84) dX6_lowestTerms_84 rfl ?_
          refine v_ldc2 (pc := 86) ckX6_245 dX6_lowestTerms_86 ?_
          refine v_ldiv (pc := 89) (by decide) dX6_lowestTerms_89 ?_
          refine v_lst_7 (pc := 90) dX6_lowestTerms_90 (by decide) rfl ?_
          refine v_inc_9 (pc := 92) (v := 1) dX6_lowestTerms_92 (by decide) (by decide) rfl ?_
          refine v_goto (pc := 95) (tgt := 9) dX6_lowestTerms_95 (by decide) ?_
          rw [nI_1]
          have h1 : lt2 2 (a, b) = ((a), (b)) := if_neg (fun q => c_24 (lg0.mpr q.1))
          have h2 : lt2 5 ((a), (b)) = ((a) / 5, (b) / 5) := if_pos ⟨lg0.mp c_62, lg0.mp c_73⟩
          have e9 := ih (i + 1) ((a) / 5) ((b) / 5) (by omega)
          rw [ltR, h1, h2]
          exact e9
    · refine v_lload (pc := 27) dX6_lowestTerms_27 rfl ?_
      refine v_ldc2 (pc := 29) ckX6_243 dX6_lowestTerms_29 ?_
      refine v_lrem (pc := 32) (by decide) dX6_lowestTerms_32 ?_
      refine v_lconst (pc := 33) (v := 0) (by decide) dX6_lowestTerms_33 ?_
      refine v_lcmp (pc := 34) dX6_lowestTerms_34 ?_
      refine v_if_ne (pc := 35) (tgt := 54) dX6_lowestTerms_35 (by decide) (fun c_35 => ?_) (fun c_35 => ?_)
      · refine v_lload (pc := 54) dX6_lowestTerms_54 rfl ?_
        refine v_ldc2 (pc := 56) ckX6_245 dX6_lowestTerms_56 ?_
        refine v_lrem (pc := 59) (by decide) dX6_lowestTerms_59 ?_
        refine v_lconst (pc := 60) (v := 0) (by decide) dX6_lowestTerms_60 ?_
        refine v_lcmp (pc := 61) dX6_lowestTerms_61 ?_
        refine v_if_ne (pc := 62) (tgt := 92) dX6_lowestTerms_62 (by decide) (fun c_62 => ?_) (fun c_62 => ?_)
        · refine v_inc_9 (pc := 92) (v := 1) dX6_lowestTerms_92 (by decide) (by decide) rfl ?_
          refine v_goto (pc := 95) (tgt := 9) dX6_lowestTerms_95 (by decide) ?_
          rw [nI_1]
          have h1 : lt2 2 (a, b) = ((a), (b)) := if_neg (fun q => c_35 (lg0.mpr q.2))
          have h2 : lt2 5 ((a), (b)) = ((a), (b)) := if_neg (fun q => c_62 (lg0.mpr q.1))
          have e9 := ih (i + 1) (a) (b) (by omega)
          rw [ltR, h1, h2]
          exact e9
        · refine v_lload (pc := 65) dX6_lowestTerms_65 rfl ?_
          refine v_ldc2 (pc := 67) ckX6_245 dX6_lowestTerms_67 ?_
          refine v_lrem (pc := 70) (by decide) dX6_lowestTerms_70 ?_
          refine v_lconst (pc := 71) (v := 0) (by decide) dX6_lowestTerms_71 ?_
          refine v_lcmp (pc := 72) dX6_lowestTerms_72 ?_
          refine v_if_ne (pc := 73) (tgt := 92) dX6_lowestTerms_73 (by decide) (fun c_73 => ?_) (fun c_73 => ?_)
          · refine v_inc_9 (pc := 92) (v := 1) dX6_lowestTerms_92 (by decide) (by decide) rfl ?_
            refine v_goto (pc := 95) (tgt := 9) dX6_lowestTerms_95 (by decide) ?_
            rw [nI_1]
            have h1 : lt2 2 (a, b) = ((a), (b)) := if_neg (fun q => c_35 (lg0.mpr q.2))
            have h2 : lt2 5 ((a), (b)) = ((a), (b)) := if_neg (fun q => c_73 (lg0.mpr q.2))
            have e9 := ih (i + 1) (a) (b) (by omega)
            rw [ltR, h1, h2]
            exact e9
          · refine v_lload (pc := 76) dX6_lowestTerms_76 rfl ?_
            refine v_ldc2 (pc := 78) ckX6_245 dX6_lowestTerms_78 ?_
            refine v_ldiv (pc := 81) (by decide) dX6_lowestTerms_81 ?_
            refine v_lst_5 (pc := 82) dX6_lowestTerms_82 (by decide) rfl ?_
            refine v_lload (pc := 84) dX6_lowestTerms_84 rfl ?_
            refine v_ldc2 (pc := 86) ckX6_245 dX6_lowestTerms_86 ?_
            refine v_ldiv (pc := 89) (by decide) dX6_lowestTerms_89 ?_
            refine v_lst_7 (pc := 90) dX6_lowestTerms_90 (by decide) rfl ?_
            refine v_inc_9 (pc := 92) (v := 1) dX6_lowestTerms_92 (by decide) (by decide) rfl ?_
            refine v_goto (pc := 95) (tgt := 9) dX6_lowestTerms_95 (by decide) ?_
            rw [nI_1]
            have h1 : lt2 2 (a, b) = ((a), (b)) := if_neg (fun q => c_35 (lg0.mpr q.2))
            have h2 : lt2 5 ((a), (b)) = ((a) / 5, (b) / 5) := if_pos ⟨lg0.mp c_62, lg0.mp c_73⟩
            have e9 := ih (i + 1) ((a) / 5) ((b) / 5) (by omega)
            rw [ltR, h1, h2]
            exact e9
      · refine v_lload (pc := 38) dX6_lowestTerms_38 rfl ?_
        refine v_ldc2 (pc := 40) ckX6_243 dX6_lowestTerms_40 ?_
        refine v_ldiv (pc := 43) (by decide) dX6_lowestTerms_43 ?_
        refine v_lst_5 (pc := 44) dX6_lowestTerms_44 (by decide) rfl ?_
        refine v_lload (pc := 46) dX6_lowestTerms_46 rfl ?_
        refine v_ldc2 (pc := 48) ckX6_243 dX6_lowestTerms_48 ?_
        refine v_ldiv (pc := 51) (by decide) dX6_lowestTerms_51 ?_
        refine v_lst_7 (pc := 52) dX6_lowestTerms_52 (by decide) rfl ?_
        refine v_lload (pc := 54) dX6_lowestTerms_54 rfl ?_
        refine v_ldc2 (pc := 56) ckX6_245 dX6_lowestTerms_56 ?_
        refine v_lrem (pc := 59) (by decide) dX6_lowestTerms_59 ?_
        refine v_lconst (pc := 60) (v := 0) (by decide) dX6_lowestTerms_60 ?_
        refine v_lcmp (pc := 61) dX6_lowestTerms_61 ?_
        refine v_if_ne (pc := 62) (tgt := 92) dX6_lowestTerms_62 (by decide) (fun c_62 => ?_) (fun c_62 => ?_)
        · refine v_inc_9 (pc := 92) (v := 1) dX6_lowestTerms_92 (by decide) (by decide) rfl ?_
          refine v_goto (pc := 95) (tgt := 9) dX6_lowestTerms_95 (by decide) ?_
          rw [nI_1]
          have h1 : lt2 2 (a, b) = ((a) / 2, (b) / 2) := if_pos ⟨lg0.mp c_24, lg0.mp c_35⟩
          have h2 : lt2 5 ((a) / 2, (b) / 2) = (((a) / 2), ((b) / 2)) := if_neg (fun q => c_62 (lg0.mpr q.1))
          have e9 := ih (i + 1) ((a) / 2) ((b) / 2) (by omega)
          rw [ltR, h1, h2]
          exact e9
        · refine v_lload (pc := 65) dX6_lowestTerms_65 rfl ?_
          refine v_ldc2 (pc := 67) ckX6_245 dX6_lowestTerms_67 ?_
          refine v_lrem (pc := 70) (by decide) dX6_lowestTerms_70 ?_
          refine v_lconst (pc := 71) (v := 0) (by decide) dX6_lowestTerms_71 ?_
          refine v_lcmp (pc := 72) dX6_lowestTerms_72 ?_
          refine v_if_ne (pc := 73) (tgt := 92) dX6_lowestTerms_73 (by decide) (fun c_73 => ?_) (fun c_73 => ?_)
          · refine v_inc_9 (pc := 92) (v := 1) dX6_lowestTerms_92 (by decide) (by decide) rfl ?_
            refine v_goto (pc := 95) (tgt := 9) dX6_lowestTerms_95 (by decide) ?_
            rw [nI_1]
            have h1 : lt2 2 (a, b) = ((a) / 2, (b) / 2) := if_pos ⟨lg0.mp c_24, lg0.mp c_35⟩
            have h2 : lt2 5 ((a) / 2, (b) / 2) = (((a) / 2), ((b) / 2)) := if_neg (fun q => c_73 (lg0.mpr q.2))
            have e9 := ih (i + 1) ((a) / 2) ((b) / 2) (by omega)
            rw [ltR, h1, h2]
            exact e9
          · refine v_lload (pc := 76) dX6_lowestTerms_76 rfl ?_
            refine v_ldc2 (pc := 78) ckX6_245 dX6_lowestTerms_78 ?_
            refine v_ldiv (pc := 81) (by decide) dX6_lowestTerms_81 ?_
            refine v_lst_5 (pc := 82) dX6_lowestTerms_82 (by decide) rfl ?_
            refine v_lload (pc := 84) dX6_lowestTerms_84 rfl ?_
            refine v_ldc2 (pc := 86) ckX6_245 dX6_lowestTerms_86 ?_
            refine v_ldiv (pc := 89) (by decide) dX6_lowestTerms_89 ?_
            refine v_lst_7 (pc := 90) dX6_lowestTerms_90 (by decide) rfl ?_
            refine v_inc_9 (pc := 92) (v := 1) dX6_lowestTerms_92 (by decide) (by decide) rfl ?_
            refine v_goto (pc := 95) (tgt := 9) dX6_lowestTerms_95 (by decide) ?_
            rw [nI_1]
            have h1 : lt2 2 (a, b) = ((a) / 2, (b) / 2) := if_pos ⟨lg0.mp c_24, lg0.mp c_35⟩
            have h2 : lt2 5 ((a) / 2, (b) / 2) = (((a) / 2) / 5, ((b) / 2) / 5) := if_pos ⟨lg0.mp c_62, lg0.mp c_73⟩
            have e9 := ih (i + 1) (((a) / 2) / 5) (((b) / 2) / 5) (by omega)
            rw [ltR, h1, h2]
            exact e9

set_option maxRecDepth 100000 in
set_option maxHeartbeats 4000000 in
theorem c_low {S T : Int64} {u : Int32} {M : mM} {J : mJ}  : Ct yX6_lowestTerms cX6_lowestTerms 10 (some .long) (rmD 0) false [.long S, .long T, .int u] LY M J (mNl LY (fun r0 M1 J1 => r0 = (if u = 0 then (ltR 6 (S, T)).1 else (ltR 6 (S, T)).2) ∧ M1 = M ∧ J1 = J)) := by
  refine ct_of (own := RX6) (ini := false) (ls := [some (.long S), none, some (.long T), none, some (.int u), none, none, none, none, none]) 5 (by decide +kernel) rfl (fun h => by cases h) rfl (fun ad => by first | exact Nat.le_of_ble_eq_true rfl) ?_
  refine v_lload_n (pc := 0) dX6_lowestTerms_0 rfl ?_
  refine v_lst_5 (pc := 1) dX6_lowestTerms_1 (by decide) rfl ?_
  refine v_lload_n (pc := 3) dX6_lowestTerms_3 rfl ?_
  refine v_lst_7 (pc := 4) dX6_lowestTerms_4 (by decide) rfl ?_
  refine v_iconst (pc := 6) (v := 0) (by decide) dX6_lowestTerms_6 ?_
  refine v_ist_9 (pc := 7) dX6_lowestTerms_7 (by decide) rfl ?_
  exact l_low 6 0 _ _ rfl
