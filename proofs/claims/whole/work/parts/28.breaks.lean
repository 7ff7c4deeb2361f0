/-! the house: breaks -/
def lt2 (d : Int64) (p : Int64 × Int64) : Int64 × Int64 := if p.1 - p.1 / d * d = 0 ∧ p.2 - p.2 / d * d = 0 then (p.1 / d, p.2 / d) else p
def ltR : Nat → Int64 × Int64 → Int64 × Int64
  | 0, p => p
  | n + 1, p => ltR n (lt2 5 (lt2 2 p))

set_option maxRecDepth 100000 in
set_option maxHeartbeats 300000 in
theorem l_low {S T : Int64} {u : Int32} {M : mM} {J : mJ} : ∀ (n i : Nat) (a b : Int64), n + i = 6 → V RX6 cX6_lowestTerms 10 (some .long) false (rmD 0) false LY.length none (mNl LY (fun r0 M1 J1 => r0 = (if u = 0 then (ltR n (a, b)).1 else (ltR n (a, b)).2) ∧ M1 = M ∧ J1 = J)) 0 0 9 [some (.long S), none, some (.long T), none, some (.int u), some (.long a), none, some (.long b), none, some (.int (nI i))] [] LY M J := by
  intro n
  induction n with
  | zero =>
    intro i a b hi
    obtain rfl : i = 6 := by omega
    refine v_iload (pc := 9) dX6_lowestTerms_9 rfl ?_
    refine v_bipush (pc := 11) (v := 6) (by decide) dX6_lowestTerms_11 ?_
    refine v_icmp_ge (pc := 13) (tgt := 98) dX6_lowestTerms_13 (by decide) (fun c_13 => ?_) (fun c_13 => absurd (by decide) c_13)
    refine v_iload (pc := 98) dX6_lowestTerms_98 rfl ?_
    refine v_if_ne (pc := 100) (tgt := 108) dX6_lowestTerms_100 (by decide) (fun c_100 => ?_) (fun c_100 => ?_)
    · refine v_lload (pc := 108) dX6_lowestTerms_108 rfl ?_
      refine v_lret (pc := 110) dX6_lowestTerms_110 (Nat.zero_le _) (Nat.zero_le _) ?_
      exact ⟨by rw [if_neg c_100]; rfl, rfl, rfl⟩
    · refine v_lload (pc := 103) dX6_lowestTerms_103 rfl ?_
      refine v_goto (pc := 105) (tgt := 110) dX6_lowestTerms_105 (by decide) ?_
      refine v_lret (pc := 110) dX6_lowestTerms_110 (Nat.zero_le _) (Nat.zero_le _) ?_
      exact ⟨by rw [if_pos c_100]; rfl, rfl, rfl⟩
  | succ n ih =>
    intro i a b hi
    refine v_iload (pc := 9) dX6_lowestTerms_9 rfl ?_
    refine v_bipush (pc := 11) (v := 6) (by decide) dX6_lowestTerms_11 ?_
    refine v_icmp_ge (pc := 13) (tgt := 98) dX6_lowestTerms_13 (by decide) (fun c_13 => absurd c_13 (nI_ge (b := 6) (show i < 6 by omega) (by omega))) (fun c_13 => ?_)
    refine v_lload (pc := 16) dX6_lowestTerms_16 rfl ?_
    refine v_ldc2 (pc := 18) ckX6_243 dX6_lowestTerms_18 ?_
    refine v_lrem (pc := 21) (by decide) dX6_lowestTerms_21 ?_
    refine v_lconst (pc := 22) (v := 0) (by decide) dX6_lowestTerms_22 ?_
    refine v_lcmp (pc := 23) dX6_lowestTerms_23 ?_
    refine v_if_ne (pc := 24) (tgt := 54) dX6_lowestTerms_24 (by decide) (fun c_24 => ?_) (fun c_24 => ?_)
    · refine v_lload (pc := 54) dX6_lowestTerms_54 rfl ?_
      refine v_ldc2 (pc := 56) ckX6_245 dX6_lowestTerms_56 ?_
      refine v_lrem (pc := 59) (by decide) dX6_lowestTerms_59 ?_
      refine v_lconst (pc := 60) (v := 0) (by decide) dX6_lowestTerms_60 ?_
      refine v_lcmp (pc := 61) dX6_lowestTerms_61 ?_
      refine v_if_ne (pc := 62) (tgt := 92) dX6_lowestTerms_62 (by decide) (fun c_62 => ?_) (fun c_62 => ?_)
      · refine v_inc_9 (pc := 92) (v := 1) dX6_lowestTerms_92 (by decide) (by decide) rfl ?_
        refine v_goto (pc := 95) (tgt := 9) dX6_lowestTerms_95 (by decide) ?_
        rw [nI_1]
        have h1 : lt2 2 (a, b) = ((a), (b)) := if_neg (fun q => c_24 (lg0.mpr q.1))
        have h2 : lt2 5 ((a), (b)) = ((a), (b)) := if_neg (fun q => c_62 (lg0.mpr q.1))
        have e9 := ih (i + 1) (a) (b) (by omega)
        rw [ltR, h1, h2]
        exact e9
      · refine v_lload (pc := 65) dX6_lowestTerms_65 rfl ?_
        refine v_ldc2 (pc := 67) ckX6_245 dX6_lowestTerms_67 ?_
        refine v_lrem (pc := 70) (by decide) dX6_lowestTerms_70 ?_
        refine v_lconst (pc := 71) (v := 0) (by decide) dX6_lowestTerms_71 ?_
        refine v_lcmp (pc := 72) dX6_lowestTerms_72 ?_
        refine v_if_ne (pc := 73) (tgt := 92) dX6_lowestTerms_73 (by decide) (fun c_73 => ?_) (fun c_73 => ?_)
        · refine v_inc_9 (pc := 92) (v := 1) dX6_lowestTerms_92 (by decide) (by decide) rfl ?_
          refine v_goto (pc := 95) (tgt := 9) dX6_lowestTerms_95 (by decide) ?_
          rw [nI_1]
          have h1 : lt2 2 (a, b) = ((a), (b)) := if_neg (fun q => c_24 (lg0.mpr q.1))
          have h2 : lt2 5 ((a), (b)) = ((a), (b)) := if_neg (fun q => c_73 (lg0.mpr q.2))
          have e9 := ih (i + 1) (a) (b) (by omega)
          rw [ltR, h1, h2]
          exact e9
        · refine v_lload (pc := 76) dX6_lowestTerms_76 rfl ?_
          refine v_ldc2 (pc := 78) ckX6_245 dX6_lowestTerms_78 ?_
          refine v_ldiv (pc := 81) (by decide) dX6_lowestTerms_81 ?_
          refine v_lst_5 (pc := 82) dX6_lowestTerms_82 (by decide) rfl ?_
          refine v_lload (pc := 84) dX6_lowestTerms_84 rfl ?_
          refine v_ldc2 (pc := 86) ckX6_245 dX6_lowestTerms_86 ?_
          refine v_ldiv (pc := 89) (by decide) dX6_lowestTerms_89 ?_
          refine v_lst_7 (pc := 90) dX6_lowestTerms_90 (by decide) rfl ?_
          refine v_inc_9 (pc := 92) (v := 1) dX6_lowestTerms_92 (by decide) (by decide) rfl ?_
          refine v_goto (pc := 95) (tgt := 9) dX6_lowestTerms_95 (by decide) ?_
          rw [nI_1]
          have h1 : lt2 2 (a, b) = ((a), (b)) := if_neg (fun q => c_24 (lg0.mpr q.1))
          have h2 : lt2 5 ((a), (b)) = ((a) / 5, (b) / 5) := if_pos ⟨lg0.mp c_62, lg0.mp c_73⟩
          have e9 := ih (i + 1) ((a) / 5) ((b) / 5) (by omega)
          rw [ltR, h1, h2]
          exact e9
    · refine v_lload (pc := 27) dX6_lowestTerms_27 rfl ?_
      refine v_ldc2 (pc := 29) ckX6_243 dX6_lowestTerms_29 ?_
      refine v_lrem (pc := 32) (by decide) dX6_lowestTerms_32 ?_
      refine v_lconst (pc := 33) (v := 0) (by decide) dX6_lowestTerms_33 ?_
      refine v_lcmp (pc := 34) dX6_lowestTerms_34 ?_
      refine v_if_ne (pc := 35) (tgt := 54) dX6_lowestTerms_35 (by decide) (fun c_35 => ?_) (fun c_35 => ?_)
      · refine v_lload (pc := 54) dX6_lowestTerms_54 rfl ?_
        refine v_ldc2 (pc := 56) ckX6_245 dX6_lowestTerms_56 ?_
        refine v_lrem (pc := 59) (by decide) dX6_lowestTerms_59 ?_
        refine v_lconst (pc := 60) (v := 0) (by decide) dX6_lowestTerms_60 ?_
        refine v_lcmp (pc := 61) dX6_lowestTerms_61 ?_
        refine v_if_ne (pc := 62) (tgt := 92) dX6_lowestTerms_62 (by decide) (fun c_62 => ?_) (fun c_62 => ?_)
        · refine v_inc_9 (pc := 92) (v := 1) dX6_lowestTerms_92 (by decide) (by decide) rfl ?_
          refine v_goto (pc := 95) (tgt := 9) dX6_lowestTerms_95 (by decide) ?_
          rw [nI_1]
          have h1 : lt2 2 (a, b) = ((a), (b)) := if_neg (fun q => c_35 (lg0.mpr q.2))
          have h2 : lt2 5 ((a), (b)) = ((a), (b)) := if_neg (fun q => c_62 (lg0.mpr q.1))
          have e9 := ih (i + 1) (a) (b) (by omega)
          rw [ltR, h1, h2]
          exact e9
        · refine v_lload (pc := 65) dX6_lowestTerms_65 rfl ?_
          refine v_ldc2 (pc := 67) ckX6_245 dX6_lowestTerms_67 ?_
          refine v_lrem (pc := 70) (by decide) dX6_lowestTerms_70 ?_
          refine v_lconst (pc := 71) (v := 0) (by decide) dX6_lowestTerms_71 ?_
          refine v_lcmp (pc := 72) dX6_lowestTerms_72 ?_
          refine v_if_ne (pc := 73) (tgt := 92) dX6_lowestTerms_73 (by decide) (fun c_73 => ?_) (fun c_73 => ?_)
          · refine v_inc_9 (pc := 92) (v := 1) dX6_lowestTerms_92 (by decide) (by decide) rfl ?_
            refine v_goto (pc := 95) (tgt := 9) dX6_lowestTerms_95 (by decide) ?_
            rw [nI_1]
            have h1 : lt2 2 (a, b) = ((a), (b)) := if_neg (fun q => c_35 (lg0.mpr q.2))
            have h2 : lt2 5 ((a), (b)) = ((a), (b)) := if_neg (fun q => c_73 (lg0.mpr q.2))
            have e9 := ih (i + 1) (a) (b) (by omega)
            rw [ltR, h1, h2]
            exact e9
          · refine v_lload (pc := 76) dX6_lowestTerms_76 rfl ?_
            refine v_ldc2 (pc := 78) ckX6_245 dX6_lowestTerms_78 ?_
            refine v_ldiv (pc := 81) (by decide) dX6_lowestTerms_81 ?_
            refine v_lst_5 (pc := 82) dX6_lowestTerms_82 (by decide) rfl ?_
            refine v_lload (pc := 84) dX6_lowestTerms_84 rfl ?_
            refine v_ldc2 (pc := 86) ckX6_245 dX6_lowestTerms_86 ?_
            refine v_ldiv (pc := 89) (by decide) dX6_lowestTerms_89 ?_
            refine v_lst_7 (pc := 90) dX6_lowestTerms_90 (by decide) rfl ?_
            refine v_inc_9 (pc := 92) (v := 1) dX6_lowestTerms_92 (by decide) (by decide) rfl ?_
            refine v_goto (pc := 95) (tgt := 9) dX6_lowestTerms_95 (by decide) ?_
            rw [nI_1]
            have h1 : lt2 2 (a, b) = ((a), (b)) := if_neg (fun q => c_35 (lg0.mpr q.2))
            have h2 : lt2 5 ((a), (b)) = ((a) / 5, (b) / 5) := if_pos ⟨lg0.mp c_62, lg0.mp c_73⟩
            have e9 := ih (i + 1) ((a) / 5) ((b) / 5) (by omega)
            rw [ltR, h1, h2]
            exact e9
      · refine v_lload (pc := 38) dX6_lowestTerms_38 rfl ?_
        refine v_ldc2 (pc := 40) ckX6_243 dX6_lowestTerms_40 ?_
        refine v_ldiv (pc := 43) (by decide) dX6_lowestTerms_43 ?_
        refine v_lst_5 (pc := 44) dX6_lowestTerms_44 (by decide) rfl ?_
        refine v_lload (pc := 46) dX6_lowestTerms_46 rfl ?_
        refine v_ldc2 (pc := 48) ckX6_243 dX6_lowestTerms_48 ?_
        refine v_ldiv (pc := 51) (by decide) dX6_lowestTerms_51 ?_
        refine v_lst_7 (pc := 52) dX6_lowestTerms_52 (by decide) rfl ?_
        refine v_lload (pc := 54) dX6_lowestTerms_54 rfl ?_
        refine v_ldc2 (pc := 56) ckX6_245 dX6_lowestTerms_56 ?_
        refine v_lrem (pc := 59) (by decide) dX6_lowestTerms_59 ?_
        refine v_lconst (pc := 60) (v := 0) (by decide) dX6_lowestTerms_60 ?_
        refine v_lcmp (pc := 61) dX6_lowestTerms_61 ?_
        refine v_if_ne (pc := 62) (tgt := 92) dX6_lowestTerms_62 (by decide) (fun c_62 => ?_) (fun c_62 => ?_)
        · refine v_inc_9 (pc := 92) (v := 1) dX6_lowestTerms_92 (by decide) (by decide) rfl ?_
          refine v_goto (pc := 95) (tgt := 9) dX6_lowestTerms_95 (by decide) ?_
          rw [nI_1]
          have h1 : lt2 2 (a, b) = ((a) / 2, (b) / 2) := if_pos ⟨lg0.mp c_24, lg0.mp c_35⟩
          have h2 : lt2 5 ((a) / 2, (b) / 2) = (((a) / 2), ((b) / 2)) := if_neg (fun q => c_62 (lg0.mpr q.1))
          have e9 := ih (i + 1) ((a) / 2) ((b) / 2) (by omega)
          rw [ltR, h1, h2]
          exact e9
        · refine v_lload (pc := 65) dX6_lowestTerms_65 rfl ?_
          refine v_ldc2 (pc := 67) ckX6_245 dX6_lowestTerms_67 ?_
          refine v_lrem (pc := 70) (by decide) dX6_lowestTerms_70 ?_
          refine v_lconst (pc := 71) (v := 0) (by decide) dX6_lowestTerms_71 ?_
          refine v_lcmp (pc := 72) dX6_lowestTerms_72 ?_
          refine v_if_ne (pc := 73) (tgt := 92) dX6_lowestTerms_73 (by decide) (fun c_73 => ?_) (fun c_73 => ?_)
          · refine v_inc_9 (pc := 92) (v := 1) dX6_lowestTerms_92 (by decide) (by decide) rfl ?_
            refine v_goto (pc := 95) (tgt := 9) dX6_lowestTerms_95 (by decide) ?_
            rw [nI_1]
            have h1 : lt2 2 (a, b) = ((a) / 2, (b) / 2) := if_pos ⟨lg0.mp c_24, lg0.mp c_35⟩
            have h2 : lt2 5 ((a) / 2, (b) / 2) = (((a) / 2), ((b) / 2)) := if_neg (fun q => c_73 (lg0.mpr q.2))
            have e9 := ih (i + 1) ((a) / 2) ((b) / 2) (by omega)
            rw [ltR, h1, h2]
            exact e9
          · refine v_lload (pc := 76) dX6_lowestTerms_76 rfl ?_
            refine v_ldc2 (pc := 78) ckX6_245 dX6_lowestTerms_78 ?_
            refine v_ldiv (pc := 81) (by decide) dX6_lowestTerms_81 ?_
            refine v_lst_5 (pc := 82) dX6_lowestTerms_82 (by decide) rfl ?_
            refine v_lload (pc := 84) dX6_lowestTerms_84 rfl ?_
            refine v_ldc2 (pc := 86) ckX6_245 dX6_lowestTerms_86 ?_
            refine v_ldiv (pc := 89) (by decide) dX6_lowestTerms_89 ?_
            refine v_lst_7 (pc := 90) dX6_lowestTerms_90 (by decide) rfl ?_
            refine v_inc_9 (pc := 92) (v := 1) dX6_lowestTerms_92 (by decide) (by decide) rfl ?_
            refine v_goto (pc := 95) (tgt := 9) dX6_lowestTerms_95 (by decide) ?_
            rw [nI_1]
            have h1 : lt2 2 (a, b) = ((a) / 2, (b) / 2) := if_pos ⟨lg0.mp c_24, lg0.mp c_35⟩
            have h2 : lt2 5 ((a) / 2, (b) / 2) = (((a) / 2) / 5, ((b) / 2) / 5) := if_pos ⟨lg0.mp c_62, lg0.mp c_73⟩
            have e9 := ih (i + 1) (((a) / 2) / 5) (((b) / 2) / 5) (by omega)
            rw [ltR, h1, h2]
            exact e9

set_option maxRecDepth 100000 in
set_option maxHeartbeats 4000000 in
theorem c_low {S T : Int64} {u : Int32} {M : mM} {J : mJ}  : Ct yX6_lowestTerms cX6_lowestTerms 10 (some .long) (rmD 0) false [.long S, .long T, .int u] LY M J (mNl LY (fun r0 M1 J1 => r0 = (if u = 0 then (ltR 6 (S, T)).1 else (ltR 6 (S, T)).2) ∧ M1 = M ∧ J1 = J)) := by
  refine ct_of (own := RX6) (ini := false) (ls := [some (.long S), none, some (.long T), none, some (.int u), none, none, none, none, none]) 5 (by decide +kernel) rfl (fun h => by cases h) rfl (fun ad => by first | exact Nat.le_of_ble_eq_true rfl) ?_
  refine v_lload_n (pc := 0) dX6_lowestTerms_0 rfl ?_
  refine v_lst_5 (pc := 1) dX6_lowestTerms_1 (by decide) rfl ?_
  refine v_lload_n (pc := 3) dX6_lowestTerms_3 rfl ?_
  refine v_lst_7 (pc := 4) dX6_lowestTerms_4 (by decide) rfl ?_
  refine v_iconst (pc := 6) (v := 0) (by decide) dX6_lowestTerms_6 ?_
  refine v_ist_9 (pc := 7) dX6_lowestTerms_7 (by decide) rfl ?_
  exact l_low 6 0 _ _ rfl

def cb0 (i : Nat) (B : mJ) : mJ := mUL B 48 i (if nI i = 0 then 1 else 0)
def cbK (t : Int32) (k : Nat) (B : mJ) : mJ := if nI k ≤ 0 then mUL B 48 k (B 48 k * (10 - t).toInt64 + 0 * t.toInt64) else mUL B 48 k (B 48 k * (10 - t).toInt64 + B 48 (k - 1) * t.toInt64)
/-- chances k - 1 down to 0 -/
def cbD (t : Int32) : Nat → mJ → mJ
  | 0, B => B
  | k + 1, B => cbD t k (cbK t k B)
def cbAll (t : Int32) (J : mJ) (m : Nat) : mJ := itN (fun _ B => cbD t 7 B) (itN cb0 J 7) m

set_option maxRecDepth 100000 in
set_option maxHeartbeats 300000 in
theorem l_cbI {t : Int32} {m i : Nat} {M : mM} {B0 Z : mJ} (ho : V RX6 cX6_countBreaks 7 none false (rmD 0) false LY.length none (mNv LY (fun M1 J1 => M1 = M ∧ J1 = Z)) 0 0 31 [some (.ref 0), some (.int (nI m)), some (.int t), some (.int (nI (i + 1))), none, none, none] [] LY M (cbD t 7 B0)) : ∀ (k : Nat) (B : mJ), k ≤ 7 → cbD t k B = cbD t 7 B0 → V RX6 cX6_countBreaks 7 none false (rmD 0) false LY.length none (mNv LY (fun M1 J1 => M1 = M ∧ J1 = Z)) 0 0 40 [some (.ref 0), some (.int (nI m)), some (.int t), some (.int (nI i)), some (.int (nI k + -1)), none, none] [] LY M B := by
  intro k
  induction k with
  | zero =>
    intro B hk hz
    refine v_iload (pc := 40) dX6_countBreaks_40 rfl ?_
    refine v_if_lt (pc := 42) (tgt := 97) dX6_countBreaks_42 (by decide) (fun c_42 => ?_) (fun c_42 => absurd (by decide) c_42)
    refine v_inc_3 (pc := 97) (v := 1) dX6_countBreaks_97 (by decide) (by decide) rfl ?_
    refine v_goto (pc := 100) (tgt := 31) dX6_countBreaks_100 (by decide) ?_
    refine v_fg_4 ?_
    rw [nI_1]
    rw [← hz] at ho
    exact ho
  | succ k ih =>
    intro B hk hz
    have hck := nI_clamp (show k < 2 ^ 31 by omega)
    rw [pk_m1]
    refine v_iload (pc := 40) dX6_countBreaks_40 rfl ?_
    refine v_if_lt (pc := 42) (tgt := 97) dX6_countBreaks_42 (by decide) (fun c_42 => absurd c_42 (Int32.not_lt.mpr (nI_pos' (by omega)))) (fun c_42 => ?_)
    refine v_iload (pc := 45) dX6_countBreaks_45 rfl ?_
    refine v_if_le (pc := 47) (tgt := 62) dX6_countBreaks_47 (by decide) (fun c_47 => ?_) (fun c_47 => ?_)
    · refine v_lconst (pc := 62) (v := 0) (by decide) dX6_countBreaks_62 ?_
      refine v_lst_5 (pc := 63) dX6_countBreaks_63 (by decide) rfl ?_
      refine v_aload_n (pc := 65) dX6_countBreaks_65 rfl ?_
      refine v_getR (pc := 66) fkX6_45 ly0 rfl dX6_countBreaks_66 ?_
      refine v_iload (pc := 69) dX6_countBreaks_69 rfl ?_
      refine v_aload_n (pc := 71) dX6_countBreaks_71 rfl ?_
      refine v_getR (pc := 72) fkX6_45 ly0 rfl dX6_countBreaks_72 ?_
      refine v_iload (pc := 75) dX6_countBreaks_75 rfl ?_
      refine v_lald (pc := 77) ly48 ?_ dX6_countBreaks_77 ?_
      · exact vp_in_nI (show k < 7 by omega) (by omega)
      refine v_bipush (pc := 78) (v := 10) (by decide) dX6_countBreaks_78 ?_
      refine v_iload_n (pc := 80) dX6_countBreaks_80 rfl ?_
      refine v_isub (pc := 81) dX6_countBreaks_81 ?_
      refine v_i2l (pc := 82) dX6_countBreaks_82 ?_
      refine v_lmul (pc := 83) dX6_countBreaks_83 ?_
      refine v_lload (pc := 84) dX6_countBreaks_84 rfl ?_
      refine v_iload_n (pc := 86) dX6_countBreaks_86 rfl ?_
      refine v_i2l (pc := 87) dX6_countBreaks_87 ?_
      refine v_lmul (pc := 88) dX6_countBreaks_88 ?_
      refine v_ladd (pc := 89) dX6_countBreaks_89 ?_
      refine v_last (pc := 90) ly48 ?_ dX6_countBreaks_90 ?_
      · exact vp_in_nI (show k < 7 by omega) (by omega)
      refine v_inc_4 (pc := 91) (v := (-1)) dX6_countBreaks_91 (by decide) (by decide) rfl ?_
      refine v_goto (pc := 94) (tgt := 40) dX6_countBreaks_94 (by decide) ?_
      refine v_fg_5 ?_
      have e9 := ih (cbK t k B) (by omega) hz
      rw [show cbK t k B = _ from if_pos c_47] at e9
      rw [hck]
      exact e9
    · refine v_aload_n (pc := 50) dX6_countBreaks_50 rfl ?_
      refine v_getR (pc := 51) fkX6_45 ly0 rfl dX6_countBreaks_51 ?_
      refine v_iload (pc := 54) dX6_countBreaks_54 rfl ?_
      refine v_iconst (pc := 56) (v := 1) (by decide) dX6_countBreaks_56 ?_
      refine v_isub (pc := 57) dX6_countBreaks_57 ?_
      have hk1 : 1 ≤ k := Nat.pos_of_ne_zero (fun h => by subst h; exact c_47 (by decide))
      rw [show nI k - 1 = nI (k - 1) from pk_sub hk1]
      refine v_lald (pc := 58) ly48 ?_ dX6_countBreaks_58 ?_
      · exact vp_in_nI (show k - 1 < 7 by omega) (by omega)
      rw [nI_clamp (show k - 1 < 2 ^ 31 by omega)]
      refine v_goto (pc := 59) (tgt := 63) dX6_countBreaks_59 (by decide) ?_
      refine v_lst_5 (pc := 63) dX6_countBreaks_63 (by decide) rfl ?_
      refine v_aload_n (pc := 65) dX6_countBreaks_65 rfl ?_
      refine v_getR (pc := 66) fkX6_45 ly0 rfl dX6_countBreaks_66 ?_
      refine v_iload (pc := 69) dX6_countBreaks_69 rfl ?_
      refine v_aload_n (pc := 71) dX6_countBreaks_71 rfl ?_
      refine v_getR (pc := 72) fkX6_45 ly0 rfl dX6_countBreaks_72 ?_
      refine v_iload (pc := 75) dX6_countBreaks_75 rfl ?_
      refine v_lald (pc := 77) ly48 ?_ dX6_countBreaks_77 ?_
      · exact vp_in_nI (show k < 7 by omega) (by omega)
      refine v_bipush (pc := 78) (v := 10) (by decide) dX6_countBreaks_78 ?_
      refine v_iload_n (pc := 80) dX6_countBreaks_80 rfl ?_
      refine v_isub (pc := 81) dX6_countBreaks_81 ?_
      refine v_i2l (pc := 82) dX6_countBreaks_82 ?_
      refine v_lmul (pc := 83) dX6_countBreaks_83 ?_
      refine v_lload (pc := 84) dX6_countBreaks_84 rfl ?_
      refine v_iload_n (pc := 86) dX6_countBreaks_86 rfl ?_
      refine v_i2l (pc := 87) dX6_countBreaks_87 ?_
      refine v_lmul (pc := 88) dX6_countBreaks_88 ?_
      refine v_ladd (pc := 89) dX6_countBreaks_89 ?_
      refine v_last (pc := 90) ly48 ?_ dX6_countBreaks_90 ?_
      · exact vp_in_nI (show k < 7 by omega) (by omega)
      refine v_inc_4 (pc := 91) (v := (-1)) dX6_countBreaks_91 (by decide) (by decide) rfl ?_
      refine v_goto (pc := 94) (tgt := 40) dX6_countBreaks_94 (by decide) ?_
      refine v_fg_5 ?_
      have e9 := ih (cbK t k B) (by omega) hz
      rw [show cbK t k B = _ from if_neg c_47] at e9
      rw [hck]
      exact e9

set_option maxRecDepth 100000 in
set_option maxHeartbeats 300000 in
theorem l_cbO {t : Int32} {m : Nat} (hm : m ≤ 6) {M : mM} {B : mJ} : ∀ (n i : Nat), n + i = m → V RX6 cX6_countBreaks 7 none false (rmD 0) false LY.length none (mNv LY (fun M1 J1 => M1 = M ∧ J1 = itN (fun _ A => cbD t 7 A) B m)) 0 0 31 [some (.ref 0), some (.int (nI m)), some (.int t), some (.int (nI (i))), none, none, none] [] LY M (itN (fun _ A => cbD t 7 A) B i) := by
  intro n
  induction n with
  | zero =>
    intro i hi
    obtain rfl : i = m := by omega
    refine v_iload_n (pc := 31) dX6_countBreaks_31 rfl ?_
    refine v_iload_n (pc := 32) dX6_countBreaks_32 rfl ?_
    refine v_icmp_ge (pc := 33) (tgt := 103) dX6_countBreaks_33 (by decide) (fun c_33 => ?_) (fun c_33 => absurd (nI_le (Nat.le_refl _) (by omega)) c_33)
    refine v_vret (pc := 103) dX6_countBreaks_103 (Nat.zero_le _) (Nat.zero_le _) ?_
    exact ⟨rfl, rfl⟩
  | succ n ih =>
    intro i hi
    refine v_iload_n (pc := 31) dX6_countBreaks_31 rfl ?_
    refine v_iload_n (pc := 32) dX6_countBreaks_32 rfl ?_
    refine v_icmp_ge (pc := 33) (tgt := 103) dX6_countBreaks_33 (by decide) (fun c_33 => absurd c_33 (nI_ge (show i < m by omega) (by omega))) (fun c_33 => ?_)
    refine v_bipush (pc := 36) (v := 6) (by decide) dX6_countBreaks_36 ?_
    refine v_ist_4 (pc := 38) dX6_countBreaks_38 (by decide) rfl ?_
    exact l_cbI (ih (i + 1) (by omega)) 7 _ (Nat.le_refl _) rfl

set_option maxRecDepth 100000 in
set_option maxHeartbeats 300000 in
theorem l_cb0 {t : Int32} {m : Nat} (hm : m ≤ 6) {M : mM} {J : mJ} : ∀ (n i : Nat), n + i = 7 → V RX6 cX6_countBreaks 7 none false (rmD 0) false LY.length none (mNv LY (fun M1 J1 => M1 = M ∧ J1 = cbAll t J m)) 0 0 2 [some (.ref 0), some (.int (nI m)), some (.int t), some (.int (nI (i))), none, none, none] [] LY M (itN cb0 J i) := by
  intro n
  induction n with
  | zero =>
    intro i hi
    obtain rfl : i = 7 := by omega
    refine v_iload_n (pc := 2) dX6_countBreaks_2 rfl ?_
    refine v_bipush (pc := 3) (v := 6) (by decide) dX6_countBreaks_3 ?_
    refine v_icmp_gt (pc := 5) (tgt := 29) dX6_countBreaks_5 (by decide) (fun c_5 => ?_) (fun c_5 => absurd (by decide) c_5)
    refine v_iconst (pc := 29) (v := 0) (by decide) dX6_countBreaks_29 ?_
    refine v_ist_3 (pc := 30) dX6_countBreaks_30 (by decide) rfl ?_
    exact l_cbO hm m 0 rfl
  | succ n ih =>
    intro i hi
    have hcl := nI_clamp (show i < 2 ^ 31 by omega)
    refine v_iload_n (pc := 2) dX6_countBreaks_2 rfl ?_
    refine v_bipush (pc := 3) (v := 6) (by decide) dX6_countBreaks_3 ?_
    refine v_icmp_gt (pc := 5) (tgt := 29) dX6_countBreaks_5 (by decide) (fun c_5 => absurd c_5 (fun q => absurd ((nI_ltI (a := 6) (by omega) (by omega)).mp q) (by omega))) (fun c_5 => ?_)
    refine v_aload_n (pc := 8) dX6_countBreaks_8 rfl ?_
    refine v_getR (pc := 9) fkX6_45 ly0 rfl dX6_countBreaks_9 ?_
    refine v_iload_n (pc := 12) dX6_countBreaks_12 rfl ?_
    refine v_iload_n (pc := 13) dX6_countBreaks_13 rfl ?_
    refine v_if_ne (pc := 14) (tgt := 21) dX6_countBreaks_14 (by decide) (fun c_14 => ?_) (fun c_14 => ?_)
    · refine v_lconst (pc := 21) (v := 0) (by decide) dX6_countBreaks_21 ?_
      refine v_last (pc := 22) ly48 ?_ dX6_countBreaks_22 ?_
      · exact vp_in_nI (show i < 7 by omega) (by omega)
      refine v_inc_3 (pc := 23) (v := 1) dX6_countBreaks_23 (by decide) (by decide) rfl ?_
      refine v_goto (pc := 26) (tgt := 2) dX6_countBreaks_26 (by decide) ?_
      rw [hcl, nI_1]
      have e9 := ih (i + 1) (by omega)
      rw [itN_s _ _ i, show cb0 i (itN cb0 J i) = mUL (itN cb0 J i) 48 i (if nI i = 0 then 1 else 0) from rfl, if_neg c_14] at e9
      exact e9
    · refine v_lconst (pc := 17) (v := 1) (by decide) dX6_countBreaks_17 ?_
      refine v_goto (pc := 18) (tgt := 22) dX6_countBreaks_18 (by decide) ?_
      refine v_last (pc := 22) ly48 ?_ dX6_countBreaks_22 ?_
      · exact vp_in_nI (show i < 7 by omega) (by omega)
      refine v_inc_3 (pc := 23) (v := 1) dX6_countBreaks_23 (by decide) (by decide) rfl ?_
      refine v_goto (pc := 26) (tgt := 2) dX6_countBreaks_26 (by decide) ?_
      rw [hcl, nI_1]
      have e9 := ih (i + 1) (by omega)
      rw [itN_s _ _ i, show cb0 i (itN cb0 J i) = mUL (itN cb0 J i) 48 i (if nI i = 0 then 1 else 0) from rfl, if_pos c_14] at e9
      exact e9

set_option maxRecDepth 100000 in
set_option maxHeartbeats 4000000 in
theorem c_cb {t : Int32} {m : Nat} {M : mM} {J : mJ} (hm : m ≤ 6) : Ct yX6_countBreaks cX6_countBreaks 7 none (rmD 0) false [.ref 0, .int (nI m), .int t] LY M J (mNv LY (fun M1 J1 => M1 = M ∧ J1 = cbAll t J m)) := by
  refine ct_of (own := RX6) (ini := false) (ls := [some (.ref 0), some (.int (nI m)), some (.int t), none, none, none, none]) 4 (by decide +kernel) rfl (fun h => by cases h) rfl (fun ad => by first | exact Nat.le_of_ble_eq_true rfl) ?_
  refine v_iconst (pc := 0) (v := 0) (by decide) dX6_countBreaks_0 ?_
  refine v_ist_3 (pc := 1) dX6_countBreaks_1 (by decide) rfl ?_
  exact l_cb0 hm 7 0 rfl

def mnZ (z : Int32) (i : Nat) : Int32 := if z < bv (nI i) then z else bv (nI i)
def bs1 (z u : Int32) (C : Nat → Int64) (i : Nat) (a : Int64) : Int64 := if u = 0 then a + C i * (mnZ z i).toInt64 else if mnZ z i = z then a + C i * (1 : Int32).toInt64 else a + C i * (0 : Int32).toInt64
def al1 (i : Nat) (a : Int64) : Int64 := if nI i = 0 then a * 1 else a * 10
def brT (z m t u v : Int32) (C : Nat → Int64) : Int64 := if v = 0 then (ltR 6 (itN (bs1 z u C) 0 (m.toNatClampNeg + 1), itN al1 1 (m.toNatClampNeg + 1))).1 else (ltR 6 (itN (bs1 z u C) 0 (m.toNatClampNeg + 1), itN al1 1 (m.toNatClampNeg + 1))).2

set_option maxRecDepth 100000 in
set_option maxHeartbeats 300000 in
theorem l_brk {x z u v : Int32} {m : Nat} (hm : m ≤ 6) {M : mM} {J : mJ} : ∀ (n i : Nat), n + i = m + 1 → V RX6 cX6_breaks 13 (some .long) false (rmD 1) false LY.length none (mNl LY (fun r0 M1 J1 => r0 = (if v = 0 then (ltR 6 ((itN (bs1 x u (J 48)) 0 (m + 1)), (itN al1 1 (m + 1)))).1 else (ltR 6 ((itN (bs1 x u (J 48)) 0 (m + 1)), (itN al1 1 (m + 1)))).2) ∧ M1 = M ∧ J1 = J)) 0 0 73 [some (.ref 0), some (.int x), some (.int (nI m)), some (.int z), some (.int u), some (.int v), some (.long (itN (bs1 x u (J 48)) 0 i)), none, some (.long (itN al1 1 i)), none, some (.int (nI (i))), none, none] [] LY M J := by
  intro n
  induction n with
  | zero =>
    intro i hi
    obtain rfl : i = m + 1 := by omega
    refine v_iload (pc := 73) dX6_breaks_73 rfl ?_
    refine v_iload_n (pc := 75) dX6_breaks_75 rfl ?_
    refine v_icmp_gt (pc := 76) (tgt := 158) dX6_breaks_76 (by decide) (fun c_76 => ?_) (fun c_76 => absurd ((nI_ltI (by omega) (by omega)).mpr (by omega)) c_76)
    refine v_lload (pc := 158) dX6_breaks_158 rfl ?_
    refine v_lload (pc := 160) dX6_breaks_160 rfl ?_
    refine v_iload (pc := 162) dX6_breaks_162 rfl ?_
    refine v_cS3l (pc := 164) dX6_breaks_164 mkX6_215 c_low (Nat.le_of_ble_eq_true rfl) rfl (Nat.zero_le _) (Nat.zero_le _) (fun r_164 M_164 J_164 h_164 => ?_)
    obtain ⟨e1_164, e2_164, e3_164⟩ := h_164
    replace e1_164 := e1_164.symm
    replace e2_164 := e2_164.symm
    replace e3_164 := e3_164.symm
    subst e1_164 e2_164 e3_164
    refine v_lret (pc := 167) dX6_breaks_167 (Nat.zero_le _) (Nat.zero_le _) ?_
    exact ⟨rfl, rfl, rfl⟩
  | succ n ih =>
    intro i hi
    have hcl := nI_clamp (show i < 2 ^ 31 by omega)
    refine v_iload (pc := 73) dX6_breaks_73 rfl ?_
    refine v_iload_n (pc := 75) dX6_breaks_75 rfl ?_
    refine v_icmp_gt (pc := 76) (tgt := 158) dX6_breaks_76 (by decide) (fun c_76 => absurd c_76 (fun q => absurd ((nI_ltI (by omega) (by omega)).mp q) (by omega))) (fun c_76 => ?_)
    refine v_iload (pc := 79) dX6_breaks_79 rfl ?_
    refine v_bipush (pc := 81) (v := 6) (by decide) dX6_breaks_81 ?_
    refine v_icmp_gt (pc := 83) (tgt := 158) dX6_breaks_83 (by decide) (fun c_83 => absurd c_83 (fun q => absurd ((nI_ltI (a := 6) (by omega) (by omega)).mp q) (by omega))) (fun c_83 => ?_)
    refine v_iconst (pc := 86) (v := 1) (by decide) dX6_breaks_86 ?_
    refine v_iload (pc := 87) dX6_breaks_87 rfl ?_
    refine v_ishl (pc := 89) dX6_breaks_89 ?_
    refine v_iload_n (pc := 90) dX6_breaks_90 rfl ?_
    refine v_mmin (pc := 91) mwminX6_210 dX6_breaks_91 (by decide) (Nat.le_of_ble_eq_true rfl) (Nat.zero_le _) (Nat.zero_le _) ?_
    refine v_ist_11 (pc := 94) dX6_breaks_94 (by decide) rfl ?_
    refine v_iload (pc := 96) dX6_breaks_96 rfl ?_
    refine v_if_ne (pc := 98) (tgt := 106) dX6_breaks_98 (by decide) (fun c_98 => ?_) (fun c_98 => ?_)
    · refine v_iload (pc := 106) dX6_breaks_106 rfl ?_
      refine v_iload_n (pc := 108) dX6_breaks_108 rfl ?_
      refine v_icmp_ne (pc := 109) (tgt := 116) dX6_breaks_109 (by decide) (fun c_109 => ?_) (fun c_109 => ?_)
      · refine v_iconst (pc := 116) (v := 0) (by decide) dX6_breaks_116 ?_
        refine v_ist_12 (pc := 117) dX6_breaks_117 (by decide) rfl ?_
        refine v_lload (pc := 119) dX6_breaks_119 rfl ?_
        refine v_aload_n (pc := 121) dX6_breaks_121 rfl ?_
        refine v_getR (pc := 122) fkX6_45 ly0 rfl dX6_breaks_122 ?_
        refine v_iload (pc := 125) dX6_breaks_125 rfl ?_
        refine v_lald (pc := 127) ly48 ?_ dX6_breaks_127 ?_
        · exact vp_in_nI (show i < 7 by omega) (by omega)
        refine v_iload (pc := 128) dX6_breaks_128 rfl ?_
        refine v_i2l (pc := 130) dX6_breaks_130 ?_
        refine v_lmul (pc := 131) dX6_breaks_131 ?_
        refine v_ladd (pc := 132) dX6_breaks_132 ?_
        refine v_lst_6 (pc := 133) dX6_breaks_133 (by decide) rfl ?_
        refine v_lload (pc := 135) dX6_breaks_135 rfl ?_
        refine v_iload (pc := 137) dX6_breaks_137 rfl ?_
        refine v_if_ne (pc := 139) (tgt := 146) dX6_breaks_139 (by decide) (fun c_139 => ?_) (fun c_139 => ?_)
        · refine v_ldc2 (pc := 146) ckX6_213 dX6_breaks_146 ?_
          refine v_lmul (pc := 149) dX6_breaks_149 ?_
          refine v_lst_8 (pc := 150) dX6_breaks_150 (by decide) rfl ?_
          refine v_inc_10 (pc := 152) (v := 1) dX6_breaks_152 (by decide) (by decide) rfl ?_
          refine v_goto (pc := 155) (tgt := 73) dX6_breaks_155 (by decide) ?_
          refine v_fg_11 (v_fg_12 ?_)
          rw [nI_1]
          have h1 : bs1 x u (J 48) i (itN (bs1 x u (J 48)) 0 i) = (itN (bs1 x u (J 48)) 0 i) + J 48 i * (0 : Int32).toInt64 := (if_neg c_98).trans (if_neg c_109)
          have h2 : al1 i (itN al1 1 i) = (itN al1 1 i) * 10 := if_neg c_139
          have e9 := ih (i + 1) (by omega)
          rw [itN_s _ _ i, itN_s _ _ i, h1, h2] at e9
          rw [hcl]
          exact e9
        · refine v_lconst (pc := 142) (v := 1) (by decide) dX6_breaks_142 ?_
          refine v_goto (pc := 143) (tgt := 149) dX6_breaks_143 (by decide) ?_
          refine v_lmul (pc := 149) dX6_breaks_149 ?_
          refine v_lst_8 (pc := 150) dX6_breaks_150 (by decide) rfl ?_
          refine v_inc_10 (pc := 152) (v := 1) dX6_breaks_152 (by decide) (by decide) rfl ?_
          refine v_goto (pc := 155) (tgt := 73) dX6_breaks_155 (by decide) ?_
          refine v_fg_11 (v_fg_12 ?_)
          rw [nI_1]
          have h1 : bs1 x u (J 48) i (itN (bs1 x u (J 48)) 0 i) = (itN (bs1 x u (J 48)) 0 i) + J 48 i * (0 : Int32).toInt64 := (if_neg c_98).trans (if_neg c_109)
          have h2 : al1 i (itN al1 1 i) = (itN al1 1 i) * 1 := if_pos c_139
          have e9 := ih (i + 1) (by omega)
          rw [itN_s _ _ i, itN_s _ _ i, h1, h2] at e9
          rw [hcl]
          exact e9
      · refine v_iconst (pc := 112) (v := 1) (by decide) dX6_breaks_112 ?_
        refine v_goto (pc := 113) (tgt := 117) dX6_breaks_113 (by decide) ?_
        refine v_ist_12 (pc := 117) dX6_breaks_117 (by decide) rfl ?_
        refine v_lload (pc := 119) dX6_breaks_119 rfl ?_
        refine v_aload_n (pc := 121) dX6_breaks_121 rfl ?_
        refine v_getR (pc := 122) fkX6_45 ly0 rfl dX6_breaks_122 ?_
        refine v_iload (pc := 125) dX6_breaks_125 rfl ?_
        refine v_lald (pc := 127) ly48 ?_ dX6_breaks_127 ?_
        · exact vp_in_nI (show i < 7 by omega) (by omega)
        refine v_iload (pc := 128) dX6_breaks_128 rfl ?_
        refine v_i2l (pc := 130) dX6_breaks_130 ?_
        refine v_lmul (pc := 131) dX6_breaks_131 ?_
        refine v_ladd (pc := 132) dX6_breaks_132 ?_
        refine v_lst_6 (pc := 133) dX6_breaks_133 (by decide) rfl ?_
        refine v_lload (pc := 135) dX6_breaks_135 rfl ?_
        refine v_iload (pc := 137) dX6_breaks_137 rfl ?_
        refine v_if_ne (pc := 139) (tgt := 146) dX6_breaks_139 (by decide) (fun c_139 => ?_) (fun c_139 => ?_)
        · refine v_ldc2 (pc := 146) ckX6_213 dX6_breaks_146 ?_
          refine v_lmul (pc := 149) dX6_breaks_149 ?_
          refine v_lst_8 (pc := 150) dX6_breaks_150 (by decide) rfl ?_
          refine v_inc_10 (pc := 152) (v := 1) dX6_breaks_152 (by decide) (by decide) rfl ?_
          refine v_goto (pc := 155) (tgt := 73) dX6_breaks_155 (by decide) ?_
          refine v_fg_11 (v_fg_12 ?_)
          rw [nI_1]
          have h1 : bs1 x u (J 48) i (itN (bs1 x u (J 48)) 0 i) = (itN (bs1 x u (J 48)) 0 i) + J 48 i * (1 : Int32).toInt64 := (if_neg c_98).trans (if_pos c_109)
          have h2 : al1 i (itN al1 1 i) = (itN al1 1 i) * 10 := if_neg c_139
          have e9 := ih (i + 1) (by omega)
          rw [itN_s _ _ i, itN_s _ _ i, h1, h2] at e9
          rw [hcl]
          exact e9
        · refine v_lconst (pc := 142) (v := 1) (by decide) dX6_breaks_142 ?_
          refine v_goto (pc := 143) (tgt := 149) dX6_breaks_143 (by decide) ?_
          refine v_lmul (pc := 149) dX6_breaks_149 ?_
          refine v_lst_8 (pc := 150) dX6_breaks_150 (by decide) rfl ?_
          refine v_inc_10 (pc := 152) (v := 1) dX6_breaks_152 (by decide) (by decide) rfl ?_
          refine v_goto (pc := 155) (tgt := 73) dX6_breaks_155 (by decide) ?_
          refine v_fg_11 (v_fg_12 ?_)
          rw [nI_1]
          have h1 : bs1 x u (J 48) i (itN (bs1 x u (J 48)) 0 i) = (itN (bs1 x u (J 48)) 0 i) + J 48 i * (1 : Int32).toInt64 := (if_neg c_98).trans (if_pos c_109)
          have h2 : al1 i (itN al1 1 i) = (itN al1 1 i) * 1 := if_pos c_139
          have e9 := ih (i + 1) (by omega)
          rw [itN_s _ _ i, itN_s _ _ i, h1, h2] at e9
          rw [hcl]
          exact e9
    · refine v_iload (pc := 101) dX6_breaks_101 rfl ?_
      refine v_goto (pc := 103) (tgt := 117) dX6_breaks_103 (by decide) ?_
      refine v_ist_12 (pc := 117) dX6_breaks_117 (by decide) rfl ?_
      refine v_lload (pc := 119) dX6_breaks_119 rfl ?_
      refine v_aload_n (pc := 121) dX6_breaks_121 rfl ?_
      refine v_getR (pc := 122) fkX6_45 ly0 rfl dX6_breaks_122 ?_
      refine v_iload (pc := 125) dX6_breaks_125 rfl ?_
      refine v_lald (pc := 127) ly48 ?_ dX6_breaks_127 ?_
      · exact vp_in_nI (show i < 7 by omega) (by omega)
      refine v_iload (pc := 128) dX6_breaks_128 rfl ?_
      refine v_i2l (pc := 130) dX6_breaks_130 ?_
      refine v_lmul (pc := 131) dX6_breaks_131 ?_
      refine v_ladd (pc := 132) dX6_breaks_132 ?_
      refine v_lst_6 (pc := 133) dX6_breaks_133 (by decide) rfl ?_
      refine v_lload (pc := 135) dX6_breaks_135 rfl ?_
      refine v_iload (pc := 137) dX6_breaks_137 rfl ?_
      refine v_if_ne (pc := 139) (tgt := 146) dX6_breaks_139 (by decide) (fun c_139 => ?_) (fun c_139 => ?_)
      · refine v_ldc2 (pc := 146) ckX6_213 dX6_breaks_146 ?_
        refine v_lmul (pc := 149) dX6_breaks_149 ?_
        refine v_lst_8 (pc := 150) dX6_breaks_150 (by decide) rfl ?_
        refine v_inc_10 (pc := 152) (v := 1) dX6_breaks_152 (by decide) (by decide) rfl ?_
        refine v_goto (pc := 155) (tgt := 73) dX6_breaks_155 (by decide) ?_
        refine v_fg_11 (v_fg_12 ?_)
        rw [nI_1]
        have h1 : bs1 x u (J 48) i (itN (bs1 x u (J 48)) 0 i) = (itN (bs1 x u (J 48)) 0 i) + J 48 i * (mnZ x i).toInt64 := if_pos c_98
        have h2 : al1 i (itN al1 1 i) = (itN al1 1 i) * 10 := if_neg c_139
        have e9 := ih (i + 1) (by omega)
        rw [itN_s _ _ i, itN_s _ _ i, h1, h2] at e9
        rw [hcl]
        exact e9
      · refine v_lconst (pc := 142) (v := 1) (by decide) dX6_breaks_142 ?_
        refine v_goto (pc := 143) (tgt := 149) dX6_breaks_143 (by decide) ?_
        refine v_lmul (pc := 149) dX6_breaks_149 ?_
        refine v_lst_8 (pc := 150) dX6_breaks_150 (by decide) rfl ?_
        refine v_inc_10 (pc := 152) (v := 1) dX6_breaks_152 (by decide) (by decide) rfl ?_
        refine v_goto (pc := 155) (tgt := 73) dX6_breaks_155 (by decide) ?_
        refine v_fg_11 (v_fg_12 ?_)
        rw [nI_1]
        have h1 : bs1 x u (J 48) i (itN (bs1 x u (J 48)) 0 i) = (itN (bs1 x u (J 48)) 0 i) + J 48 i * (mnZ x i).toInt64 := if_pos c_98
        have h2 : al1 i (itN al1 1 i) = (itN al1 1 i) * 1 := if_pos c_139
        have e9 := ih (i + 1) (by omega)
        rw [itN_s _ _ i, itN_s _ _ i, h1, h2] at e9
        rw [hcl]
        exact e9

set_option maxRecDepth 100000 in
set_option maxHeartbeats 4000000 in
theorem c_breaks {x y z u v : Int32} {M : mM} {J : mJ}  : Ct yX6_breaks cX6_breaks 13 (some .long) (rmD 1) false [.ref 0, .int x, .int y, .int z, .int u, .int v] LY M J (mNl LY (fun r0 M1 J1 => r0 = (if ((1 ≤ x ∧ x ≤ 9) ∧ (0 ≤ y ∧ y ≤ 6) ∧ (0 ≤ z ∧ z ≤ 10) ∧ (0 ≤ u ∧ u ≤ 1) ∧ (0 ≤ v ∧ v ≤ 1)) then brT x y z u v (cbAll z J y.toNatClampNeg 48) else -1000000000000000002) ∧ M1 = M ∧ J1 = (if ((1 ≤ x ∧ x ≤ 9) ∧ (0 ≤ y ∧ y ≤ 6) ∧ (0 ≤ z ∧ z ≤ 10) ∧ (0 ≤ u ∧ u ≤ 1) ∧ (0 ≤ v ∧ v ≤ 1)) then cbAll z J y.toNatClampNeg else J))) := by
  refine ct_of (own := RX6) (ini := false) (ls := [some (.ref 0), some (.int x), some (.int y), some (.int z), some (.int u), some (.int v), none, none, none, none, none, none, none]) 7 (by decide +kernel) rfl (fun h => by cases h) rfl (fun ad => by first | exact Nat.le_of_ble_eq_true rfl) ?_
  refine v_iload_n (pc := 0) dX6_breaks_0 rfl ?_
  refine v_iconst (pc := 1) (v := 1) (by decide) dX6_breaks_1 ?_
  refine v_bipush (pc := 2) (v := 9) (by decide) dX6_breaks_2 ?_
  refine v_cS3i (pc := 4) dX6_breaks_4 mkX6_49 c_within (Nat.le_of_ble_eq_true rfl) rfl (Nat.zero_le _) (Nat.zero_le _) (fun r_4 M_4 J_4 h_4 => ?_)
  obtain ⟨e1_4, e2_4, e3_4⟩ := h_4
  replace e1_4 := e1_4.symm
  replace e2_4 := e2_4.symm
  replace e3_4 := e3_4.symm
  subst e1_4 e2_4 e3_4
  refine v_if_eq (pc := 7) (tgt := 30) dX6_breaks_7 (by decide) (fun c_7 => ?_) (fun c_7 => ?_)
  · refine v_ldc2 (pc := 30) ckX6_204 dX6_breaks_30 ?_
    refine v_lret (pc := 33) dX6_breaks_33 (Nat.zero_le _) (Nat.zero_le _) ?_
    exact ⟨by rw [if_neg (fun q => bI_0.mp c_7 q.1)], rfl, by rw [if_neg (fun q => bI_0.mp c_7 q.1)]⟩
  · refine v_iload_n (pc := 10) dX6_breaks_10 rfl ?_
    refine v_iconst (pc := 11) (v := 0) (by decide) dX6_breaks_11 ?_
    refine v_bipush (pc := 12) (v := 6) (by decide) dX6_breaks_12 ?_
    refine v_cS3i (pc := 14) dX6_breaks_14 mkX6_49 c_within (Nat.le_of_ble_eq_true rfl) rfl (Nat.zero_le _) (Nat.zero_le _) (fun r_14 M_14 J_14 h_14 => ?_)
    obtain ⟨e1_14, e2_14, e3_14⟩ := h_14
    replace e1_14 := e1_14.symm
    replace e2_14 := e2_14.symm
    replace e3_14 := e3_14.symm
    subst e1_14 e2_14 e3_14
    refine v_if_eq (pc := 17) (tgt := 30) dX6_breaks_17 (by decide) (fun c_17 => ?_) (fun c_17 => ?_)
    · refine v_ldc2 (pc := 30) ckX6_204 dX6_breaks_30 ?_
      refine v_lret (pc := 33) dX6_breaks_33 (Nat.zero_le _) (Nat.zero_le _) ?_
      exact ⟨by rw [if_neg (fun q => bI_0.mp c_17 q.2.1)], rfl, by rw [if_neg (fun q => bI_0.mp c_17 q.2.1)]⟩
    · refine v_iload_n (pc := 20) dX6_breaks_20 rfl ?_
      refine v_iconst (pc := 21) (v := 0) (by decide) dX6_breaks_21 ?_
      refine v_bipush (pc := 22) (v := 10) (by decide) dX6_breaks_22 ?_
      refine v_cS3i (pc := 24) dX6_breaks_24 mkX6_49 c_within (Nat.le_of_ble_eq_true rfl) rfl (Nat.zero_le _) (Nat.zero_le _) (fun r_24 M_24 J_24 h_24 => ?_)
      obtain ⟨e1_24, e2_24, e3_24⟩ := h_24
      replace e1_24 := e1_24.symm
      replace e2_24 := e2_24.symm
      replace e3_24 := e3_24.symm
      subst e1_24 e2_24 e3_24
      refine v_if_ne (pc := 27) (tgt := 34) dX6_breaks_27 (by decide) (fun c_27 => ?_) (fun c_27 => ?_)
      · refine v_iload (pc := 34) dX6_breaks_34 rfl ?_
        refine v_iconst (pc := 36) (v := 0) (by decide) dX6_breaks_36 ?_
        refine v_iconst (pc := 37) (v := 1) (by decide) dX6_breaks_37 ?_
        refine v_cS3i (pc := 38) dX6_breaks_38 mkX6_49 c_within (Nat.le_of_ble_eq_true rfl) rfl (Nat.zero_le _) (Nat.zero_le _) (fun r_38 M_38 J_38 h_38 => ?_)
        obtain ⟨e1_38, e2_38, e3_38⟩ := h_38
        replace e1_38 := e1_38.symm
        replace e2_38 := e2_38.symm
        replace e3_38 := e3_38.symm
        subst e1_38 e2_38 e3_38
        refine v_if_eq (pc := 41) (tgt := 54) dX6_breaks_41 (by decide) (fun c_41 => ?_) (fun c_41 => ?_)
        · refine v_ldc2 (pc := 54) ckX6_204 dX6_breaks_54 ?_
          refine v_lret (pc := 57) dX6_breaks_57 (Nat.zero_le _) (Nat.zero_le _) ?_
          exact ⟨by rw [if_neg (fun q => bI_0.mp c_41 q.2.2.2.1)], rfl, by rw [if_neg (fun q => bI_0.mp c_41 q.2.2.2.1)]⟩
        · refine v_iload (pc := 44) dX6_breaks_44 rfl ?_
          refine v_iconst (pc := 46) (v := 0) (by decide) dX6_breaks_46 ?_
          refine v_iconst (pc := 47) (v := 1) (by decide) dX6_breaks_47 ?_
          refine v_cS3i (pc := 48) dX6_breaks_48 mkX6_49 c_within (Nat.le_of_ble_eq_true rfl) rfl (Nat.zero_le _) (Nat.zero_le _) (fun r_48 M_48 J_48 h_48 => ?_)
          obtain ⟨e1_48, e2_48, e3_48⟩ := h_48
          replace e1_48 := e1_48.symm
          replace e2_48 := e2_48.symm
          replace e3_48 := e3_48.symm
          subst e1_48 e2_48 e3_48
          refine v_if_ne (pc := 51) (tgt := 58) dX6_breaks_51 (by decide) (fun c_51 => ?_) (fun c_51 => ?_)
          · have hG : ((1 ≤ x ∧ x ≤ 9) ∧ (0 ≤ y ∧ y ≤ 6) ∧ (0 ≤ z ∧ z ≤ 10) ∧ (0 ≤ u ∧ u ≤ 1) ∧ (0 ≤ v ∧ v ≤ 1)) := ⟨bI_n0.mp c_7, bI_n0.mp c_17, bI_n0.mp c_27, bI_n0.mp c_41, bI_n0.mp c_51⟩
            rw [if_pos hG, if_pos hG]
            obtain ⟨m, hm, rfl⟩ := rngN (a := 0) (n := 6) rfl rfl (by omega) hG.2.1.1 hG.2.1.2
            have hcm := nI_clamp (show 0 + m < 2 ^ 31 by omega)
            refine v_aload_n (pc := 58) dX6_breaks_58 rfl ?_
            refine v_iload_n (pc := 59) dX6_breaks_59 rfl ?_
            refine v_iload_n (pc := 60) dX6_breaks_60 rfl ?_
            refine v_cV2v (pc := 61) dX6_breaks_61 mkX6_206 (c_cb (m := 0 + m) (by omega)) ly0 rfl (Nat.le_of_ble_eq_true rfl) rfl (Nat.zero_le _) (Nat.zero_le _) (fun M_61 J_61 h_61 => ?_)
            obtain ⟨e2_61, e3_61⟩ := h_61
            replace e2_61 := e2_61.symm
            replace e3_61 := e3_61.symm
            subst e2_61 e3_61
            refine v_lconst (pc := 64) (v := 0) (by decide) dX6_breaks_64 ?_
            refine v_lst_6 (pc := 65) dX6_breaks_65 (by decide) rfl ?_
            refine v_lconst (pc := 67) (v := 1) (by decide) dX6_breaks_67 ?_
            refine v_lst_8 (pc := 68) dX6_breaks_68 (by decide) rfl ?_
            refine v_iconst (pc := 70) (v := 0) (by decide) dX6_breaks_70 ?_
            refine v_ist_10 (pc := 71) dX6_breaks_71 (by decide) rfl ?_
            refine V.mono (fun o a b c q => ?_) (l_brk (x := x) (z := z) (u := u) (v := v) (m := 0 + m) (by omega) (0 + m + 1) 0 rfl)
            unfold brT
            rw [hcm]
            exact q
          · refine v_ldc2 (pc := 54) ckX6_204 dX6_breaks_54 ?_
            refine v_lret (pc := 57) dX6_breaks_57 (Nat.zero_le _) (Nat.zero_le _) ?_
            exact ⟨by rw [if_neg (fun q => bI_0.mp c_51 q.2.2.2.2)], rfl, by rw [if_neg (fun q => bI_0.mp c_51 q.2.2.2.2)]⟩
      · refine v_ldc2 (pc := 30) ckX6_204 dX6_breaks_30 ?_
        refine v_lret (pc := 33) dX6_breaks_33 (Nat.zero_le _) (Nat.zero_le _) ?_
        exact ⟨by rw [if_neg (fun q => bI_0.mp c_27 q.2.2.1)], rfl, by rw [if_neg (fun q => bI_0.mp c_27 q.2.2.1)]⟩
