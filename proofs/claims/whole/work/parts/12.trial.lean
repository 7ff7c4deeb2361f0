/-! what a sitting does to the trial lagoon (cells 38 to 43) -/
theorem sm7 {i : Nat} (h : i < 7) : (0 : Int32) ≤ nI i ∧ nI i ≤ 6 := by
  have : i = 0 ∨ i = 1 ∨ i = 2 ∨ i = 3 ∨ i = 4 ∨ i = 5 ∨ i = 6 := by omega
  rcases this with rfl | rfl | rfl | rfl | rfl | rfl | rfl <;> decide
def nbit (x : Int32) : Int32 := ((1 : Int32) <<< (x &&& 31)) ^^^ (-1)
def pst (M : mM) (k : Nat) : mM := if bt (M 38 4) (nI k) then (if M 40 k = 0 then mU M 38 4 (M 38 4 &&& nbit (nI k)) else mU M 40 k (M 40 k - 1)) else M
def psN (M : mM) : Nat → mM
  | 0 => M
  | n + 1 => pst (psN M n) n
def fPass (M : mM) : mM := if M 38 7 < 99 then psN (mU M 38 7 (M 38 7 + 1)) 7 else M

set_option maxRecDepth 100000 in
set_option maxHeartbeats 4000000 in
theorem l_pass {M : mM} {J : mJ} : ∀ (n i : Nat), n + i = 7 → V RX2 cX2_passMinute 2 (some .int) false (rmD 1) false LY.length none (mNi LY (fun r0 M1 J1 => r0 = 0 ∧ M1 = psN M 7 ∧ J1 = J)) 0 0 23 [some (.ref 38), some (.int (nI i))] [] LY (psN M i) J := by
  intro n
  induction n with
  | zero =>
    intro i hi
    obtain rfl : i = 7 := by omega
    refine v_iload_n (pc := 23) dX2_passMinute_23 rfl ?_
    refine v_bipush (pc := 24) (v := 7) (by decide) dX2_passMinute_24 ?_
    refine v_icmp_ge (pc := 26) (tgt := 82) dX2_passMinute_26 (by decide) (fun c_26 => ?_) (fun c_26 => absurd (by decide) c_26)
    refine v_iconst (pc := 82) (v := 0) (by decide) dX2_passMinute_82 ?_
    refine v_iret (pc := 83) dX2_passMinute_83 (Nat.zero_le _) (Nat.zero_le _) ?_
    exact ⟨rfl, rfl, rfl⟩
  | succ n ih =>
    intro i hi
    have hb7 : i < 7 := by omega
    have hc : ¬ (7 : Int32) ≤ nI i := nI_ge (b := 7) hb7 (by omega)
    refine v_iload_n (pc := 23) dX2_passMinute_23 rfl ?_
    refine v_bipush (pc := 24) (v := 7) (by decide) dX2_passMinute_24 ?_
    refine v_icmp_ge (pc := 26) (tgt := 82) dX2_passMinute_26 (by decide) (fun c_26 => absurd c_26 (hc)) (fun c_26 => ?_)
    refine v_aload_n (pc := 29) dX2_passMinute_29 rfl ?_
    refine v_iload_n (pc := 30) dX2_passMinute_30 rfl ?_
    refine v_cV1i (pc := 31) dX2_passMinute_31 mkX2_48 (c_isBelow ly38) ly38 rfl (Nat.le_of_ble_eq_true rfl) rfl (Nat.zero_le _) (Nat.zero_le _) (fun r_31 M_31 J_31 h_31 => ?_)
    obtain ⟨e1_31, e2_31, e3_31⟩ := h_31
    replace e1_31 := e1_31.symm
    replace e2_31 := e2_31.symm
    replace e3_31 := e3_31.symm
    subst e1_31 e2_31 e3_31
    refine v_if_ne (pc := 34) (tgt := 40) dX2_passMinute_34 (by decide) (fun c_34 => ?_) (fun c_34 => ?_)
    · refine v_aload_n (pc := 40) dX2_passMinute_40 rfl ?_
      refine v_getR (pc := 41) fkX2_15 ly38 rfl dX2_passMinute_41 ?_
      refine v_iload_n (pc := 44) dX2_passMinute_44 rfl ?_
      refine v_iald (pc := 45) ly40 ?_ dX2_passMinute_45 ?_
      · exact vp_in_nI hb7 (by omega)
      refine v_if_ne (pc := 46) (tgt := 66) dX2_passMinute_46 (by decide) (fun c_46 => ?_) (fun c_46 => ?_)
      · refine v_aload_n (pc := 66) dX2_passMinute_66 rfl ?_
        refine v_getR (pc := 67) fkX2_15 ly38 rfl dX2_passMinute_67 ?_
        refine v_iload_n (pc := 70) dX2_passMinute_70 rfl ?_
        refine v_dup2IR (pc := 71) dX2_passMinute_71 ?_
        refine v_iald (pc := 72) ly40 ?_ dX2_passMinute_72 ?_
        · exact vp_in_nI hb7 (by omega)
        refine v_iconst (pc := 73) (v := 1) (by decide) dX2_passMinute_73 ?_
        refine v_isub (pc := 74) dX2_passMinute_74 ?_
        refine v_iast (pc := 75) ly40 ?_ dX2_passMinute_75 ?_
        · exact vp_in_nI hb7 (by omega)
        refine v_inc_1 (pc := 76) (v := 1) dX2_passMinute_76 (by decide) (by decide) rfl ?_
        refine v_goto (pc := 79) (tgt := 23) dX2_passMinute_79 (by decide) ?_
        have hs := sm7 hb7
        have e9 := ih (i + 1) (by omega)
        rw [show psN M (i + 1) = pst (psN M i) i from rfl] at e9
        unfold pst at e9
        rw [nI_1]
        try rw [nI_clamp (show i < 2 ^ 31 by omega)]
        first
          | (rw [if_pos (bI_n0.mp c_34).2.2, if_neg (by rw [nI_clamp (show i < 2 ^ 31 by omega)] at c_46; exact c_46)] at e9; exact e9)
          | (rw [if_pos (bI_n0.mp c_34).2.2, if_pos (by rw [nI_clamp (show i < 2 ^ 31 by omega)] at c_46; exact c_46)] at e9; exact e9)
          | (rw [if_neg (fun q => bI_0.mp c_34 ⟨hs.1, hs.2, q⟩)] at e9; exact e9)
      · refine v_aload_n (pc := 49) dX2_passMinute_49 rfl ?_
        refine v_dupR (pc := 50) dX2_passMinute_50 ?_
        refine v_getI (pc := 51) fkX2_32 ly38 rfl dX2_passMinute_51 ?_
        refine v_iconst (pc := 54) (v := 1) (by decide) dX2_passMinute_54 ?_
        refine v_iload_n (pc := 55) dX2_passMinute_55 rfl ?_
        refine v_ishl (pc := 56) dX2_passMinute_56 ?_
        refine v_iconst (pc := 57) (v := (-1)) (by decide) dX2_passMinute_57 ?_
        refine v_ixor (pc := 58) dX2_passMinute_58 ?_
        refine v_iand (pc := 59) dX2_passMinute_59 ?_
        refine v_putI (pc := 60) fkX2_32p ly38 rfl dX2_passMinute_60 ?_
        refine v_goto (pc := 63) (tgt := 76) dX2_passMinute_63 (by decide) ?_
        refine v_inc_1 (pc := 76) (v := 1) dX2_passMinute_76 (by decide) (by decide) rfl ?_
        refine v_goto (pc := 79) (tgt := 23) dX2_passMinute_79 (by decide) ?_
        have hs := sm7 hb7
        have e9 := ih (i + 1) (by omega)
        rw [show psN M (i + 1) = pst (psN M i) i from rfl] at e9
        unfold pst at e9
        rw [nI_1]
        try rw [nI_clamp (show i < 2 ^ 31 by omega)]
        first
          | (rw [if_pos (bI_n0.mp c_34).2.2, if_neg (by rw [nI_clamp (show i < 2 ^ 31 by omega)] at c_46; exact c_46)] at e9; exact e9)
          | (rw [if_pos (bI_n0.mp c_34).2.2, if_pos (by rw [nI_clamp (show i < 2 ^ 31 by omega)] at c_46; exact c_46)] at e9; exact e9)
          | (rw [if_neg (fun q => bI_0.mp c_34 ⟨hs.1, hs.2, q⟩)] at e9; exact e9)
    · refine v_goto (pc := 37) (tgt := 76) dX2_passMinute_37 (by decide) ?_
      refine v_inc_1 (pc := 76) (v := 1) dX2_passMinute_76 (by decide) (by decide) rfl ?_
      refine v_goto (pc := 79) (tgt := 23) dX2_passMinute_79 (by decide) ?_
      have hs := sm7 hb7
      have e9 := ih (i + 1) (by omega)
      rw [show psN M (i + 1) = pst (psN M i) i from rfl] at e9
      unfold pst at e9
      rw [nI_1]
      try rw [nI_clamp (show i < 2 ^ 31 by omega)]
      first
        | (rw [if_pos (bI_n0.mp c_34).2.2, if_neg (by rw [nI_clamp (show i < 2 ^ 31 by omega)] at c_46; exact c_46)] at e9; exact e9)
        | (rw [if_pos (bI_n0.mp c_34).2.2, if_pos (by rw [nI_clamp (show i < 2 ^ 31 by omega)] at c_46; exact c_46)] at e9; exact e9)
        | (rw [if_neg (fun q => bI_0.mp c_34 ⟨hs.1, hs.2, q⟩)] at e9; exact e9)

theorem V.mono {own : String} {cc : ByteArray} {nL : Nat} {ret : Option FieldType} {ini : Bool} {R : Room} {al : Bool} {nb : Nat} {X : Option (Nat × (Nat → Int32))} {Q Q2 : mQt} {kc ks pc : Nat} {ls : List (Option Value)} {st : List Value} {ly : List mEn} {M : mM} {J : mJ} (h : ∀ o a b c, Q o a b c → Q2 o a b c) (v : V own cc nL ret ini R al nb X Q kc ks pc ls st ly M J) : V own cc nL ret ini R al nb X Q2 kc ks pc ls st ly M J := by
  intro p l e s m args below meth c D dA A ad0 ad Z H locs la C E g1 g2 g3 g4 g5
  exact v p l e s m args below meth c D dA A ad0 ad Z H locs la C (fun o ly' M' J' ad' H' locs' la' pc' hQ => E o ly' M' J' ad' H' locs' la' pc' (h o ly' M' J' hQ)) g1 g2 g3 g4 g5

set_option maxRecDepth 100000 in
set_option maxHeartbeats 4000000 in
theorem c_pass  {M : mM} {J : mJ}  : Ct yX2_passMinute cX2_passMinute 2 (some .int) (rmD 1) false [.ref 38] LY M J (mNi LY (fun r0 M1 J1 => r0 = (if M 38 7 < 99 then 0 else 4) ∧ M1 = fPass M ∧ J1 = J)) := by
  refine ct_of (own := RX2) (ini := false) (ls := [some (.ref 38), none]) 1 (by decide +kernel) rfl (fun h => by cases h) rfl (fun ad => by first | exact Nat.le_of_ble_eq_true rfl) ?_
  refine v_aload_n (pc := 0) dX2_passMinute_0 rfl ?_
  refine v_getI (pc := 1) fkX2_62 ly38 rfl dX2_passMinute_1 ?_
  refine v_bipush (pc := 4) (v := 99) (by decide) dX2_passMinute_4 ?_
  refine v_icmp_lt (pc := 6) (tgt := 11) dX2_passMinute_6 (by decide) (fun c_6 => ?_) (fun c_6 => ?_)
  · refine v_aload_n (pc := 11) dX2_passMinute_11 rfl ?_
    refine v_dupR (pc := 12) dX2_passMinute_12 ?_
    refine v_getI (pc := 13) fkX2_62 ly38 rfl dX2_passMinute_13 ?_
    refine v_iconst (pc := 16) (v := 1) (by decide) dX2_passMinute_16 ?_
    refine v_iadd (pc := 17) dX2_passMinute_17 ?_
    refine v_putI (pc := 18) fkX2_62p ly38 rfl dX2_passMinute_18 ?_
    refine v_iconst (pc := 21) (v := 0) (by decide) dX2_passMinute_21 ?_
    refine v_ist_1 (pc := 22) dX2_passMinute_22 (by decide) rfl ?_
    refine V.mono (fun o a b c q => ?_) (l_pass (M := mU M 38 7 (M 38 7 + 1)) (J := J) 7 0 rfl)
    obtain ⟨q1, r, q2, q3, q4, q5⟩ := q
    exact ⟨q1, r, q2, by rw [if_pos c_6]; exact q3, by unfold fPass; rw [if_pos c_6]; exact q4, q5⟩
  · refine v_iconst (pc := 9) (v := 4) (by decide) dX2_passMinute_9 ?_
    refine v_iret (pc := 10) dX2_passMinute_10 (Nat.zero_le _) (Nat.zero_le _) ?_
    exact ⟨by rw [if_neg c_6], by unfold fPass; rw [if_neg c_6], rfl⟩

def rmS (M : mM) (i : Nat) : mM := fun u b => if (u = 42 ∨ u = 43) ∧ i < b ∧ b ≤ 31 then M u (b - 1) else M u b
theorem rmS_31 {M : mM} : rmS M 31 = M := by
  funext u b
  simp only [rmS]
  rw [if_neg (by omega)]
theorem rmS_step {M : mM} {i : Nat} (h : i < 31) : mU (mU (rmS M (i + 1)) 42 (i + 1) (rmS M (i + 1) 42 i)) 43 (i + 1) (mU (rmS M (i + 1)) 42 (i + 1) (rmS M (i + 1) 42 i) 43 i) = rmS M i := by
  funext u b
  simp only [rmS, mU]
  by_cases h43 : u = 43
  · subst h43
    by_cases hb : b = i + 1
    · subst hb
      have q1 : ¬ ((43 : Nat) = 42 ∧ i = i + 1) := by omega
      have q2 : ¬ (((43 : Nat) = 42 ∨ (43 : Nat) = 43) ∧ i + 1 < i ∧ i ≤ 31) := by omega
      have q3 : ((43 : Nat) = 42 ∨ (43 : Nat) = 43) ∧ i < i + 1 ∧ i + 1 ≤ 31 := by omega
      have q0 : (43 : Nat) = 43 ∧ i + 1 = i + 1 := by omega
      rw [if_pos q0, if_neg q1, if_neg (by rintro ⟨-, q, -⟩; omega), if_pos q3]
      rfl
    · simp [hb]
      by_cases g : i + 1 < b ∧ b ≤ 31
      · rw [if_pos g, if_pos (by omega)]
      · rw [if_neg g, if_neg (by omega)]
  · by_cases h42 : u = 42
    · subst h42
      by_cases hb : b = i + 1
      · subst hb
        have q0 : ¬ ((42 : Nat) = 43 ∧ i + 1 = i + 1) := by omega
        have q2 : ¬ (((42 : Nat) = 42 ∨ (42 : Nat) = 43) ∧ i + 1 < i ∧ i ≤ 31) := by omega
        have q3 : ((42 : Nat) = 42 ∨ (42 : Nat) = 43) ∧ i < i + 1 ∧ i + 1 ≤ 31 := by omega
        have q9 : (42 : Nat) = 42 ∧ i + 1 = i + 1 := by omega
        rw [if_neg q0, if_pos q9, if_neg (by rintro ⟨-, q, -⟩; omega), if_pos q3]
        rfl
      · simp [hb]
        by_cases g : i + 1 < b ∧ b ≤ 31
        · rw [if_pos g, if_pos (by omega)]
        · rw [if_neg g, if_neg (by omega)]
    · simp [h42, h43]
theorem fLe {a b : Nat} (h : b < a) (ha : a < 2 ^ 31) : ¬ nI a ≤ nI b := nI_ge h ha

set_option maxRecDepth 100000 in
set_option maxHeartbeats 4000000 in
theorem l_room {a : Nat} (h31 : a ≤ 31) {M : mM} {J : mJ} : ∀ (n i : Nat), i = a + n → i ≤ 31 → V RX0 cX0_makeRoom 3 none false (rmD 0) false LY.length none (mNv LY (fun M1 J1 => M1 = mU (rmS M a) 41 2 (M 41 2 + 1) ∧ J1 = J)) 0 0 3 [some (.ref 41), some (.int (nI a)), some (.int (nI i))] [] LY (rmS M i) J := by
  intro n
  induction n with
  | zero =>
    intro i hi hi2
    obtain rfl : i = a := by omega
    refine v_iload_n (pc := 3) dX0_makeRoom_3 rfl ?_
    refine v_iload_n (pc := 4) dX0_makeRoom_4 rfl ?_
    refine v_icmp_le (pc := 5) (tgt := 46) dX0_makeRoom_5 (by decide) (fun c_5 => ?_) (fun c_5 => absurd (nI_le (Nat.le_refl i) (by omega)) c_5)
    refine v_aload_n (pc := 46) dX0_makeRoom_46 rfl ?_
    refine v_dupR (pc := 47) dX0_makeRoom_47 ?_
    refine v_getI (pc := 48) fkX0_18 ly41 rfl dX0_makeRoom_48 ?_
    refine v_iconst (pc := 51) (v := 1) (by decide) dX0_makeRoom_51 ?_
    refine v_iadd (pc := 52) dX0_makeRoom_52 ?_
    refine v_putI (pc := 53) fkX0_18p ly41 rfl dX0_makeRoom_53 ?_
    refine v_vret (pc := 56) dX0_makeRoom_56 (Nat.zero_le _) (Nat.zero_le _) ?_
    exact ⟨rfl, rfl⟩
  | succ n ih =>
    intro i hi hi2
    obtain ⟨i, rfl⟩ : ∃ j, i = j + 1 := ⟨i - 1, by omega⟩
    have hp : nI (i + 1) + (-1) = nI i := pk_m1 i
    have hq : nI (i + 1) - 1 = nI i := nI_pred i
    refine v_iload_n (pc := 3) dX0_makeRoom_3 rfl ?_
    refine v_iload_n (pc := 4) dX0_makeRoom_4 rfl ?_
    refine v_icmp_le (pc := 5) (tgt := 46) dX0_makeRoom_5 (by decide) (fun c_5 => absurd c_5 (fLe (show a < i + 1 by omega) (by omega))) (fun c_5 => ?_)
    refine v_iload_n (pc := 8) dX0_makeRoom_8 rfl ?_
    refine v_if_le (pc := 9) (tgt := 46) dX0_makeRoom_9 (by decide) (fun c_9 => absurd c_9 (nI_nle (show 0 < i + 1 by omega) (by omega))) (fun c_9 => ?_)
    refine v_aload_n (pc := 12) dX0_makeRoom_12 rfl ?_
    refine v_getR (pc := 13) fkX0_9 ly41 rfl dX0_makeRoom_13 ?_
    refine v_iload_n (pc := 16) dX0_makeRoom_16 rfl ?_
    refine v_aload_n (pc := 17) dX0_makeRoom_17 rfl ?_
    refine v_getR (pc := 18) fkX0_9 ly41 rfl dX0_makeRoom_18 ?_
    refine v_iload_n (pc := 21) dX0_makeRoom_21 rfl ?_
    refine v_iconst (pc := 22) (v := 1) (by decide) dX0_makeRoom_22 ?_
    refine v_isub (pc := 23) dX0_makeRoom_23 ?_
    refine v_iald (pc := 24) ly42 ?_ dX0_makeRoom_24 ?_
    · rw [hq]; exact vp_in_nI (show i < 32 by omega) (by omega)
    refine v_iast (pc := 25) ly42 ?_ dX0_makeRoom_25 ?_
    · exact vp_in_nI (show i + 1 < 32 by omega) (by omega)
    refine v_aload_n (pc := 26) dX0_makeRoom_26 rfl ?_
    refine v_getR (pc := 27) fkX0_15 ly41 rfl dX0_makeRoom_27 ?_
    refine v_iload_n (pc := 30) dX0_makeRoom_30 rfl ?_
    refine v_aload_n (pc := 31) dX0_makeRoom_31 rfl ?_
    refine v_getR (pc := 32) fkX0_15 ly41 rfl dX0_makeRoom_32 ?_
    refine v_iload_n (pc := 35) dX0_makeRoom_35 rfl ?_
    refine v_iconst (pc := 36) (v := 1) (by decide) dX0_makeRoom_36 ?_
    refine v_isub (pc := 37) dX0_makeRoom_37 ?_
    refine v_iald (pc := 38) ly43 ?_ dX0_makeRoom_38 ?_
    · rw [hq]; exact vp_in_nI (show i < 32 by omega) (by omega)
    refine v_iast (pc := 39) ly43 ?_ dX0_makeRoom_39 ?_
    · exact vp_in_nI (show i + 1 < 32 by omega) (by omega)
    refine v_inc_2 (pc := 40) (v := (-1)) dX0_makeRoom_40 (by decide) (by decide) rfl ?_
    refine v_goto (pc := 43) (tgt := 3) dX0_makeRoom_43 (by decide) ?_
    rw [hp, hq, nI_clamp (show i < 2 ^ 31 by omega), nI_clamp (show i + 1 < 2 ^ 31 by omega), rmS_step (by omega)]
    exact ih i (by omega) (by omega)

set_option maxRecDepth 100000 in
set_option maxHeartbeats 4000000 in
theorem c_room {a : Nat} {M : mM} {J : mJ} (h31 : a ≤ 31) : Ct yX0_makeRoom cX0_makeRoom 3 none (rmD 0) false [.ref 41, .int (nI a)] LY M J (mNv LY (fun M1 J1 => M1 = mU (rmS M a) 41 2 (M 41 2 + 1) ∧ J1 = J)) := by
  refine ct_of (own := RX0) (ini := false) (ls := [some (.ref 41), some (.int (nI a)), none]) 1 (by decide +kernel) rfl (fun h => by cases h) rfl (fun ad => by first | exact Nat.le_of_ble_eq_true rfl) ?_
  refine v_bipush (pc := 0) (v := 31) (by decide) dX0_makeRoom_0 ?_
  refine v_ist_2 (pc := 2) dX0_makeRoom_2 (by decide) rfl ?_
  have e9 := l_room h31 (M := M) (J := J) (31 - a) 31 (by omega) (by omega)
  rw [rmS_31] at e9
  exact e9

/-- the first place from i on, at most n further, whose key is not below -/
def fat (K : Nat → Int32) (key : Int32) : Nat → Nat → Nat
  | 0, i => i
  | n + 1, i => if K i < key then fat K key n (i + 1) else i
theorem fat_le (K : Nat → Int32) (key : Int32) : ∀ n i, fat K key n i ≤ i + n ∧ i ≤ fat K key n i
  | 0, i => ⟨Nat.le_refl _, Nat.le_refl _⟩
  | n + 1, i => by
    unfold fat
    split
    · have h := fat_le K key n (i + 1)
      omega
    · omega
def fAdd (M : mM) (key z : Int32) : mM :=
  let wd := (M 41 2).toNatClampNeg
  let j := fat (M 42) key wd 0
  let M1 := if j = wd ∨ ¬ M 42 j = key then mU (mU (mU (rmS M j) 41 2 (M 41 2 + 1)) 42 j key) 43 j 0 else M
  mU (mU M1 43 j (M1 43 j + z)) 41 3 (M 41 3 + 1)
def fAdd0 (M : mM) (wd : Nat) (key z : Int32) (j : Nat) : mM :=
  let M1 := if j = wd ∨ ¬ M 42 j = key then mU (mU (mU (rmS M j) 41 2 (M 41 2 + 1)) 42 j key) 43 j 0 else M
  mU (mU M1 43 j (M1 43 j + z)) 41 3 (M 41 3 + 1)
theorem fAdd_eq {M : mM} {wd : Nat} {key z : Int32} (h : M 41 2 = nI wd) (hw : wd ≤ 32) : fAdd M key z = fAdd0 M wd key z (fat (M 42) key wd 0) := by
  unfold fAdd fAdd0
  rw [h, nI_clamp (by omega)]

set_option maxRecDepth 100000 in
set_option maxHeartbeats 4000000 in
theorem l_add2 {t q z : Int32} {wd nb j : Nat} {M : mM} {J : mJ} (hw : M 41 2 = nI wd) (hb : M 41 3 = nI nb) (hwb : wd ≤ nb) (hnb : nb < 32) (hj : fat (M 42) (t * 10 + q) wd 0 = j) : V RX0 cX0_add 6 none false (rmD 1) false LY.length none (mNv LY (fun M1 J1 => M1 = fAdd M (t * 10 + q) z ∧ J1 = J)) 0 0 55 [some (.ref 41), some (.int t), some (.int q), some (.int z), some (.int (t * 10 + q)), some (.int (nI j))] [] LY M J := by
  have hle := fat_le (M 42) (t * 10 + q) wd 0
  have hj31 : j < 32 := by omega
  have hcl := nI_clamp (show j < 2 ^ 31 by omega)
  refine v_iload (pc := 55) dX0_add_55 rfl ?_
  refine v_aload_n (pc := 57) dX0_add_57 rfl ?_
  refine v_getI (pc := 58) fkX0_18 ly41 rfl dX0_add_58 ?_
  refine v_icmp_eq (pc := 61) (tgt := 76) dX0_add_61 (by decide) (fun c_61 => ?_) (fun c_61 => ?_)
  · refine v_aload_n (pc := 76) dX0_add_76 rfl ?_
    refine v_iload (pc := 77) dX0_add_77 rfl ?_
    refine v_cV1v (pc := 79) dX0_add_79 mkX0_25 (c_room (a := j) (by omega)) ly41 rfl (Nat.le_of_ble_eq_true rfl) rfl (Nat.zero_le _) (Nat.zero_le _) (fun M_79 J_79 h_79 => ?_)
    obtain ⟨e2_79, e3_79⟩ := h_79
    replace e2_79 := e2_79.symm
    replace e3_79 := e3_79.symm
    subst e2_79 e3_79
    refine v_aload_n (pc := 82) dX0_add_82 rfl ?_
    refine v_getR (pc := 83) fkX0_9 ly41 rfl dX0_add_83 ?_
    refine v_iload (pc := 86) dX0_add_86 rfl ?_
    refine v_iload (pc := 88) dX0_add_88 rfl ?_
    refine v_iast (pc := 90) ly42 ?_ dX0_add_90 ?_
    · exact vp_in_nI hj31 (by omega)
    refine v_aload_n (pc := 91) dX0_add_91 rfl ?_
    refine v_getR (pc := 92) fkX0_15 ly41 rfl dX0_add_92 ?_
    refine v_iload (pc := 95) dX0_add_95 rfl ?_
    refine v_iconst (pc := 97) (v := 0) (by decide) dX0_add_97 ?_
    refine v_iast (pc := 98) ly43 ?_ dX0_add_98 ?_
    · exact vp_in_nI hj31 (by omega)
    refine v_aload_n (pc := 99) dX0_add_99 rfl ?_
    refine v_getR (pc := 100) fkX0_15 ly41 rfl dX0_add_100 ?_
    refine v_iload (pc := 103) dX0_add_103 rfl ?_
    refine v_dup2IR (pc := 105) dX0_add_105 ?_
    refine v_iald (pc := 106) ly43 ?_ dX0_add_106 ?_
    · exact vp_in_nI hj31 (by omega)
    refine v_iload_n (pc := 107) dX0_add_107 rfl ?_
    refine v_iadd (pc := 108) dX0_add_108 ?_
    refine v_iast (pc := 109) ly43 ?_ dX0_add_109 ?_
    · exact vp_in_nI hj31 (by omega)
    refine v_aload_n (pc := 110) dX0_add_110 rfl ?_
    refine v_dupR (pc := 111) dX0_add_111 ?_
    refine v_getI (pc := 112) fkX0_22 ly41 rfl dX0_add_112 ?_
    refine v_iconst (pc := 115) (v := 1) (by decide) dX0_add_115 ?_
    refine v_iadd (pc := 116) dX0_add_116 ?_
    refine v_putI (pc := 117) fkX0_22p ly41 rfl dX0_add_117 ?_
    refine v_vret (pc := 120) dX0_add_120 (Nat.zero_le _) (Nat.zero_le _) ?_
    refine ⟨?_, rfl⟩
    rw [fAdd_eq hw (by omega), hj]
    unfold fAdd0
    try rw [hw] at c_61
    try rw [nI_eq (by omega) (by omega)] at c_61
    try rw [hcl] at c_73
    simp only [hcl]
    first
      | (rw [if_pos (Or.inl c_61)]; rfl)
      | (rw [if_pos (Or.inr c_73)]; rfl)
      | (rw [if_neg (fun z => z.elim c_61 (fun z => z c_73))]; rfl)
  · refine v_aload_n (pc := 64) dX0_add_64 rfl ?_
    refine v_getR (pc := 65) fkX0_9 ly41 rfl dX0_add_65 ?_
    refine v_iload (pc := 68) dX0_add_68 rfl ?_
    refine v_iald (pc := 70) ly42 ?_ dX0_add_70 ?_
    · exact vp_in_nI hj31 (by omega)
    refine v_iload (pc := 71) dX0_add_71 rfl ?_
    refine v_icmp_eq (pc := 73) (tgt := 99) dX0_add_73 (by decide) (fun c_73 => ?_) (fun c_73 => ?_)
    · refine v_aload_n (pc := 99) dX0_add_99 rfl ?_
      refine v_getR (pc := 100) fkX0_15 ly41 rfl dX0_add_100 ?_
      refine v_iload (pc := 103) dX0_add_103 rfl ?_
      refine v_dup2IR (pc := 105) dX0_add_105 ?_
      refine v_iald (pc := 106) ly43 ?_ dX0_add_106 ?_
      · exact vp_in_nI hj31 (by omega)
      refine v_iload_n (pc := 107) dX0_add_107 rfl ?_
      refine v_iadd (pc := 108) dX0_add_108 ?_
      refine v_iast (pc := 109) ly43 ?_ dX0_add_109 ?_
      · exact vp_in_nI hj31 (by omega)
      refine v_aload_n (pc := 110) dX0_add_110 rfl ?_
      refine v_dupR (pc := 111) dX0_add_111 ?_
      refine v_getI (pc := 112) fkX0_22 ly41 rfl dX0_add_112 ?_
      refine v_iconst (pc := 115) (v := 1) (by decide) dX0_add_115 ?_
      refine v_iadd (pc := 116) dX0_add_116 ?_
      refine v_putI (pc := 117) fkX0_22p ly41 rfl dX0_add_117 ?_
      refine v_vret (pc := 120) dX0_add_120 (Nat.zero_le _) (Nat.zero_le _) ?_
      refine ⟨?_, rfl⟩
      rw [fAdd_eq hw (by omega), hj]
      unfold fAdd0
      try rw [hw] at c_61
      try rw [nI_eq (by omega) (by omega)] at c_61
      try rw [hcl] at c_73
      simp only [hcl]
      first
        | (rw [if_pos (Or.inl c_61)]; rfl)
        | (rw [if_pos (Or.inr c_73)]; rfl)
        | (rw [if_neg (fun z => z.elim c_61 (fun z => z c_73))]; rfl)
    · refine v_aload_n (pc := 76) dX0_add_76 rfl ?_
      refine v_iload (pc := 77) dX0_add_77 rfl ?_
      refine v_cV1v (pc := 79) dX0_add_79 mkX0_25 (c_room (a := j) (by omega)) ly41 rfl (Nat.le_of_ble_eq_true rfl) rfl (Nat.zero_le _) (Nat.zero_le _) (fun M_79 J_79 h_79 => ?_)
      obtain ⟨e2_79, e3_79⟩ := h_79
      replace e2_79 := e2_79.symm
      replace e3_79 := e3_79.symm
      subst e2_79 e3_79
      refine v_aload_n (pc := 82) dX0_add_82 rfl ?_
      refine v_getR (pc := 83) fkX0_9 ly41 rfl dX0_add_83 ?_
      refine v_iload (pc := 86) dX0_add_86 rfl ?_
      refine v_iload (pc := 88) dX0_add_88 rfl ?_
      refine v_iast (pc := 90) ly42 ?_ dX0_add_90 ?_
      · exact vp_in_nI hj31 (by omega)
      refine v_aload_n (pc := 91) dX0_add_91 rfl ?_
      refine v_getR (pc := 92) fkX0_15 ly41 rfl dX0_add_92 ?_
      refine v_iload (pc := 95) dX0_add_95 rfl ?_
      refine v_iconst (pc := 97) (v := 0) (by decide) dX0_add_97 ?_
      refine v_iast (pc := 98) ly43 ?_ dX0_add_98 ?_
      · exact vp_in_nI hj31 (by omega)
      refine v_aload_n (pc := 99) dX0_add_99 rfl ?_
      refine v_getR (pc := 100) fkX0_15 ly41 rfl dX0_add_100 ?_
      refine v_iload (pc := 103) dX0_add_103 rfl ?_
      refine v_dup2IR (pc := 105) dX0_add_105 ?_
      refine v_iald (pc := 106) ly43 ?_ dX0_add_106 ?_
      · exact vp_in_nI hj31 (by omega)
      refine v_iload_n (pc := 107) dX0_add_107 rfl ?_
      refine v_iadd (pc := 108) dX0_add_108 ?_
      refine v_iast (pc := 109) ly43 ?_ dX0_add_109 ?_
      · exact vp_in_nI hj31 (by omega)
      refine v_aload_n (pc := 110) dX0_add_110 rfl ?_
      refine v_dupR (pc := 111) dX0_add_111 ?_
      refine v_getI (pc := 112) fkX0_22 ly41 rfl dX0_add_112 ?_
      refine v_iconst (pc := 115) (v := 1) (by decide) dX0_add_115 ?_
      refine v_iadd (pc := 116) dX0_add_116 ?_
      refine v_putI (pc := 117) fkX0_22p ly41 rfl dX0_add_117 ?_
      refine v_vret (pc := 120) dX0_add_120 (Nat.zero_le _) (Nat.zero_le _) ?_
      refine ⟨?_, rfl⟩
      rw [fAdd_eq hw (by omega), hj]
      unfold fAdd0
      try rw [hw] at c_61
      try rw [nI_eq (by omega) (by omega)] at c_61
      try rw [hcl] at c_73
      simp only [hcl]
      first
        | (rw [if_pos (Or.inl c_61)]; rfl)
        | (rw [if_pos (Or.inr c_73)]; rfl)
        | (rw [if_neg (fun z => z.elim c_61 (fun z => z c_73))]; rfl)

set_option maxRecDepth 100000 in
set_option maxHeartbeats 4000000 in
theorem l_add1 {t q z : Int32} {wd nb : Nat} {M : mM} {J : mJ} (hw : M 41 2 = nI wd) (hb : M 41 3 = nI nb) (hwb : wd ≤ nb) (hnb : nb < 32) : ∀ (n j : Nat), n + j = wd → fat (M 42) (t * 10 + q) wd 0 = fat (M 42) (t * 10 + q) n j → V RX0 cX0_add 6 none false (rmD 1) false LY.length none (mNv LY (fun M1 J1 => M1 = fAdd M (t * 10 + q) z ∧ J1 = J)) 0 0 21 [some (.ref 41), some (.int t), some (.int q), some (.int z), some (.int (t * 10 + q)), some (.int (nI j))] [] LY M J := by
  intro n
  induction n with
  | zero =>
    intro j hi hf
    obtain rfl : j = wd := by omega
    refine v_iload (pc := 21) dX0_add_21 rfl ?_
    refine v_aload_n (pc := 23) dX0_add_23 rfl ?_
    refine v_getI (pc := 24) fkX0_18 ly41 rfl dX0_add_24 ?_
    refine v_icmp_ge (pc := 27) (tgt := 55) dX0_add_27 (by decide) (fun c_27 => ?_) (fun c_27 => absurd (by rw [hw]; exact nI_le (Nat.le_refl j) (by omega)) c_27)
    exact l_add2 hw hb hwb hnb hf
  | succ n ih =>
    intro j hi hf
    have hcl := nI_clamp (show j < 2 ^ 31 by omega)
    refine v_iload (pc := 21) dX0_add_21 rfl ?_
    refine v_aload_n (pc := 23) dX0_add_23 rfl ?_
    refine v_getI (pc := 24) fkX0_18 ly41 rfl dX0_add_24 ?_
    refine v_icmp_ge (pc := 27) (tgt := 55) dX0_add_27 (by decide) (fun c_27 => absurd c_27 (by rw [hw]; exact nI_ge (show j < wd by omega) (by omega))) (fun c_27 => ?_)
    refine v_iload (pc := 30) dX0_add_30 rfl ?_
    refine v_bipush (pc := 32) (v := 31) (by decide) dX0_add_32 ?_
    refine v_icmp_ge (pc := 34) (tgt := 55) dX0_add_34 (by decide) (fun c_34 => absurd c_34 (nI_ge (b := 31) (show j < 31 by omega) (by omega))) (fun c_34 => ?_)
    refine v_aload_n (pc := 37) dX0_add_37 rfl ?_
    refine v_getR (pc := 38) fkX0_9 ly41 rfl dX0_add_38 ?_
    refine v_iload (pc := 41) dX0_add_41 rfl ?_
    refine v_iald (pc := 43) ly42 ?_ dX0_add_43 ?_
    · exact vp_in_nI (show j < 32 by omega) (by omega)
    refine v_iload (pc := 44) dX0_add_44 rfl ?_
    refine v_icmp_ge (pc := 46) (tgt := 55) dX0_add_46 (by decide) (fun c_46 => ?_) (fun c_46 => ?_)
    · rw [hcl] at c_46
      refine l_add2 hw hb hwb hnb (hf.trans ?_)
      rw [fat, if_neg (Int32.not_lt.mpr c_46)]
    · refine v_inc_5 (pc := 49) (v := 1) dX0_add_49 (by decide) (by decide) rfl ?_
      refine v_goto (pc := 52) (tgt := 21) dX0_add_52 (by decide) ?_
      rw [hcl] at c_46
      rw [nI_1]
      refine ih (j + 1) (by omega) (hf.trans ?_)
      rw [fat, if_pos (Int32.not_le.mp c_46)]

set_option maxRecDepth 100000 in
set_option maxHeartbeats 4000000 in
theorem c_add {t q z : Int32} {wd nb : Nat} {M : mM} {J : mJ} (hw : M 41 2 = nI wd) (hb : M 41 3 = nI nb) (hwb : wd ≤ nb) (hnb : nb < 32) : Ct yX0_add cX0_add 6 none (rmD 1) false [.ref 41, .int t, .int q, .int z] LY M J (mNv LY (fun M1 J1 => M1 = fAdd M (t * 10 + q) z ∧ J1 = J)) := by
  refine ct_of (own := RX0) (ini := false) (ls := [some (.ref 41), some (.int t), some (.int q), some (.int z), none, none]) 2 (by decide +kernel) rfl (fun h => by cases h) rfl (fun ad => by first | exact Nat.le_of_ble_eq_true rfl) ?_
  refine v_aload_n (pc := 0) dX0_add_0 rfl ?_
  refine v_getI (pc := 1) fkX0_22 ly41 rfl dX0_add_1 ?_
  refine v_bipush (pc := 4) (v := 32) (by decide) dX0_add_4 ?_
  refine v_icmp_lt (pc := 6) (tgt := 10) dX0_add_6 (by decide) (fun c_6 => ?_) (fun c_6 => absurd (by rw [hb]; exact nI_lt (b := 32) hnb (by omega)) c_6)
  refine v_iload_n (pc := 10) dX0_add_10 rfl ?_
  refine v_bipush (pc := 11) (v := 10) (by decide) dX0_add_11 ?_
  refine v_imul (pc := 13) dX0_add_13 ?_
  refine v_iload_n (pc := 14) dX0_add_14 rfl ?_
  refine v_iadd (pc := 15) dX0_add_15 ?_
  refine v_ist_4 (pc := 16) dX0_add_16 (by decide) rfl ?_
  refine v_iconst (pc := 18) (v := 0) (by decide) dX0_add_18 ?_
  refine v_ist_5 (pc := 19) dX0_add_19 (by decide) rfl ?_
  exact l_add1 hw hb hwb hnb wd 0 (by omega) rfl

def fRise (M : mM) (x : Int32) : mM := mU M 38 4 (M 38 4 &&& nbit x)
def fBub (M : mM) (k : Nat) (z : Int32) : mM :=
  let M1 := mU M 40 k (M 40 k - z)
  fAdd M1 ((M 38 7 + fUp (M 38 5) z) * 10 + rem10 (M 39 k + fUp (M 38 5) z * M 38 6)) z
def fWhyT (M : mM) (k : Nat) (z : Int32) : Int32 := fWhy (M 38 4) (M 40 k) (M 41 3) (nI k) z
/-- the trial book's numbers -/
def WF (M : mM) : Prop := ∃ wd nb : Nat, M 41 2 = nI wd ∧ M 41 3 = nI nb ∧ wd ≤ nb ∧ nb ≤ 32

set_option maxRecDepth 100000 in
set_option maxHeartbeats 4000000 in
theorem c_rise {x : Int32} {M : mM} {J : mJ}  : Ct yX2_rise cX2_rise 2 (some .int) (rmD 1) false [.ref 38, .int x] LY M J (mNi LY (fun r0 M1 J1 => r0 = (if 0 ≤ x ∧ x ≤ 6 ∧ bt (M 38 4) x then 0 else 1) ∧ M1 = (if 0 ≤ x ∧ x ≤ 6 ∧ bt (M 38 4) x then fRise M x else M) ∧ J1 = J)) := by
  refine ct_of (own := RX2) (ini := false) (ls := [some (.ref 38), some (.int x)]) 0 (by decide +kernel) rfl (fun h => by cases h) rfl (fun ad => by first | exact Nat.le_of_ble_eq_true rfl) ?_
  refine v_aload_n (pc := 0) dX2_rise_0 rfl ?_
  refine v_iload_n (pc := 1) dX2_rise_1 rfl ?_
  refine v_cV1i (pc := 2) dX2_rise_2 mkX2_48 (c_isBelow ly38) ly38 rfl (Nat.le_of_ble_eq_true rfl) rfl (Nat.zero_le _) (Nat.zero_le _) (fun r_2 M_2 J_2 h_2 => ?_)
  obtain ⟨e1_2, e2_2, e3_2⟩ := h_2
  replace e1_2 := e1_2.symm
  replace e2_2 := e2_2.symm
  replace e3_2 := e3_2.symm
  subst e1_2 e2_2 e3_2
  refine v_if_ne (pc := 5) (tgt := 10) dX2_rise_5 (by decide) (fun c_5 => ?_) (fun c_5 => ?_)
  · refine v_aload_n (pc := 10) dX2_rise_10 rfl ?_
    refine v_dupR (pc := 11) dX2_rise_11 ?_
    refine v_getI (pc := 12) fkX2_32 ly38 rfl dX2_rise_12 ?_
    refine v_iconst (pc := 15) (v := 1) (by decide) dX2_rise_15 ?_
    refine v_iload_n (pc := 16) dX2_rise_16 rfl ?_
    refine v_ishl (pc := 17) dX2_rise_17 ?_
    refine v_iconst (pc := 18) (v := (-1)) (by decide) dX2_rise_18 ?_
    refine v_ixor (pc := 19) dX2_rise_19 ?_
    refine v_iand (pc := 20) dX2_rise_20 ?_
    refine v_putI (pc := 21) fkX2_32p ly38 rfl dX2_rise_21 ?_
    refine v_iconst (pc := 24) (v := 0) (by decide) dX2_rise_24 ?_
    refine v_iret (pc := 25) dX2_rise_25 (Nat.zero_le _) (Nat.zero_le _) ?_
    exact ⟨by rw [if_pos (bI_n0.mp c_5)], by rw [if_pos (bI_n0.mp c_5)]; rfl, rfl⟩
  · refine v_iconst (pc := 8) (v := 1) (by decide) dX2_rise_8 ?_
    refine v_iret (pc := 9) dX2_rise_9 (Nat.zero_le _) (Nat.zero_le _) ?_
    exact ⟨by rw [if_neg (bI_0.mp c_5)], by rw [if_neg (bI_0.mp c_5)], rfl⟩

set_option maxRecDepth 100000 in
set_option maxHeartbeats 4000000 in
theorem c_bubble {k : Nat} {z : Int32} {M : mM} {J : mJ} (hk : k < 7) (hwf : WF M) : Ct yX2_makeBubble cX2_makeBubble 4 (some .int) (rmD 2) false [.ref 38, .int (nI k), .int z] LY M J (mNi LY (fun r0 M1 J1 => r0 = fWhyT M k z ∧ M1 = (if fWhyT M k z = 0 then fBub M k z else M) ∧ J1 = J)) := by
  refine ct_of (own := RX2) (ini := false) (ls := [some (.ref 38), some (.int (nI k)), some (.int z), none]) 1 (by decide +kernel) rfl (fun h => by cases h) rfl (fun ad => by first | exact Nat.le_of_ble_eq_true rfl) ?_
  obtain ⟨wd, nb, hw1, hw2, hw3, hw4⟩ := hwf
  have hcl := nI_clamp (show k < 2 ^ 31 by omega)
  have hf7 : fWhy (M 38 4) (f7 (M 40) (nI k)) (M 41 3) (nI k) z = fWhyT M k z := by rw [f7_in hk]; rfl
  refine v_aload_n (pc := 0) dX2_makeBubble_0 rfl ?_
  refine v_iload_n (pc := 1) dX2_makeBubble_1 rfl ?_
  refine v_iload_n (pc := 2) dX2_makeBubble_2 rfl ?_
  refine v_cV2i (pc := 3) dX2_makeBubble_3 mkX2_58 (c_whyNoBubble ly38 ly40 ly41) ly38 rfl (Nat.le_of_ble_eq_true rfl) rfl (Nat.zero_le _) (Nat.zero_le _) (fun r_3 M_3 J_3 h_3 => ?_)
  obtain ⟨e1_3, e2_3, e3_3⟩ := h_3
  replace e1_3 := e1_3.symm
  replace e2_3 := e2_3.symm
  replace e3_3 := e3_3.symm
  subst e1_3 e2_3 e3_3
  refine v_ist_3 (pc := 6) dX2_makeBubble_6 (by decide) rfl ?_
  refine v_iload_n (pc := 7) dX2_makeBubble_7 rfl ?_
  refine v_if_ne (pc := 8) (tgt := 55) dX2_makeBubble_8 (by decide) (fun c_8 => ?_) (fun c_8 => ?_)
  · refine v_iload_n (pc := 55) dX2_makeBubble_55 rfl ?_
    refine v_iret (pc := 56) dX2_makeBubble_56 (Nat.zero_le _) (Nat.zero_le _) ?_
    rw [hf7] at *
    first
      | exact ⟨rfl, by rw [if_neg c_8], rfl⟩
      | (refine ⟨rfl, ?_, rfl⟩
         rw [if_pos c_8, hcl]
         unfold fBub
         rw [f7_in hk]
         rfl)
  · rw [hf7] at c_8
    have hn32 : nb < 32 := by
      rcases Nat.lt_or_ge nb 32 with h | h
      · exact h
      · exfalso
        obtain rfl : nb = 32 := by omega
        unfold fWhyT fWhy at c_8
        rw [hw2] at c_8
        split at c_8
        · split at c_8
          · exact absurd c_8 (by decide)
          · exact absurd c_8 (by decide)
        · exact absurd c_8 (by decide)
    refine v_iload_n (pc := 11) dX2_makeBubble_11 rfl ?_
    refine v_if_lt (pc := 12) (tgt := 55) dX2_makeBubble_12 (by decide) (fun c_12 => absurd c_12 (nI_pos (by omega))) (fun c_12 => ?_)
    refine v_iload_n (pc := 15) dX2_makeBubble_15 rfl ?_
    refine v_bipush (pc := 16) (v := 7) (by decide) dX2_makeBubble_16 ?_
    refine v_icmp_ge (pc := 18) (tgt := 55) dX2_makeBubble_18 (by decide) (fun c_18 => absurd c_18 (nI_ge (b := 7) hk (by omega))) (fun c_18 => ?_)
    refine v_aload_n (pc := 21) dX2_makeBubble_21 rfl ?_
    refine v_getR (pc := 22) fkX2_15 ly38 rfl dX2_makeBubble_22 ?_
    refine v_iload_n (pc := 25) dX2_makeBubble_25 rfl ?_
    refine v_dup2IR (pc := 26) dX2_makeBubble_26 ?_
    refine v_iald (pc := 27) ly40 ?_ dX2_makeBubble_27 ?_
    · exact vp_in_nI hk (by omega)
    refine v_iload_n (pc := 28) dX2_makeBubble_28 rfl ?_
    refine v_isub (pc := 29) dX2_makeBubble_29 ?_
    refine v_iast (pc := 30) ly40 ?_ dX2_makeBubble_30 ?_
    · exact vp_in_nI hk (by omega)
    refine v_aload_n (pc := 31) dX2_makeBubble_31 rfl ?_
    refine v_getR (pc := 32) fkX2_21 ly38 rfl dX2_makeBubble_32 ?_
    refine v_aload_n (pc := 35) dX2_makeBubble_35 rfl ?_
    refine v_getI (pc := 36) fkX2_62 ly38 rfl dX2_makeBubble_36 ?_
    refine v_aload_n (pc := 39) dX2_makeBubble_39 rfl ?_
    refine v_iload_n (pc := 40) dX2_makeBubble_40 rfl ?_
    refine v_cV1i (pc := 41) dX2_makeBubble_41 mkX2_42 (c_minutesUp ly38) ly38 rfl (Nat.le_of_ble_eq_true rfl) rfl (Nat.zero_le _) (Nat.zero_le _) (fun r_41 M_41 J_41 h_41 => ?_)
    obtain ⟨e1_41, e2_41, e3_41⟩ := h_41
    replace e1_41 := e1_41.symm
    replace e2_41 := e2_41.symm
    replace e3_41 := e3_41.symm
    subst e1_41 e2_41 e3_41
    refine v_iadd (pc := 44) dX2_makeBubble_44 ?_
    refine v_aload_n (pc := 45) dX2_makeBubble_45 rfl ?_
    refine v_iload_n (pc := 46) dX2_makeBubble_46 rfl ?_
    refine v_iload_n (pc := 47) dX2_makeBubble_47 rfl ?_
    refine v_cV2i (pc := 48) dX2_makeBubble_48 mkX2_65 (c_placeUp ly38 ly39) ly38 rfl (Nat.le_of_ble_eq_true rfl) rfl (Nat.zero_le _) (Nat.zero_le _) (fun r_48 M_48 J_48 h_48 => ?_)
    obtain ⟨e1_48, e2_48, e3_48⟩ := h_48
    replace e1_48 := e1_48.symm
    replace e2_48 := e2_48.symm
    replace e3_48 := e3_48.symm
    subst e1_48 e2_48 e3_48
    refine v_iload_n (pc := 51) dX2_makeBubble_51 rfl ?_
    refine v_cV3v (pc := 52) dX2_makeBubble_52 mkX2_68 (c_add (wd := wd) (nb := nb) hw1 hw2 hw3 hn32) ly41 rfl (Nat.le_of_ble_eq_true rfl) rfl (Nat.zero_le _) (Nat.zero_le _) (fun M_52 J_52 h_52 => ?_)
    obtain ⟨e2_52, e3_52⟩ := h_52
    replace e2_52 := e2_52.symm
    replace e3_52 := e3_52.symm
    subst e2_52 e3_52
    refine v_iload_n (pc := 55) dX2_makeBubble_55 rfl ?_
    refine v_iret (pc := 56) dX2_makeBubble_56 (Nat.zero_le _) (Nat.zero_le _) ?_
    rw [hf7] at *
    first
      | exact ⟨rfl, by rw [if_neg c_8], rfl⟩
      | (refine ⟨rfl, ?_, rfl⟩
         rw [if_pos c_8, hcl]
         unfold fBub
         rw [f7_in hk]
         rfl)

def kd8 (x : Int32) : Int32 := x - x / 8 * 8
def fDraw (M : mM) (n : Nat) : mM :=
  if n % 8 < 3 then fPass M else if n % 8 = 3 then mU M 38 6 (nI (n / 8 % 10)) else (if fWhyT M (n / 8 % 7) (nI (1 + n / 64 % 9)) = 0 then fBub M (n / 8 % 7) (nI (1 + n / 64 % 9)) else M)

set_option maxRecDepth 100000 in
set_option maxHeartbeats 4000000 in
theorem c_drawn {n : Nat} {M : mM} {J : mJ} (hn : n < 65537) (hwf : WF M) : Ct yX2_drawnAct cX2_drawnAct 3 none (rmD 3) false [.ref 38, .int (nI n)] LY M J (mNv LY (fun M1 J1 => M1 = fDraw M n ∧ J1 = J)) := by
  refine ct_of (own := RX2) (ini := false) (ls := [some (.ref 38), some (.int (nI n)), none]) 1 (by decide +kernel) rfl (fun h => by cases h) rfl (fun ad => by first | exact Nat.le_of_ble_eq_true rfl) ?_
  have e8 : nI n - nI n / 8 * 8 = nI (n % 8) := pk_rem (d := 8) (by omega) (by omega) (by omega)
  have e9 : nI n / 8 = nI (n / 8) := pk_div (d := 8) (by omega) (by omega) (by omega)
  have e64 : nI n / 64 = nI (n / 64) := pk_div (d := 64) (by omega) (by omega) (by omega)
  have e10 : nI (n / 8) - nI (n / 8) / 10 * 10 = nI (n / 8 % 10) := pk_rem (d := 10) (by omega) (by omega) (by omega)
  have e7 : nI (n / 8) - nI (n / 8) / 7 * 7 = nI (n / 8 % 7) := pk_rem (d := 7) (by omega) (by omega) (by omega)
  have e6 : nI (n / 64) - nI (n / 64) / 9 * 9 = nI (n / 64 % 9) := pk_rem (d := 9) (by omega) (by omega) (by omega)
  have e1 : (1 : Int32) + nI (n / 64 % 9) = nI (1 + n / 64 % 9) := nI_add 1 _
  refine v_iload_n (pc := 0) dX2_drawnAct_0 rfl ?_
  refine v_bipush (pc := 1) (v := 8) (by decide) dX2_drawnAct_1 ?_
  refine v_irem (pc := 3) (by decide) dX2_drawnAct_3 ?_
  rw [e8]
  refine v_ist_2 (pc := 4) dX2_drawnAct_4 (by decide) rfl ?_
  refine v_iload_n (pc := 5) dX2_drawnAct_5 rfl ?_
  refine v_iconst (pc := 6) (v := 3) (by decide) dX2_drawnAct_6 ?_
  refine v_icmp_ge (pc := 7) (tgt := 18) dX2_drawnAct_7 (by decide) (fun c_7 => ?_) (fun c_7 => ?_)
  · refine v_iload_n (pc := 18) dX2_drawnAct_18 rfl ?_
    refine v_iconst (pc := 19) (v := 3) (by decide) dX2_drawnAct_19 ?_
    refine v_icmp_ne (pc := 20) (tgt := 37) dX2_drawnAct_20 (by decide) (fun c_20 => ?_) (fun c_20 => ?_)
    · refine v_aload_n (pc := 37) dX2_drawnAct_37 rfl ?_
      refine v_iload_n (pc := 38) dX2_drawnAct_38 rfl ?_
      refine v_bipush (pc := 39) (v := 8) (by decide) dX2_drawnAct_39 ?_
      refine v_idiv (pc := 41) (by decide) dX2_drawnAct_41 ?_
      refine v_bipush (pc := 42) (v := 7) (by decide) dX2_drawnAct_42 ?_
      refine v_irem (pc := 44) (by decide) dX2_drawnAct_44 ?_
      rw [e9, e7]
      refine v_iconst (pc := 45) (v := 1) (by decide) dX2_drawnAct_45 ?_
      refine v_iload_n (pc := 46) dX2_drawnAct_46 rfl ?_
      refine v_bipush (pc := 47) (v := 64) (by decide) dX2_drawnAct_47 ?_
      refine v_idiv (pc := 49) (by decide) dX2_drawnAct_49 ?_
      refine v_bipush (pc := 50) (v := 9) (by decide) dX2_drawnAct_50 ?_
      refine v_irem (pc := 52) (by decide) dX2_drawnAct_52 ?_
      refine v_iadd (pc := 53) dX2_drawnAct_53 ?_
      rw [e64, e6, e1]
      refine v_cV2i (pc := 54) dX2_drawnAct_54 mkX2_76 (c_bubble (Nat.mod_lt _ (by omega)) hwf) ly38 rfl (Nat.le_of_ble_eq_true rfl) rfl (Nat.zero_le _) (Nat.zero_le _) (fun r_54 M_54 J_54 h_54 => ?_)
      obtain ⟨e1_54, e2_54, e3_54⟩ := h_54
      replace e1_54 := e1_54.symm
      replace e2_54 := e2_54.symm
      replace e3_54 := e3_54.symm
      subst e1_54 e2_54 e3_54
      refine v_popI (pc := 57) dX2_drawnAct_57 ?_
      refine v_vret (pc := 58) dX2_drawnAct_58 (Nat.zero_le _) (Nat.zero_le _) ?_
      refine ⟨?_, rfl⟩
      unfold fDraw
      have h3 : (3 : Int32) ≤ nI (n % 8) ↔ 3 ≤ n % 8 := nI_leI (a := 3) (by omega) (by omega)
      have h4 : nI (n % 8) = (3 : Int32) ↔ n % 8 = 3 := nI_eq (b := 3) (by omega) (by omega)
      rw [h3] at c_7
      try rw [h4] at c_20
      first
        | (have g1 : n % 8 < 3 := by omega
           rw [if_pos g1])
        | (have g1 : ¬ n % 8 < 3 := by omega
           rw [if_neg g1, if_pos c_20])
        | (have g1 : ¬ n % 8 < 3 := by omega
           rw [if_neg g1, if_neg c_20])
    · refine v_aload_n (pc := 23) dX2_drawnAct_23 rfl ?_
      refine v_iload_n (pc := 24) dX2_drawnAct_24 rfl ?_
      refine v_bipush (pc := 25) (v := 8) (by decide) dX2_drawnAct_25 ?_
      refine v_idiv (pc := 27) (by decide) dX2_drawnAct_27 ?_
      refine v_bipush (pc := 28) (v := 10) (by decide) dX2_drawnAct_28 ?_
      skip
      refine v_irem (pc := 30) (by decide) dX2_drawnAct_30 ?_
      rw [e9, e10]
      refine v_putI (pc := 31) fkX2_45p ly38 rfl dX2_drawnAct_31 ?_
      refine v_goto (pc := 34) (tgt := 58) dX2_drawnAct_34 (by decide) ?_
      refine v_vret (pc := 58) dX2_drawnAct_58 (Nat.zero_le _) (Nat.zero_le _) ?_
      refine ⟨?_, rfl⟩
      unfold fDraw
      have h3 : (3 : Int32) ≤ nI (n % 8) ↔ 3 ≤ n % 8 := nI_leI (a := 3) (by omega) (by omega)
      have h4 : nI (n % 8) = (3 : Int32) ↔ n % 8 = 3 := nI_eq (b := 3) (by omega) (by omega)
      rw [h3] at c_7
      try rw [h4] at c_20
      first
        | (have g1 : n % 8 < 3 := by omega
           rw [if_pos g1])
        | (have g1 : ¬ n % 8 < 3 := by omega
           rw [if_neg g1, if_pos c_20])
        | (have g1 : ¬ n % 8 < 3 := by omega
           rw [if_neg g1, if_neg c_20])
  · refine v_aload_n (pc := 10) dX2_drawnAct_10 rfl ?_
    refine v_cV0i (pc := 11) dX2_drawnAct_11 mkX2_72 c_pass ly38 rfl (Nat.le_of_ble_eq_true rfl) rfl (Nat.zero_le _) (Nat.zero_le _) (fun r_11 M_11 J_11 h_11 => ?_)
    obtain ⟨e1_11, e2_11, e3_11⟩ := h_11
    replace e1_11 := e1_11.symm
    replace e2_11 := e2_11.symm
    replace e3_11 := e3_11.symm
    subst e1_11 e2_11 e3_11
    refine v_popI (pc := 14) dX2_drawnAct_14 ?_
    refine v_goto (pc := 15) (tgt := 58) dX2_drawnAct_15 (by decide) ?_
    refine v_vret (pc := 58) dX2_drawnAct_58 (Nat.zero_le _) (Nat.zero_le _) ?_
    refine ⟨?_, rfl⟩
    unfold fDraw
    have h3 : (3 : Int32) ≤ nI (n % 8) ↔ 3 ≤ n % 8 := nI_leI (a := 3) (by omega) (by omega)
    have h4 : nI (n % 8) = (3 : Int32) ↔ n % 8 = 3 := nI_eq (b := 3) (by omega) (by omega)
    rw [h3] at c_7
    try rw [h4] at c_20
    first
      | (have g1 : n % 8 < 3 := by omega
         rw [if_pos g1])
      | (have g1 : ¬ n % 8 < 3 := by omega
         rw [if_neg g1, if_pos c_20])
      | (have g1 : ¬ n % 8 < 3 := by omega
         rw [if_neg g1, if_neg c_20])

