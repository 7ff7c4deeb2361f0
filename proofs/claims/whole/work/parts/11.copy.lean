/-! JDK: bitCount, max, min; copies of arrays -/
def pc7 (x : Int32) : Nat → Int32
  | 0 => 0
  | n + 1 => pc7 x n + ((x >>> (nI n &&& 31)) &&& 1)

def bcI (x : Int32) : Int32 :=
  let a := x - ((x.toUInt32 >>> ((1 : Int32).toUInt32 &&& Int32.toUInt32 31)).toInt32 &&& 1431655765)
  let b := (a &&& 858993459) + ((a.toUInt32 >>> ((2 : Int32).toUInt32 &&& Int32.toUInt32 31)).toInt32 &&& 858993459)
  let c := (b + (b.toUInt32 >>> ((4 : Int32).toUInt32 &&& Int32.toUInt32 31)).toInt32) &&& 252645135
  let d := c + (c.toUInt32 >>> ((8 : Int32).toUInt32 &&& Int32.toUInt32 31)).toInt32
  let e := d + (d.toUInt32 >>> ((16 : Int32).toUInt32 &&& Int32.toUInt32 31)).toInt32
  e &&& 63
theorem bcI_ok : ∀ k, k < 128 → bcI (nI k) = pc7 (nI k) 7 := by decide +kernel

set_option maxRecDepth 100000 in
set_option maxHeartbeats 4000000 in
theorem c_bitCount {x : Int32} {M : mM} {J : mJ}  : Ct yJ6_bitCount_0f7a4 cJ6_bitCount_0f7a4 1 (some .int) (rmD 0) false [.int x] LY M J (mNi LY (fun r0 M1 J1 => r0 = bcI x ∧ M1 = M ∧ J1 = J)) := by
  refine ct_of (own := RJ6) (ini := false) (ls := [some (.int x)]) 0 (by decide +kernel) rfl (fun h => by cases h) rfl (fun ad => by first | exact Nat.le_of_ble_eq_true rfl) ?_
  refine v_iload_n (pc := 0) dJ6_bitCount_0f7a4_0 rfl ?_
  refine v_iload_n (pc := 1) dJ6_bitCount_0f7a4_1 rfl ?_
  refine v_iconst (pc := 2) (v := 1) (by decide) dJ6_bitCount_0f7a4_2 ?_
  refine v_iushr (pc := 3) dJ6_bitCount_0f7a4_3 ?_
  refine v_ldcw (pc := 4) ckJ6_265 dJ6_bitCount_0f7a4_4 ?_
  refine v_iand (pc := 7) dJ6_bitCount_0f7a4_7 ?_
  refine v_isub (pc := 8) dJ6_bitCount_0f7a4_8 ?_
  refine v_ist_0 (pc := 9) dJ6_bitCount_0f7a4_9 (by decide) rfl ?_
  refine v_iload_n (pc := 10) dJ6_bitCount_0f7a4_10 rfl ?_
  refine v_ldcw (pc := 11) ckJ6_266 dJ6_bitCount_0f7a4_11 ?_
  refine v_iand (pc := 14) dJ6_bitCount_0f7a4_14 ?_
  refine v_iload_n (pc := 15) dJ6_bitCount_0f7a4_15 rfl ?_
  refine v_iconst (pc := 16) (v := 2) (by decide) dJ6_bitCount_0f7a4_16 ?_
  refine v_iushr (pc := 17) dJ6_bitCount_0f7a4_17 ?_
  refine v_ldcw (pc := 18) ckJ6_266 dJ6_bitCount_0f7a4_18 ?_
  refine v_iand (pc := 21) dJ6_bitCount_0f7a4_21 ?_
  refine v_iadd (pc := 22) dJ6_bitCount_0f7a4_22 ?_
  refine v_ist_0 (pc := 23) dJ6_bitCount_0f7a4_23 (by decide) rfl ?_
  refine v_iload_n (pc := 24) dJ6_bitCount_0f7a4_24 rfl ?_
  refine v_iload_n (pc := 25) dJ6_bitCount_0f7a4_25 rfl ?_
  refine v_iconst (pc := 26) (v := 4) (by decide) dJ6_bitCount_0f7a4_26 ?_
  refine v_iushr (pc := 27) dJ6_bitCount_0f7a4_27 ?_
  refine v_iadd (pc := 28) dJ6_bitCount_0f7a4_28 ?_
  refine v_ldcw (pc := 29) ckJ6_267 dJ6_bitCount_0f7a4_29 ?_
  refine v_iand (pc := 32) dJ6_bitCount_0f7a4_32 ?_
  refine v_ist_0 (pc := 33) dJ6_bitCount_0f7a4_33 (by decide) rfl ?_
  refine v_iload_n (pc := 34) dJ6_bitCount_0f7a4_34 rfl ?_
  refine v_iload_n (pc := 35) dJ6_bitCount_0f7a4_35 rfl ?_
  refine v_bipush (pc := 36) (v := 8) (by decide) dJ6_bitCount_0f7a4_36 ?_
  refine v_iushr (pc := 38) dJ6_bitCount_0f7a4_38 ?_
  refine v_iadd (pc := 39) dJ6_bitCount_0f7a4_39 ?_
  refine v_ist_0 (pc := 40) dJ6_bitCount_0f7a4_40 (by decide) rfl ?_
  refine v_iload_n (pc := 41) dJ6_bitCount_0f7a4_41 rfl ?_
  refine v_iload_n (pc := 42) dJ6_bitCount_0f7a4_42 rfl ?_
  refine v_bipush (pc := 43) (v := 16) (by decide) dJ6_bitCount_0f7a4_43 ?_
  refine v_iushr (pc := 45) dJ6_bitCount_0f7a4_45 ?_
  refine v_iadd (pc := 46) dJ6_bitCount_0f7a4_46 ?_
  refine v_ist_0 (pc := 47) dJ6_bitCount_0f7a4_47 (by decide) rfl ?_
  refine v_iload_n (pc := 48) dJ6_bitCount_0f7a4_48 rfl ?_
  refine v_bipush (pc := 49) (v := 63) (by decide) dJ6_bitCount_0f7a4_49 ?_
  refine v_iand (pc := 51) dJ6_bitCount_0f7a4_51 ?_
  refine v_iret (pc := 52) dJ6_bitCount_0f7a4_52 (Nat.zero_le _) (Nat.zero_le _) ?_
  exact ⟨rfl, rfl, rfl⟩

def cpR (M : mM) (d s lo hi : Nat) : mM := fun a b => if a = d ∧ lo ≤ b ∧ b < hi then M s b else M a b
theorem cpR_0 {M : mM} {d s lo : Nat} : cpR M d s lo lo = M := by
  funext a b
  unfold cpR
  rw [if_neg (by omega)]
theorem cpR_ne {M : mM} {d s lo hi a : Nat} (h : a ≠ d) : cpR M d s lo hi a = M a := by
  funext b
  unfold cpR
  rw [if_neg (fun q => h q.1)]
theorem cpR_st {M : mM} {d s lo : Nat} : mU M d lo (M s lo) = cpR M d s lo (lo + 1) := by
  funext a b
  unfold mU cpR
  by_cases h : a = d ∧ b = lo
  · rw [if_pos h, if_pos ⟨h.1, by omega, by omega⟩, h.2]
  · rw [if_neg h, if_neg (fun q => h ⟨q.1, by omega⟩)]
theorem cpR_nx {M : mM} {d s lo hi : Nat} (h : s ≠ d) (hl : lo ≤ hi) : mU (cpR M d s lo hi) d hi (cpR M d s lo hi s hi) = cpR M d s lo (hi + 1) := by
  rw [cpR_ne h]
  funext a b
  unfold mU cpR
  by_cases h : a = d ∧ b = hi
  · rw [if_pos h, if_pos ⟨h.1, by omega, by omega⟩, h.2]
  · rw [if_neg h]
    by_cases g : a = d ∧ lo ≤ b ∧ b < hi
    · rw [if_pos g, if_pos ⟨g.1, by omega, by omega⟩]
    · rw [if_neg g, if_neg]
      rintro ⟨q1, q2, q3⟩
      by_cases e : b = hi
      · exact h ⟨q1, e⟩
      · exact g ⟨q1, q2, by omega⟩
theorem mU_cpR {M : mM} {d s lo hi r j : Nat} {x : Int32} (h : r ≠ d) (h2 : r ≠ s) : mU (cpR M d s lo hi) r j x = cpR (mU M r j x) d s lo hi := by
  funext a b
  simp only [mU, cpR]
  by_cases e : a = r ∧ b = j
  · rw [if_pos e, if_neg (fun q => h (e.1.symm.trans q.1)), if_pos e]
  · rw [if_neg e]
    by_cases g : a = d ∧ lo ≤ b ∧ b < hi
    · rw [if_pos g, if_pos g, if_neg (fun q => h2 q.1.symm)]
    · rw [if_neg g, if_neg g, if_neg e]
theorem mU_neA {M : mM} {r j a : Nat} {x : Int32} (h : a ≠ r) : mU M r j x a = M a := mU_ne a h
/-- one step of a loop that copies two arrays at once -/
theorem cp2 {M : mM} {d1 s1 d2 s2 i : Nat} (h1 : d1 ≠ d2) (h2 : s1 ≠ d1) (h3 : s1 ≠ d2) (h4 : s2 ≠ d2) (h5 : s2 ≠ d1) :
    mU (mU (cpR (cpR M d1 s1 0 i) d2 s2 0 i) d1 i (cpR (cpR M d1 s1 0 i) d2 s2 0 i s1 i)) d2 i (mU (cpR (cpR M d1 s1 0 i) d2 s2 0 i) d1 i (cpR (cpR M d1 s1 0 i) d2 s2 0 i s1 i) s2 i) = cpR (cpR M d1 s1 0 (i + 1)) d2 s2 0 (i + 1) := by
  rw [mU_neA h5, mU_cpR h1 (Ne.symm h5), cpR_ne h3, cpR_nx h2 (Nat.zero_le _), cpR_ne h4, cpR_ne h5]
  have e := cpR_nx (M := cpR M d1 s1 0 (i + 1)) (d := d2) (s := s2) (lo := 0) (hi := i) h4 (Nat.zero_le _)
  rw [cpR_ne h4, cpR_ne h5] at e
  exact e
theorem cp3 {M : mM} {d1 s1 d2 s2 d3 s3 i : Nat} (h1 : d1 ≠ d2) (h2 : s1 ≠ d1) (h3 : s1 ≠ d2) (h4 : s2 ≠ d2) (h5 : s2 ≠ d1) (h6 : d1 ≠ d3) (h7 : d2 ≠ d3) (h8 : s1 ≠ d3) (h9 : s2 ≠ d3) (g1 : s3 ≠ d1) (g2 : s3 ≠ d2) (g3 : s3 ≠ d3) {A : mM} (hA : A = cpR (cpR (cpR M d1 s1 0 i) d2 s2 0 i) d3 s3 0 i) {B : mM} (hB : B = mU A d1 i (A s1 i)) {C : mM} (hC : C = mU B d2 i (B s2 i)) : mU C d3 i (C s3 i) = cpR (cpR (cpR M d1 s1 0 (i + 1)) d2 s2 0 (i + 1)) d3 s3 0 (i + 1) := by
  have eB : B = cpR (mU (cpR (cpR M d1 s1 0 i) d2 s2 0 i) d1 i (cpR (cpR M d1 s1 0 i) d2 s2 0 i s1 i)) d3 s3 0 i := by
    rw [hB, hA, mU_cpR h6 (Ne.symm g1), cpR_ne h8]
  have eC : C = cpR (cpR (cpR M d1 s1 0 (i + 1)) d2 s2 0 (i + 1)) d3 s3 0 i := by
    rw [hC, eB, mU_cpR h7 (Ne.symm g2), cpR_ne h9, cp2 h1 h2 h3 h4 h5]
  rw [eC, cpR_nx g3 (Nat.zero_le _)]
def cBk (M : mM) (d s : Nat) : mM := cpR (cpR (cpR M (d + 1) (s + 1) 0 32) (d + 2) (s + 2) 0 32) d s 2 4
def cLg (M : mM) (d s : Nat) : mM := cpR (cBk (cpR (cpR M (d + 1) (s + 1) 0 7) (d + 2) (s + 2) 0 7) (d + 3) (s + 3)) d s 3 8
def cSg (M : mM) (d s : Nat) : mM := cpR (cpR (cpR (cpR M (d + 1) (s + 1) 0 8) (d + 2) (s + 2) 0 8) (d + 3) (s + 3) 0 8) d s 3 4
def cHs (M : mM) (d s : Nat) : mM := cpR (cSg (cLg M (d + 1) (s + 1)) (d + 7) (s + 7)) (d + 11) (s + 11) 0 6

set_option maxRecDepth 100000 in
set_option maxHeartbeats 4000000 in
theorem l_bkCopy_41_5 {M : mM} {J : mJ} : ∀ (n i : Nat), n + i = 32 → V RX0 cX0_copyFrom 3 none false (rmD 0) false LY.length none (mNv LY (fun M1 J1 => M1 = cBk M 41 5 ∧ J1 = J)) 0 0 2 [some (.ref 41), some (.ref 5), some (.int (nI i))] [] LY (cpR (cpR M 42 6 0 i) 43 7 0 i) J := by
  intro n
  induction n with
  | zero =>
    intro i hi
    obtain rfl : i = 32 := by omega
    refine v_iload_n (pc := 2) dX0_copyFrom_2 rfl ?_
    refine v_bipush (pc := 3) (v := 32) (by decide) dX0_copyFrom_3 ?_
    refine v_icmp_ge (pc := 5) (tgt := 38) dX0_copyFrom_5 (by decide) (fun c_5 => ?_) (fun c_5 => absurd (by decide) c_5)
    refine v_aload_n (pc := 38) dX0_copyFrom_38 rfl ?_
    refine v_aload_n (pc := 39) dX0_copyFrom_39 rfl ?_
    refine v_getI (pc := 40) fkX0_18 ly5 rfl dX0_copyFrom_40 ?_
    refine v_putI (pc := 43) fkX0_18p ly41 rfl dX0_copyFrom_43 ?_
    refine v_aload_n (pc := 46) dX0_copyFrom_46 rfl ?_
    refine v_aload_n (pc := 47) dX0_copyFrom_47 rfl ?_
    refine v_getI (pc := 48) fkX0_22 ly5 rfl dX0_copyFrom_48 ?_
    refine v_putI (pc := 51) fkX0_22p ly41 rfl dX0_copyFrom_51 ?_
    refine v_vret (pc := 54) dX0_copyFrom_54 (Nat.zero_le _) (Nat.zero_le _) ?_
    refine ⟨?_, rfl⟩
    rw [cpR_st (lo := 2), cpR_nx (by decide) (by decide)]
    rfl
  | succ n ih =>
    intro i hi
    have hb7 : i < 32 := by omega
    have hc : ¬ (32 : Int32) ≤ nI i := nI_ge (b := 32) hb7 (by omega)
    refine v_iload_n (pc := 2) dX0_copyFrom_2 rfl ?_
    refine v_bipush (pc := 3) (v := 32) (by decide) dX0_copyFrom_3 ?_
    refine v_icmp_ge (pc := 5) (tgt := 38) dX0_copyFrom_5 (by decide) (fun c_5 => absurd c_5 (hc)) (fun c_5 => ?_)
    refine v_aload_n (pc := 8) dX0_copyFrom_8 rfl ?_
    refine v_getR (pc := 9) fkX0_9 ly41 rfl dX0_copyFrom_9 ?_
    refine v_iload_n (pc := 12) dX0_copyFrom_12 rfl ?_
    refine v_aload_n (pc := 13) dX0_copyFrom_13 rfl ?_
    refine v_getR (pc := 14) fkX0_9 ly5 rfl dX0_copyFrom_14 ?_
    refine v_iload_n (pc := 17) dX0_copyFrom_17 rfl ?_
    refine v_iald (pc := 18) ly6 ?_ dX0_copyFrom_18 ?_
    · exact vp_in_nI hb7 (by omega)
    refine v_iast (pc := 19) ly42 ?_ dX0_copyFrom_19 ?_
    · exact vp_in_nI hb7 (by omega)
    refine v_aload_n (pc := 20) dX0_copyFrom_20 rfl ?_
    refine v_getR (pc := 21) fkX0_15 ly41 rfl dX0_copyFrom_21 ?_
    refine v_iload_n (pc := 24) dX0_copyFrom_24 rfl ?_
    refine v_aload_n (pc := 25) dX0_copyFrom_25 rfl ?_
    refine v_getR (pc := 26) fkX0_15 ly5 rfl dX0_copyFrom_26 ?_
    refine v_iload_n (pc := 29) dX0_copyFrom_29 rfl ?_
    refine v_iald (pc := 30) ly7 ?_ dX0_copyFrom_30 ?_
    · exact vp_in_nI hb7 (by omega)
    refine v_iast (pc := 31) ly43 ?_ dX0_copyFrom_31 ?_
    · exact vp_in_nI hb7 (by omega)
    refine v_inc_2 (pc := 32) (v := 1) dX0_copyFrom_32 (by decide) (by decide) rfl ?_
    refine v_goto (pc := 35) (tgt := 2) dX0_copyFrom_35 (by decide) ?_
    simp only [nI_clamp (show i < 2 ^ 31 by omega)]
    rw [cp2 (by decide) (by decide) (by decide) (by decide) (by decide), nI_1]
    exact ih (i + 1) (by omega)

set_option maxRecDepth 100000 in
set_option maxHeartbeats 4000000 in
theorem c_bkCopy_41_5  {M : mM} {J : mJ}  : Ct yX0_copyFrom cX0_copyFrom 3 none (rmD 0) false [.ref 41, .ref 5] LY M J (mNv LY (fun M1 J1 => M1 = cBk M 41 5 ∧ J1 = J)) := by
  refine ct_of (own := RX0) (ini := false) (ls := [some (.ref 41), some (.ref 5), none]) 1 (by decide +kernel) rfl (fun h => by cases h) rfl (fun ad => by first | exact Nat.le_of_ble_eq_true rfl) ?_
  refine v_iconst (pc := 0) (v := 0) (by decide) dX0_copyFrom_0 ?_
  refine v_ist_2 (pc := 1) dX0_copyFrom_1 (by decide) rfl ?_
  have e9 := l_bkCopy_41_5 (M := M) (J := J) 32 0 rfl
  rw [cpR_0, cpR_0] at e9
  exact e9

set_option maxRecDepth 100000 in
set_option maxHeartbeats 4000000 in
theorem l_bkCopy_5_41 {M : mM} {J : mJ} : ∀ (n i : Nat), n + i = 32 → V RX0 cX0_copyFrom 3 none false (rmD 0) false LY.length none (mNv LY (fun M1 J1 => M1 = cBk M 5 41 ∧ J1 = J)) 0 0 2 [some (.ref 5), some (.ref 41), some (.int (nI i))] [] LY (cpR (cpR M 6 42 0 i) 7 43 0 i) J := by
  intro n
  induction n with
  | zero =>
    intro i hi
    obtain rfl : i = 32 := by omega
    refine v_iload_n (pc := 2) dX0_copyFrom_2 rfl ?_
    refine v_bipush (pc := 3) (v := 32) (by decide) dX0_copyFrom_3 ?_
    refine v_icmp_ge (pc := 5) (tgt := 38) dX0_copyFrom_5 (by decide) (fun c_5 => ?_) (fun c_5 => absurd (by decide) c_5)
    refine v_aload_n (pc := 38) dX0_copyFrom_38 rfl ?_
    refine v_aload_n (pc := 39) dX0_copyFrom_39 rfl ?_
    refine v_getI (pc := 40) fkX0_18 ly41 rfl dX0_copyFrom_40 ?_
    refine v_putI (pc := 43) fkX0_18p ly5 rfl dX0_copyFrom_43 ?_
    refine v_aload_n (pc := 46) dX0_copyFrom_46 rfl ?_
    refine v_aload_n (pc := 47) dX0_copyFrom_47 rfl ?_
    refine v_getI (pc := 48) fkX0_22 ly41 rfl dX0_copyFrom_48 ?_
    refine v_putI (pc := 51) fkX0_22p ly5 rfl dX0_copyFrom_51 ?_
    refine v_vret (pc := 54) dX0_copyFrom_54 (Nat.zero_le _) (Nat.zero_le _) ?_
    refine ⟨?_, rfl⟩
    rw [cpR_st (lo := 2), cpR_nx (by decide) (by decide)]
    rfl
  | succ n ih =>
    intro i hi
    have hb7 : i < 32 := by omega
    have hc : ¬ (32 : Int32) ≤ nI i := nI_ge (b := 32) hb7 (by omega)
    refine v_iload_n (pc := 2) dX0_copyFrom_2 rfl ?_
    refine v_bipush (pc := 3) (v := 32) (by decide) dX0_copyFrom_3 ?_
    refine v_icmp_ge (pc := 5) (tgt := 38) dX0_copyFrom_5 (by decide) (fun c_5 => absurd c_5 (hc)) (fun c_5 => ?_)
    refine v_aload_n (pc := 8) dX0_copyFrom_8 rfl ?_
    refine v_getR (pc := 9) fkX0_9 ly5 rfl dX0_copyFrom_9 ?_
    refine v_iload_n (pc := 12) dX0_copyFrom_12 rfl ?_
    refine v_aload_n (pc := 13) dX0_copyFrom_13 rfl ?_
    refine v_getR (pc := 14) fkX0_9 ly41 rfl dX0_copyFrom_14 ?_
    refine v_iload_n (pc := 17) dX0_copyFrom_17 rfl ?_
    refine v_iald (pc := 18) ly42 ?_ dX0_copyFrom_18 ?_
    · exact vp_in_nI hb7 (by omega)
    refine v_iast (pc := 19) ly6 ?_ dX0_copyFrom_19 ?_
    · exact vp_in_nI hb7 (by omega)
    refine v_aload_n (pc := 20) dX0_copyFrom_20 rfl ?_
    refine v_getR (pc := 21) fkX0_15 ly5 rfl dX0_copyFrom_21 ?_
    refine v_iload_n (pc := 24) dX0_copyFrom_24 rfl ?_
    refine v_aload_n (pc := 25) dX0_copyFrom_25 rfl ?_
    refine v_getR (pc := 26) fkX0_15 ly41 rfl dX0_copyFrom_26 ?_
    refine v_iload_n (pc := 29) dX0_copyFrom_29 rfl ?_
    refine v_iald (pc := 30) ly43 ?_ dX0_copyFrom_30 ?_
    · exact vp_in_nI hb7 (by omega)
    refine v_iast (pc := 31) ly7 ?_ dX0_copyFrom_31 ?_
    · exact vp_in_nI hb7 (by omega)
    refine v_inc_2 (pc := 32) (v := 1) dX0_copyFrom_32 (by decide) (by decide) rfl ?_
    refine v_goto (pc := 35) (tgt := 2) dX0_copyFrom_35 (by decide) ?_
    simp only [nI_clamp (show i < 2 ^ 31 by omega)]
    rw [cp2 (by decide) (by decide) (by decide) (by decide) (by decide), nI_1]
    exact ih (i + 1) (by omega)

set_option maxRecDepth 100000 in
set_option maxHeartbeats 4000000 in
theorem c_bkCopy_5_41  {M : mM} {J : mJ}  : Ct yX0_copyFrom cX0_copyFrom 3 none (rmD 0) false [.ref 5, .ref 41] LY M J (mNv LY (fun M1 J1 => M1 = cBk M 5 41 ∧ J1 = J)) := by
  refine ct_of (own := RX0) (ini := false) (ls := [some (.ref 5), some (.ref 41), none]) 1 (by decide +kernel) rfl (fun h => by cases h) rfl (fun ad => by first | exact Nat.le_of_ble_eq_true rfl) ?_
  refine v_iconst (pc := 0) (v := 0) (by decide) dX0_copyFrom_0 ?_
  refine v_ist_2 (pc := 1) dX0_copyFrom_1 (by decide) rfl ?_
  have e9 := l_bkCopy_5_41 (M := M) (J := J) 32 0 rfl
  rw [cpR_0, cpR_0] at e9
  exact e9

set_option maxRecDepth 100000 in
set_option maxHeartbeats 4000000 in
theorem l_bkCopy_18_5 {M : mM} {J : mJ} : ∀ (n i : Nat), n + i = 32 → V RX0 cX0_copyFrom 3 none false (rmD 0) false LY.length none (mNv LY (fun M1 J1 => M1 = cBk M 18 5 ∧ J1 = J)) 0 0 2 [some (.ref 18), some (.ref 5), some (.int (nI i))] [] LY (cpR (cpR M 19 6 0 i) 20 7 0 i) J := by
  intro n
  induction n with
  | zero =>
    intro i hi
    obtain rfl : i = 32 := by omega
    refine v_iload_n (pc := 2) dX0_copyFrom_2 rfl ?_
    refine v_bipush (pc := 3) (v := 32) (by decide) dX0_copyFrom_3 ?_
    refine v_icmp_ge (pc := 5) (tgt := 38) dX0_copyFrom_5 (by decide) (fun c_5 => ?_) (fun c_5 => absurd (by decide) c_5)
    refine v_aload_n (pc := 38) dX0_copyFrom_38 rfl ?_
    refine v_aload_n (pc := 39) dX0_copyFrom_39 rfl ?_
    refine v_getI (pc := 40) fkX0_18 ly5 rfl dX0_copyFrom_40 ?_
    refine v_putI (pc := 43) fkX0_18p ly18 rfl dX0_copyFrom_43 ?_
    refine v_aload_n (pc := 46) dX0_copyFrom_46 rfl ?_
    refine v_aload_n (pc := 47) dX0_copyFrom_47 rfl ?_
    refine v_getI (pc := 48) fkX0_22 ly5 rfl dX0_copyFrom_48 ?_
    refine v_putI (pc := 51) fkX0_22p ly18 rfl dX0_copyFrom_51 ?_
    refine v_vret (pc := 54) dX0_copyFrom_54 (Nat.zero_le _) (Nat.zero_le _) ?_
    refine ⟨?_, rfl⟩
    rw [cpR_st (lo := 2), cpR_nx (by decide) (by decide)]
    rfl
  | succ n ih =>
    intro i hi
    have hb7 : i < 32 := by omega
    have hc : ¬ (32 : Int32) ≤ nI i := nI_ge (b := 32) hb7 (by omega)
    refine v_iload_n (pc := 2) dX0_copyFrom_2 rfl ?_
    refine v_bipush (pc := 3) (v := 32) (by decide) dX0_copyFrom_3 ?_
    refine v_icmp_ge (pc := 5) (tgt := 38) dX0_copyFrom_5 (by decide) (fun c_5 => absurd c_5 (hc)) (fun c_5 => ?_)
    refine v_aload_n (pc := 8) dX0_copyFrom_8 rfl ?_
    refine v_getR (pc := 9) fkX0_9 ly18 rfl dX0_copyFrom_9 ?_
    refine v_iload_n (pc := 12) dX0_copyFrom_12 rfl ?_
    refine v_aload_n (pc := 13) dX0_copyFrom_13 rfl ?_
    refine v_getR (pc := 14) fkX0_9 ly5 rfl dX0_copyFrom_14 ?_
    refine v_iload_n (pc := 17) dX0_copyFrom_17 rfl ?_
    refine v_iald (pc := 18) ly6 ?_ dX0_copyFrom_18 ?_
    · exact vp_in_nI hb7 (by omega)
    refine v_iast (pc := 19) ly19 ?_ dX0_copyFrom_19 ?_
    · exact vp_in_nI hb7 (by omega)
    refine v_aload_n (pc := 20) dX0_copyFrom_20 rfl ?_
    refine v_getR (pc := 21) fkX0_15 ly18 rfl dX0_copyFrom_21 ?_
    refine v_iload_n (pc := 24) dX0_copyFrom_24 rfl ?_
    refine v_aload_n (pc := 25) dX0_copyFrom_25 rfl ?_
    refine v_getR (pc := 26) fkX0_15 ly5 rfl dX0_copyFrom_26 ?_
    refine v_iload_n (pc := 29) dX0_copyFrom_29 rfl ?_
    refine v_iald (pc := 30) ly7 ?_ dX0_copyFrom_30 ?_
    · exact vp_in_nI hb7 (by omega)
    refine v_iast (pc := 31) ly20 ?_ dX0_copyFrom_31 ?_
    · exact vp_in_nI hb7 (by omega)
    refine v_inc_2 (pc := 32) (v := 1) dX0_copyFrom_32 (by decide) (by decide) rfl ?_
    refine v_goto (pc := 35) (tgt := 2) dX0_copyFrom_35 (by decide) ?_
    simp only [nI_clamp (show i < 2 ^ 31 by omega)]
    rw [cp2 (by decide) (by decide) (by decide) (by decide) (by decide), nI_1]
    exact ih (i + 1) (by omega)

set_option maxRecDepth 100000 in
set_option maxHeartbeats 4000000 in
theorem c_bkCopy_18_5  {M : mM} {J : mJ}  : Ct yX0_copyFrom cX0_copyFrom 3 none (rmD 0) false [.ref 18, .ref 5] LY M J (mNv LY (fun M1 J1 => M1 = cBk M 18 5 ∧ J1 = J)) := by
  refine ct_of (own := RX0) (ini := false) (ls := [some (.ref 18), some (.ref 5), none]) 1 (by decide +kernel) rfl (fun h => by cases h) rfl (fun ad => by first | exact Nat.le_of_ble_eq_true rfl) ?_
  refine v_iconst (pc := 0) (v := 0) (by decide) dX0_copyFrom_0 ?_
  refine v_ist_2 (pc := 1) dX0_copyFrom_1 (by decide) rfl ?_
  have e9 := l_bkCopy_18_5 (M := M) (J := J) 32 0 rfl
  rw [cpR_0, cpR_0] at e9
  exact e9

set_option maxRecDepth 100000 in
set_option maxHeartbeats 4000000 in
theorem l_bkCopy_30_5 {M : mM} {J : mJ} : ∀ (n i : Nat), n + i = 32 → V RX0 cX0_copyFrom 3 none false (rmD 0) false LY.length none (mNv LY (fun M1 J1 => M1 = cBk M 30 5 ∧ J1 = J)) 0 0 2 [some (.ref 30), some (.ref 5), some (.int (nI i))] [] LY (cpR (cpR M 31 6 0 i) 32 7 0 i) J := by
  intro n
  induction n with
  | zero =>
    intro i hi
    obtain rfl : i = 32 := by omega
    refine v_iload_n (pc := 2) dX0_copyFrom_2 rfl ?_
    refine v_bipush (pc := 3) (v := 32) (by decide) dX0_copyFrom_3 ?_
    refine v_icmp_ge (pc := 5) (tgt := 38) dX0_copyFrom_5 (by decide) (fun c_5 => ?_) (fun c_5 => absurd (by decide) c_5)
    refine v_aload_n (pc := 38) dX0_copyFrom_38 rfl ?_
    refine v_aload_n (pc := 39) dX0_copyFrom_39 rfl ?_
    refine v_getI (pc := 40) fkX0_18 ly5 rfl dX0_copyFrom_40 ?_
    refine v_putI (pc := 43) fkX0_18p ly30 rfl dX0_copyFrom_43 ?_
    refine v_aload_n (pc := 46) dX0_copyFrom_46 rfl ?_
    refine v_aload_n (pc := 47) dX0_copyFrom_47 rfl ?_
    refine v_getI (pc := 48) fkX0_22 ly5 rfl dX0_copyFrom_48 ?_
    refine v_putI (pc := 51) fkX0_22p ly30 rfl dX0_copyFrom_51 ?_
    refine v_vret (pc := 54) dX0_copyFrom_54 (Nat.zero_le _) (Nat.zero_le _) ?_
    refine ⟨?_, rfl⟩
    rw [cpR_st (lo := 2), cpR_nx (by decide) (by decide)]
    rfl
  | succ n ih =>
    intro i hi
    have hb7 : i < 32 := by omega
    have hc : ¬ (32 : Int32) ≤ nI i := nI_ge (b := 32) hb7 (by omega)
    refine v_iload_n (pc := 2) dX0_copyFrom_2 rfl ?_
    refine v_bipush (pc := 3) (v := 32) (by decide) dX0_copyFrom_3 ?_
    refine v_icmp_ge (pc := 5) (tgt := 38) dX0_copyFrom_5 (by decide) (fun c_5 => absurd c_5 (hc)) (fun c_5 => ?_)
    refine v_aload_n (pc := 8) dX0_copyFrom_8 rfl ?_
    refine v_getR (pc := 9) fkX0_9 ly30 rfl dX0_copyFrom_9 ?_
    refine v_iload_n (pc := 12) dX0_copyFrom_12 rfl ?_
    refine v_aload_n (pc := 13) dX0_copyFrom_13 rfl ?_
    refine v_getR (pc := 14) fkX0_9 ly5 rfl dX0_copyFrom_14 ?_
    refine v_iload_n (pc := 17) dX0_copyFrom_17 rfl ?_
    refine v_iald (pc := 18) ly6 ?_ dX0_copyFrom_18 ?_
    · exact vp_in_nI hb7 (by omega)
    refine v_iast (pc := 19) ly31 ?_ dX0_copyFrom_19 ?_
    · exact vp_in_nI hb7 (by omega)
    refine v_aload_n (pc := 20) dX0_copyFrom_20 rfl ?_
    refine v_getR (pc := 21) fkX0_15 ly30 rfl dX0_copyFrom_21 ?_
    refine v_iload_n (pc := 24) dX0_copyFrom_24 rfl ?_
    refine v_aload_n (pc := 25) dX0_copyFrom_25 rfl ?_
    refine v_getR (pc := 26) fkX0_15 ly5 rfl dX0_copyFrom_26 ?_
    refine v_iload_n (pc := 29) dX0_copyFrom_29 rfl ?_
    refine v_iald (pc := 30) ly7 ?_ dX0_copyFrom_30 ?_
    · exact vp_in_nI hb7 (by omega)
    refine v_iast (pc := 31) ly32 ?_ dX0_copyFrom_31 ?_
    · exact vp_in_nI hb7 (by omega)
    refine v_inc_2 (pc := 32) (v := 1) dX0_copyFrom_32 (by decide) (by decide) rfl ?_
    refine v_goto (pc := 35) (tgt := 2) dX0_copyFrom_35 (by decide) ?_
    simp only [nI_clamp (show i < 2 ^ 31 by omega)]
    rw [cp2 (by decide) (by decide) (by decide) (by decide) (by decide), nI_1]
    exact ih (i + 1) (by omega)

set_option maxRecDepth 100000 in
set_option maxHeartbeats 4000000 in
theorem c_bkCopy_30_5  {M : mM} {J : mJ}  : Ct yX0_copyFrom cX0_copyFrom 3 none (rmD 0) false [.ref 30, .ref 5] LY M J (mNv LY (fun M1 J1 => M1 = cBk M 30 5 ∧ J1 = J)) := by
  refine ct_of (own := RX0) (ini := false) (ls := [some (.ref 30), some (.ref 5), none]) 1 (by decide +kernel) rfl (fun h => by cases h) rfl (fun ad => by first | exact Nat.le_of_ble_eq_true rfl) ?_
  refine v_iconst (pc := 0) (v := 0) (by decide) dX0_copyFrom_0 ?_
  refine v_ist_2 (pc := 1) dX0_copyFrom_1 (by decide) rfl ?_
  have e9 := l_bkCopy_30_5 (M := M) (J := J) 32 0 rfl
  rw [cpR_0, cpR_0] at e9
  exact e9

set_option maxRecDepth 100000 in
set_option maxHeartbeats 4000000 in
theorem l_bkCopy_5_18 {M : mM} {J : mJ} : ∀ (n i : Nat), n + i = 32 → V RX0 cX0_copyFrom 3 none false (rmD 0) false LY.length none (mNv LY (fun M1 J1 => M1 = cBk M 5 18 ∧ J1 = J)) 0 0 2 [some (.ref 5), some (.ref 18), some (.int (nI i))] [] LY (cpR (cpR M 6 19 0 i) 7 20 0 i) J := by
  intro n
  induction n with
  | zero =>
    intro i hi
    obtain rfl : i = 32 := by omega
    refine v_iload_n (pc := 2) dX0_copyFrom_2 rfl ?_
    refine v_bipush (pc := 3) (v := 32) (by decide) dX0_copyFrom_3 ?_
    refine v_icmp_ge (pc := 5) (tgt := 38) dX0_copyFrom_5 (by decide) (fun c_5 => ?_) (fun c_5 => absurd (by decide) c_5)
    refine v_aload_n (pc := 38) dX0_copyFrom_38 rfl ?_
    refine v_aload_n (pc := 39) dX0_copyFrom_39 rfl ?_
    refine v_getI (pc := 40) fkX0_18 ly18 rfl dX0_copyFrom_40 ?_
    refine v_putI (pc := 43) fkX0_18p ly5 rfl dX0_copyFrom_43 ?_
    refine v_aload_n (pc := 46) dX0_copyFrom_46 rfl ?_
    refine v_aload_n (pc := 47) dX0_copyFrom_47 rfl ?_
    refine v_getI (pc := 48) fkX0_22 ly18 rfl dX0_copyFrom_48 ?_
    refine v_putI (pc := 51) fkX0_22p ly5 rfl dX0_copyFrom_51 ?_
    refine v_vret (pc := 54) dX0_copyFrom_54 (Nat.zero_le _) (Nat.zero_le _) ?_
    refine ⟨?_, rfl⟩
    rw [cpR_st (lo := 2), cpR_nx (by decide) (by decide)]
    rfl
  | succ n ih =>
    intro i hi
    have hb7 : i < 32 := by omega
    have hc : ¬ (32 : Int32) ≤ nI i := nI_ge (b := 32) hb7 (by omega)
    refine v_iload_n (pc := 2) dX0_copyFrom_2 rfl ?_
    refine v_bipush (pc := 3) (v := 32) (by decide) dX0_copyFrom_3 ?_
    refine v_icmp_ge (pc := 5) (tgt := 38) dX0_copyFrom_5 (by decide) (fun c_5 => absurd c_5 (hc)) (fun c_5 => ?_)
    refine v_aload_n (pc := 8) dX0_copyFrom_8 rfl ?_
    refine v_getR (pc := 9) fkX0_9 ly5 rfl dX0_copyFrom_9 ?_
    refine v_iload_n (pc := 12) dX0_copyFrom_12 rfl ?_
    refine v_aload_n (pc := 13) dX0_copyFrom_13 rfl ?_
    refine v_getR (pc := 14) fkX0_9 ly18 rfl dX0_copyFrom_14 ?_
    refine v_iload_n (pc := 17) dX0_copyFrom_17 rfl ?_
    refine v_iald (pc := 18) ly19 ?_ dX0_copyFrom_18 ?_
    · exact vp_in_nI hb7 (by omega)
    refine v_iast (pc := 19) ly6 ?_ dX0_copyFrom_19 ?_
    · exact vp_in_nI hb7 (by omega)
    refine v_aload_n (pc := 20) dX0_copyFrom_20 rfl ?_
    refine v_getR (pc := 21) fkX0_15 ly5 rfl dX0_copyFrom_21 ?_
    refine v_iload_n (pc := 24) dX0_copyFrom_24 rfl ?_
    refine v_aload_n (pc := 25) dX0_copyFrom_25 rfl ?_
    refine v_getR (pc := 26) fkX0_15 ly18 rfl dX0_copyFrom_26 ?_
    refine v_iload_n (pc := 29) dX0_copyFrom_29 rfl ?_
    refine v_iald (pc := 30) ly20 ?_ dX0_copyFrom_30 ?_
    · exact vp_in_nI hb7 (by omega)
    refine v_iast (pc := 31) ly7 ?_ dX0_copyFrom_31 ?_
    · exact vp_in_nI hb7 (by omega)
    refine v_inc_2 (pc := 32) (v := 1) dX0_copyFrom_32 (by decide) (by decide) rfl ?_
    refine v_goto (pc := 35) (tgt := 2) dX0_copyFrom_35 (by decide) ?_
    simp only [nI_clamp (show i < 2 ^ 31 by omega)]
    rw [cp2 (by decide) (by decide) (by decide) (by decide) (by decide), nI_1]
    exact ih (i + 1) (by omega)

set_option maxRecDepth 100000 in
set_option maxHeartbeats 4000000 in
theorem c_bkCopy_5_18  {M : mM} {J : mJ}  : Ct yX0_copyFrom cX0_copyFrom 3 none (rmD 0) false [.ref 5, .ref 18] LY M J (mNv LY (fun M1 J1 => M1 = cBk M 5 18 ∧ J1 = J)) := by
  refine ct_of (own := RX0) (ini := false) (ls := [some (.ref 5), some (.ref 18), none]) 1 (by decide +kernel) rfl (fun h => by cases h) rfl (fun ad => by first | exact Nat.le_of_ble_eq_true rfl) ?_
  refine v_iconst (pc := 0) (v := 0) (by decide) dX0_copyFrom_0 ?_
  refine v_ist_2 (pc := 1) dX0_copyFrom_1 (by decide) rfl ?_
  have e9 := l_bkCopy_5_18 (M := M) (J := J) 32 0 rfl
  rw [cpR_0, cpR_0] at e9
  exact e9

set_option maxRecDepth 100000 in
set_option maxHeartbeats 4000000 in
theorem l_bkCopy_5_30 {M : mM} {J : mJ} : ∀ (n i : Nat), n + i = 32 → V RX0 cX0_copyFrom 3 none false (rmD 0) false LY.length none (mNv LY (fun M1 J1 => M1 = cBk M 5 30 ∧ J1 = J)) 0 0 2 [some (.ref 5), some (.ref 30), some (.int (nI i))] [] LY (cpR (cpR M 6 31 0 i) 7 32 0 i) J := by
  intro n
  induction n with
  | zero =>
    intro i hi
    obtain rfl : i = 32 := by omega
    refine v_iload_n (pc := 2) dX0_copyFrom_2 rfl ?_
    refine v_bipush (pc := 3) (v := 32) (by decide) dX0_copyFrom_3 ?_
    refine v_icmp_ge (pc := 5) (tgt := 38) dX0_copyFrom_5 (by decide) (fun c_5 => ?_) (fun c_5 => absurd (by decide) c_5)
    refine v_aload_n (pc := 38) dX0_copyFrom_38 rfl ?_
    refine v_aload_n (pc := 39) dX0_copyFrom_39 rfl ?_
    refine v_getI (pc := 40) fkX0_18 ly30 rfl dX0_copyFrom_40 ?_
    refine v_putI (pc := 43) fkX0_18p ly5 rfl dX0_copyFrom_43 ?_
    refine v_aload_n (pc := 46) dX0_copyFrom_46 rfl ?_
    refine v_aload_n (pc := 47) dX0_copyFrom_47 rfl ?_
    refine v_getI (pc := 48) fkX0_22 ly30 rfl dX0_copyFrom_48 ?_
    refine v_putI (pc := 51) fkX0_22p ly5 rfl dX0_copyFrom_51 ?_
    refine v_vret (pc := 54) dX0_copyFrom_54 (Nat.zero_le _) (Nat.zero_le _) ?_
    refine ⟨?_, rfl⟩
    rw [cpR_st (lo := 2), cpR_nx (by decide) (by decide)]
    rfl
  | succ n ih =>
    intro i hi
    have hb7 : i < 32 := by omega
    have hc : ¬ (32 : Int32) ≤ nI i := nI_ge (b := 32) hb7 (by omega)
    refine v_iload_n (pc := 2) dX0_copyFrom_2 rfl ?_
    refine v_bipush (pc := 3) (v := 32) (by decide) dX0_copyFrom_3 ?_
    refine v_icmp_ge (pc := 5) (tgt := 38) dX0_copyFrom_5 (by decide) (fun c_5 => absurd c_5 (hc)) (fun c_5 => ?_)
    refine v_aload_n (pc := 8) dX0_copyFrom_8 rfl ?_
    refine v_getR (pc := 9) fkX0_9 ly5 rfl dX0_copyFrom_9 ?_
    refine v_iload_n (pc := 12) dX0_copyFrom_12 rfl ?_
    refine v_aload_n (pc := 13) dX0_copyFrom_13 rfl ?_
    refine v_getR (pc := 14) fkX0_9 ly30 rfl dX0_copyFrom_14 ?_
    refine v_iload_n (pc := 17) dX0_copyFrom_17 rfl ?_
    refine v_iald (pc := 18) ly31 ?_ dX0_copyFrom_18 ?_
    · exact vp_in_nI hb7 (by omega)
    refine v_iast (pc := 19) ly6 ?_ dX0_copyFrom_19 ?_
    · exact vp_in_nI hb7 (by omega)
    refine v_aload_n (pc := 20) dX0_copyFrom_20 rfl ?_
    refine v_getR (pc := 21) fkX0_15 ly5 rfl dX0_copyFrom_21 ?_
    refine v_iload_n (pc := 24) dX0_copyFrom_24 rfl ?_
    refine v_aload_n (pc := 25) dX0_copyFrom_25 rfl ?_
    refine v_getR (pc := 26) fkX0_15 ly30 rfl dX0_copyFrom_26 ?_
    refine v_iload_n (pc := 29) dX0_copyFrom_29 rfl ?_
    refine v_iald (pc := 30) ly32 ?_ dX0_copyFrom_30 ?_
    · exact vp_in_nI hb7 (by omega)
    refine v_iast (pc := 31) ly7 ?_ dX0_copyFrom_31 ?_
    · exact vp_in_nI hb7 (by omega)
    refine v_inc_2 (pc := 32) (v := 1) dX0_copyFrom_32 (by decide) (by decide) rfl ?_
    refine v_goto (pc := 35) (tgt := 2) dX0_copyFrom_35 (by decide) ?_
    simp only [nI_clamp (show i < 2 ^ 31 by omega)]
    rw [cp2 (by decide) (by decide) (by decide) (by decide) (by decide), nI_1]
    exact ih (i + 1) (by omega)

set_option maxRecDepth 100000 in
set_option maxHeartbeats 4000000 in
theorem c_bkCopy_5_30  {M : mM} {J : mJ}  : Ct yX0_copyFrom cX0_copyFrom 3 none (rmD 0) false [.ref 5, .ref 30] LY M J (mNv LY (fun M1 J1 => M1 = cBk M 5 30 ∧ J1 = J)) := by
  refine ct_of (own := RX0) (ini := false) (ls := [some (.ref 5), some (.ref 30), none]) 1 (by decide +kernel) rfl (fun h => by cases h) rfl (fun ad => by first | exact Nat.le_of_ble_eq_true rfl) ?_
  refine v_iconst (pc := 0) (v := 0) (by decide) dX0_copyFrom_0 ?_
  refine v_ist_2 (pc := 1) dX0_copyFrom_1 (by decide) rfl ?_
  have e9 := l_bkCopy_5_30 (M := M) (J := J) 32 0 rfl
  rw [cpR_0, cpR_0] at e9
  exact e9

set_option maxRecDepth 100000 in
set_option maxHeartbeats 4000000 in
theorem l_lgCopy_38_2 {M : mM} {J : mJ} : ∀ (n i : Nat), n + i = 7 → V RX2 cX2_copyFrom 3 none false (rmD 1) false LY.length none (mNv LY (fun M1 J1 => M1 = cLg M 38 2 ∧ J1 = J)) 0 0 2 [some (.ref 38), some (.ref 2), some (.int (nI i))] [] LY (cpR (cpR M 39 3 0 i) 40 4 0 i) J := by
  intro n
  induction n with
  | zero =>
    intro i hi
    obtain rfl : i = 7 := by omega
    refine v_iload_n (pc := 2) dX2_copyFrom_2 rfl ?_
    refine v_bipush (pc := 3) (v := 7) (by decide) dX2_copyFrom_3 ?_
    refine v_icmp_ge (pc := 5) (tgt := 38) dX2_copyFrom_5 (by decide) (fun c_5 => ?_) (fun c_5 => absurd (by decide) c_5)
    refine v_aload_n (pc := 38) dX2_copyFrom_38 rfl ?_
    refine v_getR (pc := 39) fkX2_21 ly38 rfl dX2_copyFrom_39 ?_
    refine v_aload_n (pc := 42) dX2_copyFrom_42 rfl ?_
    refine v_getR (pc := 43) fkX2_21 ly2 rfl dX2_copyFrom_43 ?_
    refine v_cV1v (pc := 46) dX2_copyFrom_46 mkX2_79 c_bkCopy_41_5 ly41 rfl (Nat.le_of_ble_eq_true rfl) rfl (Nat.zero_le _) (Nat.zero_le _) (fun M_46 J_46 h_46 => ?_)
    obtain ⟨e2_46, e3_46⟩ := h_46
    replace e2_46 := e2_46.symm
    replace e3_46 := e3_46.symm
    subst e2_46 e3_46
    refine v_aload_n (pc := 49) dX2_copyFrom_49 rfl ?_
    refine v_aload_n (pc := 50) dX2_copyFrom_50 rfl ?_
    refine v_getI (pc := 51) fkX2_29 ly2 rfl dX2_copyFrom_51 ?_
    refine v_putI (pc := 54) fkX2_29p ly38 rfl dX2_copyFrom_54 ?_
    refine v_aload_n (pc := 57) dX2_copyFrom_57 rfl ?_
    refine v_aload_n (pc := 58) dX2_copyFrom_58 rfl ?_
    refine v_getI (pc := 59) fkX2_32 ly2 rfl dX2_copyFrom_59 ?_
    refine v_putI (pc := 62) fkX2_32p ly38 rfl dX2_copyFrom_62 ?_
    refine v_aload_n (pc := 65) dX2_copyFrom_65 rfl ?_
    refine v_aload_n (pc := 66) dX2_copyFrom_66 rfl ?_
    refine v_getI (pc := 67) fkX2_25 ly2 rfl dX2_copyFrom_67 ?_
    refine v_putI (pc := 70) fkX2_25p ly38 rfl dX2_copyFrom_70 ?_
    refine v_aload_n (pc := 73) dX2_copyFrom_73 rfl ?_
    refine v_aload_n (pc := 74) dX2_copyFrom_74 rfl ?_
    refine v_getI (pc := 75) fkX2_45 ly2 rfl dX2_copyFrom_75 ?_
    refine v_putI (pc := 78) fkX2_45p ly38 rfl dX2_copyFrom_78 ?_
    refine v_aload_n (pc := 81) dX2_copyFrom_81 rfl ?_
    refine v_aload_n (pc := 82) dX2_copyFrom_82 rfl ?_
    refine v_getI (pc := 83) fkX2_62 ly2 rfl dX2_copyFrom_83 ?_
    refine v_putI (pc := 86) fkX2_62p ly38 rfl dX2_copyFrom_86 ?_
    refine v_vret (pc := 89) dX2_copyFrom_89 (Nat.zero_le _) (Nat.zero_le _) ?_
    refine ⟨?_, rfl⟩
    rw [cpR_st (lo := 3), cpR_nx (by decide) (by decide), cpR_nx (by decide) (by decide), cpR_nx (by decide) (by decide), cpR_nx (by decide) (by decide)]
    rfl
  | succ n ih =>
    intro i hi
    have hb7 : i < 7 := by omega
    have hc : ¬ (7 : Int32) ≤ nI i := nI_ge (b := 7) hb7 (by omega)
    refine v_iload_n (pc := 2) dX2_copyFrom_2 rfl ?_
    refine v_bipush (pc := 3) (v := 7) (by decide) dX2_copyFrom_3 ?_
    refine v_icmp_ge (pc := 5) (tgt := 38) dX2_copyFrom_5 (by decide) (fun c_5 => absurd c_5 (hc)) (fun c_5 => ?_)
    refine v_aload_n (pc := 8) dX2_copyFrom_8 rfl ?_
    refine v_getR (pc := 9) fkX2_9 ly38 rfl dX2_copyFrom_9 ?_
    refine v_iload_n (pc := 12) dX2_copyFrom_12 rfl ?_
    refine v_aload_n (pc := 13) dX2_copyFrom_13 rfl ?_
    refine v_getR (pc := 14) fkX2_9 ly2 rfl dX2_copyFrom_14 ?_
    refine v_iload_n (pc := 17) dX2_copyFrom_17 rfl ?_
    refine v_iald (pc := 18) ly3 ?_ dX2_copyFrom_18 ?_
    · exact vp_in_nI hb7 (by omega)
    refine v_iast (pc := 19) ly39 ?_ dX2_copyFrom_19 ?_
    · exact vp_in_nI hb7 (by omega)
    refine v_aload_n (pc := 20) dX2_copyFrom_20 rfl ?_
    refine v_getR (pc := 21) fkX2_15 ly38 rfl dX2_copyFrom_21 ?_
    refine v_iload_n (pc := 24) dX2_copyFrom_24 rfl ?_
    refine v_aload_n (pc := 25) dX2_copyFrom_25 rfl ?_
    refine v_getR (pc := 26) fkX2_15 ly2 rfl dX2_copyFrom_26 ?_
    refine v_iload_n (pc := 29) dX2_copyFrom_29 rfl ?_
    refine v_iald (pc := 30) ly4 ?_ dX2_copyFrom_30 ?_
    · exact vp_in_nI hb7 (by omega)
    refine v_iast (pc := 31) ly40 ?_ dX2_copyFrom_31 ?_
    · exact vp_in_nI hb7 (by omega)
    refine v_inc_2 (pc := 32) (v := 1) dX2_copyFrom_32 (by decide) (by decide) rfl ?_
    refine v_goto (pc := 35) (tgt := 2) dX2_copyFrom_35 (by decide) ?_
    simp only [nI_clamp (show i < 2 ^ 31 by omega)]
    rw [cp2 (by decide) (by decide) (by decide) (by decide) (by decide), nI_1]
    exact ih (i + 1) (by omega)

set_option maxRecDepth 100000 in
set_option maxHeartbeats 4000000 in
theorem c_lgCopy_38_2  {M : mM} {J : mJ}  : Ct yX2_copyFrom cX2_copyFrom 3 none (rmD 1) false [.ref 38, .ref 2] LY M J (mNv LY (fun M1 J1 => M1 = cLg M 38 2 ∧ J1 = J)) := by
  refine ct_of (own := RX2) (ini := false) (ls := [some (.ref 38), some (.ref 2), none]) 1 (by decide +kernel) rfl (fun h => by cases h) rfl (fun ad => by first | exact Nat.le_of_ble_eq_true rfl) ?_
  refine v_iconst (pc := 0) (v := 0) (by decide) dX2_copyFrom_0 ?_
  refine v_ist_2 (pc := 1) dX2_copyFrom_1 (by decide) rfl ?_
  have e9 := l_lgCopy_38_2 (M := M) (J := J) 7 0 rfl
  rw [cpR_0, cpR_0] at e9
  exact e9

set_option maxRecDepth 100000 in
set_option maxHeartbeats 4000000 in
theorem l_lgCopy_2_38 {M : mM} {J : mJ} : ∀ (n i : Nat), n + i = 7 → V RX2 cX2_copyFrom 3 none false (rmD 1) false LY.length none (mNv LY (fun M1 J1 => M1 = cLg M 2 38 ∧ J1 = J)) 0 0 2 [some (.ref 2), some (.ref 38), some (.int (nI i))] [] LY (cpR (cpR M 3 39 0 i) 4 40 0 i) J := by
  intro n
  induction n with
  | zero =>
    intro i hi
    obtain rfl : i = 7 := by omega
    refine v_iload_n (pc := 2) dX2_copyFrom_2 rfl ?_
    refine v_bipush (pc := 3) (v := 7) (by decide) dX2_copyFrom_3 ?_
    refine v_icmp_ge (pc := 5) (tgt := 38) dX2_copyFrom_5 (by decide) (fun c_5 => ?_) (fun c_5 => absurd (by decide) c_5)
    refine v_aload_n (pc := 38) dX2_copyFrom_38 rfl ?_
    refine v_getR (pc := 39) fkX2_21 ly2 rfl dX2_copyFrom_39 ?_
    refine v_aload_n (pc := 42) dX2_copyFrom_42 rfl ?_
    refine v_getR (pc := 43) fkX2_21 ly38 rfl dX2_copyFrom_43 ?_
    refine v_cV1v (pc := 46) dX2_copyFrom_46 mkX2_79 c_bkCopy_5_41 ly5 rfl (Nat.le_of_ble_eq_true rfl) rfl (Nat.zero_le _) (Nat.zero_le _) (fun M_46 J_46 h_46 => ?_)
    obtain ⟨e2_46, e3_46⟩ := h_46
    replace e2_46 := e2_46.symm
    replace e3_46 := e3_46.symm
    subst e2_46 e3_46
    refine v_aload_n (pc := 49) dX2_copyFrom_49 rfl ?_
    refine v_aload_n (pc := 50) dX2_copyFrom_50 rfl ?_
    refine v_getI (pc := 51) fkX2_29 ly38 rfl dX2_copyFrom_51 ?_
    refine v_putI (pc := 54) fkX2_29p ly2 rfl dX2_copyFrom_54 ?_
    refine v_aload_n (pc := 57) dX2_copyFrom_57 rfl ?_
    refine v_aload_n (pc := 58) dX2_copyFrom_58 rfl ?_
    refine v_getI (pc := 59) fkX2_32 ly38 rfl dX2_copyFrom_59 ?_
    refine v_putI (pc := 62) fkX2_32p ly2 rfl dX2_copyFrom_62 ?_
    refine v_aload_n (pc := 65) dX2_copyFrom_65 rfl ?_
    refine v_aload_n (pc := 66) dX2_copyFrom_66 rfl ?_
    refine v_getI (pc := 67) fkX2_25 ly38 rfl dX2_copyFrom_67 ?_
    refine v_putI (pc := 70) fkX2_25p ly2 rfl dX2_copyFrom_70 ?_
    refine v_aload_n (pc := 73) dX2_copyFrom_73 rfl ?_
    refine v_aload_n (pc := 74) dX2_copyFrom_74 rfl ?_
    refine v_getI (pc := 75) fkX2_45 ly38 rfl dX2_copyFrom_75 ?_
    refine v_putI (pc := 78) fkX2_45p ly2 rfl dX2_copyFrom_78 ?_
    refine v_aload_n (pc := 81) dX2_copyFrom_81 rfl ?_
    refine v_aload_n (pc := 82) dX2_copyFrom_82 rfl ?_
    refine v_getI (pc := 83) fkX2_62 ly38 rfl dX2_copyFrom_83 ?_
    refine v_putI (pc := 86) fkX2_62p ly2 rfl dX2_copyFrom_86 ?_
    refine v_vret (pc := 89) dX2_copyFrom_89 (Nat.zero_le _) (Nat.zero_le _) ?_
    refine ⟨?_, rfl⟩
    rw [cpR_st (lo := 3), cpR_nx (by decide) (by decide), cpR_nx (by decide) (by decide), cpR_nx (by decide) (by decide), cpR_nx (by decide) (by decide)]
    rfl
  | succ n ih =>
    intro i hi
    have hb7 : i < 7 := by omega
    have hc : ¬ (7 : Int32) ≤ nI i := nI_ge (b := 7) hb7 (by omega)
    refine v_iload_n (pc := 2) dX2_copyFrom_2 rfl ?_
    refine v_bipush (pc := 3) (v := 7) (by decide) dX2_copyFrom_3 ?_
    refine v_icmp_ge (pc := 5) (tgt := 38) dX2_copyFrom_5 (by decide) (fun c_5 => absurd c_5 (hc)) (fun c_5 => ?_)
    refine v_aload_n (pc := 8) dX2_copyFrom_8 rfl ?_
    refine v_getR (pc := 9) fkX2_9 ly2 rfl dX2_copyFrom_9 ?_
    refine v_iload_n (pc := 12) dX2_copyFrom_12 rfl ?_
    refine v_aload_n (pc := 13) dX2_copyFrom_13 rfl ?_
    refine v_getR (pc := 14) fkX2_9 ly38 rfl dX2_copyFrom_14 ?_
    refine v_iload_n (pc := 17) dX2_copyFrom_17 rfl ?_
    refine v_iald (pc := 18) ly39 ?_ dX2_copyFrom_18 ?_
    · exact vp_in_nI hb7 (by omega)
    refine v_iast (pc := 19) ly3 ?_ dX2_copyFrom_19 ?_
    · exact vp_in_nI hb7 (by omega)
    refine v_aload_n (pc := 20) dX2_copyFrom_20 rfl ?_
    refine v_getR (pc := 21) fkX2_15 ly2 rfl dX2_copyFrom_21 ?_
    refine v_iload_n (pc := 24) dX2_copyFrom_24 rfl ?_
    refine v_aload_n (pc := 25) dX2_copyFrom_25 rfl ?_
    refine v_getR (pc := 26) fkX2_15 ly38 rfl dX2_copyFrom_26 ?_
    refine v_iload_n (pc := 29) dX2_copyFrom_29 rfl ?_
    refine v_iald (pc := 30) ly40 ?_ dX2_copyFrom_30 ?_
    · exact vp_in_nI hb7 (by omega)
    refine v_iast (pc := 31) ly4 ?_ dX2_copyFrom_31 ?_
    · exact vp_in_nI hb7 (by omega)
    refine v_inc_2 (pc := 32) (v := 1) dX2_copyFrom_32 (by decide) (by decide) rfl ?_
    refine v_goto (pc := 35) (tgt := 2) dX2_copyFrom_35 (by decide) ?_
    simp only [nI_clamp (show i < 2 ^ 31 by omega)]
    rw [cp2 (by decide) (by decide) (by decide) (by decide) (by decide), nI_1]
    exact ih (i + 1) (by omega)

set_option maxRecDepth 100000 in
set_option maxHeartbeats 4000000 in
theorem c_lgCopy_2_38  {M : mM} {J : mJ}  : Ct yX2_copyFrom cX2_copyFrom 3 none (rmD 1) false [.ref 2, .ref 38] LY M J (mNv LY (fun M1 J1 => M1 = cLg M 2 38 ∧ J1 = J)) := by
  refine ct_of (own := RX2) (ini := false) (ls := [some (.ref 2), some (.ref 38), none]) 1 (by decide +kernel) rfl (fun h => by cases h) rfl (fun ad => by first | exact Nat.le_of_ble_eq_true rfl) ?_
  refine v_iconst (pc := 0) (v := 0) (by decide) dX2_copyFrom_0 ?_
  refine v_ist_2 (pc := 1) dX2_copyFrom_1 (by decide) rfl ?_
  have e9 := l_lgCopy_2_38 (M := M) (J := J) 7 0 rfl
  rw [cpR_0, cpR_0] at e9
  exact e9

set_option maxRecDepth 100000 in
set_option maxHeartbeats 4000000 in
theorem l_lgCopy_15_2 {M : mM} {J : mJ} : ∀ (n i : Nat), n + i = 7 → V RX2 cX2_copyFrom 3 none false (rmD 1) false LY.length none (mNv LY (fun M1 J1 => M1 = cLg M 15 2 ∧ J1 = J)) 0 0 2 [some (.ref 15), some (.ref 2), some (.int (nI i))] [] LY (cpR (cpR M 16 3 0 i) 17 4 0 i) J := by
  intro n
  induction n with
  | zero =>
    intro i hi
    obtain rfl : i = 7 := by omega
    refine v_iload_n (pc := 2) dX2_copyFrom_2 rfl ?_
    refine v_bipush (pc := 3) (v := 7) (by decide) dX2_copyFrom_3 ?_
    refine v_icmp_ge (pc := 5) (tgt := 38) dX2_copyFrom_5 (by decide) (fun c_5 => ?_) (fun c_5 => absurd (by decide) c_5)
    refine v_aload_n (pc := 38) dX2_copyFrom_38 rfl ?_
    refine v_getR (pc := 39) fkX2_21 ly15 rfl dX2_copyFrom_39 ?_
    refine v_aload_n (pc := 42) dX2_copyFrom_42 rfl ?_
    refine v_getR (pc := 43) fkX2_21 ly2 rfl dX2_copyFrom_43 ?_
    refine v_cV1v (pc := 46) dX2_copyFrom_46 mkX2_79 c_bkCopy_18_5 ly18 rfl (Nat.le_of_ble_eq_true rfl) rfl (Nat.zero_le _) (Nat.zero_le _) (fun M_46 J_46 h_46 => ?_)
    obtain ⟨e2_46, e3_46⟩ := h_46
    replace e2_46 := e2_46.symm
    replace e3_46 := e3_46.symm
    subst e2_46 e3_46
    refine v_aload_n (pc := 49) dX2_copyFrom_49 rfl ?_
    refine v_aload_n (pc := 50) dX2_copyFrom_50 rfl ?_
    refine v_getI (pc := 51) fkX2_29 ly2 rfl dX2_copyFrom_51 ?_
    refine v_putI (pc := 54) fkX2_29p ly15 rfl dX2_copyFrom_54 ?_
    refine v_aload_n (pc := 57) dX2_copyFrom_57 rfl ?_
    refine v_aload_n (pc := 58) dX2_copyFrom_58 rfl ?_
    refine v_getI (pc := 59) fkX2_32 ly2 rfl dX2_copyFrom_59 ?_
    refine v_putI (pc := 62) fkX2_32p ly15 rfl dX2_copyFrom_62 ?_
    refine v_aload_n (pc := 65) dX2_copyFrom_65 rfl ?_
    refine v_aload_n (pc := 66) dX2_copyFrom_66 rfl ?_
    refine v_getI (pc := 67) fkX2_25 ly2 rfl dX2_copyFrom_67 ?_
    refine v_putI (pc := 70) fkX2_25p ly15 rfl dX2_copyFrom_70 ?_
    refine v_aload_n (pc := 73) dX2_copyFrom_73 rfl ?_
    refine v_aload_n (pc := 74) dX2_copyFrom_74 rfl ?_
    refine v_getI (pc := 75) fkX2_45 ly2 rfl dX2_copyFrom_75 ?_
    refine v_putI (pc := 78) fkX2_45p ly15 rfl dX2_copyFrom_78 ?_
    refine v_aload_n (pc := 81) dX2_copyFrom_81 rfl ?_
    refine v_aload_n (pc := 82) dX2_copyFrom_82 rfl ?_
    refine v_getI (pc := 83) fkX2_62 ly2 rfl dX2_copyFrom_83 ?_
    refine v_putI (pc := 86) fkX2_62p ly15 rfl dX2_copyFrom_86 ?_
    refine v_vret (pc := 89) dX2_copyFrom_89 (Nat.zero_le _) (Nat.zero_le _) ?_
    refine ⟨?_, rfl⟩
    rw [cpR_st (lo := 3), cpR_nx (by decide) (by decide), cpR_nx (by decide) (by decide), cpR_nx (by decide) (by decide), cpR_nx (by decide) (by decide)]
    rfl
  | succ n ih =>
    intro i hi
    have hb7 : i < 7 := by omega
    have hc : ¬ (7 : Int32) ≤ nI i := nI_ge (b := 7) hb7 (by omega)
    refine v_iload_n (pc := 2) dX2_copyFrom_2 rfl ?_
    refine v_bipush (pc := 3) (v := 7) (by decide) dX2_copyFrom_3 ?_
    refine v_icmp_ge (pc := 5) (tgt := 38) dX2_copyFrom_5 (by decide) (fun c_5 => absurd c_5 (hc)) (fun c_5 => ?_)
    refine v_aload_n (pc := 8) dX2_copyFrom_8 rfl ?_
    refine v_getR (pc := 9) fkX2_9 ly15 rfl dX2_copyFrom_9 ?_
    refine v_iload_n (pc := 12) dX2_copyFrom_12 rfl ?_
    refine v_aload_n (pc := 13) dX2_copyFrom_13 rfl ?_
    refine v_getR (pc := 14) fkX2_9 ly2 rfl dX2_copyFrom_14 ?_
    refine v_iload_n (pc := 17) dX2_copyFrom_17 rfl ?_
    refine v_iald (pc := 18) ly3 ?_ dX2_copyFrom_18 ?_
    · exact vp_in_nI hb7 (by omega)
    refine v_iast (pc := 19) ly16 ?_ dX2_copyFrom_19 ?_
    · exact vp_in_nI hb7 (by omega)
    refine v_aload_n (pc := 20) dX2_copyFrom_20 rfl ?_
    refine v_getR (pc := 21) fkX2_15 ly15 rfl dX2_copyFrom_21 ?_
    refine v_iload_n (pc := 24) dX2_copyFrom_24 rfl ?_
    refine v_aload_n (pc := 25) dX2_copyFrom_25 rfl ?_
    refine v_getR (pc := 26) fkX2_15 ly2 rfl dX2_copyFrom_26 ?_
    refine v_iload_n (pc := 29) dX2_copyFrom_29 rfl ?_
    refine v_iald (pc := 30) ly4 ?_ dX2_copyFrom_30 ?_
    · exact vp_in_nI hb7 (by omega)
    refine v_iast (pc := 31) ly17 ?_ dX2_copyFrom_31 ?_
    · exact vp_in_nI hb7 (by omega)
    refine v_inc_2 (pc := 32) (v := 1) dX2_copyFrom_32 (by decide) (by decide) rfl ?_
    refine v_goto (pc := 35) (tgt := 2) dX2_copyFrom_35 (by decide) ?_
    simp only [nI_clamp (show i < 2 ^ 31 by omega)]
    rw [cp2 (by decide) (by decide) (by decide) (by decide) (by decide), nI_1]
    exact ih (i + 1) (by omega)

set_option maxRecDepth 100000 in
set_option maxHeartbeats 4000000 in
theorem c_lgCopy_15_2  {M : mM} {J : mJ}  : Ct yX2_copyFrom cX2_copyFrom 3 none (rmD 1) false [.ref 15, .ref 2] LY M J (mNv LY (fun M1 J1 => M1 = cLg M 15 2 ∧ J1 = J)) := by
  refine ct_of (own := RX2) (ini := false) (ls := [some (.ref 15), some (.ref 2), none]) 1 (by decide +kernel) rfl (fun h => by cases h) rfl (fun ad => by first | exact Nat.le_of_ble_eq_true rfl) ?_
  refine v_iconst (pc := 0) (v := 0) (by decide) dX2_copyFrom_0 ?_
  refine v_ist_2 (pc := 1) dX2_copyFrom_1 (by decide) rfl ?_
  have e9 := l_lgCopy_15_2 (M := M) (J := J) 7 0 rfl
  rw [cpR_0, cpR_0] at e9
  exact e9

set_option maxRecDepth 100000 in
set_option maxHeartbeats 4000000 in
theorem l_lgCopy_27_2 {M : mM} {J : mJ} : ∀ (n i : Nat), n + i = 7 → V RX2 cX2_copyFrom 3 none false (rmD 1) false LY.length none (mNv LY (fun M1 J1 => M1 = cLg M 27 2 ∧ J1 = J)) 0 0 2 [some (.ref 27), some (.ref 2), some (.int (nI i))] [] LY (cpR (cpR M 28 3 0 i) 29 4 0 i) J := by
  intro n
  induction n with
  | zero =>
    intro i hi
    obtain rfl : i = 7 := by omega
    refine v_iload_n (pc := 2) dX2_copyFrom_2 rfl ?_
    refine v_bipush (pc := 3) (v := 7) (by decide) dX2_copyFrom_3 ?_
    refine v_icmp_ge (pc := 5) (tgt := 38) dX2_copyFrom_5 (by decide) (fun c_5 => ?_) (fun c_5 => absurd (by decide) c_5)
    refine v_aload_n (pc := 38) dX2_copyFrom_38 rfl ?_
    refine v_getR (pc := 39) fkX2_21 ly27 rfl dX2_copyFrom_39 ?_
    refine v_aload_n (pc := 42) dX2_copyFrom_42 rfl ?_
    refine v_getR (pc := 43) fkX2_21 ly2 rfl dX2_copyFrom_43 ?_
    refine v_cV1v (pc := 46) dX2_copyFrom_46 mkX2_79 c_bkCopy_30_5 ly30 rfl (Nat.le_of_ble_eq_true rfl) rfl (Nat.zero_le _) (Nat.zero_le _) (fun M_46 J_46 h_46 => ?_)
    obtain ⟨e2_46, e3_46⟩ := h_46
    replace e2_46 := e2_46.symm
    replace e3_46 := e3_46.symm
    subst e2_46 e3_46
    refine v_aload_n (pc := 49) dX2_copyFrom_49 rfl ?_
    refine v_aload_n (pc := 50) dX2_copyFrom_50 rfl ?_
    refine v_getI (pc := 51) fkX2_29 ly2 rfl dX2_copyFrom_51 ?_
    refine v_putI (pc := 54) fkX2_29p ly27 rfl dX2_copyFrom_54 ?_
    refine v_aload_n (pc := 57) dX2_copyFrom_57 rfl ?_
    refine v_aload_n (pc := 58) dX2_copyFrom_58 rfl ?_
    refine v_getI (pc := 59) fkX2_32 ly2 rfl dX2_copyFrom_59 ?_
    refine v_putI (pc := 62) fkX2_32p ly27 rfl dX2_copyFrom_62 ?_
    refine v_aload_n (pc := 65) dX2_copyFrom_65 rfl ?_
    refine v_aload_n (pc := 66) dX2_copyFrom_66 rfl ?_
    refine v_getI (pc := 67) fkX2_25 ly2 rfl dX2_copyFrom_67 ?_
    refine v_putI (pc := 70) fkX2_25p ly27 rfl dX2_copyFrom_70 ?_
    refine v_aload_n (pc := 73) dX2_copyFrom_73 rfl ?_
    refine v_aload_n (pc := 74) dX2_copyFrom_74 rfl ?_
    refine v_getI (pc := 75) fkX2_45 ly2 rfl dX2_copyFrom_75 ?_
    refine v_putI (pc := 78) fkX2_45p ly27 rfl dX2_copyFrom_78 ?_
    refine v_aload_n (pc := 81) dX2_copyFrom_81 rfl ?_
    refine v_aload_n (pc := 82) dX2_copyFrom_82 rfl ?_
    refine v_getI (pc := 83) fkX2_62 ly2 rfl dX2_copyFrom_83 ?_
    refine v_putI (pc := 86) fkX2_62p ly27 rfl dX2_copyFrom_86 ?_
    refine v_vret (pc := 89) dX2_copyFrom_89 (Nat.zero_le _) (Nat.zero_le _) ?_
    refine ⟨?_, rfl⟩
    rw [cpR_st (lo := 3), cpR_nx (by decide) (by decide), cpR_nx (by decide) (by decide), cpR_nx (by decide) (by decide), cpR_nx (by decide) (by decide)]
    rfl
  | succ n ih =>
    intro i hi
    have hb7 : i < 7 := by omega
    have hc : ¬ (7 : Int32) ≤ nI i := nI_ge (b := 7) hb7 (by omega)
    refine v_iload_n (pc := 2) dX2_copyFrom_2 rfl ?_
    refine v_bipush (pc := 3) (v := 7) (by decide) dX2_copyFrom_3 ?_
    refine v_icmp_ge (pc := 5) (tgt := 38) dX2_copyFrom_5 (by decide) (fun c_5 => absurd c_5 (hc)) (fun c_5 => ?_)
    refine v_aload_n (pc := 8) dX2_copyFrom_8 rfl ?_
    refine v_getR (pc := 9) fkX2_9 ly27 rfl dX2_copyFrom_9 ?_
    refine v_iload_n (pc := 12) dX2_copyFrom_12 rfl ?_
    refine v_aload_n (pc := 13) dX2_copyFrom_13 rfl ?_
    refine v_getR (pc := 14) fkX2_9 ly2 rfl dX2_copyFrom_14 ?_
    refine v_iload_n (pc := 17) dX2_copyFrom_17 rfl ?_
    refine v_iald (pc := 18) ly3 ?_ dX2_copyFrom_18 ?_
    · exact vp_in_nI hb7 (by omega)
    refine v_iast (pc := 19) ly28 ?_ dX2_copyFrom_19 ?_
    · exact vp_in_nI hb7 (by omega)
    refine v_aload_n (pc := 20) dX2_copyFrom_20 rfl ?_
    refine v_getR (pc := 21) fkX2_15 ly27 rfl dX2_copyFrom_21 ?_
    refine v_iload_n (pc := 24) dX2_copyFrom_24 rfl ?_
    refine v_aload_n (pc := 25) dX2_copyFrom_25 rfl ?_
    refine v_getR (pc := 26) fkX2_15 ly2 rfl dX2_copyFrom_26 ?_
    refine v_iload_n (pc := 29) dX2_copyFrom_29 rfl ?_
    refine v_iald (pc := 30) ly4 ?_ dX2_copyFrom_30 ?_
    · exact vp_in_nI hb7 (by omega)
    refine v_iast (pc := 31) ly29 ?_ dX2_copyFrom_31 ?_
    · exact vp_in_nI hb7 (by omega)
    refine v_inc_2 (pc := 32) (v := 1) dX2_copyFrom_32 (by decide) (by decide) rfl ?_
    refine v_goto (pc := 35) (tgt := 2) dX2_copyFrom_35 (by decide) ?_
    simp only [nI_clamp (show i < 2 ^ 31 by omega)]
    rw [cp2 (by decide) (by decide) (by decide) (by decide) (by decide), nI_1]
    exact ih (i + 1) (by omega)

set_option maxRecDepth 100000 in
set_option maxHeartbeats 4000000 in
theorem c_lgCopy_27_2  {M : mM} {J : mJ}  : Ct yX2_copyFrom cX2_copyFrom 3 none (rmD 1) false [.ref 27, .ref 2] LY M J (mNv LY (fun M1 J1 => M1 = cLg M 27 2 ∧ J1 = J)) := by
  refine ct_of (own := RX2) (ini := false) (ls := [some (.ref 27), some (.ref 2), none]) 1 (by decide +kernel) rfl (fun h => by cases h) rfl (fun ad => by first | exact Nat.le_of_ble_eq_true rfl) ?_
  refine v_iconst (pc := 0) (v := 0) (by decide) dX2_copyFrom_0 ?_
  refine v_ist_2 (pc := 1) dX2_copyFrom_1 (by decide) rfl ?_
  have e9 := l_lgCopy_27_2 (M := M) (J := J) 7 0 rfl
  rw [cpR_0, cpR_0] at e9
  exact e9

set_option maxRecDepth 100000 in
set_option maxHeartbeats 4000000 in
theorem l_lgCopy_2_15 {M : mM} {J : mJ} : ∀ (n i : Nat), n + i = 7 → V RX2 cX2_copyFrom 3 none false (rmD 1) false LY.length none (mNv LY (fun M1 J1 => M1 = cLg M 2 15 ∧ J1 = J)) 0 0 2 [some (.ref 2), some (.ref 15), some (.int (nI i))] [] LY (cpR (cpR M 3 16 0 i) 4 17 0 i) J := by
  intro n
  induction n with
  | zero =>
    intro i hi
    obtain rfl : i = 7 := by omega
    refine v_iload_n (pc := 2) dX2_copyFrom_2 rfl ?_
    refine v_bipush (pc := 3) (v := 7) (by decide) dX2_copyFrom_3 ?_
    refine v_icmp_ge (pc := 5) (tgt := 38) dX2_copyFrom_5 (by decide) (fun c_5 => ?_) (fun c_5 => absurd (by decide) c_5)
    refine v_aload_n (pc := 38) dX2_copyFrom_38 rfl ?_
    refine v_getR (pc := 39) fkX2_21 ly2 rfl dX2_copyFrom_39 ?_
    refine v_aload_n (pc := 42) dX2_copyFrom_42 rfl ?_
    refine v_getR (pc := 43) fkX2_21 ly15 rfl dX2_copyFrom_43 ?_
    refine v_cV1v (pc := 46) dX2_copyFrom_46 mkX2_79 c_bkCopy_5_18 ly5 rfl (Nat.le_of_ble_eq_true rfl) rfl (Nat.zero_le _) (Nat.zero_le _) (fun M_46 J_46 h_46 => ?_)
    obtain ⟨e2_46, e3_46⟩ := h_46
    replace e2_46 := e2_46.symm
    replace e3_46 := e3_46.symm
    subst e2_46 e3_46
    refine v_aload_n (pc := 49) dX2_copyFrom_49 rfl ?_
    refine v_aload_n (pc := 50) dX2_copyFrom_50 rfl ?_
    refine v_getI (pc := 51) fkX2_29 ly15 rfl dX2_copyFrom_51 ?_
    refine v_putI (pc := 54) fkX2_29p ly2 rfl dX2_copyFrom_54 ?_
    refine v_aload_n (pc := 57) dX2_copyFrom_57 rfl ?_
    refine v_aload_n (pc := 58) dX2_copyFrom_58 rfl ?_
    refine v_getI (pc := 59) fkX2_32 ly15 rfl dX2_copyFrom_59 ?_
    refine v_putI (pc := 62) fkX2_32p ly2 rfl dX2_copyFrom_62 ?_
    refine v_aload_n (pc := 65) dX2_copyFrom_65 rfl ?_
    refine v_aload_n (pc := 66) dX2_copyFrom_66 rfl ?_
    refine v_getI (pc := 67) fkX2_25 ly15 rfl dX2_copyFrom_67 ?_
    refine v_putI (pc := 70) fkX2_25p ly2 rfl dX2_copyFrom_70 ?_
    refine v_aload_n (pc := 73) dX2_copyFrom_73 rfl ?_
    refine v_aload_n (pc := 74) dX2_copyFrom_74 rfl ?_
    refine v_getI (pc := 75) fkX2_45 ly15 rfl dX2_copyFrom_75 ?_
    refine v_putI (pc := 78) fkX2_45p ly2 rfl dX2_copyFrom_78 ?_
    refine v_aload_n (pc := 81) dX2_copyFrom_81 rfl ?_
    refine v_aload_n (pc := 82) dX2_copyFrom_82 rfl ?_
    refine v_getI (pc := 83) fkX2_62 ly15 rfl dX2_copyFrom_83 ?_
    refine v_putI (pc := 86) fkX2_62p ly2 rfl dX2_copyFrom_86 ?_
    refine v_vret (pc := 89) dX2_copyFrom_89 (Nat.zero_le _) (Nat.zero_le _) ?_
    refine ⟨?_, rfl⟩
    rw [cpR_st (lo := 3), cpR_nx (by decide) (by decide), cpR_nx (by decide) (by decide), cpR_nx (by decide) (by decide), cpR_nx (by decide) (by decide)]
    rfl
  | succ n ih =>
    intro i hi
    have hb7 : i < 7 := by omega
    have hc : ¬ (7 : Int32) ≤ nI i := nI_ge (b := 7) hb7 (by omega)
    refine v_iload_n (pc := 2) dX2_copyFrom_2 rfl ?_
    refine v_bipush (pc := 3) (v := 7) (by decide) dX2_copyFrom_3 ?_
    refine v_icmp_ge (pc := 5) (tgt := 38) dX2_copyFrom_5 (by decide) (fun c_5 => absurd c_5 (hc)) (fun c_5 => ?_)
    refine v_aload_n (pc := 8) dX2_copyFrom_8 rfl ?_
    refine v_getR (pc := 9) fkX2_9 ly2 rfl dX2_copyFrom_9 ?_
    refine v_iload_n (pc := 12) dX2_copyFrom_12 rfl ?_
    refine v_aload_n (pc := 13) dX2_copyFrom_13 rfl ?_
    refine v_getR (pc := 14) fkX2_9 ly15 rfl dX2_copyFrom_14 ?_
    refine v_iload_n (pc := 17) dX2_copyFrom_17 rfl ?_
    refine v_iald (pc := 18) ly16 ?_ dX2_copyFrom_18 ?_
    · exact vp_in_nI hb7 (by omega)
    refine v_iast (pc := 19) ly3 ?_ dX2_copyFrom_19 ?_
    · exact vp_in_nI hb7 (by omega)
    refine v_aload_n (pc := 20) dX2_copyFrom_20 rfl ?_
    refine v_getR (pc := 21) fkX2_15 ly2 rfl dX2_copyFrom_21 ?_
    refine v_iload_n (pc := 24) dX2_copyFrom_24 rfl ?_
    refine v_aload_n (pc := 25) dX2_copyFrom_25 rfl ?_
    refine v_getR (pc := 26) fkX2_15 ly15 rfl dX2_copyFrom_26 ?_
    refine v_iload_n (pc := 29) dX2_copyFrom_29 rfl ?_
    refine v_iald (pc := 30) ly17 ?_ dX2_copyFrom_30 ?_
    · exact vp_in_nI hb7 (by omega)
    refine v_iast (pc := 31) ly4 ?_ dX2_copyFrom_31 ?_
    · exact vp_in_nI hb7 (by omega)
    refine v_inc_2 (pc := 32) (v := 1) dX2_copyFrom_32 (by decide) (by decide) rfl ?_
    refine v_goto (pc := 35) (tgt := 2) dX2_copyFrom_35 (by decide) ?_
    simp only [nI_clamp (show i < 2 ^ 31 by omega)]
    rw [cp2 (by decide) (by decide) (by decide) (by decide) (by decide), nI_1]
    exact ih (i + 1) (by omega)

set_option maxRecDepth 100000 in
set_option maxHeartbeats 4000000 in
theorem c_lgCopy_2_15  {M : mM} {J : mJ}  : Ct yX2_copyFrom cX2_copyFrom 3 none (rmD 1) false [.ref 2, .ref 15] LY M J (mNv LY (fun M1 J1 => M1 = cLg M 2 15 ∧ J1 = J)) := by
  refine ct_of (own := RX2) (ini := false) (ls := [some (.ref 2), some (.ref 15), none]) 1 (by decide +kernel) rfl (fun h => by cases h) rfl (fun ad => by first | exact Nat.le_of_ble_eq_true rfl) ?_
  refine v_iconst (pc := 0) (v := 0) (by decide) dX2_copyFrom_0 ?_
  refine v_ist_2 (pc := 1) dX2_copyFrom_1 (by decide) rfl ?_
  have e9 := l_lgCopy_2_15 (M := M) (J := J) 7 0 rfl
  rw [cpR_0, cpR_0] at e9
  exact e9

set_option maxRecDepth 100000 in
set_option maxHeartbeats 4000000 in
theorem l_lgCopy_2_27 {M : mM} {J : mJ} : ∀ (n i : Nat), n + i = 7 → V RX2 cX2_copyFrom 3 none false (rmD 1) false LY.length none (mNv LY (fun M1 J1 => M1 = cLg M 2 27 ∧ J1 = J)) 0 0 2 [some (.ref 2), some (.ref 27), some (.int (nI i))] [] LY (cpR (cpR M 3 28 0 i) 4 29 0 i) J := by
  intro n
  induction n with
  | zero =>
    intro i hi
    obtain rfl : i = 7 := by omega
    refine v_iload_n (pc := 2) dX2_copyFrom_2 rfl ?_
    refine v_bipush (pc := 3) (v := 7) (by decide) dX2_copyFrom_3 ?_
    refine v_icmp_ge (pc := 5) (tgt := 38) dX2_copyFrom_5 (by decide) (fun c_5 => ?_) (fun c_5 => absurd (by decide) c_5)
    refine v_aload_n (pc := 38) dX2_copyFrom_38 rfl ?_
    refine v_getR (pc := 39) fkX2_21 ly2 rfl dX2_copyFrom_39 ?_
    refine v_aload_n (pc := 42) dX2_copyFrom_42 rfl ?_
    refine v_getR (pc := 43) fkX2_21 ly27 rfl dX2_copyFrom_43 ?_
    refine v_cV1v (pc := 46) dX2_copyFrom_46 mkX2_79 c_bkCopy_5_30 ly5 rfl (Nat.le_of_ble_eq_true rfl) rfl (Nat.zero_le _) (Nat.zero_le _) (fun M_46 J_46 h_46 => ?_)
    obtain ⟨e2_46, e3_46⟩ := h_46
    replace e2_46 := e2_46.symm
    replace e3_46 := e3_46.symm
    subst e2_46 e3_46
    refine v_aload_n (pc := 49) dX2_copyFrom_49 rfl ?_
    refine v_aload_n (pc := 50) dX2_copyFrom_50 rfl ?_
    refine v_getI (pc := 51) fkX2_29 ly27 rfl dX2_copyFrom_51 ?_
    refine v_putI (pc := 54) fkX2_29p ly2 rfl dX2_copyFrom_54 ?_
    refine v_aload_n (pc := 57) dX2_copyFrom_57 rfl ?_
    refine v_aload_n (pc := 58) dX2_copyFrom_58 rfl ?_
    refine v_getI (pc := 59) fkX2_32 ly27 rfl dX2_copyFrom_59 ?_
    refine v_putI (pc := 62) fkX2_32p ly2 rfl dX2_copyFrom_62 ?_
    refine v_aload_n (pc := 65) dX2_copyFrom_65 rfl ?_
    refine v_aload_n (pc := 66) dX2_copyFrom_66 rfl ?_
    refine v_getI (pc := 67) fkX2_25 ly27 rfl dX2_copyFrom_67 ?_
    refine v_putI (pc := 70) fkX2_25p ly2 rfl dX2_copyFrom_70 ?_
    refine v_aload_n (pc := 73) dX2_copyFrom_73 rfl ?_
    refine v_aload_n (pc := 74) dX2_copyFrom_74 rfl ?_
    refine v_getI (pc := 75) fkX2_45 ly27 rfl dX2_copyFrom_75 ?_
    refine v_putI (pc := 78) fkX2_45p ly2 rfl dX2_copyFrom_78 ?_
    refine v_aload_n (pc := 81) dX2_copyFrom_81 rfl ?_
    refine v_aload_n (pc := 82) dX2_copyFrom_82 rfl ?_
    refine v_getI (pc := 83) fkX2_62 ly27 rfl dX2_copyFrom_83 ?_
    refine v_putI (pc := 86) fkX2_62p ly2 rfl dX2_copyFrom_86 ?_
    refine v_vret (pc := 89) dX2_copyFrom_89 (Nat.zero_le _) (Nat.zero_le _) ?_
    refine ⟨?_, rfl⟩
    rw [cpR_st (lo := 3), cpR_nx (by decide) (by decide), cpR_nx (by decide) (by decide), cpR_nx (by decide) (by decide), cpR_nx (by decide) (by decide)]
    rfl
  | succ n ih =>
    intro i hi
    have hb7 : i < 7 := by omega
    have hc : ¬ (7 : Int32) ≤ nI i := nI_ge (b := 7) hb7 (by omega)
    refine v_iload_n (pc := 2) dX2_copyFrom_2 rfl ?_
    refine v_bipush (pc := 3) (v := 7) (by decide) dX2_copyFrom_3 ?_
    refine v_icmp_ge (pc := 5) (tgt := 38) dX2_copyFrom_5 (by decide) (fun c_5 => absurd c_5 (hc)) (fun c_5 => ?_)
    refine v_aload_n (pc := 8) dX2_copyFrom_8 rfl ?_
    refine v_getR (pc := 9) fkX2_9 ly2 rfl dX2_copyFrom_9 ?_
    refine v_iload_n (pc := 12) dX2_copyFrom_12 rfl ?_
    refine v_aload_n (pc := 13) dX2_copyFrom_13 rfl ?_
    refine v_getR (pc := 14) fkX2_9 ly27 rfl dX2_copyFrom_14 ?_
    refine v_iload_n (pc := 17) dX2_copyFrom_17 rfl ?_
    refine v_iald (pc := 18) ly28 ?_ dX2_copyFrom_18 ?_
    · exact vp_in_nI hb7 (by omega)
    refine v_iast (pc := 19) ly3 ?_ dX2_copyFrom_19 ?_
    · exact vp_in_nI hb7 (by omega)
    refine v_aload_n (pc := 20) dX2_copyFrom_20 rfl ?_
    refine v_getR (pc := 21) fkX2_15 ly2 rfl dX2_copyFrom_21 ?_
    refine v_iload_n (pc := 24) dX2_copyFrom_24 rfl ?_
    refine v_aload_n (pc := 25) dX2_copyFrom_25 rfl ?_
    refine v_getR (pc := 26) fkX2_15 ly27 rfl dX2_copyFrom_26 ?_
    refine v_iload_n (pc := 29) dX2_copyFrom_29 rfl ?_
    refine v_iald (pc := 30) ly29 ?_ dX2_copyFrom_30 ?_
    · exact vp_in_nI hb7 (by omega)
    refine v_iast (pc := 31) ly4 ?_ dX2_copyFrom_31 ?_
    · exact vp_in_nI hb7 (by omega)
    refine v_inc_2 (pc := 32) (v := 1) dX2_copyFrom_32 (by decide) (by decide) rfl ?_
    refine v_goto (pc := 35) (tgt := 2) dX2_copyFrom_35 (by decide) ?_
    simp only [nI_clamp (show i < 2 ^ 31 by omega)]
    rw [cp2 (by decide) (by decide) (by decide) (by decide) (by decide), nI_1]
    exact ih (i + 1) (by omega)

set_option maxRecDepth 100000 in
set_option maxHeartbeats 4000000 in
theorem c_lgCopy_2_27  {M : mM} {J : mJ}  : Ct yX2_copyFrom cX2_copyFrom 3 none (rmD 1) false [.ref 2, .ref 27] LY M J (mNv LY (fun M1 J1 => M1 = cLg M 2 27 ∧ J1 = J)) := by
  refine ct_of (own := RX2) (ini := false) (ls := [some (.ref 2), some (.ref 27), none]) 1 (by decide +kernel) rfl (fun h => by cases h) rfl (fun ad => by first | exact Nat.le_of_ble_eq_true rfl) ?_
  refine v_iconst (pc := 0) (v := 0) (by decide) dX2_copyFrom_0 ?_
  refine v_ist_2 (pc := 1) dX2_copyFrom_1 (by decide) rfl ?_
  have e9 := l_lgCopy_2_27 (M := M) (J := J) 7 0 rfl
  rw [cpR_0, cpR_0] at e9
  exact e9

set_option maxRecDepth 100000 in
set_option maxHeartbeats 4000000 in
theorem l_sgCopy_21_8 {M : mM} {J : mJ} : ∀ (n i : Nat), n + i = 8 → V RX4 cX4_copyFrom 3 none false (rmD 0) false LY.length none (mNv LY (fun M1 J1 => M1 = cSg M 21 8 ∧ J1 = J)) 0 0 2 [some (.ref 21), some (.ref 8), some (.int (nI i))] [] LY (cpR (cpR (cpR M 22 9 0 i) 23 10 0 i) 24 11 0 i) J := by
  intro n
  induction n with
  | zero =>
    intro i hi
    obtain rfl : i = 8 := by omega
    refine v_iload_n (pc := 2) dX4_copyFrom_2 rfl ?_
    refine v_bipush (pc := 3) (v := 8) (by decide) dX4_copyFrom_3 ?_
    refine v_icmp_ge (pc := 5) (tgt := 50) dX4_copyFrom_5 (by decide) (fun c_5 => ?_) (fun c_5 => absurd (by decide) c_5)
    refine v_aload_n (pc := 50) dX4_copyFrom_50 rfl ?_
    refine v_aload_n (pc := 51) dX4_copyFrom_51 rfl ?_
    refine v_getI (pc := 52) fkX4_21 ly8 rfl dX4_copyFrom_52 ?_
    refine v_putI (pc := 55) fkX4_21p ly21 rfl dX4_copyFrom_55 ?_
    refine v_vret (pc := 58) dX4_copyFrom_58 (Nat.zero_le _) (Nat.zero_le _) ?_
    refine ⟨?_, rfl⟩
    rw [cpR_st (lo := 3)]
    rfl
  | succ n ih =>
    intro i hi
    have hb7 : i < 8 := by omega
    have hc : ¬ (8 : Int32) ≤ nI i := nI_ge (b := 8) hb7 (by omega)
    refine v_iload_n (pc := 2) dX4_copyFrom_2 rfl ?_
    refine v_bipush (pc := 3) (v := 8) (by decide) dX4_copyFrom_3 ?_
    refine v_icmp_ge (pc := 5) (tgt := 50) dX4_copyFrom_5 (by decide) (fun c_5 => absurd c_5 (hc)) (fun c_5 => ?_)
    refine v_aload_n (pc := 8) dX4_copyFrom_8 rfl ?_
    refine v_getR (pc := 9) fkX4_9 ly21 rfl dX4_copyFrom_9 ?_
    refine v_iload_n (pc := 12) dX4_copyFrom_12 rfl ?_
    refine v_aload_n (pc := 13) dX4_copyFrom_13 rfl ?_
    refine v_getR (pc := 14) fkX4_9 ly8 rfl dX4_copyFrom_14 ?_
    refine v_iload_n (pc := 17) dX4_copyFrom_17 rfl ?_
    refine v_iald (pc := 18) ly9 ?_ dX4_copyFrom_18 ?_
    · exact vp_in_nI hb7 (by omega)
    refine v_iast (pc := 19) ly22 ?_ dX4_copyFrom_19 ?_
    · exact vp_in_nI hb7 (by omega)
    refine v_aload_n (pc := 20) dX4_copyFrom_20 rfl ?_
    refine v_getR (pc := 21) fkX4_15 ly21 rfl dX4_copyFrom_21 ?_
    refine v_iload_n (pc := 24) dX4_copyFrom_24 rfl ?_
    refine v_aload_n (pc := 25) dX4_copyFrom_25 rfl ?_
    refine v_getR (pc := 26) fkX4_15 ly8 rfl dX4_copyFrom_26 ?_
    refine v_iload_n (pc := 29) dX4_copyFrom_29 rfl ?_
    refine v_iald (pc := 30) ly10 ?_ dX4_copyFrom_30 ?_
    · exact vp_in_nI hb7 (by omega)
    refine v_iast (pc := 31) ly23 ?_ dX4_copyFrom_31 ?_
    · exact vp_in_nI hb7 (by omega)
    refine v_aload_n (pc := 32) dX4_copyFrom_32 rfl ?_
    refine v_getR (pc := 33) fkX4_18 ly21 rfl dX4_copyFrom_33 ?_
    refine v_iload_n (pc := 36) dX4_copyFrom_36 rfl ?_
    refine v_aload_n (pc := 37) dX4_copyFrom_37 rfl ?_
    refine v_getR (pc := 38) fkX4_18 ly8 rfl dX4_copyFrom_38 ?_
    refine v_iload_n (pc := 41) dX4_copyFrom_41 rfl ?_
    refine v_iald (pc := 42) ly11 ?_ dX4_copyFrom_42 ?_
    · exact vp_in_nI hb7 (by omega)
    refine v_iast (pc := 43) ly24 ?_ dX4_copyFrom_43 ?_
    · exact vp_in_nI hb7 (by omega)
    refine v_inc_2 (pc := 44) (v := 1) dX4_copyFrom_44 (by decide) (by decide) rfl ?_
    refine v_goto (pc := 47) (tgt := 2) dX4_copyFrom_47 (by decide) ?_
    simp only [nI_clamp (show i < 2 ^ 31 by omega)]
    rw [cp3 (by decide) (by decide) (by decide) (by decide) (by decide) (by decide) (by decide) (by decide) (by decide) (by decide) (by decide) (by decide) rfl rfl rfl, nI_1]
    exact ih (i + 1) (by omega)

set_option maxRecDepth 100000 in
set_option maxHeartbeats 4000000 in
theorem c_sgCopy_21_8  {M : mM} {J : mJ}  : Ct yX4_copyFrom cX4_copyFrom 3 none (rmD 0) false [.ref 21, .ref 8] LY M J (mNv LY (fun M1 J1 => M1 = cSg M 21 8 ∧ J1 = J)) := by
  refine ct_of (own := RX4) (ini := false) (ls := [some (.ref 21), some (.ref 8), none]) 1 (by decide +kernel) rfl (fun h => by cases h) rfl (fun ad => by first | exact Nat.le_of_ble_eq_true rfl) ?_
  refine v_iconst (pc := 0) (v := 0) (by decide) dX4_copyFrom_0 ?_
  refine v_ist_2 (pc := 1) dX4_copyFrom_1 (by decide) rfl ?_
  have e9 := l_sgCopy_21_8 (M := M) (J := J) 8 0 rfl
  rw [cpR_0, cpR_0, cpR_0] at e9
  exact e9

set_option maxRecDepth 100000 in
set_option maxHeartbeats 4000000 in
theorem l_sgCopy_33_8 {M : mM} {J : mJ} : ∀ (n i : Nat), n + i = 8 → V RX4 cX4_copyFrom 3 none false (rmD 0) false LY.length none (mNv LY (fun M1 J1 => M1 = cSg M 33 8 ∧ J1 = J)) 0 0 2 [some (.ref 33), some (.ref 8), some (.int (nI i))] [] LY (cpR (cpR (cpR M 34 9 0 i) 35 10 0 i) 36 11 0 i) J := by
  intro n
  induction n with
  | zero =>
    intro i hi
    obtain rfl : i = 8 := by omega
    refine v_iload_n (pc := 2) dX4_copyFrom_2 rfl ?_
    refine v_bipush (pc := 3) (v := 8) (by decide) dX4_copyFrom_3 ?_
    refine v_icmp_ge (pc := 5) (tgt := 50) dX4_copyFrom_5 (by decide) (fun c_5 => ?_) (fun c_5 => absurd (by decide) c_5)
    refine v_aload_n (pc := 50) dX4_copyFrom_50 rfl ?_
    refine v_aload_n (pc := 51) dX4_copyFrom_51 rfl ?_
    refine v_getI (pc := 52) fkX4_21 ly8 rfl dX4_copyFrom_52 ?_
    refine v_putI (pc := 55) fkX4_21p ly33 rfl dX4_copyFrom_55 ?_
    refine v_vret (pc := 58) dX4_copyFrom_58 (Nat.zero_le _) (Nat.zero_le _) ?_
    refine ⟨?_, rfl⟩
    rw [cpR_st (lo := 3)]
    rfl
  | succ n ih =>
    intro i hi
    have hb7 : i < 8 := by omega
    have hc : ¬ (8 : Int32) ≤ nI i := nI_ge (b := 8) hb7 (by omega)
    refine v_iload_n (pc := 2) dX4_copyFrom_2 rfl ?_
    refine v_bipush (pc := 3) (v := 8) (by decide) dX4_copyFrom_3 ?_
    refine v_icmp_ge (pc := 5) (tgt := 50) dX4_copyFrom_5 (by decide) (fun c_5 => absurd c_5 (hc)) (fun c_5 => ?_)
    refine v_aload_n (pc := 8) dX4_copyFrom_8 rfl ?_
    refine v_getR (pc := 9) fkX4_9 ly33 rfl dX4_copyFrom_9 ?_
    refine v_iload_n (pc := 12) dX4_copyFrom_12 rfl ?_
    refine v_aload_n (pc := 13) dX4_copyFrom_13 rfl ?_
    refine v_getR (pc := 14) fkX4_9 ly8 rfl dX4_copyFrom_14 ?_
    refine v_iload_n (pc := 17) dX4_copyFrom_17 rfl ?_
    refine v_iald (pc := 18) ly9 ?_ dX4_copyFrom_18 ?_
    · exact vp_in_nI hb7 (by omega)
    refine v_iast (pc := 19) ly34 ?_ dX4_copyFrom_19 ?_
    · exact vp_in_nI hb7 (by omega)
    refine v_aload_n (pc := 20) dX4_copyFrom_20 rfl ?_
    refine v_getR (pc := 21) fkX4_15 ly33 rfl dX4_copyFrom_21 ?_
    refine v_iload_n (pc := 24) dX4_copyFrom_24 rfl ?_
    refine v_aload_n (pc := 25) dX4_copyFrom_25 rfl ?_
    refine v_getR (pc := 26) fkX4_15 ly8 rfl dX4_copyFrom_26 ?_
    refine v_iload_n (pc := 29) dX4_copyFrom_29 rfl ?_
    refine v_iald (pc := 30) ly10 ?_ dX4_copyFrom_30 ?_
    · exact vp_in_nI hb7 (by omega)
    refine v_iast (pc := 31) ly35 ?_ dX4_copyFrom_31 ?_
    · exact vp_in_nI hb7 (by omega)
    refine v_aload_n (pc := 32) dX4_copyFrom_32 rfl ?_
    refine v_getR (pc := 33) fkX4_18 ly33 rfl dX4_copyFrom_33 ?_
    refine v_iload_n (pc := 36) dX4_copyFrom_36 rfl ?_
    refine v_aload_n (pc := 37) dX4_copyFrom_37 rfl ?_
    refine v_getR (pc := 38) fkX4_18 ly8 rfl dX4_copyFrom_38 ?_
    refine v_iload_n (pc := 41) dX4_copyFrom_41 rfl ?_
    refine v_iald (pc := 42) ly11 ?_ dX4_copyFrom_42 ?_
    · exact vp_in_nI hb7 (by omega)
    refine v_iast (pc := 43) ly36 ?_ dX4_copyFrom_43 ?_
    · exact vp_in_nI hb7 (by omega)
    refine v_inc_2 (pc := 44) (v := 1) dX4_copyFrom_44 (by decide) (by decide) rfl ?_
    refine v_goto (pc := 47) (tgt := 2) dX4_copyFrom_47 (by decide) ?_
    simp only [nI_clamp (show i < 2 ^ 31 by omega)]
    rw [cp3 (by decide) (by decide) (by decide) (by decide) (by decide) (by decide) (by decide) (by decide) (by decide) (by decide) (by decide) (by decide) rfl rfl rfl, nI_1]
    exact ih (i + 1) (by omega)

set_option maxRecDepth 100000 in
set_option maxHeartbeats 4000000 in
theorem c_sgCopy_33_8  {M : mM} {J : mJ}  : Ct yX4_copyFrom cX4_copyFrom 3 none (rmD 0) false [.ref 33, .ref 8] LY M J (mNv LY (fun M1 J1 => M1 = cSg M 33 8 ∧ J1 = J)) := by
  refine ct_of (own := RX4) (ini := false) (ls := [some (.ref 33), some (.ref 8), none]) 1 (by decide +kernel) rfl (fun h => by cases h) rfl (fun ad => by first | exact Nat.le_of_ble_eq_true rfl) ?_
  refine v_iconst (pc := 0) (v := 0) (by decide) dX4_copyFrom_0 ?_
  refine v_ist_2 (pc := 1) dX4_copyFrom_1 (by decide) rfl ?_
  have e9 := l_sgCopy_33_8 (M := M) (J := J) 8 0 rfl
  rw [cpR_0, cpR_0, cpR_0] at e9
  exact e9

set_option maxRecDepth 100000 in
set_option maxHeartbeats 4000000 in
theorem l_sgCopy_8_21 {M : mM} {J : mJ} : ∀ (n i : Nat), n + i = 8 → V RX4 cX4_copyFrom 3 none false (rmD 0) false LY.length none (mNv LY (fun M1 J1 => M1 = cSg M 8 21 ∧ J1 = J)) 0 0 2 [some (.ref 8), some (.ref 21), some (.int (nI i))] [] LY (cpR (cpR (cpR M 9 22 0 i) 10 23 0 i) 11 24 0 i) J := by
  intro n
  induction n with
  | zero =>
    intro i hi
    obtain rfl : i = 8 := by omega
    refine v_iload_n (pc := 2) dX4_copyFrom_2 rfl ?_
    refine v_bipush (pc := 3) (v := 8) (by decide) dX4_copyFrom_3 ?_
    refine v_icmp_ge (pc := 5) (tgt := 50) dX4_copyFrom_5 (by decide) (fun c_5 => ?_) (fun c_5 => absurd (by decide) c_5)
    refine v_aload_n (pc := 50) dX4_copyFrom_50 rfl ?_
    refine v_aload_n (pc := 51) dX4_copyFrom_51 rfl ?_
    refine v_getI (pc := 52) fkX4_21 ly21 rfl dX4_copyFrom_52 ?_
    refine v_putI (pc := 55) fkX4_21p ly8 rfl dX4_copyFrom_55 ?_
    refine v_vret (pc := 58) dX4_copyFrom_58 (Nat.zero_le _) (Nat.zero_le _) ?_
    refine ⟨?_, rfl⟩
    rw [cpR_st (lo := 3)]
    rfl
  | succ n ih =>
    intro i hi
    have hb7 : i < 8 := by omega
    have hc : ¬ (8 : Int32) ≤ nI i := nI_ge (b := 8) hb7 (by omega)
    refine v_iload_n (pc := 2) dX4_copyFrom_2 rfl ?_
    refine v_bipush (pc := 3) (v := 8) (by decide) dX4_copyFrom_3 ?_
    refine v_icmp_ge (pc := 5) (tgt := 50) dX4_copyFrom_5 (by decide) (fun c_5 => absurd c_5 (hc)) (fun c_5 => ?_)
    refine v_aload_n (pc := 8) dX4_copyFrom_8 rfl ?_
    refine v_getR (pc := 9) fkX4_9 ly8 rfl dX4_copyFrom_9 ?_
    refine v_iload_n (pc := 12) dX4_copyFrom_12 rfl ?_
    refine v_aload_n (pc := 13) dX4_copyFrom_13 rfl ?_
    refine v_getR (pc := 14) fkX4_9 ly21 rfl dX4_copyFrom_14 ?_
    refine v_iload_n (pc := 17) dX4_copyFrom_17 rfl ?_
    refine v_iald (pc := 18) ly22 ?_ dX4_copyFrom_18 ?_
    · exact vp_in_nI hb7 (by omega)
    refine v_iast (pc := 19) ly9 ?_ dX4_copyFrom_19 ?_
    · exact vp_in_nI hb7 (by omega)
    refine v_aload_n (pc := 20) dX4_copyFrom_20 rfl ?_
    refine v_getR (pc := 21) fkX4_15 ly8 rfl dX4_copyFrom_21 ?_
    refine v_iload_n (pc := 24) dX4_copyFrom_24 rfl ?_
    refine v_aload_n (pc := 25) dX4_copyFrom_25 rfl ?_
    refine v_getR (pc := 26) fkX4_15 ly21 rfl dX4_copyFrom_26 ?_
    refine v_iload_n (pc := 29) dX4_copyFrom_29 rfl ?_
    refine v_iald (pc := 30) ly23 ?_ dX4_copyFrom_30 ?_
    · exact vp_in_nI hb7 (by omega)
    refine v_iast (pc := 31) ly10 ?_ dX4_copyFrom_31 ?_
    · exact vp_in_nI hb7 (by omega)
    refine v_aload_n (pc := 32) dX4_copyFrom_32 rfl ?_
    refine v_getR (pc := 33) fkX4_18 ly8 rfl dX4_copyFrom_33 ?_
    refine v_iload_n (pc := 36) dX4_copyFrom_36 rfl ?_
    refine v_aload_n (pc := 37) dX4_copyFrom_37 rfl ?_
    refine v_getR (pc := 38) fkX4_18 ly21 rfl dX4_copyFrom_38 ?_
    refine v_iload_n (pc := 41) dX4_copyFrom_41 rfl ?_
    refine v_iald (pc := 42) ly24 ?_ dX4_copyFrom_42 ?_
    · exact vp_in_nI hb7 (by omega)
    refine v_iast (pc := 43) ly11 ?_ dX4_copyFrom_43 ?_
    · exact vp_in_nI hb7 (by omega)
    refine v_inc_2 (pc := 44) (v := 1) dX4_copyFrom_44 (by decide) (by decide) rfl ?_
    refine v_goto (pc := 47) (tgt := 2) dX4_copyFrom_47 (by decide) ?_
    simp only [nI_clamp (show i < 2 ^ 31 by omega)]
    rw [cp3 (by decide) (by decide) (by decide) (by decide) (by decide) (by decide) (by decide) (by decide) (by decide) (by decide) (by decide) (by decide) rfl rfl rfl, nI_1]
    exact ih (i + 1) (by omega)

set_option maxRecDepth 100000 in
set_option maxHeartbeats 4000000 in
theorem c_sgCopy_8_21  {M : mM} {J : mJ}  : Ct yX4_copyFrom cX4_copyFrom 3 none (rmD 0) false [.ref 8, .ref 21] LY M J (mNv LY (fun M1 J1 => M1 = cSg M 8 21 ∧ J1 = J)) := by
  refine ct_of (own := RX4) (ini := false) (ls := [some (.ref 8), some (.ref 21), none]) 1 (by decide +kernel) rfl (fun h => by cases h) rfl (fun ad => by first | exact Nat.le_of_ble_eq_true rfl) ?_
  refine v_iconst (pc := 0) (v := 0) (by decide) dX4_copyFrom_0 ?_
  refine v_ist_2 (pc := 1) dX4_copyFrom_1 (by decide) rfl ?_
  have e9 := l_sgCopy_8_21 (M := M) (J := J) 8 0 rfl
  rw [cpR_0, cpR_0, cpR_0] at e9
  exact e9

set_option maxRecDepth 100000 in
set_option maxHeartbeats 4000000 in
theorem l_sgCopy_8_33 {M : mM} {J : mJ} : ∀ (n i : Nat), n + i = 8 → V RX4 cX4_copyFrom 3 none false (rmD 0) false LY.length none (mNv LY (fun M1 J1 => M1 = cSg M 8 33 ∧ J1 = J)) 0 0 2 [some (.ref 8), some (.ref 33), some (.int (nI i))] [] LY (cpR (cpR (cpR M 9 34 0 i) 10 35 0 i) 11 36 0 i) J := by
  intro n
  induction n with
  | zero =>
    intro i hi
    obtain rfl : i = 8 := by omega
    refine v_iload_n (pc := 2) dX4_copyFrom_2 rfl ?_
    refine v_bipush (pc := 3) (v := 8) (by decide) dX4_copyFrom_3 ?_
    refine v_icmp_ge (pc := 5) (tgt := 50) dX4_copyFrom_5 (by decide) (fun c_5 => ?_) (fun c_5 => absurd (by decide) c_5)
    refine v_aload_n (pc := 50) dX4_copyFrom_50 rfl ?_
    refine v_aload_n (pc := 51) dX4_copyFrom_51 rfl ?_
    refine v_getI (pc := 52) fkX4_21 ly33 rfl dX4_copyFrom_52 ?_
    refine v_putI (pc := 55) fkX4_21p ly8 rfl dX4_copyFrom_55 ?_
    refine v_vret (pc := 58) dX4_copyFrom_58 (Nat.zero_le _) (Nat.zero_le _) ?_
    refine ⟨?_, rfl⟩
    rw [cpR_st (lo := 3)]
    rfl
  | succ n ih =>
    intro i hi
    have hb7 : i < 8 := by omega
    have hc : ¬ (8 : Int32) ≤ nI i := nI_ge (b := 8) hb7 (by omega)
    refine v_iload_n (pc := 2) dX4_copyFrom_2 rfl ?_
    refine v_bipush (pc := 3) (v := 8) (by decide) dX4_copyFrom_3 ?_
    refine v_icmp_ge (pc := 5) (tgt := 50) dX4_copyFrom_5 (by decide) (fun c_5 => absurd c_5 (hc)) (fun c_5 => ?_)
    refine v_aload_n (pc := 8) dX4_copyFrom_8 rfl ?_
    refine v_getR (pc := 9) fkX4_9 ly8 rfl dX4_copyFrom_9 ?_
    refine v_iload_n (pc := 12) dX4_copyFrom_12 rfl ?_
    refine v_aload_n (pc := 13) dX4_copyFrom_13 rfl ?_
    refine v_getR (pc := 14) fkX4_9 ly33 rfl dX4_copyFrom_14 ?_
    refine v_iload_n (pc := 17) dX4_copyFrom_17 rfl ?_
    refine v_iald (pc := 18) ly34 ?_ dX4_copyFrom_18 ?_
    · exact vp_in_nI hb7 (by omega)
    refine v_iast (pc := 19) ly9 ?_ dX4_copyFrom_19 ?_
    · exact vp_in_nI hb7 (by omega)
    refine v_aload_n (pc := 20) dX4_copyFrom_20 rfl ?_
    refine v_getR (pc := 21) fkX4_15 ly8 rfl dX4_copyFrom_21 ?_
    refine v_iload_n (pc := 24) dX4_copyFrom_24 rfl ?_
    refine v_aload_n (pc := 25) dX4_copyFrom_25 rfl ?_
    refine v_getR (pc := 26) fkX4_15 ly33 rfl dX4_copyFrom_26 ?_
    refine v_iload_n (pc := 29) dX4_copyFrom_29 rfl ?_
    refine v_iald (pc := 30) ly35 ?_ dX4_copyFrom_30 ?_
    · exact vp_in_nI hb7 (by omega)
    refine v_iast (pc := 31) ly10 ?_ dX4_copyFrom_31 ?_
    · exact vp_in_nI hb7 (by omega)
    refine v_aload_n (pc := 32) dX4_copyFrom_32 rfl ?_
    refine v_getR (pc := 33) fkX4_18 ly8 rfl dX4_copyFrom_33 ?_
    refine v_iload_n (pc := 36) dX4_copyFrom_36 rfl ?_
    refine v_aload_n (pc := 37) dX4_copyFrom_37 rfl ?_
    refine v_getR (pc := 38) fkX4_18 ly33 rfl dX4_copyFrom_38 ?_
    refine v_iload_n (pc := 41) dX4_copyFrom_41 rfl ?_
    refine v_iald (pc := 42) ly36 ?_ dX4_copyFrom_42 ?_
    · exact vp_in_nI hb7 (by omega)
    refine v_iast (pc := 43) ly11 ?_ dX4_copyFrom_43 ?_
    · exact vp_in_nI hb7 (by omega)
    refine v_inc_2 (pc := 44) (v := 1) dX4_copyFrom_44 (by decide) (by decide) rfl ?_
    refine v_goto (pc := 47) (tgt := 2) dX4_copyFrom_47 (by decide) ?_
    simp only [nI_clamp (show i < 2 ^ 31 by omega)]
    rw [cp3 (by decide) (by decide) (by decide) (by decide) (by decide) (by decide) (by decide) (by decide) (by decide) (by decide) (by decide) (by decide) rfl rfl rfl, nI_1]
    exact ih (i + 1) (by omega)

set_option maxRecDepth 100000 in
set_option maxHeartbeats 4000000 in
theorem c_sgCopy_8_33  {M : mM} {J : mJ}  : Ct yX4_copyFrom cX4_copyFrom 3 none (rmD 0) false [.ref 8, .ref 33] LY M J (mNv LY (fun M1 J1 => M1 = cSg M 8 33 ∧ J1 = J)) := by
  refine ct_of (own := RX4) (ini := false) (ls := [some (.ref 8), some (.ref 33), none]) 1 (by decide +kernel) rfl (fun h => by cases h) rfl (fun ad => by first | exact Nat.le_of_ble_eq_true rfl) ?_
  refine v_iconst (pc := 0) (v := 0) (by decide) dX4_copyFrom_0 ?_
  refine v_ist_2 (pc := 1) dX4_copyFrom_1 (by decide) rfl ?_
  have e9 := l_sgCopy_8_33 (M := M) (J := J) 8 0 rfl
  rw [cpR_0, cpR_0, cpR_0] at e9
  exact e9

set_option maxRecDepth 100000 in
set_option maxHeartbeats 4000000 in
theorem l_hsCopy_14_1 {M : mM} {J : mJ} : ∀ (n i : Nat), n + i = 6 → V RX1 cX1_copyFrom 3 none false (rmD 2) false LY.length none (mNv LY (fun M1 J1 => M1 = cHs M 14 1 ∧ J1 = J)) 0 0 24 [some (.ref 14), some (.ref 1), some (.int (nI i))] [] LY (cpR (cSg (cLg M 15 2) 21 8) 25 12 0 i) J := by
  intro n
  induction n with
  | zero =>
    intro i hi
    obtain rfl : i = 6 := by omega
    refine v_iload_n (pc := 24) dX1_copyFrom_24 rfl ?_
    refine v_bipush (pc := 25) (v := 6) (by decide) dX1_copyFrom_25 ?_
    refine v_icmp_ge (pc := 27) (tgt := 48) dX1_copyFrom_27 (by decide) (fun c_27 => ?_) (fun c_27 => absurd (by decide) c_27)
    refine v_vret (pc := 48) dX1_copyFrom_48 (Nat.zero_le _) (Nat.zero_le _) ?_
    exact ⟨rfl, rfl⟩
  | succ n ih =>
    intro i hi
    have hb7 : i < 6 := by omega
    have hc : ¬ (6 : Int32) ≤ nI i := nI_ge (b := 6) hb7 (by omega)
    refine v_iload_n (pc := 24) dX1_copyFrom_24 rfl ?_
    refine v_bipush (pc := 25) (v := 6) (by decide) dX1_copyFrom_25 ?_
    refine v_icmp_ge (pc := 27) (tgt := 48) dX1_copyFrom_27 (by decide) (fun c_27 => absurd c_27 (hc)) (fun c_27 => ?_)
    refine v_aload_n (pc := 30) dX1_copyFrom_30 rfl ?_
    refine v_getR (pc := 31) fkX1_25 ly14 rfl dX1_copyFrom_31 ?_
    refine v_iload_n (pc := 34) dX1_copyFrom_34 rfl ?_
    refine v_aload_n (pc := 35) dX1_copyFrom_35 rfl ?_
    refine v_getR (pc := 36) fkX1_25 ly1 rfl dX1_copyFrom_36 ?_
    refine v_iload_n (pc := 39) dX1_copyFrom_39 rfl ?_
    refine v_iald (pc := 40) ly12 ?_ dX1_copyFrom_40 ?_
    · exact vp_in_nI hb7 (by omega)
    refine v_iast (pc := 41) ly25 ?_ dX1_copyFrom_41 ?_
    · exact vp_in_nI hb7 (by omega)
    refine v_inc_2 (pc := 42) (v := 1) dX1_copyFrom_42 (by decide) (by decide) rfl ?_
    refine v_goto (pc := 45) (tgt := 24) dX1_copyFrom_45 (by decide) ?_
    simp only [nI_clamp (show i < 2 ^ 31 by omega)]
    rw [cpR_nx (by decide) (Nat.zero_le _), nI_1]
    exact ih (i + 1) (by omega)

set_option maxRecDepth 100000 in
set_option maxHeartbeats 4000000 in
theorem c_hsCopy_14_1  {M : mM} {J : mJ}  : Ct yX1_copyFrom cX1_copyFrom 3 none (rmD 2) false [.ref 14, .ref 1] LY M J (mNv LY (fun M1 J1 => M1 = cHs M 14 1 ∧ J1 = J)) := by
  refine ct_of (own := RX1) (ini := false) (ls := [some (.ref 14), some (.ref 1), none]) 1 (by decide +kernel) rfl (fun h => by cases h) rfl (fun ad => by first | exact Nat.le_of_ble_eq_true rfl) ?_
  refine v_aload_n (pc := 0) dX1_copyFrom_0 rfl ?_
  refine v_getR (pc := 1) fkX1_12 ly14 rfl dX1_copyFrom_1 ?_
  refine v_aload_n (pc := 4) dX1_copyFrom_4 rfl ?_
  refine v_getR (pc := 5) fkX1_12 ly1 rfl dX1_copyFrom_5 ?_
  refine v_cV1v (pc := 8) dX1_copyFrom_8 mkX1_30 c_lgCopy_15_2 ly15 rfl (Nat.le_of_ble_eq_true rfl) rfl (Nat.zero_le _) (Nat.zero_le _) (fun M_8 J_8 h_8 => ?_)
  obtain ⟨e2_8, e3_8⟩ := h_8
  replace e2_8 := e2_8.symm
  replace e3_8 := e3_8.symm
  subst e2_8 e3_8
  refine v_aload_n (pc := 11) dX1_copyFrom_11 rfl ?_
  refine v_getR (pc := 12) fkX1_21 ly14 rfl dX1_copyFrom_12 ?_
  refine v_aload_n (pc := 15) dX1_copyFrom_15 rfl ?_
  refine v_getR (pc := 16) fkX1_21 ly1 rfl dX1_copyFrom_16 ?_
  refine v_cV1v (pc := 19) dX1_copyFrom_19 mkX1_34 c_sgCopy_21_8 ly21 rfl (Nat.le_of_ble_eq_true rfl) rfl (Nat.zero_le _) (Nat.zero_le _) (fun M_19 J_19 h_19 => ?_)
  obtain ⟨e2_19, e3_19⟩ := h_19
  replace e2_19 := e2_19.symm
  replace e3_19 := e3_19.symm
  subst e2_19 e3_19
  refine v_iconst (pc := 22) (v := 0) (by decide) dX1_copyFrom_22 ?_
  refine v_ist_2 (pc := 23) dX1_copyFrom_23 (by decide) rfl ?_
  have e9 := l_hsCopy_14_1 (M := M) (J := J) 6 0 rfl
  rw [cpR_0] at e9
  exact e9

set_option maxRecDepth 100000 in
set_option maxHeartbeats 4000000 in
theorem l_hsCopy_26_1 {M : mM} {J : mJ} : ∀ (n i : Nat), n + i = 6 → V RX1 cX1_copyFrom 3 none false (rmD 2) false LY.length none (mNv LY (fun M1 J1 => M1 = cHs M 26 1 ∧ J1 = J)) 0 0 24 [some (.ref 26), some (.ref 1), some (.int (nI i))] [] LY (cpR (cSg (cLg M 27 2) 33 8) 37 12 0 i) J := by
  intro n
  induction n with
  | zero =>
    intro i hi
    obtain rfl : i = 6 := by omega
    refine v_iload_n (pc := 24) dX1_copyFrom_24 rfl ?_
    refine v_bipush (pc := 25) (v := 6) (by decide) dX1_copyFrom_25 ?_
    refine v_icmp_ge (pc := 27) (tgt := 48) dX1_copyFrom_27 (by decide) (fun c_27 => ?_) (fun c_27 => absurd (by decide) c_27)
    refine v_vret (pc := 48) dX1_copyFrom_48 (Nat.zero_le _) (Nat.zero_le _) ?_
    exact ⟨rfl, rfl⟩
  | succ n ih =>
    intro i hi
    have hb7 : i < 6 := by omega
    have hc : ¬ (6 : Int32) ≤ nI i := nI_ge (b := 6) hb7 (by omega)
    refine v_iload_n (pc := 24) dX1_copyFrom_24 rfl ?_
    refine v_bipush (pc := 25) (v := 6) (by decide) dX1_copyFrom_25 ?_
    refine v_icmp_ge (pc := 27) (tgt := 48) dX1_copyFrom_27 (by decide) (fun c_27 => absurd c_27 (hc)) (fun c_27 => ?_)
    refine v_aload_n (pc := 30) dX1_copyFrom_30 rfl ?_
    refine v_getR (pc := 31) fkX1_25 ly26 rfl dX1_copyFrom_31 ?_
    refine v_iload_n (pc := 34) dX1_copyFrom_34 rfl ?_
    refine v_aload_n (pc := 35) dX1_copyFrom_35 rfl ?_
    refine v_getR (pc := 36) fkX1_25 ly1 rfl dX1_copyFrom_36 ?_
    refine v_iload_n (pc := 39) dX1_copyFrom_39 rfl ?_
    refine v_iald (pc := 40) ly12 ?_ dX1_copyFrom_40 ?_
    · exact vp_in_nI hb7 (by omega)
    refine v_iast (pc := 41) ly37 ?_ dX1_copyFrom_41 ?_
    · exact vp_in_nI hb7 (by omega)
    refine v_inc_2 (pc := 42) (v := 1) dX1_copyFrom_42 (by decide) (by decide) rfl ?_
    refine v_goto (pc := 45) (tgt := 24) dX1_copyFrom_45 (by decide) ?_
    simp only [nI_clamp (show i < 2 ^ 31 by omega)]
    rw [cpR_nx (by decide) (Nat.zero_le _), nI_1]
    exact ih (i + 1) (by omega)

set_option maxRecDepth 100000 in
set_option maxHeartbeats 4000000 in
theorem c_hsCopy_26_1  {M : mM} {J : mJ}  : Ct yX1_copyFrom cX1_copyFrom 3 none (rmD 2) false [.ref 26, .ref 1] LY M J (mNv LY (fun M1 J1 => M1 = cHs M 26 1 ∧ J1 = J)) := by
  refine ct_of (own := RX1) (ini := false) (ls := [some (.ref 26), some (.ref 1), none]) 1 (by decide +kernel) rfl (fun h => by cases h) rfl (fun ad => by first | exact Nat.le_of_ble_eq_true rfl) ?_
  refine v_aload_n (pc := 0) dX1_copyFrom_0 rfl ?_
  refine v_getR (pc := 1) fkX1_12 ly26 rfl dX1_copyFrom_1 ?_
  refine v_aload_n (pc := 4) dX1_copyFrom_4 rfl ?_
  refine v_getR (pc := 5) fkX1_12 ly1 rfl dX1_copyFrom_5 ?_
  refine v_cV1v (pc := 8) dX1_copyFrom_8 mkX1_30 c_lgCopy_27_2 ly27 rfl (Nat.le_of_ble_eq_true rfl) rfl (Nat.zero_le _) (Nat.zero_le _) (fun M_8 J_8 h_8 => ?_)
  obtain ⟨e2_8, e3_8⟩ := h_8
  replace e2_8 := e2_8.symm
  replace e3_8 := e3_8.symm
  subst e2_8 e3_8
  refine v_aload_n (pc := 11) dX1_copyFrom_11 rfl ?_
  refine v_getR (pc := 12) fkX1_21 ly26 rfl dX1_copyFrom_12 ?_
  refine v_aload_n (pc := 15) dX1_copyFrom_15 rfl ?_
  refine v_getR (pc := 16) fkX1_21 ly1 rfl dX1_copyFrom_16 ?_
  refine v_cV1v (pc := 19) dX1_copyFrom_19 mkX1_34 c_sgCopy_33_8 ly33 rfl (Nat.le_of_ble_eq_true rfl) rfl (Nat.zero_le _) (Nat.zero_le _) (fun M_19 J_19 h_19 => ?_)
  obtain ⟨e2_19, e3_19⟩ := h_19
  replace e2_19 := e2_19.symm
  replace e3_19 := e3_19.symm
  subst e2_19 e3_19
  refine v_iconst (pc := 22) (v := 0) (by decide) dX1_copyFrom_22 ?_
  refine v_ist_2 (pc := 23) dX1_copyFrom_23 (by decide) rfl ?_
  have e9 := l_hsCopy_26_1 (M := M) (J := J) 6 0 rfl
  rw [cpR_0] at e9
  exact e9

set_option maxRecDepth 100000 in
set_option maxHeartbeats 4000000 in
theorem l_hsCopy_1_14 {M : mM} {J : mJ} : ∀ (n i : Nat), n + i = 6 → V RX1 cX1_copyFrom 3 none false (rmD 2) false LY.length none (mNv LY (fun M1 J1 => M1 = cHs M 1 14 ∧ J1 = J)) 0 0 24 [some (.ref 1), some (.ref 14), some (.int (nI i))] [] LY (cpR (cSg (cLg M 2 15) 8 21) 12 25 0 i) J := by
  intro n
  induction n with
  | zero =>
    intro i hi
    obtain rfl : i = 6 := by omega
    refine v_iload_n (pc := 24) dX1_copyFrom_24 rfl ?_
    refine v_bipush (pc := 25) (v := 6) (by decide) dX1_copyFrom_25 ?_
    refine v_icmp_ge (pc := 27) (tgt := 48) dX1_copyFrom_27 (by decide) (fun c_27 => ?_) (fun c_27 => absurd (by decide) c_27)
    refine v_vret (pc := 48) dX1_copyFrom_48 (Nat.zero_le _) (Nat.zero_le _) ?_
    exact ⟨rfl, rfl⟩
  | succ n ih =>
    intro i hi
    have hb7 : i < 6 := by omega
    have hc : ¬ (6 : Int32) ≤ nI i := nI_ge (b := 6) hb7 (by omega)
    refine v_iload_n (pc := 24) dX1_copyFrom_24 rfl ?_
    refine v_bipush (pc := 25) (v := 6) (by decide) dX1_copyFrom_25 ?_
    refine v_icmp_ge (pc := 27) (tgt := 48) dX1_copyFrom_27 (by decide) (fun c_27 => absurd c_27 (hc)) (fun c_27 => ?_)
    refine v_aload_n (pc := 30) dX1_copyFrom_30 rfl ?_
    refine v_getR (pc := 31) fkX1_25 ly1 rfl dX1_copyFrom_31 ?_
    refine v_iload_n (pc := 34) dX1_copyFrom_34 rfl ?_
    refine v_aload_n (pc := 35) dX1_copyFrom_35 rfl ?_
    refine v_getR (pc := 36) fkX1_25 ly14 rfl dX1_copyFrom_36 ?_
    refine v_iload_n (pc := 39) dX1_copyFrom_39 rfl ?_
    refine v_iald (pc := 40) ly25 ?_ dX1_copyFrom_40 ?_
    · exact vp_in_nI hb7 (by omega)
    refine v_iast (pc := 41) ly12 ?_ dX1_copyFrom_41 ?_
    · exact vp_in_nI hb7 (by omega)
    refine v_inc_2 (pc := 42) (v := 1) dX1_copyFrom_42 (by decide) (by decide) rfl ?_
    refine v_goto (pc := 45) (tgt := 24) dX1_copyFrom_45 (by decide) ?_
    simp only [nI_clamp (show i < 2 ^ 31 by omega)]
    rw [cpR_nx (by decide) (Nat.zero_le _), nI_1]
    exact ih (i + 1) (by omega)

set_option maxRecDepth 100000 in
set_option maxHeartbeats 4000000 in
theorem c_hsCopy_1_14  {M : mM} {J : mJ}  : Ct yX1_copyFrom cX1_copyFrom 3 none (rmD 2) false [.ref 1, .ref 14] LY M J (mNv LY (fun M1 J1 => M1 = cHs M 1 14 ∧ J1 = J)) := by
  refine ct_of (own := RX1) (ini := false) (ls := [some (.ref 1), some (.ref 14), none]) 1 (by decide +kernel) rfl (fun h => by cases h) rfl (fun ad => by first | exact Nat.le_of_ble_eq_true rfl) ?_
  refine v_aload_n (pc := 0) dX1_copyFrom_0 rfl ?_
  refine v_getR (pc := 1) fkX1_12 ly1 rfl dX1_copyFrom_1 ?_
  refine v_aload_n (pc := 4) dX1_copyFrom_4 rfl ?_
  refine v_getR (pc := 5) fkX1_12 ly14 rfl dX1_copyFrom_5 ?_
  refine v_cV1v (pc := 8) dX1_copyFrom_8 mkX1_30 c_lgCopy_2_15 ly2 rfl (Nat.le_of_ble_eq_true rfl) rfl (Nat.zero_le _) (Nat.zero_le _) (fun M_8 J_8 h_8 => ?_)
  obtain ⟨e2_8, e3_8⟩ := h_8
  replace e2_8 := e2_8.symm
  replace e3_8 := e3_8.symm
  subst e2_8 e3_8
  refine v_aload_n (pc := 11) dX1_copyFrom_11 rfl ?_
  refine v_getR (pc := 12) fkX1_21 ly1 rfl dX1_copyFrom_12 ?_
  refine v_aload_n (pc := 15) dX1_copyFrom_15 rfl ?_
  refine v_getR (pc := 16) fkX1_21 ly14 rfl dX1_copyFrom_16 ?_
  refine v_cV1v (pc := 19) dX1_copyFrom_19 mkX1_34 c_sgCopy_8_21 ly8 rfl (Nat.le_of_ble_eq_true rfl) rfl (Nat.zero_le _) (Nat.zero_le _) (fun M_19 J_19 h_19 => ?_)
  obtain ⟨e2_19, e3_19⟩ := h_19
  replace e2_19 := e2_19.symm
  replace e3_19 := e3_19.symm
  subst e2_19 e3_19
  refine v_iconst (pc := 22) (v := 0) (by decide) dX1_copyFrom_22 ?_
  refine v_ist_2 (pc := 23) dX1_copyFrom_23 (by decide) rfl ?_
  have e9 := l_hsCopy_1_14 (M := M) (J := J) 6 0 rfl
  rw [cpR_0] at e9
  exact e9

set_option maxRecDepth 100000 in
set_option maxHeartbeats 4000000 in
theorem l_hsCopy_1_26 {M : mM} {J : mJ} : ∀ (n i : Nat), n + i = 6 → V RX1 cX1_copyFrom 3 none false (rmD 2) false LY.length none (mNv LY (fun M1 J1 => M1 = cHs M 1 26 ∧ J1 = J)) 0 0 24 [some (.ref 1), some (.ref 26), some (.int (nI i))] [] LY (cpR (cSg (cLg M 2 27) 8 33) 12 37 0 i) J := by
  intro n
  induction n with
  | zero =>
    intro i hi
    obtain rfl : i = 6 := by omega
    refine v_iload_n (pc := 24) dX1_copyFrom_24 rfl ?_
    refine v_bipush (pc := 25) (v := 6) (by decide) dX1_copyFrom_25 ?_
    refine v_icmp_ge (pc := 27) (tgt := 48) dX1_copyFrom_27 (by decide) (fun c_27 => ?_) (fun c_27 => absurd (by decide) c_27)
    refine v_vret (pc := 48) dX1_copyFrom_48 (Nat.zero_le _) (Nat.zero_le _) ?_
    exact ⟨rfl, rfl⟩
  | succ n ih =>
    intro i hi
    have hb7 : i < 6 := by omega
    have hc : ¬ (6 : Int32) ≤ nI i := nI_ge (b := 6) hb7 (by omega)
    refine v_iload_n (pc := 24) dX1_copyFrom_24 rfl ?_
    refine v_bipush (pc := 25) (v := 6) (by decide) dX1_copyFrom_25 ?_
    refine v_icmp_ge (pc := 27) (tgt := 48) dX1_copyFrom_27 (by decide) (fun c_27 => absurd c_27 (hc)) (fun c_27 => ?_)
    refine v_aload_n (pc := 30) dX1_copyFrom_30 rfl ?_
    refine v_getR (pc := 31) fkX1_25 ly1 rfl dX1_copyFrom_31 ?_
    refine v_iload_n (pc := 34) dX1_copyFrom_34 rfl ?_
    refine v_aload_n (pc := 35) dX1_copyFrom_35 rfl ?_
    refine v_getR (pc := 36) fkX1_25 ly26 rfl dX1_copyFrom_36 ?_
    refine v_iload_n (pc := 39) dX1_copyFrom_39 rfl ?_
    refine v_iald (pc := 40) ly37 ?_ dX1_copyFrom_40 ?_
    · exact vp_in_nI hb7 (by omega)
    refine v_iast (pc := 41) ly12 ?_ dX1_copyFrom_41 ?_
    · exact vp_in_nI hb7 (by omega)
    refine v_inc_2 (pc := 42) (v := 1) dX1_copyFrom_42 (by decide) (by decide) rfl ?_
    refine v_goto (pc := 45) (tgt := 24) dX1_copyFrom_45 (by decide) ?_
    simp only [nI_clamp (show i < 2 ^ 31 by omega)]
    rw [cpR_nx (by decide) (Nat.zero_le _), nI_1]
    exact ih (i + 1) (by omega)

set_option maxRecDepth 100000 in
set_option maxHeartbeats 4000000 in
theorem c_hsCopy_1_26  {M : mM} {J : mJ}  : Ct yX1_copyFrom cX1_copyFrom 3 none (rmD 2) false [.ref 1, .ref 26] LY M J (mNv LY (fun M1 J1 => M1 = cHs M 1 26 ∧ J1 = J)) := by
  refine ct_of (own := RX1) (ini := false) (ls := [some (.ref 1), some (.ref 26), none]) 1 (by decide +kernel) rfl (fun h => by cases h) rfl (fun ad => by first | exact Nat.le_of_ble_eq_true rfl) ?_
  refine v_aload_n (pc := 0) dX1_copyFrom_0 rfl ?_
  refine v_getR (pc := 1) fkX1_12 ly1 rfl dX1_copyFrom_1 ?_
  refine v_aload_n (pc := 4) dX1_copyFrom_4 rfl ?_
  refine v_getR (pc := 5) fkX1_12 ly26 rfl dX1_copyFrom_5 ?_
  refine v_cV1v (pc := 8) dX1_copyFrom_8 mkX1_30 c_lgCopy_2_27 ly2 rfl (Nat.le_of_ble_eq_true rfl) rfl (Nat.zero_le _) (Nat.zero_le _) (fun M_8 J_8 h_8 => ?_)
  obtain ⟨e2_8, e3_8⟩ := h_8
  replace e2_8 := e2_8.symm
  replace e3_8 := e3_8.symm
  subst e2_8 e3_8
  refine v_aload_n (pc := 11) dX1_copyFrom_11 rfl ?_
  refine v_getR (pc := 12) fkX1_21 ly1 rfl dX1_copyFrom_12 ?_
  refine v_aload_n (pc := 15) dX1_copyFrom_15 rfl ?_
  refine v_getR (pc := 16) fkX1_21 ly26 rfl dX1_copyFrom_16 ?_
  refine v_cV1v (pc := 19) dX1_copyFrom_19 mkX1_34 c_sgCopy_8_33 ly8 rfl (Nat.le_of_ble_eq_true rfl) rfl (Nat.zero_le _) (Nat.zero_le _) (fun M_19 J_19 h_19 => ?_)
  obtain ⟨e2_19, e3_19⟩ := h_19
  replace e2_19 := e2_19.symm
  replace e3_19 := e3_19.symm
  subst e2_19 e3_19
  refine v_iconst (pc := 22) (v := 0) (by decide) dX1_copyFrom_22 ?_
  refine v_ist_2 (pc := 23) dX1_copyFrom_23 (by decide) rfl ?_
  have e9 := l_hsCopy_1_26 (M := M) (J := J) 6 0 rfl
  rw [cpR_0] at e9
  exact e9
