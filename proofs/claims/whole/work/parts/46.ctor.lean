/-! the constructors -/
def rmC (d c z : Nat) : Room := { frames := d, cells := c, slots := z, locals := 40 * d }
theorem woI : Cond.instanceMethod Lib.objectInit ∈ GW := gwi 45 (by decide +kernel) (by decide +kernel)
theorem woC : Cond.code Lib.objectInit ⟨#[0xb1]⟩ 1 none ∈ GW := gwi 46 (by decide +kernel) (by decide +kernel)
theorem waI : Cond.arrayClass .int ∈ GW := gwi 81 (by decide +kernel) (by decide +kernel)
theorem waL : Cond.arrayClass .long ∈ GW := gwi 206 (by decide +kernel) (by decide +kernel)
theorem waZ : Cond.arrayClass .boolean ∈ GW := gwi 600 (by decide +kernel) (by decide +kernel)
theorem wi0 : Cond.instantiable RX0 4 ∈ GW := gwi 60 (by decide +kernel) (by decide +kernel)
theorem wj0 : Cond.initialized RX0 ∈ GW := gwi 32 (by decide +kernel) (by decide +kernel)
theorem hf0 (ad : Nat → Nat) (j : Nat) (h : j < 4) : defaultValue (tyX0 j) = vp_V (mFs ad (fun _ => 0) 0 [some none, some none, none, none]) j := by
  have h2 : j = 0 ∨ j = 1 ∨ j = 2 ∨ j = 3 := by omega
  rcases h2 with rfl | rfl | rfl | rfl <;> rfl
theorem wi1 : Cond.instantiable RX1 4 ∈ GW := gwi 48 (by decide +kernel) (by decide +kernel)
theorem wj1 : Cond.initialized RX1 ∈ GW := gwi 30 (by decide +kernel) (by decide +kernel)
theorem hf1 (ad : Nat → Nat) (j : Nat) (h : j < 4) : defaultValue (tyX1 j) = vp_V (mFs ad (fun _ => 0) 0 [some none, some none, some none, none]) j := by
  have h2 : j = 0 ∨ j = 1 ∨ j = 2 ∨ j = 3 := by omega
  rcases h2 with rfl | rfl | rfl | rfl <;> rfl
theorem wi2 : Cond.instantiable RX2 8 ∈ GW := gwi 54 (by decide +kernel) (by decide +kernel)
theorem wj2 : Cond.initialized RX2 ∈ GW := gwi 31 (by decide +kernel) (by decide +kernel)
theorem hf2 (ad : Nat → Nat) (j : Nat) (h : j < 8) : defaultValue (tyX2 j) = vp_V (mFs ad (fun _ => 0) 0 [some none, some none, some none, none, none, none, none, none]) j := by
  have h2 : j = 0 ∨ j = 1 ∨ j = 2 ∨ j = 3 ∨ j = 4 ∨ j = 5 ∨ j = 6 ∨ j = 7 := by omega
  rcases h2 with rfl | rfl | rfl | rfl | rfl | rfl | rfl | rfl <;> rfl
theorem wi3 : Cond.instantiable RX3 2 ∈ GW := gwi 155 (by decide +kernel) (by decide +kernel)
theorem wj3 : Cond.initialized RX3 ∈ GW := gwi 34 (by decide +kernel) (by decide +kernel)
theorem hf3 (ad : Nat → Nat) (j : Nat) (h : j < 2) : defaultValue (tyX3 j) = vp_V (mFs ad (fun _ => 0) 0 [some none, none]) j := by
  have h2 : j = 0 ∨ j = 1 := by omega
  rcases h2 with rfl | rfl <;> rfl
theorem wi4 : Cond.instantiable RX4 4 ∈ GW := gwi 115 (by decide +kernel) (by decide +kernel)
theorem wj4 : Cond.initialized RX4 ∈ GW := gwi 33 (by decide +kernel) (by decide +kernel)
theorem hf4 (ad : Nat → Nat) (j : Nat) (h : j < 4) : defaultValue (tyX4 j) = vp_V (mFs ad (fun _ => 0) 0 [some none, some none, some none, none]) j := by
  have h2 : j = 0 ∨ j = 1 ∨ j = 2 ∨ j = 3 := by omega
  rcases h2 with rfl | rfl | rfl | rfl <;> rfl
theorem wi5 : Cond.instantiable RX5 2 ∈ GW := gwi 170 (by decide +kernel) (by decide +kernel)
theorem wj5 : Cond.initialized RX5 ∈ GW := gwi 35 (by decide +kernel) (by decide +kernel)
theorem hf5 (ad : Nat → Nat) (j : Nat) (h : j < 2) : defaultValue (tyX5 j) = vp_V (mFs ad (fun _ => 0) 0 [none, none]) j := by
  have h2 : j = 0 ∨ j = 1 := by omega
  rcases h2 with rfl | rfl <;> rfl
theorem wi6 : Cond.instantiable RX6 7 ∈ GW := gwi 40 (by decide +kernel) (by decide +kernel)
theorem wj6 : Cond.initialized RX6 ∈ GW := gwi 29 (by decide +kernel) (by decide +kernel)
theorem hf6 (ad : Nat → Nat) (j : Nat) (h : j < 7) : defaultValue (tyX6 j) = vp_V (mFs ad (fun _ => 0) 0 [some none, some none, some none, some none, some none, some none, some none]) j := by
  have h2 : j = 0 ∨ j = 1 ∨ j = 2 ∨ j = 3 ∨ j = 4 ∨ j = 5 ∨ j = 6 := by omega
  rcases h2 with rfl | rfl | rfl | rfl | rfl | rfl | rfl <;> rfl
theorem wi7 : Cond.instantiable RX7 17 ∈ GW := gwi 542 (by decide +kernel) (by decide +kernel)
theorem wj7 : Cond.initialized RX7 ∈ GW := gwi 36 (by decide +kernel) (by decide +kernel)
theorem hf7 (ad : Nat → Nat) (j : Nat) (h : j < 17) : defaultValue (tyX7 j) = vp_V (mFs ad (fun _ => 0) 0 [none, some none, none, some none, none, some none, some none, some none, none, some none, none, none, some none, some none, some none, some none, some none]) j := by
  have h2 : j = 0 ∨ j = 1 ∨ j = 2 ∨ j = 3 ∨ j = 4 ∨ j = 5 ∨ j = 6 ∨ j = 7 ∨ j = 8 ∨ j = 9 ∨ j = 10 ∨ j = 11 ∨ j = 12 ∨ j = 13 ∨ j = 14 ∨ j = 15 ∨ j = 16 := by omega
  rcases h2 with rfl | rfl | rfl | rfl | rfl | rfl | rfl | rfl | rfl | rfl | rfl | rfl | rfl | rfl | rfl | rfl | rfl <;> rfl
def LS_0 : List mEn := []
def hsI (h : Nat) (i : Nat) (A : mM) : mM := mU A (h + 11) i 16777215
def hsM (M : mM) (h : Nat) : mM := itN (hsI h) (mU M (h + 1) 5 12) 6
theorem hsM_ne {M : mM} {h a : Nat} (h1 : a ≠ h + 1) (h2 : a ≠ h + 11) : hsM M h a = M a := by
  unfold hsM
  exact (itN_ne (f := hsI h) (fun i A => mU_ne a h2) _ 6).trans (mU_ne a h1)
def msI (i : Nat) (A : mM) : mM := mU A 51 i 16777215
def msM (M : mM) : mM := itN msI (mU M 49 2 12) 6
def LS_1 : List mEn := LS_0 ++ [.inr (.inr (6, [some none, some none, some none, some none, some none, some none, some none]))]
theorem woX6_3 : Cond.methodLink RX6 3 Lib.objectInit ∈ GW := gwi 44 (by decide +kernel) (by decide +kernel)
theorem wcX6_9 : Cond.classLink RX6 9 RX1 ∈ GW := gwi 47 (by decide +kernel) (by decide +kernel)
def LS_2 : List mEn := LS_1 ++ [.inr (.inr (1, [some none, some none, some none, none]))]
theorem woX1_3 : Cond.methodLink RX1 3 Lib.objectInit ∈ GW := gwi 52 (by decide +kernel) (by decide +kernel)
theorem wcX1_9 : Cond.classLink RX1 9 RX2 ∈ GW := gwi 53 (by decide +kernel) (by decide +kernel)
def LS_3 : List mEn := LS_2 ++ [.inr (.inr (2, [some none, some none, some none, none, none, none, none, none]))]
theorem woX2_3 : Cond.methodLink RX2 3 Lib.objectInit ∈ GW := gwi 58 (by decide +kernel) (by decide +kernel)
def LS_4 : List mEn := LS_3 ++ [.inl (0, 7, 0)]
def LS_5 : List mEn := LS_4.set 2 (.inr (.inr (2, [some (some 3), some none, some none, none, none, none, none, none])))
def LS_6 : List mEn := LS_5 ++ [.inl (0, 7, 0)]
def LS_7 : List mEn := LS_6.set 2 (.inr (.inr (2, [some (some 3), some (some 4), some none, none, none, none, none, none])))
theorem wcX2_18 : Cond.classLink RX2 18 RX0 ∈ GW := gwi 59 (by decide +kernel) (by decide +kernel)
def LS_8 : List mEn := LS_7 ++ [.inr (.inr (0, [some none, some none, none, none]))]
theorem woX0_3 : Cond.methodLink RX0 3 Lib.objectInit ∈ GW := gwi 64 (by decide +kernel) (by decide +kernel)
def LS_9 : List mEn := LS_8 ++ [.inl (0, 32, 0)]
def LS_10 : List mEn := LS_9.set 5 (.inr (.inr (0, [some (some 6), some none, none, none])))
def LS_11 : List mEn := LS_10 ++ [.inl (0, 32, 0)]
def LS_12 : List mEn := LS_11.set 5 (.inr (.inr (0, [some (some 6), some (some 7), none, none])))
set_option maxRecDepth 100000 in
set_option maxHeartbeats 4000000 in
theorem n_X0_5 {M : mM} {J : mJ} (hz : ∀ k, 5 < k → M k = fun _ => 0) : Ct yX0_init cX0_init 1 none (rmC 1 2 64) true [.ref 5] LS_8 M J (mNv LS_12 (fun M1 J1 => M1 = M ∧ J1 = J)) := by
  refine ct_of (own := RX0) (ini := true) (ls := [some (.ref 5)]) 0 (by decide +kernel) rfl (fun _ => rfl) rfl (fun ad => by first | exact Nat.le_of_ble_eq_true rfl) ?_
  refine v_aload_n (pc := 0) dX0_init_0 rfl ?_
  refine v_obj (pc := 1) woX0_3 woI woC (Nat.le_of_ble_eq_true rfl) (Nat.le_of_ble_eq_true rfl) dX0_init_1 ?_
  refine v_aload_n (pc := 4) dX0_init_4 rfl ?_
  refine v_bipush (pc := 5) (v := 32) (by decide) dX0_init_5 ?_
  refine v_newI (pc := 7) (N := 32) (r := 6) (ly' := LS_9) waI (by decide) (by decide) (Nat.le_of_ble_eq_true rfl) (by decide +kernel) (by decide) (by decide +kernel) rfl rfl (by decide +kernel) (hz 6 (by omega)) rfl (Nat.le_of_ble_eq_true rfl) (Nat.le_of_ble_eq_true rfl) dX0_init_7 ?_
  refine v_putFR (pc := 9) (ly' := LS_10) (fs := [some none, some none, none, none]) rfl fkX0_9f (fun _ => rfl) (fun _ => rfl) rfl rfl rfl dX0_init_9 ?_
  refine v_aload_n (pc := 12) dX0_init_12 rfl ?_
  refine v_bipush (pc := 13) (v := 32) (by decide) dX0_init_13 ?_
  refine v_newI (pc := 15) (N := 32) (r := 7) (ly' := LS_11) waI (by decide) (by decide) (Nat.le_of_ble_eq_true rfl) (by decide +kernel) (by decide) (by decide +kernel) rfl rfl (by decide +kernel) (hz 7 (by omega)) rfl (Nat.le_of_ble_eq_true rfl) (Nat.le_of_ble_eq_true rfl) dX0_init_15 ?_
  refine v_putFR (pc := 17) (ly' := LS_12) (fs := [some (some 6), some none, none, none]) rfl fkX0_15f (fun _ => rfl) (fun _ => rfl) rfl rfl rfl dX0_init_17 ?_
  refine v_vret (pc := 20) dX0_init_20 (Nat.le_of_ble_eq_true rfl) (Nat.le_of_ble_eq_true rfl) ?_
  exact ⟨rfl, rfl⟩

def LS_13 : List mEn := LS_12.set 2 (.inr (.inr (2, [some (some 3), some (some 4), some (some 5), none, none, none, none, none])))
set_option maxRecDepth 100000 in
set_option maxHeartbeats 4000000 in
theorem n_X2_2 {M : mM} {J : mJ} (hz : ∀ k, 2 < k → M k = fun _ => 0) : Ct yX2_init cX2_init 1 none (rmC 2 5 82) true [.ref 2] LS_3 M J (mNv LS_13 (fun M1 J1 => M1 = (mU M 2 5 12) ∧ J1 = J)) := by
  refine ct_of (own := RX2) (ini := true) (ls := [some (.ref 2)]) 0 (by decide +kernel) rfl (fun _ => rfl) rfl (fun ad => by first | exact Nat.le_of_ble_eq_true rfl) ?_
  refine v_aload_n (pc := 0) dX2_init_0 rfl ?_
  refine v_obj (pc := 1) woX2_3 woI woC (Nat.le_of_ble_eq_true rfl) (Nat.le_of_ble_eq_true rfl) dX2_init_1 ?_
  refine v_aload_n (pc := 4) dX2_init_4 rfl ?_
  refine v_bipush (pc := 5) (v := 7) (by decide) dX2_init_5 ?_
  refine v_newI (pc := 7) (N := 7) (r := 3) (ly' := LS_4) waI (by decide) (by decide) (Nat.le_of_ble_eq_true rfl) (by decide +kernel) (by decide) (by decide +kernel) rfl rfl (by decide +kernel) (hz 3 (by omega)) rfl (Nat.le_of_ble_eq_true rfl) (Nat.le_of_ble_eq_true rfl) dX2_init_7 ?_
  refine v_putFR (pc := 9) (ly' := LS_5) (fs := [some none, some none, some none, none, none, none, none, none]) rfl fkX2_9f (fun _ => rfl) (fun _ => rfl) rfl rfl rfl dX2_init_9 ?_
  refine v_aload_n (pc := 12) dX2_init_12 rfl ?_
  refine v_bipush (pc := 13) (v := 7) (by decide) dX2_init_13 ?_
  refine v_newI (pc := 15) (N := 7) (r := 4) (ly' := LS_6) waI (by decide) (by decide) (Nat.le_of_ble_eq_true rfl) (by decide +kernel) (by decide) (by decide +kernel) rfl rfl (by decide +kernel) (hz 4 (by omega)) rfl (Nat.le_of_ble_eq_true rfl) (Nat.le_of_ble_eq_true rfl) dX2_init_15 ?_
  refine v_putFR (pc := 17) (ly' := LS_7) (fs := [some (some 3), some none, some none, none, none, none, none, none]) rfl fkX2_15f (fun _ => rfl) (fun _ => rfl) rfl rfl rfl dX2_init_17 ?_
  refine v_aload_n (pc := 20) dX2_init_20 rfl ?_
  refine v_newO (pc := 21) (r := 5) (ly' := LS_8) wcX2_18 wi0 wj0 lyX0 tyX0_ok rfl hf0 (by decide +kernel) (by decide) (by decide +kernel) rfl rfl (by decide +kernel) rfl (hz 5 (by omega)) rfl (Nat.le_of_ble_eq_true rfl) (Nat.le_of_ble_eq_true rfl) dX2_init_21 ?_
  refine v_dupR (pc := 24) dX2_init_24 ?_
  refine v_callI (pc := 25) (As := []) (r := 5) mkX2_20 (n_X0_5 (fun k hk => hz k (by omega))) rfl (Nat.le_of_ble_eq_true rfl) rfl (Nat.le_of_ble_eq_true rfl) (Nat.le_of_ble_eq_true rfl) (by decide +kernel) rfl rfl dX2_init_25 (fun o_25 ly_25 M_25 J_25 h_25 => ?_)
  obtain ⟨e1_25, e2_25, e3_25, e4_25⟩ := h_25
  replace e4_25 := e4_25.symm
  subst e1_25 e2_25 e3_25 e4_25
  refine v_putFR (pc := 28) (ly' := LS_13) (fs := [some (some 3), some (some 4), some none, none, none, none, none, none]) rfl fkX2_21f (fun _ => rfl) (fun _ => rfl) rfl rfl rfl dX2_init_28 ?_
  refine v_aload_n (pc := 31) dX2_init_31 rfl ?_
  refine v_bipush (pc := 32) (v := 12) (by decide) dX2_init_32 ?_
  refine v_putI (pc := 34) fkX2_25p (show LS_13[2]? = some (.inr (.inr (2, [some (some 3), some (some 4), some (some 5), none, none, none, none, none]))) from rfl) rfl dX2_init_34 ?_
  refine v_vret (pc := 37) dX2_init_37 (Nat.le_of_ble_eq_true rfl) (Nat.le_of_ble_eq_true rfl) ?_
  exact ⟨rfl, rfl⟩

def LS_14 : List mEn := LS_13.set 1 (.inr (.inr (1, [some (some 2), some none, some none, none])))
theorem wcX1_18 : Cond.classLink RX1 18 RX4 ∈ GW := gwi 114 (by decide +kernel) (by decide +kernel)
def LS_15 : List mEn := LS_14 ++ [.inr (.inr (4, [some none, some none, some none, none]))]
theorem woX4_3 : Cond.methodLink RX4 3 Lib.objectInit ∈ GW := gwi 119 (by decide +kernel) (by decide +kernel)
def LS_16 : List mEn := LS_15 ++ [.inl (0, 8, 0)]
def LS_17 : List mEn := LS_16.set 8 (.inr (.inr (4, [some (some 9), some none, some none, none])))
def LS_18 : List mEn := LS_17 ++ [.inl (0, 8, 0)]
def LS_19 : List mEn := LS_18.set 8 (.inr (.inr (4, [some (some 9), some (some 10), some none, none])))
def LS_20 : List mEn := LS_19 ++ [.inl (0, 8, 0)]
def LS_21 : List mEn := LS_20.set 8 (.inr (.inr (4, [some (some 9), some (some 10), some (some 11), none])))
set_option maxRecDepth 100000 in
set_option maxHeartbeats 4000000 in
theorem n_X4_8 {M : mM} {J : mJ} (hz : ∀ k, 8 < k → M k = fun _ => 0) : Ct yX4_init cX4_init 1 none (rmC 1 3 24) true [.ref 8] LS_15 M J (mNv LS_21 (fun M1 J1 => M1 = M ∧ J1 = J)) := by
  refine ct_of (own := RX4) (ini := true) (ls := [some (.ref 8)]) 0 (by decide +kernel) rfl (fun _ => rfl) rfl (fun ad => by first | exact Nat.le_of_ble_eq_true rfl) ?_
  refine v_aload_n (pc := 0) dX4_init_0 rfl ?_
  refine v_obj (pc := 1) woX4_3 woI woC (Nat.le_of_ble_eq_true rfl) (Nat.le_of_ble_eq_true rfl) dX4_init_1 ?_
  refine v_aload_n (pc := 4) dX4_init_4 rfl ?_
  refine v_bipush (pc := 5) (v := 8) (by decide) dX4_init_5 ?_
  refine v_newI (pc := 7) (N := 8) (r := 9) (ly' := LS_16) waI (by decide) (by decide) (Nat.le_of_ble_eq_true rfl) (by decide +kernel) (by decide) (by decide +kernel) rfl rfl (by decide +kernel) (hz 9 (by omega)) rfl (Nat.le_of_ble_eq_true rfl) (Nat.le_of_ble_eq_true rfl) dX4_init_7 ?_
  refine v_putFR (pc := 9) (ly' := LS_17) (fs := [some none, some none, some none, none]) rfl fkX4_9f (fun _ => rfl) (fun _ => rfl) rfl rfl rfl dX4_init_9 ?_
  refine v_aload_n (pc := 12) dX4_init_12 rfl ?_
  refine v_bipush (pc := 13) (v := 8) (by decide) dX4_init_13 ?_
  refine v_newI (pc := 15) (N := 8) (r := 10) (ly' := LS_18) waI (by decide) (by decide) (Nat.le_of_ble_eq_true rfl) (by decide +kernel) (by decide) (by decide +kernel) rfl rfl (by decide +kernel) (hz 10 (by omega)) rfl (Nat.le_of_ble_eq_true rfl) (Nat.le_of_ble_eq_true rfl) dX4_init_15 ?_
  refine v_putFR (pc := 17) (ly' := LS_19) (fs := [some (some 9), some none, some none, none]) rfl fkX4_15f (fun _ => rfl) (fun _ => rfl) rfl rfl rfl dX4_init_17 ?_
  refine v_aload_n (pc := 20) dX4_init_20 rfl ?_
  refine v_bipush (pc := 21) (v := 8) (by decide) dX4_init_21 ?_
  refine v_newI (pc := 23) (N := 8) (r := 11) (ly' := LS_20) waI (by decide) (by decide) (Nat.le_of_ble_eq_true rfl) (by decide +kernel) (by decide) (by decide +kernel) rfl rfl (by decide +kernel) (hz 11 (by omega)) rfl (Nat.le_of_ble_eq_true rfl) (Nat.le_of_ble_eq_true rfl) dX4_init_23 ?_
  refine v_putFR (pc := 25) (ly' := LS_21) (fs := [some (some 9), some (some 10), some none, none]) rfl fkX4_18f (fun _ => rfl) (fun _ => rfl) rfl rfl rfl dX4_init_25 ?_
  refine v_vret (pc := 28) dX4_init_28 (Nat.le_of_ble_eq_true rfl) (Nat.le_of_ble_eq_true rfl) ?_
  exact ⟨rfl, rfl⟩

def LS_22 : List mEn := LS_21.set 1 (.inr (.inr (1, [some (some 2), some (some 8), some none, none])))
def LS_23 : List mEn := LS_22 ++ [.inl (0, 6, 0)]
def LS_24 : List mEn := LS_23.set 1 (.inr (.inr (1, [some (some 2), some (some 8), some (some 12), none])))
set_option maxRecDepth 100000 in
set_option maxHeartbeats 4000000 in
theorem l_hs_1 {M : mM} {J : mJ} {kc ks : Nat} (hkc : kc ≤ (rmC 3 11 124).cells) (hks : ks ≤ (rmC 3 11 124).slots) : ∀ (n i : Nat), n + i = 6 → V RX1 cX1_init 2 none true (rmC 3 11 124) true LS_2.length none (mNv LS_24 (fun M1 J1 => M1 = hsM M 1 ∧ J1 = J)) kc ks 36 [some (.ref 1), some (.int (nI i))] [] LS_24 (itN (hsI 1) (mU M 2 5 12) i) J := by
  intro n
  induction n with
  | zero =>
    intro i hi
    obtain rfl : i = 6 := by omega
    refine v_iload_n (pc := 36) dX1_init_36 rfl ?_
    refine v_bipush (pc := 37) (v := 6) (by decide) dX1_init_37 ?_
    refine v_icmp_ge (pc := 39) (tgt := 56) dX1_init_39 (by decide) (fun c_39 => ?_) (fun c_39 => absurd (by decide) c_39)
    refine v_vret (pc := 56) dX1_init_56 hkc hks ?_
    exact ⟨rfl, rfl⟩
  | succ n ih =>
    intro i hi
    have hb : i < 6 := by omega
    have hcl := nI_clamp (show i < 2 ^ 31 by omega)
    refine v_iload_n (pc := 36) dX1_init_36 rfl ?_
    refine v_bipush (pc := 37) (v := 6) (by decide) dX1_init_37 ?_
    refine v_icmp_ge (pc := 39) (tgt := 56) dX1_init_39 (by decide) (fun c_39 => absurd c_39 (nI_ge (b := 6) hb (by omega))) (fun c_39 => ?_)
    refine v_aload_n (pc := 42) dX1_init_42 rfl ?_
    refine v_getR (pc := 43) fkX1_25 (show LS_24[1]? = some (.inr (.inr (1, [some (some 2), some (some 8), some (some 12), none]))) from rfl) rfl dX1_init_43 ?_
    refine v_iload_n (pc := 46) dX1_init_46 rfl ?_
    refine v_ldc (pc := 47) ckX1_29 dX1_init_47 ?_
    refine v_iast (pc := 49) (show LS_24[12]? = some (.inl (0, 6, 0)) from rfl) ?_ dX1_init_49 ?_
    · exact vp_in_nI hb (by omega)
    rw [hcl]
    refine v_inc_1 (pc := 50) (v := 1) dX1_init_50 (by decide) (by decide) rfl ?_
    refine v_goto (pc := 53) (tgt := 36) dX1_init_53 (by decide) ?_
    have e9 := ih (i + 1) (by omega)
    rw [itN_s] at e9
    rw [nI_1]
    exact e9

set_option maxRecDepth 100000 in
set_option maxHeartbeats 4000000 in
theorem n_X1_1 {M : mM} {J : mJ} (hz : ∀ k, 1 < k → M k = fun _ => 0) : Ct yX1_init cX1_init 2 none (rmC 3 11 124) true [.ref 1] LS_2 M J (mNv LS_24 (fun M1 J1 => M1 = hsM M 1 ∧ J1 = J)) := by
  refine ct_of (own := RX1) (ini := true) (ls := [some (.ref 1), none]) 1 (by decide +kernel) rfl (fun _ => rfl) rfl (fun ad => by first | exact Nat.le_of_ble_eq_true rfl) ?_
  refine v_aload_n (pc := 0) dX1_init_0 rfl ?_
  refine v_obj (pc := 1) woX1_3 woI woC (Nat.le_of_ble_eq_true rfl) (Nat.le_of_ble_eq_true rfl) dX1_init_1 ?_
  refine v_aload_n (pc := 4) dX1_init_4 rfl ?_
  refine v_newO (pc := 5) (r := 2) (ly' := LS_3) wcX1_9 wi2 wj2 lyX2 tyX2_ok rfl hf2 (by decide +kernel) (by decide) (by decide +kernel) rfl rfl (by decide +kernel) rfl (hz 2 (by omega)) rfl (Nat.le_of_ble_eq_true rfl) (Nat.le_of_ble_eq_true rfl) dX1_init_5 ?_
  refine v_dupR (pc := 8) dX1_init_8 ?_
  refine v_callI (pc := 9) (As := []) (r := 2) mkX1_11 (n_X2_2 (fun k hk => hz k (by omega))) rfl (Nat.le_of_ble_eq_true rfl) rfl (Nat.le_of_ble_eq_true rfl) (Nat.le_of_ble_eq_true rfl) (by decide +kernel) rfl rfl dX1_init_9 (fun o_9 ly_9 M_9 J_9 h_9 => ?_)
  obtain ⟨e1_9, e2_9, e3_9, e4_9⟩ := h_9
  replace e4_9 := e4_9.symm
  subst e1_9 e2_9 e3_9 e4_9
  refine v_putFR (pc := 12) (ly' := LS_14) (fs := [some none, some none, some none, none]) rfl fkX1_12f (fun _ => rfl) (fun _ => rfl) rfl rfl rfl dX1_init_12 ?_
  refine v_aload_n (pc := 15) dX1_init_15 rfl ?_
  refine v_newO (pc := 16) (r := 8) (ly' := LS_15) wcX1_18 wi4 wj4 lyX4 tyX4_ok rfl hf4 (by decide +kernel) (by decide) (by decide +kernel) rfl rfl (by decide +kernel) rfl ((mU_ne 8 (show (8 : Nat) ≠ 2 by omega)).trans (hz 8 (by omega))) rfl (Nat.le_of_ble_eq_true rfl) (Nat.le_of_ble_eq_true rfl) dX1_init_16 ?_
  refine v_dupR (pc := 19) dX1_init_19 ?_
  refine v_callI (pc := 20) (As := []) (r := 8) mkX1_20 (n_X4_8 (fun k hk => (mU_ne k (by omega)).trans (hz k (by omega)))) rfl (Nat.le_of_ble_eq_true rfl) rfl (Nat.le_of_ble_eq_true rfl) (Nat.le_of_ble_eq_true rfl) (by decide +kernel) rfl rfl dX1_init_20 (fun o_20 ly_20 M_20 J_20 h_20 => ?_)
  obtain ⟨e1_20, e2_20, e3_20, e4_20⟩ := h_20
  replace e4_20 := e4_20.symm
  subst e1_20 e2_20 e3_20 e4_20
  refine v_putFR (pc := 23) (ly' := LS_22) (fs := [some (some 2), some none, some none, none]) rfl fkX1_21f (fun _ => rfl) (fun _ => rfl) rfl rfl rfl dX1_init_23 ?_
  refine v_aload_n (pc := 26) dX1_init_26 rfl ?_
  refine v_bipush (pc := 27) (v := 6) (by decide) dX1_init_27 ?_
  refine v_newI (pc := 29) (N := 6) (r := 12) (ly' := LS_23) waI (by decide) (by decide) (Nat.le_of_ble_eq_true rfl) (by decide +kernel) (by decide) (by decide +kernel) rfl rfl (by decide +kernel) ((mU_ne 12 (show (12 : Nat) ≠ 2 by omega)).trans (hz 12 (by omega))) rfl (Nat.le_of_ble_eq_true rfl) (Nat.le_of_ble_eq_true rfl) dX1_init_29 ?_
  refine v_putFR (pc := 31) (ly' := LS_24) (fs := [some (some 2), some (some 8), some none, none]) rfl fkX1_25f (fun _ => rfl) (fun _ => rfl) rfl rfl rfl dX1_init_31 ?_
  refine v_iconst (pc := 34) (v := 0) (by decide) dX1_init_34 ?_
  refine v_ist_1 (pc := 35) dX1_init_35 (by decide) rfl ?_
  exact l_hs_1 (Nat.le_of_ble_eq_true rfl) (Nat.le_of_ble_eq_true rfl) 6 0 rfl

def LS_25 : List mEn := LS_24.set 0 (.inr (.inr (6, [some (some 1), some none, some none, some none, some none, some none, some none])))
def LS_26 : List mEn := LS_25 ++ [.inr (.inl (3, [none, none]))]
def LS_27 : List mEn := LS_26.set 0 (.inr (.inr (6, [some (some 1), some (some 13), some none, some none, some none, some none, some none])))
def LS_28 : List mEn := LS_27 ++ [.inr (.inr (1, [some none, some none, some none, none]))]
def LS_29 : List mEn := LS_28 ++ [.inr (.inr (2, [some none, some none, some none, none, none, none, none, none]))]
def LS_30 : List mEn := LS_29 ++ [.inl (0, 7, 0)]
def LS_31 : List mEn := LS_30.set 15 (.inr (.inr (2, [some (some 16), some none, some none, none, none, none, none, none])))
def LS_32 : List mEn := LS_31 ++ [.inl (0, 7, 0)]
def LS_33 : List mEn := LS_32.set 15 (.inr (.inr (2, [some (some 16), some (some 17), some none, none, none, none, none, none])))
def LS_34 : List mEn := LS_33 ++ [.inr (.inr (0, [some none, some none, none, none]))]
def LS_35 : List mEn := LS_34 ++ [.inl (0, 32, 0)]
def LS_36 : List mEn := LS_35.set 18 (.inr (.inr (0, [some (some 19), some none, none, none])))
def LS_37 : List mEn := LS_36 ++ [.inl (0, 32, 0)]
def LS_38 : List mEn := LS_37.set 18 (.inr (.inr (0, [some (some 19), some (some 20), none, none])))
set_option maxRecDepth 100000 in
set_option maxHeartbeats 4000000 in
theorem n_X0_18 {M : mM} {J : mJ} (hz : ∀ k, 18 < k → M k = fun _ => 0) : Ct yX0_init cX0_init 1 none (rmC 1 2 64) true [.ref 18] LS_34 M J (mNv LS_38 (fun M1 J1 => M1 = M ∧ J1 = J)) := by
  refine ct_of (own := RX0) (ini := true) (ls := [some (.ref 18)]) 0 (by decide +kernel) rfl (fun _ => rfl) rfl (fun ad => by first | exact Nat.le_of_ble_eq_true rfl) ?_
  refine v_aload_n (pc := 0) dX0_init_0 rfl ?_
  refine v_obj (pc := 1) woX0_3 woI woC (Nat.le_of_ble_eq_true rfl) (Nat.le_of_ble_eq_true rfl) dX0_init_1 ?_
  refine v_aload_n (pc := 4) dX0_init_4 rfl ?_
  refine v_bipush (pc := 5) (v := 32) (by decide) dX0_init_5 ?_
  refine v_newI (pc := 7) (N := 32) (r := 19) (ly' := LS_35) waI (by decide) (by decide) (Nat.le_of_ble_eq_true rfl) (by decide +kernel) (by decide) (by decide +kernel) rfl rfl (by decide +kernel) (hz 19 (by omega)) rfl (Nat.le_of_ble_eq_true rfl) (Nat.le_of_ble_eq_true rfl) dX0_init_7 ?_
  refine v_putFR (pc := 9) (ly' := LS_36) (fs := [some none, some none, none, none]) rfl fkX0_9f (fun _ => rfl) (fun _ => rfl) rfl rfl rfl dX0_init_9 ?_
  refine v_aload_n (pc := 12) dX0_init_12 rfl ?_
  refine v_bipush (pc := 13) (v := 32) (by decide) dX0_init_13 ?_
  refine v_newI (pc := 15) (N := 32) (r := 20) (ly' := LS_37) waI (by decide) (by decide) (Nat.le_of_ble_eq_true rfl) (by decide +kernel) (by decide) (by decide +kernel) rfl rfl (by decide +kernel) (hz 20 (by omega)) rfl (Nat.le_of_ble_eq_true rfl) (Nat.le_of_ble_eq_true rfl) dX0_init_15 ?_
  refine v_putFR (pc := 17) (ly' := LS_38) (fs := [some (some 19), some none, none, none]) rfl fkX0_15f (fun _ => rfl) (fun _ => rfl) rfl rfl rfl dX0_init_17 ?_
  refine v_vret (pc := 20) dX0_init_20 (Nat.le_of_ble_eq_true rfl) (Nat.le_of_ble_eq_true rfl) ?_
  exact ⟨rfl, rfl⟩

def LS_39 : List mEn := LS_38.set 15 (.inr (.inr (2, [some (some 16), some (some 17), some (some 18), none, none, none, none, none])))
set_option maxRecDepth 100000 in
set_option maxHeartbeats 4000000 in
theorem n_X2_15 {M : mM} {J : mJ} (hz : ∀ k, 15 < k → M k = fun _ => 0) : Ct yX2_init cX2_init 1 none (rmC 2 5 82) true [.ref 15] LS_29 M J (mNv LS_39 (fun M1 J1 => M1 = (mU M 15 5 12) ∧ J1 = J)) := by
  refine ct_of (own := RX2) (ini := true) (ls := [some (.ref 15)]) 0 (by decide +kernel) rfl (fun _ => rfl) rfl (fun ad => by first | exact Nat.le_of_ble_eq_true rfl) ?_
  refine v_aload_n (pc := 0) dX2_init_0 rfl ?_
  refine v_obj (pc := 1) woX2_3 woI woC (Nat.le_of_ble_eq_true rfl) (Nat.le_of_ble_eq_true rfl) dX2_init_1 ?_
  refine v_aload_n (pc := 4) dX2_init_4 rfl ?_
  refine v_bipush (pc := 5) (v := 7) (by decide) dX2_init_5 ?_
  refine v_newI (pc := 7) (N := 7) (r := 16) (ly' := LS_30) waI (by decide) (by decide) (Nat.le_of_ble_eq_true rfl) (by decide +kernel) (by decide) (by decide +kernel) rfl rfl (by decide +kernel) (hz 16 (by omega)) rfl (Nat.le_of_ble_eq_true rfl) (Nat.le_of_ble_eq_true rfl) dX2_init_7 ?_
  refine v_putFR (pc := 9) (ly' := LS_31) (fs := [some none, some none, some none, none, none, none, none, none]) rfl fkX2_9f (fun _ => rfl) (fun _ => rfl) rfl rfl rfl dX2_init_9 ?_
  refine v_aload_n (pc := 12) dX2_init_12 rfl ?_
  refine v_bipush (pc := 13) (v := 7) (by decide) dX2_init_13 ?_
  refine v_newI (pc := 15) (N := 7) (r := 17) (ly' := LS_32) waI (by decide) (by decide) (Nat.le_of_ble_eq_true rfl) (by decide +kernel) (by decide) (by decide +kernel) rfl rfl (by decide +kernel) (hz 17 (by omega)) rfl (Nat.le_of_ble_eq_true rfl) (Nat.le_of_ble_eq_true rfl) dX2_init_15 ?_
  refine v_putFR (pc := 17) (ly' := LS_33) (fs := [some (some 16), some none, some none, none, none, none, none, none]) rfl fkX2_15f (fun _ => rfl) (fun _ => rfl) rfl rfl rfl dX2_init_17 ?_
  refine v_aload_n (pc := 20) dX2_init_20 rfl ?_
  refine v_newO (pc := 21) (r := 18) (ly' := LS_34) wcX2_18 wi0 wj0 lyX0 tyX0_ok rfl hf0 (by decide +kernel) (by decide) (by decide +kernel) rfl rfl (by decide +kernel) rfl (hz 18 (by omega)) rfl (Nat.le_of_ble_eq_true rfl) (Nat.le_of_ble_eq_true rfl) dX2_init_21 ?_
  refine v_dupR (pc := 24) dX2_init_24 ?_
  refine v_callI (pc := 25) (As := []) (r := 18) mkX2_20 (n_X0_18 (fun k hk => hz k (by omega))) rfl (Nat.le_of_ble_eq_true rfl) rfl (Nat.le_of_ble_eq_true rfl) (Nat.le_of_ble_eq_true rfl) (by decide +kernel) rfl rfl dX2_init_25 (fun o_25 ly_25 M_25 J_25 h_25 => ?_)
  obtain ⟨e1_25, e2_25, e3_25, e4_25⟩ := h_25
  replace e4_25 := e4_25.symm
  subst e1_25 e2_25 e3_25 e4_25
  refine v_putFR (pc := 28) (ly' := LS_39) (fs := [some (some 16), some (some 17), some none, none, none, none, none, none]) rfl fkX2_21f (fun _ => rfl) (fun _ => rfl) rfl rfl rfl dX2_init_28 ?_
  refine v_aload_n (pc := 31) dX2_init_31 rfl ?_
  refine v_bipush (pc := 32) (v := 12) (by decide) dX2_init_32 ?_
  refine v_putI (pc := 34) fkX2_25p (show LS_39[15]? = some (.inr (.inr (2, [some (some 16), some (some 17), some (some 18), none, none, none, none, none]))) from rfl) rfl dX2_init_34 ?_
  refine v_vret (pc := 37) dX2_init_37 (Nat.le_of_ble_eq_true rfl) (Nat.le_of_ble_eq_true rfl) ?_
  exact ⟨rfl, rfl⟩

def LS_40 : List mEn := LS_39.set 14 (.inr (.inr (1, [some (some 15), some none, some none, none])))
def LS_41 : List mEn := LS_40 ++ [.inr (.inr (4, [some none, some none, some none, none]))]
def LS_42 : List mEn := LS_41 ++ [.inl (0, 8, 0)]
def LS_43 : List mEn := LS_42.set 21 (.inr (.inr (4, [some (some 22), some none, some none, none])))
def LS_44 : List mEn := LS_43 ++ [.inl (0, 8, 0)]
def LS_45 : List mEn := LS_44.set 21 (.inr (.inr (4, [some (some 22), some (some 23), some none, none])))
def LS_46 : List mEn := LS_45 ++ [.inl (0, 8, 0)]
def LS_47 : List mEn := LS_46.set 21 (.inr (.inr (4, [some (some 22), some (some 23), some (some 24), none])))
set_option maxRecDepth 100000 in
set_option maxHeartbeats 4000000 in
theorem n_X4_21 {M : mM} {J : mJ} (hz : ∀ k, 21 < k → M k = fun _ => 0) : Ct yX4_init cX4_init 1 none (rmC 1 3 24) true [.ref 21] LS_41 M J (mNv LS_47 (fun M1 J1 => M1 = M ∧ J1 = J)) := by
  refine ct_of (own := RX4) (ini := true) (ls := [some (.ref 21)]) 0 (by decide +kernel) rfl (fun _ => rfl) rfl (fun ad => by first | exact Nat.le_of_ble_eq_true rfl) ?_
  refine v_aload_n (pc := 0) dX4_init_0 rfl ?_
  refine v_obj (pc := 1) woX4_3 woI woC (Nat.le_of_ble_eq_true rfl) (Nat.le_of_ble_eq_true rfl) dX4_init_1 ?_
  refine v_aload_n (pc := 4) dX4_init_4 rfl ?_
  refine v_bipush (pc := 5) (v := 8) (by decide) dX4_init_5 ?_
  refine v_newI (pc := 7) (N := 8) (r := 22) (ly' := LS_42) waI (by decide) (by decide) (Nat.le_of_ble_eq_true rfl) (by decide +kernel) (by decide) (by decide +kernel) rfl rfl (by decide +kernel) (hz 22 (by omega)) rfl (Nat.le_of_ble_eq_true rfl) (Nat.le_of_ble_eq_true rfl) dX4_init_7 ?_
  refine v_putFR (pc := 9) (ly' := LS_43) (fs := [some none, some none, some none, none]) rfl fkX4_9f (fun _ => rfl) (fun _ => rfl) rfl rfl rfl dX4_init_9 ?_
  refine v_aload_n (pc := 12) dX4_init_12 rfl ?_
  refine v_bipush (pc := 13) (v := 8) (by decide) dX4_init_13 ?_
  refine v_newI (pc := 15) (N := 8) (r := 23) (ly' := LS_44) waI (by decide) (by decide) (Nat.le_of_ble_eq_true rfl) (by decide +kernel) (by decide) (by decide +kernel) rfl rfl (by decide +kernel) (hz 23 (by omega)) rfl (Nat.le_of_ble_eq_true rfl) (Nat.le_of_ble_eq_true rfl) dX4_init_15 ?_
  refine v_putFR (pc := 17) (ly' := LS_45) (fs := [some (some 22), some none, some none, none]) rfl fkX4_15f (fun _ => rfl) (fun _ => rfl) rfl rfl rfl dX4_init_17 ?_
  refine v_aload_n (pc := 20) dX4_init_20 rfl ?_
  refine v_bipush (pc := 21) (v := 8) (by decide) dX4_init_21 ?_
  refine v_newI (pc := 23) (N := 8) (r := 24) (ly' := LS_46) waI (by decide) (by decide) (Nat.le_of_ble_eq_true rfl) (by decide +kernel) (by decide) (by decide +kernel) rfl rfl (by decide +kernel) (hz 24 (by omega)) rfl (Nat.le_of_ble_eq_true rfl) (Nat.le_of_ble_eq_true rfl) dX4_init_23 ?_
  refine v_putFR (pc := 25) (ly' := LS_47) (fs := [some (some 22), some (some 23), some none, none]) rfl fkX4_18f (fun _ => rfl) (fun _ => rfl) rfl rfl rfl dX4_init_25 ?_
  refine v_vret (pc := 28) dX4_init_28 (Nat.le_of_ble_eq_true rfl) (Nat.le_of_ble_eq_true rfl) ?_
  exact ⟨rfl, rfl⟩

def LS_48 : List mEn := LS_47.set 14 (.inr (.inr (1, [some (some 15), some (some 21), some none, none])))
def LS_49 : List mEn := LS_48 ++ [.inl (0, 6, 0)]
def LS_50 : List mEn := LS_49.set 14 (.inr (.inr (1, [some (some 15), some (some 21), some (some 25), none])))
set_option maxRecDepth 100000 in
set_option maxHeartbeats 4000000 in
theorem l_hs_14 {M : mM} {J : mJ} {kc ks : Nat} (hkc : kc ≤ (rmC 3 11 124).cells) (hks : ks ≤ (rmC 3 11 124).slots) : ∀ (n i : Nat), n + i = 6 → V RX1 cX1_init 2 none true (rmC 3 11 124) true LS_28.length none (mNv LS_50 (fun M1 J1 => M1 = hsM M 14 ∧ J1 = J)) kc ks 36 [some (.ref 14), some (.int (nI i))] [] LS_50 (itN (hsI 14) (mU M 15 5 12) i) J := by
  intro n
  induction n with
  | zero =>
    intro i hi
    obtain rfl : i = 6 := by omega
    refine v_iload_n (pc := 36) dX1_init_36 rfl ?_
    refine v_bipush (pc := 37) (v := 6) (by decide) dX1_init_37 ?_
    refine v_icmp_ge (pc := 39) (tgt := 56) dX1_init_39 (by decide) (fun c_39 => ?_) (fun c_39 => absurd (by decide) c_39)
    refine v_vret (pc := 56) dX1_init_56 hkc hks ?_
    exact ⟨rfl, rfl⟩
  | succ n ih =>
    intro i hi
    have hb : i < 6 := by omega
    have hcl := nI_clamp (show i < 2 ^ 31 by omega)
    refine v_iload_n (pc := 36) dX1_init_36 rfl ?_
    refine v_bipush (pc := 37) (v := 6) (by decide) dX1_init_37 ?_
    refine v_icmp_ge (pc := 39) (tgt := 56) dX1_init_39 (by decide) (fun c_39 => absurd c_39 (nI_ge (b := 6) hb (by omega))) (fun c_39 => ?_)
    refine v_aload_n (pc := 42) dX1_init_42 rfl ?_
    refine v_getR (pc := 43) fkX1_25 (show LS_50[14]? = some (.inr (.inr (1, [some (some 15), some (some 21), some (some 25), none]))) from rfl) rfl dX1_init_43 ?_
    refine v_iload_n (pc := 46) dX1_init_46 rfl ?_
    refine v_ldc (pc := 47) ckX1_29 dX1_init_47 ?_
    refine v_iast (pc := 49) (show LS_50[25]? = some (.inl (0, 6, 0)) from rfl) ?_ dX1_init_49 ?_
    · exact vp_in_nI hb (by omega)
    rw [hcl]
    refine v_inc_1 (pc := 50) (v := 1) dX1_init_50 (by decide) (by decide) rfl ?_
    refine v_goto (pc := 53) (tgt := 36) dX1_init_53 (by decide) ?_
    have e9 := ih (i + 1) (by omega)
    rw [itN_s] at e9
    rw [nI_1]
    exact e9

set_option maxRecDepth 100000 in
set_option maxHeartbeats 4000000 in
theorem n_X1_14 {M : mM} {J : mJ} (hz : ∀ k, 14 < k → M k = fun _ => 0) : Ct yX1_init cX1_init 2 none (rmC 3 11 124) true [.ref 14] LS_28 M J (mNv LS_50 (fun M1 J1 => M1 = hsM M 14 ∧ J1 = J)) := by
  refine ct_of (own := RX1) (ini := true) (ls := [some (.ref 14), none]) 1 (by decide +kernel) rfl (fun _ => rfl) rfl (fun ad => by first | exact Nat.le_of_ble_eq_true rfl) ?_
  refine v_aload_n (pc := 0) dX1_init_0 rfl ?_
  refine v_obj (pc := 1) woX1_3 woI woC (Nat.le_of_ble_eq_true rfl) (Nat.le_of_ble_eq_true rfl) dX1_init_1 ?_
  refine v_aload_n (pc := 4) dX1_init_4 rfl ?_
  refine v_newO (pc := 5) (r := 15) (ly' := LS_29) wcX1_9 wi2 wj2 lyX2 tyX2_ok rfl hf2 (by decide +kernel) (by decide) (by decide +kernel) rfl rfl (by decide +kernel) rfl (hz 15 (by omega)) rfl (Nat.le_of_ble_eq_true rfl) (Nat.le_of_ble_eq_true rfl) dX1_init_5 ?_
  refine v_dupR (pc := 8) dX1_init_8 ?_
  refine v_callI (pc := 9) (As := []) (r := 15) mkX1_11 (n_X2_15 (fun k hk => hz k (by omega))) rfl (Nat.le_of_ble_eq_true rfl) rfl (Nat.le_of_ble_eq_true rfl) (Nat.le_of_ble_eq_true rfl) (by decide +kernel) rfl rfl dX1_init_9 (fun o_9 ly_9 M_9 J_9 h_9 => ?_)
  obtain ⟨e1_9, e2_9, e3_9, e4_9⟩ := h_9
  replace e4_9 := e4_9.symm
  subst e1_9 e2_9 e3_9 e4_9
  refine v_putFR (pc := 12) (ly' := LS_40) (fs := [some none, some none, some none, none]) rfl fkX1_12f (fun _ => rfl) (fun _ => rfl) rfl rfl rfl dX1_init_12 ?_
  refine v_aload_n (pc := 15) dX1_init_15 rfl ?_
  refine v_newO (pc := 16) (r := 21) (ly' := LS_41) wcX1_18 wi4 wj4 lyX4 tyX4_ok rfl hf4 (by decide +kernel) (by decide) (by decide +kernel) rfl rfl (by decide +kernel) rfl ((mU_ne 21 (show (21 : Nat) ≠ 15 by omega)).trans (hz 21 (by omega))) rfl (Nat.le_of_ble_eq_true rfl) (Nat.le_of_ble_eq_true rfl) dX1_init_16 ?_
  refine v_dupR (pc := 19) dX1_init_19 ?_
  refine v_callI (pc := 20) (As := []) (r := 21) mkX1_20 (n_X4_21 (fun k hk => (mU_ne k (by omega)).trans (hz k (by omega)))) rfl (Nat.le_of_ble_eq_true rfl) rfl (Nat.le_of_ble_eq_true rfl) (Nat.le_of_ble_eq_true rfl) (by decide +kernel) rfl rfl dX1_init_20 (fun o_20 ly_20 M_20 J_20 h_20 => ?_)
  obtain ⟨e1_20, e2_20, e3_20, e4_20⟩ := h_20
  replace e4_20 := e4_20.symm
  subst e1_20 e2_20 e3_20 e4_20
  refine v_putFR (pc := 23) (ly' := LS_48) (fs := [some (some 15), some none, some none, none]) rfl fkX1_21f (fun _ => rfl) (fun _ => rfl) rfl rfl rfl dX1_init_23 ?_
  refine v_aload_n (pc := 26) dX1_init_26 rfl ?_
  refine v_bipush (pc := 27) (v := 6) (by decide) dX1_init_27 ?_
  refine v_newI (pc := 29) (N := 6) (r := 25) (ly' := LS_49) waI (by decide) (by decide) (Nat.le_of_ble_eq_true rfl) (by decide +kernel) (by decide) (by decide +kernel) rfl rfl (by decide +kernel) ((mU_ne 25 (show (25 : Nat) ≠ 15 by omega)).trans (hz 25 (by omega))) rfl (Nat.le_of_ble_eq_true rfl) (Nat.le_of_ble_eq_true rfl) dX1_init_29 ?_
  refine v_putFR (pc := 31) (ly' := LS_50) (fs := [some (some 15), some (some 21), some none, none]) rfl fkX1_25f (fun _ => rfl) (fun _ => rfl) rfl rfl rfl dX1_init_31 ?_
  refine v_iconst (pc := 34) (v := 0) (by decide) dX1_init_34 ?_
  refine v_ist_1 (pc := 35) dX1_init_35 (by decide) rfl ?_
  exact l_hs_14 (Nat.le_of_ble_eq_true rfl) (Nat.le_of_ble_eq_true rfl) 6 0 rfl

def LS_51 : List mEn := LS_50.set 13 (.inr (.inl (3, [some 14, none])))
def LS_52 : List mEn := LS_51 ++ [.inr (.inr (1, [some none, some none, some none, none]))]
def LS_53 : List mEn := LS_52 ++ [.inr (.inr (2, [some none, some none, some none, none, none, none, none, none]))]
def LS_54 : List mEn := LS_53 ++ [.inl (0, 7, 0)]
def LS_55 : List mEn := LS_54.set 27 (.inr (.inr (2, [some (some 28), some none, some none, none, none, none, none, none])))
def LS_56 : List mEn := LS_55 ++ [.inl (0, 7, 0)]
def LS_57 : List mEn := LS_56.set 27 (.inr (.inr (2, [some (some 28), some (some 29), some none, none, none, none, none, none])))
def LS_58 : List mEn := LS_57 ++ [.inr (.inr (0, [some none, some none, none, none]))]
def LS_59 : List mEn := LS_58 ++ [.inl (0, 32, 0)]
def LS_60 : List mEn := LS_59.set 30 (.inr (.inr (0, [some (some 31), some none, none, none])))
def LS_61 : List mEn := LS_60 ++ [.inl (0, 32, 0)]
def LS_62 : List mEn := LS_61.set 30 (.inr (.inr (0, [some (some 31), some (some 32), none, none])))
set_option maxRecDepth 100000 in
set_option maxHeartbeats 4000000 in
theorem n_X0_30 {M : mM} {J : mJ} (hz : ∀ k, 30 < k → M k = fun _ => 0) : Ct yX0_init cX0_init 1 none (rmC 1 2 64) true [.ref 30] LS_58 M J (mNv LS_62 (fun M1 J1 => M1 = M ∧ J1 = J)) := by
  refine ct_of (own := RX0) (ini := true) (ls := [some (.ref 30)]) 0 (by decide +kernel) rfl (fun _ => rfl) rfl (fun ad => by first | exact Nat.le_of_ble_eq_true rfl) ?_
  refine v_aload_n (pc := 0) dX0_init_0 rfl ?_
  refine v_obj (pc := 1) woX0_3 woI woC (Nat.le_of_ble_eq_true rfl) (Nat.le_of_ble_eq_true rfl) dX0_init_1 ?_
  refine v_aload_n (pc := 4) dX0_init_4 rfl ?_
  refine v_bipush (pc := 5) (v := 32) (by decide) dX0_init_5 ?_
  refine v_newI (pc := 7) (N := 32) (r := 31) (ly' := LS_59) waI (by decide) (by decide) (Nat.le_of_ble_eq_true rfl) (by decide +kernel) (by decide) (by decide +kernel) rfl rfl (by decide +kernel) (hz 31 (by omega)) rfl (Nat.le_of_ble_eq_true rfl) (Nat.le_of_ble_eq_true rfl) dX0_init_7 ?_
  refine v_putFR (pc := 9) (ly' := LS_60) (fs := [some none, some none, none, none]) rfl fkX0_9f (fun _ => rfl) (fun _ => rfl) rfl rfl rfl dX0_init_9 ?_
  refine v_aload_n (pc := 12) dX0_init_12 rfl ?_
  refine v_bipush (pc := 13) (v := 32) (by decide) dX0_init_13 ?_
  refine v_newI (pc := 15) (N := 32) (r := 32) (ly' := LS_61) waI (by decide) (by decide) (Nat.le_of_ble_eq_true rfl) (by decide +kernel) (by decide) (by decide +kernel) rfl rfl (by decide +kernel) (hz 32 (by omega)) rfl (Nat.le_of_ble_eq_true rfl) (Nat.le_of_ble_eq_true rfl) dX0_init_15 ?_
  refine v_putFR (pc := 17) (ly' := LS_62) (fs := [some (some 31), some none, none, none]) rfl fkX0_15f (fun _ => rfl) (fun _ => rfl) rfl rfl rfl dX0_init_17 ?_
  refine v_vret (pc := 20) dX0_init_20 (Nat.le_of_ble_eq_true rfl) (Nat.le_of_ble_eq_true rfl) ?_
  exact ⟨rfl, rfl⟩

def LS_63 : List mEn := LS_62.set 27 (.inr (.inr (2, [some (some 28), some (some 29), some (some 30), none, none, none, none, none])))
set_option maxRecDepth 100000 in
set_option maxHeartbeats 4000000 in
theorem n_X2_27 {M : mM} {J : mJ} (hz : ∀ k, 27 < k → M k = fun _ => 0) : Ct yX2_init cX2_init 1 none (rmC 2 5 82) true [.ref 27] LS_53 M J (mNv LS_63 (fun M1 J1 => M1 = (mU M 27 5 12) ∧ J1 = J)) := by
  refine ct_of (own := RX2) (ini := true) (ls := [some (.ref 27)]) 0 (by decide +kernel) rfl (fun _ => rfl) rfl (fun ad => by first | exact Nat.le_of_ble_eq_true rfl) ?_
  refine v_aload_n (pc := 0) dX2_init_0 rfl ?_
  refine v_obj (pc := 1) woX2_3 woI woC (Nat.le_of_ble_eq_true rfl) (Nat.le_of_ble_eq_true rfl) dX2_init_1 ?_
  refine v_aload_n (pc := 4) dX2_init_4 rfl ?_
  refine v_bipush (pc := 5) (v := 7) (by decide) dX2_init_5 ?_
  refine v_newI (pc := 7) (N := 7) (r := 28) (ly' := LS_54) waI (by decide) (by decide) (Nat.le_of_ble_eq_true rfl) (by decide +kernel) (by decide) (by decide +kernel) rfl rfl (by decide +kernel) (hz 28 (by omega)) rfl (Nat.le_of_ble_eq_true rfl) (Nat.le_of_ble_eq_true rfl) dX2_init_7 ?_
  refine v_putFR (pc := 9) (ly' := LS_55) (fs := [some none, some none, some none, none, none, none, none, none]) rfl fkX2_9f (fun _ => rfl) (fun _ => rfl) rfl rfl rfl dX2_init_9 ?_
  refine v_aload_n (pc := 12) dX2_init_12 rfl ?_
  refine v_bipush (pc := 13) (v := 7) (by decide) dX2_init_13 ?_
  refine v_newI (pc := 15) (N := 7) (r := 29) (ly' := LS_56) waI (by decide) (by decide) (Nat.le_of_ble_eq_true rfl) (by decide +kernel) (by decide) (by decide +kernel) rfl rfl (by decide +kernel) (hz 29 (by omega)) rfl (Nat.le_of_ble_eq_true rfl) (Nat.le_of_ble_eq_true rfl) dX2_init_15 ?_
  refine v_putFR (pc := 17) (ly' := LS_57) (fs := [some (some 28), some none, some none, none, none, none, none, none]) rfl fkX2_15f (fun _ => rfl) (fun _ => rfl) rfl rfl rfl dX2_init_17 ?_
  refine v_aload_n (pc := 20) dX2_init_20 rfl ?_
  refine v_newO (pc := 21) (r := 30) (ly' := LS_58) wcX2_18 wi0 wj0 lyX0 tyX0_ok rfl hf0 (by decide +kernel) (by decide) (by decide +kernel) rfl rfl (by decide +kernel) rfl (hz 30 (by omega)) rfl (Nat.le_of_ble_eq_true rfl) (Nat.le_of_ble_eq_true rfl) dX2_init_21 ?_
  refine v_dupR (pc := 24) dX2_init_24 ?_
  refine v_callI (pc := 25) (As := []) (r := 30) mkX2_20 (n_X0_30 (fun k hk => hz k (by omega))) rfl (Nat.le_of_ble_eq_true rfl) rfl (Nat.le_of_ble_eq_true rfl) (Nat.le_of_ble_eq_true rfl) (by decide +kernel) rfl rfl dX2_init_25 (fun o_25 ly_25 M_25 J_25 h_25 => ?_)
  obtain ⟨e1_25, e2_25, e3_25, e4_25⟩ := h_25
  replace e4_25 := e4_25.symm
  subst e1_25 e2_25 e3_25 e4_25
  refine v_putFR (pc := 28) (ly' := LS_63) (fs := [some (some 28), some (some 29), some none, none, none, none, none, none]) rfl fkX2_21f (fun _ => rfl) (fun _ => rfl) rfl rfl rfl dX2_init_28 ?_
  refine v_aload_n (pc := 31) dX2_init_31 rfl ?_
  refine v_bipush (pc := 32) (v := 12) (by decide) dX2_init_32 ?_
  refine v_putI (pc := 34) fkX2_25p (show LS_63[27]? = some (.inr (.inr (2, [some (some 28), some (some 29), some (some 30), none, none, none, none, none]))) from rfl) rfl dX2_init_34 ?_
  refine v_vret (pc := 37) dX2_init_37 (Nat.le_of_ble_eq_true rfl) (Nat.le_of_ble_eq_true rfl) ?_
  exact ⟨rfl, rfl⟩

def LS_64 : List mEn := LS_63.set 26 (.inr (.inr (1, [some (some 27), some none, some none, none])))
def LS_65 : List mEn := LS_64 ++ [.inr (.inr (4, [some none, some none, some none, none]))]
def LS_66 : List mEn := LS_65 ++ [.inl (0, 8, 0)]
def LS_67 : List mEn := LS_66.set 33 (.inr (.inr (4, [some (some 34), some none, some none, none])))
def LS_68 : List mEn := LS_67 ++ [.inl (0, 8, 0)]
def LS_69 : List mEn := LS_68.set 33 (.inr (.inr (4, [some (some 34), some (some 35), some none, none])))
def LS_70 : List mEn := LS_69 ++ [.inl (0, 8, 0)]
def LS_71 : List mEn := LS_70.set 33 (.inr (.inr (4, [some (some 34), some (some 35), some (some 36), none])))
set_option maxRecDepth 100000 in
set_option maxHeartbeats 4000000 in
theorem n_X4_33 {M : mM} {J : mJ} (hz : ∀ k, 33 < k → M k = fun _ => 0) : Ct yX4_init cX4_init 1 none (rmC 1 3 24) true [.ref 33] LS_65 M J (mNv LS_71 (fun M1 J1 => M1 = M ∧ J1 = J)) := by
  refine ct_of (own := RX4) (ini := true) (ls := [some (.ref 33)]) 0 (by decide +kernel) rfl (fun _ => rfl) rfl (fun ad => by first | exact Nat.le_of_ble_eq_true rfl) ?_
  refine v_aload_n (pc := 0) dX4_init_0 rfl ?_
  refine v_obj (pc := 1) woX4_3 woI woC (Nat.le_of_ble_eq_true rfl) (Nat.le_of_ble_eq_true rfl) dX4_init_1 ?_
  refine v_aload_n (pc := 4) dX4_init_4 rfl ?_
  refine v_bipush (pc := 5) (v := 8) (by decide) dX4_init_5 ?_
  refine v_newI (pc := 7) (N := 8) (r := 34) (ly' := LS_66) waI (by decide) (by decide) (Nat.le_of_ble_eq_true rfl) (by decide +kernel) (by decide) (by decide +kernel) rfl rfl (by decide +kernel) (hz 34 (by omega)) rfl (Nat.le_of_ble_eq_true rfl) (Nat.le_of_ble_eq_true rfl) dX4_init_7 ?_
  refine v_putFR (pc := 9) (ly' := LS_67) (fs := [some none, some none, some none, none]) rfl fkX4_9f (fun _ => rfl) (fun _ => rfl) rfl rfl rfl dX4_init_9 ?_
  refine v_aload_n (pc := 12) dX4_init_12 rfl ?_
  refine v_bipush (pc := 13) (v := 8) (by decide) dX4_init_13 ?_
  refine v_newI (pc := 15) (N := 8) (r := 35) (ly' := LS_68) waI (by decide) (by decide) (Nat.le_of_ble_eq_true rfl) (by decide +kernel) (by decide) (by decide +kernel) rfl rfl (by decide +kernel) (hz 35 (by omega)) rfl (Nat.le_of_ble_eq_true rfl) (Nat.le_of_ble_eq_true rfl) dX4_init_15 ?_
  refine v_putFR (pc := 17) (ly' := LS_69) (fs := [some (some 34), some none, some none, none]) rfl fkX4_15f (fun _ => rfl) (fun _ => rfl) rfl rfl rfl dX4_init_17 ?_
  refine v_aload_n (pc := 20) dX4_init_20 rfl ?_
  refine v_bipush (pc := 21) (v := 8) (by decide) dX4_init_21 ?_
  refine v_newI (pc := 23) (N := 8) (r := 36) (ly' := LS_70) waI (by decide) (by decide) (Nat.le_of_ble_eq_true rfl) (by decide +kernel) (by decide) (by decide +kernel) rfl rfl (by decide +kernel) (hz 36 (by omega)) rfl (Nat.le_of_ble_eq_true rfl) (Nat.le_of_ble_eq_true rfl) dX4_init_23 ?_
  refine v_putFR (pc := 25) (ly' := LS_71) (fs := [some (some 34), some (some 35), some none, none]) rfl fkX4_18f (fun _ => rfl) (fun _ => rfl) rfl rfl rfl dX4_init_25 ?_
  refine v_vret (pc := 28) dX4_init_28 (Nat.le_of_ble_eq_true rfl) (Nat.le_of_ble_eq_true rfl) ?_
  exact ⟨rfl, rfl⟩

def LS_72 : List mEn := LS_71.set 26 (.inr (.inr (1, [some (some 27), some (some 33), some none, none])))
def LS_73 : List mEn := LS_72 ++ [.inl (0, 6, 0)]
def LS_74 : List mEn := LS_73.set 26 (.inr (.inr (1, [some (some 27), some (some 33), some (some 37), none])))
set_option maxRecDepth 100000 in
set_option maxHeartbeats 4000000 in
theorem l_hs_26 {M : mM} {J : mJ} {kc ks : Nat} (hkc : kc ≤ (rmC 3 11 124).cells) (hks : ks ≤ (rmC 3 11 124).slots) : ∀ (n i : Nat), n + i = 6 → V RX1 cX1_init 2 none true (rmC 3 11 124) true LS_52.length none (mNv LS_74 (fun M1 J1 => M1 = hsM M 26 ∧ J1 = J)) kc ks 36 [some (.ref 26), some (.int (nI i))] [] LS_74 (itN (hsI 26) (mU M 27 5 12) i) J := by
  intro n
  induction n with
  | zero =>
    intro i hi
    obtain rfl : i = 6 := by omega
    refine v_iload_n (pc := 36) dX1_init_36 rfl ?_
    refine v_bipush (pc := 37) (v := 6) (by decide) dX1_init_37 ?_
    refine v_icmp_ge (pc := 39) (tgt := 56) dX1_init_39 (by decide) (fun c_39 => ?_) (fun c_39 => absurd (by decide) c_39)
    refine v_vret (pc := 56) dX1_init_56 hkc hks ?_
    exact ⟨rfl, rfl⟩
  | succ n ih =>
    intro i hi
    have hb : i < 6 := by omega
    have hcl := nI_clamp (show i < 2 ^ 31 by omega)
    refine v_iload_n (pc := 36) dX1_init_36 rfl ?_
    refine v_bipush (pc := 37) (v := 6) (by decide) dX1_init_37 ?_
    refine v_icmp_ge (pc := 39) (tgt := 56) dX1_init_39 (by decide) (fun c_39 => absurd c_39 (nI_ge (b := 6) hb (by omega))) (fun c_39 => ?_)
    refine v_aload_n (pc := 42) dX1_init_42 rfl ?_
    refine v_getR (pc := 43) fkX1_25 (show LS_74[26]? = some (.inr (.inr (1, [some (some 27), some (some 33), some (some 37), none]))) from rfl) rfl dX1_init_43 ?_
    refine v_iload_n (pc := 46) dX1_init_46 rfl ?_
    refine v_ldc (pc := 47) ckX1_29 dX1_init_47 ?_
    refine v_iast (pc := 49) (show LS_74[37]? = some (.inl (0, 6, 0)) from rfl) ?_ dX1_init_49 ?_
    · exact vp_in_nI hb (by omega)
    rw [hcl]
    refine v_inc_1 (pc := 50) (v := 1) dX1_init_50 (by decide) (by decide) rfl ?_
    refine v_goto (pc := 53) (tgt := 36) dX1_init_53 (by decide) ?_
    have e9 := ih (i + 1) (by omega)
    rw [itN_s] at e9
    rw [nI_1]
    exact e9

set_option maxRecDepth 100000 in
set_option maxHeartbeats 4000000 in
theorem n_X1_26 {M : mM} {J : mJ} (hz : ∀ k, 26 < k → M k = fun _ => 0) : Ct yX1_init cX1_init 2 none (rmC 3 11 124) true [.ref 26] LS_52 M J (mNv LS_74 (fun M1 J1 => M1 = hsM M 26 ∧ J1 = J)) := by
  refine ct_of (own := RX1) (ini := true) (ls := [some (.ref 26), none]) 1 (by decide +kernel) rfl (fun _ => rfl) rfl (fun ad => by first | exact Nat.le_of_ble_eq_true rfl) ?_
  refine v_aload_n (pc := 0) dX1_init_0 rfl ?_
  refine v_obj (pc := 1) woX1_3 woI woC (Nat.le_of_ble_eq_true rfl) (Nat.le_of_ble_eq_true rfl) dX1_init_1 ?_
  refine v_aload_n (pc := 4) dX1_init_4 rfl ?_
  refine v_newO (pc := 5) (r := 27) (ly' := LS_53) wcX1_9 wi2 wj2 lyX2 tyX2_ok rfl hf2 (by decide +kernel) (by decide) (by decide +kernel) rfl rfl (by decide +kernel) rfl (hz 27 (by omega)) rfl (Nat.le_of_ble_eq_true rfl) (Nat.le_of_ble_eq_true rfl) dX1_init_5 ?_
  refine v_dupR (pc := 8) dX1_init_8 ?_
  refine v_callI (pc := 9) (As := []) (r := 27) mkX1_11 (n_X2_27 (fun k hk => hz k (by omega))) rfl (Nat.le_of_ble_eq_true rfl) rfl (Nat.le_of_ble_eq_true rfl) (Nat.le_of_ble_eq_true rfl) (by decide +kernel) rfl rfl dX1_init_9 (fun o_9 ly_9 M_9 J_9 h_9 => ?_)
  obtain ⟨e1_9, e2_9, e3_9, e4_9⟩ := h_9
  replace e4_9 := e4_9.symm
  subst e1_9 e2_9 e3_9 e4_9
  refine v_putFR (pc := 12) (ly' := LS_64) (fs := [some none, some none, some none, none]) rfl fkX1_12f (fun _ => rfl) (fun _ => rfl) rfl rfl rfl dX1_init_12 ?_
  refine v_aload_n (pc := 15) dX1_init_15 rfl ?_
  refine v_newO (pc := 16) (r := 33) (ly' := LS_65) wcX1_18 wi4 wj4 lyX4 tyX4_ok rfl hf4 (by decide +kernel) (by decide) (by decide +kernel) rfl rfl (by decide +kernel) rfl ((mU_ne 33 (show (33 : Nat) ≠ 27 by omega)).trans (hz 33 (by omega))) rfl (Nat.le_of_ble_eq_true rfl) (Nat.le_of_ble_eq_true rfl) dX1_init_16 ?_
  refine v_dupR (pc := 19) dX1_init_19 ?_
  refine v_callI (pc := 20) (As := []) (r := 33) mkX1_20 (n_X4_33 (fun k hk => (mU_ne k (by omega)).trans (hz k (by omega)))) rfl (Nat.le_of_ble_eq_true rfl) rfl (Nat.le_of_ble_eq_true rfl) (Nat.le_of_ble_eq_true rfl) (by decide +kernel) rfl rfl dX1_init_20 (fun o_20 ly_20 M_20 J_20 h_20 => ?_)
  obtain ⟨e1_20, e2_20, e3_20, e4_20⟩ := h_20
  replace e4_20 := e4_20.symm
  subst e1_20 e2_20 e3_20 e4_20
  refine v_putFR (pc := 23) (ly' := LS_72) (fs := [some (some 27), some none, some none, none]) rfl fkX1_21f (fun _ => rfl) (fun _ => rfl) rfl rfl rfl dX1_init_23 ?_
  refine v_aload_n (pc := 26) dX1_init_26 rfl ?_
  refine v_bipush (pc := 27) (v := 6) (by decide) dX1_init_27 ?_
  refine v_newI (pc := 29) (N := 6) (r := 37) (ly' := LS_73) waI (by decide) (by decide) (Nat.le_of_ble_eq_true rfl) (by decide +kernel) (by decide) (by decide +kernel) rfl rfl (by decide +kernel) ((mU_ne 37 (show (37 : Nat) ≠ 27 by omega)).trans (hz 37 (by omega))) rfl (Nat.le_of_ble_eq_true rfl) (Nat.le_of_ble_eq_true rfl) dX1_init_29 ?_
  refine v_putFR (pc := 31) (ly' := LS_74) (fs := [some (some 27), some (some 33), some none, none]) rfl fkX1_25f (fun _ => rfl) (fun _ => rfl) rfl rfl rfl dX1_init_31 ?_
  refine v_iconst (pc := 34) (v := 0) (by decide) dX1_init_34 ?_
  refine v_ist_1 (pc := 35) dX1_init_35 (by decide) rfl ?_
  exact l_hs_26 (Nat.le_of_ble_eq_true rfl) (Nat.le_of_ble_eq_true rfl) 6 0 rfl

def LS_75 : List mEn := LS_74.set 13 (.inr (.inl (3, [some 14, some 26])))
theorem wcX6_20 : Cond.classLink RX6 20 RX2 ∈ GW := gwi 152 (by decide +kernel) (by decide +kernel)
def LS_76 : List mEn := LS_75 ++ [.inr (.inr (2, [some none, some none, some none, none, none, none, none, none]))]
def LS_77 : List mEn := LS_76 ++ [.inl (0, 7, 0)]
def LS_78 : List mEn := LS_77.set 38 (.inr (.inr (2, [some (some 39), some none, some none, none, none, none, none, none])))
def LS_79 : List mEn := LS_78 ++ [.inl (0, 7, 0)]
def LS_80 : List mEn := LS_79.set 38 (.inr (.inr (2, [some (some 39), some (some 40), some none, none, none, none, none, none])))
def LS_81 : List mEn := LS_80 ++ [.inr (.inr (0, [some none, some none, none, none]))]
def LS_82 : List mEn := LS_81 ++ [.inl (0, 32, 0)]
def LS_83 : List mEn := LS_82.set 41 (.inr (.inr (0, [some (some 42), some none, none, none])))
def LS_84 : List mEn := LS_83 ++ [.inl (0, 32, 0)]
def LS_85 : List mEn := LS_84.set 41 (.inr (.inr (0, [some (some 42), some (some 43), none, none])))
set_option maxRecDepth 100000 in
set_option maxHeartbeats 4000000 in
theorem n_X0_41 {M : mM} {J : mJ} (hz : ∀ k, 41 < k → M k = fun _ => 0) : Ct yX0_init cX0_init 1 none (rmC 1 2 64) true [.ref 41] LS_81 M J (mNv LS_85 (fun M1 J1 => M1 = M ∧ J1 = J)) := by
  refine ct_of (own := RX0) (ini := true) (ls := [some (.ref 41)]) 0 (by decide +kernel) rfl (fun _ => rfl) rfl (fun ad => by first | exact Nat.le_of_ble_eq_true rfl) ?_
  refine v_aload_n (pc := 0) dX0_init_0 rfl ?_
  refine v_obj (pc := 1) woX0_3 woI woC (Nat.le_of_ble_eq_true rfl) (Nat.le_of_ble_eq_true rfl) dX0_init_1 ?_
  refine v_aload_n (pc := 4) dX0_init_4 rfl ?_
  refine v_bipush (pc := 5) (v := 32) (by decide) dX0_init_5 ?_
  refine v_newI (pc := 7) (N := 32) (r := 42) (ly' := LS_82) waI (by decide) (by decide) (Nat.le_of_ble_eq_true rfl) (by decide +kernel) (by decide) (by decide +kernel) rfl rfl (by decide +kernel) (hz 42 (by omega)) rfl (Nat.le_of_ble_eq_true rfl) (Nat.le_of_ble_eq_true rfl) dX0_init_7 ?_
  refine v_putFR (pc := 9) (ly' := LS_83) (fs := [some none, some none, none, none]) rfl fkX0_9f (fun _ => rfl) (fun _ => rfl) rfl rfl rfl dX0_init_9 ?_
  refine v_aload_n (pc := 12) dX0_init_12 rfl ?_
  refine v_bipush (pc := 13) (v := 32) (by decide) dX0_init_13 ?_
  refine v_newI (pc := 15) (N := 32) (r := 43) (ly' := LS_84) waI (by decide) (by decide) (Nat.le_of_ble_eq_true rfl) (by decide +kernel) (by decide) (by decide +kernel) rfl rfl (by decide +kernel) (hz 43 (by omega)) rfl (Nat.le_of_ble_eq_true rfl) (Nat.le_of_ble_eq_true rfl) dX0_init_15 ?_
  refine v_putFR (pc := 17) (ly' := LS_85) (fs := [some (some 42), some none, none, none]) rfl fkX0_15f (fun _ => rfl) (fun _ => rfl) rfl rfl rfl dX0_init_17 ?_
  refine v_vret (pc := 20) dX0_init_20 (Nat.le_of_ble_eq_true rfl) (Nat.le_of_ble_eq_true rfl) ?_
  exact ⟨rfl, rfl⟩

def LS_86 : List mEn := LS_85.set 38 (.inr (.inr (2, [some (some 39), some (some 40), some (some 41), none, none, none, none, none])))
set_option maxRecDepth 100000 in
set_option maxHeartbeats 4000000 in
theorem n_X2_38 {M : mM} {J : mJ} (hz : ∀ k, 38 < k → M k = fun _ => 0) : Ct yX2_init cX2_init 1 none (rmC 2 5 82) true [.ref 38] LS_76 M J (mNv LS_86 (fun M1 J1 => M1 = (mU M 38 5 12) ∧ J1 = J)) := by
  refine ct_of (own := RX2) (ini := true) (ls := [some (.ref 38)]) 0 (by decide +kernel) rfl (fun _ => rfl) rfl (fun ad => by first | exact Nat.le_of_ble_eq_true rfl) ?_
  refine v_aload_n (pc := 0) dX2_init_0 rfl ?_
  refine v_obj (pc := 1) woX2_3 woI woC (Nat.le_of_ble_eq_true rfl) (Nat.le_of_ble_eq_true rfl) dX2_init_1 ?_
  refine v_aload_n (pc := 4) dX2_init_4 rfl ?_
  refine v_bipush (pc := 5) (v := 7) (by decide) dX2_init_5 ?_
  refine v_newI (pc := 7) (N := 7) (r := 39) (ly' := LS_77) waI (by decide) (by decide) (Nat.le_of_ble_eq_true rfl) (by decide +kernel) (by decide) (by decide +kernel) rfl rfl (by decide +kernel) (hz 39 (by omega)) rfl (Nat.le_of_ble_eq_true rfl) (Nat.le_of_ble_eq_true rfl) dX2_init_7 ?_
  refine v_putFR (pc := 9) (ly' := LS_78) (fs := [some none, some none, some none, none, none, none, none, none]) rfl fkX2_9f (fun _ => rfl) (fun _ => rfl) rfl rfl rfl dX2_init_9 ?_
  refine v_aload_n (pc := 12) dX2_init_12 rfl ?_
  refine v_bipush (pc := 13) (v := 7) (by decide) dX2_init_13 ?_
  refine v_newI (pc := 15) (N := 7) (r := 40) (ly' := LS_79) waI (by decide) (by decide) (Nat.le_of_ble_eq_true rfl) (by decide +kernel) (by decide) (by decide +kernel) rfl rfl (by decide +kernel) (hz 40 (by omega)) rfl (Nat.le_of_ble_eq_true rfl) (Nat.le_of_ble_eq_true rfl) dX2_init_15 ?_
  refine v_putFR (pc := 17) (ly' := LS_80) (fs := [some (some 39), some none, some none, none, none, none, none, none]) rfl fkX2_15f (fun _ => rfl) (fun _ => rfl) rfl rfl rfl dX2_init_17 ?_
  refine v_aload_n (pc := 20) dX2_init_20 rfl ?_
  refine v_newO (pc := 21) (r := 41) (ly' := LS_81) wcX2_18 wi0 wj0 lyX0 tyX0_ok rfl hf0 (by decide +kernel) (by decide) (by decide +kernel) rfl rfl (by decide +kernel) rfl (hz 41 (by omega)) rfl (Nat.le_of_ble_eq_true rfl) (Nat.le_of_ble_eq_true rfl) dX2_init_21 ?_
  refine v_dupR (pc := 24) dX2_init_24 ?_
  refine v_callI (pc := 25) (As := []) (r := 41) mkX2_20 (n_X0_41 (fun k hk => hz k (by omega))) rfl (Nat.le_of_ble_eq_true rfl) rfl (Nat.le_of_ble_eq_true rfl) (Nat.le_of_ble_eq_true rfl) (by decide +kernel) rfl rfl dX2_init_25 (fun o_25 ly_25 M_25 J_25 h_25 => ?_)
  obtain ⟨e1_25, e2_25, e3_25, e4_25⟩ := h_25
  replace e4_25 := e4_25.symm
  subst e1_25 e2_25 e3_25 e4_25
  refine v_putFR (pc := 28) (ly' := LS_86) (fs := [some (some 39), some (some 40), some none, none, none, none, none, none]) rfl fkX2_21f (fun _ => rfl) (fun _ => rfl) rfl rfl rfl dX2_init_28 ?_
  refine v_aload_n (pc := 31) dX2_init_31 rfl ?_
  refine v_bipush (pc := 32) (v := 12) (by decide) dX2_init_32 ?_
  refine v_putI (pc := 34) fkX2_25p (show LS_86[38]? = some (.inr (.inr (2, [some (some 39), some (some 40), some (some 41), none, none, none, none, none]))) from rfl) rfl dX2_init_34 ?_
  refine v_vret (pc := 37) dX2_init_37 (Nat.le_of_ble_eq_true rfl) (Nat.le_of_ble_eq_true rfl) ?_
  exact ⟨rfl, rfl⟩

def LS_87 : List mEn := LS_86.set 0 (.inr (.inr (6, [some (some 1), some (some 13), some (some 38), some none, some none, some none, some none])))
theorem wcX6_27 : Cond.classLink RX6 27 RX3 ∈ GW := gwi 154 (by decide +kernel) (by decide +kernel)
def LS_88 : List mEn := LS_87 ++ [.inr (.inr (3, [some none, none]))]
theorem woX3_3 : Cond.methodLink RX3 3 Lib.objectInit ∈ GW := gwi 159 (by decide +kernel) (by decide +kernel)
def LS_89 : List mEn := LS_88 ++ [.inl (0, 60, 0)]
def LS_90 : List mEn := LS_89.set 44 (.inr (.inr (3, [some (some 45), none])))
set_option maxRecDepth 100000 in
set_option maxHeartbeats 4000000 in
theorem n_X3_44 {M : mM} {J : mJ} (hz : ∀ k, 44 < k → M k = fun _ => 0) : Ct yX3_init cX3_init 1 none (rmC 1 1 60) true [.ref 44] LS_88 M J (mNv LS_90 (fun M1 J1 => M1 = M ∧ J1 = J)) := by
  refine ct_of (own := RX3) (ini := true) (ls := [some (.ref 44)]) 0 (by decide +kernel) rfl (fun _ => rfl) rfl (fun ad => by first | exact Nat.le_of_ble_eq_true rfl) ?_
  refine v_aload_n (pc := 0) dX3_init_0 rfl ?_
  refine v_obj (pc := 1) woX3_3 woI woC (Nat.le_of_ble_eq_true rfl) (Nat.le_of_ble_eq_true rfl) dX3_init_1 ?_
  refine v_aload_n (pc := 4) dX3_init_4 rfl ?_
  refine v_bipush (pc := 5) (v := 60) (by decide) dX3_init_5 ?_
  refine v_newI (pc := 7) (N := 60) (r := 45) (ly' := LS_89) waI (by decide) (by decide) (Nat.le_of_ble_eq_true rfl) (by decide +kernel) (by decide) (by decide +kernel) rfl rfl (by decide +kernel) (hz 45 (by omega)) rfl (Nat.le_of_ble_eq_true rfl) (Nat.le_of_ble_eq_true rfl) dX3_init_7 ?_
  refine v_putFR (pc := 9) (ly' := LS_90) (fs := [some none, none]) rfl fkX3_9f (fun _ => rfl) (fun _ => rfl) rfl rfl rfl dX3_init_9 ?_
  refine v_vret (pc := 12) dX3_init_12 (Nat.le_of_ble_eq_true rfl) (Nat.le_of_ble_eq_true rfl) ?_
  exact ⟨rfl, rfl⟩

def LS_91 : List mEn := LS_90.set 0 (.inr (.inr (6, [some (some 1), some (some 13), some (some 38), some (some 44), some none, some none, some none])))
theorem wcX6_34 : Cond.classLink RX6 34 RX5 ∈ GW := gwi 169 (by decide +kernel) (by decide +kernel)
def LS_92 : List mEn := LS_91 ++ [.inr (.inr (5, [none, none]))]
theorem woX5_1 : Cond.methodLink RX5 1 Lib.objectInit ∈ GW := gwi 174 (by decide +kernel) (by decide +kernel)
set_option maxRecDepth 100000 in
set_option maxHeartbeats 4000000 in
theorem n_X5_46 {M : mM} {J : mJ} (hz : ∀ k, 46 < k → M k = fun _ => 0) : Ct yX5_init cX5_init 1 none (rmC 1 0 0) true [.ref 46] LS_92 M J (mNv LS_92 (fun M1 J1 => M1 = M ∧ J1 = J)) := by
  refine ct_of (own := RX5) (ini := true) (ls := [some (.ref 46)]) 0 (by decide +kernel) rfl (fun _ => rfl) rfl (fun ad => by first | exact Nat.le_of_ble_eq_true rfl) ?_
  refine v_aload_n (pc := 0) dX5_init_0 rfl ?_
  refine v_obj (pc := 1) woX5_1 woI woC (Nat.le_of_ble_eq_true rfl) (Nat.le_of_ble_eq_true rfl) dX5_init_1 ?_
  refine v_vret (pc := 4) dX5_init_4 (Nat.le_of_ble_eq_true rfl) (Nat.le_of_ble_eq_true rfl) ?_
  exact ⟨rfl, rfl⟩

def LS_93 : List mEn := LS_92.set 0 (.inr (.inr (6, [some (some 1), some (some 13), some (some 38), some (some 44), some (some 46), some none, some none])))
def LS_94 : List mEn := LS_93 ++ [.inl (0, 64, 0)]
def LS_95 : List mEn := LS_94.set 0 (.inr (.inr (6, [some (some 1), some (some 13), some (some 38), some (some 44), some (some 46), some (some 47), some none])))
def LS_96 : List mEn := LS_95 ++ [.inl (1, 7, 1)]
def LS_97 : List mEn := LS_96.set 0 (.inr (.inr (6, [some (some 1), some (some 13), some (some 38), some (some 44), some (some 46), some (some 47), some (some 48)])))
set_option maxRecDepth 100000 in
set_option maxHeartbeats 4000000 in
theorem n_X6_0 {M : mM} {J : mJ} (hz : ∀ k, 0 < k → M k = fun _ => 0) (hJ : J 48 = fun _ => 0) : Ct yX6_init cX6_init 2 none (rmC 4 48 611) true [.ref 0] LS_1 M J (mNv LS_97 (fun M1 J1 => M1 = (mU (hsM (hsM (hsM M 1) 14) 26) 38 5 12) ∧ J1 = J)) := by
  refine ct_of (own := RX6) (ini := true) (ls := [some (.ref 0), none]) 1 (by decide +kernel) rfl (fun _ => rfl) rfl (fun ad => by first | exact Nat.le_of_ble_eq_true rfl) ?_
  refine v_aload_n (pc := 0) dX6_init_0 rfl ?_
  refine v_obj (pc := 1) woX6_3 woI woC (Nat.le_of_ble_eq_true rfl) (Nat.le_of_ble_eq_true rfl) dX6_init_1 ?_
  refine v_aload_n (pc := 4) dX6_init_4 rfl ?_
  refine v_newO (pc := 5) (r := 1) (ly' := LS_2) wcX6_9 wi1 wj1 lyX1 tyX1_ok rfl hf1 (by decide +kernel) (by decide) (by decide +kernel) rfl rfl (by decide +kernel) rfl (hz 1 (by omega)) rfl (Nat.le_of_ble_eq_true rfl) (Nat.le_of_ble_eq_true rfl) dX6_init_5 ?_
  refine v_dupR (pc := 8) dX6_init_8 ?_
  refine v_callI (pc := 9) (As := []) (r := 1) mkX6_11 (n_X1_1 (fun k hk => hz k (by omega))) rfl (Nat.le_of_ble_eq_true rfl) rfl (Nat.le_of_ble_eq_true rfl) (Nat.le_of_ble_eq_true rfl) (by decide +kernel) rfl rfl dX6_init_9 (fun o_9 ly_9 M_9 J_9 h_9 => ?_)
  obtain ⟨e1_9, e2_9, e3_9, e4_9⟩ := h_9
  replace e4_9 := e4_9.symm
  subst e1_9 e2_9 e3_9 e4_9
  refine v_putFR (pc := 12) (ly' := LS_25) (fs := [some none, some none, some none, some none, some none, some none, some none]) rfl fkX6_12f (fun _ => rfl) (fun _ => rfl) rfl rfl rfl dX6_init_12 ?_
  refine v_aload_n (pc := 15) dX6_init_15 rfl ?_
  refine v_iconst (pc := 16) (v := 2) (by decide) dX6_init_16 ?_
  refine v_newQ (pc := 17) (N := 2) (r := 13) (ly' := LS_26) wcX6_9 (by decide) (by decide) (Nat.le_of_ble_eq_true rfl) (by decide +kernel) (by decide) (by decide +kernel) rfl rfl (by decide +kernel) rfl (Nat.le_of_ble_eq_true rfl) (Nat.le_of_ble_eq_true rfl) dX6_init_17 ?_
  refine v_putFR (pc := 20) (ly' := LS_27) (fs := [some (some 1), some none, some none, some none, some none, some none, some none]) rfl fkX6_16f (fun _ => rfl) (fun _ => rfl) rfl rfl rfl dX6_init_20 ?_
  refine v_iconst (pc := 23) (v := 0) (by decide) dX6_init_23 ?_
  refine v_ist_1 (pc := 24) dX6_init_24 (by decide) rfl ?_
  refine v_iload_n (pc := 25) dX6_init_25 rfl ?_
  refine v_iconst (pc := 26) (v := 2) (by decide) dX6_init_26 ?_
  refine v_icmp_ge (pc := 27) (tgt := 49) dX6_init_27 (by decide) (fun c_27_0 => absurd c_27_0 (by decide)) (fun c_27_0 => ?_)
  refine v_aload_n (pc := 30) dX6_init_30 rfl ?_
  refine v_getR (pc := 31) fkX6_16 (show LS_27[0]? = some (.inr (.inr (6, [some (some 1), some (some 13), some none, some none, some none, some none, some none]))) from rfl) rfl dX6_init_31 ?_
  refine v_iload_n (pc := 34) dX6_init_34 rfl ?_
  refine v_newO (pc := 35) (r := 14) (ly' := LS_28) wcX6_9 wi1 wj1 lyX1 tyX1_ok rfl hf1 (by decide +kernel) (by decide) (by decide +kernel) rfl rfl (by decide +kernel) rfl ((hsM_ne (show (14 : Nat) ≠ 2 by omega) (show (14 : Nat) ≠ 12 by omega)).trans (hz 14 (by omega))) rfl (Nat.le_of_ble_eq_true rfl) (Nat.le_of_ble_eq_true rfl) dX6_init_35 ?_
  refine v_dupR (pc := 38) dX6_init_38 ?_
  refine v_callI (pc := 39) (As := []) (r := 14) mkX6_11 (n_X1_14 (fun k hk => (hsM_ne (by omega) (by omega)).trans (hz k (by omega)))) rfl (Nat.le_of_ble_eq_true rfl) rfl (Nat.le_of_ble_eq_true rfl) (Nat.le_of_ble_eq_true rfl) (by decide +kernel) rfl rfl dX6_init_39 (fun o_39 ly_39 M_39 J_39 h_39 => ?_)
  obtain ⟨e1_39, e2_39, e3_39, e4_39⟩ := h_39
  replace e4_39 := e4_39.symm
  subst e1_39 e2_39 e3_39 e4_39
  refine v_aast (pc := 42) (ly' := LS_51) (show LS_50[13]? = some (.inr (.inl (3, [none, none]))) from rfl) (show LS_50[14]? = some (.inr (.inr (1, [some (some 15), some (some 21), some (some 25), none]))) from rfl) (by unfold vp_in; decide) rfl dX6_init_42 ?_
  refine v_inc_1 (pc := 43) (v := 1) dX6_init_43 (by decide) (by decide) rfl ?_
  refine v_goto (pc := 46) (tgt := 25) dX6_init_46 (by decide) ?_
  refine v_iload_n (pc := 25) dX6_init_25 rfl ?_
  refine v_iconst (pc := 26) (v := 2) (by decide) dX6_init_26 ?_
  refine v_icmp_ge (pc := 27) (tgt := 49) dX6_init_27 (by decide) (fun c_27_1 => absurd c_27_1 (by decide)) (fun c_27_1 => ?_)
  refine v_aload_n (pc := 30) dX6_init_30 rfl ?_
  refine v_getR (pc := 31) fkX6_16 (show LS_51[0]? = some (.inr (.inr (6, [some (some 1), some (some 13), some none, some none, some none, some none, some none]))) from rfl) rfl dX6_init_31 ?_
  refine v_iload_n (pc := 34) dX6_init_34 rfl ?_
  refine v_newO (pc := 35) (r := 26) (ly' := LS_52) wcX6_9 wi1 wj1 lyX1 tyX1_ok rfl hf1 (by decide +kernel) (by decide) (by decide +kernel) rfl rfl (by decide +kernel) rfl ((hsM_ne (show (26 : Nat) ≠ 15 by omega) (show (26 : Nat) ≠ 25 by omega)).trans ((hsM_ne (show (26 : Nat) ≠ 2 by omega) (show (26 : Nat) ≠ 12 by omega)).trans (hz 26 (by omega)))) rfl (Nat.le_of_ble_eq_true rfl) (Nat.le_of_ble_eq_true rfl) dX6_init_35 ?_
  refine v_dupR (pc := 38) dX6_init_38 ?_
  refine v_callI (pc := 39) (As := []) (r := 26) mkX6_11 (n_X1_26 (fun k hk => (hsM_ne (by omega) (by omega)).trans ((hsM_ne (by omega) (by omega)).trans (hz k (by omega))))) rfl (Nat.le_of_ble_eq_true rfl) rfl (Nat.le_of_ble_eq_true rfl) (Nat.le_of_ble_eq_true rfl) (by decide +kernel) rfl rfl dX6_init_39 (fun o_39 ly_39 M_39 J_39 h_39 => ?_)
  obtain ⟨e1_39, e2_39, e3_39, e4_39⟩ := h_39
  replace e4_39 := e4_39.symm
  subst e1_39 e2_39 e3_39 e4_39
  refine v_aast (pc := 42) (ly' := LS_75) (show LS_74[13]? = some (.inr (.inl (3, [some 14, none]))) from rfl) (show LS_74[26]? = some (.inr (.inr (1, [some (some 27), some (some 33), some (some 37), none]))) from rfl) (by unfold vp_in; decide) rfl dX6_init_42 ?_
  refine v_inc_1 (pc := 43) (v := 1) dX6_init_43 (by decide) (by decide) rfl ?_
  refine v_goto (pc := 46) (tgt := 25) dX6_init_46 (by decide) ?_
  refine v_iload_n (pc := 25) dX6_init_25 rfl ?_
  refine v_iconst (pc := 26) (v := 2) (by decide) dX6_init_26 ?_
  refine v_icmp_ge (pc := 27) (tgt := 49) dX6_init_27 (by decide) (fun c_27_2 => ?_) (fun c_27_2 => absurd (by decide) c_27_2)
  refine v_aload_n (pc := 49) dX6_init_49 rfl ?_
  refine v_newO (pc := 50) (r := 38) (ly' := LS_76) wcX6_20 wi2 wj2 lyX2 tyX2_ok rfl hf2 (by decide +kernel) (by decide) (by decide +kernel) rfl rfl (by decide +kernel) rfl ((hsM_ne (show (38 : Nat) ≠ 27 by omega) (show (38 : Nat) ≠ 37 by omega)).trans ((hsM_ne (show (38 : Nat) ≠ 15 by omega) (show (38 : Nat) ≠ 25 by omega)).trans ((hsM_ne (show (38 : Nat) ≠ 2 by omega) (show (38 : Nat) ≠ 12 by omega)).trans (hz 38 (by omega))))) rfl (Nat.le_of_ble_eq_true rfl) (Nat.le_of_ble_eq_true rfl) dX6_init_50 ?_
  refine v_dupR (pc := 53) dX6_init_53 ?_
  refine v_callI (pc := 54) (As := []) (r := 38) mkX6_22 (n_X2_38 (fun k hk => (hsM_ne (by omega) (by omega)).trans ((hsM_ne (by omega) (by omega)).trans ((hsM_ne (by omega) (by omega)).trans (hz k (by omega)))))) rfl (Nat.le_of_ble_eq_true rfl) rfl (Nat.le_of_ble_eq_true rfl) (Nat.le_of_ble_eq_true rfl) (by decide +kernel) rfl rfl dX6_init_54 (fun o_54 ly_54 M_54 J_54 h_54 => ?_)
  obtain ⟨e1_54, e2_54, e3_54, e4_54⟩ := h_54
  replace e4_54 := e4_54.symm
  subst e1_54 e2_54 e3_54 e4_54
  refine v_putFR (pc := 57) (ly' := LS_87) (fs := [some (some 1), some (some 13), some none, some none, some none, some none, some none]) rfl fkX6_23f (fun _ => rfl) (fun _ => rfl) rfl rfl rfl dX6_init_57 ?_
  refine v_aload_n (pc := 60) dX6_init_60 rfl ?_
  refine v_newO (pc := 61) (r := 44) (ly' := LS_88) wcX6_27 wi3 wj3 lyX3 tyX3_ok rfl hf3 (by decide +kernel) (by decide) (by decide +kernel) rfl rfl (by decide +kernel) rfl ((mU_ne 44 (show (44 : Nat) ≠ 38 by omega)).trans ((hsM_ne (show (44 : Nat) ≠ 27 by omega) (show (44 : Nat) ≠ 37 by omega)).trans ((hsM_ne (show (44 : Nat) ≠ 15 by omega) (show (44 : Nat) ≠ 25 by omega)).trans ((hsM_ne (show (44 : Nat) ≠ 2 by omega) (show (44 : Nat) ≠ 12 by omega)).trans (hz 44 (by omega)))))) rfl (Nat.le_of_ble_eq_true rfl) (Nat.le_of_ble_eq_true rfl) dX6_init_61 ?_
  refine v_dupR (pc := 64) dX6_init_64 ?_
  refine v_callI (pc := 65) (As := []) (r := 44) mkX6_29 (n_X3_44 (fun k hk => (mU_ne k (by omega)).trans ((hsM_ne (by omega) (by omega)).trans ((hsM_ne (by omega) (by omega)).trans ((hsM_ne (by omega) (by omega)).trans (hz k (by omega))))))) rfl (Nat.le_of_ble_eq_true rfl) rfl (Nat.le_of_ble_eq_true rfl) (Nat.le_of_ble_eq_true rfl) (by decide +kernel) rfl rfl dX6_init_65 (fun o_65 ly_65 M_65 J_65 h_65 => ?_)
  obtain ⟨e1_65, e2_65, e3_65, e4_65⟩ := h_65
  replace e4_65 := e4_65.symm
  subst e1_65 e2_65 e3_65 e4_65
  refine v_putFR (pc := 68) (ly' := LS_91) (fs := [some (some 1), some (some 13), some (some 38), some none, some none, some none, some none]) rfl fkX6_30f (fun _ => rfl) (fun _ => rfl) rfl rfl rfl dX6_init_68 ?_
  refine v_aload_n (pc := 71) dX6_init_71 rfl ?_
  refine v_newO (pc := 72) (r := 46) (ly' := LS_92) wcX6_34 wi5 wj5 lyX5 tyX5_ok rfl hf5 (by decide +kernel) (by decide) (by decide +kernel) rfl rfl (by decide +kernel) rfl ((mU_ne 46 (show (46 : Nat) ≠ 38 by omega)).trans ((hsM_ne (show (46 : Nat) ≠ 27 by omega) (show (46 : Nat) ≠ 37 by omega)).trans ((hsM_ne (show (46 : Nat) ≠ 15 by omega) (show (46 : Nat) ≠ 25 by omega)).trans ((hsM_ne (show (46 : Nat) ≠ 2 by omega) (show (46 : Nat) ≠ 12 by omega)).trans (hz 46 (by omega)))))) rfl (Nat.le_of_ble_eq_true rfl) (Nat.le_of_ble_eq_true rfl) dX6_init_72 ?_
  refine v_dupR (pc := 75) dX6_init_75 ?_
  refine v_callI (pc := 76) (As := []) (r := 46) mkX6_36 (n_X5_46 (fun k hk => (mU_ne k (by omega)).trans ((hsM_ne (by omega) (by omega)).trans ((hsM_ne (by omega) (by omega)).trans ((hsM_ne (by omega) (by omega)).trans (hz k (by omega))))))) rfl (Nat.le_of_ble_eq_true rfl) rfl (Nat.le_of_ble_eq_true rfl) (Nat.le_of_ble_eq_true rfl) (by decide +kernel) rfl rfl dX6_init_76 (fun o_76 ly_76 M_76 J_76 h_76 => ?_)
  obtain ⟨e1_76, e2_76, e3_76, e4_76⟩ := h_76
  replace e4_76 := e4_76.symm
  subst e1_76 e2_76 e3_76 e4_76
  refine v_putFR (pc := 79) (ly' := LS_93) (fs := [some (some 1), some (some 13), some (some 38), some (some 44), some none, some none, some none]) rfl fkX6_37f (fun _ => rfl) (fun _ => rfl) rfl rfl rfl dX6_init_79 ?_
  refine v_aload_n (pc := 82) dX6_init_82 rfl ?_
  refine v_bipush (pc := 83) (v := 64) (by decide) dX6_init_83 ?_
  refine v_newI (pc := 85) (N := 64) (r := 47) (ly' := LS_94) waI (by decide) (by decide) (Nat.le_of_ble_eq_true rfl) (by decide +kernel) (by decide) (by decide +kernel) rfl rfl (by decide +kernel) ((mU_ne 47 (show (47 : Nat) ≠ 38 by omega)).trans ((hsM_ne (show (47 : Nat) ≠ 27 by omega) (show (47 : Nat) ≠ 37 by omega)).trans ((hsM_ne (show (47 : Nat) ≠ 15 by omega) (show (47 : Nat) ≠ 25 by omega)).trans ((hsM_ne (show (47 : Nat) ≠ 2 by omega) (show (47 : Nat) ≠ 12 by omega)).trans (hz 47 (by omega)))))) rfl (Nat.le_of_ble_eq_true rfl) (Nat.le_of_ble_eq_true rfl) dX6_init_85 ?_
  refine v_putFR (pc := 87) (ly' := LS_95) (fs := [some (some 1), some (some 13), some (some 38), some (some 44), some (some 46), some none, some none]) rfl fkX6_41f (fun _ => rfl) (fun _ => rfl) rfl rfl rfl dX6_init_87 ?_
  refine v_aload_n (pc := 90) dX6_init_90 rfl ?_
  refine v_bipush (pc := 91) (v := 7) (by decide) dX6_init_91 ?_
  refine v_newL (pc := 93) (N := 7) (r := 48) (ly' := LS_96) waL (by decide) (by decide) (Nat.le_of_ble_eq_true rfl) (by decide +kernel) (by decide) (by decide +kernel) rfl rfl (by decide +kernel) (hJ) rfl (Nat.le_of_ble_eq_true rfl) (Nat.le_of_ble_eq_true rfl) dX6_init_93 ?_
  refine v_putFR (pc := 95) (ly' := LS_97) (fs := [some (some 1), some (some 13), some (some 38), some (some 44), some (some 46), some (some 47), some none]) rfl fkX6_45f (fun _ => rfl) (fun _ => rfl) rfl rfl rfl dX6_init_95 ?_
  refine v_vret (pc := 98) dX6_init_98 (Nat.le_of_ble_eq_true rfl) (Nat.le_of_ble_eq_true rfl) ?_
  exact ⟨rfl, rfl⟩

def LS_98 : List mEn := LS_97 ++ [.inr (.inr (7, [none, some none, none, some none, none, some none, some none, some none, none, some none, none, none, some none, some none, some none, some none, some none]))]
theorem woX7_1 : Cond.methodLink RX7 1 Lib.objectInit ∈ GW := gwi 546 (by decide +kernel) (by decide +kernel)
def LS_99 : List mEn := LS_98 ++ [.inl (0, 7, 0)]
def LS_100 : List mEn := LS_99.set 49 (.inr (.inr (7, [none, some (some 50), none, some none, none, some none, some none, some none, none, some none, none, none, some none, some none, some none, some none, some none])))
def LS_101 : List mEn := LS_100 ++ [.inl (0, 6, 0)]
def LS_102 : List mEn := LS_101.set 49 (.inr (.inr (7, [none, some (some 50), none, some (some 51), none, some none, some none, some none, none, some none, none, none, some none, some none, some none, some none, some none])))
def LS_103 : List mEn := LS_102 ++ [.inl (0, 24, 0)]
def LS_104 : List mEn := LS_103.set 49 (.inr (.inr (7, [none, some (some 50), none, some (some 51), none, some (some 52), some none, some none, none, some none, none, none, some none, some none, some none, some none, some none])))
def LS_105 : List mEn := LS_104 ++ [.inl (0, 107, 0)]
def LS_106 : List mEn := LS_105.set 49 (.inr (.inr (7, [none, some (some 50), none, some (some 51), none, some (some 52), some (some 53), some none, none, some none, none, none, some none, some none, some none, some none, some none])))
def LS_107 : List mEn := LS_106 ++ [.inl (0, 107, 0)]
def LS_108 : List mEn := LS_107.set 49 (.inr (.inr (7, [none, some (some 50), none, some (some 51), none, some (some 52), some (some 53), some (some 54), none, some none, none, none, some none, some none, some none, some none, some none])))
def LS_109 : List mEn := LS_108 ++ [.inl (0, 60, 0)]
def LS_110 : List mEn := LS_109.set 49 (.inr (.inr (7, [none, some (some 50), none, some (some 51), none, some (some 52), some (some 53), some (some 54), none, some (some 55), none, none, some none, some none, some none, some none, some none])))
def LS_111 : List mEn := LS_110 ++ [.inl (0, 64, 0)]
def LS_112 : List mEn := LS_111.set 49 (.inr (.inr (7, [none, some (some 50), none, some (some 51), none, some (some 52), some (some 53), some (some 54), none, some (some 55), none, none, some (some 56), some none, some none, some none, some none])))
def LS_113 : List mEn := LS_112 ++ [.inl (0, 10, 0)]
def LS_114 : List mEn := LS_113.set 49 (.inr (.inr (7, [none, some (some 50), none, some (some 51), none, some (some 52), some (some 53), some (some 54), none, some (some 55), none, none, some (some 56), some (some 57), some none, some none, some none])))
def LS_115 : List mEn := LS_114 ++ [.inl (0, 10, 0)]
def LS_116 : List mEn := LS_115.set 49 (.inr (.inr (7, [none, some (some 50), none, some (some 51), none, some (some 52), some (some 53), some (some 54), none, some (some 55), none, none, some (some 56), some (some 57), some (some 58), some none, some none])))
def LS_117 : List mEn := LS_116 ++ [.inl (0, 300, 0)]
def LS_118 : List mEn := LS_117.set 49 (.inr (.inr (7, [none, some (some 50), none, some (some 51), none, some (some 52), some (some 53), some (some 54), none, some (some 55), none, none, some (some 56), some (some 57), some (some 58), some (some 59), some none])))
def LS_119 : List mEn := LS_118 ++ [.inl (2, 2, 0)]
def LS_120 : List mEn := LS_119.set 49 (.inr (.inr (7, [none, some (some 50), none, some (some 51), none, some (some 52), some (some 53), some (some 54), none, some (some 55), none, none, some (some 56), some (some 57), some (some 58), some (some 59), some (some 60)])))
set_option maxRecDepth 100000 in
set_option maxHeartbeats 4000000 in
theorem l_ms {M : mM} {J : mJ} {kc ks : Nat} (hkc : kc ≤ (rmC 1 12 697).cells) (hks : ks ≤ (rmC 1 12 697).slots) : ∀ (n i : Nat), n + i = 6 → V RX7 cX7_init 2 none true (rmC 1 12 697) true LS_98.length none (mNv LS_120 (fun M1 J1 => M1 = msM M ∧ J1 = J)) kc ks 100 [some (.ref 49), some (.int (nI i))] [] LS_120 (itN msI (mU M 49 2 12) i) J := by
  intro n
  induction n with
  | zero =>
    intro i hi
    obtain rfl : i = 6 := by omega
    refine v_iload_n (pc := 100) dX7_init_100 rfl ?_
    refine v_bipush (pc := 101) (v := 6) (by decide) dX7_init_101 ?_
    refine v_icmp_ge (pc := 103) (tgt := 120) dX7_init_103 (by decide) (fun c_39 => ?_) (fun c_39 => absurd (by decide) c_39)
    refine v_vret (pc := 120) dX7_init_120 hkc hks ?_
    exact ⟨rfl, rfl⟩
  | succ n ih =>
    intro i hi
    have hb : i < 6 := by omega
    have hcl := nI_clamp (show i < 2 ^ 31 by omega)
    refine v_iload_n (pc := 100) dX7_init_100 rfl ?_
    refine v_bipush (pc := 101) (v := 6) (by decide) dX7_init_101 ?_
    refine v_icmp_ge (pc := 103) (tgt := 120) dX7_init_103 (by decide) (fun c_39 => absurd c_39 (nI_ge (b := 6) hb (by omega))) (fun c_39 => ?_)
    refine v_aload_n (pc := 106) dX7_init_106 rfl ?_
    refine v_getR (pc := 107) fkX7_17 (show LS_120[49]? = some (.inr (.inr (7, [none, some (some 50), none, some (some 51), none, some (some 52), some (some 53), some (some 54), none, some (some 55), none, none, some (some 56), some (some 57), some (some 58), some (some 59), some (some 60)]))) from rfl) rfl dX7_init_107 ?_
    refine v_iload_n (pc := 110) dX7_init_110 rfl ?_
    refine v_ldc (pc := 111) ckX7_48 dX7_init_111 ?_
    refine v_iast (pc := 113) (show LS_120[51]? = some (.inl (0, 6, 0)) from rfl) ?_ dX7_init_113 ?_
    · exact vp_in_nI hb (by omega)
    rw [hcl]
    refine v_inc_1 (pc := 114) (v := 1) dX7_init_114 (by decide) (by decide) rfl ?_
    refine v_goto (pc := 117) (tgt := 100) dX7_init_117 (by decide) ?_
    have e9 := ih (i + 1) (by omega)
    rw [itN_s] at e9
    rw [nI_1]
    exact e9

set_option maxRecDepth 100000 in
set_option maxHeartbeats 4000000 in
theorem n_X7_49 {M : mM} {J : mJ} (hz : ∀ k, 49 < k → M k = fun _ => 0) : Ct yX7_init cX7_init 2 none (rmC 1 12 697) true [.ref 49] LS_98 M J (mNv LS_120 (fun M1 J1 => M1 = msM M ∧ J1 = J)) := by
  refine ct_of (own := RX7) (ini := true) (ls := [some (.ref 49), none]) 1 (by decide +kernel) rfl (fun _ => rfl) rfl (fun ad => by first | exact Nat.le_of_ble_eq_true rfl) ?_
  refine v_aload_n (pc := 0) dX7_init_0 rfl ?_
  refine v_obj (pc := 1) woX7_1 woI woC (Nat.le_of_ble_eq_true rfl) (Nat.le_of_ble_eq_true rfl) dX7_init_1 ?_
  refine v_aload_n (pc := 4) dX7_init_4 rfl ?_
  refine v_bipush (pc := 5) (v := 7) (by decide) dX7_init_5 ?_
  refine v_newI (pc := 7) (N := 7) (r := 50) (ly' := LS_99) waI (by decide) (by decide) (Nat.le_of_ble_eq_true rfl) (by decide +kernel) (by decide) (by decide +kernel) rfl rfl (by decide +kernel) (hz 50 (by omega)) rfl (Nat.le_of_ble_eq_true rfl) (Nat.le_of_ble_eq_true rfl) dX7_init_7 ?_
  refine v_putFR (pc := 9) (ly' := LS_100) (fs := [none, some none, none, some none, none, some none, some none, some none, none, some none, none, none, some none, some none, some none, some none, some none]) rfl fkX7_7f (fun _ => rfl) (fun _ => rfl) rfl rfl rfl dX7_init_9 ?_
  refine v_aload_n (pc := 12) dX7_init_12 rfl ?_
  refine v_bipush (pc := 13) (v := 12) (by decide) dX7_init_13 ?_
  refine v_putI (pc := 15) fkX7_13p (show LS_100[49]? = some (.inr (.inr (7, [none, some (some 50), none, some none, none, some none, some none, some none, none, some none, none, none, some none, some none, some none, some none, some none]))) from rfl) rfl dX7_init_15 ?_
  refine v_aload_n (pc := 18) dX7_init_18 rfl ?_
  refine v_bipush (pc := 19) (v := 6) (by decide) dX7_init_19 ?_
  refine v_newI (pc := 21) (N := 6) (r := 51) (ly' := LS_101) waI (by decide) (by decide) (Nat.le_of_ble_eq_true rfl) (by decide +kernel) (by decide) (by decide +kernel) rfl rfl (by decide +kernel) ((mU_ne 51 (show (51 : Nat) ≠ 49 by omega)).trans (hz 51 (by omega))) rfl (Nat.le_of_ble_eq_true rfl) (Nat.le_of_ble_eq_true rfl) dX7_init_21 ?_
  refine v_putFR (pc := 23) (ly' := LS_102) (fs := [none, some (some 50), none, some none, none, some none, some none, some none, none, some none, none, none, some none, some none, some none, some none, some none]) rfl fkX7_17f (fun _ => rfl) (fun _ => rfl) rfl rfl rfl dX7_init_23 ?_
  refine v_aload_n (pc := 26) dX7_init_26 rfl ?_
  refine v_bipush (pc := 27) (v := 24) (by decide) dX7_init_27 ?_
  refine v_newI (pc := 29) (N := 24) (r := 52) (ly' := LS_103) waI (by decide) (by decide) (Nat.le_of_ble_eq_true rfl) (by decide +kernel) (by decide) (by decide +kernel) rfl rfl (by decide +kernel) ((mU_ne 52 (show (52 : Nat) ≠ 49 by omega)).trans (hz 52 (by omega))) rfl (Nat.le_of_ble_eq_true rfl) (Nat.le_of_ble_eq_true rfl) dX7_init_29 ?_
  refine v_putFR (pc := 31) (ly' := LS_104) (fs := [none, some (some 50), none, some (some 51), none, some none, some none, some none, none, some none, none, none, some none, some none, some none, some none, some none]) rfl fkX7_20f (fun _ => rfl) (fun _ => rfl) rfl rfl rfl dX7_init_31 ?_
  refine v_aload_n (pc := 34) dX7_init_34 rfl ?_
  refine v_bipush (pc := 35) (v := 107) (by decide) dX7_init_35 ?_
  refine v_newI (pc := 37) (N := 107) (r := 53) (ly' := LS_105) waI (by decide) (by decide) (Nat.le_of_ble_eq_true rfl) (by decide +kernel) (by decide) (by decide +kernel) rfl rfl (by decide +kernel) ((mU_ne 53 (show (53 : Nat) ≠ 49 by omega)).trans (hz 53 (by omega))) rfl (Nat.le_of_ble_eq_true rfl) (Nat.le_of_ble_eq_true rfl) dX7_init_37 ?_
  refine v_putFR (pc := 39) (ly' := LS_106) (fs := [none, some (some 50), none, some (some 51), none, some (some 52), some none, some none, none, some none, none, none, some none, some none, some none, some none, some none]) rfl fkX7_23f (fun _ => rfl) (fun _ => rfl) rfl rfl rfl dX7_init_39 ?_
  refine v_aload_n (pc := 42) dX7_init_42 rfl ?_
  refine v_bipush (pc := 43) (v := 107) (by decide) dX7_init_43 ?_
  refine v_newI (pc := 45) (N := 107) (r := 54) (ly' := LS_107) waI (by decide) (by decide) (Nat.le_of_ble_eq_true rfl) (by decide +kernel) (by decide) (by decide +kernel) rfl rfl (by decide +kernel) ((mU_ne 54 (show (54 : Nat) ≠ 49 by omega)).trans (hz 54 (by omega))) rfl (Nat.le_of_ble_eq_true rfl) (Nat.le_of_ble_eq_true rfl) dX7_init_45 ?_
  refine v_putFR (pc := 47) (ly' := LS_108) (fs := [none, some (some 50), none, some (some 51), none, some (some 52), some (some 53), some none, none, some none, none, none, some none, some none, some none, some none, some none]) rfl fkX7_26f (fun _ => rfl) (fun _ => rfl) rfl rfl rfl dX7_init_47 ?_
  refine v_aload_n (pc := 50) dX7_init_50 rfl ?_
  refine v_bipush (pc := 51) (v := 60) (by decide) dX7_init_51 ?_
  refine v_newI (pc := 53) (N := 60) (r := 55) (ly' := LS_109) waI (by decide) (by decide) (Nat.le_of_ble_eq_true rfl) (by decide +kernel) (by decide) (by decide +kernel) rfl rfl (by decide +kernel) ((mU_ne 55 (show (55 : Nat) ≠ 49 by omega)).trans (hz 55 (by omega))) rfl (Nat.le_of_ble_eq_true rfl) (Nat.le_of_ble_eq_true rfl) dX7_init_53 ?_
  refine v_putFR (pc := 55) (ly' := LS_110) (fs := [none, some (some 50), none, some (some 51), none, some (some 52), some (some 53), some (some 54), none, some none, none, none, some none, some none, some none, some none, some none]) rfl fkX7_29f (fun _ => rfl) (fun _ => rfl) rfl rfl rfl dX7_init_55 ?_
  refine v_aload_n (pc := 58) dX7_init_58 rfl ?_
  refine v_bipush (pc := 59) (v := 64) (by decide) dX7_init_59 ?_
  refine v_newI (pc := 61) (N := 64) (r := 56) (ly' := LS_111) waI (by decide) (by decide) (Nat.le_of_ble_eq_true rfl) (by decide +kernel) (by decide) (by decide +kernel) rfl rfl (by decide +kernel) ((mU_ne 56 (show (56 : Nat) ≠ 49 by omega)).trans (hz 56 (by omega))) rfl (Nat.le_of_ble_eq_true rfl) (Nat.le_of_ble_eq_true rfl) dX7_init_61 ?_
  refine v_putFR (pc := 63) (ly' := LS_112) (fs := [none, some (some 50), none, some (some 51), none, some (some 52), some (some 53), some (some 54), none, some (some 55), none, none, some none, some none, some none, some none, some none]) rfl fkX7_32f (fun _ => rfl) (fun _ => rfl) rfl rfl rfl dX7_init_63 ?_
  refine v_aload_n (pc := 66) dX7_init_66 rfl ?_
  refine v_bipush (pc := 67) (v := 10) (by decide) dX7_init_67 ?_
  refine v_newI (pc := 69) (N := 10) (r := 57) (ly' := LS_113) waI (by decide) (by decide) (Nat.le_of_ble_eq_true rfl) (by decide +kernel) (by decide) (by decide +kernel) rfl rfl (by decide +kernel) ((mU_ne 57 (show (57 : Nat) ≠ 49 by omega)).trans (hz 57 (by omega))) rfl (Nat.le_of_ble_eq_true rfl) (Nat.le_of_ble_eq_true rfl) dX7_init_69 ?_
  refine v_putFR (pc := 71) (ly' := LS_114) (fs := [none, some (some 50), none, some (some 51), none, some (some 52), some (some 53), some (some 54), none, some (some 55), none, none, some (some 56), some none, some none, some none, some none]) rfl fkX7_35f (fun _ => rfl) (fun _ => rfl) rfl rfl rfl dX7_init_71 ?_
  refine v_aload_n (pc := 74) dX7_init_74 rfl ?_
  refine v_bipush (pc := 75) (v := 10) (by decide) dX7_init_75 ?_
  refine v_newI (pc := 77) (N := 10) (r := 58) (ly' := LS_115) waI (by decide) (by decide) (Nat.le_of_ble_eq_true rfl) (by decide +kernel) (by decide) (by decide +kernel) rfl rfl (by decide +kernel) ((mU_ne 58 (show (58 : Nat) ≠ 49 by omega)).trans (hz 58 (by omega))) rfl (Nat.le_of_ble_eq_true rfl) (Nat.le_of_ble_eq_true rfl) dX7_init_77 ?_
  refine v_putFR (pc := 79) (ly' := LS_116) (fs := [none, some (some 50), none, some (some 51), none, some (some 52), some (some 53), some (some 54), none, some (some 55), none, none, some (some 56), some (some 57), some none, some none, some none]) rfl fkX7_38f (fun _ => rfl) (fun _ => rfl) rfl rfl rfl dX7_init_79 ?_
  refine v_aload_n (pc := 82) dX7_init_82 rfl ?_
  refine v_sipush (pc := 83) (v := 300) (by decide) dX7_init_83 ?_
  refine v_newI (pc := 86) (N := 300) (r := 59) (ly' := LS_117) waI (by decide) (by decide) (Nat.le_of_ble_eq_true rfl) (by decide +kernel) (by decide) (by decide +kernel) rfl rfl (by decide +kernel) ((mU_ne 59 (show (59 : Nat) ≠ 49 by omega)).trans (hz 59 (by omega))) rfl (Nat.le_of_ble_eq_true rfl) (Nat.le_of_ble_eq_true rfl) dX7_init_86 ?_
  refine v_putFR (pc := 88) (ly' := LS_118) (fs := [none, some (some 50), none, some (some 51), none, some (some 52), some (some 53), some (some 54), none, some (some 55), none, none, some (some 56), some (some 57), some (some 58), some none, some none]) rfl fkX7_41f (fun _ => rfl) (fun _ => rfl) rfl rfl rfl dX7_init_88 ?_
  refine v_aload_n (pc := 91) dX7_init_91 rfl ?_
  refine v_iconst (pc := 92) (v := 2) (by decide) dX7_init_92 ?_
  refine v_newZ (pc := 93) (N := 2) (r := 60) (ly' := LS_119) waZ (by decide) (by decide) (Nat.le_of_ble_eq_true rfl) (by decide +kernel) (by decide) (by decide +kernel) rfl rfl (by decide +kernel) ((mU_ne 60 (show (60 : Nat) ≠ 49 by omega)).trans (hz 60 (by omega))) rfl (Nat.le_of_ble_eq_true rfl) (Nat.le_of_ble_eq_true rfl) dX7_init_93 ?_
  refine v_putFR (pc := 95) (ly' := LS_120) (fs := [none, some (some 50), none, some (some 51), none, some (some 52), some (some 53), some (some 54), none, some (some 55), none, none, some (some 56), some (some 57), some (some 58), some (some 59), some none]) rfl fkX7_44f (fun _ => rfl) (fun _ => rfl) rfl rfl rfl dX7_init_95 ?_
  refine v_iconst (pc := 98) (v := 0) (by decide) dX7_init_98 ?_
  refine v_ist_1 (pc := 99) dX7_init_99 (by decide) rfl ?_
  exact l_ms (Nat.le_of_ble_eq_true rfl) (Nat.le_of_ble_eq_true rfl) 6 0 rfl

set_option maxRecDepth 100000 in
theorem LS_LY : LS_120 = LY := rfl