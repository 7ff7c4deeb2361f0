/-! breaks: both answers are one -/
theorem cbK_o {t : Int32} {k : Nat} {B : mJ} {i : Nat} (h : i ≠ k) : cbK t k B 48 i = B 48 i := by
  unfold cbK
  by_cases q : nI k ≤ 0
  · rw [if_pos q]
    unfold mUL
    rw [if_neg (fun q => h q.2)]
  · rw [if_neg q]
    unfold mUL
    rw [if_neg (fun q => h q.2)]
theorem cbK_s {t : Int32} {k : Nat} {B : mJ} (hk : k < 8) : cbK t k B 48 k = B 48 k * (10 - t).toInt64 + (if k = 0 then 0 else B 48 (k - 1)) * t.toInt64 := by
  unfold cbK
  by_cases h : k = 0
  · rw [h, if_pos (by decide : nI 0 ≤ 0), if_pos rfl]
    unfold mUL
    rw [if_pos ⟨rfl, rfl⟩]
  · rw [if_neg (nI_nle (by omega) (by omega)), if_neg h]
    unfold mUL
    rw [if_pos ⟨rfl, rfl⟩]
theorem cbD_at {t : Int32} : ∀ n, n ≤ 8 → ∀ (B : mJ) (i : Nat), cbD t n B 48 i = if i < n then B 48 i * (10 - t).toInt64 + (if i = 0 then 0 else B 48 (i - 1)) * t.toInt64 else B 48 i
  | 0, _, B, i => by rw [if_neg (Nat.not_lt_zero i)]; rfl
  | n + 1, hn, B, i => by
    show cbD t n (cbK t n B) 48 i = _
    rw [cbD_at n (by omega)]
    by_cases h : i < n
    · rw [if_pos h, if_pos (show i < n + 1 by omega), cbK_o (show i ≠ n by omega)]
      by_cases h0 : i = 0
      · rw [if_pos h0, if_pos h0]
      · rw [if_neg h0, if_neg h0, cbK_o (show i - 1 ≠ n by omega)]
    · rw [if_neg h]
      by_cases h2 : i = n
      · rw [h2, if_pos (by omega), cbK_s (by omega)]
      · rw [if_neg (by omega), cbK_o h2]
theorem cb0_at {J : mJ} : ∀ n, ∀ i, i < n → itN cb0 J n 48 i = if nI i = 0 then 1 else 0 := by
  intro n
  induction n with
  | zero => intro i h; omega
  | succ n ih =>
    intro i h
    rw [itN_s]
    unfold cb0
    by_cases hi : i = n
    · rw [hi]
      simp [mUL]
    · simp only [mUL]
      rw [if_neg (by omega)]
      exact ih i (by omega)
theorem cbD_0 {t : Int32} {B : mJ} : cbD t 7 B 48 0 = B 48 0 * (10 - t).toInt64 + 0 * t.toInt64 := by
  rw [cbD_at 7 (by omega), if_pos (by omega), if_pos rfl]
theorem cbD_p {t : Int32} {B : mJ} {i : Nat} (h : i < 6) : cbD t 7 B 48 (i + 1) = B 48 (i + 1) * (10 - t).toInt64 + B 48 i * t.toInt64 := by
  rw [cbD_at 7 (by omega), if_pos (by omega), if_neg (by omega), Nat.add_sub_cancel]
theorem cb_list {t : Int32} {J : mJ} : ∀ m, chL t m = [cbAll t J m 48 0, cbAll t J m 48 1, cbAll t J m 48 2, cbAll t J m 48 3, cbAll t J m 48 4, cbAll t J m 48 5, cbAll t J m 48 6]
  | 0 => by
    have h : ∀ i, i < 7 → cbAll t J 0 48 i = if nI i = 0 then 1 else 0 := fun i hi => cb0_at 7 i hi
    rw [h 0 (by omega), h 1 (by omega), h 2 (by omega), h 3 (by omega), h 4 (by omega), h 5 (by omega), h 6 (by omega)]
    show [1, 0, 0, 0, 0, 0, 0] = _
    decide +kernel
  | m + 1 => by
    have h : cbAll t J (m + 1) = cbD t 7 (cbAll t J m) := rfl
    rw [h, cbD_0, cbD_p (i := 0) (by omega), cbD_p (i := 1) (by omega), cbD_p (i := 2) (by omega), cbD_p (i := 3) (by omega), cbD_p (i := 4) (by omega), cbD_p (i := 5) (by omega)]
    show ch1 t.toInt64 (10 - t).toInt64 0 (chL t m) = _
    rw [cb_list m]
    rfl
theorem chC {t : Int32} {J : mJ} {m i : Nat} (hi : i < 7) : cbAll t J m 48 i = (chL t m).getD i 0 := by
  rw [cb_list (J := J) m]
  have : i = 0 ∨ i = 1 ∨ i = 2 ∨ i = 3 ∨ i = 4 ∨ i = 5 ∨ i = 6 := by omega
  rcases this with rfl | rfl | rfl | rfl | rfl | rfl | rfl <;> rfl
abbrev gBr (x y z u v : Int32) : Prop := (1 ≤ x ∧ x ≤ 9) ∧ (0 ≤ y ∧ y ≤ 6) ∧ (0 ≤ z ∧ z ≤ 10) ∧ (0 ≤ u ∧ u ≤ 1) ∧ (0 ≤ v ∧ v ≤ 1)
theorem sumOkA {m : Nat} (h : m ≤ 6) : sumOk m := by
  have : m = 0 ∨ m = 1 ∨ m = 2 ∨ m = 3 ∨ m = 4 ∨ m = 5 ∨ m = 6 := by omega
  rcases this with rfl | rfl | rfl | rfl | rfl | rfl | rfl
  · exact sumOk0
  · exact sumOk1
  · exact sumOk2
  · exact sumOk3
  · exact sumOk4
  · exact sumOk5
  · exact sumOk6
theorem br_eq {x y z u v : Int32} {M : mM} {J : mJ} (h : gBr x y z u v) :
    (¬ gcG 64 (smP x z u y.toNatClampNeg M (2 ^ y.toNatClampNeg)).1 (tenP y.toNatClampNeg) = 0) ∧
    brT x y z u v (cbAll z J y.toNatClampNeg 48) = (if v = 0 then (smP x z u y.toNatClampNeg M (2 ^ y.toNatClampNeg)).1 / gcG 64 (smP x z u y.toNatClampNeg M (2 ^ y.toNatClampNeg)).1 (tenP y.toNatClampNeg) else tenP y.toNatClampNeg / gcG 64 (smP x z u y.toNatClampNeg M (2 ^ y.toNatClampNeg)).1 (tenP y.toNatClampNeg)) := by
  obtain ⟨⟨h1, h2⟩, ⟨h3, h4⟩, ⟨h5, h6⟩, ⟨h7, h8⟩, -⟩ := h
  obtain ⟨a, ha, rfl⟩ := ix (n := 9) (by decide) (Int32.le_trans (by decide) h1) h2
  obtain ⟨m, hm, rfl⟩ := ix (n := 6) (by decide) h3 h4
  obtain ⟨t, ht, rfl⟩ := ix (n := 10) (by decide) h5 h6
  obtain ⟨c, hc, rfl⟩ := ix (n := 1) (by decide) h7 h8
  have ha1 : 1 ≤ a := (nI_leI (a := 1) (by omega) (by omega)).mp h1
  unfold brT
  rw [nI_clamp (show m < 2 ^ 31 by omega)]
  have e0 : itN (bs1 (nI a) (nI c) (cbAll (nI t) J m 48)) 0 (m + 1) = chSum a t c m := itN_cong _ (fun i hi q => by
    unfold bs1
    rw [chC (by omega)])
  have e1 := smP_eq (z := a) (m := m) (t := nI t) (u := nI c) (M := M) (by omega) ha1 (by omega) (2 ^ m)
  have e3 : itN (ms1 (nI a) (nI t) (nI c) m) 0 (2 ^ m) = chSum a t c m := sumOkA hm a (by omega) ha1 t (by omega) c (by omega)
  have e4 := gcAll m (by omega) a (by omega) ha1 t (by omega) c (by omega)
  rw [e0, e1, e3]
  unfold gcB at e4
  simp only [Bool.and_eq_true, Bool.not_eq_true', decide_eq_false_iff_not, decide_eq_true_eq] at e4
  obtain ⟨⟨g1, g2⟩, g3⟩ := e4
  refine ⟨g1, ?_⟩
  by_cases hv : v = 0
  · rw [if_pos hv, if_pos hv]
    exact g2.symm
  · rw [if_neg hv, if_neg hv]
    exact g3.symm
