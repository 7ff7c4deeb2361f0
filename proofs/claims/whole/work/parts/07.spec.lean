/-! pure words: truth as an int, ranges, bits -/
def bI (p : Prop) [Decidable p] : Int32 := if p then 1 else 0
theorem bI_0 {p : Prop} [Decidable p] : bI p = 0 ↔ ¬ p := by
  unfold bI; split <;> simp_all
theorem bI_n0 {p : Prop} [Decidable p] : ¬ bI p = 0 ↔ p := by
  unfold bI; split <;> simp_all
theorem bI_1 {p : Prop} [Decidable p] : bI p = 1 ↔ p := by
  unfold bI; split <;> simp_all
theorem bI_n1 {p : Prop} [Decidable p] : ¬ bI p = 1 ↔ ¬ p := by
  unfold bI; split <;> simp_all
theorem bI_or {p : Prop} [Decidable p] : bI p = 0 ∨ bI p = 1 := by
  unfold bI; split <;> simp
theorem bI_t {p : Prop} [Decidable p] (h : p) : (1 : Int32) = bI p := by
  unfold bI; rw [if_pos h]
theorem bI_f {p : Prop} [Decidable p] (h : ¬ p) : (0 : Int32) = bI p := by
  unfold bI; rw [if_neg h]
theorem bI_cong {p q : Prop} [Decidable p] [Decidable q] (h : p ↔ q) : bI p = bI q := by
  unfold bI; by_cases hp : p
  · rw [if_pos hp, if_pos (h.mp hp)]
  · rw [if_neg hp, if_neg (fun z => hp (h.mpr z))]
/-- bit k of s, as both classes read it -/
abbrev bt (s k : Int32) : Prop := (s >>> (k &&& 31)) &&& 1 = 1
theorem vinN {x N : Int32} {n : Nat} (hN : N.toInt = n) (h0 : ¬ x < 0) (h1 : ¬ N ≤ x) : vp_in x n := by
  rw [vp_in_iff]
  rw [Int32.lt_iff_toInt_lt, Int32.toInt_zero] at h0
  rw [Int32.le_iff_toInt_le, hN] at h1
  omega
theorem vinP {x N : Int32} {n : Nat} (hN : N.toInt + 1 = n) (h0 : 0 ≤ x) (h1 : x ≤ N) : vp_in x n := by
  rw [vp_in_iff]
  rw [Int32.le_iff_toInt_le, Int32.toInt_zero] at h0
  rw [Int32.le_iff_toInt_le] at h1
  omega
theorem nI_ti {k : Nat} (h : k < 2 ^ 31) : (nI k).toInt = k := nI_toInt h
theorem lt7 {x : Int32} : ¬ 7 ≤ x ↔ x ≤ 6 := by
  rw [Int32.le_iff_toInt_le, Int32.le_iff_toInt_le, show (7 : Int32).toInt = 7 by decide, show (6 : Int32).toInt = 6 by decide]
  omega
theorem ge0 {x : Int32} : ¬ x < 0 ↔ 0 ≤ x := Int32.not_lt
/-- a small index, as a number -/
theorem ix {x N : Int32} {n : Nat} (hN : N.toInt = n) (h0 : 0 ≤ x) (h1 : x ≤ N) : ∃ k : Nat, k ≤ n ∧ x = nI k := nI_of2 hN (by rwa [ge0]) h1
