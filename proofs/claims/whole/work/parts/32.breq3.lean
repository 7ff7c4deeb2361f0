/-! breaks: chances as a list, the sums compared -/
def ch1 (t s : Int64) (p : Int64) : List Int64 → List Int64
  | [] => []
  | c :: r => (c * s + p * t) :: ch1 t s c r
def chL (t : Int32) (m : Nat) : List Int64 := itN (fun _ l => ch1 t.toInt64 (10 - t).toInt64 0 l) [1, 0, 0, 0, 0, 0, 0] m
abbrev sumOk (m : Nat) : Prop := ∀ z, z < 10 → 1 ≤ z → ∀ t, t < 11 → ∀ u, u < 2 → itN (ms1 (nI z) (nI t) (nI u) m) 0 (2 ^ m) = itN (bs1 (nI z) (nI u) (fun i => (chL (nI t) m).getD i 0)) 0 (m + 1)
theorem sumOk0 : sumOk 0 := by decide +kernel
theorem sumOk1 : sumOk 1 := by decide +kernel
theorem sumOk2 : sumOk 2 := by decide +kernel
theorem sumOk3 : sumOk 3 := by decide +kernel
theorem sumOk4 : sumOk 4 := by decide +kernel
theorem sumOk5 : sumOk 5 := by decide +kernel
theorem sumOk6 : sumOk 6 := by decide +kernel
abbrev chSum (z t u m : Nat) : Int64 := itN (bs1 (nI z) (nI u) (fun i => (chL (nI t) m).getD i 0)) 0 (m + 1)
def gcB (m : Nat) (S : Int64) : Bool := !decide (gcG 64 S (tenP m) = 0) && decide (S / gcG 64 S (tenP m) = (ltR 6 (S, itN al1 1 (m + 1))).1) && decide (tenP m / gcG 64 S (tenP m) = (ltR 6 (S, itN al1 1 (m + 1))).2)
theorem gcAll : ∀ m, m < 7 → ∀ z, z < 10 → 1 ≤ z → ∀ t, t < 11 → ∀ u, u < 2 → gcB m (chSum z t u m) = true := by decide +kernel
