/-! the lagoon of the class against the model's: sittings and days -/
def LR (L : Nat → Nat → Int32) (B P : Nat → Int32) (th dp : Int32) : Prop :=
  (∀ i, i < 7 → L 1 i = P i ∧ ∃ k, k ≤ 9 ∧ P i = nI k) ∧ (∀ i, i < 7 → L 2 i = B i ∧ ∃ k, k ≤ 99 ∧ B i = nI k) ∧ (L 0 3 = th ∧ sB th) ∧ (L 0 4 = B 7 ∧ sB (B 7)) ∧ (L 0 5 = dp ∧ ∃ k, 1 ≤ k ∧ k ≤ 40 ∧ dp = nI k) ∧ (L 0 6 = B 9 ∧ ∃ k, k ≤ 9 ∧ B 9 = nI k) ∧ (L 0 7 = B 8 ∧ ∃ k, k ≤ 99 ∧ B 8 = nI k) ∧ ∃ wd nb T, L 3 2 = nI wd ∧ L 3 3 = nI nb ∧ B 10 = nI nb ∧ wd ≤ nb ∧ nb ≤ 32 ∧ cBook wd (L 4) (L 5) T ∧ mBook nb B T
theorem LR_cong {L L' : Nat → Nat → Int32} {B B' P P' : Nat → Int32} {th dp : Int32} (h : LR L B P th dp) (h0 : ∀ i, 3 ≤ i → i < 8 → L' 0 i = L 0 i) (h1 : ∀ i, i < 7 → L' 1 i = L 1 i) (h2 : ∀ i, i < 7 → L' 2 i = L 2 i) (h3 : ∀ i, 2 ≤ i → i < 4 → L' 3 i = L 3 i) (h4 : ∀ i, i < 32 → L' 4 i = L 4 i) (h5 : ∀ i, i < 32 → L' 5 i = L 5 i) (hB : ∀ i, i < 107 → B' i = B i) (hP : ∀ i, i < 7 → P' i = P i) : LR L' B' P' th dp := by
  obtain ⟨g1, g2, g3, g4, g5, g6, g7, wd, nb, T, k1, k2, k3, k4, k5, k6, k7⟩ := h
  refine ⟨fun i hi => ?_, fun i hi => ?_, ?_, ?_, ?_, ?_, ?_, wd, nb, T, ?_, ?_, ?_, k4, k5, ?_, ?_⟩
  · rw [h1 i hi, hP i hi]
    exact g1 i hi
  · rw [h2 i hi, hB i (by omega)]
    exact g2 i hi
  · rw [h0 3 (by omega) (by omega)]
    exact g3
  · rw [h0 4 (by omega) (by omega), hB 7 (by omega)]
    exact g4
  · rw [h0 5 (by omega) (by omega)]
    exact g5
  · rw [h0 6 (by omega) (by omega), hB 9 (by omega)]
    exact g6
  · rw [h0 7 (by omega) (by omega), hB 8 (by omega)]
    exact g7
  · rw [h3 2 (by omega) (by omega)]
    exact k1
  · rw [h3 3 (by omega) (by omega)]
    exact k2
  · rw [hB 10 (by omega)]
    exact k3
  · exact cBook_cong k6 (fun i hi => h4 i (by omega)) (fun i hi => h5 i (by omega))
  · exact mBook_cong k7 (fun i _ hi => hB i (by omega))
/-- the trial lagoon of A against now of C -/
abbrev TR (A C : mM) : Prop := LR (fun a b => A (38 + a) b) (C 54) (C 50) (C 49 0) (C 49 2)
theorem TR_why {A C : mM} {k : Nat} {z : Int32} (h : TR A C) (hk : k < 7) : fWhyT A k z = nWhy (C 54) k z := by
  obtain ⟨g1, g2, g3, g4, g5, g6, g7, wd, nb, T, k1, k2, k3, k4, k5, k6, k7⟩ := h
  have e1 : A 38 4 = C 54 7 := g4.1
  have e2 : A 40 k = C 54 k := (g2 k hk).1
  have e3 : A 41 3 = nI nb := k2
  unfold fWhyT fWhy nWhy
  rw [e1, e2, e3, k3]
  have hk7 := sm7 hk
  by_cases hb : bt (C 54 7) (nI k)
  · rw [if_pos ⟨hk7.1, hk7.2, hb⟩, if_pos hb]
    by_cases hz : z ≤ C 54 k
    · rw [if_pos hz, if_pos hz]
      have ea : nI nb < 32 ↔ nb < 32 := nI_ltI (b := 32) (by omega) (by omega)
      have eb : nI nb = 32 ↔ nb = 32 := nI_eq (b := 32) (by omega) (by omega)
      by_cases h32 : nb < 32
      · rw [if_pos (ea.mpr h32), if_neg (fun q => by have := eb.mp q; omega)]
      · rw [if_neg (fun q => h32 (ea.mp q)), if_pos (eb.mpr (by omega))]
    · rw [if_neg hz, if_neg hz]
  · rw [if_neg (fun q => hb q.2.2), if_neg hb]
theorem nI_sub {a b : Nat} (h : b ≤ a) : nI a - nI b = nI (a - b) := by
  rw [Int32.sub_eq_iff_eq_add, nI_add, Nat.sub_add_cancel h]
theorem mUp_nat {C : mM} {d z : Nat} (hd : C 49 2 = nI d) (h1 : 1 ≤ d) (h2 : d ≤ 40) (hz : 1 ≤ z) (hz9 : z ≤ 9) : ∃ u, u ≤ 40 ∧ mUp C (nI z) = nI u := by
  unfold mUp
  rw [hd, nI_add, show d + z = (d + z - 1) + 1 by omega, nI_pred, pk_div (by omega) (by omega) (by omega)]
  refine ⟨(d + z - 1) / z, ?_, rfl⟩
  rw [show d + z - 1 = (d - 1) + z by omega, Nat.add_div_right _ (by omega)]
  have := Nat.div_le_self (d - 1) z
  omega
theorem TR_bub {A C : mM} {k z : Nat} (h : TR A C) (hk : k < 7) (hz : 1 ≤ z) (hz9 : z ≤ 9) (hw : nWhy (C 54) k (nI z) = 0) : TR (fBub A k (nI z)) (nBub C (nbN C) k (nI z)) := by
  obtain ⟨g1, g2, g3, g4, ⟨g5, d, d1, d2, d3⟩, ⟨g6, td, t1, t2⟩, ⟨g7, mi, m1, m2⟩, wd, nb, T, k1, k2, k3, k4, k5, k6, k7⟩ := h
  obtain ⟨p1, pl, p2, p3⟩ := g1 k hk
  obtain ⟨b1, br, b2, b3⟩ := g2 k hk
  have hle : nI z ≤ C 54 k ∧ ¬ C 54 10 = 32 := by
    unfold nWhy at hw
    by_cases hb : bt (C 54 7) (nI k)
    · rw [if_pos hb] at hw
      by_cases hzz : nI z ≤ C 54 k
      · rw [if_pos hzz] at hw
        by_cases h32 : C 54 10 = 32
        · rw [if_pos h32] at hw
          exact absurd hw (by decide)
        · exact ⟨hzz, h32⟩
      · rw [if_neg hzz] at hw
        exact absurd hw (by decide)
    · rw [if_neg hb] at hw
      exact absurd hw (by decide)
  have hzb : z ≤ br := by
    have := hle.1
    rw [b3] at this
    exact (nI_leI (by omega) (by omega)).mp this
  have hnb : nb < 32 := by
    have h1 := hle.2
    rw [k3] at h1
    have : nb ≠ 32 := fun q => h1 (by rw [q]; rfl)
    omega
  obtain ⟨u, u1, u2⟩ := mUp_nat (C := C) d3 d1 d2 hz hz9
  have eu : fUp (A 38 5) (nI z) = nI u := by
    rw [show A 38 5 = C 49 2 from g5, up_eq ((nI_leI (a := 1) (by omega) (by omega)).mpr hz), u2]
  have ekey : (A 38 7 + fUp (A 38 5) (nI z)) * 10 + rem10 (A 39 k + fUp (A 38 5) (nI z) * A 38 6) = nI ((mi + u) * 10 + (pl + u * td) % 10) := by
    rw [eu, show A 38 7 = C 54 8 from g7, m2, show A 39 k = C 50 k from p1, p3, show A 38 6 = C 54 9 from g6, t2, nI_add, show (10 : Int32) = nI 10 from rfl, pk_mul, pk_mul, nI_add]
    have hr : rem10 (nI (pl + u * td)) = nI ((pl + u * td) % 10) := pk_rem (d := 10) (by have : u * td ≤ 40 * 9 := Nat.mul_le_mul u1 t1; omega) (by omega) (by omega)
    rw [hr, nI_add]
  have eA : fBub A k (nI z) = fAdd (mU A 40 k (nI (br - z))) (nI ((mi + u) * 10 + (pl + u * td) % 10)) (nI z) := by
    unfold fBub
    rw [ekey, show A 40 k = C 54 k from b1, b3, nI_sub hzb]
  obtain ⟨wd', a1, a2, a3, a4⟩ := fAdd_book (M := mU A 40 k (nI (br - z))) (wd := wd) (nb := nb) (k0 := (mi + u) * 10 + (pl + u * td) % 10) (z := z) (T := T) (by rw [mU_ne _ (by omega)]; exact k1) (by rw [mU_ne _ (by omega)]; exact k2) k4 hnb (by rw [mU_ne _ (by omega), mU_ne _ (by omega)]; exact k6) (by omega) hz
  rw [← eA] at a1 a2 a4
  have eN : nbN C = nb := by
    unfold nbN
    rw [k3, nI_clamp (by omega)]
  have e10 : ∀ i, i < 7 → nBub C (nbN C) k (nI z) 54 i = if i = k then nI (br - z) else C 54 i := fun i hi => by
    unfold nBub
    by_cases hik : i = k
    · rw [if_pos hik, hik, mU_at, mU_o (by omega), mU_o (by omega), mU_o (by omega), mU_o (by omega), b3, nI_sub hzb]
    · rw [if_neg hik, mU_o (by omega), mU_o (by omega), mU_o (by omega), mU_o (by omega), mU_o (by omega)]
  have e789 : ∀ i, 7 ≤ i → i < 10 → nBub C (nbN C) k (nI z) 54 i = C 54 i := fun i hi h9 => by
    unfold nBub
    rw [mU_o (by omega), mU_o (by omega), mU_o (by omega), mU_o (by omega), mU_o (by omega)]
  have eC10 : nBub C (nbN C) k (nI z) 54 10 = nI (nb + 1) := by
    unfold nBub
    rw [mU_o (by omega), mU_at, eN]
  have eB : ∀ i, 11 ≤ i → i < 11 + 3 * nb → nBub C (nbN C) k (nI z) 54 i = C 54 i := fun i h1 h2 => by
    unfold nBub
    rw [eN, mU_o (by omega), mU_o (by omega), mU_o (by omega), mU_o (by omega), mU_o (by omega)]
  have eB1 : nBub C (nbN C) k (nI z) 54 (11 + 3 * nb) = nI (mi + u) := by
    unfold nBub
    rw [eN, mU_o (by omega), mU_o (by omega), mU_o (by omega), mU_o (by omega), mU_at, u2, m2, nI_add]
  have eB2 : nBub C (nbN C) k (nI z) 54 (12 + 3 * nb) = nI ((pl + u * td) % 10) := by
    unfold nBub
    rw [eN, mU_o (by omega), mU_o (by omega), mU_o (by omega), mU_at, u2, p3, t2, pk_mul, nI_add]
    exact pk_rem (d := 10) (by have : u * td ≤ 40 * 9 := Nat.mul_le_mul u1 t1; omega) (by omega) (by omega)
  have eB3 : nBub C (nbN C) k (nI z) 54 (13 + 3 * nb) = nI z := by
    unfold nBub
    rw [eN, mU_o (by omega), mU_o (by omega), mU_at]
  have c50 : nBub C (nbN C) k (nI z) 50 = C 50 := nBub_ne (by omega)
  have c49 : nBub C (nbN C) k (nI z) 49 = C 49 := nBub_ne (by omega)
  have f38 : fBub A k (nI z) 38 = A 38 := fBub_ne (by omega) (by omega) (by omega) (by omega)
  have f39 : fBub A k (nI z) 39 = A 39 := fBub_ne (by omega) (by omega) (by omega) (by omega)
  have f40 : fBub A k (nI z) 40 = mU A 40 k (nI (br - z)) 40 := by
    rw [eA]
    exact fAdd_ne (by omega) (by omega) (by omega)
  unfold TR
  rw [c50, c49]
  refine ⟨fun i hi => ?_, fun i hi => ?_, ?_, ?_, ?_, ?_, ?_, wd', nb + 1, _, a1, a2, eC10, a3, by omega, a4, ?_⟩
  · show fBub A k (nI z) 39 i = C 50 i ∧ _
    rw [f39]
    exact g1 i hi
  · show fBub A k (nI z) 40 i = nBub C (nbN C) k (nI z) 54 i ∧ _
    rw [f40, e10 i hi]
    by_cases hik : i = k
    · rw [if_pos hik, hik, mU_at]
      exact ⟨rfl, br - z, by omega, rfl⟩
    · rw [if_neg hik, mU_o (fun q => hik q.2)]
      exact g2 i hi
  · show fBub A k (nI z) 38 3 = C 49 0 ∧ _
    rw [f38]
    exact g3
  · show fBub A k (nI z) 38 4 = _ ∧ _
    rw [f38, e789 7 (by omega) (by omega)]
    exact g4
  · show fBub A k (nI z) 38 5 = _ ∧ _
    rw [f38]
    exact ⟨g5, d, d1, d2, d3⟩
  · show fBub A k (nI z) 38 6 = _ ∧ _
    rw [f38, e789 9 (by omega) (by omega)]
    exact ⟨g6, td, t1, t2⟩
  · show fBub A k (nI z) 38 7 = _ ∧ _
    rw [f38, e789 8 (by omega) (by omega)]
    exact ⟨g7, mi, m1, m2⟩
  · exact mBook_add k7 eB eB1 eB2 eB3 (by omega) (by omega) hz9
theorem TR_congA {A A' C : mM} (h : TR A C) (hA : ∀ a, a < 6 → A' (38 + a) = A (38 + a)) : TR A' C :=
  LR_cong h (fun i _ _ => congrFun (hA 0 (by omega)) i) (fun i _ => congrFun (hA 1 (by omega)) i) (fun i _ => congrFun (hA 2 (by omega)) i) (fun i _ _ => congrFun (hA 3 (by omega)) i) (fun i _ => congrFun (hA 4 (by omega)) i) (fun i _ => congrFun (hA 5 (by omega)) i) (fun _ _ => rfl) (fun _ _ => rfl)
theorem TR_49 {A C : mM} {j : Nat} {v : Int32} (h : TR A C) (hj : 3 ≤ j) : TR A (mU C 49 j v) := by
  unfold TR
  rw [mU_ne 54 (by omega), mU_ne 50 (by omega), mU_o (by omega), mU_o (by omega)]
  exact h
theorem ps_pair {A C : mM} (hA : ∀ i, i < 7 → A 40 i = C 54 i ∧ ∃ k, k ≤ 99 ∧ C 54 i = nI k) (h4 : A 38 4 = C 54 7) (hs : sB (C 54 7)) : ∀ n, n ≤ 7 → (∀ i, i < 7 → psN A n 40 i = nsN C n 54 i ∧ ∃ k, k ≤ 99 ∧ nsN C n 54 i = nI k) ∧ psN A n 38 4 = nsN C n 54 7 ∧ sB (nsN C n 54 7) ∧ (∀ b, b ≠ 4 → psN A n 38 b = A 38 b) ∧ ∀ b, 8 ≤ b → nsN C n 54 b = C 54 b
  | 0, _ => ⟨hA, h4, hs, fun _ _ => rfl, fun _ _ => rfl⟩
  | n + 1, hn => by
    obtain ⟨g1, g2, g3, g4, g5⟩ := ps_pair hA h4 hs n (by omega)
    have e1 : psN A (n + 1) = pst (psN A n) n := rfl
    have e2 : nsN C (n + 1) = nst (nsN C n) n := rfl
    obtain ⟨b1, br, b2, b3⟩ := g1 n (by omega)
    rw [e1, e2]
    unfold pst nst
    rw [g2, b1]
    by_cases hb : bt (nsN C n 54 7) (nI n)
    · rw [if_pos hb, if_pos hb]
      by_cases h0 : nsN C n 54 n = 0
      · rw [if_pos h0, if_pos h0]
        refine ⟨fun i hi => ?_, ?_, ?_, fun b hb4 => ?_, fun b hb8 => ?_⟩
        · rw [mU_o (by omega), mU_o (by omega)]
          exact g1 i hi
        · rw [mU_at, mU_at]
        · rw [mU_at]
          exact sB_and g3 (by omega)
        · rw [mU_o (by omega)]
          exact g4 b hb4
        · rw [mU_o (by omega)]
          exact g5 b hb8
      · rw [if_neg h0, if_neg h0]
        refine ⟨fun i hi => ?_, ?_, ?_, fun b hb4 => ?_, fun b hb8 => ?_⟩
        · by_cases hin : i = n
          · rw [hin, mU_at, mU_at]
            refine ⟨rfl, br - 1, by omega, ?_⟩
            have hbr : br ≠ 0 := fun q => h0 (by rw [b3, q]; rfl)
            rw [b3, show (1 : Int32) = nI 1 from rfl, nI_sub (by omega)]
          · rw [mU_o (fun q => hin q.2), mU_o (fun q => hin q.2)]
            exact g1 i hi
        · rw [mU_o (by omega), mU_o (by omega)]
          exact g2
        · rw [mU_o (by omega)]
          exact g3
        · rw [mU_o (by omega)]
          exact g4 b hb4
        · rw [mU_o (by omega)]
          exact g5 b hb8
    · rw [if_neg hb, if_neg hb]
      exact ⟨g1, g2, g3, g4, g5⟩
theorem TR_pass {A C : mM} (h : TR A C) : (if A 38 7 < 99 then (0 : Int32) else 4) = (if C 54 8 = 99 then 4 else 0) ∧ TR (fPass A) (nPass C) := by
  have h0 := h
  obtain ⟨g1, g2, g3, g4, g5, g6, ⟨g7, mi, m1, m2⟩, wd, nb, T, k1, k2, k3, k4, k5, k6, k7⟩ := h
  have ea : nI mi < 99 ↔ mi < 99 := nI_ltI (b := 99) (by omega) (by omega)
  have eb : nI mi = 99 ↔ mi = 99 := nI_eq (b := 99) (by omega) (by omega)
  unfold fPass nPass
  rw [show A 38 7 = C 54 8 from g7, m2]
  by_cases h99 : mi < 99
  · have hn : ¬ nI mi = 99 := fun q => by have := eb.mp q; omega
    rw [if_pos (ea.mpr h99), if_neg hn, if_pos (ea.mpr h99), if_neg hn]
    refine ⟨rfl, ?_⟩
    obtain ⟨q1, q2, q3, q4, q5⟩ := ps_pair (A := mU A 38 7 (nI mi + 1)) (C := C) (fun i hi => by rw [mU_ne _ (by omega)]; exact g2 i hi) (by rw [mU_o (by omega)]; exact g4.1) g4.2 7 (by omega)
    unfold TR
    have c50 : mU (nsN C 7) 54 8 (nsN C 7 54 8 + 1) 50 = C 50 := by rw [mU_ne _ (by omega), nstN_ne (by omega)]
    have c49 : mU (nsN C 7) 54 8 (nsN C 7 54 8 + 1) 49 = C 49 := by rw [mU_ne _ (by omega), nstN_ne (by omega)]
    have p39 : psN (mU A 38 7 (nI mi + 1)) 7 39 = A 39 := by rw [psN_ne (by omega) (by omega), mU_ne _ (by omega)]
    have p41 : psN (mU A 38 7 (nI mi + 1)) 7 41 = A 41 := by rw [psN_ne (by omega) (by omega), mU_ne _ (by omega)]
    have p42 : psN (mU A 38 7 (nI mi + 1)) 7 42 = A 42 := by rw [psN_ne (by omega) (by omega), mU_ne _ (by omega)]
    have p43 : psN (mU A 38 7 (nI mi + 1)) 7 43 = A 43 := by rw [psN_ne (by omega) (by omega), mU_ne _ (by omega)]
    rw [c50, c49]
    refine ⟨fun i hi => ?_, fun i hi => ?_, ?_, ?_, ?_, ?_, ?_, wd, nb, T, ?_, ?_, ?_, k4, k5, ?_, ?_⟩
    · show psN (mU A 38 7 (nI mi + 1)) 7 39 i = _ ∧ _
      rw [p39]
      exact g1 i hi
    · show psN (mU A 38 7 (nI mi + 1)) 7 40 i = _ ∧ _
      rw [mU_o (by omega)]
      exact q1 i hi
    · show psN (mU A 38 7 (nI mi + 1)) 7 38 3 = _ ∧ _
      rw [q4 3 (by omega), mU_o (by omega)]
      exact g3
    · show psN (mU A 38 7 (nI mi + 1)) 7 38 4 = _ ∧ _
      rw [mU_o (by omega)]
      exact ⟨q2, q3⟩
    · show psN (mU A 38 7 (nI mi + 1)) 7 38 5 = _ ∧ _
      rw [q4 5 (by omega), mU_o (by omega)]
      exact g5
    · show psN (mU A 38 7 (nI mi + 1)) 7 38 6 = _ ∧ _
      rw [q4 6 (by omega), mU_o (by omega), mU_o (by omega), q5 9 (by omega)]
      exact g6
    · show psN (mU A 38 7 (nI mi + 1)) 7 38 7 = _ ∧ _
      rw [q4 7 (by omega), mU_at, mU_at, q5 8 (by omega), m2]
      exact ⟨rfl, mi + 1, by omega, nI_1 mi⟩
    · show psN (mU A 38 7 (nI mi + 1)) 7 41 2 = _
      rw [p41]
      exact k1
    · show psN (mU A 38 7 (nI mi + 1)) 7 41 3 = _
      rw [p41]
      exact k2
    · rw [mU_o (by omega), q5 10 (by omega)]
      exact k3
    · show cBook wd (psN (mU A 38 7 (nI mi + 1)) 7 42) (psN (mU A 38 7 (nI mi + 1)) 7 43) T
      rw [p42, p43]
      exact k6
    · exact mBook_cong k7 (fun i hi _ => by rw [mU_o (by omega), q5 i (by omega)])
  · have hn : nI mi = 99 := eb.mpr (by omega)
    rw [if_neg (fun q => h99 (ea.mp q)), if_pos hn, if_neg (fun q => h99 (ea.mp q)), if_pos hn]
    exact ⟨rfl, h0⟩
theorem TR_tide {A C : mM} {d : Nat} (h : TR A C) (hd : d ≤ 9) : TR (mU A 38 6 (nI d)) (mU C 54 9 (nI d)) := by
  obtain ⟨g1, g2, g3, g4, g5, g6, g7, wd, nb, T, k1, k2, k3, k4, k5, k6, k7⟩ := h
  unfold TR
  rw [mU_ne 50 (by omega), mU_ne 49 (by omega)]
  refine ⟨fun i hi => ?_, fun i hi => ?_, ?_, ?_, ?_, ?_, ?_, wd, nb, T, ?_, ?_, ?_, k4, k5, ?_, ?_⟩
  · show mU A 38 6 (nI d) 39 i = _ ∧ _
    rw [mU_ne _ (by omega)]
    exact g1 i hi
  · show mU A 38 6 (nI d) 40 i = _ ∧ _
    rw [mU_ne _ (by omega), mU_o (by omega)]
    exact g2 i hi
  · show mU A 38 6 (nI d) 38 3 = _ ∧ _
    rw [mU_o (by omega)]
    exact g3
  · show mU A 38 6 (nI d) 38 4 = _ ∧ _
    rw [mU_o (by omega), mU_o (by omega)]
    exact g4
  · show mU A 38 6 (nI d) 38 5 = _ ∧ _
    rw [mU_o (by omega)]
    exact g5
  · show mU A 38 6 (nI d) 38 6 = _ ∧ _
    rw [mU_at, mU_at]
    exact ⟨rfl, d, hd, rfl⟩
  · show mU A 38 6 (nI d) 38 7 = _ ∧ _
    rw [mU_o (by omega), mU_o (by omega)]
    exact g7
  · show mU A 38 6 (nI d) 41 2 = _
    rw [mU_ne _ (by omega)]
    exact k1
  · show mU A 38 6 (nI d) 41 3 = _
    rw [mU_ne _ (by omega)]
    exact k2
  · rw [mU_o (by omega)]
    exact k3
  · show cBook wd (mU A 38 6 (nI d) 42) (mU A 38 6 (nI d) 43) T
    rw [mU_ne 42 (by omega), mU_ne 43 (by omega)]
    exact k6
  · exact mBook_cong k7 (fun i hi _ => mU_o (by omega))
theorem TR_rise {A C : mM} {k : Nat} (h : TR A C) (hk : k < 7) : TR (fRise A (nI k)) (mU C 54 7 (C 54 7 &&& nbit (nI k))) := by
  obtain ⟨g1, g2, g3, g4, g5, g6, g7, wd, nb, T, k1, k2, k3, k4, k5, k6, k7⟩ := h
  unfold TR fRise
  rw [mU_ne 50 (by omega), mU_ne 49 (by omega), show A 38 4 = C 54 7 from g4.1]
  generalize hv : C 54 7 &&& nbit (nI k) = v
  refine ⟨fun i hi => ?_, fun i hi => ?_, ?_, ?_, ?_, ?_, ?_, wd, nb, T, ?_, ?_, ?_, k4, k5, ?_, ?_⟩
  · show mU A 38 4 v 39 i = _ ∧ _
    rw [mU_ne _ (by omega)]
    exact g1 i hi
  · show mU A 38 4 v 40 i = _ ∧ _
    rw [mU_ne _ (by omega), mU_o (by omega)]
    exact g2 i hi
  · show mU A 38 4 v 38 3 = _ ∧ _
    rw [mU_o (by omega)]
    exact g3
  · show mU A 38 4 v 38 4 = _ ∧ _
    rw [mU_at, mU_at, ← hv]
    exact ⟨rfl, sB_and g4.2 hk⟩
  · show mU A 38 4 v 38 5 = _ ∧ _
    rw [mU_o (by omega)]
    exact g5
  · show mU A 38 4 v 38 6 = _ ∧ _
    rw [mU_o (by omega), mU_o (by omega)]
    exact g6
  · show mU A 38 4 v 38 7 = _ ∧ _
    rw [mU_o (by omega), mU_o (by omega)]
    exact g7
  · show mU A 38 4 v 41 2 = _
    rw [mU_ne _ (by omega)]
    exact k1
  · show mU A 38 4 v 41 3 = _
    rw [mU_ne _ (by omega)]
    exact k2
  · rw [mU_o (by omega)]
    exact k3
  · show cBook wd (mU A 38 4 v 42) (mU A 38 4 v 43) T
    rw [mU_ne 42 (by omega), mU_ne 43 (by omega)]
    exact k6
  · exact mBook_cong k7 (fun i hi _ => mU_o (by omega))
theorem sub_48 {d : Nat} (hd : d < 10) : nI (48 + d) - 48 = nI d := by
  rw [show (48 : Int32) = nI 48 from rfl, nI_sub (by omega), Nat.add_sub_cancel_left]
theorem sub_65 {d : Nat} (hd : d < 10) : nI (65 + d) - 65 = nI d := by
  rw [show (65 : Int32) = nI 65 from rfl, nI_sub (by omega), Nat.add_sub_cancel_left]
theorem nWhy_v (N : Nat → Int32) (k : Nat) (z : Int32) : nWhy N k z = 0 ∨ 0 < nWhy N k z := by
  unfold nWhy
  split
  · split
    · split
      · exact Or.inr (by decide)
      · exact Or.inl rfl
    · exact Or.inr (by decide)
  · exact Or.inr (by decide)
theorem TR_act {A C : mM} {x y : Int32} (h : TR A C) (hok : okS x y) : fActW A x y = nActW C x y ∧ (nActW C x y = 0 ∨ 0 < nActW C x y) ∧ (nActW C x y = 0 → TR (fActM A x y) (nActM C x y)) := by
  obtain ⟨hp1, hp2⟩ := TR_pass h
  unfold fActW fActM nActW nActM
  by_cases h1 : x = 46
  · rw [if_pos h1, if_pos h1, if_pos h1, if_pos h1]
    refine ⟨hp1, ?_, fun _ => hp2⟩
    by_cases h99 : C 54 8 = 99
    · rw [if_pos h99]
      exact Or.inr (by decide)
    · rw [if_neg h99]
      exact Or.inl rfl
  · rw [if_neg h1, if_neg h1, if_neg h1, if_neg h1]
    by_cases h2 : x = 126
    · rw [if_pos h2, if_pos h2, if_pos h2, if_pos h2]
      refine ⟨rfl, Or.inl rfl, fun _ => ?_⟩
      rcases hok with q | ⟨-, d, hd, e⟩ | ⟨k, hk, e, -⟩
      · exact absurd q h1
      · rw [e, sub_48 hd]
        exact TR_tide h (by omega)
      · exact absurd h2 (by rw [e]; exact fun q => by have := (nI_eq (b := 126) (by omega) (by omega)).mp q; omega)
    · rw [if_neg h2, if_neg h2, if_neg h2, if_neg h2]
      rcases hok with q | ⟨q, -⟩ | ⟨k, hk, e, hy⟩
      · exact absurd q h1
      · exact absurd q h2
      · have e65 : x - 65 = nI k := by rw [e, sub_65 (by omega)]
        have hk7 := sm7 hk
        rw [e65, nI_clamp (show k < 2 ^ 31 by omega)]
        by_cases h94 : y = 94
        · rw [if_pos h94, if_pos h94, if_pos h94, if_pos h94]
          have e4 : A 38 4 = C 54 7 := h.2.2.2.1.1
          rw [e4]
          by_cases hb : bt (C 54 7) (nI k)
          · rw [if_pos ⟨hk7.1, hk7.2, hb⟩, if_pos hb, if_pos ⟨hk7.1, hk7.2, hb⟩]
            exact ⟨rfl, Or.inl rfl, fun _ => TR_rise h hk⟩
          · rw [if_neg (fun q => hb q.2.2), if_neg hb, if_neg (fun q => hb q.2.2)]
            exact ⟨rfl, Or.inr (by decide), fun q => absurd q (by decide)⟩
        · rw [if_neg h94, if_neg h94, if_neg h94, if_neg h94]
          rcases hy with hy | ⟨z, hz, hz9, hy⟩
          · exact absurd hy h94
          · rw [hy, sub_48 (show z < 10 by omega), TR_why h hk]
            refine ⟨rfl, nWhy_v _ _ _, fun q => ?_⟩
            rw [if_pos q, if_pos q]
            exact TR_bub h hk hz hz9 q
