/-! call by call: who dives, leaves, what is set, the pad, hours, sights -/
theorem LRn_seat {M : mM} (g : Rel M) {k yy zz : Nat} (hk : k < 7) (hy : yy ≤ 9) (hz : zz ≤ 99) : LRn (nSeat (fSeat M (nI k) (nI yy) (nI zz)) (nI k) (nI yy) (nI zz)) := by
  obtain ⟨g1, g2, g3, g4, g5, g6, g7, wd, nb, T, k1, k2, k3, k4, k5, k6, k7⟩ := R_L g
  have hcl : (nI k).toNatClampNeg = k := nI_clamp (by omega)
  generalize hN : nSeat (fSeat M (nI k) (nI yy) (nI zz)) (nI k) (nI yy) (nI zz) = N
  have e3 : ∀ i, N 3 i = if i = k then nI yy else M 3 i := fun i => by
    rw [← hN]
    unfold nSeat fSeat
    rw [hcl]
    simp [mU]
  have e50 : ∀ i, N 50 i = if i = k then nI yy else M 50 i := fun i => by
    rw [← hN]
    unfold nSeat fSeat
    rw [hcl]
    simp [mU]
  have e4 : ∀ i, N 4 i = if i = k then nI zz else M 4 i := fun i => by
    rw [← hN]
    unfold nSeat fSeat
    rw [hcl]
    simp [mU]
  have e53 : ∀ i, i < 7 → N 53 i = if i = k then nI zz else M 53 i := fun i hi => by
    rw [← hN]
    unfold nSeat fSeat
    rw [hcl]
    have : ¬ i = 7 := by omega
    simp [mU, this]
  have e53b : ∀ i, 8 ≤ i → N 53 i = M 53 i := fun i hi => by
    rw [← hN]
    unfold nSeat fSeat
    rw [hcl]
    have h7 : ¬ i = 7 := by omega
    have hkk : ¬ i = k := by omega
    simp [mU, h7, hkk]
  have e537 : N 53 7 = M 53 7 ||| bv (nI k) := by
    rw [← hN]
    unfold nSeat fSeat
    rw [hcl]
    have h7 : ¬ 7 = k := by omega
    simp [mU, h7]
  have e24 : N 2 4 = M 2 4 ||| bv (nI k) := by
    rw [← hN]
    unfold nSeat fSeat
    simp [mU]
  have e23 : N 2 3 = M 2 3 ||| bv (nI k) := by
    rw [← hN]
    unfold nSeat fSeat
    simp [mU]
  have e490 : N 49 0 = M 49 0 ||| bv (nI k) := by
    rw [← hN]
    unfold nSeat fSeat
    simp [mU]
  have e492 : N 49 2 = M 49 2 := by
    rw [← hN]
    unfold nSeat fSeat
    simp [mU]
  have e2 : ∀ i, 5 ≤ i → N 2 i = M 2 i := fun i hi => by
    rw [← hN]
    unfold nSeat fSeat
    have h3 : ¬ i = 3 := by omega
    have h4 : ¬ i = 4 := by omega
    simp [mU, h3, h4]
  have e567 : ∀ a, 5 ≤ a → a < 8 → N a = M a := fun a h5 h8 => by
    rw [← hN]
    unfold nSeat fSeat
    rw [mU_ne _ (by omega), mU_ne _ (by omega), mU_ne _ (by omega), mU_ne _ (by omega), mU_ne _ (by omega), mU_ne _ (by omega), mU_ne _ (by omega), mU_ne _ (by omega)]
  refine ⟨fun i hi => ?_, fun i hi => ?_, ?_, ?_, ?_, ?_, ?_, wd, nb, T, ?_, ?_, ?_, k4, k5, ?_, ?_⟩
  · show N 3 i = N 50 i ∧ ∃ k, k ≤ 9 ∧ N 50 i = nI k
    rw [e3, e50]
    by_cases h : i = k
    · rw [if_pos h, if_pos h]
      exact ⟨rfl, yy, hy, rfl⟩
    · rw [if_neg h, if_neg h]
      exact g1 i hi
  · show N 4 i = N 53 i ∧ ∃ k, k ≤ 99 ∧ N 53 i = nI k
    rw [e4, e53 i hi]
    by_cases h : i = k
    · rw [if_pos h, if_pos h]
      exact ⟨rfl, zz, hz, rfl⟩
    · rw [if_neg h, if_neg h]
      exact g2 i hi
  · show N 2 3 = N 49 0 ∧ sB (N 49 0)
    rw [e23, e490]
    exact ⟨by rw [(R_th g).1], sB_or (R_th g).2 hk⟩
  · show N 2 4 = N 53 7 ∧ sB (N 53 7)
    rw [e24, e537]
    exact ⟨by rw [(R_bl g).1], sB_or (R_bl g).2 hk⟩
  · show N 2 5 = N 49 2 ∧ _
    rw [e2 5 (by omega), e492]
    exact g5
  · show N 2 6 = N 53 9 ∧ _
    rw [e2 6 (by omega), e53b 9 (by omega)]
    exact g6
  · show N 2 7 = N 53 8 ∧ _
    rw [e2 7 (by omega), e53b 8 (by omega)]
    exact g7
  · show N 5 2 = _
    rw [e567 5 (by omega) (by omega)]
    exact k1
  · show N 5 3 = _
    rw [e567 5 (by omega) (by omega)]
    exact k2
  · rw [e53b 10 (by omega)]
    exact k3
  · show cBook wd (N 6) (N 7) T
    rw [e567 6 (by omega) (by omega), e567 7 (by omega) (by omega)]
    exact k6
  · exact mBook_cong k7 (fun i hi _ => e53b i (by omega))

theorem px_dive {M M1 M2 : mM} {r0 r1 : Int32} {x y z : Int32} (g : Rel M) (h1 : r0 = (if gM x then (if (0 ≤ y ∧ y ≤ 9) ∧ (0 ≤ z ∧ z ≤ 99) then bcI (M 2 4 ||| bv x) else -2) else -1) ∧ M1 = (if gM x then (if (0 ≤ y ∧ y ≤ 9) ∧ (0 ≤ z ∧ z ≤ 99) then fSeat M x y z else M) else M)) (h2 : r1 = (if gM x then (if (0 ≤ y ∧ y ≤ 9) ∧ (0 ≤ z ∧ z ≤ 99) then pc7 (M1 53 7 ||| bv x) 7 else -2) else -1) ∧ M2 = (if gM x then (if (0 ≤ y ∧ y ≤ 9) ∧ (0 ≤ z ∧ z ≤ 99) then nSeat M1 x y z else M1) else M1)) : r0 = r1 ∧ Rel M2 := by
  have hM := h1.2
  rw [h1.1, h2.1, h2.2, hM]
  by_cases hg : gM x
  · rw [if_pos hg, if_pos hg, if_pos hg, if_pos hg]
    by_cases hc : (0 ≤ y ∧ y ≤ 9) ∧ (0 ≤ z ∧ z ≤ 99)
    · rw [if_pos hc, if_pos hc, if_pos hc, if_pos hc]
      obtain ⟨k, hk, ek⟩ := gM_nat hg
      obtain ⟨yy, hy, ey⟩ := ix (n := 9) (by decide) hc.1.1 hc.1.2
      obtain ⟨zz, hz, ez⟩ := ix (n := 99) (by decide) hc.2.1 hc.2.2
      rw [ek, ey, ez]
      have e53 : fSeat M (nI k) (nI yy) (nI zz) 53 = M 53 := by
        unfold fSeat
        rw [mU_ne _ (by omega), mU_ne _ (by omega), mU_ne _ (by omega), mU_ne _ (by omega)]
      rw [e53, (R_bl g).1, bcpc (sB_or (R_bl g).2 hk)]
      refine ⟨rfl, Rel_LR g (LRn_seat g hk hy hz) (fun a h49 ha => ?_) (fun j hj _ => ?_)⟩
      · unfold nSeat fSeat
        rw [mU_ne _ (by omega), mU_ne _ (by omega), mU_ne _ (by omega), mU_ne _ (by omega), mU_ne _ (by omega), mU_ne _ (by omega), mU_ne _ (by omega), mU_ne _ (by omega)]
      · unfold nSeat fSeat
        rw [mU_ne _ (by omega), mU_ne _ (by omega), mU_ne _ (by omega), mU_o (by omega), mU_ne _ (by omega), mU_ne _ (by omega), mU_ne _ (by omega), mU_ne _ (by omega)]
    · rw [if_neg hc, if_neg hc, if_neg hc, if_neg hc]
      exact ⟨rfl, g⟩
  · rw [if_neg hg, if_neg hg, if_neg hg, if_neg hg]
    exact ⟨rfl, g⟩

theorem LRn_uns {M : mM} (g : Rel M) {k : Nat} (hk : k < 7) : LRn (nUns (fUns M (nI k)) (nI k)) := by
  obtain ⟨g1, g2, g3, g4, g5, g6, g7, wd, nb, T, k1, k2, k3, k4, k5, k6, k7⟩ := R_L g
  generalize hN : nUns (fUns M (nI k)) (nI k) = N
  have e53b : ∀ i, ¬ i = 7 → N 53 i = M 53 i := fun i hi => by
    rw [← hN]
    unfold nUns fUns
    simp [mU, hi]
  have e537 : N 53 7 = M 53 7 &&& nbit (nI k) := by
    rw [← hN]
    unfold nUns fUns
    simp [mU]
  have e24 : N 2 4 = M 2 4 &&& nbit (nI k) := by
    rw [← hN]
    unfold nUns fUns
    simp [mU]
  have e23 : N 2 3 = M 2 3 &&& nbit (nI k) := by
    rw [← hN]
    unfold nUns fUns
    simp [mU]
  have e490 : N 49 0 = M 49 0 &&& nbit (nI k) := by
    rw [← hN]
    unfold nUns fUns
    simp [mU]
  have e492 : N 49 2 = M 49 2 := by
    rw [← hN]
    unfold nUns fUns
    simp [mU]
  have e2 : ∀ i, 5 ≤ i → N 2 i = M 2 i := fun i hi => by
    rw [← hN]
    unfold nUns fUns
    have h3 : ¬ i = 3 := by omega
    have h4 : ¬ i = 4 := by omega
    simp [mU, h3, h4]
  have e567 : ∀ a, ((3 ≤ a ∧ a < 8) ∨ a = 50) → N a = M a := fun a ha => by
    rw [← hN]
    unfold nUns fUns
    rw [mU_ne _ (by omega), mU_ne _ (by omega), mU_ne _ (by omega), mU_ne _ (by omega)]
  refine ⟨fun i hi => ?_, fun i hi => ?_, ?_, ?_, ?_, ?_, ?_, wd, nb, T, ?_, ?_, ?_, k4, k5, ?_, ?_⟩
  · show N 3 i = N 50 i ∧ ∃ k, k ≤ 9 ∧ N 50 i = nI k
    rw [e567 3 (by omega), e567 50 (by omega)]
    exact g1 i hi
  · show N 4 i = N 53 i ∧ ∃ k, k ≤ 99 ∧ N 53 i = nI k
    rw [e567 4 (by omega), e53b i (by omega)]
    exact g2 i hi
  · show N 2 3 = N 49 0 ∧ sB (N 49 0)
    rw [e23, e490]
    exact ⟨by rw [(R_th g).1], sB_and (R_th g).2 hk⟩
  · show N 2 4 = N 53 7 ∧ sB (N 53 7)
    rw [e24, e537]
    exact ⟨by rw [(R_bl g).1], sB_and (R_bl g).2 hk⟩
  · show N 2 5 = N 49 2 ∧ _
    rw [e2 5 (by omega), e492]
    exact g5
  · show N 2 6 = N 53 9 ∧ _
    rw [e2 6 (by omega), e53b 9 (by omega)]
    exact g6
  · show N 2 7 = N 53 8 ∧ _
    rw [e2 7 (by omega), e53b 8 (by omega)]
    exact g7
  · show N 5 2 = _
    rw [e567 5 (by omega)]
    exact k1
  · show N 5 3 = _
    rw [e567 5 (by omega)]
    exact k2
  · rw [e53b 10 (by omega)]
    exact k3
  · show cBook wd (N 6) (N 7) T
    rw [e567 6 (by omega), e567 7 (by omega)]
    exact k6
  · exact mBook_cong k7 (fun i hi _ => e53b i (by omega))

theorem px_leave {M M1 M2 : mM} {r0 r1 : Int32} {x : Int32} (g : Rel M) (h1 : r0 = (if gT M x then bcI (M 2 3 &&& nbit x) else -1) ∧ M1 = (if gT M x then fUns M x else M)) (h2 : r1 = (if hT M1 x then pc7 (M1 49 0 &&& nbit x) 7 else -1) ∧ M2 = (if hT M1 x then nUns M1 x else M1)) : r0 = r1 ∧ Rel M2 := by
  have hM := h1.2
  rw [h1.1, h2.1, h2.2, hM]
  have e0 : ∀ u : Int32, hT (fUns M u) u ↔ hT M u := fun u => by
    unfold hT fUns
    rw [mU_ne _ (by omega), mU_ne _ (by omega)]
  have eT : gT M x ↔ hT M x := by
    unfold gT hT
    rw [(R_th g).1]
  by_cases hg : gT M x
  · have hh := eT.mp hg
    rw [if_pos hg, if_pos hg, if_pos ((e0 x).mpr hh), if_pos ((e0 x).mpr hh)]
    obtain ⟨k, hk, ek⟩ := gM_nat ⟨hg.1, hg.2.1⟩
    rw [ek]
    have e49 : fUns M (nI k) 49 = M 49 := by
      unfold fUns
      rw [mU_ne _ (by omega), mU_ne _ (by omega)]
    rw [e49, (R_th g).1, bcpc (sB_and (R_th g).2 hk)]
    refine ⟨rfl, Rel_LR g (LRn_uns g hk) (fun a h49 ha => ?_) (fun j hj _ => ?_)⟩
    · unfold nUns fUns
      rw [mU_ne _ (by omega), mU_ne _ (by omega), mU_ne _ (by omega), mU_ne _ (by omega)]
    · unfold nUns fUns
      rw [mU_ne _ (by omega), mU_o (by omega), mU_ne _ (by omega), mU_ne _ (by omega)]
  · have hh : ¬ hT M x := fun z => hg (eT.mpr z)
    rw [if_neg hg, if_neg hg, if_neg hh, if_neg hh]
    exact ⟨rfl, g⟩

theorem Rel_deep {M : mM} (g : Rel M) {d : Nat} (h1 : 1 ≤ d) (h2 : d ≤ 40) : Rel (mU (mU (mU M 2 5 (nI d)) 49 2 (nI d)) 53 9 (mU M 2 5 (nI d) 53 9)) := by
  obtain ⟨g1, g2, g3, g4, g5, g6, g7, wd, nb, T, k1, k2, k3, k4, k5, k6, k7⟩ := R_L g
  generalize hN : mU (mU (mU M 2 5 (nI d)) 49 2 (nI d)) 53 9 (mU M 2 5 (nI d) 53 9) = N
  have e53 : N 53 = M 53 := by
    funext i
    rw [← hN]
    by_cases h9 : i = 9
    · rw [h9, mU_at, mU_ne _ (by omega)]
    · rw [mU_o (by omega), mU_ne _ (by omega), mU_ne _ (by omega)]
  have ea : ∀ a, a ≠ 2 → a ≠ 49 → a ≠ 53 → N a = M a := fun a x1 x2 x3 => by
    rw [← hN, mU_ne _ (by omega), mU_ne _ (by omega), mU_ne _ (by omega)]
  have e2 : ∀ i, ¬ i = 5 → N 2 i = M 2 i := fun i hi => by
    rw [← hN, mU_ne _ (by omega), mU_ne _ (by omega), mU_o (by omega)]
  have e25 : N 2 5 = nI d := by
    rw [← hN, mU_ne _ (by omega), mU_ne _ (by omega), mU_at]
  have e492 : N 49 2 = nI d := by
    rw [← hN, mU_ne _ (by omega), mU_at]
  have e49 : ∀ j, ¬ j = 2 → N 49 j = M 49 j := fun j hj => by
    rw [← hN, mU_ne _ (by omega), mU_o (by omega), mU_ne _ (by omega)]
  refine Rel_LR g ?_ (fun a h49 ha => ea a (by omega) (by omega) (by omega)) (fun j hj _ => e49 j (by omega))
  refine ⟨fun i hi => ?_, fun i hi => ?_, ?_, ?_, ?_, ?_, ?_, wd, nb, T, ?_, ?_, ?_, k4, k5, ?_, ?_⟩
  · show N 3 i = N 50 i ∧ ∃ k, k ≤ 9 ∧ N 50 i = nI k
    rw [ea 3 (by omega) (by omega) (by omega), ea 50 (by omega) (by omega) (by omega)]
    exact g1 i hi
  · show N 4 i = N 53 i ∧ ∃ k, k ≤ 99 ∧ N 53 i = nI k
    rw [ea 4 (by omega) (by omega) (by omega), e53]
    exact g2 i hi
  · show N 2 3 = N 49 0 ∧ sB (N 49 0)
    rw [e2 3 (by omega), e49 0 (by omega)]
    exact g3
  · show N 2 4 = N 53 7 ∧ sB (N 53 7)
    rw [e2 4 (by omega), e53]
    exact g4
  · show N 2 5 = N 49 2 ∧ _
    rw [e25, e492]
    exact ⟨rfl, d, h1, h2, rfl⟩
  · show N 2 6 = N 53 9 ∧ _
    rw [e2 6 (by omega), e53]
    exact g6
  · show N 2 7 = N 53 8 ∧ _
    rw [e2 7 (by omega), e53]
    exact g7
  · show N 5 2 = _
    rw [ea 5 (by omega) (by omega) (by omega)]
    exact k1
  · show N 5 3 = _
    rw [ea 5 (by omega) (by omega) (by omega)]
    exact k2
  · rw [e53]
    exact k3
  · show cBook wd (N 6) (N 7) T
    rw [ea 6 (by omega) (by omega) (by omega), ea 7 (by omega) (by omega) (by omega)]
    exact k6
  · rw [e53]
    exact k7
theorem Rel_tide {M : mM} (g : Rel M) {d : Nat} (h2 : d ≤ 9) : Rel (mU (mU (mU M 2 6 (nI d)) 49 2 (mU M 2 6 (nI d) 49 2)) 53 9 (nI d)) := by
  obtain ⟨g1, g2, g3, g4, g5, g6, g7, wd, nb, T, k1, k2, k3, k4, k5, k6, k7⟩ := R_L g
  generalize hN : mU (mU (mU M 2 6 (nI d)) 49 2 (mU M 2 6 (nI d) 49 2)) 53 9 (nI d) = N
  have e53 : ∀ i, ¬ i = 9 → N 53 i = M 53 i := fun i hi => by
    rw [← hN, mU_o (by omega), mU_ne _ (by omega), mU_ne _ (by omega)]
  have e539 : N 53 9 = nI d := by
    rw [← hN, mU_at]
  have ea : ∀ a, a ≠ 2 → a ≠ 49 → a ≠ 53 → N a = M a := fun a x1 x2 x3 => by
    rw [← hN, mU_ne _ (by omega), mU_ne _ (by omega), mU_ne _ (by omega)]
  have e2 : ∀ i, ¬ i = 6 → N 2 i = M 2 i := fun i hi => by
    rw [← hN, mU_ne _ (by omega), mU_ne _ (by omega), mU_o (by omega)]
  have e26 : N 2 6 = nI d := by
    rw [← hN, mU_ne _ (by omega), mU_ne _ (by omega), mU_at]
  have e49 : ∀ j, N 49 j = M 49 j := fun j => by
    rw [← hN, mU_ne _ (by omega)]
    by_cases hj : j = 2
    · rw [hj, mU_at, mU_ne _ (by omega)]
    · rw [mU_o (by omega), mU_ne _ (by omega)]
  refine Rel_LR g ?_ (fun a h49 ha => ea a (by omega) (by omega) (by omega)) (fun j hj _ => e49 j)
  refine ⟨fun i hi => ?_, fun i hi => ?_, ?_, ?_, ?_, ?_, ?_, wd, nb, T, ?_, ?_, ?_, k4, k5, ?_, ?_⟩
  · show N 3 i = N 50 i ∧ ∃ k, k ≤ 9 ∧ N 50 i = nI k
    rw [ea 3 (by omega) (by omega) (by omega), ea 50 (by omega) (by omega) (by omega)]
    exact g1 i hi
  · show N 4 i = N 53 i ∧ ∃ k, k ≤ 99 ∧ N 53 i = nI k
    rw [ea 4 (by omega) (by omega) (by omega), e53 i (by omega)]
    exact g2 i hi
  · show N 2 3 = N 49 0 ∧ sB (N 49 0)
    rw [e2 3 (by omega), e49 0]
    exact g3
  · show N 2 4 = N 53 7 ∧ sB (N 53 7)
    rw [e2 4 (by omega), e53 7 (by omega)]
    exact g4
  · show N 2 5 = N 49 2 ∧ _
    rw [e2 5 (by omega), e49 2]
    exact g5
  · show N 2 6 = N 53 9 ∧ _
    rw [e26, e539]
    exact ⟨rfl, d, h2, rfl⟩
  · show N 2 7 = N 53 8 ∧ _
    rw [e2 7 (by omega), e53 8 (by omega)]
    exact g7
  · show N 5 2 = _
    rw [ea 5 (by omega) (by omega) (by omega)]
    exact k1
  · show N 5 3 = _
    rw [ea 5 (by omega) (by omega) (by omega)]
    exact k2
  · rw [e53 10 (by omega)]
    exact k3
  · show cBook wd (N 6) (N 7) T
    rw [ea 6 (by omega) (by omega) (by omega), ea 7 (by omega) (by omega) (by omega)]
    exact k6
  · exact mBook_cong k7 (fun i hi _ => e53 i (by omega))

theorem px_set {M M1 M2 : mM} {r0 r1 : Int32} {x y : Int32} (g : Rel M) (h1 : r0 = (if x = 0 ∧ (1 ≤ y ∧ y ≤ 40) then M 2 5 else if x = 1 ∧ (0 ≤ y ∧ y ≤ 9) then M 2 6 else -2) ∧ M1 = (if x = 0 ∧ (1 ≤ y ∧ y ≤ 40) then mU M 2 5 y else if x = 1 ∧ (0 ≤ y ∧ y ≤ 9) then mU M 2 6 y else M)) (h2 : r1 = (if x = 0 ∧ (1 ≤ y ∧ y ≤ 40) then M1 49 2 else if x = 1 ∧ (0 ≤ y ∧ y ≤ 9) then M1 53 9 else -2) ∧ M2 = (if x = 0 ∧ (1 ≤ y ∧ y ≤ 40) then mU (mU M1 49 2 y) 53 9 (M1 53 9) else if x = 1 ∧ (0 ≤ y ∧ y ≤ 9) then mU (mU M1 49 2 (M1 49 2)) 53 9 y else M1)) : r0 = r1 ∧ Rel M2 := by
  have hM := h1.2
  rw [h1.1, h2.1, h2.2, hM]
  by_cases c1 : x = 0 ∧ (1 ≤ y ∧ y ≤ 40)
  · rw [if_pos c1, if_pos c1, if_pos c1, if_pos c1]
    obtain ⟨d, hd, ed⟩ := ix (n := 40) (by decide) (Int32.le_trans (by decide) c1.2.1) c1.2.2
    have hd1 : 1 ≤ d := (nI_leI (a := 1) (by omega) (by omega)).mp (ed ▸ c1.2.1)
    rw [ed]
    exact ⟨by rw [mU_ne _ (by omega)]; exact R_dp g, Rel_deep g hd1 hd⟩
  · rw [if_neg c1, if_neg c1, if_neg c1, if_neg c1]
    by_cases c2 : x = 1 ∧ (0 ≤ y ∧ y ≤ 9)
    · rw [if_pos c2, if_pos c2, if_pos c2, if_pos c2]
      obtain ⟨d, hd, ed⟩ := ix (n := 9) (by decide) c2.2.1 c2.2.2
      rw [ed]
      exact ⟨by rw [mU_ne _ (by omega)]; exact R_td g, Rel_tide g hd⟩
    · rw [if_neg c2, if_neg c2, if_neg c2, if_neg c2]
      exact ⟨rfl, g⟩

theorem px_close {M M1 M2 : mM} {r0 r1 : Int32}  (g : Rel M) (h1 : r0 = M 5 3 ∧ M1 = mU (mU (mU M 5 2 0) 5 3 0) 2 7 0) (h2 : r1 = M1 53 10 ∧ M2 = mU (mU M1 53 10 0) 53 8 0) : r0 = r1 ∧ Rel M2 := by
  rw [h1.1, h2.1, h2.2, h1.2]
  obtain ⟨g1, g2, g3, g4, g5, g6, g7, wd, nb, T, k1, k2, k3, k4, k5, k6, k7⟩ := R_L g
  refine ⟨by rw [mU_ne _ (by omega), mU_ne _ (by omega), mU_ne _ (by omega)]; exact k2.trans k3.symm, ?_⟩
  generalize hN : mU (mU (mU (mU (mU M 5 2 0) 5 3 0) 2 7 0) 53 10 0) 53 8 0 = N
  have e53 : ∀ i, ¬ i = 8 → ¬ i = 10 → N 53 i = M 53 i := fun i hi hi2 => by
    rw [← hN, mU_o (by omega), mU_o (by omega), mU_ne _ (by omega), mU_ne _ (by omega), mU_ne _ (by omega)]
  have ea : ∀ a, a ≠ 2 → a ≠ 5 → a ≠ 53 → N a = M a := fun a x1 x2 x3 => by
    rw [← hN, mU_ne _ (by omega), mU_ne _ (by omega), mU_ne _ (by omega), mU_ne _ (by omega), mU_ne _ (by omega)]
  have e2 : ∀ i, ¬ i = 7 → N 2 i = M 2 i := fun i hi => by
    rw [← hN, mU_ne _ (by omega), mU_ne _ (by omega), mU_o (by omega), mU_ne _ (by omega), mU_ne _ (by omega)]
  refine Rel_LR g ?_ (fun a h49 ha => ea a (by omega) (by omega) (by omega)) (fun j hj _ => congrFun (ea 49 (by omega) (by omega) (by omega)) j)
  refine ⟨fun i hi => ?_, fun i hi => ?_, ?_, ?_, ?_, ?_, ?_, 0, 0, fun _ => 0, ?_, ?_, ?_, by omega, by omega, (bBook_0 (B := N 53)).1, (bBook_0 (K := N 6) (S := N 7)).2⟩
  · show N 3 i = N 50 i ∧ ∃ k, k ≤ 9 ∧ N 50 i = nI k
    rw [ea 3 (by omega) (by omega) (by omega), ea 50 (by omega) (by omega) (by omega)]
    exact g1 i hi
  · show N 4 i = N 53 i ∧ ∃ k, k ≤ 99 ∧ N 53 i = nI k
    rw [ea 4 (by omega) (by omega) (by omega), e53 i (by omega) (by omega)]
    exact g2 i hi
  · show N 2 3 = N 49 0 ∧ sB (N 49 0)
    rw [e2 3 (by omega), ea 49 (by omega) (by omega) (by omega)]
    exact g3
  · show N 2 4 = N 53 7 ∧ sB (N 53 7)
    rw [e2 4 (by omega), e53 7 (by omega) (by omega)]
    exact g4
  · show N 2 5 = N 49 2 ∧ _
    rw [e2 5 (by omega), ea 49 (by omega) (by omega) (by omega)]
    exact g5
  · show N 2 6 = N 53 9 ∧ _
    rw [e2 6 (by omega), e53 9 (by omega) (by omega)]
    exact g6
  · show N 2 7 = N 53 8 ∧ ∃ k, k ≤ 99 ∧ N 53 8 = nI k
    have e1 : N 2 7 = 0 := by rw [← hN, mU_ne _ (by omega), mU_ne _ (by omega), mU_at]
    have e3 : N 53 8 = 0 := by rw [← hN, mU_at]
    rw [e1, e3]
    exact ⟨rfl, 0, by omega, rfl⟩
  · show N 5 2 = 0
    rw [← hN, mU_ne _ (by omega), mU_ne _ (by omega), mU_ne _ (by omega), mU_o (by omega), mU_at]
  · show N 5 3 = 0
    rw [← hN, mU_ne _ (by omega), mU_ne _ (by omega), mU_ne _ (by omega), mU_at]
  · show N 53 10 = 0
    rw [← hN, mU_o (by omega), mU_at]

/-- what changes the pad alone -/
theorem Rel_P {M N : mM} (g : Rel M) (hp : RelP N) (h : ∀ a, a ≠ 44 → a ≠ 45 → a ≠ 49 → a ≠ 55 → N a = M a) (h49 : ∀ j, j < 8 → N 49 j = M 49 j) : Rel N := by
  obtain ⟨g1, g2, g3, g4⟩ := g
  exact ⟨RelN_cong g1 (fun a ha => h _ (by omega) (by omega) (by omega) (by omega)) (h _ (by omega) (by omega) (by omega) (by omega)) (h _ (by omega) (by omega) (by omega) (by omega)) (h _ (by omega) (by omega) (by omega) (by omega)) (h _ (by omega) (by omega) (by omega) (by omega)) (fun j hj => h49 j (by omega)), hp, Img_cong g3 (fun a ha => h _ (by omega) (by omega) (by omega) (by omega)) (h _ (by omega) (by omega) (by omega) (by omega)) (congrFun (h 60 (by omega) (by omega) (by omega) (by omega)) 0), Img_cong g4 (fun a ha => h _ (by omega) (by omega) (by omega) (by omega)) (h _ (by omega) (by omega) (by omega) (by omega)) (congrFun (h 60 (by omega) (by omega) (by omega) (by omega)) 1)⟩

theorem px_say {M M1 M2 : mM} {r0 r1 : Int32} {x : Int32} {n : Nat} (hn : M 44 1 = nI n) (h60 : n ≤ 60) (hnm : M1 49 8 = nI n) (h60m : n ≤ 60) (g : Rel M) (h1 : r0 = (if 33 ≤ x ∧ x ≤ 126 then (if n < 60 then nI (n + 1) else -4) else -2) ∧ M1 = (if 33 ≤ x ∧ x ≤ 126 then (if n < 60 then mU (mU M 45 n x) 44 1 (nI (n + 1)) else M) else M)) (h2 : r1 = (if 33 ≤ x ∧ x ≤ 126 then (if n < 60 then nI (n + 1) else -4) else -2) ∧ M2 = (if 33 ≤ x ∧ x ≤ 126 then (if n < 60 then mU (mU M1 55 n x) 49 8 (nI (n + 1)) else M1) else M1)) : r0 = r1 ∧ Rel M2 := by
  have hM := h1.2
  rw [h1.1, h2.1, h2.2, hM]
  by_cases hc : 33 ≤ x ∧ x ≤ 126
  · rw [if_pos hc, if_pos hc, if_pos hc]
    refine ⟨rfl, ?_⟩
    by_cases hn60 : n < 60
    · rw [if_pos hn60, if_pos hn60]
      obtain ⟨k, p1, p2, p3, p4⟩ := R_pad g
      have hkn : k = n := (nI_eq (by omega) (by omega)).mp (p1.symm.trans hn)
      rw [hkn] at p4
      refine Rel_P g ⟨n + 1, ?_, ?_, by omega, fun i hi => ?_⟩ (fun a x1 x2 x3 x4 => by rw [mU_ne _ (by omega), mU_ne _ (by omega), mU_ne _ (by omega), mU_ne _ (by omega)]) (fun j hj => by rw [mU_o (by omega), mU_ne _ (by omega), mU_ne _ (by omega), mU_ne _ (by omega)])
      · rw [mU_ne _ (by omega), mU_ne _ (by omega), mU_at]
      · rw [mU_at]
      · rw [mU_ne _ (by omega), mU_ne _ (by omega), mU_ne _ (by omega), mU_ne 55 (by omega)]
        by_cases hin : i = n
        · rw [hin, mU_at, mU_at]
        · rw [mU_o (by omega), mU_o (by omega), mU_ne _ (by omega), mU_ne _ (by omega)]
          exact p4 i (by omega)
    · rw [if_neg hn60, if_neg hn60]
      exact g
  · rw [if_neg hc, if_neg hc, if_neg hc]
    exact ⟨rfl, g⟩

theorem px_wipe {M M1 M2 : mM} {r0 r1 : Int32}  (g : Rel M) (h1 : r0 = M 44 1 ∧ M1 = mU M 44 1 0) (h2 : r1 = M1 49 8 ∧ M2 = mU M1 49 8 0) : r0 = r1 ∧ Rel M2 := by
  rw [h1.1, h2.1, h2.2, h1.2]
  obtain ⟨k, p1, p2, p3, p4⟩ := R_pad g
  refine ⟨by rw [mU_ne _ (by omega)]; exact p1.trans p2.symm, ?_⟩
  refine Rel_P g ⟨0, ?_, ?_, by omega, fun i hi => by omega⟩ (fun a x1 x2 x3 x4 => by rw [mU_ne _ (by omega), mU_ne _ (by omega)]) (fun j hj => by rw [mU_o (by omega), mU_ne _ (by omega)])
  · rw [mU_ne _ (by omega), mU_at]
    rfl
  · rw [mU_at]
    rfl

/-- what changes the sights or the hours alone -/
theorem Rel_S {M N : mM} (g : Rel M) (hO : ∀ i, i < 6 → N 12 i = N 51 i) (hS : ∃ n, N 8 3 = nI n ∧ N 49 4 = nI n ∧ n ≤ 8 ∧ ∀ i, i < n → N 9 i = N 52 (0 + 3 * i) ∧ N 10 i = N 52 (1 + 3 * i) ∧ N 11 i = N 52 (2 + 3 * i) ∧ 1 ≤ N 9 i) (h : ∀ a, ¬ (8 ≤ a ∧ a ≤ 12) → a ≠ 49 → a ≠ 51 → a ≠ 52 → N a = M a) (h49 : ∀ j, j ≠ 4 → N 49 j = M 49 j) : Rel N := by
  obtain ⟨⟨g1, -, -⟩, g2, g3, g4⟩ := g
  refine ⟨⟨?_, hO, hS⟩, RelP_cong g2 (h _ (by omega) (by omega) (by omega) (by omega)) (h _ (by omega) (by omega) (by omega) (by omega)) (h _ (by omega) (by omega) (by omega) (by omega)) (h49 8 (by omega)), Img_cong g3 (fun a ha => h _ (by omega) (by omega) (by omega) (by omega)) (h _ (by omega) (by omega) (by omega) (by omega)) (congrFun (h 60 (by omega) (by omega) (by omega) (by omega)) 0), Img_cong g4 (fun a ha => h _ (by omega) (by omega) (by omega) (by omega)) (h _ (by omega) (by omega) (by omega) (by omega)) (congrFun (h 60 (by omega) (by omega) (by omega) (by omega)) 1)⟩
  have eH : ∀ a, a < 6 → ∀ i, N (1 + (1 + a)) i = M (1 + (1 + a)) i := fun a ha i => congrFun (h _ (by omega) (by omega) (by omega) (by omega)) i
  rw [h 53 (by omega) (by omega) (by omega) (by omega), h 50 (by omega) (by omega) (by omega) (by omega), h49 0 (by omega), h49 2 (by omega)]
  exact LR_cong g1 (fun i _ _ => eH 0 (by omega) i) (fun i _ => eH 1 (by omega) i) (fun i _ => eH 2 (by omega) i) (fun i _ _ => eH 3 (by omega) i) (fun i _ => eH 4 (by omega) i) (fun i _ => eH 5 (by omega) i) (fun _ _ => rfl) (fun _ _ => rfl)

theorem px_hours {M M1 M2 : mM} {r0 r1 : Int32} {x y : Int32} (g : Rel M) (h1 : r0 = (if 0 ≤ x ∧ x ≤ 5 then (if 0 ≤ y ∧ y ≤ 16777215 then M 12 x.toNatClampNeg else -2) else -1) ∧ M1 = (if 0 ≤ x ∧ x ≤ 5 then (if 0 ≤ y ∧ y ≤ 16777215 then mU M 12 x.toNatClampNeg y else M) else M)) (h2 : r1 = (if 0 ≤ x ∧ x ≤ 5 then (if 0 ≤ y ∧ y ≤ 16777215 then M1 51 x.toNatClampNeg else -2) else -1) ∧ M2 = (if 0 ≤ x ∧ x ≤ 5 then (if 0 ≤ y ∧ y ≤ 16777215 then mU M1 51 x.toNatClampNeg y else M1) else M1)) : r0 = r1 ∧ Rel M2 := by
  have hM := h1.2
  rw [h1.1, h2.1, h2.2, hM]
  by_cases hg : 0 ≤ x ∧ x ≤ 5
  · rw [if_pos hg, if_pos hg, if_pos hg, if_pos hg]
    by_cases hc : 0 ≤ y ∧ y ≤ 16777215
    · rw [if_pos hc, if_pos hc, if_pos hc, if_pos hc]
      obtain ⟨k, hk, ek⟩ := ix (n := 5) (by decide) hg.1 hg.2
      rw [ek, nI_clamp (show k < 2 ^ 31 by omega), mU_ne 51 (by omega)]
      refine ⟨R_hr g k (by omega), Rel_S g (fun i hi => ?_) ?_ (fun a x1 x2 x3 x4 => by rw [mU_ne _ (by omega), mU_ne _ (by omega)]) (fun j hj => by rw [mU_ne _ (by omega), mU_ne _ (by omega)])⟩
      · rw [mU_ne 12 (by omega)]
        by_cases hik : i = k
        · rw [hik, mU_at, mU_at]
        · rw [mU_o (by omega), mU_o (by omega), mU_ne 51 (by omega)]
          exact R_hr g i hi
      · rw [mU_ne 8 (by omega), mU_ne 8 (by omega), mU_ne 49 (by omega), mU_ne 49 (by omega), mU_ne 9 (by omega), mU_ne 9 (by omega), mU_ne 10 (by omega), mU_ne 10 (by omega), mU_ne 11 (by omega), mU_ne 11 (by omega), mU_ne 52 (by omega), mU_ne 52 (by omega)]
        exact R_sg g
    · rw [if_neg hc, if_neg hc, if_neg hc, if_neg hc]
      exact ⟨rfl, g⟩
  · rw [if_neg hg, if_neg hg, if_neg hg, if_neg hg]
    exact ⟨rfl, g⟩

theorem px_seen {M M1 M2 : mM} {r0 r1 : Int32} {x y z : Int32} {c : Nat} (hc : M 8 3 = nI c) (hc8 : c ≤ 8) (hcm : M1 49 4 = nI c) (hc8m : c ≤ 8) (g : Rel M) (h1 : r0 = (if ((1 ≤ x ∧ x ≤ 9) ∧ (0 ≤ y ∧ y ≤ 999) ∧ (0 ≤ z ∧ z ≤ 9)) then (if c < 8 then nI (c + 1) else -4) else -2) ∧ M1 = (if ((1 ≤ x ∧ x ≤ 9) ∧ (0 ≤ y ∧ y ≤ 999) ∧ (0 ≤ z ∧ z ≤ 9)) then (if c < 8 then fSeen M c x y z else M) else M)) (h2 : r1 = (if ((1 ≤ x ∧ x ≤ 9) ∧ (0 ≤ y ∧ y ≤ 999) ∧ (0 ≤ z ∧ z ≤ 9)) then (if c < 8 then nI (c + 1) else -4) else -2) ∧ M2 = (if ((1 ≤ x ∧ x ≤ 9) ∧ (0 ≤ y ∧ y ≤ 999) ∧ (0 ≤ z ∧ z ≤ 9)) then (if c < 8 then nSeen M1 c x y z else M1) else M1)) : r0 = r1 ∧ Rel M2 := by
  have hM := h1.2
  rw [h1.1, h2.1, h2.2, hM]
  by_cases hg : (1 ≤ x ∧ x ≤ 9) ∧ (0 ≤ y ∧ y ≤ 999) ∧ (0 ≤ z ∧ z ≤ 9)
  · rw [if_pos hg, if_pos hg, if_pos hg]
    refine ⟨rfl, ?_⟩
    by_cases hn : c < 8
    · rw [if_pos hn, if_pos hn]
      obtain ⟨n, n1, n2, n3, n4⟩ := R_sg g
      have hcn : n = c := (nI_eq (by omega) (by omega)).mp (n1.symm.trans hc)
      rw [hcn] at n4
      generalize hN : nSeen (fSeen M c x y z) c x y z = N
      have ea : ∀ a, ¬ (8 ≤ a ∧ a ≤ 11) → a ≠ 49 → a ≠ 52 → N a = M a := fun a x1 x2 x3 => by
        rw [← hN]
        unfold nSeen fSeen
        rw [mU_ne _ (by omega), mU_ne _ (by omega), mU_ne _ (by omega), mU_ne _ (by omega), mU_ne _ (by omega), mU_ne _ (by omega), mU_ne _ (by omega), mU_ne _ (by omega)]
      have e49 : ∀ j, j ≠ 4 → N 49 j = M 49 j := fun j hj => by
        rw [← hN]
        unfold nSeen fSeen
        rw [mU_o (by omega), mU_ne _ (by omega), mU_ne _ (by omega), mU_ne _ (by omega), mU_ne _ (by omega), mU_ne _ (by omega), mU_ne _ (by omega), mU_ne _ (by omega)]
      have e83 : N 8 3 = nI (c + 1) := by
        rw [← hN]
        unfold nSeen fSeen
        rw [mU_ne _ (by omega), mU_ne _ (by omega), mU_ne _ (by omega), mU_ne _ (by omega), mU_at]
      have e494 : N 49 4 = nI (c + 1) := by
        rw [← hN]
        unfold nSeen
        rw [mU_at]
      have e9 : ∀ i, N 9 i = if i = c then x else M 9 i := fun i => by
        rw [← hN]
        unfold nSeen fSeen
        simp [mU]
      have e10 : ∀ i, N 10 i = if i = c then y else M 10 i := fun i => by
        rw [← hN]
        unfold nSeen fSeen
        simp [mU]
      have e11 : ∀ i, N 11 i = if i = c then z else M 11 i := fun i => by
        rw [← hN]
        unfold nSeen fSeen
        simp [mU]
      have f0 : ∀ i, N 52 (0 + 3 * i) = if i = c then x else M 52 (0 + 3 * i) := fun i => by
        rw [← hN]
        unfold nSeen fSeen
        rw [mU_ne _ (by omega), mU_o (by omega), mU_o (by omega)]
        by_cases hi : i = c
        · rw [if_pos hi, hi, mU_at]
        · rw [if_neg hi, mU_o (by omega), mU_ne _ (by omega), mU_ne _ (by omega), mU_ne _ (by omega), mU_ne _ (by omega)]
      have f1 : ∀ i, N 52 (1 + 3 * i) = if i = c then y else M 52 (1 + 3 * i) := fun i => by
        rw [← hN]
        unfold nSeen fSeen
        rw [mU_ne _ (by omega), mU_o (by omega)]
        by_cases hi : i = c
        · rw [if_pos hi, hi, mU_at]
        · rw [if_neg hi, mU_o (by omega), mU_o (by omega), mU_ne _ (by omega), mU_ne _ (by omega), mU_ne _ (by omega), mU_ne _ (by omega)]
      have f2 : ∀ i, N 52 (2 + 3 * i) = if i = c then z else M 52 (2 + 3 * i) := fun i => by
        rw [← hN]
        unfold nSeen fSeen
        rw [mU_ne _ (by omega)]
        by_cases hi : i = c
        · rw [if_pos hi, hi, mU_at]
        · rw [if_neg hi, mU_o (by omega), mU_o (by omega), mU_o (by omega), mU_ne _ (by omega), mU_ne _ (by omega), mU_ne _ (by omega), mU_ne _ (by omega)]
      refine Rel_S g ?_ ⟨c + 1, e83, e494, by omega, fun i hi => ?_⟩ (fun a x1 x2 x3 x4 => ea a (by omega) x2 x4) e49
      · rw [ea 12 (by omega) (by omega) (by omega), ea 51 (by omega) (by omega) (by omega)]
        exact R_hr g
      · rw [e9, e10, e11, f0, f1, f2]
        by_cases hi2 : i = c
        · rw [if_pos hi2, if_pos hi2, if_pos hi2, if_pos hi2, if_pos hi2, if_pos hi2]
          exact ⟨rfl, rfl, rfl, hg.1.1⟩
        · rw [if_neg hi2, if_neg hi2, if_neg hi2, if_neg hi2, if_neg hi2, if_neg hi2]
          exact n4 i (by omega)
    · rw [if_neg hn, if_neg hn]
      exact g
  · rw [if_neg hg, if_neg hg, if_neg hg]
    exact ⟨rfl, g⟩

theorem px_forget {M M1 M2 : mM} {r0 r1 : Int32}  (g : Rel M) (h1 : r0 = M 8 3 ∧ M1 = mU M 8 3 0) (h2 : r1 = M1 49 4 ∧ M2 = mU M1 49 4 0) : r0 = r1 ∧ Rel M2 := by
  rw [h1.1, h2.1, h2.2, h1.2]
  obtain ⟨n, n1, n2, n3, n4⟩ := R_sg g
  refine ⟨by rw [mU_ne _ (by omega)]; exact n1.trans n2.symm, Rel_S g ?_ ⟨0, ?_, ?_, by omega, fun i hi => by omega⟩ (fun a x1 x2 x3 x4 => by rw [mU_ne _ (by omega), mU_ne _ (by omega)]) (fun j hj => by rw [mU_o (by omega), mU_ne _ (by omega)])⟩
  · rw [mU_ne 12 (by omega), mU_ne 12 (by omega), mU_ne 51 (by omega), mU_ne 51 (by omega)]
    exact R_hr g
  · rw [mU_ne 8 (by omega), mU_at]
    rfl
  · rw [mU_at]
    rfl
