/-! a sitting run by the class and by the model; a day by draws; faults -/
theorem cFl_cong {S S' : Nat → Int32} {n : Nat} (h : ∀ i, i < n → S i = S' i) : ∀ f a, cFl S n f a = cFl S' n f a
  | 0, a => by rw [cFl, cFl]
  | f + 1, a => by
    rw [cFl, cFl]
    by_cases ha : a < n
    · rw [if_pos ha, if_pos ha, h a ha, cFl_cong h f (a + 1), cFl_cong h f (a + 2)]
      by_cases hb : a + 1 < n
      · rw [h (a + 1) hb]
      · rw [if_neg hb, if_neg hb]
    · rw [if_neg ha, if_neg ha]
theorem nAct_y {C : mM} {x y y' : Int32} (h : x = 46 ∨ y = y') : nActW C x y = nActW C x y' ∧ ∀ N : mM, nActM N x y = nActM N x y' := by
  rcases h with h | h
  · refine ⟨?_, fun N => ?_⟩
    · unfold nActW
      rw [if_pos h, if_pos h]
    · unfold nActM
      rw [if_pos h, if_pos h]
  · rw [h]
    exact ⟨rfl, fun _ => rfl⟩
theorem run_pair {S S' : Nat → Int32} {n : Nat} (hn : n ≤ 60) (hS : ∀ i, i < n → S i = S' i) : ∀ f a (A C : mM) t, cFl S n f a = -6 → TR A C → A 46 1 = 0 → A 46 0 = nI t → C 49 11 = nI t → t ≤ a → a ≤ n →
    (fRun S n f a A 46 1 = 0 ∧ (mRun S' n f a C).1 = -6 ∧ TR (fRun S n f a A) (mRun S' n f a C).2 ∧ ∃ t', t' ≤ 60 ∧ fRun S n f a A 46 0 = nI t' ∧ (mRun S' n f a C).2 49 11 = nI t') ∨
    ((¬ fRun S n f a A 46 1 = 0) ∧ (mRun S' n f a C).2 49 10 = fRun S n f a A 46 1 ∧ ∃ t', t' ≤ 60 ∧ fRun S n f a A 46 0 = nI t' ∧ (mRun S' n f a C).1 = nI t')
  | 0, a, A, C, t, _, hT, hy, h0, h11, hta, han => by
    rw [fRun, mRun]
    exact Or.inl ⟨hy, rfl, hT, t, by omega, h0, h11⟩
  | f + 1, a, A, C, t, hfl, hT, hy, h0, h11, hta, han => by
    rw [fRun, mRun]
    by_cases hlt : a < n
    · rw [if_pos hlt, if_pos hlt]
      obtain ⟨hok, hfl2, hnx⟩ := cFl_tok hn hlt hfl
      have hy' : S a = 46 ∨ S' (a + 1) = sg S (a + 1) := by
        by_cases h46 : S a = 46
        · exact Or.inl h46
        · have := hnx h46
          exact Or.inr (by rw [sg_in (by omega), hS _ this])
      rw [← hS a hlt]
      obtain ⟨e1, e2⟩ := nAct_y (C := C) hy'
      obtain ⟨w1, w2, w3⟩ := TR_act hT hok
      rw [e1, e2, w1]
      have hT0 : TR A (mU C 49 10 0) := TR_49 hT (by omega)
      obtain ⟨v1, v2, v3⟩ := TR_act hT0 hok
      have ew : nActW (mU C 49 10 0) (S a) (sg S (a + 1)) = nActW C (S a) (sg S (a + 1)) := by
        unfold nActW
        rw [mU_ne 54 (by omega)]
      rw [ew] at v3
      have c49 : nActM (mU C 49 10 0) (S a) (sg S (a + 1)) 49 = mU C 49 10 0 49 := nActM_ne (by omega)
      have a46 : fActM A (S a) (sg S (a + 1)) 46 = A 46 := fActM_ne (by omega) (by omega) (by omega) (by omega) (by omega)
      rcases w2 with hw | hw
      · rw [if_pos hw, hw, if_neg (Int32.lt_irrefl)]
        have hT1 := v3 hw
        refine run_pair hn hS f (if S a = 46 then a + 1 else a + 2) _ _ (t + 1) hfl2 ?_ ?_ ?_ ?_ ?_ ?_
        · exact TR_49 (TR_49 (TR_congA hT1 (fun b hb => by rw [mU_ne _ (by omega), mU_ne _ (by omega)])) (by omega)) (by omega)
        · rw [mU_o (by omega), mU_at]
        · rw [mU_at, h0, nI_1]
        · rw [mU_at, h11, nI_1]
        · by_cases h46 : S a = 46
          · rw [if_pos h46]
            omega
          · rw [if_neg h46]
            omega
        · by_cases h46 : S a = 46
          · rw [if_pos h46]
            omega
          · rw [if_neg h46]
            have := hnx h46
            omega
      · have hw0 : ¬ nActW C (S a) (sg S (a + 1)) = 0 := fun q => by rw [q] at hw; exact Int32.lt_irrefl hw
        rw [if_neg hw0, if_pos hw]
        refine Or.inr ⟨?_, ?_, t, by omega, ?_, h11⟩
        · rw [mU_at]
          exact hw0
        · rw [mU_at]
          show mU (nActM (mU C 49 10 0) (S a) (sg S (a + 1))) 49 10 (nActW C (S a) (sg S (a + 1))) 49 10 = _
          exact mU_at
        · rw [mU_o (by omega), a46]
          exact h0
    · rw [if_neg hlt, if_neg hlt]
      exact Or.inl ⟨hy, rfl, hT, t, by omega, h0, h11⟩
theorem TR_draw {A C : mM} {n : Nat} (h : TR A C) : TR (fDraw A n) (nDraw C n) := by
  unfold fDraw nDraw
  by_cases h1 : n % 8 < 3
  · rw [if_pos h1, if_pos h1]
    exact (TR_pass h).2
  · rw [if_neg h1, if_neg h1]
    by_cases h2 : n % 8 = 3
    · rw [if_pos h2, if_pos h2]
      exact TR_tide h (by omega)
    · rw [if_neg h2, if_neg h2, TR_why h (by omega)]
      by_cases hw : nWhy (C 54) (n / 8 % 7) (nI (1 + n / 64 % 9)) = 0
      · rw [if_pos hw, if_pos hw]
        exact TR_bub h (by omega) (by omega) (by omega) hw
      · rw [if_neg hw, if_neg hw]
        exact h
theorem day_pair {A C : mM} {s : Nat} (h : TR A C) : ∀ m, (itN dy (s, A) m).1 = (itN ndy (s, C) m).1 ∧ TR (itN dy (s, A) m).2 (itN ndy (s, C) m).2
  | 0 => ⟨rfl, h⟩
  | m + 1 => by
    obtain ⟨h1, h2⟩ := day_pair (s := s) h m
    rw [itN_s, itN_s]
    refine ⟨congrArg lcg h1, ?_⟩
    show TR (fDraw (itN dy (s, A) m).2 (lcg (itN dy (s, A) m).1)) (nDraw (itN ndy (s, C) m).2 (lcg (itN ndy (s, C) m).1))
    rw [h1]
    exact TR_draw h2
/-! frames -/
theorem fRun_ne {S : Nat → Int32} {n b : Nat} (hb : b < 38 ∨ 46 < b ∨ b = 44 ∨ b = 45 ∨ b = 39) : ∀ f a (A : mM), fRun S n f a A b = A b
  | 0, a, A => by rw [fRun]
  | f + 1, a, A => by
    rw [fRun]
    have e : fActM A (S a) (sg S (a + 1)) b = A b := fActM_ne (by omega) (by omega) (by omega) (by omega) (by omega)
    split
    · split
      · rw [fRun_ne hb f, mU_ne _ (by omega), mU_ne _ (by omega), e]
      · rw [mU_ne _ (by omega), e]
    · rfl
theorem mRun_ne {S : Nat → Int32} {n b : Nat} (hb : b ≠ 49) (hb2 : b ≠ 54) : ∀ f a (C : mM), (mRun S n f a C).2 b = C b
  | 0, a, C => by rw [mRun]
  | f + 1, a, C => by
    rw [mRun]
    have e : nActM (mU C 49 10 0) (S a) (S (a + 1)) b = C b := by rw [nActM_ne hb2, mU_ne _ hb]
    split
    · split
      · show mU _ 49 10 _ b = _
        rw [mU_ne _ hb, e]
      · rw [mRun_ne hb hb2 f, mU_ne _ hb, mU_ne _ hb, e]
    · rfl
theorem mRun_49 {S : Nat → Int32} {n j : Nat} (hj : j < 10) : ∀ f a (C : mM), (mRun S n f a C).2 49 j = C 49 j
  | 0, a, C => by rw [mRun]
  | f + 1, a, C => by
    rw [mRun]
    have e : nActM (mU C 49 10 0) (S a) (S (a + 1)) 49 j = C 49 j := by rw [nActM_ne (by omega), mU_o (by omega)]
    split
    · split
      · show mU _ 49 10 _ 49 j = _
        rw [mU_o (by omega), e]
      · rw [mRun_49 hj f, mU_o (by omega), mU_o (by omega), e]
    · rfl
