/-! call by call: words, votes, breaks -/
theorem lA_ok {B : Nat → Int32} {nb : Nat} (h : ∀ i, i < nb → ∃ m, m < 140 ∧ B (11 + 3 * i) = nI m) : ∀ n, n ≤ nb → ∃ lm, lm ≤ 140 ∧ lA B n = nI lm + -1 ∧ ∀ i, i < n → ∀ m, m < 140 → B (11 + 3 * i) = nI m → m < lm
  | 0, _ => ⟨0, by omega, rfl, fun i hi => by omega⟩
  | n + 1, hn => by
    obtain ⟨lm, h1, h2, h3⟩ := lA_ok h n (by omega)
    obtain ⟨m, hm, em⟩ := h n (by omega)
    have e : lA B (n + 1) = lm1 B n (lA B n) := rfl
    rw [e]
    unfold lm1
    rw [h2, em]
    by_cases hc : nI lm + -1 < nI m
    · have h4 := (last_lt lm (by omega) m (by omega)).mp hc
      rw [if_pos hc]
      refine ⟨m + 1, by omega, (pk_m1 m).symm, fun i hi m' hm' q => ?_⟩
      by_cases hin : i = n
      · rw [hin, em] at q
        have := (nI_eq (by omega) (by omega)).mp q
        omega
      · have := h3 i (by omega) m' hm' q
        omega
    · have h4 : ¬ lm ≤ m := fun q => hc ((last_lt lm (by omega) m (by omega)).mpr q)
      rw [if_neg hc]
      refine ⟨lm, h1, rfl, fun i hi m' hm' q => ?_⟩
      by_cases hin : i = n
      · rw [hin, em] at q
        have := (nI_eq (by omega) (by omega)).mp q
        omega
      · exact h3 i (by omega) m' hm' q
/-- the last minute of a book, and what it bounds -/
theorem R_last {M : mM} (g : Rel M) : ∃ nb lm, M 53 10 = nI nb ∧ nb ≤ 32 ∧ lA (M 53) nb = nI lm + -1 ∧ lm ≤ 140 := by
  obtain ⟨wd, nb, T, b1, b2, b3, b4, b5, b6, b7⟩ := R_bk g
  obtain ⟨lm, h1, h2, -⟩ := lA_ok b7.2.2.1 nb (Nat.le_refl _)
  exact ⟨nb, lm, b3, b5, h2, h1⟩
theorem word_scan {Z : Int32 → Int32 → Int32} {T k : Nat → Nat} {wd lm : Nat} {x y : Int32} (hZ : ∀ q, q < 10 * lm → Z (nI (q / 10)) (nI (q % 10)) = nI (T q)) (hm : ∀ i j, i < j → j < wd → k i < k j) (hk2 : ∀ i, i < wd → 1 ≤ T (k i)) (hk3 : ∀ q, 1 ≤ T q → ∃ i, i < wd ∧ k i = q) (hkb : ∀ i, i < wd → k i < 10 * lm) (hT : ∀ q, T q < 1000) (hwd : wd ≤ 32) : ∀ F q r, q + F = 10 * lm → r ≤ wd → (∀ i, i < r → k i < q) → (∀ i, r ≤ i → i < wd → q ≤ k i) → (∀ i, i < r → ¬ x = nI i) → wdR Z x y F q (nI r) = if x = -1 then nI wd else if 0 ≤ x ∧ x.toNatClampNeg < wd then sel3 y (nI (k x.toNatClampNeg / 10)) (nI (k x.toNatClampNeg % 10)) (nI (T (k x.toNatClampNeg))) else -1
  | 0, q, r, h1, h2, h3, h4, h5 => by
    rw [wdR]
    have hr : r = wd := by
      by_cases h : r < wd
      · have a := h4 r (Nat.le_refl _) h
        have b := hkb r h
        omega
      · omega
    by_cases hx : x = -1
    · rw [if_pos hx, if_pos hx, hr]
    · rw [if_neg hx, if_neg hx, if_neg]
      intro c
      obtain ⟨j, hj, e⟩ := nI_of (Int32.not_lt.mpr c.1)
      have c2 := c.2
      rw [e, nI_clamp hj] at c2
      exact h5 j (by omega) e
  | F + 1, q, r, h1, h2, h3, h4, h5 => by
    rw [wdR, hZ q (by omega)]
    by_cases hq : 1 ≤ T q
    · have hTq := hT q
      rw [if_pos (show (0 : Int32) < nI (T q) from nI_lt (a := 0) (by omega) (by omega))]
      obtain ⟨i, hi, ei⟩ := hk3 q hq
      have hri : r = i := by
        by_cases a : i < r
        · have := h3 i a
          omega
        · by_cases b : r = i
          · exact b
          · have c := hm r i (by omega) hi
            have d := h4 r (Nat.le_refl _) (by omega)
            omega
      rw [← hri] at hi ei
      by_cases hx : nI r = x
      · have hne : ¬ x = -1 := fun z => by
          have h7 := nI_pos' (n := r) (by omega)
          rw [hx, z] at h7
          exact absurd h7 (by decide)
        rw [if_pos hx, if_neg hne, ← hx, nI_clamp (show r < 2 ^ 31 by omega), if_pos ⟨nI_pos' (by omega), hi⟩, ei]
      · rw [if_neg hx, nI_1]
        refine word_scan hZ hm hk2 hk3 hkb hT hwd F (q + 1) (r + 1) (by omega) (by omega) (fun i hi2 => ?_) (fun i hi2 hi3 => ?_) (fun i hi2 => ?_)
        · by_cases b : i = r
          · rw [b]
            omega
          · have := h3 i (by omega)
            omega
        · have := hm r i (by omega) hi3
          omega
        · by_cases b : i = r
          · rw [b]
            exact fun z => hx z.symm
          · exact h5 i (by omega)
    · rw [if_neg (show ¬ (0 : Int32) < nI (T q) from by rw [show T q = 0 by omega]; decide)]
      refine word_scan hZ hm hk2 hk3 hkb hT hwd F (q + 1) r (by omega) h2 (fun i hi2 => ?_) (fun i hi2 hi3 => ?_) h5
      · have := h3 i hi2
        omega
      · have a := h4 i hi2 hi3
        have b : k i ≠ q := fun z => hq (z ▸ hk2 i hi3)
        omega
/-- a book's facts in one place -/
theorem R_book {M : mM} (g : Rel M) {wd nb lm : Nat} (hw : M 5 2 = nI wd) (hwd : wd ≤ 32) (hb : M 53 10 = nI nb) (hnb : nb ≤ 32) (hl : lA (M 53) nb = nI lm + -1) (hlm : lm ≤ 140) : ∃ T k : Nat → Nat, (∀ q, q < 10 * lm → sA (M 53) nb (nI (q / 10)) (nI (q % 10)) = nI (T q)) ∧ (∀ i j, i < j → j < wd → k i < k j) ∧ (∀ i, i < wd → 1 ≤ T (k i)) ∧ (∀ q, 1 ≤ T q → ∃ i, i < wd ∧ k i = q) ∧ (∀ i, i < wd → k i < 10 * lm) ∧ (∀ q, T q < 1000) ∧ (∀ i, i < wd → M 6 i = nI (k i) ∧ M 7 i = nI (T (k i))) := by
  obtain ⟨wd', nb', T, b1, b2, b3, b4, b5, ⟨k, c1, c2, c3, c4⟩, m1, m2, m3, m4⟩ := R_bk g
  have ew : wd' = wd := (nI_eq (by omega) (by omega)).mp (b1.symm.trans hw)
  have en : nb' = nb := (nI_eq (by omega) (by omega)).mp (b3.symm.trans hb)
  rw [ew] at c1 c2 c3
  rw [en] at m1 m2 m3 m4
  obtain ⟨lm', l1, l2, l3⟩ := lA_ok m3 nb (Nat.le_refl _)
  have el : lm' = lm := by
    have h : nI lm' + -1 = nI lm + -1 := l2.symm.trans hl
    have h2 : nI lm' = nI lm := by
      have := congrArg (· + (1 : Int32)) h
      simpa [Int32.add_assoc] using this
    exact (nI_eq (by omega) (by omega)).mp h2
  rw [el] at l3
  refine ⟨T, k, fun q hq => ?_, c1, fun i hi => (c2 i hi).2.2, c3, fun i hi => ?_, fun q => ?_, fun i hi => ⟨(c2 i hi).1, (c2 i hi).2.1⟩⟩
  · rw [m1 (q / 10) (q % 10) (by omega) (by omega)]
    congr 2
    omega
  · have h1 := (c2 i hi).2.2
    obtain ⟨j, hj, e⟩ := m4 (k i) h1
    have h14 := c4 _ h1
    have := l3 j hj (k i / 10) (by omega) e
    omega
  · have := m2 q
    omega

theorem px_word {M M1 M2 : mM} {r0 r1 : Int32} {x y : Int32} {wd : Nat} (hw : M 5 2 = nI wd) (hwd : wd ≤ 32) {nb lm : Nat} (hbm : M1 53 10 = nI nb) (hnbm : nb ≤ 32) (hlm : lA (M1 53) nb = nI lm + -1) (hlmm : lm ≤ 140) (g : Rel M) (h1 : r0 = (if 0 ≤ y ∧ y ≤ 2 then (if x = -1 then nI wd else if 0 ≤ x ∧ x.toNatClampNeg < wd then sel3 y (M 6 x.toNatClampNeg / 10) (rem10 (M 6 x.toNatClampNeg)) (M 7 x.toNatClampNeg) else -1) else -2) ∧ M1 = M) (h2 : r1 = (if 0 ≤ y ∧ y ≤ 2 then wdR (sA (M1 53) nb) x y (10 * lm) 0 0 else -2) ∧ M2 = M1) : r0 = r1 ∧ Rel M2 := by
  rw [h1.2] at hbm hlm
  obtain ⟨T, k, e1, e2, e3, e4, e5, e6, e7⟩ := R_book g hw hwd hbm hnbm hlm hlmm
  rw [h1.1, h2.1, h2.2, h1.2]
  refine ⟨?_, g⟩
  by_cases hy : 0 ≤ y ∧ y ≤ 2
  · rw [if_pos hy, if_pos hy]
    have e := word_scan (x := x) (y := y) e1 e2 e3 e4 e5 e6 hwd (10 * lm) 0 0 (by omega) (by omega) (fun i hi => by omega) (fun i hi hi2 => by omega) (fun i hi => by omega)
    refine Eq.trans ?_ e.symm
    by_cases hx : x = -1
    · rw [if_pos hx, if_pos hx]
    · rw [if_neg hx, if_neg hx]
      by_cases hc : 0 ≤ x ∧ x.toNatClampNeg < wd
      · rw [if_pos hc, if_pos hc, (e7 _ hc.2).1, (e7 _ hc.2).2]
        have h14 := e5 _ hc.2
        rw [show nI (k x.toNatClampNeg) / 10 = nI (k x.toNatClampNeg / 10) from pk_div (d := 10) (by omega) (by omega) (by omega), show rem10 (nI (k x.toNatClampNeg)) = nI (k x.toNatClampNeg % 10) from pk_rem (d := 10) (by omega) (by omega) (by omega)]
      · rw [if_neg hc, if_neg hc]
  · rw [if_neg hy, if_neg hy]

theorem itN_add {α : Type} (f : Nat → α → α) (a : α) (m : Nat) : ∀ n, itN f a (m + n) = itN (fun j => f (m + j)) (itN f a m) n
  | 0 => rfl
  | n + 1 => by
    rw [← Nat.add_assoc, itN_s, itN_s, itN_add f a m n]
theorem itN_id {α : Type} {f : Nat → α → α} {a : α} : ∀ n, (∀ i, i < n → ∀ x, f i x = x) → itN f a n = a
  | 0, _ => rfl
  | n + 1, h => by rw [itN_s, itN_id n (fun i hi => h i (by omega)), h n (by omega)]
theorem enumT {α : Type} {T k : Nat → Nat} {wd : Nat} {f : Nat → α → α} (hm : ∀ i j, i < j → j < wd → k i < k j) (hk2 : ∀ i, i < wd → 1 ≤ T (k i)) (hk3 : ∀ q, 1 ≤ T q → ∃ i, i < wd ∧ k i = q) (a : α) : ∀ N, ∃ r, r ≤ wd ∧ (∀ i, i < r → k i < N) ∧ (∀ i, r ≤ i → i < wd → N ≤ k i) ∧ itN (fun q a => if 1 ≤ T q then f q a else a) a N = itN (fun i => f (k i)) a r
  | 0 => ⟨0, by omega, fun i hi => by omega, fun i _ _ => by omega, rfl⟩
  | N + 1 => by
    obtain ⟨r, h2, h3, h4, h5⟩ := enumT (f := f) hm hk2 hk3 a N
    rw [itN_s, h5]
    by_cases hq : 1 ≤ T N
    · rw [if_pos hq]
      obtain ⟨i, hi, ei⟩ := hk3 N hq
      have hri : r = i := by
        by_cases a : i < r
        · have := h3 i a
          omega
        · by_cases b : r = i
          · exact b
          · have c := hm r i (by omega) hi
            have d := h4 r (Nat.le_refl _) (by omega)
            omega
      rw [← hri] at hi ei
      refine ⟨r + 1, by omega, fun i hi2 => ?_, fun i hi2 hi3 => ?_, ?_⟩
      · by_cases b : i = r
        · rw [b]
          omega
        · have := h3 i (by omega)
          omega
      · have := hm r i (by omega) hi3
        omega
      · rw [itN_s, ei]
    · rw [if_neg hq]
      refine ⟨r, h2, fun i hi2 => ?_, fun i hi2 hi3 => ?_, rfl⟩
      · have := h3 i hi2
        omega
      · have a := h4 i hi2 hi3
        have b : k i ≠ N := fun z => hq (z ▸ hk2 i hi3)
        omega
/-- a key counts: of a word, aye or no as asked -/
def qs (T : Nat → Nat) (z : Int32) (q : Nat) (a : Int32) : Int32 := if 1 ≤ T q ∧ (T q ≤ 2 ↔ z = 0) then a + 1 else a
theorem vo_qs {Z : Int32 → Int32 → Int32} {T : Nat → Nat} {z : Int32} {p j : Nat} {a : Int32} (hZ : Z (nI p) (nI j) = nI (T (10 * p + j))) (hT : T (10 * p + j) < 1000) : vo1 Z z (nI p) j a = qs T z (10 * p + j) a := by
  unfold vo1 qs
  rw [hZ, Int32.add_zero]
  generalize T (10 * p + j) = t at hT ⊢
  have e1 : nI t = 1 ↔ t = 1 := nI_eq (b := 1) (by omega) (by omega)
  have e2 : nI t = 2 ↔ t = 2 := nI_eq (b := 2) (by omega) (by omega)
  have e3 : (2 : Int32) < nI t ↔ 2 < t := nI_ltI (a := 2) (by omega) (by omega)
  by_cases h0 : z = 0
  · rw [if_pos h0]
    refine ite_iff ⟨fun q => ?_, fun q => ?_⟩
    · rcases q with q | q
      · have := e1.mp q
        exact ⟨by omega, fun _ => h0, fun _ => by omega⟩
      · have := e2.mp q
        exact ⟨by omega, fun _ => h0, fun _ => by omega⟩
    · have h5 := q.2.mpr h0
      by_cases h6 : t = 1
      · exact Or.inl (e1.mpr h6)
      · exact Or.inr (e2.mpr (by omega))
  · rw [if_neg h0]
    refine ite_iff ⟨fun q => ?_, fun q => ?_⟩
    · have := e3.mp q
      exact ⟨by omega, fun h => by omega, fun h => absurd h h0⟩
    · have h5 : ¬ t ≤ 2 := fun h => h0 (q.2.mp h)
      exact e3.mpr (by omega)
theorem vo_scan {Z : Int32 → Int32 → Int32} {T : Nat → Nat} {z : Int32} {lm : Nat} (hZ : ∀ q, q < 10 * lm → Z (nI (q / 10)) (nI (q % 10)) = nI (T q)) (hT : ∀ q, T q < 1000) : ∀ n i a, (n = 0 ∨ i + n ≤ lm) → voO Z z n i a = itN (fun j => qs T z (10 * i + j)) a (10 * n)
  | 0, i, a, _ => rfl
  | n + 1, i, a, h => by
    have hn : i + (n + 1) ≤ lm := by omega
    have e : voO Z z (n + 1) i a = voO Z z n (i + 1) (itN (vo1 Z z (nI i)) a 10) := by rw [voO]
    rw [e, vo_scan hZ hT n (i + 1) _ (by omega), show 10 * (n + 1) = 10 + 10 * n by omega, itN_add]
    have e2 : itN (vo1 Z z (nI i)) a 10 = itN (fun j => qs T z (10 * i + j)) a 10 := itN_cong 10 (fun j hj b => by
      have h1 := hZ (10 * i + j) (by omega)
      rw [show (10 * i + j) / 10 = i by omega, show (10 * i + j) % 10 = j by omega] at h1
      exact vo_qs h1 (hT _))
    rw [e2]
    refine itN_cong _ (fun j hj b => ?_)
    show qs T z (10 * (i + 1) + j) b = qs T z (10 * i + (10 + j)) b
    rw [show 10 * (i + 1) + j = 10 * i + (10 + j) by omega]
theorem bI_eqI {p q : Prop} [Decidable p] [Decidable q] : bI p = bI q ↔ (p ↔ q) := by
  unfold bI
  by_cases hp1 : p
  · by_cases hq : q
    · rw [if_pos hp1, if_pos hq]
      exact ⟨fun _ => ⟨fun _ => hq, fun _ => hp1⟩, fun _ => rfl⟩
    · rw [if_pos hp1, if_neg hq]
      exact ⟨fun h => absurd h (by decide), fun h => absurd (h.mp hp1) hq⟩
  · by_cases hq : q
    · rw [if_neg hp1, if_pos hq]
      exact ⟨fun h => absurd h (by decide), fun h => absurd (h.mpr hq) hp1⟩
    · rw [if_neg hp1, if_neg hq]
      exact ⟨fun _ => ⟨fun h => absurd h hp1, fun h => absurd h hq⟩, fun _ => rfl⟩
theorem votes_eq {K S : Nat → Int32} {Z : Int32 → Int32 → Int32} {T k : Nat → Nat} {wd lm xx yy : Nat} {z : Int32} (hZ : ∀ q, q < 10 * lm → Z (nI (q / 10)) (nI (q % 10)) = nI (T q)) (hm : ∀ i j, i < j → j < wd → k i < k j) (hk2 : ∀ i, i < wd → 1 ≤ T (k i)) (hk3 : ∀ q, 1 ≤ T q → ∃ i, i < wd ∧ k i = q) (hkb : ∀ i, i < wd → k i < 10 * lm) (hT : ∀ q, T q < 1000) (hK : ∀ i, i < wd → K i = nI (k i) ∧ S i = nI (T (k i))) (hlm : lm ≤ 140) (hx : xx ≤ 999) (hy : yy ≤ 999) : itN (vt K S (nI xx) (nI yy) (bI (z = 0))) 0 wd = voO Z z (min (yy + 1) lm - xx) xx 0 := by
  rw [vo_scan hZ hT _ _ _ (by omega)]
  obtain ⟨r, r1, r2, r3, r4⟩ := enumT (T := T) (k := k) (wd := wd) (f := fun q a => if (xx ≤ q / 10 ∧ q / 10 ≤ yy) ∧ (T q ≤ 2 ↔ z = 0) then a + 1 else a) hm hk2 hk3 (0 : Int32) (10 * lm)
  have hr : r = wd := by
    by_cases h : r < wd
    · have a := r3 r (Nat.le_refl _) h
      have b := hkb r h
      omega
    · omega
  rw [hr] at r4
  have e1 : itN (vt K S (nI xx) (nI yy) (bI (z = 0))) 0 wd = itN (fun i a => if (xx ≤ k i / 10 ∧ k i / 10 ≤ yy) ∧ (T (k i) ≤ 2 ↔ z = 0) then a + 1 else a) 0 wd := itN_cong wd (fun i hi a => by
    obtain ⟨k1, k2⟩ := hK i hi
    have hb := hkb i hi
    have hb2 := hT (k i)
    unfold vt
    rw [k1, k2, show nI (k i) / 10 = nI (k i / 10) from pk_div (d := 10) (by omega) (by omega) (by omega)]
    have e2 : nI (T (k i)) ≤ 2 ↔ T (k i) ≤ 2 := nI_leI (b := 2) (by omega) (by omega)
    exact ite_iff (by rw [nI_leI (by omega) (by omega), nI_leI (by omega) (by omega), bI_eqI, e2]))
  rw [e1]
  refine Eq.trans r4.symm ?_
  by_cases hn : xx < min (yy + 1) lm
  · have hsplit : 10 * lm = 10 * xx + (10 * (min (yy + 1) lm - xx) + (10 * lm - 10 * min (yy + 1) lm)) := by omega
    rw [hsplit, itN_add, itN_add]
    rw [itN_id (10 * lm - 10 * min (yy + 1) lm) (fun j hj a => ?_)]
    · rw [itN_id (10 * xx) (fun j hj a => ?_)]
      · refine itN_cong _ (fun j hj a => ?_)
        show (if 1 ≤ T (10 * xx + j) then (if (xx ≤ (10 * xx + j) / 10 ∧ (10 * xx + j) / 10 ≤ yy) ∧ (T (10 * xx + j) ≤ 2 ↔ z = 0) then a + 1 else a) else a) = qs T z (10 * xx + j) a
        unfold qs
        by_cases h1 : 1 ≤ T (10 * xx + j)
        · rw [if_pos h1]
          exact ite_iff ⟨fun q => ⟨h1, q.2⟩, fun q => ⟨⟨by omega, by omega⟩, q.2⟩⟩
        · rw [if_neg h1, if_neg (fun q => h1 q.1)]
      · show (if 1 ≤ T j then (if (xx ≤ j / 10 ∧ j / 10 ≤ yy) ∧ (T j ≤ 2 ↔ z = 0) then a + 1 else a) else a) = a
        rw [if_neg (show ¬ ((xx ≤ j / 10 ∧ j / 10 ≤ yy) ∧ (T j ≤ 2 ↔ z = 0)) from fun q => by have := q.1.1; omega)]
        exact ite_self a
    · show (if 1 ≤ T (10 * xx + (10 * (min (yy + 1) lm - xx) + j)) then (if (xx ≤ (10 * xx + (10 * (min (yy + 1) lm - xx) + j)) / 10 ∧ (10 * xx + (10 * (min (yy + 1) lm - xx) + j)) / 10 ≤ yy) ∧ (T (10 * xx + (10 * (min (yy + 1) lm - xx) + j)) ≤ 2 ↔ z = 0) then a + 1 else a) else a) = a
      rw [if_neg (show ¬ ((xx ≤ (10 * xx + (10 * (min (yy + 1) lm - xx) + j)) / 10 ∧ (10 * xx + (10 * (min (yy + 1) lm - xx) + j)) / 10 ≤ yy) ∧ (T (10 * xx + (10 * (min (yy + 1) lm - xx) + j)) ≤ 2 ↔ z = 0)) from fun q => by have := q.1.2; omega)]
      exact ite_self a
  · rw [show min (yy + 1) lm - xx = 0 by omega, itN_id (10 * lm) (fun j hj a => ?_)]
    · rfl
    · show (if 1 ≤ T j then (if (xx ≤ j / 10 ∧ j / 10 ≤ yy) ∧ (T j ≤ 2 ↔ z = 0) then a + 1 else a) else a) = a
      rw [if_neg (show ¬ ((xx ≤ j / 10 ∧ j / 10 ≤ yy) ∧ (T j ≤ 2 ↔ z = 0)) from fun q => by have := q.1.1; have := q.1.2; omega)]
      exact ite_self a

theorem px_votes {M M1 M2 : mM} {r0 r1 : Int32} {x y z : Int32} {wd : Nat} (hw : M 5 2 = nI wd) (hwd : wd ≤ 32) {nb lm : Nat} (hbm : M1 53 10 = nI nb) (hnbm : nb ≤ 32) (hlm : lA (M1 53) nb = nI lm + -1) (hlmm : lm ≤ 140) (g : Rel M) (h1 : r0 = (if ((0 ≤ x ∧ x ≤ 999) ∧ (0 ≤ y ∧ y ≤ 999) ∧ (0 ≤ z ∧ z ≤ 1)) then itN (vt (M 6) (M 7) x y (bI (z = 0))) 0 wd else -2) ∧ M1 = M) (h2 : r1 = (if ((0 ≤ x ∧ x ≤ 999) ∧ (0 ≤ y ∧ y ≤ 999) ∧ (0 ≤ z ∧ z ≤ 1)) then voO (sA (M1 53) nb) z (min (y.toNatClampNeg + 1) lm - x.toNatClampNeg) x.toNatClampNeg 0 else -2) ∧ M2 = M1) : r0 = r1 ∧ Rel M2 := by
  rw [h1.2] at hbm hlm
  obtain ⟨T, k, e1, e2, e3, e4, e5, e6, e7⟩ := R_book g hw hwd hbm hnbm hlm hlmm
  rw [h1.1, h2.1, h2.2, h1.2]
  refine ⟨?_, g⟩
  by_cases hc : (0 ≤ x ∧ x ≤ 999) ∧ (0 ≤ y ∧ y ≤ 999) ∧ (0 ≤ z ∧ z ≤ 1)
  · rw [if_pos hc, if_pos hc]
    obtain ⟨xx, hx, ex⟩ := ix (n := 999) (by decide) hc.1.1 hc.1.2
    obtain ⟨yy, hy, ey⟩ := ix (n := 999) (by decide) hc.2.1.1 hc.2.1.2
    rw [ex, ey, nI_clamp (show xx < 2 ^ 31 by omega), nI_clamp (show yy < 2 ^ 31 by omega)]
    exact votes_eq e1 e2 e3 e4 e5 e6 e7 hlmm hx hy
  · rw [if_neg hc, if_neg hc]

theorem itN_ne {a : Nat} {f : Nat → mM → mM} (h : ∀ i (A : mM), f i A a = A a) (A : mM) : ∀ n, itN f A n a = A a
  | 0 => rfl
  | n + 1 => by rw [itN_s, h, itN_ne h A n]
theorem bkA_ne {A : mM} {a : Nat} (h : a ≠ 57) (h2 : a ≠ 58) : bkA A a = A a := by
  exact (itN_ne (f := bk3) (fun i B => mU_ne a h) _ 9).trans ((itN_ne (f := bk2) (fun i B => (mU_ne a h2).trans (mU_ne a h2)) _ 9).trans (itN_ne (f := bk1) (fun i B => mU_ne a h2) A 9))
theorem bkW_ne {z : Int32} {m v : Nat} {A : mM} {a : Nat} (h : a ≠ 57) (h2 : a ≠ 58) : bkW z m v A a = A a := by
  refine (itN_ne (f := bkJ v) (fun i B => ?_) _ m).trans (itN_ne (f := bkZ z) (fun i B => mU_ne a h) A 9)
  unfold bkJ
  split
  · exact bkA_ne h h2
  · rfl
theorem smP_ne {z t u : Int32} {m : Nat} {A : mM} {a : Nat} (h : a ≠ 57) (h2 : a ≠ 58) : ∀ n, (smP z t u m A n).2 a = A a
  | 0 => rfl
  | n + 1 => (bkW_ne h h2).trans (smP_ne h h2 n)

theorem px_breaks {M M1 M2 : mM} {r0 r1 : Int64} {x y z u v : Int32} (hgm : ((1 ≤ x ∧ x ≤ 9) ∧ (0 ≤ y ∧ y ≤ 6) ∧ (0 ≤ z ∧ z ≤ 10) ∧ (0 ≤ u ∧ u ≤ 1) ∧ (0 ≤ v ∧ v ≤ 1)) → ¬ gcG 64 (smP x z u y.toNatClampNeg M1 (2 ^ y.toNatClampNeg)).1 (tenP y.toNatClampNeg) = 0) {J : mJ} (g : Rel M) (h1 : r0 = (if ((1 ≤ x ∧ x ≤ 9) ∧ (0 ≤ y ∧ y ≤ 6) ∧ (0 ≤ z ∧ z ≤ 10) ∧ (0 ≤ u ∧ u ≤ 1) ∧ (0 ≤ v ∧ v ≤ 1)) then brT x y z u v (cbAll z J y.toNatClampNeg 48) else -1000000000000000002) ∧ M1 = M) (h2 : r1 = (if ((1 ≤ x ∧ x ≤ 9) ∧ (0 ≤ y ∧ y ≤ 6) ∧ (0 ≤ z ∧ z ≤ 10) ∧ (0 ≤ u ∧ u ≤ 1) ∧ (0 ≤ v ∧ v ≤ 1)) then (if v = 0 then (smP x z u y.toNatClampNeg M1 (2 ^ y.toNatClampNeg)).1 / gcG 64 (smP x z u y.toNatClampNeg M1 (2 ^ y.toNatClampNeg)).1 (tenP y.toNatClampNeg) else tenP y.toNatClampNeg / gcG 64 (smP x z u y.toNatClampNeg M1 (2 ^ y.toNatClampNeg)).1 (tenP y.toNatClampNeg)) else -1000000000000000002) ∧ M2 = (if ((1 ≤ x ∧ x ≤ 9) ∧ (0 ≤ y ∧ y ≤ 6) ∧ (0 ≤ z ∧ z ≤ 10) ∧ (0 ≤ u ∧ u ≤ 1) ∧ (0 ≤ v ∧ v ≤ 1)) then (smP x z u y.toNatClampNeg M1 (2 ^ y.toNatClampNeg)).2 else M1)) : r0 = r1 ∧ Rel M2 := by
  have hM := h1.2
  rw [h1.1, h2.1, h2.2, hM]
  by_cases hc : (1 ≤ x ∧ x ≤ 9) ∧ (0 ≤ y ∧ y ≤ 6) ∧ (0 ≤ z ∧ z ≤ 10) ∧ (0 ≤ u ∧ u ≤ 1) ∧ (0 ≤ v ∧ v ≤ 1)
  · rw [if_pos hc, if_pos hc, if_pos hc]
    exact ⟨(br_eq (M := M) (J := J) hc).2, Rel_cong g (fun a h49 ha => smP_ne (by omega) (by omega) _) (fun j hj => congrFun (smP_ne (by omega) (by omega) _) j)⟩
  · rw [if_neg hc, if_neg hc, if_neg hc]
    exact ⟨rfl, g⟩
