/-! the book: words in order against bubbles as they came -/
def upT (T : Nat → Nat) (q z : Nat) : Nat → Nat := fun r => if r = q then T r + z else T r
theorem upT_s {T : Nat → Nat} {q z : Nat} : upT T q z q = T q + z := if_pos rfl
theorem upT_o {T : Nat → Nat} {q z r : Nat} (h : ¬ r = q) : upT T q z r = T r := if_neg h
/-- words with keys K and sizes S, wd of them, tell what T says of each key -/
def cBook (wd : Nat) (K S : Nat → Int32) (T : Nat → Nat) : Prop := ∃ k : Nat → Nat, (∀ i j, i < j → j < wd → k i < k j) ∧ (∀ i, i < wd → K i = nI (k i) ∧ S i = nI (T (k i)) ∧ 1 ≤ T (k i)) ∧ (∀ q, 1 ≤ T q → ∃ i, i < wd ∧ k i = q) ∧ ∀ q, 1 ≤ T q → q < 1400
def mBook (nb : Nat) (B : Nat → Int32) (T : Nat → Nat) : Prop := (∀ x y, x < 140 → y < 10 → sA B nb (nI x) (nI y) = nI (T (10 * x + y))) ∧ (∀ q, T q ≤ 9 * nb) ∧ (∀ i, i < nb → ∃ m, m < 140 ∧ B (11 + 3 * i) = nI m) ∧ (∀ q, 1 ≤ T q → ∃ i, i < nb ∧ B (11 + 3 * i) = nI (q / 10))
theorem fat_lo {K : Nat → Int32} {key : Int32} : ∀ n i r, i ≤ r → r < fat K key n i → K r < key
  | 0, i, r, h1, h2 => by
    rw [fat] at h2
    omega
  | n + 1, i, r, h1, h2 => by
    rw [fat] at h2
    by_cases h : K i < key
    · rw [if_pos h] at h2
      by_cases hr : r = i
      · rw [hr]
        exact h
      · exact fat_lo n (i + 1) r (by omega) h2
    · rw [if_neg h] at h2
      omega
theorem fat_hi {K : Nat → Int32} {key : Int32} : ∀ n i, fat K key n i < i + n → ¬ K (fat K key n i) < key
  | 0, i, h => by
    rw [fat] at h
    omega
  | n + 1, i, h => by
    rw [fat] at h ⊢
    by_cases hc : K i < key
    · rw [if_pos hc] at h ⊢
      exact fat_hi n (i + 1) (by omega)
    · rw [if_neg hc]
      exact hc
theorem fAddA {M : mM} {wd : Nat} {key z : Int32} {j : Nat} (h : ¬ (j = wd ∨ ¬ M 42 j = key)) : fAdd0 M wd key z j = mU (mU M 43 j (M 43 j + z)) 41 3 (M 41 3 + 1) := by
  unfold fAdd0
  simp only [if_neg h]
theorem fAddB {M : mM} {wd : Nat} {key z : Int32} {j : Nat} (h : j = wd ∨ ¬ M 42 j = key) : fAdd0 M wd key z j = mU (mU (mU (mU (mU (rmS M j) 41 2 (M 41 2 + 1)) 42 j key) 43 j 0) 43 j (0 + z)) 41 3 (M 41 3 + 1) := by
  unfold fAdd0
  simp only [if_pos h]
  rw [mU_at]
theorem cB_same {wd : Nat} {K S S' : Nat → Int32} {T : Nat → Nat} {k0 z j : Nat} (hc : cBook wd K S T) (hj : j < wd) (hkj : K j = nI k0) (h0 : k0 < 1400) (hS : ∀ i, i < wd → S' i = if i = j then S j + nI z else S i) : cBook wd K S' (upT T k0 z) := by
  obtain ⟨k, h1, h2, h3, h4⟩ := hc
  have hb : ∀ i, i < wd → k i < 1400 := fun i hi => h4 _ (h2 i hi).2.2
  have ej : k j = k0 := (nI_eq (by have := hb j hj; omega) (by omega)).mp ((h2 j hj).1.symm.trans hkj)
  refine ⟨k, h1, fun i hi => ?_, fun q hq => ?_, fun q hq => ?_⟩
  · obtain ⟨a1, a2, a3⟩ := h2 i hi
    rw [hS i hi]
    by_cases hij : i = j
    · rw [if_pos hij, hij, ej, upT_s]
      rw [hij, ej] at a1 a2 a3
      exact ⟨a1, by rw [a2, nI_add], by omega⟩
    · have hne : ¬ k i = k0 := by
        intro q
        rcases Nat.lt_or_gt_of_ne hij with h | h
        · have := h1 i j h hj
          omega
        · have := h1 j i h hi
          omega
      rw [if_neg hij, upT_o hne]
      exact ⟨a1, a2, a3⟩
  · by_cases hq0 : q = k0
    · exact ⟨j, hj, ej.trans hq0.symm⟩
    · rw [upT_o hq0] at hq
      exact h3 q hq
  · by_cases hq0 : q = k0
    · omega
    · rw [upT_o hq0] at hq
      exact h4 q hq
theorem cB_new {wd : Nat} {K S K' S' : Nat → Int32} {T : Nat → Nat} {k0 z j : Nat} (hc : cBook wd K S T) (hj : j ≤ wd) (hlo : ∀ i, i < j → K i < nI k0) (hhi : j < wd → nI k0 < K j) (h0 : k0 < 1400) (hz : 1 ≤ z) (hK : ∀ i, i < wd + 1 → K' i = if i = j then nI k0 else if i < j then K i else K (i - 1)) (hS : ∀ i, i < wd + 1 → S' i = if i = j then nI z else if i < j then S i else S (i - 1)) : cBook (wd + 1) K' S' (upT T k0 z) := by
  obtain ⟨k, h1, h2, h3, h4⟩ := hc
  have hb : ∀ i, i < wd → k i < 1400 := fun i hi => h4 _ (h2 i hi).2.2
  have lo : ∀ i, i < j → k i < k0 := fun i hi => by
    have h := hlo i hi
    rw [(h2 i (by omega)).1] at h
    exact (nI_ltI (by have := hb i (by omega); omega) (by omega)).mp h
  have hi' : ∀ i, j ≤ i → i < wd → k0 < k i := fun i hji hi => by
    have h := hhi (by omega)
    rw [(h2 j (by omega)).1] at h
    have h5 := (nI_ltI (by omega) (by have := hb j (by omega); omega)).mp h
    by_cases e : i = j
    · rw [e]
      exact h5
    · have := h1 j i (by omega) hi
      omega
  have hT0 : T k0 = 0 := by
    by_cases h : 1 ≤ T k0
    · obtain ⟨i, hi, e⟩ := h3 k0 h
      by_cases hij : i < j
      · have := lo i hij
        omega
      · have := hi' i (by omega) hi
        omega
    · omega
  refine ⟨fun i => if i = j then k0 else if i < j then k i else k (i - 1), fun a b hab hbw => ?_, fun i hi => ?_, fun q hq => ?_, fun q hq => ?_⟩
  · show (if a = j then k0 else if a < j then k a else k (a - 1)) < (if b = j then k0 else if b < j then k b else k (b - 1))
    by_cases ha : a = j
    · rw [if_pos ha, if_neg (show ¬ b = j by omega), if_neg (show ¬ b < j by omega)]
      exact hi' (b - 1) (by omega) (by omega)
    · rw [if_neg ha]
      by_cases ha2 : a < j
      · rw [if_pos ha2]
        by_cases hb1 : b = j
        · rw [if_pos hb1]
          exact lo a ha2
        · rw [if_neg hb1]
          by_cases hb2 : b < j
          · rw [if_pos hb2]
            exact h1 a b hab (by omega)
          · rw [if_neg hb2]
            exact h1 a (b - 1) (by omega) (by omega)
      · rw [if_neg ha2, if_neg (show ¬ b = j by omega), if_neg (show ¬ b < j by omega)]
        exact h1 (a - 1) (b - 1) (by omega) (by omega)
  · show K' i = nI (if i = j then k0 else if i < j then k i else k (i - 1)) ∧ S' i = nI (upT T k0 z (if i = j then k0 else if i < j then k i else k (i - 1))) ∧ 1 ≤ upT T k0 z (if i = j then k0 else if i < j then k i else k (i - 1))
    rw [hK i hi, hS i hi]
    by_cases ha : i = j
    · rw [if_pos ha, if_pos ha, if_pos ha, upT_s, hT0]
      exact ⟨rfl, by rw [Nat.zero_add], by omega⟩
    · rw [if_neg ha, if_neg ha, if_neg ha]
      by_cases ha2 : i < j
      · rw [if_pos ha2, if_pos ha2, if_pos ha2, upT_o (by have := lo i ha2; omega)]
        exact h2 i (by omega)
      · rw [if_neg ha2, if_neg ha2, if_neg ha2, upT_o (by have := hi' (i - 1) (by omega) (by omega); omega)]
        exact h2 (i - 1) (by omega)
  · by_cases hq0 : q = k0
    · exact ⟨j, by omega, by rw [hq0]; exact if_pos rfl⟩
    · rw [upT_o hq0] at hq
      obtain ⟨i, hi, e⟩ := h3 q hq
      by_cases hij : i < j
      · exact ⟨i, by omega, by
          show (if i = j then k0 else if i < j then k i else k (i - 1)) = q
          rw [if_neg (by omega), if_pos hij]
          exact e⟩
      · exact ⟨i + 1, by omega, by
          show (if i + 1 = j then k0 else if i + 1 < j then k (i + 1) else k (i + 1 - 1)) = q
          rw [if_neg (by omega), if_neg (by omega)]
          exact e⟩
  · by_cases hq0 : q = k0
    · omega
    · rw [upT_o hq0] at hq
      exact h4 q hq
theorem fAdd_book {M : mM} {wd nb k0 z : Nat} {T : Nat → Nat} (hw : M 41 2 = nI wd) (hb : M 41 3 = nI nb) (hwb : wd ≤ nb) (hn : nb < 32) (hc : cBook wd (M 42) (M 43) T) (h0 : k0 < 1400) (hz : 1 ≤ z) : ∃ wd', fAdd M (nI k0) (nI z) 41 2 = nI wd' ∧ fAdd M (nI k0) (nI z) 41 3 = nI (nb + 1) ∧ wd' ≤ nb + 1 ∧ cBook wd' (fAdd M (nI k0) (nI z) 42) (fAdd M (nI k0) (nI z) 43) (upT T k0 z) := by
  rw [fAdd_eq hw (by omega)]
  have hle := (fat_le (M 42) (nI k0) wd 0).1
  have hlo := fat_lo (K := M 42) (key := nI k0) wd 0
  have hhi := fat_hi (K := M 42) (key := nI k0) wd 0
  generalize fat (M 42) (nI k0) wd 0 = j at hle hlo hhi ⊢
  by_cases h : j = wd ∨ ¬ M 42 j = nI k0
  · rw [fAddB h]
    refine ⟨wd + 1, ?_, ?_, by omega, ?_⟩
    · rw [mU_o (by omega), mU_ne _ (by omega), mU_ne _ (by omega), mU_ne _ (by omega), mU_at, hw, nI_1]
    · rw [mU_at, hb, nI_1]
    · refine cB_new hc (by omega) (fun i hi => hlo i (by omega) hi) (fun hj => ?_) h0 hz (fun i hi => ?_) (fun i hi => ?_)
      · have h1 := hhi (by omega)
        rcases h with h | h
        · omega
        · exact Int32.lt_of_le_of_ne (Int32.not_lt.mp h1) (fun q => h q.symm)
      · rw [mU_ne _ (by omega), mU_ne _ (by omega), mU_ne _ (by omega)]
        by_cases hij : i = j
        · rw [if_pos hij, hij, mU_at]
        · rw [if_neg hij, mU_o (by omega), mU_ne _ (by omega)]
          unfold rmS
          by_cases hij2 : i < j
          · rw [if_pos hij2, if_neg (by omega)]
          · rw [if_neg hij2, if_pos (by omega)]
      · rw [mU_ne _ (by omega)]
        by_cases hij : i = j
        · rw [if_pos hij, hij, mU_at, Int32.zero_add]
        · rw [if_neg hij, mU_o (by omega), mU_o (by omega), mU_ne _ (by omega), mU_ne _ (by omega)]
          unfold rmS
          by_cases hij2 : i < j
          · rw [if_pos hij2, if_neg (by omega)]
          · rw [if_neg hij2, if_pos (by omega)]
  · rw [fAddA h]
    have hj : j < wd := by
      have : ¬ j = wd := fun q => h (Or.inl q)
      omega
    have hk : M 42 j = nI k0 := Decidable.byContradiction (fun q => h (Or.inr q))
    refine ⟨wd, ?_, ?_, by omega, ?_⟩
    · rw [mU_o (by omega), mU_ne _ (by omega), hw]
    · rw [mU_at, hb, nI_1]
    · have e42 : mU (mU M 43 j (M 43 j + nI z)) 41 3 (M 41 3 + 1) 42 = M 42 := by
        rw [mU_ne _ (by omega), mU_ne _ (by omega)]
      rw [e42]
      refine cB_same hc hj hk h0 (fun i hi => ?_)
      rw [mU_ne _ (by omega)]
      by_cases hij : i = j
      · rw [if_pos hij, hij, mU_at]
      · rw [if_neg hij, mU_o (by omega)]
theorem mBook_add {nb : Nat} {B B' : Nat → Int32} {T : Nat → Nat} {m p z : Nat} (h : mBook nb B T) (hB : ∀ i, 11 ≤ i → i < 11 + 3 * nb → B' i = B i) (h1 : B' (11 + 3 * nb) = nI m) (h2 : B' (12 + 3 * nb) = nI p) (h3 : B' (13 + 3 * nb) = nI z) (hm : m < 140) (hp10 : p < 10) (hz : z ≤ 9) : mBook (nb + 1) B' (upT T (m * 10 + p) z) := by
  obtain ⟨g1, g2, g3, g4⟩ := h
  refine ⟨fun x y hx hy => ?_, fun q => ?_, fun i hi => ?_, fun q hq => ?_⟩
  · have e : sA B' nb (nI x) (nI y) = sA B nb (nI x) (nI y) := itN_cong nb (fun i hi a => by
      unfold sz1
      rw [hB (11 + 3 * i) (by omega) (by omega), hB (12 + 3 * i) (by omega) (by omega), hB (13 + 3 * i) (by omega) (by omega)])
    have e2 : sA B' (nb + 1) (nI x) (nI y) = sz1 B' (nI x) (nI y) nb (sA B' nb (nI x) (nI y)) := rfl
    rw [e2, e, g1 x y hx hy]
    unfold sz1
    rw [h1, h2, h3]
    by_cases hc : m = x ∧ p = y
    · rw [if_pos ⟨by rw [hc.1], by rw [hc.2]⟩, hc.1, hc.2, show x * 10 + y = 10 * x + y by omega, upT_s, nI_add]
    · rw [if_neg (fun q => hc ⟨(nI_eq (by omega) (by omega)).mp q.1, (nI_eq (by omega) (by omega)).mp q.2⟩), upT_o (by omega), Int32.add_zero]
  · have := g2 q
    unfold upT
    by_cases hc : q = m * 10 + p
    · rw [if_pos hc]
      omega
    · rw [if_neg hc]
      omega
  · by_cases hin : i = nb
    · exact ⟨m, hm, by rw [hin]; exact h1⟩
    · rw [hB (11 + 3 * i) (by omega) (by omega)]
      exact g3 i (by omega)
  · by_cases hc : q = m * 10 + p
    · refine ⟨nb, by omega, ?_⟩
      rw [h1, hc]
      congr 1
      omega
    · rw [upT_o hc] at hq
      obtain ⟨i, hi, e⟩ := g4 q hq
      exact ⟨i, by omega, by rw [hB (11 + 3 * i) (by omega) (by omega)]; exact e⟩
theorem bBook_0 {K S B : Nat → Int32} : cBook 0 K S (fun _ => 0) ∧ mBook 0 B (fun _ => 0) :=
  ⟨⟨fun _ => 0, fun i j _ h => by omega, fun i h => by omega, fun q (h : 1 ≤ 0) => by omega, fun q (h : 1 ≤ 0) => by omega⟩, fun x y _ _ => rfl, fun q => Nat.zero_le _, fun i h => by omega, fun q (h : 1 ≤ 0) => by omega⟩
theorem cBook_cong {wd : Nat} {K S K' S' : Nat → Int32} {T : Nat → Nat} (h : cBook wd K S T) (hK : ∀ i, i < wd → K' i = K i) (hS : ∀ i, i < wd → S' i = S i) : cBook wd K' S' T := by
  obtain ⟨k, h1, h2, h3, h4⟩ := h
  exact ⟨k, h1, fun i hi => by rw [hK i hi, hS i hi]; exact h2 i hi, h3, h4⟩
theorem mBook_cong {nb : Nat} {B B' : Nat → Int32} {T : Nat → Nat} (h : mBook nb B T) (hB : ∀ i, 11 ≤ i → i < 11 + 3 * nb → B' i = B i) : mBook nb B' T := by
  obtain ⟨g1, g2, g3, g4⟩ := h
  refine ⟨fun x y hx hy => ?_, g2, fun i hi => by rw [hB _ (by omega) (by omega)]; exact g3 i hi, fun q hq => ?_⟩
  · rw [← g1 x y hx hy]
    exact itN_cong nb (fun i hi a => by
      unfold sz1
      rw [hB (11 + 3 * i) (by omega) (by omega), hB (12 + 3 * i) (by omega) (by omega), hB (13 + 3 * i) (by omega) (by omega)])
  · obtain ⟨i, hi, e⟩ := g4 q hq
    exact ⟨i, hi, by rw [hB _ (by omega) (by omega)]; exact e⟩
