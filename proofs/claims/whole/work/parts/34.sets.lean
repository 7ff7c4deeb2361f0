/-! small sets; falls, power, held, laws, speak: both answers are one -/
def sB (x : Int32) : Prop := ∃ k, k < 128 ∧ x = nI k
theorem i_nat {x : Int32} {n : Nat} (hn : n ≤ 2 ^ 31) (h0 : 0 ≤ x.toInt) (h : x.toInt < n) : ∃ k, k < n ∧ x = nI k :=
  ⟨x.toInt.toNat, by omega, Int32.toInt_inj.mp (by rw [nI_toInt (by omega)]; omega)⟩
theorem sB_orD : ∀ a, a < 128 → ∀ b, b < 7 → 0 ≤ (nI a ||| bv (nI b)).toInt ∧ (nI a ||| bv (nI b)).toInt < (128 : Nat) := by decide +kernel
theorem sB_andD : ∀ a, a < 128 → ∀ b, b < 7 → 0 ≤ (nI a &&& nbit (nI b)).toInt ∧ (nI a &&& nbit (nI b)).toInt < (128 : Nat) := by decide +kernel
theorem sB_or {x : Int32} {b : Nat} (h : sB x) (hb : b < 7) : sB (x ||| bv (nI b)) := by
  obtain ⟨a, ha, rfl⟩ := h
  exact i_nat (by decide) (sB_orD a ha b hb).1 (sB_orD a ha b hb).2
theorem sB_and {x : Int32} {b : Nat} (h : sB x) (hb : b < 7) : sB (x &&& nbit (nI b)) := by
  obtain ⟨a, ha, rfl⟩ := h
  exact i_nat (by decide) (sB_andD a ha b hb).1 (sB_andD a ha b hb).2
theorem bt_orD : ∀ a, a < 128 → ∀ b, b < 7 → ∀ c, c < 7 → (bt (nI a ||| bv (nI b)) (nI c) ↔ (bt (nI a) (nI c) ∨ c = b)) := by decide +kernel
theorem bt_andD : ∀ a, a < 128 → ∀ b, b < 7 → ∀ c, c < 7 → (bt (nI a &&& nbit (nI b)) (nI c) ↔ (bt (nI a) (nI c) ∧ ¬ c = b)) := by decide +kernel
theorem bt_or {x : Int32} {b c : Nat} (h : sB x) (hb : b < 7) (hc : c < 7) : bt (x ||| bv (nI b)) (nI c) ↔ (bt x (nI c) ∨ c = b) := by
  obtain ⟨a, ha, rfl⟩ := h
  exact bt_orD a ha b hb c hc
theorem bt_and {x : Int32} {b c : Nat} (h : sB x) (hb : b < 7) (hc : c < 7) : bt (x &&& nbit (nI b)) (nI c) ↔ (bt x (nI c) ∧ ¬ c = b) := by
  obtain ⟨a, ha, rfl⟩ := h
  exact bt_andD a ha b hb c hc
theorem bt_0 : ∀ p, p < 7 → ¬ bt 0 (nI p) := by decide +kernel
theorem sB_0 : sB 0 := ⟨0, by omega, rfl⟩
theorem bcpc {x : Int32} (h : sB x) : bcI x = pc7 x 7 := by
  obtain ⟨a, ha, rfl⟩ := h
  exact bcI_ok a ha
def bs7 (f : Nat → Bool) : Int32 := nI ((if f 0 then 1 else 0) + (if f 1 then 2 else 0) + (if f 2 then 4 else 0) + (if f 3 then 8 else 0) + (if f 4 then 16 else 0) + (if f 5 then 32 else 0) + (if f 6 then 64 else 0))
theorem bs7_of : ∀ a, a < 128 → nI a = bs7 (fun p => decide (bt (nI a) (nI p))) := by decide +kernel
theorem bs7_cong {f g : Nat → Bool} (h : ∀ p, p < 7 → f p = g p) : bs7 f = bs7 g := by
  unfold bs7
  rw [h 0 (by omega), h 1 (by omega), h 2 (by omega), h 3 (by omega), h 4 (by omega), h 5 (by omega), h 6 (by omega)]
theorem sB_ext {x y : Int32} (hx : sB x) (hy : sB y) (h : ∀ p, p < 7 → (bt x (nI p) ↔ bt y (nI p))) : x = y := by
  obtain ⟨a, ha, rfl⟩ := hx
  obtain ⟨b, hb, rfl⟩ := hy
  exact (bs7_of a ha).trans ((bs7_cong (fun p hp => decide_eq_decide.mpr (h p hp))).trans (bs7_of b hb).symm)
/-! falls, sums of breath -/
theorem fl_cong {s : Int32} {b c : Nat → Int32} (h : ∀ i, i < 7 → b i = c i) : itN (fl s b) 0 7 = itN (fl s c) 0 7 :=
  itN_cong 7 (fun i hi x => by unfold fl; rw [h i hi])
theorem bsum_cong {b c : Nat → Int32} (h : ∀ i, i < 7 → b i = c i) (s : Int32) : ∀ n, n ≤ 7 → bsum b s n = bsum c s n
  | 0, _ => rfl
  | n + 1, hn => by
    unfold bsum
    rw [bsum_cong h s n (by omega), h n (by omega)]
theorem bsum_nat {b : Nat → Int32} (h : ∀ i, i < 7 → ∃ k, k ≤ 99 ∧ b i = nI k) (s : Int32) : ∀ n, n ≤ 7 → ∃ k, k ≤ 99 * n ∧ bsum b s n = nI k
  | 0, _ => ⟨0, by omega, rfl⟩
  | n + 1, hn => by
    obtain ⟨k, hk, e⟩ := bsum_nat h s n (by omega)
    obtain ⟨j, hj, e2⟩ := h n (by omega)
    unfold bsum
    by_cases hb : bt s (nI n)
    · rw [if_pos hb, e, e2]
      exact ⟨k + j, by omega, nI_add k j⟩
    · rw [if_neg hb, e]
      exact ⟨k, by omega, rfl⟩
theorem bsum_0 {b : Nat → Int32} : ∀ n, n ≤ 7 → bsum b 0 n = 0
  | 0, _ => rfl
  | n + 1, hn => by
    unfold bsum
    rw [if_neg (bt_0 n (by omega)), bsum_0 n (by omega)]
/-! power -/
theorem and_or_not (a b c : Int32) : a &&& ((b &&& (c ^^^ (-1))) ^^^ (-1)) = (a &&& (b ^^^ (-1))) ||| (a &&& c) := by
  apply Int32.toBitVec_inj.mp
  rw [Int32.toBitVec_and, Int32.toBitVec_xor, Int32.toBitVec_and, Int32.toBitVec_xor, Int32.toBitVec_or, Int32.toBitVec_and, Int32.toBitVec_and, Int32.toBitVec_xor, show (-1 : Int32).toBitVec = BitVec.allOnes 32 by decide]
  apply BitVec.eq_of_getLsbD_eq
  intro i hi
  simp only [BitVec.getLsbD_and, BitVec.getLsbD_xor, BitVec.getLsbD_or, BitVec.getLsbD_allOnes]
  cases a.toBitVec.getLsbD i <;> cases b.toBitVec.getLsbD i <;> cases c.toBitVec.getLsbD i <;> simp [hi]
theorem or_00 {a b : Int32} : a ||| b = 0 ↔ a = 0 ∧ b = 0 := by
  constructor
  · intro h
    have h1 : a.toBitVec ||| b.toBitVec = 0#32 := by
      rw [← Int32.toBitVec_or, h]
      rfl
    have h2 := BitVec.or_eq_zero_iff.mp h1
    exact ⟨Int32.toBitVec_inj.mp h2.1, Int32.toBitVec_inj.mp h2.2⟩
  · rintro ⟨rfl, rfl⟩
    decide
theorem ite_iff {α : Type} {p q : Prop} [Decidable p] [Decidable q] {a b : α} (h : p ↔ q) : (if p then a else b) = if q then a else b := by
  by_cases hp : p
  · rw [if_pos hp, if_pos (h.mp hp)]
  · rw [if_neg hp, if_neg (fun z => hp (h.mpr z))]
theorem bt_v : ∀ i, i < 128 → ∀ k, k < 7 → (nI i &&& bv (nI k) = 0 ↔ ¬ bt (nI i) (nI k)) := by decide +kernel
theorem power_eq {s : Int32} {b c : Nat → Int32} {k : Nat} (h : ∀ i, i < 7 → b i = c i) (hk : k < 7) : itN (pw s b (nI k)) 0 128 = itN (npw s c (nI k)) 0 128 :=
  itN_cong 128 (fun i hi x => by
    unfold pw npw psP
    rw [bsum_cong h s 7 (by omega), bsum_cong h (nI i) 7 (by omega), bsum_cong h (nI i ||| bv (nI k)) 7 (by omega)]
    exact ite_iff (by rw [and_or_not, or_00, bt_v i hi k hk, and_assoc]))
/-! held -/
theorem subBits : ∀ s, s < 128 → ∀ i, i < 128 → nI i &&& (nI s ^^^ (-1)) = 0 → (pc7 (nI i) 7 < pc7 (nI s) 7 ∨ i = s) := by decide +kernel
theorem and_self_not : ∀ s, s < 128 → nI s &&& (nI s ^^^ (-1)) = 0 := by decide +kernel
theorem held_step {bl : Int32} {b : Nat → Int32} {s : Nat} (hs : s < 128) (hp : ¬ psP bl b (nI s &&& (nI s ^^^ (-1)))) : ∀ i, i ≤ 128 →
    (itN (nhd bl b (nI s)) (-6) i = -6 ∧ itN (hd1 bl b (nI s)) (nI s) i = nI s ∧ i ≤ s) ∨ ∃ k, k < 128 ∧ itN (hd1 bl b (nI s)) (nI s) i = nI k ∧ itN (nhd bl b (nI s)) (-6) i = nI k := by
  intro i
  induction i with
  | zero => exact fun _ => Or.inl ⟨rfl, rfl, by omega⟩
  | succ i ih =>
    intro hi
    rw [itN_s, itN_s]
    rcases ih (by omega) with ⟨h1, h2, h3⟩ | ⟨k, hk, h1, h2⟩
    · rw [h1, h2]
      by_cases hq : nI i &&& (nI s ^^^ (-1)) = 0 ∧ ¬ psP bl b (nI s &&& (nI i ^^^ (-1)))
      · have e1 : nhd bl b (nI s) i (-6) = nI i := if_pos ⟨hq.1, Or.inl (by decide), hq.2⟩
        rw [e1]
        refine Or.inr ⟨i, by omega, ?_, rfl⟩
        rcases subBits s hs i (by omega) hq.1 with h4 | h4
        · exact if_pos ⟨hq.1, by rw [bcI_ok i (by omega), bcI_ok s hs]; exact h4, hq.2⟩
        · rw [h4]
          exact if_neg (fun q => Int32.lt_irrefl q.2.1)
      · have e1 : nhd bl b (nI s) i (-6) = -6 := if_neg (fun q => hq ⟨q.1, q.2.2⟩)
        have e2 : hd1 bl b (nI s) i (nI s) = nI s := if_neg (fun q => hq ⟨q.1, q.2.2⟩)
        rw [e1, e2]
        have h5 : i ≠ s := fun q => hq (by rw [q]; exact ⟨and_self_not s hs, hp⟩)
        exact Or.inl ⟨rfl, rfl, by omega⟩
    · rw [h1, h2]
      refine Or.inr ?_
      by_cases hq : nI i &&& (nI s ^^^ (-1)) = 0 ∧ pc7 (nI i) 7 < pc7 (nI k) 7 ∧ ¬ psP bl b (nI s &&& (nI i ^^^ (-1)))
      · exact ⟨i, by omega, if_pos ⟨hq.1, by rw [bcI_ok i (by omega), bcI_ok k hk]; exact hq.2.1, hq.2.2⟩, if_pos ⟨hq.1, Or.inr hq.2.1, hq.2.2⟩⟩
      · refine ⟨k, hk, if_neg (fun q => hq ⟨q.1, ?_, q.2.2⟩), if_neg (fun q => ?_)⟩
        · have := q.2.1
          rwa [bcI_ok i (by omega), bcI_ok k hk] at this
        · rcases q.2.1 with h6 | h6
          · exact nI_pos (by omega) h6
          · exact hq ⟨q.1, h6, q.2.2⟩
theorem held_eq {bl : Int32} {b c : Nat → Int32} {s : Nat} (h : ∀ i, i < 7 → b i = c i) (hr : ∀ i, i < 7 → ∃ k, k ≤ 99 ∧ b i = nI k) (hs : s < 128) :
    ∃ k, k < 128 ∧ itN (hd1 bl b (nI s)) (nI s) 128 = nI k ∧ itN (nhd bl c (nI s)) (-6) 128 = nI k := by
  have e : itN (nhd bl c (nI s)) (-6) 128 = itN (nhd bl b (nI s)) (-6) 128 := itN_cong 128 (fun i hi x => by
    unfold nhd psP
    rw [bsum_cong h bl 7 (by omega), bsum_cong h (nI s &&& (nI i ^^^ (-1))) 7 (by omega)])
  rw [e]
  have hp : ¬ psP bl b (nI s &&& (nI s ^^^ (-1))) := by
    rw [and_self_not s hs]
    unfold psP
    rw [bsum_0 7 (by omega)]
    obtain ⟨k, hk, e2⟩ := bsum_nat hr bl 7 (by omega)
    rw [e2]
    exact nI_pos (by omega)
  rcases held_step hs hp 128 (by omega) with ⟨-, -, h3⟩ | h3
  · omega
  · exact h3
