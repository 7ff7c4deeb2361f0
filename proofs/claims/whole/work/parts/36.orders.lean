/-! orders: pulled and pushed sums are one -/
def rmN (s j : Nat) : Nat := (nI s &&& nbit (nI j)).toNatClampNeg
def adN (s j : Nat) : Nat := (nI s ||| bv (nI j)).toNatClampNeg
theorem rm1 : ∀ s, s < 64 → ∀ j, j < 6 → nI s &&& nbit (nI j) = nI (rmN s j) ∧ rmN s j < 64 := by decide +kernel
theorem rm2 : ∀ s, s < 64 → ∀ j, j < 6 → (¬ nI s &&& nbit (nI j) = nI s ↔ bt (nI s) (nI j)) := by decide +kernel
theorem rm3 : ∀ s, s < 64 → ∀ j, j < 6 → bt (nI s) (nI j) → rmN s j < s ∧ adN (rmN s j) j = s ∧ ¬ bt (nI (rmN s j)) (nI j) ∧ bcI (nI s) = pc7 (nI (rmN s j)) 7 + 1 := by decide +kernel
theorem ad1 : ∀ s, s < 64 → ∀ j, j < 6 → ¬ bt (nI s) (nI j) → s < adN s j ∧ rmN (adN s j) j = s ∧ bt (nI (adN s j)) (nI j) := by decide +kernel
theorem ad2D : ∀ s, s < 64 → ∀ j, j < 6 → ∀ i, i < 6 → (bt (nI s) (nI j) ∨ bt (nI s) (nI i) ∨ ¬ adN s j = adN s i ∨ j = i) := by decide +kernel
theorem ad2 (s : Nat) (hs : s < 64) (j : Nat) (hj : j < 6) (i : Nat) (hi : i < 6) (h1 : ¬ bt (nI s) (nI j)) (h2 : ¬ bt (nI s) (nI i)) (h3 : adN s j = adN s i) : j = i := by
  rcases ad2D s hs j hj i hi with q | q | q | q
  · exact absurd q h1
  · exact absurd q h2
  · exact absurd h3 q
  · exact q
theorem mU_at {M : mM} {r j : Nat} {x : Int32} : mU M r j x r j = x := if_pos ⟨rfl, rfl⟩
theorem mU_o {M : mM} {r j a b : Nat} {x : Int32} (h : ¬ (a = r ∧ b = j)) : mU M r j x a b = M a b := if_neg h
theorem pw2 : ∀ k, k < 7 → ∀ s, s < 2 ^ k → ∀ j, j < 6 → bt (nI s) (nI j) → j < k := by decide +kernel
theorem pw3 : ∀ k, k < 7 → 2 ^ k ≤ 64 := by decide +kernel
def wT (hh : Nat → Int32) (y : Int32) (f : Nat → Int32) (s : Nat) (j : Nat) (a : Int32) : Int32 := if bt (nI s) (nI j) ∧ bt (hh j) (wv y (rmN s j)) then a + f (rmN s j) else a
/-- two ways of counting that keep the same law are one -/
theorem wT_one {hh : Nat → Int32} {y : Int32} {f g : Nat → Int32} {N : Nat} (hN : N ≤ 64) (hf : ∀ s, s < N → f s = itN (wT hh y f s) (if s = 0 then 1 else 0) 6) (hg : ∀ s, s < N → g s = itN (wT hh y g s) (if s = 0 then 1 else 0) 6) : ∀ n s, s < n → s < N → f s = g s := by
  intro n
  induction n with
  | zero => intro s h; omega
  | succ n ih =>
    intro s h1 h2
    rw [hf s h2, hg s h2]
    refine itN_cong 6 (fun j hj a => ?_)
    unfold wT
    by_cases hb : bt (nI s) (nI j)
    · have h3 := rm3 s (by omega) j hj hb
      rw [ih (rmN s j) (by omega) (by omega)]
    · rw [if_neg (fun q => hb q.1), if_neg (fun q => hb q.1)]
/-! the class -/
theorem oM_ne {M : mM} {y : Int32} {a : Nat} (h : a ≠ 47) : ∀ j, oM M y j a = M a
  | 0 => mU_ne a h
  | j + 1 => (mU_ne a h).trans (oM_ne h j)
theorem oM_st {M : mM} {y : Int32} {s : Nat} : ∀ j, s ≤ j → oM M y j 47 s = oM M y s 47 s
  | 0, h => by rw [show s = 0 by omega]
  | j + 1, h => by
    by_cases hs : s = j + 1
    · rw [hs]
    · have e : oM M y (j + 1) 47 s = oM M y j 47 s := by
        show mU (oM M y j) 47 (j + 1) _ 47 s = _
        unfold mU
        rw [if_neg (fun q => hs q.2)]
      rw [e, oM_st j (by omega)]
theorem wv_eq {y : Int32} {s j : Nat} (hs : s < 64) (hj : j < 6) (hb : bt (nI s) (nI j)) : wHv y s = wv y (rmN s j) := by
  have h3 := (rm3 s hs j hj hb).2.2.2
  unfold wHv wv
  rw [h3, ← Int32.add_assoc, Int32.add_sub_cancel]
theorem oM_wT {M : mM} {y : Int32} {n : Nat} (hn : n < 64) : ∀ s, s < n + 1 → oM M y n 47 s = itN (wT (M 12) y (oM M y n 47) s) (if s = 0 then 1 else 0) 6
  | 0, _ => by
    rw [oM_st n (by omega)]
    show (1 : Int32) = _
    have h : ∀ k, k ≤ 6 → itN (wT (M 12) y (oM M y n 47) 0) (if 0 = 0 then 1 else 0) k = 1 := by
      intro k
      induction k with
      | zero => intro _; rfl
      | succ k ih =>
        intro hk
        rw [itN_s, ih (by omega)]
        exact if_neg (fun q => bt_0 k (by omega) q.1)
    exact (h 6 (by omega)).symm
  | s + 1, hs => by
    rw [oM_st n (by omega), if_neg (by omega)]
    have e : oM M y (s + 1) 47 (s + 1) = wtp (oM M y s 12) (oM M y s 47) (s + 1) y := mU_at
    rw [e, oM_ne (by omega)]
    unfold wtp
    refine itN_cong 6 (fun j hj a => ?_)
    unfold wy wT
    by_cases hb : bt (nI (s + 1)) (nI j)
    · have h1 := rm1 (s + 1) (by omega) j hj
      have h2 := rm2 (s + 1) (by omega) j hj
      have h3 := rm3 (s + 1) (by omega) j hj hb
      have e1 : oM M y s 47 (rmN (s + 1) j) = oM M y n 47 (rmN (s + 1) j) := by rw [oM_st s (by omega), ← oM_st n (by omega)]
      have e2 : (nI (s + 1) &&& nbit (nI j)).toNatClampNeg = rmN (s + 1) j := rfl
      rw [e2, e1, wv_eq (by omega) hj hb]
      refine ite_iff ⟨fun q => ⟨hb, q.2.1⟩, fun q => ⟨h2.mpr hb, q.2, ?_, ?_⟩⟩
      · rw [h1.1]
        exact nI_pos' (by omega)
      · rw [h1.1]
        exact nI_ge (b := 64) h1.2 (by omega)
    · exact (if_neg (fun q => hb ((rm2 (s + 1) (by omega) j hj).mp q.1))).trans (if_neg (fun q => hb q.1)).symm
/-! the model -/
theorem orP_ne {M : mM} {y : Int32} {i a : Nat} (h : a ≠ 56) : ∀ n, itN (orP y i) M n a = M a
  | 0 => rfl
  | n + 1 => by
    rw [itN_s]
    by_cases hc : orC (itN (orP y i) M n) y i n
    · have e : orP y i n (itN (orP y i) M n) = mU (itN (orP y i) M n) 56 (adN i n) (itN (orP y i) M n 56 (adN i n) + itN (orP y i) M n 56 i) := if_pos hc
      rw [e]
      exact (mU_ne a h).trans (orP_ne h n)
    · have e : orP y i n (itN (orP y i) M n) = itN (orP y i) M n := if_neg hc
      rw [e]
      exact orP_ne h n
theorem orI {M : mM} {y : Int32} {i : Nat} (hi : i < 64) : ∀ n, n ≤ 6 → ∀ t, (∀ j, j < n → orC M y i j → t = adN i j → itN (orP y i) M n 56 t = M 56 t + M 56 i) ∧ ((∀ j, j < n → orC M y i j → t ≠ adN i j) → itN (orP y i) M n 56 t = M 56 t) := by
  intro n
  induction n with
  | zero => exact fun _ t => ⟨fun j hj => by omega, fun _ => rfl⟩
  | succ n ih =>
    intro hn t
    rw [itN_s]
    have e51 : itN (orP y i) M n 51 = M 51 := orP_ne (by omega) n
    have ec : orC (itN (orP y i) M n) y i n ↔ orC M y i n := by
      unfold orC
      rw [e51]
    by_cases hc : orC M y i n
    · have e : orP y i n (itN (orP y i) M n) = mU (itN (orP y i) M n) 56 (adN i n) (itN (orP y i) M n 56 (adN i n) + itN (orP y i) M n 56 i) := if_pos (ec.mpr hc)
      have ei : itN (orP y i) M n 56 i = M 56 i := (ih (by omega) i).2 (fun j hj hcj q => by
        have := (ad1 i hi j (by omega) hcj.1).1
        omega)
      have ea : itN (orP y i) M n 56 (adN i n) = M 56 (adN i n) := (ih (by omega) (adN i n)).2 (fun j hj hcj q => by
        have := ad2 i hi n (by omega) j (by omega) hc.1 hcj.1 q
        omega)
      rw [e, ei, ea]
      by_cases ht : t = adN i n
      · rw [ht]
        have e2 : mU (itN (orP y i) M n) 56 (adN i n) (M 56 (adN i n) + M 56 i) 56 (adN i n) = M 56 (adN i n) + M 56 i := mU_at
        exact ⟨fun _ _ _ _ => e2, fun q => absurd rfl (q n (by omega) hc)⟩
      · have e2 : mU (itN (orP y i) M n) 56 (adN i n) (M 56 (adN i n) + M 56 i) 56 t = itN (orP y i) M n 56 t := mU_o (fun q => ht q.2)
        rw [e2]
        refine ⟨fun j hj hcj hj2 => ?_, fun q => (ih (by omega) t).2 (fun j hj => q j (by omega))⟩
        have : j ≠ n := fun z => ht (z ▸ hj2)
        exact (ih (by omega) t).1 j (by omega) hcj hj2
    · have e : orP y i n (itN (orP y i) M n) = itN (orP y i) M n := if_neg (fun q => hc (ec.mp q))
      rw [e]
      refine ⟨fun j hj hcj hj2 => ?_, fun q => (ih (by omega) t).2 (fun j hj => q j (by omega))⟩
      have : j ≠ n := fun z => hc (z ▸ hcj)
      exact (ih (by omega) t).1 j (by omega) hcj hj2
theorem or0_at {M : mM} {t : Nat} : ∀ n, t < n → or0 M n 56 t = if nI t = 0 then 1 else 0 := by
  intro n
  induction n with
  | zero => intro h; omega
  | succ n ih =>
    intro h
    have e : or0 M (n + 1) = mU (or0 M n) 56 n (if nI n = 0 then 1 else 0) := rfl
    rw [e]
    by_cases hn : t = n
    · rw [hn, mU_at]
    · rw [mU_o (fun q => hn q.2)]
      exact ih (by omega)
theorem or0_ne {M : mM} {a : Nat} (h : a ≠ 56) : ∀ n, or0 M n a = M a
  | 0 => rfl
  | n + 1 => (mU_ne a h).trans (or0_ne h n)
theorem sm_one {c d : Nat → Prop} [DecidablePred c] [DecidablePred d] {f : Nat → Int32} {a : Int32} {j0 : Nat} (h0 : ¬ c j0) (h1 : d j0) (h : ∀ j, j ≠ j0 → (c j ↔ d j)) : ∀ n, itN (fun j a => if d j then a + f j else a) a n = if j0 < n then itN (fun j a => if c j then a + f j else a) a n + f j0 else itN (fun j a => if c j then a + f j else a) a n
  | 0 => by rw [if_neg (by omega)]; rfl
  | n + 1 => by
    rw [itN_s, itN_s, sm_one h0 h1 h n]
    by_cases hn : n = j0
    · rw [hn, if_neg (Nat.lt_irrefl _), if_pos (Nat.lt_succ_self _), if_pos h1, if_neg h0]
    · by_cases hlt : j0 < n
      · rw [if_pos hlt, if_pos (show j0 < n + 1 by omega)]
        by_cases hc : c n
        · rw [if_pos hc, if_pos ((h n hn).mp hc), Int32.add_assoc, Int32.add_comm (f j0), ← Int32.add_assoc]
        · rw [if_neg hc, if_neg (fun q => hc ((h n hn).mpr q))]
      · rw [if_neg hlt, if_neg (show ¬ j0 < n + 1 by omega)]
        exact ite_iff (h n hn).symm
def orV (M : mM) (y : Int32) (k i : Nat) : mM := itN (orR y k) (or0 M (2 ^ k)) i
abbrev orG (M : mM) (y : Int32) (k i t : Nat) : Int32 := itN (fun j a => if bt (nI t) (nI j) ∧ rmN t j < i ∧ bt (M 51 j) (wv y (rmN t j)) then a + orV M y k (rmN t j) 56 (rmN t j) else a) (if t = 0 then 1 else 0) 6
theorem orV_ne {M : mM} {y : Int32} {k a : Nat} (h : a ≠ 56) : ∀ i, orV M y k i a = M a
  | 0 => or0_ne h _
  | i + 1 => (orP_ne h k).trans (orV_ne h i)
theorem orV_G {M : mM} {y : Int32} {k : Nat} (hk : k ≤ 6) : ∀ i, i ≤ 2 ^ k → ∀ t, t < 2 ^ k → orV M y k i 56 t = orG M y k i t := by
  have h64 := pw3 k (by omega)
  intro i
  induction i with
  | zero =>
    intro _ t ht
    have e : orV M y k 0 56 t = if nI t = 0 then 1 else 0 := or0_at _ ht
    rw [e]
    have h : ∀ n, itN (fun j a => if bt (nI t) (nI j) ∧ rmN t j < 0 ∧ bt (M 51 j) (wv y (rmN t j)) then a + orV M y k (rmN t j) 56 (rmN t j) else a) (if t = 0 then 1 else 0) n = if t = 0 then 1 else 0 := by
      intro n
      induction n with
      | zero => rfl
      | succ n ih =>
        rw [itN_s, ih]
        exact if_neg (fun q => Nat.not_lt_zero _ q.2.1)
    refine Eq.trans ?_ (h 6).symm
    exact ite_iff ⟨fun q => (nI_eq (b := 0) (by omega) (by omega)).mp q, fun q => by rw [q]; rfl⟩
  | succ i ih =>
    intro hi t ht
    have e : orV M y k (i + 1) = itN (orP y i) (orV M y k i) k := rfl
    have e51 : orV M y k i 51 = M 51 := orV_ne (by omega) i
    have hI := orI (M := orV M y k i) (y := y) (i := i) (by omega) k hk t
    rw [e]
    by_cases hx : ∃ j, j < k ∧ orC (orV M y k i) y i j ∧ t = adN i j
    · obtain ⟨j0, hj, hc, htj⟩ := hx
      rw [hI.1 j0 hj hc htj, ih (by omega) t ht]
      have ha := ad1 i (by omega) j0 (by omega) hc.1
      rw [← htj] at ha
      have hc2 : bt (M 51 j0) (wv y i) := by
        have := hc.2
        rwa [e51] at this
      have hs := sm_one (c := fun j => bt (nI t) (nI j) ∧ rmN t j < i ∧ bt (M 51 j) (wv y (rmN t j))) (d := fun j => j < 6 ∧ bt (nI t) (nI j) ∧ rmN t j < i + 1 ∧ bt (M 51 j) (wv y (rmN t j)) ∨ ¬ j < 6 ∧ bt (nI t) (nI j) ∧ rmN t j < i ∧ bt (M 51 j) (wv y (rmN t j))) (f := fun j => orV M y k (rmN t j) 56 (rmN t j)) (a := if t = 0 then 1 else 0) (j0 := j0)
        (fun q => by have := q.2.1; omega) (Or.inl ⟨by omega, ha.2.2, by omega, by rw [ha.2.1]; exact hc2⟩) (fun j hne => ⟨fun q => by
          by_cases h6 : j < 6
          · exact Or.inl ⟨h6, q.1, by omega, q.2.2⟩
          · exact Or.inr ⟨h6, q⟩, fun q => by
          rcases q with q | q
          · refine ⟨q.2.1, ?_, q.2.2.2⟩
            have h1 := q.2.2.1
            by_cases h2 : rmN t j = i
            · have h3 := rm3 t (by omega) j q.1 q.2.1
              rw [h2] at h3
              exact absurd (ad2 i (by omega) j q.1 j0 (by omega) h3.2.2.1 hc.1 (by omega)) hne
            · omega
          · exact q.2⟩) 6
      rw [if_pos (show j0 < 6 by omega), ha.2.1] at hs
      refine Eq.trans hs.symm ?_
      refine itN_cong 6 (fun j hj a => ?_)
      exact ite_iff ⟨fun q => by
        rcases q with q | q
        · exact q.2
        · exact absurd hj q.1, fun q => Or.inl ⟨hj, q⟩⟩
    · rw [hI.2 (fun j hj hc q => hx ⟨j, hj, hc, q⟩), ih (by omega) t ht]
      refine itN_cong 6 (fun j hj a => ite_iff ⟨fun q => ⟨q.1, by omega, q.2.2⟩, fun q => ⟨q.1, ?_, q.2.2⟩⟩)
      have h1 := q.2.1
      by_cases h2 : rmN t j = i
      · have h3 := rm3 t (by omega) j hj q.1
        rw [h2] at h3
        refine absurd ⟨j, pw2 k (by omega) t ht j hj q.1, ⟨h3.2.2.1, ?_⟩, h3.2.1.symm⟩ hx
        rw [e51, ← h2]
        exact q.2.2
      · omega
theorem orV_st {M : mM} {y : Int32} {k r i : Nat} (hk : k ≤ 6) (hr : r < 2 ^ k) (h1 : r ≤ i) (h2 : i ≤ 2 ^ k) : orV M y k r 56 r = orV M y k i 56 r := by
  have h64 := pw3 k (by omega)
  rw [orV_G hk r (by omega) r hr, orV_G hk i h2 r hr]
  refine itN_cong 6 (fun j hj a => ite_iff ⟨fun q => ⟨q.1, by omega, q.2.2⟩, fun q => ⟨q.1, ?_, q.2.2⟩⟩)
  exact (rm3 r (by omega) j hj q.1).1
theorem orA_wT {M : mM} {y : Int32} {k : Nat} (hk : k ≤ 6) : ∀ s, s < 2 ^ k → orA M y k 56 s = itN (wT (M 51) y (orA M y k 56) s) (if s = 0 then 1 else 0) 6 := by
  have h64 := pw3 k (by omega)
  intro s hs
  have e : orA M y k = orV M y k (2 ^ k - 1) := rfl
  rw [e]
  refine (orV_G hk _ (by omega) s hs).trans ?_
  refine itN_cong 6 (fun j hj a => ?_)
  unfold wT
  by_cases hb : bt (nI s) (nI j)
  · have h3 := (rm3 s (by omega) j hj hb).1
    rw [orV_st hk (show rmN s j < 2 ^ k by omega) (show rmN s j ≤ 2 ^ k - 1 by omega) (by omega)]
    exact ite_iff ⟨fun q => ⟨q.1, q.2.2⟩, fun q => ⟨q.1, by omega, q.2⟩⟩
  · rw [if_neg (fun q => hb q.1), if_neg (fun q => hb q.1)]
theorem wT_cong {hh gg : Nat → Int32} {y : Int32} {f : Nat → Int32} {s : Nat} {a : Int32} (h : ∀ j, j < 6 → hh j = gg j) : itN (wT hh y f s) a 6 = itN (wT gg y f s) a 6 :=
  itN_cong 6 (fun j hj b => by
    unfold wT
    rw [h j hj])
theorem orders_eq {M N : mM} {y : Int32} {k : Nat} (hk : k ≤ 6) (h : ∀ j, j < 6 → M 12 j = N 51 j) : oM M y (2 ^ k - 1) 47 (2 ^ k - 1) = orA N y k 56 (2 ^ k - 1) := by
  have h64 := pw3 k (by omega)
  have hp : 0 < 2 ^ k := Nat.two_pow_pos k
  refine wT_one (hh := N 51) (y := y) (N := 2 ^ k) h64 (fun s hs => ?_) (fun s hs => orA_wT hk s hs) (2 ^ k) (2 ^ k - 1) (by omega) (by omega)
  rw [← wT_cong h]
  exact oM_wT (by omega) s (by omega)
