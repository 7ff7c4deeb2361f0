/-! laws, speak, filibusters, whose, alike: both answers are one -/
theorem ds_2 {s x : Int32} : ∀ n, (itN (ds s) (0, x) n).2 = dgv x n
  | 0 => rfl
  | n + 1 => by
    rw [itN_s]
    show (itN (ds s) (0, x) n).2 / 10 = dgv x (n + 1)
    rw [ds_2 n]
    rfl
theorem ds_1 {s x : Int32} (n : Nat) : (itN (ds s) (0, x) (n + 1)).1 = if bt s (nI n) then (itN (ds s) (0, x) n).1 + dg x n else (itN (ds s) (0, x) n).1 := by
  rw [itN_s]
  show (if bt s (nI n) then (itN (ds s) (0, x) n).1 + rem10 (itN (ds s) (0, x) n).2 else (itN (ds s) (0, x) n).1) = _
  rw [ds_2]
  rfl
theorem lIn_n {x y : Int32} {s : Nat} : ∀ n, (itN (lI x y s) (0, 0, 1) n).1 = (itN (ds (nI s)) (0, x) n).1 ∧ (itN (lI x y s) (0, 0, 1) n).2.1 = (itN (ds (nI s)) (0, y) n).1 ∧ ((¬ (itN (lI x y s) (0, 0, 1) n).2.2 = 0) ↔ ∀ p, p < n → bt (nI s) (nI p) → 0 < dg x p)
  | 0 => ⟨rfl, rfl, ⟨fun _ p h => by omega, fun _ => (by decide : ¬ (1 : Int32) = 0)⟩⟩
  | n + 1 => by
    obtain ⟨h1, h2, h3⟩ := lIn_n (x := x) (y := y) (s := s) n
    rw [ds_1, ds_1, itN_s]
    by_cases hb : bt (nI s) (nI n)
    · have e : lI x y s n (itN (lI x y s) (0, 0, 1) n) = ((itN (lI x y s) (0, 0, 1) n).1 + dg x n, (itN (lI x y s) (0, 0, 1) n).2.1 + dg y n, if ¬ (itN (lI x y s) (0, 0, 1) n).2.2 = 0 ∧ 0 < dg x n then 1 else 0) := if_pos hb
      rw [e, if_pos hb, if_pos hb]
      refine ⟨congrArg (· + dg x n) h1, congrArg (· + dg y n) h2, ?_⟩
      show (¬ (if ¬ (itN (lI x y s) (0, 0, 1) n).2.2 = 0 ∧ 0 < dg x n then (1 : Int32) else 0) = 0) ↔ _
      by_cases hc : ¬ (itN (lI x y s) (0, 0, 1) n).2.2 = 0 ∧ 0 < dg x n
      · rw [if_pos hc]
        refine ⟨fun _ p hp hbp => ?_, fun _ => by decide⟩
        by_cases hpn : p = n
        · rw [hpn]
          exact hc.2
        · exact h3.mp hc.1 p (by omega) hbp
      · rw [if_neg hc]
        refine ⟨fun q => absurd rfl q, fun q => absurd ⟨h3.mpr (fun p hp => q p (by omega)), q n (by omega) hb⟩ hc⟩
    · have e : lI x y s n (itN (lI x y s) (0, 0, 1) n) = itN (lI x y s) (0, 0, 1) n := if_neg hb
      rw [e, if_neg hb, if_neg hb]
      refine ⟨h1, h2, h3.trans ⟨fun q p hp hbp => ?_, fun q p hp => q p (by omega)⟩⟩
      by_cases hpn : p = n
      · rw [hpn] at hbp
        exact absurd hbp hb
      · exact q p (by omega) hbp
theorem bv_bt : ∀ i, i < 7 → ∀ j, j < 7 → (bt (bv (nI i)) (nI j) ↔ j = i) := by decide +kernel
theorem dsum_bv {x : Int32} {i : Nat} (hi : i < 6) : dsum x (bv (nI i)) = dg x i := by
  have h : ∀ n, n ≤ 6 → (itN (ds (bv (nI i))) (0, x) n).1 = if i < n then dg x i else 0 := by
    intro n
    induction n with
    | zero => intro _; rw [if_neg (by omega)]; rfl
    | succ n ih =>
      intro hn
      rw [ds_1, ih (by omega)]
      by_cases hb : n = i
      · rw [if_pos ((bv_bt i (by omega) n (by omega)).mpr hb), if_neg (by omega), if_pos (by omega), Int32.zero_add, hb]
      · rw [if_neg (fun q => hb ((bv_bt i (by omega) n (by omega)).mp q))]
        exact ite_iff (by omega)
  have h2 := h 6 (by omega)
  rwa [if_pos hi] at h2
theorem el_b {x : Int32} : ∀ n, n ≤ 6 → sB (itN (el x) 0 n) ∧ ∀ p, p < 6 → (bt (itN (el x) 0 n) (nI p) ↔ (p < n ∧ 0 < dg x p))
  | 0, _ => ⟨sB_0, fun p hp6 => ⟨fun q => absurd q (bt_0 p (by omega)), fun q => by omega⟩⟩
  | n + 1, hn => by
    obtain ⟨h1, h2⟩ := el_b (x := x) n (by omega)
    rw [itN_s]
    by_cases hc : 0 < dg x n
    · have e : el x n (itN (el x) 0 n) = itN (el x) 0 n ||| bv (nI n) := by
        unfold el
        rw [dsum_bv (by omega), if_pos hc]
      rw [e]
      refine ⟨sB_or h1 (by omega), fun p hp6 => ?_⟩
      rw [bt_or h1 (by omega) (by omega), h2 p hp6]
      constructor
      · rintro (q | q)
        · exact ⟨by omega, q.2⟩
        · rw [q]
          exact ⟨by omega, hc⟩
      · rintro ⟨q1, q2⟩
        by_cases hpn : p = n
        · exact Or.inr hpn
        · exact Or.inl ⟨by omega, q2⟩
    · have e : el x n (itN (el x) 0 n) = itN (el x) 0 n := by
        unfold el
        rw [dsum_bv (by omega), if_neg hc]
      rw [e]
      refine ⟨h1, fun p hp6 => (h2 p hp6).trans ⟨fun q => ⟨by omega, q.2⟩, fun q => ⟨?_, q.2⟩⟩⟩
      have : p ≠ n := fun z => hc (z ▸ q.2)
      omega
theorem sub64 : ∀ s, s < 64 → ∀ e, e < 128 → (nI s &&& (nI e ^^^ (-1)) = 0 ↔ ∀ p, p < 6 → bt (nI s) (nI p) → bt (nI e) (nI p)) := by decide +kernel
theorem law_ok {x y : Int32} {s : Nat} (hs : s < 64) : nI s &&& (elaws x ^^^ (-1)) = 0 ↔ ¬ (lIn x y s).2.2 = 0 := by
  obtain ⟨⟨e, he, ee⟩, hb⟩ := el_b (x := x) 6 (by omega)
  have h3 := (lIn_n (x := x) (y := y) (s := s) 6).2.2
  unfold elaws lIn
  rw [ee] at hb
  rw [ee, sub64 s hs e he, h3]
  exact ⟨fun q p hp6 hbp => ((hb p hp6).mp (q p hp6 hbp)).2, fun q p hp6 hbp => (hb p hp6).mpr ⟨hp6, q p hp6 hbp⟩⟩
theorem laws_step {x y z : Int32} {s : Nat} (hs : s < 64) (p : Int32 × Int32 × Int32) : lOs x y z s p = lw x y z (elaws x) s p := by
  obtain ⟨h1, h2, -⟩ := lIn_n (x := x) (y := y) (s := s) 6
  have h3 := law_ok (x := x) (y := y) hs
  have g1 : (lIn x y s).1 = dsum x (nI s) := h1
  have g2 : (lIn x y s).2.1 = dsum y (nI s) := h2
  unfold lOs lw
  rw [g1, g2]
  by_cases a : nI s &&& (elaws x ^^^ (-1)) = 0
  · have a' := h3.mp a
    rw [if_pos a]
    by_cases b : dsum x (nI s) ≤ z ∧ p.1 < dsum y (nI s)
    · rw [if_pos ⟨a', b⟩, if_pos ⟨a', b⟩, if_pos b]
      by_cases c : dsum x (nI s) = z
      · rw [if_pos ⟨a', c⟩, if_pos c]
      · rw [if_neg (fun q => c q.2), if_neg c, Int32.add_zero]
    · rw [if_neg (fun q => b q.2), if_neg (fun q => b q.2), if_neg b]
      by_cases c : dsum x (nI s) = z
      · rw [if_pos ⟨a', c⟩, if_pos c]
      · rw [if_neg (fun q => c q.2), if_neg c, Int32.add_zero]
  · have a' : ¬ ¬ (lIn x y s).2.2 = 0 := fun q => a (h3.mpr q)
    rw [if_neg a, if_neg (fun q => a' q.1), if_neg (fun q => a' q.1), if_neg (fun q => a' q.1), Int32.add_zero]
theorem lIn_0 {x y : Int32} : ∀ n, n ≤ 6 → itN (lI x y 0) (0, 0, 1) n = (0, 0, 1)
  | 0, _ => rfl
  | n + 1, h => by
    rw [itN_s, lIn_0 n (by omega)]
    exact if_neg (bt_0 n (by omega))
theorem laws_eq {x y z : Int32} (hz : 0 ≤ z) : ∀ n, n < 64 → itN (lOs x y z) (-1, 0, 0) (n + 1) = itN (lw x y z (elaws x)) (0, 0, 0) (n + 1)
  | 0, _ => by
    show lOs x y z 0 (-1, 0, 0) = lw x y z (elaws x) 0 (0, 0, 0)
    rw [← laws_step (by omega)]
    have c : lIn x y 0 = (0, 0, 1) := lIn_0 6 (by omega)
    unfold lOs
    rw [c]
    show ((if (¬ (1 : Int32) = 0) ∧ (0 : Int32) ≤ z ∧ (-1 : Int32) < 0 then (0 : Int32) else -1), (if (¬ (1 : Int32) = 0) ∧ (0 : Int32) ≤ z ∧ (-1 : Int32) < 0 then nI 0 else 0), (0 : Int32) + (if (¬ (1 : Int32) = 0) ∧ (0 : Int32) = z then 1 else 0)) = ((if (¬ (1 : Int32) = 0) ∧ (0 : Int32) ≤ z ∧ (0 : Int32) < 0 then (0 : Int32) else 0), (if (¬ (1 : Int32) = 0) ∧ (0 : Int32) ≤ z ∧ (0 : Int32) < 0 then nI 0 else 0), (0 : Int32) + (if (¬ (1 : Int32) = 0) ∧ (0 : Int32) = z then 1 else 0))
    have k1 : ¬ ((¬ (1 : Int32) = 0) ∧ (0 : Int32) ≤ z ∧ (0 : Int32) < 0) := fun q => absurd q.2.2 (by decide)
    rw [if_pos ⟨by decide, hz, by decide⟩, if_pos ⟨by decide, hz, by decide⟩, if_neg k1, if_neg k1]
    rfl
  | n + 1, h => by
    rw [itN_s, itN_s _ _ (n + 1), laws_eq hz n (by omega)]
    exact laws_step h _
/-! speak -/
theorem up_eq {M : mM} {z : Int32} (hz : 1 ≤ z) : fUp (M 49 2) z = mUp M z := if_pos hz
theorem sp_eq {M : mM} {k : Nat} {y m mi dp td br pl : Int32} (e1 : mi = M 53 8) (e2 : dp = M 49 2) (e3 : td = M 53 9) (e4 : br = M 53 k) (e5 : pl = M 50 k) : ∀ j, j ≤ 9 →
    (itN (sp mi dp td br pl y m) (0, -6, -6) j).1 = (itN (nsp M k y m) (0, -6) j).1 ∧ (itN (sp mi dp td br pl y m) (0, -6, -6) j).2.1 = (itN (nsp M k y m) (0, -6) j).2 ∧ (itN (sp mi dp td br pl y m) (0, -6, -6) j).2.2 = (if (itN (nsp M k y m) (0, -6) j).2 < 0 then -6 else nWait M k y m (itN (nsp M k y m) (0, -6) j).2) := by
  subst e1 e2 e3 e4 e5
  intro j
  induction j with
  | zero => exact fun _ => ⟨rfl, rfl, (if_pos (by decide : (-6 : Int32) < 0)).symm⟩
  | succ j ih =>
    intro hj
    obtain ⟨h1, h2, h3⟩ := ih (by omega)
    rw [itN_s, itN_s]
    have hu : fUp (M 49 2) (nI (9 - j)) = mUp M (nI (9 - j)) := up_eq ((nI_leI (a := 1) (by omega) (by omega)).mpr (by omega))
    unfold sp nsp
    rw [hu]
    by_cases hc : 0 ≤ m - M 53 8 - mUp M (nI (9 - j)) ∧ nI (9 - j) ≤ M 53 k - (m - M 53 8 - mUp M (nI (9 - j))) ∧ rem10 (M 50 k + mUp M (nI (9 - j)) * M 53 9) = y
    · have ew : nWait M k y m (nI (9 - j)) = m - M 53 8 - mUp M (nI (9 - j)) := if_pos hc
      rw [if_pos hc, ew, if_neg (Int32.not_lt.mpr hc.1)]
      refine ⟨congrArg (· + 1) h1, rfl, ?_⟩
      show m - M 53 8 - mUp M (nI (9 - j)) = if nI (9 - j) < 0 then -6 else nWait M k y m (nI (9 - j))
      rw [if_neg (nI_pos (by omega)), ew]
    · have ew : nWait M k y m (nI (9 - j)) = -6 := if_neg hc
      rw [if_neg hc, ew, if_pos (by decide : (-6 : Int32) < 0)]
      exact ⟨h1, h2, h3⟩
/-! filibusters -/
theorem nm_ov {x : Int32} {kk : Nat} {B : Nat → Int32} : itN (ov1 x kk (-6) 0 B) 0 7 = itN (nm x B kk) 0 7 :=
  itN_cong 7 (fun i hi a => by
    unfold ov1 nm
    rw [if_neg (nI_m6 (by omega)), Int32.sub_zero, Int32.xor_zero])
theorem xr1 (a b c : Int32) : a ^^^ c = (a ^^^ b) ^^^ (b ^^^ c) := by
  rw [Int32.xor_assoc, ← Int32.xor_assoc b b c, Int32.xor_self, Int32.zero_xor]
theorem xr2 (a d h : Int32) : (a ^^^ d) ^^^ h = (a ^^^ h) ^^^ d := by
  rw [Int32.xor_assoc, Int32.xor_comm d h, ← Int32.xor_assoc]
theorem ov_one {x s : Int32} {kk : Nat} {B : Nat → Int32} {p : Nat} (h7 : p < 7) (hb : bt x (nI p)) : ∀ n, n ≤ 7 → itN (ov1 x kk (nI p) s B) 0 n = if p < n then itN (nm x B kk) 0 n ^^^ (hp (B p) kk ^^^ hp (B p - s) kk) else itN (nm x B kk) 0 n
  | 0, _ => by rw [if_neg (by omega)]; rfl
  | n + 1, hn => by
    rw [itN_s, itN_s, ov_one h7 hb n (by omega)]
    by_cases hpn : n = p
    · rw [hpn, if_neg (Nat.lt_irrefl p), if_pos (Nat.lt_succ_self p)]
      unfold ov1 nm
      rw [if_pos hb, if_pos rfl, if_pos hb]
      exact xr1 _ _ _
    · have hne : ¬ nI n = nI p := fun q => hpn ((nI_eq (by omega) (by omega)).mp q)
      by_cases hlt : p < n
      · rw [if_pos hlt, if_pos (show p < n + 1 by omega)]
        unfold ov1 nm
        by_cases hbn : bt x (nI n)
        · rw [if_pos hbn, if_neg hne, if_pos hbn, Int32.sub_zero]
          exact xr2 _ _ _
        · rw [if_neg hbn, if_neg hbn, Int32.xor_zero]
      · rw [if_neg hlt, if_neg (show ¬ p < n + 1 by omega)]
        unfold ov1 nm
        by_cases hbn : bt x (nI n)
        · rw [if_pos hbn, if_neg hne, if_pos hbn, Int32.sub_zero]
        · rw [if_neg hbn, if_neg hbn, Int32.xor_zero]
theorem ov_0 {x s : Int32} {kk : Nat} {B : Nat → Int32} {p : Nat} (h7 : p < 7) (hb : bt x (nI p)) : ovF x kk (nI p) s B = 0 ↔ hp (B p - s) kk = hp (B p) kk ^^^ itN (nm x B kk) 0 7 := by
  unfold ovF
  rw [ov_one h7 hb 7 (by omega), if_pos h7, ← Int32.xor_assoc, Int32.xor_eq_zero_iff, Int32.xor_comm (hp (B p) kk)]
  exact eq_comm
theorem fs_ws {x z : Int32} {kk : Nat} {B : Nat → Int32} {p : Nat} {K : Int32} (h7 : p < 7) (hb : bt x (nI p)) : ∀ n s, n + s < 100 → fsM x z kk B p n s K = if wsF (B p) (hp (B p) kk ^^^ itN (nm x B kk) 0 7) kk n s = -6 then K else if z = 1 then nI p else wsF (B p) (hp (B p) kk ^^^ itN (nm x B kk) 0 7) kk n s
  | 0, s, _ => by rw [fsM, wsF, if_pos rfl]
  | n + 1, s, hs => by
    rw [fsM, wsF]
    by_cases h1 : B p < nI s
    · rw [if_neg (fun q => absurd h1 (Int32.not_lt.mpr q.2)), if_pos h1, if_pos rfl]
    · rw [if_pos ⟨hb, Int32.not_lt.mp h1⟩, if_neg h1]
      by_cases h2 : hp (B p - nI s) kk = hp (B p) kk ^^^ itN (nm x B kk) 0 7
      · rw [if_pos ((ov_0 h7 hb).mpr h2), if_pos h2, if_neg (nI_m6 (by omega))]
      · rw [if_neg (fun q => h2 ((ov_0 h7 hb).mp q)), if_neg h2]
        exact fs_ws h7 hb n (s + 1) (by omega)
theorem fs_no {x z : Int32} {kk : Nat} {B : Nat → Int32} {p : Nat} {K : Int32} (hb : ¬ bt x (nI p)) : ∀ n s, fsM x z kk B p n s K = K
  | 0, s => by rw [fsM]
  | n + 1, s => by rw [fsM, if_neg (fun q => hb q.1)]
theorem fo_fb {x z : Int32} {kk : Nat} {B : Nat → Int32} (hk : kk ≤ 9) : ∀ n p, n + p = 7 → foM x z kk B n p = fbF x z B kk (itN (nm x B kk) 0 7) n p
  | 0, p, _ => by rw [foM, fbF]
  | n + 1, p, h => by
    rw [foM, fbF, fo_fb hk n (p + 1) (by omega)]
    by_cases hb : bt x (nI p)
    · rw [if_pos hb, fs_ws (by omega) hb kk 1 (by omega)]
    · rw [if_neg hb, if_pos rfl, fs_no hb]
theorem fb_cong {x z ni : Int32} {kk : Nat} {b c : Nat → Int32} (h : ∀ i, i < 7 → b i = c i) : ∀ n p, n + p = 7 → fbF x z b kk ni n p = fbF x z c kk ni n p
  | 0, p, _ => by rw [fbF, fbF]
  | n + 1, p, h7 => by
    rw [fbF, fbF, h p (by omega), fb_cong h n (p + 1) (by omega)]
theorem nm_cong {x : Int32} {kk : Nat} {b c : Nat → Int32} (h : ∀ i, i < 7 → b i = c i) : itN (nm x b kk) 0 7 = itN (nm x c kk) 0 7 :=
  itN_cong 7 (fun i hi a => by
    unfold nm
    rw [h i hi])
/-! whose, alike -/
theorem cbA_iff {sz mn pc : Nat → Int32} {dp td pk : Int32} : ∀ n j, cbA sz mn pc dp td pk n j = true ↔ ∀ i, j ≤ i → i < j + n → cbP sz mn pc dp td pk i
  | 0, j => ⟨fun _ i h1 h2 => by omega, fun _ => rfl⟩
  | n + 1, j => by
    rw [cbA]
    by_cases h : cbP sz mn pc dp td pk j
    · rw [if_pos h, cbA_iff n (j + 1)]
      constructor
      · intro q i h1 h2
        by_cases hij : i = j
        · rw [hij]
          exact h
        · exact q i (by omega) (by omega)
      · exact fun q i h1 h2 => q i (by omega) (by omega)
    · rw [if_neg h]
      exact ⟨fun q => absurd q (by decide), fun q => absurd (q j (by omega) (by omega)) h⟩
theorem whS_b {th : Int32} {sz mn pc : Nat → Int32} {dp td : Int32} {pl : Nat → Int32} {c : Nat} : ∀ n, n ≤ 7 → sB (itN (whS th sz mn pc dp td pl c) 0 n) ∧ ∀ p, p < 7 → (bt (itN (whS th sz mn pc dp td pl c) 0 n) (nI p) ↔ (p < n ∧ bt th (nI p) ∧ cbA sz mn pc dp td (pl p) c 0 = true))
  | 0, _ => ⟨sB_0, fun p h7 => ⟨fun q => absurd q (bt_0 p h7), fun q => by omega⟩⟩
  | n + 1, hn => by
    obtain ⟨h1, h2⟩ := whS_b (th := th) (sz := sz) (mn := mn) (pc := pc) (dp := dp) (td := td) (pl := pl) (c := c) n (by omega)
    rw [itN_s]
    by_cases hc : bt th (nI n) ∧ cbA sz mn pc dp td (pl n) c 0 = true
    · have e : whS th sz mn pc dp td pl c n (itN (whS th sz mn pc dp td pl c) 0 n) = itN (whS th sz mn pc dp td pl c) 0 n ||| bv (nI n) := if_pos hc
      rw [e]
      refine ⟨sB_or h1 (by omega), fun p h7 => ?_⟩
      rw [bt_or h1 (by omega) h7, h2 p h7]
      constructor
      · rintro (q | q)
        · exact ⟨by omega, q.2⟩
        · rw [q]
          exact ⟨by omega, hc⟩
      · rintro ⟨q1, q2⟩
        by_cases hpn : p = n
        · exact Or.inr hpn
        · exact Or.inl ⟨by omega, q2⟩
    · have e : whS th sz mn pc dp td pl c n (itN (whS th sz mn pc dp td pl c) 0 n) = itN (whS th sz mn pc dp td pl c) 0 n := if_neg hc
      rw [e]
      refine ⟨h1, fun p h7 => (h2 p h7).trans ⟨fun q => ⟨by omega, q.2⟩, fun q => ⟨?_, q.2⟩⟩⟩
      have : p ≠ n := fun z => hc (z ▸ q.2)
      omega
theorem ws_b {M : mM} {i : Nat} {a : Int32} (ha : sB a) : ∀ n, n ≤ 7 → sB (itN (ws1 M i) a n) ∧ ∀ p, p < 7 → (bt (itN (ws1 M i) a n) (nI p) ↔ (bt a (nI p) ∧ (p < n → wsC M i p)))
  | 0, _ => ⟨ha, fun p h7 => ⟨fun q => ⟨q, fun z => by omega⟩, fun q => q.1⟩⟩
  | n + 1, hn => by
    obtain ⟨h1, h2⟩ := ws_b (M := M) (i := i) ha n (by omega)
    rw [itN_s]
    by_cases hc : wsC M i n
    · have e : ws1 M i n (itN (ws1 M i) a n) = itN (ws1 M i) a n := (if_pos hc).trans Int32.and_neg_one
      rw [e]
      refine ⟨h1, fun p h7 => (h2 p h7).trans ⟨fun q => ⟨q.1, fun z => ?_⟩, fun q => ⟨q.1, fun z => q.2 (by omega)⟩⟩⟩
      by_cases hpn : p = n
      · rw [hpn]
        exact hc
      · exact q.2 (by omega)
    · have e : ws1 M i n (itN (ws1 M i) a n) = itN (ws1 M i) a n &&& nbit (nI n) := if_neg hc
      rw [e]
      refine ⟨sB_and h1 (by omega), fun p h7 => ?_⟩
      rw [bt_and h1 (by omega) h7, h2 p h7]
      constructor
      · rintro ⟨⟨q1, q2⟩, q3⟩
        exact ⟨q1, fun z => q2 (by omega)⟩
      · rintro ⟨q1, q2⟩
        have : ¬ p = n := fun z => hc (z ▸ q2 (by omega))
        exact ⟨⟨q1, fun z => q2 (by omega)⟩, this⟩
theorem whs_b {M : mM} (ha : sB (M 49 0)) : ∀ c, sB (whsM M c) ∧ ∀ p, p < 7 → (bt (whsM M c) (nI p) ↔ (bt (M 49 0) (nI p) ∧ ∀ i, i < c → wsC M i p))
  | 0 => ⟨ha, fun p h7 => ⟨fun q => ⟨q, fun i hi => by omega⟩, fun q => q.1⟩⟩
  | c + 1 => by
    obtain ⟨h1, h2⟩ := whs_b ha c
    have e : whsM M (c + 1) = itN (ws1 M c) (whsM M c) 7 := rfl
    obtain ⟨h3, h4⟩ := ws_b (M := M) (i := c) h1 7 (by omega)
    rw [e]
    refine ⟨h3, fun p h7 => ?_⟩
    rw [h4 p h7, h2 p h7]
    constructor
    · rintro ⟨⟨q1, q2⟩, q3⟩
      refine ⟨q1, fun i hi => ?_⟩
      by_cases hic : i = c
      · rw [hic]
        exact q3 h7
      · exact q2 i (by omega)
    · rintro ⟨q1, q2⟩
      exact ⟨⟨q1, fun i hi => q2 i (by omega)⟩, fun _ => q2 c (by omega)⟩
theorem whose_eq {M N : mM} {c : Nat} (h1 : M 2 3 = N 49 0) (hs : sB (N 49 0)) (h2 : M 2 5 = N 49 2) (h3 : M 2 6 = N 53 9) (h4 : ∀ p, p < 7 → M 3 p = N 50 p) (hg : ∀ i, i < c → M 9 i = N 52 (0 + 3 * i) ∧ M 10 i = N 52 (1 + 3 * i) ∧ M 11 i = N 52 (2 + 3 * i) ∧ 1 ≤ M 9 i) : whoF M c = whsM N c ∧ sB (whsM N c) := by
  obtain ⟨g1, g2⟩ := whs_b hs c
  obtain ⟨f1, f2⟩ := whS_b (th := M 2 3) (sz := M 9) (mn := M 10) (pc := M 11) (dp := M 2 5) (td := M 2 6) (pl := M 3) (c := c) 7 (by omega)
  refine ⟨sB_ext f1 g1 (fun p h7 => ?_), g1⟩
  rw [g2 p h7]
  refine (f2 p h7).trans ?_
  rw [cbA_iff, h1]
  have hcb : ∀ i, i < c → (cbP (M 9) (M 10) (M 11) (M 2 5) (M 2 6) (M 3 p) i ↔ wsC N i p) := fun i hi => by
    obtain ⟨a1, a2, a3, a4⟩ := hg i hi
    have hu : fUp (N 49 2) (N 52 (0 + 3 * i)) = mUp N (N 52 (0 + 3 * i)) := up_eq (a1 ▸ a4)
    unfold cbP wsC
    rw [a1, a2, a3, h2, h3, h4 p h7, hu]
  constructor
  · rintro ⟨-, q1, q2⟩
    exact ⟨q1, fun i hi => (hcb i hi).mp (q2 i (by omega) (by omega))⟩
  · rintro ⟨q1, q2⟩
    exact ⟨h7, q1, fun i _ hi => (hcb i (by omega)).mpr (q2 i (by omega))⟩
theorem al_bit : ∀ w, w < 128 → ∀ p, p < 7 → ∀ q, q < 7 → ((bv (nI p) ||| bv (nI q)) &&& (nI w ^^^ (-1)) = 0 ↔ (bt (nI w) (nI p) ∧ bt (nI w) (nI q))) := by decide +kernel
theorem al_eq {w : Int32} {b c : Nat → Int32} (hw : sB w) (h : ∀ i, i < 7 → b i = c i) {p q : Nat} (h1 : p < 7) (h2 : q < 7) : alC w b p q = alN w c p q := by
  obtain ⟨a, ha, rfl⟩ := hw
  unfold alC alN
  rw [h p h1, h q h2]
  exact decide_eq_decide.mpr (by rw [al_bit a ha p h1 q h2, and_assoc])
theorem aIn_cong {C D : Nat → Nat → Bool} {x : Int32} {p : Nat} (h : ∀ q, q < 7 → C p q = D p q) : ∀ n q c, n + q ≤ 7 → aIn C x p n q c = aIn D x p n q c
  | 0, q, c, _ => by rw [aIn, aIn]
  | n + 1, q, c, h7 => by
    rw [aIn, aIn, h q (by omega), aIn_cong h n (q + 1) _ (by omega), aIn_cong h n (q + 1) _ (by omega)]
theorem aOut_cong {C D : Nat → Nat → Bool} {x : Int32} (h : ∀ p q, p < 7 → q < 7 → C p q = D p q) : ∀ n p c, n + p = 7 → aOut C x n p c = aOut D x n p c
  | 0, p, c, _ => by rw [aOut, aOut]
  | n + 1, p, c, h7 => by
    rw [aOut, aOut, aIn_cong (fun q hq => h p q (by omega) hq) (6 - p) (p + 1) c (by omega)]
    cases aIn D x p (6 - p) (p + 1) c with
    | inl r => rfl
    | inr d => exact aOut_cong h n (p + 1) d (by omega)
