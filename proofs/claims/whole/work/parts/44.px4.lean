/-! call by call: sittings, days, images -/
theorem cpR_at {M : mM} {d s lo hi i : Nat} (h : lo ≤ i) (h2 : i < hi) : cpR M d s lo hi d i = M s i := if_pos ⟨rfl, h, h2⟩
theorem cpR_o {M : mM} {d s lo hi a b : Nat} (h : ¬ (a = d ∧ lo ≤ b ∧ b < hi)) : cpR M d s lo hi a b = M a b := if_neg h

theorem cLg_0 {M : mM} {d s i : Nat} (hd : d + 6 ≤ s ∨ s + 6 ≤ d) (h1 : 3 ≤ i) (h2 : i < 8) : cLg M d s (d + 0) i = M (s + 0) i := by
    simp only [cHs, cSg, cLg, cBk, cpR, true_and]
    repeat (first | rw [if_neg (by omega)] | rw [if_pos (by omega)])
    all_goals rfl
theorem cLg_1 {M : mM} {d s i : Nat} (hd : d + 6 ≤ s ∨ s + 6 ≤ d) (h1 : 0 ≤ i) (h2 : i < 7) : cLg M d s (d + 1) i = M (s + 1) i := by
    simp only [cHs, cSg, cLg, cBk, cpR, true_and]
    repeat (first | rw [if_neg (by omega)] | rw [if_pos (by omega)])
    all_goals rfl
theorem cLg_2 {M : mM} {d s i : Nat} (hd : d + 6 ≤ s ∨ s + 6 ≤ d) (h1 : 0 ≤ i) (h2 : i < 7) : cLg M d s (d + 2) i = M (s + 2) i := by
    simp only [cHs, cSg, cLg, cBk, cpR, true_and]
    repeat (first | rw [if_neg (by omega)] | rw [if_pos (by omega)])
    all_goals rfl
theorem cLg_3 {M : mM} {d s i : Nat} (hd : d + 6 ≤ s ∨ s + 6 ≤ d) (h1 : 2 ≤ i) (h2 : i < 4) : cLg M d s (d + 3) i = M (s + 3) i := by
    simp only [cHs, cSg, cLg, cBk, cpR, true_and]
    repeat (first | rw [if_neg (by omega)] | rw [if_pos (by omega)])
    all_goals rfl
theorem cLg_4 {M : mM} {d s i : Nat} (hd : d + 6 ≤ s ∨ s + 6 ≤ d) (h1 : 0 ≤ i) (h2 : i < 32) : cLg M d s (d + 4) i = M (s + 4) i := by
    simp only [cHs, cSg, cLg, cBk, cpR, true_and]
    repeat (first | rw [if_neg (by omega)] | rw [if_pos (by omega)])
    all_goals rfl
theorem cLg_5 {M : mM} {d s i : Nat} (hd : d + 6 ≤ s ∨ s + 6 ≤ d) (h1 : 0 ≤ i) (h2 : i < 32) : cLg M d s (d + 5) i = M (s + 5) i := by
    simp only [cHs, cSg, cLg, cBk, cpR, true_and]
    repeat (first | rw [if_neg (by omega)] | rw [if_pos (by omega)])
    all_goals rfl
theorem cHs_1 {M : mM} {d s i : Nat} (hd : d + 12 ≤ s ∨ s + 12 ≤ d) (h1 : 3 ≤ i) (h2 : i < 8) : cHs M d s (d + 1) i = M (s + 1) i := by
    simp only [cHs, cSg, cLg, cBk, cpR, true_and]
    repeat (first | rw [if_neg (by omega)] | rw [if_pos (by omega)])
    all_goals rfl
theorem cHs_2 {M : mM} {d s i : Nat} (hd : d + 12 ≤ s ∨ s + 12 ≤ d) (h1 : 0 ≤ i) (h2 : i < 7) : cHs M d s (d + 2) i = M (s + 2) i := by
    simp only [cHs, cSg, cLg, cBk, cpR, true_and]
    repeat (first | rw [if_neg (by omega)] | rw [if_pos (by omega)])
    all_goals rfl
theorem cHs_3 {M : mM} {d s i : Nat} (hd : d + 12 ≤ s ∨ s + 12 ≤ d) (h1 : 0 ≤ i) (h2 : i < 7) : cHs M d s (d + 3) i = M (s + 3) i := by
    simp only [cHs, cSg, cLg, cBk, cpR, true_and]
    repeat (first | rw [if_neg (by omega)] | rw [if_pos (by omega)])
    all_goals rfl
theorem cHs_4 {M : mM} {d s i : Nat} (hd : d + 12 ≤ s ∨ s + 12 ≤ d) (h1 : 2 ≤ i) (h2 : i < 4) : cHs M d s (d + 4) i = M (s + 4) i := by
    simp only [cHs, cSg, cLg, cBk, cpR, true_and]
    repeat (first | rw [if_neg (by omega)] | rw [if_pos (by omega)])
    all_goals rfl
theorem cHs_5 {M : mM} {d s i : Nat} (hd : d + 12 ≤ s ∨ s + 12 ≤ d) (h1 : 0 ≤ i) (h2 : i < 32) : cHs M d s (d + 5) i = M (s + 5) i := by
    simp only [cHs, cSg, cLg, cBk, cpR, true_and]
    repeat (first | rw [if_neg (by omega)] | rw [if_pos (by omega)])
    all_goals rfl
theorem cHs_6 {M : mM} {d s i : Nat} (hd : d + 12 ≤ s ∨ s + 12 ≤ d) (h1 : 0 ≤ i) (h2 : i < 32) : cHs M d s (d + 6) i = M (s + 6) i := by
    simp only [cHs, cSg, cLg, cBk, cpR, true_and]
    repeat (first | rw [if_neg (by omega)] | rw [if_pos (by omega)])
    all_goals rfl
theorem cHs_7 {M : mM} {d s i : Nat} (hd : d + 12 ≤ s ∨ s + 12 ≤ d) (h1 : 3 ≤ i) (h2 : i < 4) : cHs M d s (d + 7) i = M (s + 7) i := by
    simp only [cHs, cSg, cLg, cBk, cpR, true_and]
    repeat (first | rw [if_neg (by omega)] | rw [if_pos (by omega)])
    all_goals rfl
theorem cHs_8 {M : mM} {d s i : Nat} (hd : d + 12 ≤ s ∨ s + 12 ≤ d) (h1 : 0 ≤ i) (h2 : i < 8) : cHs M d s (d + 8) i = M (s + 8) i := by
    simp only [cHs, cSg, cLg, cBk, cpR, true_and]
    repeat (first | rw [if_neg (by omega)] | rw [if_pos (by omega)])
    all_goals rfl
theorem cHs_9 {M : mM} {d s i : Nat} (hd : d + 12 ≤ s ∨ s + 12 ≤ d) (h1 : 0 ≤ i) (h2 : i < 8) : cHs M d s (d + 9) i = M (s + 9) i := by
    simp only [cHs, cSg, cLg, cBk, cpR, true_and]
    repeat (first | rw [if_neg (by omega)] | rw [if_pos (by omega)])
    all_goals rfl
theorem cHs_10 {M : mM} {d s i : Nat} (hd : d + 12 ≤ s ∨ s + 12 ≤ d) (h1 : 0 ≤ i) (h2 : i < 8) : cHs M d s (d + 10) i = M (s + 10) i := by
    simp only [cHs, cSg, cLg, cBk, cpR, true_and]
    repeat (first | rw [if_neg (by omega)] | rw [if_pos (by omega)])
    all_goals rfl
theorem cHs_11 {M : mM} {d s i : Nat} (hd : d + 12 ≤ s ∨ s + 12 ≤ d) (h1 : 0 ≤ i) (h2 : i < 6) : cHs M d s (d + 11) i = M (s + 11) i := by
    simp only [cHs, cSg, cLg, cBk, cpR, true_and]
    repeat (first | rw [if_neg (by omega)] | rw [if_pos (by omega)])
    all_goals rfl
theorem cHs_ne {M : mM} {d s a : Nat} (h : a < d + 1 ∨ d + 11 < a) : cHs M d s a = M a := by
  funext b
  simp only [cHs, cSg, cLg, cBk, cpR, true_and]
  repeat (first | rw [if_neg (by omega)] | rw [if_pos (by omega)])

/-- the trial against now, at a sitting's or a day's start -/
theorem TR_start {M N A C : mM} (g : Rel M) (hA : ∀ a, a < 6 → A (38 + a) = cLg M 38 2 (38 + a)) (h54 : ∀ i, i < 107 → C 54 i = N 53 i) (h53 : N 53 = M 53) (h50 : C 50 = M 50) (h490 : C 49 0 = M 49 0) (h492 : C 49 2 = M 49 2) : TR A C := by
  unfold TR
  rw [h50, h490, h492]
  refine LR_cong (R_L g) (fun i h3 h8 => ?_) (fun i hi => ?_) (fun i hi => ?_) (fun i h2 h4 => ?_) (fun i hi => ?_) (fun i hi => ?_) (fun i hi => by rw [h54 i hi, h53]) (fun _ _ => rfl)
  · exact (congrFun (hA 0 (by omega)) i).trans (cLg_0 (by omega) h3 h8)
  · exact (congrFun (hA 1 (by omega)) i).trans (cLg_1 (by omega) (by omega) hi)
  · exact (congrFun (hA 2 (by omega)) i).trans (cLg_2 (by omega) (by omega) hi)
  · exact (congrFun (hA 3 (by omega)) i).trans (cLg_3 (by omega) h2 h4)
  · exact (congrFun (hA 4 (by omega)) i).trans (cLg_4 (by omega) (by omega) hi)
  · exact (congrFun (hA 5 (by omega)) i).trans (cLg_5 (by omega) (by omega) hi)
theorem tryM_ne {M : mM} {n b : Nat} (hb : b < 38 ∨ 46 < b ∨ b = 44 ∨ b = 45) : tryM M n b = M b := by
  unfold tryM
  rw [fRun_ne (by omega), mU_ne _ (by omega), mU_ne _ (by omega), cLg_ne (by omega)]
theorem goM_ne {M : mM} {n b : Nat} (hb : b ≠ 49) (hb2 : b ≠ 54) : (goM M n).2 b = M b := by
  unfold goM
  rw [mRun_ne hb hb2, mU_ne _ hb, cpR_ne hb2]
theorem goM_49 {M : mM} {n j : Nat} (hj : j < 10) : (goM M n).2 49 j = M 49 j := by
  unfold goM
  rw [mRun_49 hj, mU_o (by omega), cpR_ne (by omega)]
theorem sit_pair {M N : mM} (g : Rel M) {n : Nat} (hn : M 44 1 = nI n) (h60 : n ≤ 60) (hfl : cFl (M 45) n 61 0 = -6) (h53 : N 53 = M 53) (h50 : N 50 = M 50) (h49 : ∀ j, j < 10 → N 49 j = M 49 j) (h55 : N 55 = M 55) :
    cFl (N 55) n 61 0 = -6 ∧
    ((tryM M n 46 1 = 0 ∧ (goM N n).1 = -6 ∧ TR (tryM M n) (goM N n).2 ∧ ∃ t', t' ≤ 60 ∧ tryM M n 46 0 = nI t' ∧ (goM N n).2 49 11 = nI t') ∨
    ((¬ tryM M n 46 1 = 0) ∧ (goM N n).2 49 10 = tryM M n 46 1 ∧ ∃ t', t' ≤ 60 ∧ tryM M n 46 0 = nI t' ∧ (goM N n).1 = nI t')) := by
  obtain ⟨k, p1, p2, p3, p4⟩ := R_pad g
  have hkn : k = n := (nI_eq (by omega) (by omega)).mp (p1.symm.trans hn)
  rw [hkn] at p4
  have hS : ∀ i, i < n → M 45 i = N 55 i := fun i hi => by
    rw [h55]
    exact p4 i hi
  refine ⟨by rw [← cFl_cong hS]; exact hfl, ?_⟩
  refine run_pair h60 hS 61 0 (mU (mU (cLg M 38 2) 46 0 0) 46 1 0) (mU (cpR N 54 53 0 107) 49 11 0) 0 hfl ?_ mU_at ?_ mU_at (by omega) (by omega)
  · refine TR_start (N := N) g (fun a ha => by rw [mU_ne _ (by omega), mU_ne _ (by omega)]) (fun i hi => ?_) h53 ?_ ?_ ?_
    · rw [mU_ne _ (by omega)]
      exact cpR_at (by omega) hi
    · rw [mU_ne _ (by omega), cpR_ne (by omega), h50]
    · rw [mU_o (by omega), cpR_ne (by omega), h49 0 (by omega)]
    · rw [mU_o (by omega), cpR_ne (by omega), h49 2 (by omega)]
  · rw [mU_o (by omega), mU_at]
    rfl
/-- what a sitting leaves behind on the scratch cells is none of the relation's business -/
theorem Rel_go {M : mM} (g : Rel M) {n : Nat} : Rel (goM (tryM M n) n).2 :=
  Rel_cong g (fun a h49 ha => by rw [goM_ne (by omega) (by omega), tryM_ne (by omega)]) (fun j hj => by rw [goM_49 hj, tryM_ne (by omega)])
theorem sit_one {M : mM} (g : Rel M) {n : Nat} (hn : M 44 1 = nI n) (h60 : n ≤ 60) (hfl : cFl (M 45) n 61 0 = -6) :
    cFl (tryM M n 55) n 61 0 = -6 ∧
    ((tryM M n 46 1 = 0 ∧ (goM (tryM M n) n).1 = -6 ∧ TR (tryM M n) (goM (tryM M n) n).2 ∧ ∃ t', t' ≤ 60 ∧ tryM M n 46 0 = nI t' ∧ (goM (tryM M n) n).2 49 11 = nI t') ∨
    ((¬ tryM M n 46 1 = 0) ∧ (goM (tryM M n) n).2 49 10 = tryM M n 46 1 ∧ ∃ t', t' ≤ 60 ∧ tryM M n 46 0 = nI t' ∧ (goM (tryM M n) n).1 = nI t')) :=
  sit_pair g hn h60 hfl (tryM_ne (by omega)) (tryM_ne (by omega)) (fun j _ => congrFun (tryM_ne (by omega)) j) (tryM_ne (by omega))
theorem pad_55 {M : mM} (g : Rel M) {n : Nat} (hn : M 44 1 = nI n) (h60 : n ≤ 60) : cFl (M 55) n 61 0 = cFl (M 45) n 61 0 := by
  obtain ⟨k, p1, p2, p3, p4⟩ := R_pad g
  have hkn : k = n := (nI_eq (by omega) (by omega)).mp (p1.symm.trans hn)
  rw [hkn] at p4
  exact (cFl_cong p4 61 0).symm
theorem m6_lt {t : Nat} (h : t ≤ 60) : ¬ nI t < 0 := nI_pos (by omega)

theorem px_judge {M M1 M2 : mM} {r0 r1 : Int32} {x : Int32} {n : Nat} (hn : M 44 1 = nI n) (h60 : n ≤ 60) (hwf : WFn M) (hnm : M1 49 8 = nI n) (h60m : n ≤ 60) (hwfm : WNb M1) (g : Rel M) (h1 : r0 = (if 0 ≤ x ∧ x ≤ 1 then (if cFl (M 45) n 61 0 = -6 then (if okT M n then -6 else if x = 0 then tryT M n 46 0 else tryT M n 46 1) else -5) else -2) ∧ M1 = (if 0 ≤ x ∧ x ≤ 1 then tryT M n else M)) (h2 : r1 = (if 0 ≤ x ∧ x ≤ 1 then (if cFl (M1 55) n 61 0 = -6 then (if (goM M1 n).1 < 0 ∨ x = 0 then (goM M1 n).1 else (goM M1 n).2 49 10) else -5) else -2) ∧ M2 = (if 0 ≤ x ∧ x ≤ 1 then goT M1 n else M1)) : r0 = r1 ∧ Rel M2 := by
  have hM := h1.2
  rw [h1.1, h2.1, h2.2]
  by_cases hx : 0 ≤ x ∧ x ≤ 1
  · rw [if_pos hx] at hM
    rw [if_pos hx, if_pos hx, if_pos hx, hM]
    by_cases hf : cFl (M 45) n 61 0 = -6
    · obtain ⟨q1, q2⟩ := sit_one g hn h60 hf
      have eT : tryT M n = tryM M n := if_pos hf
      have eG : goT (tryM M n) n = (goM (tryM M n) n).2 := if_pos q1
      rw [eT, if_pos hf, if_pos q1, eG]
      refine ⟨?_, Rel_go g⟩
      rcases q2 with ⟨a1, a2, a3, t, a4, a5, a6⟩ | ⟨a1, a2, t, a3, a4, a5⟩
      · rw [if_pos ⟨hf, a1⟩, a2, if_pos (Or.inl (by decide))]
      · rw [if_neg (fun q => a1 q.2), a5, a4, a2]
        rcases two_cases hx with h | h
        · rw [if_pos h, if_pos (Or.inr h)]
        · have h0 : ¬ x = 0 := by
            rw [h]
            decide
          rw [if_neg h0, if_neg (fun q => q.elim (m6_lt a3) h0)]
    · have eT : tryT M n = M := if_neg hf
      have hf2 : ¬ cFl (M 55) n 61 0 = -6 := by
        rw [pad_55 g hn h60]
        exact hf
      have eG : goT M n = M := if_neg hf2
      rw [eT, if_neg hf, if_neg hf2, eG]
      exact ⟨rfl, g⟩
  · rw [if_neg hx] at hM
    rw [if_neg hx, if_neg hx, if_neg hx, hM]
    exact ⟨rfl, g⟩

/-- what changes the lagoon and the pad -/
theorem Rel_LP {M N : mM} (g : Rel M) (hL : LRn N) (hp : RelP N) (h : ∀ a, a ≠ 49 → ((8 ≤ a ∧ a < 38) ∨ a = 51 ∨ a = 52 ∨ a = 59 ∨ a = 60) → N a = M a) (h49 : N 49 4 = M 49 4) : Rel N := by
  obtain ⟨⟨-, k2, k3⟩, g2, g3, g4⟩ := g
  refine ⟨⟨hL, ?_, ?_⟩, hp, Img_cong g3 (fun a ha => h _ (by omega) (by omega)) (h _ (by omega) (by omega)) (congrFun (h 60 (by omega) (by omega)) 0), Img_cong g4 (fun a ha => h _ (by omega) (by omega)) (h _ (by omega) (by omega)) (congrFun (h 60 (by omega) (by omega)) 1)⟩
  · show ∀ i, i < 6 → N 12 i = N 51 i
    rw [h 12 (by omega) (by omega), h 51 (by omega) (by omega)]
    exact k2
  · show ∃ n, N 8 3 = nI n ∧ N 49 4 = nI n ∧ n ≤ 8 ∧ ∀ i, i < n → N 9 i = N 52 (0 + 3 * i) ∧ N 10 i = N 52 (1 + 3 * i) ∧ N 11 i = N 52 (2 + 3 * i) ∧ 1 ≤ N 9 i
    rw [h 8 (by omega) (by omega), h 9 (by omega) (by omega), h 10 (by omega) (by omega), h 11 (by omega) (by omega), h 52 (by omega) (by omega), h49]
    exact k3
theorem Rel_done {M D : mM} (g : Rel M) {n : Nat} (hD : D = mU (cLg (tryM M n) 2 38) 44 1 0) (hT : TR (tryM M n) (goM D n).2) : Rel (mU (cpR (goM D n).2 53 54 0 107) 49 8 0) := by
  have eD : ∀ a, ¬ (2 ≤ a ∧ a ≤ 7) → a ≠ 44 → D a = tryM M n a := fun a x1 x2 => by
    rw [hD, mU_ne _ (by omega), cLg_ne (by omega)]
  have eF : ∀ a, ¬ (2 ≤ a ∧ a ≤ 7) → a ≠ 44 → a ≠ 49 → a ≠ 53 → a ≠ 54 → mU (cpR (goM D n).2 53 54 0 107) 49 8 0 a = tryM M n a := fun a x1 x2 x3 x4 x5 => by
    rw [mU_ne _ x3, cpR_ne x4, goM_ne x3 x5, eD a x1 x2]
  have e49 : ∀ j, j < 8 → mU (cpR (goM D n).2 53 54 0 107) 49 8 0 49 j = (goM D n).2 49 j := fun j hj => by
    rw [mU_o (by omega), cpR_ne (by omega)]
  have eL : ∀ a, a < 6 → mU (cpR (goM D n).2 53 54 0 107) 49 8 0 (2 + a) = cLg (tryM M n) 2 38 (2 + a) := fun a ha => by
    rw [mU_ne _ (by omega), cpR_ne (by omega), goM_ne (by omega) (by omega), hD, mU_ne _ (by omega)]
  refine Rel_LP g ?_ ⟨0, ?_, ?_, by omega, fun i hi => by omega⟩ (fun a h49 ha => by rw [eF a (by omega) (by omega) (by omega) (by omega) (by omega), tryM_ne (by omega)]) ?_
  · show LR _ (mU (cpR (goM D n).2 53 54 0 107) 49 8 0 53) (mU (cpR (goM D n).2 53 54 0 107) 49 8 0 50) (mU (cpR (goM D n).2 53 54 0 107) 49 8 0 49 0) (mU (cpR (goM D n).2 53 54 0 107) 49 8 0 49 2)
    rw [e49 0 (by omega), e49 2 (by omega)]
    refine LR_cong hT (fun i h3 h8 => ?_) (fun i hi => ?_) (fun i hi => ?_) (fun i h2 h4 => ?_) (fun i hi => ?_) (fun i hi => ?_) (fun i hi => ?_) (fun i hi => ?_)
    · exact (congrFun (eL 0 (by omega)) i).trans (cLg_0 (by omega) h3 h8)
    · exact (congrFun (eL 1 (by omega)) i).trans (cLg_1 (by omega) (by omega) hi)
    · exact (congrFun (eL 2 (by omega)) i).trans (cLg_2 (by omega) (by omega) hi)
    · exact (congrFun (eL 3 (by omega)) i).trans (cLg_3 (by omega) h2 h4)
    · exact (congrFun (eL 4 (by omega)) i).trans (cLg_4 (by omega) (by omega) hi)
    · exact (congrFun (eL 5 (by omega)) i).trans (cLg_5 (by omega) (by omega) hi)
    · rw [mU_ne _ (by omega)]
      exact cpR_at (by omega) hi
    · rw [mU_ne _ (by omega), cpR_ne (by omega)]
  · rw [mU_ne _ (by omega), cpR_ne (by omega), goM_ne (by omega) (by omega), hD, mU_at]
    rfl
  · rw [mU_at]
    rfl
  · rw [e49 4 (by omega), goM_49 (by omega), eD 49 (by omega) (by omega), tryM_ne (by omega)]

theorem px_done {M M1 M2 : mM} {r0 r1 : Int32} {n : Nat} (hn : M 44 1 = nI n) (h60 : n ≤ 60) (hwf : WFn M) (hnm : M1 49 8 = nI n) (h60m : n ≤ 60) (hwfm : WNb M1) (g : Rel M) (h1 : r0 = (if okT M n then tryT M n 46 0 else -5) ∧ M1 = (if okT M n then mU (cLg (tryT M n) 2 38) 44 1 0 else tryT M n)) (h2 : r1 = (if okG M1 n then goT M1 n 49 11 else -5) ∧ M2 = (if okG M1 n then mU (cpR (goT M1 n) 53 54 0 107) 49 8 0 else goT M1 n)) : r0 = r1 ∧ Rel M2 := by
  have hM := h1.2
  rw [h1.1, h2.1, h2.2]
  by_cases hf : cFl (M 45) n 61 0 = -6
  · have eT : tryT M n = tryM M n := if_pos hf
    by_cases hw : tryM M n 46 1 = 0
    · have hok : okT M n := ⟨hf, hw⟩
      rw [if_pos hok, eT] at hM
      have eD : ∀ a, ¬ (2 ≤ a ∧ a ≤ 7) → ¬ (38 ≤ a ∧ a ≤ 46) → M1 a = M a := fun a x1 x2 => by
        rw [hM, mU_ne _ (by omega), cLg_ne (by omega), tryM_ne (by omega)]
      obtain ⟨q1, q2⟩ := sit_pair (N := M1) g hn h60 hf (eD 53 (by omega) (by omega)) (eD 50 (by omega) (by omega)) (fun j _ => congrFun (eD 49 (by omega) (by omega)) j) (eD 55 (by omega) (by omega))
      rcases q2 with ⟨a1, a2, a3, t, a4, a5, a6⟩ | ⟨a1, -⟩
      · have hG : okG M1 n := ⟨q1, by rw [a2]; decide⟩
        have eG : goT M1 n = (goM M1 n).2 := if_pos q1
        rw [if_pos hok, if_pos hG, if_pos hG, eG, eT]
        exact ⟨a5.trans a6.symm, Rel_done g hM a3⟩
      · exact absurd hw a1
    · have hok : ¬ okT M n := fun q => hw q.2
      rw [if_neg hok, eT] at hM
      obtain ⟨q1, q2⟩ := sit_one g hn h60 hf
      rw [← hM] at q1 q2
      rcases q2 with ⟨a1, -⟩ | ⟨a1, a2, t, a3, a4, a5⟩
      · rw [hM] at a1
        exact absurd a1 hw
      · have hG : ¬ okG M1 n := fun q => m6_lt a3 (a5 ▸ q.2)
        have eG : goT M1 n = (goM M1 n).2 := if_pos q1
        rw [if_neg hok, if_neg hG, if_neg hG, eG, hM]
        exact ⟨rfl, Rel_go g⟩
  · have hok : ¬ okT M n := fun q => hf q.1
    have eT : tryT M n = M := if_neg hf
    rw [if_neg hok, eT] at hM
    have hf2 : ¬ cFl (M 55) n 61 0 = -6 := by
      rw [pad_55 g hn h60]
      exact hf
    have hG : ¬ okG M n := fun q => hf2 q.1
    have eG : goT M n = M := if_neg hf2
    rw [hM, if_neg hok, if_neg hG, if_neg hG, eG]
    exact ⟨rfl, g⟩

theorem bt_bit : ∀ a, a < 128 → ∀ p, p < 7 → (nI a >>> (nI p &&& 31)) &&& 1 = bI (bt (nI a) (nI p)) := by decide +kernel
/-- three ways a sitting of behind and then can go: answers, and what stands after -/
theorem sit_try {M : mM} (g : Rel M) {n : Nat} (hn : M 44 1 = nI n) (h60 : n ≤ 60) : Rel (goT (tryT M n) n) ∧ (tryT M n 49 = M 49) ∧ ((okT M n ∧ okG (tryT M n) n ∧ TR (tryT M n) (goT (tryT M n) n)) ∨ ((¬ okT M n) ∧ ¬ okG (tryT M n) n)) := by
  by_cases hf : cFl (M 45) n 61 0 = -6
  · have eT : tryT M n = tryM M n := if_pos hf
    obtain ⟨q1, q2⟩ := sit_one g hn h60 hf
    have eG : goT (tryM M n) n = (goM (tryM M n) n).2 := if_pos q1
    rw [eT, eG]
    refine ⟨Rel_go g, tryM_ne (by omega), ?_⟩
    rcases q2 with ⟨a1, a2, a3, -⟩ | ⟨a1, a2, t, a3, a4, a5⟩
    · exact Or.inl ⟨⟨hf, a1⟩, ⟨q1, by rw [a2]; decide⟩, a3⟩
    · exact Or.inr ⟨fun q => a1 q.2, fun q => m6_lt a3 (a5 ▸ q.2)⟩
  · have eT : tryT M n = M := if_neg hf
    have hf2 : ¬ cFl (M 55) n 61 0 = -6 := by
      rw [pad_55 g hn h60]
      exact hf
    have eG : goT M n = M := if_neg hf2
    rw [eT, eG]
    exact ⟨g, rfl, Or.inr ⟨fun q => hf q.1, fun q => hf2 q.1⟩⟩

theorem px_behind {M M1 M2 : mM} {r0 r1 : Int32} {x y : Int32} {n : Nat} (hn : M 44 1 = nI n) (h60 : n ≤ 60) (hwf : WFn M) (hnm : M1 49 8 = nI n) (h60m : n ≤ 60) (hwfm : WNb M1) (g : Rel M) (h1 : r0 = (if gT M x then (if 0 ≤ y ∧ y ≤ 1 then (if okT M n then (if y = 0 then f7 (tryT M n 40) x else bI (0 ≤ x ∧ x ≤ 6 ∧ bt (tryT M n 38 4) x)) else -5) else -2) else -1) ∧ M1 = (if gT M x then (if 0 ≤ y ∧ y ≤ 1 then tryT M n else M) else M)) (h2 : r1 = (if hT M1 x then (if 0 ≤ y ∧ y ≤ 1 then (if okG M1 n then (if y = 0 then goT M1 n 54 x.toNatClampNeg else (goT M1 n 54 7 >>> (x &&& 31)) &&& 1) else -5) else -2) else -1) ∧ M2 = (if hT M1 x then (if 0 ≤ y ∧ y ≤ 1 then goT M1 n else M1) else M1)) : r0 = r1 ∧ Rel M2 := by
  have hM := h1.2
  rw [h1.1, h2.1, h2.2]
  obtain ⟨s1, s2, s3⟩ := sit_try g hn h60
  have eT : gT M x ↔ hT M x := by
    unfold gT hT
    rw [(R_th g).1]
  have eT2 : hT (tryT M n) x ↔ hT M x := by
    unfold hT
    rw [s2]
  by_cases hg : gT M x
  · have hh := eT.mp hg
    rw [if_pos hg] at hM
    by_cases hy : 0 ≤ y ∧ y ≤ 1
    · rw [if_pos hy] at hM
      rw [hM, if_pos hg, if_pos (eT2.mpr hh), if_pos (eT2.mpr hh), if_pos hy, if_pos hy, if_pos hy]
      refine ⟨?_, s1⟩
      rcases s3 with ⟨a1, a2, a3⟩ | ⟨a1, a2⟩
      · rw [if_pos a1, if_pos a2]
        obtain ⟨k, hk, ek⟩ := gM_nat ⟨hg.1, hg.2.1⟩
        rw [ek, f7v hk, nI_clamp (show k < 2 ^ 31 by omega)]
        have e1 : tryT M n 40 k = goT (tryT M n) n 54 k := (a3.2.1 k hk).1
        have e2 : tryT M n 38 4 = goT (tryT M n) n 54 7 := a3.2.2.2.1.1
        obtain ⟨b, hb, eb⟩ := a3.2.2.2.1.2
        rw [e1, e2, eb]
        by_cases hy0 : y = 0
        · rw [if_pos hy0, if_pos hy0]
        · rw [if_neg hy0, if_neg hy0]
          exact (bI_cong ⟨fun q => q.2.2, fun q => ⟨(sm7 hk).1, (sm7 hk).2, q⟩⟩).trans (bt_bit b hb k hk).symm
      · rw [if_neg a1, if_neg a2]
    · rw [if_neg hy] at hM
      rw [hM, if_pos hg, if_pos hh, if_pos hh, if_neg hy, if_neg hy, if_neg hy]
      exact ⟨rfl, g⟩
  · have hh : ¬ hT M x := fun q => hg (eT.mpr q)
    rw [if_neg hg] at hM
    rw [hM, if_neg hg, if_neg hh, if_neg hh]
    exact ⟨rfl, g⟩

theorem px_then {M M1 M2 : mM} {r0 r1 : Int32} {x : Int32} {n : Nat} (hn : M 44 1 = nI n) (h60 : n ≤ 60) (hwf : WFn M) (hnm : M1 49 8 = nI n) (h60m : n ≤ 60) (hwfm : WNb M1) (g : Rel M) (h1 : r0 = (if 0 ≤ x ∧ x ≤ 3 then (if okT M n then sel4 x (tryT M n 38 4) (tryT M n 38 7) (tryT M n 38 6) (tryT M n 41 3) else -5) else -2) ∧ M1 = (if 0 ≤ x ∧ x ≤ 3 then tryT M n else M)) (h2 : r1 = (if 0 ≤ x ∧ x ≤ 3 then (if okG M1 n then goT M1 n 54 (7 + x).toNatClampNeg else -5) else -2) ∧ M2 = (if 0 ≤ x ∧ x ≤ 3 then goT M1 n else M1)) : r0 = r1 ∧ Rel M2 := by
  have hM := h1.2
  rw [h1.1, h2.1, h2.2]
  obtain ⟨s1, s2, s3⟩ := sit_try g hn h60
  by_cases hx : 0 ≤ x ∧ x ≤ 3
  · rw [if_pos hx] at hM
    rw [hM, if_pos hx, if_pos hx, if_pos hx]
    refine ⟨?_, s1⟩
    rcases s3 with ⟨a1, a2, a3⟩ | ⟨a1, a2⟩
    · rw [if_pos a1, if_pos a2]
      obtain ⟨k, hk, ek⟩ := ix (n := 3) (by decide) hx.1 hx.2
      have e7 : (7 + x).toNatClampNeg = 7 + k := by
        rw [ek, show (7 : Int32) = nI 7 from rfl, nI_add, nI_clamp (by omega)]
      rw [e7, ek]
      have e1 : tryT M n 38 4 = goT (tryT M n) n 54 7 := a3.2.2.2.1.1
      have e2 : tryT M n 38 7 = goT (tryT M n) n 54 8 := a3.2.2.2.2.2.2.1.1
      have e3 : tryT M n 38 6 = goT (tryT M n) n 54 9 := a3.2.2.2.2.2.1.1
      obtain ⟨wd, nb, T, b1, b2, b3, -⟩ := a3.2.2.2.2.2.2.2
      have e4 : tryT M n 41 3 = goT (tryT M n) n 54 10 := b2.trans b3.symm
      rw [e1, e2, e3, e4]
      have hk4 : k = 0 ∨ k = 1 ∨ k = 2 ∨ k = 3 := by omega
      rcases hk4 with e | e | e | e
      · rw [e]
        rfl
      · rw [e]
        rfl
      · rw [e]
        rfl
      · rw [e]
        rfl
    · rw [if_neg a1, if_neg a2]
  · rw [if_neg hx] at hM
    rw [hM, if_neg hx, if_neg hx, if_neg hx]
    exact ⟨rfl, g⟩

theorem fDraw_ne {M : mM} {n a : Nat} (h0 : a ≠ 38) (h1 : a ≠ 40) (h2 : a ≠ 41) (h3 : a ≠ 42) (h4 : a ≠ 43) : fDraw M n a = M a := by
  unfold fDraw
  split
  · exact fPass_ne h0 h1
  split
  · exact mU_neA h0
  split
  · exact fBub_ne h1 h2 h3 h4
  · rfl
theorem nDraw_ne {M : mM} {n a : Nat} (h : a ≠ 54) : nDraw M n a = M a := by
  unfold nDraw
  split
  · exact nPass_ne h
  split
  · exact mU_neA h
  split
  · exact nBub_ne h
  · rfl
theorem dayP_ne {M : mM} {s a : Nat} (h : ¬ (38 ≤ a ∧ a ≤ 43)) : ∀ m, (dayP M s m).2 a = M a
  | 0 => cLg_ne (by omega)
  | m + 1 => (fDraw_ne (by omega) (by omega) (by omega) (by omega) (by omega)).trans (dayP_ne h m)
theorem ndP_ne {M : mM} {s a : Nat} (h : a ≠ 54) : ∀ m, (ndP M s m).2 a = M a
  | 0 => cpR_ne h
  | m + 1 => (nDraw_ne h).trans (ndP_ne h m)

theorem px_day {M M1 M2 : mM} {r0 r1 : Int32} {x y z : Int32} (hwf : WFn M) (hwfm : WNb M1) (g : Rel M) (h1 : r0 = (if ((0 ≤ x ∧ x ≤ 9999) ∧ (1 ≤ y ∧ y ≤ 99) ∧ (0 ≤ z ∧ z ≤ 2)) then sel3 z ((dayP M x.toNatClampNeg y.toNatClampNeg).2 41 3) (bsum ((dayP M x.toNatClampNeg y.toNatClampNeg).2 40) ((dayP M x.toNatClampNeg y.toNatClampNeg).2 38 4) 7) (bcI ((dayP M x.toNatClampNeg y.toNatClampNeg).2 38 4)) else -2) ∧ M1 = (if ((0 ≤ x ∧ x ≤ 9999) ∧ (1 ≤ y ∧ y ≤ 99) ∧ (0 ≤ z ∧ z ≤ 2)) then (dayP M x.toNatClampNeg y.toNatClampNeg).2 else M)) (h2 : r1 = (if ((0 ≤ x ∧ x ≤ 9999) ∧ (1 ≤ y ∧ y ≤ 99) ∧ (0 ≤ z ∧ z ≤ 2)) then sel3 z ((ndP M1 x.toNatClampNeg y.toNatClampNeg).2 54 10) (bsum ((ndP M1 x.toNatClampNeg y.toNatClampNeg).2 54) ((ndP M1 x.toNatClampNeg y.toNatClampNeg).2 54 7) 7) (pc7 ((ndP M1 x.toNatClampNeg y.toNatClampNeg).2 54 7) 7) else -2) ∧ M2 = (if ((0 ≤ x ∧ x ≤ 9999) ∧ (1 ≤ y ∧ y ≤ 99) ∧ (0 ≤ z ∧ z ≤ 2)) then (ndP M1 x.toNatClampNeg y.toNatClampNeg).2 else M1)) : r0 = r1 ∧ Rel M2 := by
  have hM := h1.2
  rw [h1.1, h2.1, h2.2]
  by_cases hx : (0 ≤ x ∧ x ≤ 9999) ∧ (1 ≤ y ∧ y ≤ 99) ∧ (0 ≤ z ∧ z ≤ 2)
  · rw [if_pos hx] at hM
    rw [if_pos hx, if_pos hx, if_pos hx]
    have e0 : ∀ a, ¬ (38 ≤ a ∧ a ≤ 43) → M1 a = M a := fun a ha => by
      rw [hM]
      exact dayP_ne ha _
    have hT0 : TR (cLg M 38 2) (cpR M1 54 53 0 107) := TR_start (N := M1) g (fun a ha => rfl) (fun i hi => cpR_at (by omega) hi) (e0 53 (by omega)) (by rw [cpR_ne (by omega), e0 50 (by omega)]) (by rw [cpR_ne (by omega), e0 49 (by omega)]) (by rw [cpR_ne (by omega), e0 49 (by omega)])
    obtain ⟨-, q2⟩ := day_pair (s := x.toNatClampNeg) hT0 y.toNatClampNeg
    have q2 : TR (dayP M x.toNatClampNeg y.toNatClampNeg).2 (ndP M1 x.toNatClampNeg y.toNatClampNeg).2 := q2
    refine ⟨?_, Rel_cong g (fun a h49 ha => (ndP_ne (by omega) _).trans (e0 a (by omega))) (fun j hj => congrFun ((ndP_ne (by omega) _).trans (e0 49 (by omega))) j)⟩
    have e2 : (dayP M x.toNatClampNeg y.toNatClampNeg).2 38 4 = (ndP M1 x.toNatClampNeg y.toNatClampNeg).2 54 7 := q2.2.2.2.1.1
    obtain ⟨wd, nb, T, b1, b2, b3, -⟩ := q2.2.2.2.2.2.2.2
    have e4 : (dayP M x.toNatClampNeg y.toNatClampNeg).2 41 3 = (ndP M1 x.toNatClampNeg y.toNatClampNeg).2 54 10 := b2.trans b3.symm
    rw [e2, e4, bcpc q2.2.2.2.1.2]
    have e5 := bsum_cong (b := (dayP M x.toNatClampNeg y.toNatClampNeg).2 40) (c := (ndP M1 x.toNatClampNeg y.toNatClampNeg).2 54) (fun i hi => (q2.2.1 i hi).1) ((ndP M1 x.toNatClampNeg y.toNatClampNeg).2 54 7) 7 (by omega)
    rw [e5]
  · rw [if_neg hx] at hM
    rw [if_neg hx, if_neg hx, if_neg hx, hM]
    exact ⟨rfl, g⟩

theorem cpO_at {M : mM} {d od s os n i : Nat} (h : i < n) : cpO M d od s os n d (od + i) = M s (os + i) := by
  unfold cpO
  rw [if_pos ⟨rfl, by omega, by omega⟩, Nat.add_sub_cancel_left]
theorem cpO_o {M : mM} {d od s os n a b : Nat} (h : ¬ (a = d ∧ od ≤ b ∧ b < od + n)) : cpO M d od s os n a b = M a b := if_neg h
/-- what an image holds -/
theorem imageM_at {M : mM} {k : Nat} : (∀ i, i < 107 → imageM M k 59 (150 * k + i) = M 53 i) ∧ (∀ i, i < 7 → imageM M k 59 (150 * k + 107 + i) = M 50 i) ∧ (∀ i, i < 6 → imageM M k 59 (150 * k + 115 + i) = M 51 i) ∧ (∀ i, i < 24 → imageM M k 59 (150 * k + 122 + i) = M 52 i) ∧ imageM M k 59 (150 * k + 146) = M 49 0 ∧ imageM M k 59 (150 * k + 147) = M 49 2 ∧ imageM M k 59 (150 * k + 148) = M 49 4 ∧ imageM M k 60 k = 1 := by
  unfold imageM fin_image
  refine ⟨fun i hi => ?_, fun i hi => ?_, fun i hi => ?_, fun i hi => ?_, ?_, ?_, ?_, ?_⟩
  · rw [mU_ne _ (by omega), mU_o (by omega), mU_o (by omega), mU_o (by omega), cpO_o (by omega), cpO_o (by omega), cpO_o (by omega), cpO_at hi, Nat.zero_add]
  · rw [mU_ne _ (by omega), mU_o (by omega), mU_o (by omega), mU_o (by omega), cpO_o (by omega), cpO_o (by omega), cpO_at hi, cpO_ne (by omega), Nat.zero_add]
  · rw [mU_ne _ (by omega), mU_o (by omega), mU_o (by omega), mU_o (by omega), cpO_o (by omega), cpO_at hi, cpO_ne (by omega), cpO_ne (by omega), Nat.zero_add]
  · rw [mU_ne _ (by omega), mU_o (by omega), mU_o (by omega), mU_o (by omega), cpO_at hi, cpO_ne (by omega), cpO_ne (by omega), cpO_ne (by omega), Nat.zero_add]
  · rw [mU_ne _ (by omega), mU_o (by omega), mU_o (by omega), mU_at, cpO_ne (by omega), cpO_ne (by omega), cpO_ne (by omega), cpO_ne (by omega)]
  · rw [mU_ne _ (by omega), mU_o (by omega), mU_at, mU_ne _ (by omega), cpO_ne (by omega), cpO_ne (by omega), cpO_ne (by omega), cpO_ne (by omega)]
  · rw [mU_ne _ (by omega), mU_at, mU_ne _ (by omega), mU_ne _ (by omega), cpO_ne (by omega), cpO_ne (by omega), cpO_ne (by omega), cpO_ne (by omega)]
  · rw [mU_at]
theorem imageM_ne {M : mM} {k a : Nat} (h : a ≠ 59) (h2 : a ≠ 60) : imageM M k a = M a := by
  unfold imageM fin_image
  rw [mU_ne _ h2, mU_ne _ h, mU_ne _ h, mU_ne _ h, cpO_ne h, cpO_ne h, cpO_ne h, cpO_ne h]
theorem imageM_o {M : mM} {k j i : Nat} (hk : k < 2) (hj : j < 2) (h : j ≠ k) (hi : i < 149) : imageM M k 59 (150 * j + i) = M 59 (150 * j + i) := by
  unfold imageM fin_image
  rw [mU_ne _ (by omega), mU_o (by omega), mU_o (by omega), mU_o (by omega), cpO_o (by omega), cpO_o (by omega), cpO_o (by omega), cpO_o (by omega)]
theorem imageM_6 {M : mM} {k j : Nat} (h : j ≠ k) : imageM M k 60 j = M 60 j := by
  unfold imageM fin_image
  rw [mU_o (by omega), mU_ne _ (by omega), mU_ne _ (by omega), mU_ne _ (by omega), cpO_ne (by omega), cpO_ne (by omega), cpO_ne (by omega), cpO_ne (by omega)]
theorem Img_new {M : mM} (g : Rel M) {h k : Nat} (hh : h = 14 ∨ h = 26) : Img (imageM (mU (cHs M h 1) h 3 1) k) h k := by
  obtain ⟨i1, i2, i3, i4, i5, i6, i7, i8⟩ := imageM_at (M := mU (cHs M h 1) h 3 1) (k := k)
  have eN : ∀ a, a ≠ 59 → a ≠ 60 → imageM (mU (cHs M h 1) h 3 1) k a = mU (cHs M h 1) h 3 1 a := fun a x1 x2 => imageM_ne x1 x2
  have eM : ∀ a, 49 ≤ a → mU (cHs M h 1) h 3 1 a = M a := fun a ha => by rw [mU_ne _ (by omega), cHs_ne (by omega)]
  have eh : ∀ a, 1 ≤ a → a < 12 → imageM (mU (cHs M h 1) h 3 1) k (h + a) = cHs M h 1 (h + a) := fun a x1 x2 => by
    rw [eN _ (by omega) (by omega), mU_ne _ (by omega)]
  refine Or.inr ⟨by rw [eN h (by omega) (by omega), mU_at], i8, ?_⟩
  rw [i5, i6, i7, eM 49 (by omega)]
  refine HR_cong (H := fun a b => M (1 + a) b) (B := M 53) (P := M 50) (O := M 51) (G := M 52) g.1 (fun i h3 h8 => ?_) (fun i hi => ?_) (fun i hi => ?_) (fun i h2 h4 => ?_) (fun i hi => ?_) (fun i hi => ?_) ?_ (fun i hi => ?_) (fun i hi => ?_) (fun i hi => ?_) (fun i hi => ?_) (fun i hi => ?_) (fun i hi => ?_) (fun i hi => ?_) (fun i hi => ?_)
  · exact (congrFun (eh 1 (by omega) (by omega)) i).trans (cHs_1 (by omega) h3 h8)
  · exact (congrFun (eh 2 (by omega) (by omega)) i).trans (cHs_2 (by omega) (by omega) hi)
  · exact (congrFun (eh 3 (by omega) (by omega)) i).trans (cHs_3 (by omega) (by omega) hi)
  · exact (congrFun (eh 4 (by omega) (by omega)) i).trans (cHs_4 (by omega) h2 h4)
  · exact (congrFun (eh 5 (by omega) (by omega)) i).trans (cHs_5 (by omega) (by omega) hi)
  · exact (congrFun (eh 6 (by omega) (by omega)) i).trans (cHs_6 (by omega) (by omega) hi)
  · exact (congrFun (eh 7 (by omega) (by omega)) 3).trans (cHs_7 (by omega) (by omega) (by omega))
  · exact (congrFun (eh 8 (by omega) (by omega)) i).trans (cHs_8 (by omega) (by omega) hi)
  · exact (congrFun (eh 9 (by omega) (by omega)) i).trans (cHs_9 (by omega) (by omega) hi)
  · exact (congrFun (eh 10 (by omega) (by omega)) i).trans (cHs_10 (by omega) (by omega) hi)
  · exact (congrFun (eh 11 (by omega) (by omega)) i).trans (cHs_11 (by omega) (by omega) hi)
  · rw [i1 i hi, eM 53 (by omega)]
  · rw [i2 i hi, eM 50 (by omega)]
  · rw [i3 i hi, eM 51 (by omega)]
  · rw [i4 i hi, eM 52 (by omega)]
theorem Img_old {M N : mM} {h k : Nat} (g : Img M h k) (h0 : ∀ a, a < 12 → N (h + a) = M (h + a)) (h1 : ∀ i, i < 149 → N 59 (150 * k + i) = M 59 (150 * k + i)) (h2 : N 60 k = M 60 k) : Img N h k := by
  have e : N h = M h := h0 0 (by omega)
  have eH : ∀ a, a < 12 → ∀ i, (fun a b => N (h + a) b) a i = (fun a b => M (h + a) b) a i := fun a ha i => congrFun (h0 a ha) i
  unfold Img
  rw [h2, e, h1 146 (by omega), h1 147 (by omega), h1 148 (by omega)]
  rcases g with g | ⟨g1, g2, g3⟩
  · exact Or.inl g
  · refine Or.inr ⟨g1, g2, HR_cong g3 (fun i _ _ => eH 1 (by omega) i) (fun i _ => eH 2 (by omega) i) (fun i _ => eH 3 (by omega) i) (fun i _ _ => eH 4 (by omega) i) (fun i _ => eH 5 (by omega) i) (fun i _ => eH 6 (by omega) i) (eH 7 (by omega) 3) (fun i _ => eH 8 (by omega) i) (fun i _ => eH 9 (by omega) i) (fun i _ => eH 10 (by omega) i) (fun i _ => eH 11 (by omega) i) (fun i hi => h1 i (by omega)) (fun i hi => ?_) (fun i hi => ?_) (fun i hi => ?_)⟩
    · show N 59 (150 * k + 107 + i) = M 59 (150 * k + 107 + i)
      rw [Nat.add_assoc]
      exact h1 _ (by omega)
    · show N 59 (150 * k + 115 + i) = M 59 (150 * k + 115 + i)
      rw [Nat.add_assoc]
      exact h1 _ (by omega)
    · show N 59 (150 * k + 122 + i) = M 59 (150 * k + 122 + i)
      rw [Nat.add_assoc]
      exact h1 _ (by omega)
theorem Rel_image {M : mM} (g : Rel M) {h k : Nat} (hh : (h = 14 ∧ k = 0) ∨ (h = 26 ∧ k = 1)) : Rel (imageM (mU (cHs M h 1) h 3 1) k) := by
  have eN : ∀ a, a ≠ 59 → a ≠ 60 → ¬ (h ≤ a ∧ a ≤ h + 11) → imageM (mU (cHs M h 1) h 3 1) k a = M a := fun a x1 x2 x3 => by
    rw [imageM_ne x1 x2, mU_ne _ (by omega), cHs_ne (by omega)]
  have hn := Img_new g (h := h) (k := k) (by omega)
  have ho : ∀ h' k', (h' = 14 ∧ k' = 0) ∨ (h' = 26 ∧ k' = 1) → k' ≠ k → Img M h' k' → Img (imageM (mU (cHs M h 1) h 3 1) k) h' k' := fun h' k' h1 h2 q =>
    Img_old q (fun a ha => eN _ (by omega) (by omega) (by omega)) (fun i hi => by rw [imageM_o (by omega) (by omega) h2 hi, mU_ne _ (by omega), cHs_ne (by omega)]) (by rw [imageM_6 h2, mU_ne _ (by omega), cHs_ne (by omega)])
  obtain ⟨g1, g2, g3, g4⟩ := g
  refine ⟨RelN_cong g1 (fun a ha => eN _ (by omega) (by omega) (by omega)) (eN _ (by omega) (by omega) (by omega)) (eN _ (by omega) (by omega) (by omega)) (eN _ (by omega) (by omega) (by omega)) (eN _ (by omega) (by omega) (by omega)) (fun j hj => congrFun (eN 49 (by omega) (by omega) (by omega)) j), RelP_cong g2 (eN _ (by omega) (by omega) (by omega)) (eN _ (by omega) (by omega) (by omega)) (eN _ (by omega) (by omega) (by omega)) (congrFun (eN 49 (by omega) (by omega) (by omega)) 8), ?_, ?_⟩
  · rcases hh with ⟨e1, e2⟩ | ⟨e1, e2⟩
    · rw [e1, e2] at hn ⊢
      exact hn
    · exact ho 14 0 (by omega) (by omega) g3
  · rcases hh with ⟨e1, e2⟩ | ⟨e1, e2⟩
    · exact ho 26 1 (by omega) (by omega) g4
    · rw [e1, e2] at hn ⊢
      exact hn
theorem restoreM_at {M : mM} {k : Nat} : (∀ i, i < 107 → restoreM M k 53 i = M 59 (150 * k + i)) ∧ (∀ i, i < 7 → restoreM M k 50 i = M 59 (150 * k + 107 + i)) ∧ (∀ i, i < 6 → restoreM M k 51 i = M 59 (150 * k + 115 + i)) ∧ (∀ i, i < 24 → restoreM M k 52 i = M 59 (150 * k + 122 + i)) ∧ restoreM M k 49 0 = M 59 (150 * k + 146) ∧ restoreM M k 49 2 = M 59 (150 * k + 147) ∧ restoreM M k 49 4 = M 59 (150 * k + 148) := by
  unfold restoreM fin_restore
  refine ⟨fun i hi => ?_, fun i hi => ?_, fun i hi => ?_, fun i hi => ?_, ?_, ?_, ?_⟩
  · rw [mU_ne _ (by omega), mU_ne _ (by omega), mU_ne _ (by omega), cpO_ne (by omega), cpO_ne (by omega), cpO_ne (by omega)]
    have := cpO_at (M := M) (d := 53) (od := 0) (s := 59) (os := 150 * k) hi
    rwa [Nat.zero_add] at this
  · rw [mU_ne _ (by omega), mU_ne _ (by omega), mU_ne _ (by omega), cpO_ne (by omega), cpO_ne (by omega)]
    have := cpO_at (M := cpO M 53 0 59 (150 * k) 107) (d := 50) (od := 0) (s := 59) (os := 150 * k + 107) hi
    rw [Nat.zero_add] at this
    rw [this, cpO_ne (by omega)]
  · rw [mU_ne _ (by omega), mU_ne _ (by omega), mU_ne _ (by omega), cpO_ne (by omega)]
    have := cpO_at (M := cpO (cpO M 53 0 59 (150 * k) 107) 50 0 59 (150 * k + 107) 7) (d := 51) (od := 0) (s := 59) (os := 150 * k + 115) hi
    rw [Nat.zero_add] at this
    rw [this, cpO_ne (by omega), cpO_ne (by omega)]
  · rw [mU_ne _ (by omega), mU_ne _ (by omega), mU_ne _ (by omega)]
    have := cpO_at (M := cpO (cpO (cpO M 53 0 59 (150 * k) 107) 50 0 59 (150 * k + 107) 7) 51 0 59 (150 * k + 115) 6) (d := 52) (od := 0) (s := 59) (os := 150 * k + 122) hi
    rw [Nat.zero_add] at this
    rw [this, cpO_ne (by omega), cpO_ne (by omega), cpO_ne (by omega)]
  · rw [mU_o (by omega), mU_o (by omega), mU_at, cpO_ne (by omega), cpO_ne (by omega), cpO_ne (by omega), cpO_ne (by omega)]
  · rw [mU_o (by omega), mU_at, mU_ne _ (by omega), cpO_ne (by omega), cpO_ne (by omega), cpO_ne (by omega), cpO_ne (by omega)]
  · rw [mU_at, mU_ne _ (by omega), mU_ne _ (by omega), cpO_ne (by omega), cpO_ne (by omega), cpO_ne (by omega), cpO_ne (by omega)]
theorem restoreM_ne {M : mM} {k a : Nat} (h : ¬ (49 ≤ a ∧ a ≤ 53)) : restoreM M k a = M a := by
  unfold restoreM fin_restore
  rw [mU_ne _ (by omega), mU_ne _ (by omega), mU_ne _ (by omega), cpO_ne (by omega), cpO_ne (by omega), cpO_ne (by omega), cpO_ne (by omega)]
theorem restoreM_8 {M : mM} {k : Nat} : restoreM M k 49 8 = M 49 8 := by
  unfold restoreM fin_restore
  rw [mU_o (by omega), mU_o (by omega), mU_o (by omega), cpO_ne (by omega), cpO_ne (by omega), cpO_ne (by omega), cpO_ne (by omega)]
theorem Rel_restore {M : mM} (g : Rel M) {h k : Nat} (hh : (h = 14 ∧ k = 0) ∨ (h = 26 ∧ k = 1)) (hI : HR (fun a b => M (h + a) b) (fun i => M 59 (150 * k + i)) (fun i => M 59 (150 * k + 107 + i)) (fun i => M 59 (150 * k + 115 + i)) (fun i => M 59 (150 * k + 122 + i)) (M 59 (150 * k + 146)) (M 59 (150 * k + 147)) (M 59 (150 * k + 148))) : Rel (restoreM (cHs M 1 h) k) := by
  obtain ⟨i1, i2, i3, i4, i5, i6, i7⟩ := restoreM_at (M := cHs M 1 h) (k := k)
  have eC : ∀ a, 13 ≤ a → cHs M 1 h a = M a := fun a ha => cHs_ne (by omega)
  have eN : ∀ a, 13 ≤ a → ¬ (49 ≤ a ∧ a ≤ 53) → restoreM (cHs M 1 h) k a = M a := fun a x1 x2 => by
    rw [restoreM_ne x2, eC a x1]
  have eh : ∀ a, a < 12 → restoreM (cHs M 1 h) k (1 + a) = cHs M 1 h (1 + a) := fun a x1 => restoreM_ne (by omega)
  obtain ⟨g1, g2, g3, g4⟩ := g
  refine ⟨?_, RelP_cong g2 (eN _ (by omega) (by omega)) (eN _ (by omega) (by omega)) (eN _ (by omega) (by omega)) (by rw [restoreM_8, eC 49 (by omega)]), Img_cong g3 (fun a ha => eN _ (by omega) (by omega)) (eN _ (by omega) (by omega)) (congrFun (eN 60 (by omega) (by omega)) 0), Img_cong g4 (fun a ha => eN _ (by omega) (by omega)) (eN _ (by omega) (by omega)) (congrFun (eN 60 (by omega) (by omega)) 1)⟩
  unfold RelN
  rw [i5, i6, i7, eC 59 (by omega)]
  refine HR_cong hI (fun i h3 h8 => ?_) (fun i hi => ?_) (fun i hi => ?_) (fun i h2 h4 => ?_) (fun i hi => ?_) (fun i hi => ?_) ?_ (fun i hi => ?_) (fun i hi => ?_) (fun i hi => ?_) (fun i hi => ?_) (fun i hi => ?_) (fun i hi => ?_) (fun i hi => ?_) (fun i hi => ?_)
  · exact (congrFun (eh 1 (by omega)) i).trans (cHs_1 (by omega) h3 h8)
  · exact (congrFun (eh 2 (by omega)) i).trans (cHs_2 (by omega) (by omega) hi)
  · exact (congrFun (eh 3 (by omega)) i).trans (cHs_3 (by omega) (by omega) hi)
  · exact (congrFun (eh 4 (by omega)) i).trans (cHs_4 (by omega) h2 h4)
  · exact (congrFun (eh 5 (by omega)) i).trans (cHs_5 (by omega) (by omega) hi)
  · exact (congrFun (eh 6 (by omega)) i).trans (cHs_6 (by omega) (by omega) hi)
  · exact (congrFun (eh 7 (by omega)) 3).trans (cHs_7 (by omega) (by omega) (by omega))
  · exact (congrFun (eh 8 (by omega)) i).trans (cHs_8 (by omega) (by omega) hi)
  · exact (congrFun (eh 9 (by omega)) i).trans (cHs_9 (by omega) (by omega) hi)
  · exact (congrFun (eh 10 (by omega)) i).trans (cHs_10 (by omega) (by omega) hi)
  · exact (congrFun (eh 11 (by omega)) i).trans (cHs_11 (by omega) (by omega) hi)
  · rw [i1 i hi, eC 59 (by omega)]
  · rw [i2 i hi, eC 59 (by omega)]
  · rw [i3 i hi, eC 59 (by omega)]
  · rw [i4 i hi, eC 59 (by omega)]

theorem px_image {M M1 M2 : mM} {h k : Nat} (g : Rel M) (hh : (h = 14 ∧ k = 0) ∨ (h = 26 ∧ k = 1)) (h1 : M1 = mU (cHs M h 1) h 3 1) (h2 : M2 = imageM M1 k) : Rel M2 := by
  rw [h2, h1]
  exact Rel_image g hh
theorem Img_k {M : mM} {h k : Nat} (g : Img M h k) : (M h 3 = 0 ↔ M 60 k = 0) := by
  rcases g with ⟨a, b⟩ | ⟨a, b, -⟩
  · exact ⟨fun _ => b, fun _ => a⟩
  · rw [a, b]
theorem px_restore {M M1 M2 : mM} {r0 r1 : Int32} {h k : Nat} (g : Rel M) (hh : (h = 14 ∧ k = 0) ∨ (h = 26 ∧ k = 1)) (h1 : r0 = (if M h 3 = 0 then -3 else 1) ∧ M1 = (if M h 3 = 0 then M else cHs M 1 h)) (h2 : r1 = (if M1 60 k = 0 then -3 else 1) ∧ M2 = (if M1 60 k = 0 then M1 else restoreM M1 k)) : r0 = r1 ∧ Rel M2 := by
  have hM := h1.2
  have hI : Img M h k := by
    rcases hh with ⟨e1, e2⟩ | ⟨e1, e2⟩
    · rw [e1, e2]
      exact g.2.2.1
    · rw [e1, e2]
      exact g.2.2.2
  have e60 : M1 60 = M 60 := by
    rw [hM]
    by_cases h0 : M h 3 = 0
    · rw [if_pos h0]
    · rw [if_neg h0, cHs_ne (by omega)]
  rw [h1.1, h2.1, h2.2, e60]
  by_cases h0 : M h 3 = 0
  · rw [if_pos h0] at hM
    have h6 := (Img_k hI).mp h0
    rw [if_pos h0, if_pos h6, if_pos h6, hM]
    exact ⟨rfl, g⟩
  · rw [if_neg h0] at hM
    have h6 : ¬ M 60 k = 0 := fun q => h0 ((Img_k hI).mpr q)
    rw [if_neg h0, if_neg h6, if_neg h6, hM]
    refine ⟨rfl, Rel_restore g hh ?_⟩
    rcases hI with q | q
    · exact absurd q.1 h0
    · exact q.2.2
