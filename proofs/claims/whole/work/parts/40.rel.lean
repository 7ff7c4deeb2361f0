/-! the relation between the house and the model -/
def HR (H : Nat → Nat → Int32) (B P O G : Nat → Int32) (th dp c : Int32) : Prop :=
  LR (fun a b => H (1 + a) b) B P th dp ∧ (∀ i, i < 6 → H 11 i = O i) ∧ ∃ n, H 7 3 = nI n ∧ c = nI n ∧ n ≤ 8 ∧ ∀ i, i < n → H 8 i = G (0 + 3 * i) ∧ H 9 i = G (1 + 3 * i) ∧ H 10 i = G (2 + 3 * i) ∧ 1 ≤ H 8 i
theorem HR_cong {H H' : Nat → Nat → Int32} {B B' P P' O O' G G' : Nat → Int32} {th dp c : Int32} (h : HR H B P O G th dp c) (h1 : ∀ i, 3 ≤ i → i < 8 → H' 1 i = H 1 i) (h2 : ∀ i, i < 7 → H' 2 i = H 2 i) (h3 : ∀ i, i < 7 → H' 3 i = H 3 i) (h4 : ∀ i, 2 ≤ i → i < 4 → H' 4 i = H 4 i) (h5 : ∀ i, i < 32 → H' 5 i = H 5 i) (h6 : ∀ i, i < 32 → H' 6 i = H 6 i) (h7 : H' 7 3 = H 7 3) (h8 : ∀ i, i < 8 → H' 8 i = H 8 i) (h9 : ∀ i, i < 8 → H' 9 i = H 9 i) (h10 : ∀ i, i < 8 → H' 10 i = H 10 i) (h11 : ∀ i, i < 6 → H' 11 i = H 11 i) (hB : ∀ i, i < 107 → B' i = B i) (hP : ∀ i, i < 7 → P' i = P i) (hO : ∀ i, i < 6 → O' i = O i) (hG : ∀ i, i < 24 → G' i = G i) : HR H' B' P' O' G' th dp c := by
  obtain ⟨g1, g2, n, g3, g4, g5, g6⟩ := h
  refine ⟨LR_cong g1 h1 h2 h3 h4 h5 h6 hB hP, fun i hi => ?_, n, ?_, g4, g5, fun i hi => ?_⟩
  · rw [h11 i hi, hO i hi]
    exact g2 i hi
  · rw [h7]
    exact g3
  · rw [h8 i (by omega), h9 i (by omega), h10 i (by omega), hG (0 + 3 * i) (by omega), hG (1 + 3 * i) (by omega), hG (2 + 3 * i) (by omega)]
    exact g6 i hi
def Img (M : mM) (h k : Nat) : Prop := (M h 3 = 0 ∧ M 60 k = 0) ∨ (M h 3 = 1 ∧ M 60 k = 1 ∧ HR (fun a b => M (h + a) b) (fun i => M 59 (150 * k + i)) (fun i => M 59 (150 * k + 107 + i)) (fun i => M 59 (150 * k + 115 + i)) (fun i => M 59 (150 * k + 122 + i)) (M 59 (150 * k + 146)) (M 59 (150 * k + 147)) (M 59 (150 * k + 148)))
def RelN (M : mM) : Prop := HR (fun a b => M (1 + a) b) (M 53) (M 50) (M 51) (M 52) (M 49 0) (M 49 2) (M 49 4)
def RelP (M : mM) : Prop := ∃ n, M 44 1 = nI n ∧ M 49 8 = nI n ∧ n ≤ 60 ∧ ∀ i, i < n → M 45 i = M 55 i
def Rel (M : mM) : Prop := RelN M ∧ RelP M ∧ Img M 14 0 ∧ Img M 26 1
theorem Img_cong {M M' : mM} {h k : Nat} (g : Img M h k) (h0 : ∀ a, a < 12 → M' (h + a) = M (h + a)) (h1 : M' 59 = M 59) (h2 : M' 60 k = M 60 k) : Img M' h k := by
  have e : M' h = M h := h0 0 (by omega)
  have eH : ∀ a, a < 12 → ∀ i, (fun a b => M' (h + a) b) a i = (fun a b => M (h + a) b) a i := fun a ha i => congrFun (h0 a ha) i
  unfold Img
  rw [h1, h2, e]
  rcases g with g | ⟨g1, g2, g3⟩
  · exact Or.inl g
  · exact Or.inr ⟨g1, g2, HR_cong g3 (fun i _ _ => eH 1 (by omega) i) (fun i _ => eH 2 (by omega) i) (fun i _ => eH 3 (by omega) i) (fun i _ _ => eH 4 (by omega) i) (fun i _ => eH 5 (by omega) i) (fun i _ => eH 6 (by omega) i) (eH 7 (by omega) 3) (fun i _ => eH 8 (by omega) i) (fun i _ => eH 9 (by omega) i) (fun i _ => eH 10 (by omega) i) (fun i _ => eH 11 (by omega) i) (fun _ _ => rfl) (fun _ _ => rfl) (fun _ _ => rfl) (fun _ _ => rfl)⟩
theorem RelN_cong {M M' : mM} (g : RelN M) (h0 : ∀ a, a < 12 → M' (1 + a) = M (1 + a)) (h53 : M' 53 = M 53) (h50 : M' 50 = M 50) (h51 : M' 51 = M 51) (h52 : M' 52 = M 52) (h49 : ∀ j, j < 5 → M' 49 j = M 49 j) : RelN M' := by
  have eH : ∀ a, a < 12 → ∀ i, (fun a b => M' (1 + a) b) a i = (fun a b => M (1 + a) b) a i := fun a ha i => congrFun (h0 a ha) i
  unfold RelN
  rw [h53, h50, h51, h52, h49 0 (by omega), h49 2 (by omega), h49 4 (by omega)]
  exact HR_cong g (fun i _ _ => eH 1 (by omega) i) (fun i _ => eH 2 (by omega) i) (fun i _ => eH 3 (by omega) i) (fun i _ _ => eH 4 (by omega) i) (fun i _ => eH 5 (by omega) i) (fun i _ => eH 6 (by omega) i) (eH 7 (by omega) 3) (fun i _ => eH 8 (by omega) i) (fun i _ => eH 9 (by omega) i) (fun i _ => eH 10 (by omega) i) (fun i _ => eH 11 (by omega) i) (fun _ _ => rfl) (fun _ _ => rfl) (fun _ _ => rfl) (fun _ _ => rfl)
theorem RelP_cong {M M' : mM} (g : RelP M) (h44 : M' 44 = M 44) (h45 : M' 45 = M 45) (h55 : M' 55 = M 55) (h49 : M' 49 8 = M 49 8) : RelP M' := by
  unfold RelP
  rw [h44, h45, h55, h49]
  exact g
/-- scratch cells: what the trial, the model's now and the tables hold is none of the relation's business -/
theorem Rel_cong {M M' : mM} (g : Rel M) (h : ∀ a, a ≠ 49 → ((1 ≤ a ∧ a < 38) ∨ a = 44 ∨ a = 45 ∨ (50 ≤ a ∧ a ≤ 53) ∨ a = 55 ∨ a = 59 ∨ a = 60) → M' a = M a) (h49 : ∀ j, j < 10 → M' 49 j = M 49 j) : Rel M' := by
  obtain ⟨g1, g2, g3, g4⟩ := g
  exact ⟨RelN_cong g1 (fun a ha => h _ (by omega) (by omega)) (h _ (by omega) (by omega)) (h _ (by omega) (by omega)) (h _ (by omega) (by omega)) (h _ (by omega) (by omega)) (fun j hj => h49 j (by omega)), RelP_cong g2 (h _ (by omega) (by omega)) (h _ (by omega) (by omega)) (h _ (by omega) (by omega)) (h49 8 (by omega)), Img_cong g3 (fun a ha => h _ (by omega) (by omega)) (h _ (by omega) (by omega)) (congrFun (h 60 (by omega) (by omega)) 0), Img_cong g4 (fun a ha => h _ (by omega) (by omega)) (h _ (by omega) (by omega)) (congrFun (h 60 (by omega) (by omega)) 1)⟩
abbrev LRn (M : mM) : Prop := LR (fun a b => M (1 + (1 + a)) b) (M 53) (M 50) (M 49 0) (M 49 2)
/-- what changes the lagoon alone -/
theorem Rel_LR {M M' : mM} (g : Rel M) (hL : LRn M') (h : ∀ a, a ≠ 49 → ((8 ≤ a ∧ a < 38) ∨ a = 44 ∨ a = 45 ∨ a = 51 ∨ a = 52 ∨ a = 55 ∨ a = 59 ∨ a = 60) → M' a = M a) (h49 : ∀ j, 3 ≤ j → j < 10 → M' 49 j = M 49 j) : Rel M' := by
  obtain ⟨⟨-, k2, k3⟩, g2, g3, g4⟩ := g
  refine ⟨⟨hL, ?_, ?_⟩, RelP_cong g2 (h _ (by omega) (by omega)) (h _ (by omega) (by omega)) (h _ (by omega) (by omega)) (h49 8 (by omega) (by omega)), Img_cong g3 (fun a ha => h _ (by omega) (by omega)) (h _ (by omega) (by omega)) (congrFun (h 60 (by omega) (by omega)) 0), Img_cong g4 (fun a ha => h _ (by omega) (by omega)) (h _ (by omega) (by omega)) (congrFun (h 60 (by omega) (by omega)) 1)⟩
  · show ∀ i, i < 6 → M' 12 i = M' 51 i
    rw [h 12 (by omega) (by omega), h 51 (by omega) (by omega)]
    exact k2
  · show ∃ n, M' 8 3 = nI n ∧ M' 49 4 = nI n ∧ n ≤ 8 ∧ ∀ i, i < n → M' 9 i = M' 52 (0 + 3 * i) ∧ M' 10 i = M' 52 (1 + 3 * i) ∧ M' 11 i = M' 52 (2 + 3 * i) ∧ 1 ≤ M' 9 i
    rw [h 8 (by omega) (by omega), h 9 (by omega) (by omega), h 10 (by omega) (by omega), h 11 (by omega) (by omega), h 52 (by omega) (by omega), h49 4 (by omega) (by omega)]
    exact k3
/-! what the relation says, field by field -/
theorem R_L {M : mM} (g : Rel M) : LRn M := g.1.1
theorem R_pl {M : mM} (g : Rel M) : ∀ i, i < 7 → M 3 i = M 50 i := fun i hi => ((R_L g).1 i hi).1
theorem R_br {M : mM} (g : Rel M) : ∀ i, i < 7 → M 4 i = M 53 i := fun i hi => ((R_L g).2.1 i hi).1
theorem R_brn {M : mM} (g : Rel M) : ∀ i, i < 7 → ∃ k, k ≤ 99 ∧ M 53 i = nI k := fun i hi => ((R_L g).2.1 i hi).2
theorem R_brm {M : mM} (g : Rel M) : ∀ i, i < 7 → ∃ k, k ≤ 99 ∧ M 4 i = nI k := fun i hi => by
  rw [R_br g i hi]
  exact R_brn g i hi
theorem R_th {M : mM} (g : Rel M) : M 2 3 = M 49 0 ∧ sB (M 49 0) := (R_L g).2.2.1
theorem R_bl {M : mM} (g : Rel M) : M 2 4 = M 53 7 ∧ sB (M 53 7) := (R_L g).2.2.2.1
theorem R_dp {M : mM} (g : Rel M) : M 2 5 = M 49 2 := (R_L g).2.2.2.2.1.1
theorem R_td {M : mM} (g : Rel M) : M 2 6 = M 53 9 := (R_L g).2.2.2.2.2.1.1
theorem R_mi {M : mM} (g : Rel M) : M 2 7 = M 53 8 := (R_L g).2.2.2.2.2.2.1.1
theorem R_bk {M : mM} (g : Rel M) : ∃ wd nb T, M 5 2 = nI wd ∧ M 5 3 = nI nb ∧ M 53 10 = nI nb ∧ wd ≤ nb ∧ nb ≤ 32 ∧ cBook wd (M 6) (M 7) T ∧ mBook nb (M 53) T := (R_L g).2.2.2.2.2.2.2
theorem R_hr {M : mM} (g : Rel M) : ∀ i, i < 6 → M 12 i = M 51 i := g.1.2.1
theorem R_sg {M : mM} (g : Rel M) : ∃ n, M 8 3 = nI n ∧ M 49 4 = nI n ∧ n ≤ 8 ∧ ∀ i, i < n → M 9 i = M 52 (0 + 3 * i) ∧ M 10 i = M 52 (1 + 3 * i) ∧ M 11 i = M 52 (2 + 3 * i) ∧ 1 ≤ M 9 i := g.1.2.2
theorem R_pad {M : mM} (g : Rel M) : ∃ n, M 44 1 = nI n ∧ M 49 8 = nI n ∧ n ≤ 60 ∧ ∀ i, i < n → M 45 i = M 55 i := g.2.1
theorem R_WFn {M : mM} (g : Rel M) : WFn M := by
  obtain ⟨wd, nb, T, h1, h2, h3, h4, h5, -⟩ := R_bk g
  exact ⟨wd, nb, h1, h2, h4, h5⟩
theorem R_WNb {M : mM} (g : Rel M) : WNb M := by
  obtain ⟨wd, nb, T, h1, h2, h3, h4, h5, -⟩ := R_bk g
  exact ⟨nb, h3, h5⟩
