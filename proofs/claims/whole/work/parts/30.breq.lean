/-! breaks: the class's chances and the model's parts -/
def ptT : List (List (List Nat)) := [[[0, 0, 0, 0, 0, 0, 0, 0, 0, 0], [0, 0, 0, 0, 0, 0, 0, 0, 0, 0], [0, 0, 0, 0, 0, 0, 0, 0, 0, 0], [0, 0, 0, 0, 0, 0, 0, 0, 0, 0], [0, 0, 0, 0, 0, 0, 0, 0, 0, 0], [0, 0, 0, 0, 0, 0, 0, 0, 0, 0], [0, 0, 0, 0, 0, 0, 0, 0, 0, 0]], [[0, 1, 0, 0, 0, 0, 0, 0, 0, 0], [0, 1, 0, 0, 0, 0, 0, 0, 0, 0], [0, 1, 0, 0, 0, 0, 0, 0, 0, 0], [0, 1, 0, 0, 0, 0, 0, 0, 0, 0], [0, 1, 0, 0, 0, 0, 0, 0, 0, 0], [0, 1, 0, 0, 0, 0, 0, 0, 0, 0], [0, 1, 0, 0, 0, 0, 0, 0, 0, 0]], [[0, 0, 1, 0, 0, 0, 0, 0, 0, 0], [0, 2, 0, 0, 0, 0, 0, 0, 0, 0], [0, 2, 0, 0, 0, 0, 0, 0, 0, 0], [0, 2, 0, 0, 0, 0, 0, 0, 0, 0], [0, 2, 0, 0, 0, 0, 0, 0, 0, 0], [0, 2, 0, 0, 0, 0, 0, 0, 0, 0], [0, 2, 0, 0, 0, 0, 0, 0, 0, 0]], [[0, 0, 0, 1, 0, 0, 0, 0, 0, 0], [0, 1, 1, 0, 0, 0, 0, 0, 0, 0], [0, 3, 0, 0, 0, 0, 0, 0, 0, 0], [0, 3, 0, 0, 0, 0, 0, 0, 0, 0], [0, 3, 0, 0, 0, 0, 0, 0, 0, 0], [0, 3, 0, 0, 0, 0, 0, 0, 0, 0], [0, 3, 0, 0, 0, 0, 0, 0, 0, 0]], [[0, 0, 0, 0, 1, 0, 0, 0, 0, 0], [0, 0, 2, 0, 0, 0, 0, 0, 0, 0], [0, 4, 0, 0, 0, 0, 0, 0, 0, 0], [0, 4, 0, 0, 0, 0, 0, 0, 0, 0], [0, 4, 0, 0, 0, 0, 0, 0, 0, 0], [0, 4, 0, 0, 0, 0, 0, 0, 0, 0], [0, 4, 0, 0, 0, 0, 0, 0, 0, 0]], [[0, 0, 0, 0, 0, 1, 0, 0, 0, 0], [0, 0, 1, 1, 0, 0, 0, 0, 0, 0], [0, 3, 1, 0, 0, 0, 0, 0, 0, 0], [0, 5, 0, 0, 0, 0, 0, 0, 0, 0], [0, 5, 0, 0, 0, 0, 0, 0, 0, 0], [0, 5, 0, 0, 0, 0, 0, 0, 0, 0], [0, 5, 0, 0, 0, 0, 0, 0, 0, 0]], [[0, 0, 0, 0, 0, 0, 1, 0, 0, 0], [0, 0, 0, 2, 0, 0, 0, 0, 0, 0], [0, 2, 2, 0, 0, 0, 0, 0, 0, 0], [0, 6, 0, 0, 0, 0, 0, 0, 0, 0], [0, 6, 0, 0, 0, 0, 0, 0, 0, 0], [0, 6, 0, 0, 0, 0, 0, 0, 0, 0], [0, 6, 0, 0, 0, 0, 0, 0, 0, 0]], [[0, 0, 0, 0, 0, 0, 0, 1, 0, 0], [0, 0, 0, 1, 1, 0, 0, 0, 0, 0], [0, 1, 3, 0, 0, 0, 0, 0, 0, 0], [0, 7, 0, 0, 0, 0, 0, 0, 0, 0], [0, 7, 0, 0, 0, 0, 0, 0, 0, 0], [0, 7, 0, 0, 0, 0, 0, 0, 0, 0], [0, 7, 0, 0, 0, 0, 0, 0, 0, 0]], [[0, 0, 0, 0, 0, 0, 0, 0, 1, 0], [0, 0, 0, 0, 2, 0, 0, 0, 0, 0], [0, 0, 4, 0, 0, 0, 0, 0, 0, 0], [0, 8, 0, 0, 0, 0, 0, 0, 0, 0], [0, 8, 0, 0, 0, 0, 0, 0, 0, 0], [0, 8, 0, 0, 0, 0, 0, 0, 0, 0], [0, 8, 0, 0, 0, 0, 0, 0, 0, 0]], [[0, 0, 0, 0, 0, 0, 0, 0, 0, 1], [0, 0, 0, 0, 1, 1, 0, 0, 0, 0], [0, 0, 3, 1, 0, 0, 0, 0, 0, 0], [0, 7, 1, 0, 0, 0, 0, 0, 0, 0], [0, 9, 0, 0, 0, 0, 0, 0, 0, 0], [0, 9, 0, 0, 0, 0, 0, 0, 0, 0], [0, 9, 0, 0, 0, 0, 0, 0, 0, 0]]]
def pt (z k i : Nat) : Int32 := nI (((ptT.getD z []).getD k []).getD i 0)
set_option maxHeartbeats 200000 in
theorem bkA_1 (A : mM) : bkA A 57 1 = 0 + A 57 1 + A 57 2 + A 57 2 + A 57 3 := by
  simp [bkA, itN, bk1, bk2, bk3, mU]
set_option maxHeartbeats 200000 in
theorem bkA_2 (A : mM) : bkA A 57 2 = 0 + A 57 3 + A 57 4 + A 57 4 + A 57 5 := by
  simp [bkA, itN, bk1, bk2, bk3, mU]
set_option maxHeartbeats 200000 in
theorem bkA_3 (A : mM) : bkA A 57 3 = 0 + A 57 5 + A 57 6 + A 57 6 + A 57 7 := by
  simp [bkA, itN, bk1, bk2, bk3, mU]
set_option maxHeartbeats 200000 in
theorem bkA_4 (A : mM) : bkA A 57 4 = 0 + A 57 7 + A 57 8 + A 57 8 + A 57 9 := by
  simp [bkA, itN, bk1, bk2, bk3, mU]
set_option maxHeartbeats 200000 in
theorem bkA_5 (A : mM) : bkA A 57 5 = 0 + A 57 9 := by
  simp [bkA, itN, bk1, bk2, bk3, mU]
set_option maxHeartbeats 200000 in
theorem bkA_6 (A : mM) : bkA A 57 6 = 0 := by
  simp [bkA, itN, bk1, bk2, bk3, mU]
set_option maxHeartbeats 200000 in
theorem bkA_7 (A : mM) : bkA A 57 7 = 0 := by
  simp [bkA, itN, bk1, bk2, bk3, mU]
set_option maxHeartbeats 200000 in
theorem bkA_8 (A : mM) : bkA A 57 8 = 0 := by
  simp [bkA, itN, bk1, bk2, bk3, mU]
set_option maxHeartbeats 200000 in
theorem bkA_9 (A : mM) : bkA A 57 9 = 0 := by
  simp [bkA, itN, bk1, bk2, bk3, mU]
theorem pt_stD : ∀ z, z < 10 → ∀ k, k < 6 → pt z (k + 1) 1 = 0 + pt z k 1 + pt z k 2 + pt z k 2 + pt z k 3 ∧ pt z (k + 1) 2 = 0 + pt z k 3 + pt z k 4 + pt z k 4 + pt z k 5 ∧ pt z (k + 1) 3 = 0 + pt z k 5 + pt z k 6 + pt z k 6 + pt z k 7 ∧ pt z (k + 1) 4 = 0 + pt z k 7 + pt z k 8 + pt z k 8 + pt z k 9 ∧ pt z (k + 1) 5 = 0 + pt z k 9 ∧ pt z (k + 1) 6 = 0 ∧ pt z (k + 1) 7 = 0 ∧ pt z (k + 1) 8 = 0 ∧ pt z (k + 1) 9 = 0 := by decide +kernel
def ptA (A : mM) (z k : Nat) : Prop := ∀ i, 1 ≤ i → i ≤ 9 → A 57 i = pt z k i
theorem ptA_bk {A : mM} {z k : Nat} (hz : z < 10) (hk : k < 6) (h : ptA A z k) : ptA (bkA A) z (k + 1) := by
  obtain ⟨q1, q2, q3, q4, q5, q6, q7, q8, q9⟩ := pt_stD z hz k hk
  have a1 := h 1 (by omega) (by omega)
  have a2 := h 2 (by omega) (by omega)
  have a3 := h 3 (by omega) (by omega)
  have a4 := h 4 (by omega) (by omega)
  have a5 := h 5 (by omega) (by omega)
  have a6 := h 6 (by omega) (by omega)
  have a7 := h 7 (by omega) (by omega)
  have a8 := h 8 (by omega) (by omega)
  have a9 := h 9 (by omega) (by omega)
  intro i h1 h9
  have hi : i = 1 ∨ i = 2 ∨ i = 3 ∨ i = 4 ∨ i = 5 ∨ i = 6 ∨ i = 7 ∨ i = 8 ∨ i = 9 := by omega
  rcases hi with rfl | rfl | rfl | rfl | rfl | rfl | rfl | rfl | rfl
  · rw [bkA_1, q1, a1, a2, a3]
  · rw [bkA_2, q2, a3, a4, a5]
  · rw [bkA_3, q3, a5, a6, a7]
  · rw [bkA_4, q4, a7, a8, a9]
  · rw [bkA_5, q5, a9]
  · rw [bkA_6, q6]
  · rw [bkA_7, q7]
  · rw [bkA_8, q8]
  · rw [bkA_9, q9]

theorem pt_cnt : ∀ z, z < 10 → 1 ≤ z → ∀ k, k < 7 → itN (cnA (pt z k)) 0 9 = mnZ (nI z) k ∧ (itN (cnA (pt z k)) 0 9 = pt z k 1 ↔ mnZ (nI z) k = nI z) := by decide +kernel
theorem ptA_ct {A : mM} {z k : Nat} (h : ptA A z k) : ctA A = itN (cnA (pt z k)) 0 9 := by
  unfold ctA
  refine itN_cong 9 (fun i hi x => ?_)
  unfold cnA
  rw [h (i + 1) (by omega) (by omega)]
/-- bits of w below j -/
def pcb (w : Nat) : Nat → Nat
  | 0 => 0
  | j + 1 => if bt (nI w) (nI j) then pcb w j + 1 else pcb w j
theorem pcb_le (w : Nat) : ∀ j, pcb w j ≤ j
  | 0 => Nat.le_refl _
  | j + 1 => by
    have := pcb_le w j
    unfold pcb
    split <;> omega
theorem bkJ_pt {A : mM} {z w : Nat} (hz : z < 10) (h : ptA A z 0) : ∀ j, j ≤ 6 → ptA (itN (bkJ w) A j) z (pcb w j)
  | 0, _ => h
  | j + 1, hj => by
    have h1 := bkJ_pt (w := w) hz h j (by omega)
    have h2 := pcb_le w j
    rw [itN_s]
    by_cases hb : bt (nI w) (nI j)
    · have e1 : bkJ w j (itN (bkJ w) A j) = bkA (itN (bkJ w) A j) := if_pos hb
      have e2 : pcb w (j + 1) = pcb w j + 1 := if_pos hb
      rw [e1, e2]
      exact ptA_bk hz (by omega) h1
    · have e1 : bkJ w j (itN (bkJ w) A j) = itN (bkJ w) A j := if_neg hb
      have e2 : pcb w (j + 1) = pcb w j := if_neg hb
      rw [e1, e2]
      exact h1
theorem pt_iniD : ∀ z, z < 10 → ∀ i, i < 10 → 1 ≤ i → (if nI i = nI z then (1 : Int32) else 0) = pt z 0 i := by decide +kernel
theorem bkZ_pt {A : mM} {z : Nat} (hz : z < 10) : ptA (itN (bkZ (nI z)) A 9) z 0 := by
  have hn : ∀ n, ∀ i, 1 ≤ i → i ≤ n → itN (bkZ (nI z)) A n 57 i = if nI i = nI z then 1 else 0 := by
    intro n
    induction n with
    | zero => intro i h1 h2; omega
    | succ n ih =>
      intro i h1 h2
      rw [itN_s]
      unfold bkZ
      by_cases hi : i = n + 1
      · subst hi
        simp [mU]
      · simp only [mU]
        rw [if_neg (by omega)]
        exact ih i h1 (by omega)
  intro i h1 h9
  rw [hn 9 i h1 h9]
  exact pt_iniD z hz i (by omega) h1
theorem bkW_pt {A : mM} {z m w : Nat} (hz : z < 10) (hm : m ≤ 6) : ptA (bkW (nI z) m w A) z (pcb w m) := bkJ_pt hz (bkZ_pt hz) m hm

