/-! breaks: the model's sum without memory -/
def ms1 (z t u : Int32) (m w : Nat) (a : Int64) : Int64 := if u = 0 then a + wtW t w m * (mnZ z (pcb w m)).toInt64 else if mnZ z (pcb w m) = z then a + wtW t w m else a + 0
theorem smP_eq {z m : Nat} {t u : Int32} {M : mM} (hz : z < 10) (hz1 : 1 ≤ z) (hm : m ≤ 6) : ∀ n, (smP (nI z) t u m M n).1 = itN (ms1 (nI z) t u m) 0 n := by
  intro n
  induction n with
  | zero => rfl
  | succ n ih =>
    have h := bkW_pt (A := (smP (nI z) t u m M n).2) (w := n) hz hm
    have h1 := ptA_ct h
    obtain ⟨c1, c2⟩ := pt_cnt z hz hz1 (pcb n m) (by have := pcb_le n m; omega)
    rw [c1] at h1 c2
    have h2 := h 1 (by omega) (by omega)
    rw [itN_s, ← ih]
    show (sm1 (nI z) t u m n (smP (nI z) t u m M n)).1 = ms1 (nI z) t u m n (smP (nI z) t u m M n).1
    unfold sm1 ms1
    show (if u = 0 then _ else _) = _
    rw [h1, h2]
    by_cases hu : u = 0
    · rw [if_pos hu, if_pos hu]
    · rw [if_neg hu, if_neg hu]
      by_cases hc : mnZ (nI z) (pcb n m) = nI z
      · rw [if_pos (c2.mpr hc), if_pos hc]
      · rw [if_neg (fun q => hc (c2.mp q)), if_neg hc]
