/-! call by call: the same answer, and the relation kept (I) -/
theorem f7v {f : Nat → Int32} {k : Nat} (h : k < 7) : f7 f (nI k) = f k := by
  unfold f7
  rw [if_pos (sm7 h), nI_clamp (by omega)]

theorem px_falls {M M1 M2 : mM} {r0 r1 : Int32}  (g : Rel M) (h1 : r0 = itN (fl (M 2 4) (M 4)) 0 7 ∧ M1 = M) (h2 : r1 = itN (fl (M1 53 7) (M1 53)) 0 7 ∧ M2 = M1) : r0 = r1 ∧ Rel M2 := by
  rw [h1.1, h2.1, h2.2, h1.2]
  exact ⟨by rw [(R_bl g).1]; exact fl_cong (R_br g), g⟩

theorem px_speak {M M1 M2 : mM} {r0 r1 : Int32} {x y z u : Int32} (g : Rel M) (h1 : r0 = (if gB M x then (if ((0 ≤ y ∧ y ≤ 9) ∧ (0 ≤ z ∧ z ≤ 999) ∧ (0 ≤ u ∧ u ≤ 2)) then sel3 u (itN (sp (M 2 7) (M 2 5) (M 2 6) (f7 (M 4) x) (f7 (M 3) x) y z) (0, -6, -6) 9).1 (itN (sp (M 2 7) (M 2 5) (M 2 6) (f7 (M 4) x) (f7 (M 3) x) y z) (0, -6, -6) 9).2.1 (itN (sp (M 2 7) (M 2 5) (M 2 6) (f7 (M 4) x) (f7 (M 3) x) y z) (0, -6, -6) 9).2.2 else -2) else -1) ∧ M1 = M) (h2 : r1 = (if hB M1 x then (if ((0 ≤ y ∧ y ≤ 9) ∧ (0 ≤ z ∧ z ≤ 999) ∧ (0 ≤ u ∧ u ≤ 2)) then (if u = 0 then (itN (nsp M1 x.toNatClampNeg y z) (0, -6) 9).1 else if (itN (nsp M1 x.toNatClampNeg y z) (0, -6) 9).2 < 0 ∨ u = 1 then (itN (nsp M1 x.toNatClampNeg y z) (0, -6) 9).2 else nWait M1 x.toNatClampNeg y z (itN (nsp M1 x.toNatClampNeg y z) (0, -6) 9).2) else -2) else -1) ∧ M2 = M1) : r0 = r1 ∧ Rel M2 := by
  rw [h1.1, h2.1, h2.2, h1.2]
  refine ⟨?_, g⟩
  have ege : gB M x ↔ hB M x := by
    unfold gB hB
    rw [(R_bl g).1]
  by_cases hg : gB M x
  · rw [if_pos hg, if_pos (ege.mp hg)]
    by_cases hc : (0 ≤ y ∧ y ≤ 9) ∧ (0 ≤ z ∧ z ≤ 999) ∧ (0 ≤ u ∧ u ≤ 2)
    · rw [if_pos hc, if_pos hc]
      obtain ⟨k, hk, ek⟩ := gM_nat ⟨hg.1, hg.2.1⟩
      rw [ek, nI_clamp (show k < 2 ^ 31 by omega), f7v hk, f7v hk]
      obtain ⟨e1, e2, e3⟩ := sp_eq (M := M) (k := k) (y := y) (m := z) (R_mi g) (R_dp g) (R_td g) (R_br g k hk) (R_pl g k hk) 9 (by omega)
      rw [e1, e2, e3]
      have hq := nsp_ok (M := M) (k := k) (y := y) (m := z) 9 (by omega)
      generalize itN (nsp M k y z) (0, -6) 9 = q at hq ⊢
      unfold sel3
      by_cases u0 : u = 0
      · rw [if_pos u0, if_pos u0]
      · rw [if_neg u0, if_neg u0]
        by_cases u1 : u = 1
        · rw [if_pos u1, if_pos (Or.inr u1)]
        · rw [if_neg u1]
          by_cases q0 : q.2 < 0
          · rw [if_pos q0, if_pos (Or.inl q0)]
            rcases hq with hq | ⟨s, hs, hs9, hq⟩
            · exact hq.symm
            · rw [hq] at q0
              exact absurd q0 (nI_pos (by omega))
          · rw [if_neg q0, if_neg (fun z => z.elim q0 u1)]
    · rw [if_neg hc, if_neg hc]
  · rw [if_neg hg, if_neg (fun z => hg (ege.mpr z))]

theorem px_laws {M M1 M2 : mM} {r0 r1 : Int32} {x y z u : Int32} (g : Rel M) (h1 : r0 = (if ((0 ≤ x ∧ x ≤ 999999) ∧ (0 ≤ y ∧ y ≤ 999999) ∧ (0 ≤ z ∧ z ≤ 54) ∧ (0 ≤ u ∧ u ≤ 2)) then sel3 u (itN (lw x y z (elaws x)) (0, 0, 0) 64).1 (itN (lw x y z (elaws x)) (0, 0, 0) 64).2.1 (itN (lw x y z (elaws x)) (0, 0, 0) 64).2.2 else -2) ∧ M1 = M) (h2 : r1 = (if ((0 ≤ x ∧ x ≤ 999999) ∧ (0 ≤ y ∧ y ≤ 999999) ∧ (0 ≤ z ∧ z ≤ 54) ∧ (0 ≤ u ∧ u ≤ 2)) then sel3 u (itN (lOs x y z) (-1, 0, 0) 64).1 (itN (lOs x y z) (-1, 0, 0) 64).2.1 (itN (lOs x y z) (-1, 0, 0) 64).2.2 else -2) ∧ M2 = M1) : r0 = r1 ∧ Rel M2 := by
  rw [h1.1, h2.1, h2.2, h1.2]
  refine ⟨?_, g⟩
  by_cases hc : (0 ≤ x ∧ x ≤ 999999) ∧ (0 ≤ y ∧ y ≤ 999999) ∧ (0 ≤ z ∧ z ≤ 54) ∧ (0 ≤ u ∧ u ≤ 2)
  · have e : itN (lOs x y z) (-1, 0, 0) 64 = itN (lw x y z (elaws x)) (0, 0, 0) 64 := laws_eq hc.2.2.1.1 63 (by omega)
    rw [if_pos hc, if_pos hc, e]
  · rw [if_neg hc, if_neg hc]

theorem px_power {M M1 M2 : mM} {r0 r1 : Int32} {x : Int32} (g : Rel M) (h1 : r0 = (if gB M x then itN (pw (M 2 4) (M 4) x) 0 128 else -1) ∧ M1 = M) (h2 : r1 = (if hB M1 x then itN (npw (M1 53 7) (M1 53) x) 0 128 else -1) ∧ M2 = M1) : r0 = r1 ∧ Rel M2 := by
  rw [h1.1, h2.1, h2.2, h1.2]
  refine ⟨?_, g⟩
  have ege : gB M x ↔ hB M x := by
    unfold gB hB
    rw [(R_bl g).1]
  by_cases hg : gB M x
  · rw [if_pos hg, if_pos (ege.mp hg)]
    obtain ⟨k, hk, ek⟩ := gM_nat ⟨hg.1, hg.2.1⟩
    rw [ek, (R_bl g).1]
    exact power_eq (R_br g) hk
  · rw [if_neg hg, if_neg (fun z => hg (ege.mpr z))]

theorem px_held {M M1 M2 : mM} {r0 r1 : Int32} {x y : Int32} (g : Rel M) (h1 : r0 = (if gS (M 2 4) x then (if 0 ≤ y ∧ y ≤ 1 then (if y = 0 then bcI (itN (hd1 (M 2 4) (M 4) x) x 128) else (itN (hd1 (M 2 4) (M 4) x) x 128)) else -2) else -1) ∧ M1 = M) (h2 : r1 = (if gS (M1 53 7) x then (if 0 ≤ y ∧ y ≤ 1 then (if y = 1 then (itN (nhd (M1 53 7) (M1 53) x) (-6) 128) else pc7 (itN (nhd (M1 53 7) (M1 53) x) (-6) 128) 7) else -2) else -1) ∧ M2 = M1) : r0 = r1 ∧ Rel M2 := by
  rw [h1.1, h2.1, h2.2, h1.2]
  refine ⟨?_, g⟩
  rw [(R_bl g).1]
  by_cases hg : gS (M 53 7) x
  · rw [if_pos hg, if_pos hg]
    by_cases hy : 0 ≤ y ∧ y ≤ 1
    · rw [if_pos hy, if_pos hy]
      obtain ⟨s, hs, es⟩ := ix (n := 127) (by decide) hg.1.1 hg.1.2
      rw [es]
      obtain ⟨k, hk, e1, e2⟩ := held_eq (bl := M 53 7) (R_br g) (R_brm g) (show s < 128 by omega)
      rw [e1, e2]
      rcases two_cases hy with h | h
      · rw [if_pos h, if_neg (by rw [h]; decide), bcI_ok k hk]
      · rw [if_pos h, if_neg (by rw [h]; decide)]
    · rw [if_neg hy, if_neg hy]
  · rw [if_neg hg, if_neg hg]

theorem px_fili {M M1 M2 : mM} {r0 r1 : Int32} {x y z : Int32} (g : Rel M) (h1 : r0 = (if gS (M 2 4) x then (if ((1 ≤ y ∧ y ≤ 9) ∧ (0 ≤ z ∧ z ≤ 2)) then (if z = 0 then (if (itN (nm x (M 4) y.toNatClampNeg) 0 7) = 0 then 1 else 0) else if (itN (nm x (M 4) y.toNatClampNeg) 0 7) = 0 then -6 else fbF x z (M 4) y.toNatClampNeg (itN (nm x (M 4) y.toNatClampNeg) 0 7) 7 0) else -2) else -1) ∧ M1 = M) (h2 : r1 = (if gS (M1 53 7) x then (if ((1 ≤ y ∧ y ≤ 9) ∧ (0 ≤ z ∧ z ≤ 2)) then (if z = 0 then (if ovF x y.toNatClampNeg (-6) 0 (M1 53) = 0 then 1 else 0) else if ovF x y.toNatClampNeg (-6) 0 (M1 53) = 0 then -6 else foM x z y.toNatClampNeg (M1 53) 7 0) else -2) else -1) ∧ M2 = M1) : r0 = r1 ∧ Rel M2 := by
  rw [h1.1, h2.1, h2.2, h1.2]
  refine ⟨?_, g⟩
  rw [(R_bl g).1]
  by_cases hg : gS (M 53 7) x
  · rw [if_pos hg, if_pos hg]
    by_cases hy : (1 ≤ y ∧ y ≤ 9) ∧ (0 ≤ z ∧ z ≤ 2)
    · rw [if_pos hy, if_pos hy]
      obtain ⟨k, hk, ek⟩ := ix (n := 9) (by decide) (Int32.le_trans (by decide) hy.1.1) hy.1.2
      rw [ek, nI_clamp (show k < 2 ^ 31 by omega), nm_cong (R_br g), fb_cong (R_br g) 7 0 rfl, fo_fb hk 7 0 rfl]
      unfold ovF
      rw [nm_ov]
    · rw [if_neg hy, if_neg hy]
  · rw [if_neg hg, if_neg hg]

theorem px_orders {M M1 M2 : mM} {r0 r1 : Int32} {x y : Int32} (g : Rel M) (h1 : r0 = (if ((1 ≤ x ∧ x ≤ 6) ∧ (0 ≤ y ∧ y ≤ 23)) then oM M y (2 ^ x.toNatClampNeg - 1) 47 (2 ^ x.toNatClampNeg - 1) else -2) ∧ M1 = (if ((1 ≤ x ∧ x ≤ 6) ∧ (0 ≤ y ∧ y ≤ 23)) then oM M y (2 ^ x.toNatClampNeg - 1) else M)) (h2 : r1 = (if ((1 ≤ x ∧ x ≤ 6) ∧ (0 ≤ y ∧ y ≤ 23)) then orA M1 y x.toNatClampNeg 56 (2 ^ x.toNatClampNeg - 1) else -2) ∧ M2 = (if ((1 ≤ x ∧ x ≤ 6) ∧ (0 ≤ y ∧ y ≤ 23)) then orA M1 y x.toNatClampNeg else M1)) : r0 = r1 ∧ Rel M2 := by
  rw [h1.1, h2.1, h2.2]
  have h0 := h1.2
  by_cases hc : (1 ≤ x ∧ x ≤ 6) ∧ (0 ≤ y ∧ y ≤ 23)
  · rw [if_pos hc] at h0
    rw [if_pos hc, if_pos hc, if_pos hc, h0]
    obtain ⟨k, hk, ek⟩ := ix (n := 6) (by decide) (Int32.le_trans (by decide) hc.1.1) hc.1.2
    rw [ek, nI_clamp (show k < 2 ^ 31 by omega)]
    refine ⟨orders_eq hk (fun j hj => by rw [oM_ne (show (51 : Nat) ≠ 47 by omega)]; exact R_hr g j hj), ?_⟩
    have e : ∀ a, a ≠ 56 → a ≠ 47 → orA (oM M y (2 ^ k - 1)) y k a = M a := fun a h56 h47 => by
      have e1 : orA (oM M y (2 ^ k - 1)) y k a = oM M y (2 ^ k - 1) a := orV_ne h56 _
      rw [e1, oM_ne h47]
    exact Rel_cong g (fun a _ ha => e a (by omega) (by omega)) (fun j _ => congrFun (e 49 (by omega) (by omega)) j)
  · rw [if_neg hc] at h0
    rw [if_neg hc, if_neg hc, if_neg hc, h0]
    exact ⟨rfl, g⟩

theorem px_whose {M M1 M2 : mM} {r0 r1 : Int32} {c : Nat} (hc : M 8 3 = nI c) (hc8 : c ≤ 8) (hcm : M1 49 4 = nI c) (hc8m : c ≤ 8) (hsm : ∀ i, i < c → 1 ≤ M1 52 (0 + 3 * i)) (g : Rel M) (h1 : r0 = whoF M c ∧ M1 = M) (h2 : r1 = whsM M1 c ∧ M2 = M1) : r0 = r1 ∧ Rel M2 := by
  obtain ⟨n, n1, n2, n3, n4⟩ := R_sg g
  have hcn : n = c := (nI_eq (by omega) (by omega)).mp (n1.symm.trans hc)
  rw [hcn] at n4
  obtain ⟨e1, e2⟩ := whose_eq (M := M) (N := M) (c := c) (R_th g).1 (R_th g).2 (R_dp g) (R_td g) (R_pl g) n4
  rw [h1.1, h2.1, h2.2, h1.2]
  exact ⟨e1, g⟩

theorem px_alike {M M1 M2 : mM} {r0 r1 : Int32} {x : Int32} {c : Nat} (hc : M 8 3 = nI c) (hc8 : c ≤ 8) (hcm : M1 49 4 = nI c) (hc8m : c ≤ 8) (hsm : ∀ i, i < c → 1 ≤ M1 52 (0 + 3 * i)) (g : Rel M) (h1 : r0 = aOut (alC (whoF M c) (M 3)) x 7 0 0 ∧ M1 = M) (h2 : r1 = aOut (alN (whsM M1 c) (M1 50)) x 7 0 0 ∧ M2 = M1) : r0 = r1 ∧ Rel M2 := by
  obtain ⟨n, n1, n2, n3, n4⟩ := R_sg g
  have hcn : n = c := (nI_eq (by omega) (by omega)).mp (n1.symm.trans hc)
  rw [hcn] at n4
  obtain ⟨e1, e2⟩ := whose_eq (M := M) (N := M) (c := c) (R_th g).1 (R_th g).2 (R_dp g) (R_td g) (R_pl g) n4
  rw [h1.1, h2.1, h2.2, h1.2]
  rw [e1]
  exact ⟨aOut_cong (fun p q hp7 hq7 => al_eq e2 (R_pl g) hp7 hq7) 7 0 0 rfl, g⟩

theorem told_lt {M : mM} (g : Rel M) : ∀ m, m < 8 → toldF M (nI m) = tldM M (nI m) := by
  intro m hm
  obtain ⟨n, p1, p2, -⟩ := R_pad g
  obtain ⟨c, s1, s2, -⟩ := R_sg g
  obtain ⟨wd, nb, T, b1, b2, b3, -⟩ := R_bk g
  have hm8 : m = 0 ∨ m = 1 ∨ m = 2 ∨ m = 3 ∨ m = 4 ∨ m = 5 ∨ m = 6 ∨ m = 7 := by omega
  rcases hm8 with e | e | e | e | e | e | e | e
  · rw [e]
    exact p1.trans p2.symm
  · rw [e]
    exact (R_th g).1
  · rw [e]
    exact (R_bl g).1
  · rw [e]
    exact R_mi g
  · rw [e]
    exact R_dp g
  · rw [e]
    exact R_td g
  · rw [e]
    exact s1.trans s2.symm
  · rw [e]
    exact b2.trans b3.symm
theorem told_eq {M : mM} {x : Int32} (g : Rel M) : toldF M x = tldM M x := by
  by_cases hx : x < 0
  · rw [toldF_d (Or.inl hx)]
    have hn : ∀ a : Int32, 0 ≤ a → ¬ a ≤ x := fun a ha q => Int32.not_lt.mpr (Int32.le_trans ha q) hx
    have hne : ∀ a : Int32, 0 ≤ a → ¬ x = a := fun a ha q => Int32.not_lt.mpr ha (q ▸ hx)
    unfold tOne tldM
    rw [if_neg (fun q => hn 10 (by decide) q.1.1), if_neg (fun q => hn 20 (by decide) q.1.1), if_neg (fun q => hn 30 (by decide) q.1), if_neg (hn 30 (by decide)), if_neg (hn 20 (by decide)), if_neg (hn 10 (by decide)), if_neg (hne 0 (by decide)), if_neg (hne 1 (by decide)), if_neg (hne 2 (by decide)), if_neg (hne 3 (by decide)), if_neg (hne 4 (by decide)), if_neg (hne 5 (by decide)), if_neg (hne 6 (by decide)), if_neg (hne 7 (by decide))]
  · obtain ⟨m, hm, e⟩ := nI_of hx
    rw [e]
    by_cases h8 : m < 8
    · exact told_lt g m h8
    · rw [toldF_d (Or.inr (nI_lt (a := 7) (by omega) hm))]
      have hle : ∀ a : Nat, a < 100 → (nI a ≤ nI m ↔ a ≤ m) := fun a ha => nI_leI (by omega) hm
      have hge : ∀ a : Nat, a < 100 → (nI m ≤ nI a ↔ m ≤ a) := fun a ha => nI_leI hm (by omega)
      have hne : ∀ a : Nat, a < 8 → ¬ nI m = nI a := fun a ha q => by
        have := (nI_eq hm (by omega)).mp q
        omega
      have l10 : (10 : Int32) ≤ nI m ↔ 10 ≤ m := hle 10 (by omega)
      have l20 : (20 : Int32) ≤ nI m ↔ 20 ≤ m := hle 20 (by omega)
      have l30 : (30 : Int32) ≤ nI m ↔ 30 ≤ m := hle 30 (by omega)
      have l16 : nI m ≤ (16 : Int32) ↔ m ≤ 16 := hge 16 (by omega)
      have l26 : nI m ≤ (26 : Int32) ↔ m ≤ 26 := hge 26 (by omega)
      have l35 : nI m ≤ (35 : Int32) ↔ m ≤ 35 := hge 35 (by omega)
      have eT : ∀ y : Int32, gT M y ↔ hT M y := fun y => by
        unfold gT hT
        rw [(R_th g).1]
      unfold tOne tldM
      by_cases c30 : 30 ≤ m
      · rw [if_neg (fun q => by have := l16.mp q.1.2; omega), if_neg (fun q => by have := l26.mp q.1.2; omega), if_pos (l30.mpr c30)]
        by_cases c35 : m ≤ 35
        · have hq : (30 : Int32) ≤ nI m ∧ nI m ≤ 35 := ⟨l30.mpr c30, l35.mpr c35⟩
          rw [if_pos hq, if_pos hq, show nI m - 30 = nI (m - 30) from nI_sub c30, nI_clamp (by omega)]
          exact R_hr g _ (by omega)
        · rw [if_neg (fun q => c35 (l35.mp q.2)), if_neg (fun q => c35 (l35.mp q.2))]
      · rw [if_neg (show ¬ (30 : Int32) ≤ nI m from fun q => c30 (l30.mp q)), if_neg (show ¬ ((30 : Int32) ≤ nI m ∧ nI m ≤ 35) from fun q => c30 (l30.mp q.1))]
        by_cases c20 : 20 ≤ m
        · have e20 : nI m - 20 = nI (m - 20) := nI_sub c20
          rw [if_neg (fun q => by have := l16.mp q.1.2; omega), if_pos (l20.mpr c20), e20]
          by_cases hT0 : hT M (nI (m - 20))
          · have h6 : m - 20 ≤ 6 := (nI_leI (b := 6) (by omega) (by omega)).mp hT0.2.1
            rw [if_pos ⟨⟨l20.mpr c20, l26.mpr (by omega)⟩, (eT _).mpr hT0⟩, if_pos hT0, f7v (by omega), nI_clamp (by omega)]
            exact R_br g _ (by omega)
          · rw [if_neg (fun q => hT0 ((eT _).mp q.2)), if_neg hT0]
        · rw [if_neg (show ¬ (20 : Int32) ≤ nI m from fun q => c20 (l20.mp q)), if_neg (show ¬ (((20 : Int32) ≤ nI m ∧ nI m ≤ 26) ∧ gT M (nI m - 20)) from fun q => c20 (l20.mp q.1.1))]
          by_cases c10 : 10 ≤ m
          · have e10 : nI m - 10 = nI (m - 10) := nI_sub c10
            rw [if_pos (l10.mpr c10), e10]
            by_cases hT0 : hT M (nI (m - 10))
            · have h6 : m - 10 ≤ 6 := (nI_leI (b := 6) (by omega) (by omega)).mp hT0.2.1
              rw [if_pos ⟨⟨l10.mpr c10, l16.mpr (by omega)⟩, (eT _).mpr hT0⟩, if_pos hT0, f7v (by omega), nI_clamp (by omega)]
              exact R_pl g _ (by omega)
            · rw [if_neg (fun q => hT0 ((eT _).mp q.2)), if_neg hT0]
          · rw [if_neg (fun q => c10 (l10.mp q.1.1)), if_neg (fun q => c10 (l10.mp q)), if_neg (show ¬ nI m = (0 : Int32) from hne 0 (by omega)), if_neg (show ¬ nI m = (1 : Int32) from hne 1 (by omega)), if_neg (show ¬ nI m = (2 : Int32) from hne 2 (by omega)), if_neg (show ¬ nI m = (3 : Int32) from hne 3 (by omega)), if_neg (show ¬ nI m = (4 : Int32) from hne 4 (by omega)), if_neg (show ¬ nI m = (5 : Int32) from hne 5 (by omega)), if_neg (show ¬ nI m = (6 : Int32) from hne 6 (by omega)), if_neg (show ¬ nI m = (7 : Int32) from hne 7 (by omega))]

theorem px_told {M M1 M2 : mM} {r0 r1 : Int32} {x : Int32} (g : Rel M) (h1 : r0 = toldF M x ∧ M1 = M) (h2 : r1 = tldM M1 x ∧ M2 = M1) : r0 = r1 ∧ Rel M2 := by
  rw [h1.1, h2.1, h2.2, h1.2]
  exact ⟨told_eq g, g⟩

theorem px_fault {M M1 M2 : mM} {r0 r1 : Int32} {n : Nat} (hn : M 44 1 = nI n) (h60 : n ≤ 60) (hnm : M1 49 8 = nI n) (h60m : n ≤ 60) (g : Rel M) (h1 : r0 = cFl (M 45) n 61 0 ∧ M1 = M) (h2 : r1 = mFl (M1 55) n 61 0 0 ∧ M2 = M1) : r0 = r1 ∧ Rel M2 := by
  obtain ⟨k, p1, p2, p3, p4⟩ := R_pad g
  have hkn : k = n := (nI_eq (by omega) (by omega)).mp (p1.symm.trans hn)
  rw [hkn] at p4
  rw [h1.1, h2.1, h2.2, h1.2]
  refine ⟨?_, g⟩
  rw [mFl_eq h60 61 0 (by omega) (by omega) 61 (by omega)]
  exact cFl_cong p4 61 0
