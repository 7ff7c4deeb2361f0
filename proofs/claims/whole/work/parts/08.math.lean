/-! Math.max, Math.min, Object(): rows of the kit, over V -/
section MM
variable {own : String} {cc : ByteArray} {nL : Nat} {ret : Option FieldType} {ini : Bool} {R : Room} {al : Bool} {nb : Nat} {X : Option (Nat × (Nat → Int32))} {Q : mQt} {kc ks pc : Nat} {ls : List (Option Value)} {st : List Value} {ly : List mEn} {M : mM} {J : mJ}
def mMx (own : String) (idx : Nat) : Prop := Cond.methodLink own idx Lib.Math.max.name ∈ GW ∧ Cond.static Lib.Math.max.name ∈ GW ∧ Cond.initialized "java/lang/Math" ∈ GW ∧ Cond.code Lib.Math.max.name Lib.Math.max.code 2 (some .int) ∈ GW
def mMn (own : String) (idx : Nat) : Prop := Cond.methodLink own idx Lib.Math.min.name ∈ GW ∧ Cond.static Lib.Math.min.name ∈ GW ∧ Cond.initialized "java/lang/Math" ∈ GW ∧ Cond.code Lib.Math.min.name Lib.Math.min.code 2 (some .int) ∈ GW
theorem mwmaxX6_148 : mMx RX6 148 := ⟨gwi 389 (by decide +kernel) (by decide +kernel), gwi 390 (by decide +kernel) (by decide +kernel), gwi 38 (by decide +kernel) (by decide +kernel), gwi 391 (by decide +kernel) (by decide +kernel)⟩
theorem mwminX6_210 : mMn RX6 210 := ⟨gwi 495 (by decide +kernel) (by decide +kernel), gwi 496 (by decide +kernel) (by decide +kernel), gwi 38 (by decide +kernel) (by decide +kernel), gwi 497 (by decide +kernel) (by decide +kernel)⟩
theorem v_mmax {idx : Nat} {x y : Int32} (hk : mMx own idx) (hd : decode cc pc = .ok (.invokestatic idx, 3)) (hf : 1 ≤ R.frames) (hw : (st.map fun v => v.category).sum + 13 ≤ R.locals) (hc : kc ≤ R.cells) (hs : ks ≤ R.slots) (k : V own cc nL ret ini R al nb X Q kc ks (pc + 3) ls (.int (if x < y then y else x) :: st) ly M J) : V own cc nL ret ini R al nb X Q kc ks pc ls (.int y :: .int x :: st) ly M J := by
  intro p l e s m args below meth c D dA A ad0 ad Z H locs la C E g1 g2 g3 g4 g5
  obtain ⟨hx, hb, hml, hown, hts, hnw, hao, hK, hA, hin9, hX⟩ := id C
  exact va_mmax hx hb (hml.trans g5.1.symm) hown (hts _ hk.1) (hts _ hk.2.1) (hts _ hk.2.2.1) (hts _ hk.2.2.2) hf (by have e9 := mSt_cat ad st; unfold mSt at e9; rw [e9]; exact hw) hc hs hd (k p l e s m args below meth c D dA A ad0 ad Z H locs la C E g1 g2 g3 g4 g5)
theorem v_mmin {idx : Nat} {x y : Int32} (hk : mMn own idx) (hd : decode cc pc = .ok (.invokestatic idx, 3)) (hf : 1 ≤ R.frames) (hw : (st.map fun v => v.category).sum + 13 ≤ R.locals) (hc : kc ≤ R.cells) (hs : ks ≤ R.slots) (k : V own cc nL ret ini R al nb X Q kc ks (pc + 3) ls (.int (if y < x then y else x) :: st) ly M J) : V own cc nL ret ini R al nb X Q kc ks pc ls (.int y :: .int x :: st) ly M J := by
  intro p l e s m args below meth c D dA A ad0 ad Z H locs la C E g1 g2 g3 g4 g5
  obtain ⟨hx, hb, hml, hown, hts, hnw, hao, hK, hA, hin9, hX⟩ := id C
  exact va_mmin hx hb (hml.trans g5.1.symm) hown (hts _ hk.1) (hts _ hk.2.1) (hts _ hk.2.2.1) (hts _ hk.2.2.2) hf (by have e9 := mSt_cat ad st; unfold mSt at e9; rw [e9]; exact hw) hc hs hd (k p l e s m args below meth c D dA A ad0 ad Z H locs la C E g1 g2 g3 g4 g5)
end MM
