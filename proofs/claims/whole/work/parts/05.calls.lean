/-! contracts over cell numbers, and calls -/
def mA (ly : List mEn) (ad : Nat → Nat) (sz : Nat) : Nat → Prop := fun q => (∃ k, k < ly.length ∧ q = ad k) ∨ sz ≤ q
def mQ (D : va_G) (dA : Nat → ClassId) (al : Bool) (nb : Nat) (ad0 : Nat → Nat) (Q : mQt) (A : Nat → Prop) : Array Value → State → Outcome → State → Prop := fun _ st oc t =>
  (∃ (o : Option Value) (ly : List mEn) (M : mM) (J : mJ) (ad : Nat → Nat), oc = .returned (o.map (mV ad)) ∧ Q o ly M J ∧ mAg al nb ad0 ad ∧ va_P D vwCl (mW dA ad ly M J) t.heap ∧ va_D A (mW dA ad ly M J)) ∧ va_F A st t
def mPc (D : va_G) (dA : Nat → ClassId) (ad : Nat → Nat) (sz : Nat) (args : List Value) (ly : List mEn) (M : mM) (J : mJ) : Array Value → State → Prop :=
  va_Pc (mSt ad args) (fun U => U.heap.size = sz ∧ va_P D vwCl (mW dA ad ly M J) U.heap ∧ va_D (fun _ => True) (mW dA ad ly M J) ∧ va_K D vwCl (mT dA) U ∧ va_AO RX1 U ∧ ∀ w ∈ NW, va_Nw w U)
/-- y, called with args over the cells (ly, M, J), comes to its end with Q -/
def Ct (y : MethodName) (cc : ByteArray) (nL : Nat) (ret : Option FieldType) (R : Room) (al : Bool) (args : List Value) (ly : List mEn) (M : mM) (J : mJ) (Q : mQt) : Prop :=
  ∀ (l : Launch) (D : va_G) (dA : Nat → ClassId) (ad : Nat → Nat) (sz : Nat), Met l y (Cond.code y cc nL ret :: GW) R (mPc D dA ad sz args ly M J) (mQ D dA al ly.length ad Q (mA ly ad sz)) R.cells R.slots (mA ly ad sz)
theorem nst_on {w : Cond} (h : w ∈ NW) : w.onTables = true := by
  have h1 := (List.mem_filter.mp h).2
  cases w <;> first | rfl | (simp [nstW] at h1)
theorem nst_warm {w : Cond} (h : w ∈ NW) {s U : State} (hW : s.WarmedH U.vm) (hz : va_Nw w s) : va_Nw w U := by
  have h1 := (List.mem_filter.mp h).2
  cases w <;> first | exact va_Nw.warmF hW hz | exact va_Nw.warmM hW hz | (simp [nstW] at h1)
theorem gw_word {w : Cond} (h : w ∈ GW) : (w.onTables && w.keeps) = true ∨ ∃ ty, w = .arrayClass ty := good_of_word (List.mem_filter.mp h).2
theorem gw_good {y : MethodName} {cc : ByteArray} {nL : Nat} {ret : Option FieldType} (h : Cond.code y cc nL ret ∈ GW) : GoodIn GW (Cond.code y cc nL ret :: GW) := fun w hw => by
  rcases List.mem_cons.mp hw with rfl | hw
  · exact ⟨h, gw_word h⟩
  · exact ⟨hw, gw_word hw⟩
theorem mSt_args (ad : Nat → Nat) (o : Option Value) (st : List Value) : (o.map (mV ad)).toList ++ mSt ad st = mSt ad (o.toList ++ st) := by cases o <;> rfl
def mArg : List Value → List (Option Value)
  | [] => []
  | v :: vs => if v.category = 2 then some v :: none :: mArg vs else some v :: mArg vs
theorem mArg_in {ad : Nat → Nat} {q : Nat × Value} : ∀ (vs : List Value) (i n : Nat), q ∈ mLs ad i (mArg vs ++ List.replicate n none) → q ∈ lv_args i (mSt ad vs)
  | [], i, n, h => by
    obtain ⟨j, v, h1, -⟩ := mLs_inv _ _ h
    have h2 := List.mem_of_getElem? h1
    rw [show mArg [] ++ List.replicate n none = List.replicate n none from rfl] at h2
    exact absurd (List.eq_of_mem_replicate h2) (by simp)
  | v :: vs, i, n, h => by
    have hm : mSt ad (v :: vs) = mV ad v :: mSt ad vs := rfl
    rw [hm]
    unfold lv_args
    rw [mV_cat]
    unfold mArg at h
    by_cases hc : v.category = 2
    · rw [if_pos hc] at h ⊢
      rcases List.mem_cons.mp h with rfl | h
      · exact List.mem_cons_self
      · exact List.mem_cons_of_mem _ (mArg_in vs (i + 2) n h)
    · rw [if_neg hc] at h ⊢
      rcases List.mem_cons.mp h with rfl | h
      · exact List.mem_cons_self
      · exact List.mem_cons_of_mem _ (mArg_in vs (i + 1) n h)
set_option maxHeartbeats 1000000 in
theorem ct_of {y : MethodName} {own : String} {cc : ByteArray} {nL : Nat} {ret : Option FieldType} {ini : Bool} {R : Room} {al : Bool} {args : List Value} {ly : List mEn} {M : mM} {J : mJ} {Q : mQt} {ls : List (Option Value)} (n : Nat) (hy : plainName y.cls = true) (hown : y.cls = own) (hini : ini = true → y.name = "<init>") (hls : mArg args ++ List.replicate n none = ls) (hlen : ∀ ad, (lg_sl (mSt ad args)).length ≤ nL)
    (v : V own cc nL ret ini R al ly.length none Q 0 0 0 ls [] ly M J) : Ct y cc nL ret R al args ly M J Q := by
  intro l D dA ad sz
  refine Met.ofW (cc := cc) (maxL := nL) (ret := ret) hy rfl ?_
  intro p e s m args' below meth c s₁ B hml hv
  obtain ⟨rfl, hsz, hP, hD0, hK, hAO, hN⟩ := hv
  have hts := atoms_spec (ws := Cond.code y cc nL ret :: GW) B.pre
  have hown2 : s.vm.findClass own = some m.cls := hown ▸ findClass_of_methodNamed B.named
  have hr := B.returns
  have hlocks := B.notSynchronized
  subst hsz
  rw [lg_entry_eq]
  have hl := lv_entry (mSt ad args) (n := nL) (hlen ad)
  have hD : va_D (mA ly ad s.heap.size) (mW dA ad ly M J) := hD0.weaken (fun k q hk _ => by
    obtain ⟨e, h1, rfl⟩ := mW_inv hk
    exact Or.inl ⟨k, (List.getElem?_eq_some_iff.mp h1).1, rfl⟩)
  refine v p l e s m _ below meth c D dA (mA ly ad s.heap.size) ad ad _ s.heap [] _ ⟨B.exec, B.bytes, hml, hown2, fun w hw => hts w (List.mem_cons_of_mem _ hw), hN, hAO, hK, fun q h => Or.inr h, fun h => by rw [(name_of_methodNamed B.named B.method).1]; exact hini h, fun L xs h => by cases h⟩ ?_ ?_ hP hD va_S.rf (lv_less hl (fun q hq => mArg_in args 0 n (by rw [hls]; exact hq)))
  · intro o ly' M' J' ad' H' locs' la' pc' hQ hok hag hP' hD' hS' hd
    have fin : ∀ t : State, t.heap = H' → mQ D dA al ly.length ad Q (mA ly ad s.heap.size) (mSt ad args).toArray s (.returned (o.map (mV ad'))) t := fun t ht => ⟨⟨o, ly', M', J', ad', rfl, hQ, hag, by rw [ht]; exact hP', hD'⟩, hS'.F ht⟩
    cases o with
    | none =>
      cases ret with
      | none => exact W.vret B.exec B.bytes hr (fun t ht _ => fin t ht) hS'.2.2 hd hlocks
      | some ty => cases ty <;> exact hok.elim
    | some v9 =>
      cases ret with
      | none => exact hok.elim
      | some ty =>
        cases ty with
        | int => cases v9 with
          | int x => exact W.iret B.exec B.bytes hr (fun t ht _ => fin t ht) hS'.2.2 hd hlocks
          | _ => exact hok.elim
        | long => cases v9 with
          | long x => exact W.lret B.exec B.bytes hr (fun t ht _ => fin t ht) hS'.2.2 hd hlocks
          | _ => exact hok.elim
        | boolean => cases v9 with
          | int x => exact W.zret B.exec B.bytes hr hok (fun t ht _ => fin t ht) hS'.2.2 hd hlocks
          | _ => exact hok.elim
        | _ => exact hok.elim
  · cases al
    · exact rfl
    · exact fun _ _ => rfl
theorem m_call {p : Program} {l : Launch} {e : Env} {R : Room} {s : State} {m : MethodId} {args : Array Value} {below : List Frame} {meth : Method} {c : Code} {H : Heap} {locs : List Loc} {kc ks mc ms pc : Nat} {Z : State → Prop} {la : Array Slot} {rest st0 : List Value} {D : va_G} {dA : Nat → ClassId} {al : Bool} {nb : Nat} {ad : Nat → Nat} {Q' : mQt} {A A1 : Nat → Prop} {free : Addr → Prop} {a : Array Value}
    (hr : va_Run p l e R s m args below meth c H locs kc ks mc ms (F0 m pc la st0) rest (mQ D dA al nb ad Q' A1 a) free) (hS : va_S A s.heap H locs) (hA : ∀ q, q < H.size → A1 q → A q) (hf : ∀ q, free q → A q)
    (kk : ∀ (o : Option Value) (ly' : List mEn) (M' : mM) (J' : mJ) (ad' : Nat → Nat) (H1 : Heap) (locs1 : List Loc), Q' o ly' M' J' → mAg al nb ad ad' → va_P D vwCl (mW dA ad' ly' M' J') H1 → va_D A1 (mW dA ad' ly' M' J') → va_S A s.heap H1 locs1 → W p l e R s m args below meth c H1 locs1 (kc + mc) (ks + ms) Z (F0 m (pc + 3) la ((o.map (mV ad')).toList ++ rest))) :
    W p l e R s m args below meth c H locs kc ks Z (F0 m pc la st0) := by
  intro T hT X
  obtain ⟨v, st₀, t, T', L, h0, X', hL, e1, e2, ⟨⟨o, ly', M', J', ad', hv, hQ, hag, hP, hD⟩, hz, hk⟩, st⟩ := hr T hT X
  cases hv
  rw [h0] at hz hk
  have hS' : va_S A s.heap T'.heap (locs ++ L) := ⟨Nat.le_trans hS.1 (by rw [e1]; exact hz), fun q h1 h2 => by
      have h3 : q < H.size := Nat.lt_of_lt_of_le h1 hS.1
      rw [e1, hk q h3 (fun z => h2 (hA q h3 z))]
      exact hS.2.1 q h1 h2, fun q hq => by
      rcases List.mem_append.mp hq with h | h
      · exact hS.2.2 q h
      · exact hf _ (hL q h)⟩
  obtain ⟨t2, a1, b1⟩ := kk o ly' M' J' ad' T'.heap (locs ++ L) hQ hag (by rw [e1]; exact hP) hD hS' T' rfl X'
  exact ⟨t2, st t2 a1, b1⟩
/-- the callee's room in the caller's -/
def mRm (R' : Room) (n : Nat) (R : Room) : Bool := Nat.ble (R'.frames + 1) R.frames && Nat.ble (8 + (n + 11) + R'.locals) R.locals
theorem mRm_ok {R' R : Room} {n : Nat} (h : mRm R' n R = true) : R'.frames + 1 ≤ R.frames ∧ 8 + (n + 11) + R'.locals ≤ R.locals := by
  unfold mRm at h
  rw [Bool.and_eq_true] at h
  exact ⟨Nat.le_of_ble_eq_true h.1, Nat.le_of_ble_eq_true h.2⟩
def rmD (d : Nat) : Room := { frames := d, cells := 0, slots := 0, locals := 40 * d }
theorem mPc_blind {D : va_G} {dA : Nat → ClassId} {ad : Nat → Nat} {sz : Nat} {args : List Value} {ly : List mEn} {M : mM} {J : mJ} : FrameBlind (mPc D dA ad sz args ly M J) := fun a U g mk q => by
  obtain ⟨q0, q1, q2, q3, q4, q5, q6⟩ := q
  exact ⟨q0, q1, q2, q3, va_K.moved (u := U) (U := U.calling g mk a) (Vm.Alike.refl U.vm) q4, va_AO.moved (u := U) (U := U.calling g mk a) (Vm.Alike.refl U.vm) q5, fun w hw => va_Nw.same (u := U) (nst_on hw) (by first | rfl | exact (State.vm_calling ..).symm | simp) (q6 w hw)⟩
theorem mPc_pre {D : va_G} {dA : Nat → ClassId} {ad : Nat → Nat} {args : List Value} {ly : List mEn} {M : mM} {J : mJ} {s : State} {H : Heap} {A : Nat → Prop} (hP : va_P D vwCl (mW dA ad ly M J) H) (hD : va_D A (mW dA ad ly M J)) (hK : va_K D vwCl (mT dA) s) (hAO : va_AO RX1 s) (hN : ∀ w ∈ NW, va_Nw w s) : ∀ U : State, U.heap = H → s.WarmedH U.vm → mPc D dA ad H.size args ly M J (mSt ad args).toArray U := fun U hU hW =>
  ⟨rfl, by rw [hU], by rw [hU]; exact hP, hD.weaken (fun _ _ _ _ => trivial), va_K.moved hW.alike hK, va_AO.moved hW.alike hAO, fun w hw => nst_warm hw hW (hN w hw)⟩
theorem mA_free {dA : Nat → ClassId} {ad : Nat → Nat} {ly : List mEn} {M : mM} {J : mJ} {s : State} {H : Heap} {A : Nat → Prop} {locs : List Loc} (hD : va_D A (mW dA ad ly M J)) (hS : va_S A s.heap H locs) (hA : ∀ q, s.heap.size ≤ q → A q) : ∀ q, mA ly ad H.size q → A q := by
  intro q h
  rcases h with ⟨k, hk, rfl⟩ | h
  · exact hD.2 k _ (mW_at (List.getElem?_eq_getElem hk))
  · exact hA q (Nat.le_trans hS.1 h)
theorem mSt_len (ad : Nat → Nat) (st : List Value) : (mSt ad st).length = st.length := by unfold mSt; rw [List.length_map]
theorem mSt_cat (ad : Nat → Nat) (st : List Value) : ((mSt ad st).map fun v => v.category) = st.map fun v => v.category := by
  unfold mSt
  rw [List.map_map]
  exact List.map_congr_left (fun v _ => mV_cat ad v)
theorem mSt_rev (ad : Nat → Nat) (As st : List Value) : mSt ad (As.reverse ++ st) = (mSt ad As).reverse ++ mSt ad st := by
  unfold mSt
  rw [List.map_append, List.map_reverse]
section MC
variable {own : String} {cc : ByteArray} {nL : Nat} {ret : Option FieldType} {ini : Bool} {R : Room} {al : Bool} {nb : Nat} {X : Option (Nat × (Nat → Int32))} {Q : mQt} {kc ks pc : Nat} {ls : List (Option Value)} {st : List Value} {ly : List mEn} {M : mM} {J : mJ}
variable {y : MethodName} {cc' : ByteArray} {nL' idx n : Nat} {ret' : Option FieldType} {R' : Room} {Q' : mQt} {As : List Value}

theorem v_callV {r ci N : Nat} {T : u_T} {fs : List (Option (Option Nat))} (hk : mCV own idx y cc' nL' ret' n) (hC : Ct y cc' nL' ret' R' false (.ref r :: As) ly M J Q') (he : ly[r]? = some (.inr (.inr (ci, fs)))) (hc : vwCl[ci]? = some (y.cls, T, N)) (hn : As.length = n) (hw : (st.map fun v => v.category).sum ≤ 8) (hR : mRm R' nL' R = true) (h0 : R'.cells = 0) (h1 : R'.slots = 0) (hkc : kc ≤ R.cells) (hks : ks ≤ R.slots) (hd : decode cc pc = .ok (.invokevirtual idx, 3))
    (k : ∀ o ly' M' J', Q' o ly' M' J' → V own cc nL ret ini R al nb X Q kc ks (pc + 3) ls (o.toList ++ st) ly' M' J') : V own cc nL ret ini R al nb X Q kc ks pc ls (As.reverse ++ .ref r :: st) ly M J := by
  intro p l e s m args below meth c D dA A ad0 ad Z H locs la C E g1 g2 g3 g4 g5
  obtain ⟨hx, hb, hml, hown, hts, hnw, hao, hK, hA, hin9, hX⟩ := id C
  obtain ⟨k1, k2, k3, k4, k5, k6, k7, k8⟩ := hk
  obtain ⟨hR1, hR2⟩ := mRm_ok hR
  have hM := hC l D dA ad H.size
  rw [h0, h1] at hM
  have hcb := callB_of (own := own) (index := idx) (mc := 0) (ms := 0) (R := R) (rm := R') n hts (gw_good k5) rfl h0 h1 (hts _ k4) (hts _ k1) ⟨k6, k7, k8⟩ ⟨hR1, hR2⟩
  have hrun := va_runV (e := e) (below := below) (meth := meth) (locs := locs) (cells := kc) (slots := ks) (H := H) (C := y.cls) (b := ad r) (As := mSt ad As) (rest := mSt ad st) (g := F0 m pc la (mSt ad (As.reverse ++ .ref r :: st))) ⟨hx, hb, hml, hown, hts⟩ hM ⟨hcb, hts _ k2, hts _ k3⟩ ⟨mPc_blind, va_recv hK g2 hc (mW_at he), mPc_pre (args := .ref r :: As) g2 g3 hK hao hnw⟩ rfl (by rw [mSt_len]; exact hn) g5.1 (mSt_rev ad As (.ref r :: st)) (lv_room (by rw [mSt_cat]; exact hw)) hd ⟨by omega, by omega⟩
  refine m_call hrun g4 (fun q _ h => mA_free g3 g4 hA q h) (mA_free g3 g4 hA) (fun o ly' M' J' ad' H1 locs1 hQ hag hP1 hD1 hS1 => ?_)
  · have hag : ad' = ad := hag
    subst hag
    have hF := mA_free g3 g4 hA
    rw [mSt_args]
    exact k o ly' M' J' hQ p l e s m args below meth c D dA A ad0 ad' Z H1 locs1 la C E g1 hP1 (hD1.weaken (fun _ _ _ h => hF _ h)) hS1 g5
theorem v_callS (hk : mCS own idx y cc' nL' ret' n) (hC : Ct y cc' nL' ret' R' false As ly M J Q') (hn : As.length = n) (hw : (st.map fun v => v.category).sum ≤ 8) (hR : mRm R' nL' R = true) (h0 : R'.cells = 0) (h1 : R'.slots = 0) (hkc : kc ≤ R.cells) (hks : ks ≤ R.slots) (hd : decode cc pc = .ok (.invokestatic idx, 3))
    (k : ∀ o ly' M' J', Q' o ly' M' J' → V own cc nL ret ini R al nb X Q kc ks (pc + 3) ls (o.toList ++ st) ly' M' J') : V own cc nL ret ini R al nb X Q kc ks pc ls (As.reverse ++ st) ly M J := by
  intro p l e s m args below meth c D dA A ad0 ad Z H locs la C E g1 g2 g3 g4 g5
  obtain ⟨hx, hb, hml, hown, hts, hnw, hao, hK, hA, hin9, hX⟩ := id C
  obtain ⟨k1, k2, k4, k5, k6, k7, k8⟩ := hk
  obtain ⟨hR1, hR2⟩ := mRm_ok hR
  have hM := hC l D dA ad H.size
  rw [h0, h1] at hM
  have hrun : va_Run p l e R s m args below meth c H locs kc ks 0 0 (F0 m pc la (mSt ad (As.reverse ++ st))) (mSt ad st) (mQ D dA false ly.length ad Q' (mA ly ad H.size) (mSt ad As).toArray) (mA ly ad H.size) := by
    rcases k1 with k1 | ⟨host, k1⟩
    · exact va_runS ⟨hx, hb, hml, hown, hts⟩ hM ⟨callB_of (own := own) (index := idx) (mc := 0) (ms := 0) (R := R) (rm := R') n hts (gw_good k5) rfl h0 h1 (hts _ k4) (hts _ k1) ⟨k6, k7, k8⟩ ⟨hR1, hR2⟩, hts _ k2⟩ ⟨mPc_blind, mPc_pre (args := As) g2 g3 hK hao hnw⟩ rfl (by rw [mSt_len]; exact hn) g5.1 (mSt_rev ad As st) (lv_room (by rw [mSt_cat]; exact hw)) hd ⟨by omega, by omega⟩
    · exact va_runSN ⟨hx, hb, hml, hown, hts⟩ hM ⟨va_cnB n hts (gw_good k5) rfl h0 h1 (hnw _ k1) (hts _ k4) ⟨k6, k7, k8⟩ ⟨hR1, hR2⟩, hts _ k2, trivial⟩ ⟨mPc_blind, mPc_pre (args := As) g2 g3 hK hao hnw⟩ rfl (by rw [mSt_len]; exact hn) g5.1 (mSt_rev ad As st) (lv_room (by rw [mSt_cat]; exact hw)) hd ⟨by omega, by omega⟩
  refine m_call hrun g4 (fun q _ h => mA_free g3 g4 hA q h) (mA_free g3 g4 hA) (fun o ly' M' J' ad' H1 locs1 hQ hag hP1 hD1 hS1 => ?_)
  · have hag : ad' = ad := hag
    subst hag
    have hF := mA_free g3 g4 hA
    rw [mSt_args]
    exact k o ly' M' J' hQ p l e s m args below meth c D dA A ad0 ad' Z H1 locs1 la C E g1 hP1 (hD1.weaken (fun _ _ _ h => hF _ h)) hS1 g5
/-- what an ordinary method ends with: the shapes stay -/
def mNi (ly : List mEn) (P : Int32 → mM → mJ → Prop) : mQt := fun o ly' M' J' => ly' = ly ∧ ∃ r, o = some (.int r) ∧ P r M' J'
def mNl (ly : List mEn) (P : Int64 → mM → mJ → Prop) : mQt := fun o ly' M' J' => ly' = ly ∧ ∃ r, o = some (.long r) ∧ P r M' J'
def mNv (ly : List mEn) (P : mM → mJ → Prop) : mQt := fun o ly' M' J' => ly' = ly ∧ o = none ∧ P M' J'
theorem v_cV0i {r ci N : Nat} {T : u_T} {fs : List (Option (Option Nat))} {P : Int32 → mM → mJ → Prop} {d' : Nat} (hd : decode cc pc = .ok (.invokevirtual idx, 3)) (hk : mCV own idx y cc' nL' ret' 0) (hC : Ct y cc' nL' ret' (rmD d') false (.ref r :: []) ly M J (mNi ly P)) (he : ly[r]? = some (.inr (.inr (ci, fs)))) (hc : vwCl[ci]? = some (y.cls, T, N)) (hw : (st.map fun v => v.category).sum ≤ 8) (hR : mRm (rmD d') nL' R = true) (hkc : kc ≤ R.cells) (hks : ks ≤ R.slots)
    (k : ∀ r0 M' J', P r0 M' J' → V own cc nL ret ini R al nb X Q kc ks (pc + 3) ls (.int r0 :: st) ly M' J') : V own cc nL ret ini R al nb X Q kc ks pc ls (.ref r :: st) ly M J := v_callV (As := []) hk hC he hc rfl hw hR rfl rfl hkc hks hd (fun o ly' M' J' h => by obtain ⟨rfl, r0, rfl, h⟩ := h; exact k r0 M' J' h)
theorem v_cV0l {r ci N : Nat} {T : u_T} {fs : List (Option (Option Nat))} {P : Int64 → mM → mJ → Prop} {d' : Nat} (hd : decode cc pc = .ok (.invokevirtual idx, 3)) (hk : mCV own idx y cc' nL' ret' 0) (hC : Ct y cc' nL' ret' (rmD d') false (.ref r :: []) ly M J (mNl ly P)) (he : ly[r]? = some (.inr (.inr (ci, fs)))) (hc : vwCl[ci]? = some (y.cls, T, N)) (hw : (st.map fun v => v.category).sum ≤ 8) (hR : mRm (rmD d') nL' R = true) (hkc : kc ≤ R.cells) (hks : ks ≤ R.slots)
    (k : ∀ r0 M' J', P r0 M' J' → V own cc nL ret ini R al nb X Q kc ks (pc + 3) ls (.long r0 :: st) ly M' J') : V own cc nL ret ini R al nb X Q kc ks pc ls (.ref r :: st) ly M J := v_callV (As := []) hk hC he hc rfl hw hR rfl rfl hkc hks hd (fun o ly' M' J' h => by obtain ⟨rfl, r0, rfl, h⟩ := h; exact k r0 M' J' h)
theorem v_cV0v {r ci N : Nat} {T : u_T} {fs : List (Option (Option Nat))} {P : mM → mJ → Prop} {d' : Nat} (hd : decode cc pc = .ok (.invokevirtual idx, 3)) (hk : mCV own idx y cc' nL' ret' 0) (hC : Ct y cc' nL' ret' (rmD d') false (.ref r :: []) ly M J (mNv ly P)) (he : ly[r]? = some (.inr (.inr (ci, fs)))) (hc : vwCl[ci]? = some (y.cls, T, N)) (hw : (st.map fun v => v.category).sum ≤ 8) (hR : mRm (rmD d') nL' R = true) (hkc : kc ≤ R.cells) (hks : ks ≤ R.slots)
    (k : ∀ M' J', P M' J' → V own cc nL ret ini R al nb X Q kc ks (pc + 3) ls st ly M' J') : V own cc nL ret ini R al nb X Q kc ks pc ls (.ref r :: st) ly M J := v_callV (As := []) hk hC he hc rfl hw hR rfl rfl hkc hks hd (fun o ly' M' J' h => by obtain ⟨rfl, rfl, h⟩ := h; exact k M' J' h)
theorem v_cV1i {r ci N : Nat} {T : u_T} {fs : List (Option (Option Nat))} {b0 : Value} {P : Int32 → mM → mJ → Prop} {d' : Nat} (hd : decode cc pc = .ok (.invokevirtual idx, 3)) (hk : mCV own idx y cc' nL' ret' 1) (hC : Ct y cc' nL' ret' (rmD d') false (.ref r :: [b0]) ly M J (mNi ly P)) (he : ly[r]? = some (.inr (.inr (ci, fs)))) (hc : vwCl[ci]? = some (y.cls, T, N)) (hw : (st.map fun v => v.category).sum ≤ 8) (hR : mRm (rmD d') nL' R = true) (hkc : kc ≤ R.cells) (hks : ks ≤ R.slots)
    (k : ∀ r0 M' J', P r0 M' J' → V own cc nL ret ini R al nb X Q kc ks (pc + 3) ls (.int r0 :: st) ly M' J') : V own cc nL ret ini R al nb X Q kc ks pc ls (b0 :: .ref r :: st) ly M J := v_callV (As := [b0]) hk hC he hc rfl hw hR rfl rfl hkc hks hd (fun o ly' M' J' h => by obtain ⟨rfl, r0, rfl, h⟩ := h; exact k r0 M' J' h)
theorem v_cS1i {b0 : Value} {P : Int32 → mM → mJ → Prop} {d' : Nat} (hd : decode cc pc = .ok (.invokestatic idx, 3)) (hk : mCS own idx y cc' nL' ret' 1) (hC : Ct y cc' nL' ret' (rmD d') false [b0] ly M J (mNi ly P)) (hw : (st.map fun v => v.category).sum ≤ 8) (hR : mRm (rmD d') nL' R = true) (hkc : kc ≤ R.cells) (hks : ks ≤ R.slots)
    (k : ∀ r0 M' J', P r0 M' J' → V own cc nL ret ini R al nb X Q kc ks (pc + 3) ls (.int r0 :: st) ly M' J') : V own cc nL ret ini R al nb X Q kc ks pc ls (b0 :: st) ly M J := v_callS (As := [b0]) hk hC rfl hw hR rfl rfl hkc hks hd (fun o ly' M' J' h => by obtain ⟨rfl, r0, rfl, h⟩ := h; exact k r0 M' J' h)
theorem v_cV1l {r ci N : Nat} {T : u_T} {fs : List (Option (Option Nat))} {b0 : Value} {P : Int64 → mM → mJ → Prop} {d' : Nat} (hd : decode cc pc = .ok (.invokevirtual idx, 3)) (hk : mCV own idx y cc' nL' ret' 1) (hC : Ct y cc' nL' ret' (rmD d') false (.ref r :: [b0]) ly M J (mNl ly P)) (he : ly[r]? = some (.inr (.inr (ci, fs)))) (hc : vwCl[ci]? = some (y.cls, T, N)) (hw : (st.map fun v => v.category).sum ≤ 8) (hR : mRm (rmD d') nL' R = true) (hkc : kc ≤ R.cells) (hks : ks ≤ R.slots)
    (k : ∀ r0 M' J', P r0 M' J' → V own cc nL ret ini R al nb X Q kc ks (pc + 3) ls (.long r0 :: st) ly M' J') : V own cc nL ret ini R al nb X Q kc ks pc ls (b0 :: .ref r :: st) ly M J := v_callV (As := [b0]) hk hC he hc rfl hw hR rfl rfl hkc hks hd (fun o ly' M' J' h => by obtain ⟨rfl, r0, rfl, h⟩ := h; exact k r0 M' J' h)
theorem v_cS1l {b0 : Value} {P : Int64 → mM → mJ → Prop} {d' : Nat} (hd : decode cc pc = .ok (.invokestatic idx, 3)) (hk : mCS own idx y cc' nL' ret' 1) (hC : Ct y cc' nL' ret' (rmD d') false [b0] ly M J (mNl ly P)) (hw : (st.map fun v => v.category).sum ≤ 8) (hR : mRm (rmD d') nL' R = true) (hkc : kc ≤ R.cells) (hks : ks ≤ R.slots)
    (k : ∀ r0 M' J', P r0 M' J' → V own cc nL ret ini R al nb X Q kc ks (pc + 3) ls (.long r0 :: st) ly M' J') : V own cc nL ret ini R al nb X Q kc ks pc ls (b0 :: st) ly M J := v_callS (As := [b0]) hk hC rfl hw hR rfl rfl hkc hks hd (fun o ly' M' J' h => by obtain ⟨rfl, r0, rfl, h⟩ := h; exact k r0 M' J' h)
theorem v_cV1v {r ci N : Nat} {T : u_T} {fs : List (Option (Option Nat))} {b0 : Value} {P : mM → mJ → Prop} {d' : Nat} (hd : decode cc pc = .ok (.invokevirtual idx, 3)) (hk : mCV own idx y cc' nL' ret' 1) (hC : Ct y cc' nL' ret' (rmD d') false (.ref r :: [b0]) ly M J (mNv ly P)) (he : ly[r]? = some (.inr (.inr (ci, fs)))) (hc : vwCl[ci]? = some (y.cls, T, N)) (hw : (st.map fun v => v.category).sum ≤ 8) (hR : mRm (rmD d') nL' R = true) (hkc : kc ≤ R.cells) (hks : ks ≤ R.slots)
    (k : ∀ M' J', P M' J' → V own cc nL ret ini R al nb X Q kc ks (pc + 3) ls st ly M' J') : V own cc nL ret ini R al nb X Q kc ks pc ls (b0 :: .ref r :: st) ly M J := v_callV (As := [b0]) hk hC he hc rfl hw hR rfl rfl hkc hks hd (fun o ly' M' J' h => by obtain ⟨rfl, rfl, h⟩ := h; exact k M' J' h)
theorem v_cV2i {r ci N : Nat} {T : u_T} {fs : List (Option (Option Nat))} {b0 b1 : Value} {P : Int32 → mM → mJ → Prop} {d' : Nat} (hd : decode cc pc = .ok (.invokevirtual idx, 3)) (hk : mCV own idx y cc' nL' ret' 2) (hC : Ct y cc' nL' ret' (rmD d') false (.ref r :: [b0, b1]) ly M J (mNi ly P)) (he : ly[r]? = some (.inr (.inr (ci, fs)))) (hc : vwCl[ci]? = some (y.cls, T, N)) (hw : (st.map fun v => v.category).sum ≤ 8) (hR : mRm (rmD d') nL' R = true) (hkc : kc ≤ R.cells) (hks : ks ≤ R.slots)
    (k : ∀ r0 M' J', P r0 M' J' → V own cc nL ret ini R al nb X Q kc ks (pc + 3) ls (.int r0 :: st) ly M' J') : V own cc nL ret ini R al nb X Q kc ks pc ls (b1 :: b0 :: .ref r :: st) ly M J := v_callV (As := [b0, b1]) hk hC he hc rfl hw hR rfl rfl hkc hks hd (fun o ly' M' J' h => by obtain ⟨rfl, r0, rfl, h⟩ := h; exact k r0 M' J' h)
theorem v_cS2i {b0 b1 : Value} {P : Int32 → mM → mJ → Prop} {d' : Nat} (hd : decode cc pc = .ok (.invokestatic idx, 3)) (hk : mCS own idx y cc' nL' ret' 2) (hC : Ct y cc' nL' ret' (rmD d') false [b0, b1] ly M J (mNi ly P)) (hw : (st.map fun v => v.category).sum ≤ 8) (hR : mRm (rmD d') nL' R = true) (hkc : kc ≤ R.cells) (hks : ks ≤ R.slots)
    (k : ∀ r0 M' J', P r0 M' J' → V own cc nL ret ini R al nb X Q kc ks (pc + 3) ls (.int r0 :: st) ly M' J') : V own cc nL ret ini R al nb X Q kc ks pc ls (b1 :: b0 :: st) ly M J := v_callS (As := [b0, b1]) hk hC rfl hw hR rfl rfl hkc hks hd (fun o ly' M' J' h => by obtain ⟨rfl, r0, rfl, h⟩ := h; exact k r0 M' J' h)
theorem v_cV2l {r ci N : Nat} {T : u_T} {fs : List (Option (Option Nat))} {b0 b1 : Value} {P : Int64 → mM → mJ → Prop} {d' : Nat} (hd : decode cc pc = .ok (.invokevirtual idx, 3)) (hk : mCV own idx y cc' nL' ret' 2) (hC : Ct y cc' nL' ret' (rmD d') false (.ref r :: [b0, b1]) ly M J (mNl ly P)) (he : ly[r]? = some (.inr (.inr (ci, fs)))) (hc : vwCl[ci]? = some (y.cls, T, N)) (hw : (st.map fun v => v.category).sum ≤ 8) (hR : mRm (rmD d') nL' R = true) (hkc : kc ≤ R.cells) (hks : ks ≤ R.slots)
    (k : ∀ r0 M' J', P r0 M' J' → V own cc nL ret ini R al nb X Q kc ks (pc + 3) ls (.long r0 :: st) ly M' J') : V own cc nL ret ini R al nb X Q kc ks pc ls (b1 :: b0 :: .ref r :: st) ly M J := v_callV (As := [b0, b1]) hk hC he hc rfl hw hR rfl rfl hkc hks hd (fun o ly' M' J' h => by obtain ⟨rfl, r0, rfl, h⟩ := h; exact k r0 M' J' h)
theorem v_cS2l {b0 b1 : Value} {P : Int64 → mM → mJ → Prop} {d' : Nat} (hd : decode cc pc = .ok (.invokestatic idx, 3)) (hk : mCS own idx y cc' nL' ret' 2) (hC : Ct y cc' nL' ret' (rmD d') false [b0, b1] ly M J (mNl ly P)) (hw : (st.map fun v => v.category).sum ≤ 8) (hR : mRm (rmD d') nL' R = true) (hkc : kc ≤ R.cells) (hks : ks ≤ R.slots)
    (k : ∀ r0 M' J', P r0 M' J' → V own cc nL ret ini R al nb X Q kc ks (pc + 3) ls (.long r0 :: st) ly M' J') : V own cc nL ret ini R al nb X Q kc ks pc ls (b1 :: b0 :: st) ly M J := v_callS (As := [b0, b1]) hk hC rfl hw hR rfl rfl hkc hks hd (fun o ly' M' J' h => by obtain ⟨rfl, r0, rfl, h⟩ := h; exact k r0 M' J' h)
theorem v_cV2v {r ci N : Nat} {T : u_T} {fs : List (Option (Option Nat))} {b0 b1 : Value} {P : mM → mJ → Prop} {d' : Nat} (hd : decode cc pc = .ok (.invokevirtual idx, 3)) (hk : mCV own idx y cc' nL' ret' 2) (hC : Ct y cc' nL' ret' (rmD d') false (.ref r :: [b0, b1]) ly M J (mNv ly P)) (he : ly[r]? = some (.inr (.inr (ci, fs)))) (hc : vwCl[ci]? = some (y.cls, T, N)) (hw : (st.map fun v => v.category).sum ≤ 8) (hR : mRm (rmD d') nL' R = true) (hkc : kc ≤ R.cells) (hks : ks ≤ R.slots)
    (k : ∀ M' J', P M' J' → V own cc nL ret ini R al nb X Q kc ks (pc + 3) ls st ly M' J') : V own cc nL ret ini R al nb X Q kc ks pc ls (b1 :: b0 :: .ref r :: st) ly M J := v_callV (As := [b0, b1]) hk hC he hc rfl hw hR rfl rfl hkc hks hd (fun o ly' M' J' h => by obtain ⟨rfl, rfl, h⟩ := h; exact k M' J' h)
theorem v_cV3i {r ci N : Nat} {T : u_T} {fs : List (Option (Option Nat))} {b0 b1 b2 : Value} {P : Int32 → mM → mJ → Prop} {d' : Nat} (hd : decode cc pc = .ok (.invokevirtual idx, 3)) (hk : mCV own idx y cc' nL' ret' 3) (hC : Ct y cc' nL' ret' (rmD d') false (.ref r :: [b0, b1, b2]) ly M J (mNi ly P)) (he : ly[r]? = some (.inr (.inr (ci, fs)))) (hc : vwCl[ci]? = some (y.cls, T, N)) (hw : (st.map fun v => v.category).sum ≤ 8) (hR : mRm (rmD d') nL' R = true) (hkc : kc ≤ R.cells) (hks : ks ≤ R.slots)
    (k : ∀ r0 M' J', P r0 M' J' → V own cc nL ret ini R al nb X Q kc ks (pc + 3) ls (.int r0 :: st) ly M' J') : V own cc nL ret ini R al nb X Q kc ks pc ls (b2 :: b1 :: b0 :: .ref r :: st) ly M J := v_callV (As := [b0, b1, b2]) hk hC he hc rfl hw hR rfl rfl hkc hks hd (fun o ly' M' J' h => by obtain ⟨rfl, r0, rfl, h⟩ := h; exact k r0 M' J' h)
theorem v_cS3i {b0 b1 b2 : Value} {P : Int32 → mM → mJ → Prop} {d' : Nat} (hd : decode cc pc = .ok (.invokestatic idx, 3)) (hk : mCS own idx y cc' nL' ret' 3) (hC : Ct y cc' nL' ret' (rmD d') false [b0, b1, b2] ly M J (mNi ly P)) (hw : (st.map fun v => v.category).sum ≤ 8) (hR : mRm (rmD d') nL' R = true) (hkc : kc ≤ R.cells) (hks : ks ≤ R.slots)
    (k : ∀ r0 M' J', P r0 M' J' → V own cc nL ret ini R al nb X Q kc ks (pc + 3) ls (.int r0 :: st) ly M' J') : V own cc nL ret ini R al nb X Q kc ks pc ls (b2 :: b1 :: b0 :: st) ly M J := v_callS (As := [b0, b1, b2]) hk hC rfl hw hR rfl rfl hkc hks hd (fun o ly' M' J' h => by obtain ⟨rfl, r0, rfl, h⟩ := h; exact k r0 M' J' h)
theorem v_cV3l {r ci N : Nat} {T : u_T} {fs : List (Option (Option Nat))} {b0 b1 b2 : Value} {P : Int64 → mM → mJ → Prop} {d' : Nat} (hd : decode cc pc = .ok (.invokevirtual idx, 3)) (hk : mCV own idx y cc' nL' ret' 3) (hC : Ct y cc' nL' ret' (rmD d') false (.ref r :: [b0, b1, b2]) ly M J (mNl ly P)) (he : ly[r]? = some (.inr (.inr (ci, fs)))) (hc : vwCl[ci]? = some (y.cls, T, N)) (hw : (st.map fun v => v.category).sum ≤ 8) (hR : mRm (rmD d') nL' R = true) (hkc : kc ≤ R.cells) (hks : ks ≤ R.slots)
    (k : ∀ r0 M' J', P r0 M' J' → V own cc nL ret ini R al nb X Q kc ks (pc + 3) ls (.long r0 :: st) ly M' J') : V own cc nL ret ini R al nb X Q kc ks pc ls (b2 :: b1 :: b0 :: .ref r :: st) ly M J := v_callV (As := [b0, b1, b2]) hk hC he hc rfl hw hR rfl rfl hkc hks hd (fun o ly' M' J' h => by obtain ⟨rfl, r0, rfl, h⟩ := h; exact k r0 M' J' h)
theorem v_cS3l {b0 b1 b2 : Value} {P : Int64 → mM → mJ → Prop} {d' : Nat} (hd : decode cc pc = .ok (.invokestatic idx, 3)) (hk : mCS own idx y cc' nL' ret' 3) (hC : Ct y cc' nL' ret' (rmD d') false [b0, b1, b2] ly M J (mNl ly P)) (hw : (st.map fun v => v.category).sum ≤ 8) (hR : mRm (rmD d') nL' R = true) (hkc : kc ≤ R.cells) (hks : ks ≤ R.slots)
    (k : ∀ r0 M' J', P r0 M' J' → V own cc nL ret ini R al nb X Q kc ks (pc + 3) ls (.long r0 :: st) ly M' J') : V own cc nL ret ini R al nb X Q kc ks pc ls (b2 :: b1 :: b0 :: st) ly M J := v_callS (As := [b0, b1, b2]) hk hC rfl hw hR rfl rfl hkc hks hd (fun o ly' M' J' h => by obtain ⟨rfl, r0, rfl, h⟩ := h; exact k r0 M' J' h)
theorem v_cV3v {r ci N : Nat} {T : u_T} {fs : List (Option (Option Nat))} {b0 b1 b2 : Value} {P : mM → mJ → Prop} {d' : Nat} (hd : decode cc pc = .ok (.invokevirtual idx, 3)) (hk : mCV own idx y cc' nL' ret' 3) (hC : Ct y cc' nL' ret' (rmD d') false (.ref r :: [b0, b1, b2]) ly M J (mNv ly P)) (he : ly[r]? = some (.inr (.inr (ci, fs)))) (hc : vwCl[ci]? = some (y.cls, T, N)) (hw : (st.map fun v => v.category).sum ≤ 8) (hR : mRm (rmD d') nL' R = true) (hkc : kc ≤ R.cells) (hks : ks ≤ R.slots)
    (k : ∀ M' J', P M' J' → V own cc nL ret ini R al nb X Q kc ks (pc + 3) ls st ly M' J') : V own cc nL ret ini R al nb X Q kc ks pc ls (b2 :: b1 :: b0 :: .ref r :: st) ly M J := v_callV (As := [b0, b1, b2]) hk hC he hc rfl hw hR rfl rfl hkc hks hd (fun o ly' M' J' h => by obtain ⟨rfl, rfl, h⟩ := h; exact k M' J' h)
theorem v_cV4i {r ci N : Nat} {T : u_T} {fs : List (Option (Option Nat))} {b0 b1 b2 b3 : Value} {P : Int32 → mM → mJ → Prop} {d' : Nat} (hd : decode cc pc = .ok (.invokevirtual idx, 3)) (hk : mCV own idx y cc' nL' ret' 4) (hC : Ct y cc' nL' ret' (rmD d') false (.ref r :: [b0, b1, b2, b3]) ly M J (mNi ly P)) (he : ly[r]? = some (.inr (.inr (ci, fs)))) (hc : vwCl[ci]? = some (y.cls, T, N)) (hw : (st.map fun v => v.category).sum ≤ 8) (hR : mRm (rmD d') nL' R = true) (hkc : kc ≤ R.cells) (hks : ks ≤ R.slots)
    (k : ∀ r0 M' J', P r0 M' J' → V own cc nL ret ini R al nb X Q kc ks (pc + 3) ls (.int r0 :: st) ly M' J') : V own cc nL ret ini R al nb X Q kc ks pc ls (b3 :: b2 :: b1 :: b0 :: .ref r :: st) ly M J := v_callV (As := [b0, b1, b2, b3]) hk hC he hc rfl hw hR rfl rfl hkc hks hd (fun o ly' M' J' h => by obtain ⟨rfl, r0, rfl, h⟩ := h; exact k r0 M' J' h)
theorem v_cS4i {b0 b1 b2 b3 : Value} {P : Int32 → mM → mJ → Prop} {d' : Nat} (hd : decode cc pc = .ok (.invokestatic idx, 3)) (hk : mCS own idx y cc' nL' ret' 4) (hC : Ct y cc' nL' ret' (rmD d') false [b0, b1, b2, b3] ly M J (mNi ly P)) (hw : (st.map fun v => v.category).sum ≤ 8) (hR : mRm (rmD d') nL' R = true) (hkc : kc ≤ R.cells) (hks : ks ≤ R.slots)
    (k : ∀ r0 M' J', P r0 M' J' → V own cc nL ret ini R al nb X Q kc ks (pc + 3) ls (.int r0 :: st) ly M' J') : V own cc nL ret ini R al nb X Q kc ks pc ls (b3 :: b2 :: b1 :: b0 :: st) ly M J := v_callS (As := [b0, b1, b2, b3]) hk hC rfl hw hR rfl rfl hkc hks hd (fun o ly' M' J' h => by obtain ⟨rfl, r0, rfl, h⟩ := h; exact k r0 M' J' h)
theorem v_cV4l {r ci N : Nat} {T : u_T} {fs : List (Option (Option Nat))} {b0 b1 b2 b3 : Value} {P : Int64 → mM → mJ → Prop} {d' : Nat} (hd : decode cc pc = .ok (.invokevirtual idx, 3)) (hk : mCV own idx y cc' nL' ret' 4) (hC : Ct y cc' nL' ret' (rmD d') false (.ref r :: [b0, b1, b2, b3]) ly M J (mNl ly P)) (he : ly[r]? = some (.inr (.inr (ci, fs)))) (hc : vwCl[ci]? = some (y.cls, T, N)) (hw : (st.map fun v => v.category).sum ≤ 8) (hR : mRm (rmD d') nL' R = true) (hkc : kc ≤ R.cells) (hks : ks ≤ R.slots)
    (k : ∀ r0 M' J', P r0 M' J' → V own cc nL ret ini R al nb X Q kc ks (pc + 3) ls (.long r0 :: st) ly M' J') : V own cc nL ret ini R al nb X Q kc ks pc ls (b3 :: b2 :: b1 :: b0 :: .ref r :: st) ly M J := v_callV (As := [b0, b1, b2, b3]) hk hC he hc rfl hw hR rfl rfl hkc hks hd (fun o ly' M' J' h => by obtain ⟨rfl, r0, rfl, h⟩ := h; exact k r0 M' J' h)
theorem v_cS4l {b0 b1 b2 b3 : Value} {P : Int64 → mM → mJ → Prop} {d' : Nat} (hd : decode cc pc = .ok (.invokestatic idx, 3)) (hk : mCS own idx y cc' nL' ret' 4) (hC : Ct y cc' nL' ret' (rmD d') false [b0, b1, b2, b3] ly M J (mNl ly P)) (hw : (st.map fun v => v.category).sum ≤ 8) (hR : mRm (rmD d') nL' R = true) (hkc : kc ≤ R.cells) (hks : ks ≤ R.slots)
    (k : ∀ r0 M' J', P r0 M' J' → V own cc nL ret ini R al nb X Q kc ks (pc + 3) ls (.long r0 :: st) ly M' J') : V own cc nL ret ini R al nb X Q kc ks pc ls (b3 :: b2 :: b1 :: b0 :: st) ly M J := v_callS (As := [b0, b1, b2, b3]) hk hC rfl hw hR rfl rfl hkc hks hd (fun o ly' M' J' h => by obtain ⟨rfl, r0, rfl, h⟩ := h; exact k r0 M' J' h)
theorem v_cV4v {r ci N : Nat} {T : u_T} {fs : List (Option (Option Nat))} {b0 b1 b2 b3 : Value} {P : mM → mJ → Prop} {d' : Nat} (hd : decode cc pc = .ok (.invokevirtual idx, 3)) (hk : mCV own idx y cc' nL' ret' 4) (hC : Ct y cc' nL' ret' (rmD d') false (.ref r :: [b0, b1, b2, b3]) ly M J (mNv ly P)) (he : ly[r]? = some (.inr (.inr (ci, fs)))) (hc : vwCl[ci]? = some (y.cls, T, N)) (hw : (st.map fun v => v.category).sum ≤ 8) (hR : mRm (rmD d') nL' R = true) (hkc : kc ≤ R.cells) (hks : ks ≤ R.slots)
    (k : ∀ M' J', P M' J' → V own cc nL ret ini R al nb X Q kc ks (pc + 3) ls st ly M' J') : V own cc nL ret ini R al nb X Q kc ks pc ls (b3 :: b2 :: b1 :: b0 :: .ref r :: st) ly M J := v_callV (As := [b0, b1, b2, b3]) hk hC he hc rfl hw hR rfl rfl hkc hks hd (fun o ly' M' J' h => by obtain ⟨rfl, rfl, h⟩ := h; exact k M' J' h)
theorem v_cS5i {b0 b1 b2 b3 b4 : Value} {P : Int32 → mM → mJ → Prop} {d' : Nat} (hd : decode cc pc = .ok (.invokestatic idx, 3)) (hk : mCS own idx y cc' nL' ret' 5) (hC : Ct y cc' nL' ret' (rmD d') false [b0, b1, b2, b3, b4] ly M J (mNi ly P)) (hw : (st.map fun v => v.category).sum ≤ 8) (hR : mRm (rmD d') nL' R = true) (hkc : kc ≤ R.cells) (hks : ks ≤ R.slots)
    (k : ∀ r0 M' J', P r0 M' J' → V own cc nL ret ini R al nb X Q kc ks (pc + 3) ls (.int r0 :: st) ly M' J') : V own cc nL ret ini R al nb X Q kc ks pc ls (b4 :: b3 :: b2 :: b1 :: b0 :: st) ly M J := v_callS (As := [b0, b1, b2, b3, b4]) hk hC rfl hw hR rfl rfl hkc hks hd (fun o ly' M' J' h => by obtain ⟨rfl, r0, rfl, h⟩ := h; exact k r0 M' J' h)
theorem v_cV5l {r ci N : Nat} {T : u_T} {fs : List (Option (Option Nat))} {b0 b1 b2 b3 b4 : Value} {P : Int64 → mM → mJ → Prop} {d' : Nat} (hd : decode cc pc = .ok (.invokevirtual idx, 3)) (hk : mCV own idx y cc' nL' ret' 5) (hC : Ct y cc' nL' ret' (rmD d') false (.ref r :: [b0, b1, b2, b3, b4]) ly M J (mNl ly P)) (he : ly[r]? = some (.inr (.inr (ci, fs)))) (hc : vwCl[ci]? = some (y.cls, T, N)) (hw : (st.map fun v => v.category).sum ≤ 8) (hR : mRm (rmD d') nL' R = true) (hkc : kc ≤ R.cells) (hks : ks ≤ R.slots)
    (k : ∀ r0 M' J', P r0 M' J' → V own cc nL ret ini R al nb X Q kc ks (pc + 3) ls (.long r0 :: st) ly M' J') : V own cc nL ret ini R al nb X Q kc ks pc ls (b4 :: b3 :: b2 :: b1 :: b0 :: .ref r :: st) ly M J := v_callV (As := [b0, b1, b2, b3, b4]) hk hC he hc rfl hw hR rfl rfl hkc hks hd (fun o ly' M' J' h => by obtain ⟨rfl, r0, rfl, h⟩ := h; exact k r0 M' J' h)
theorem v_cS5l {b0 b1 b2 b3 b4 : Value} {P : Int64 → mM → mJ → Prop} {d' : Nat} (hd : decode cc pc = .ok (.invokestatic idx, 3)) (hk : mCS own idx y cc' nL' ret' 5) (hC : Ct y cc' nL' ret' (rmD d') false [b0, b1, b2, b3, b4] ly M J (mNl ly P)) (hw : (st.map fun v => v.category).sum ≤ 8) (hR : mRm (rmD d') nL' R = true) (hkc : kc ≤ R.cells) (hks : ks ≤ R.slots)
    (k : ∀ r0 M' J', P r0 M' J' → V own cc nL ret ini R al nb X Q kc ks (pc + 3) ls (.long r0 :: st) ly M' J') : V own cc nL ret ini R al nb X Q kc ks pc ls (b4 :: b3 :: b2 :: b1 :: b0 :: st) ly M J := v_callS (As := [b0, b1, b2, b3, b4]) hk hC rfl hw hR rfl rfl hkc hks hd (fun o ly' M' J' h => by obtain ⟨rfl, r0, rfl, h⟩ := h; exact k r0 M' J' h)
theorem v_iret {P : Int32 → mM → mJ → Prop} {x : Int32} (hd : decode cc pc = .ok (.ireturn, 1)) (hc : kc ≤ R.cells) (hk : ks ≤ R.slots) (h : P x M J) : V own cc nL (some .int) ini R al nb X (mNi ly P) kc ks pc ls [.int x] ly M J := v_ret (some (.int x)) rfl ⟨rfl, x, rfl, h⟩ trivial hc hk hd
theorem v_zret {P : Int32 → mM → mJ → Prop} {x : Int32} (hd : decode cc pc = .ok (.ireturn, 1)) (hc : kc ≤ R.cells) (hk : ks ≤ R.slots) (hz : x = 0 ∨ x = 1) (h : P x M J) : V own cc nL (some .boolean) ini R al nb X (mNi ly P) kc ks pc ls [.int x] ly M J := v_ret (some (.int x)) rfl ⟨rfl, x, rfl, h⟩ (by rcases hz with rfl | rfl <;> rfl) hc hk hd
theorem v_lret {P : Int64 → mM → mJ → Prop} {x : Int64} (hd : decode cc pc = .ok (.lreturn, 1)) (hc : kc ≤ R.cells) (hk : ks ≤ R.slots) (h : P x M J) : V own cc nL (some .long) ini R al nb X (mNl ly P) kc ks pc ls [.long x] ly M J := v_ret (some (.long x)) rfl ⟨rfl, x, rfl, h⟩ trivial hc hk hd
theorem v_vret {P : mM → mJ → Prop} (hd : decode cc pc = .ok (.return_, 1)) (hc : kc ≤ R.cells) (hk : ks ≤ R.slots) (h : P M J) : V own cc nL none ini R al nb X (mNv ly P) kc ks pc ls [] ly M J := v_ret none rfl ⟨rfl, rfl, h⟩ trivial hc hk hd
end MC
