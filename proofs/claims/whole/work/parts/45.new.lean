/-! the small machine's making of cells: new, newarray, anewarray, constructors -/
def vkB (n k : Nat) : Bool := Nat.blt k n || Nat.ble 1000 k
theorem vkB_ok {n k : Nat} (h : vkB n k = true) : k < n ∨ 1000 ≤ k := by
  unfold vkB at h
  rcases Bool.or_eq_true_iff.mp h with h | h
  · exact Or.inl (Nat.blt_eq.mp h)
  · exact Or.inr (Nat.le_of_ble_eq_true h)
def vsB (n : Nat) : List Value → Bool
  | [] => true
  | .ref k :: r => vkB n k && vsB n r
  | _ :: r => vsB n r
def vlB (n : Nat) : List (Option Value) → Bool
  | [] => true
  | some (.ref k) :: r => vkB n k && vlB n r
  | _ :: r => vlB n r
def vfB (n : Nat) : List (Option (Option Nat)) → Bool
  | [] => true
  | some (some k) :: r => Nat.blt k n && vfB n r
  | _ :: r => vfB n r
def vqB (n : Nat) : List (Option Nat) → Bool
  | [] => true
  | some k :: r => Nat.blt k n && vqB n r
  | none :: r => vqB n r
def veB (n : Nat) : mEn → Bool
  | .inl _ => true
  | .inr (.inl (_, rs)) => vqB n rs
  | .inr (.inr (_, fs)) => vfB n fs
def vyB (n : Nat) : List mEn → Bool
  | [] => true
  | e :: r => veB n e && vyB n r
abbrev adE (n : Nat) (ad ad' : Nat → Nat) : Prop := ∀ k, (k < n ∨ 1000 ≤ k) → ad' k = ad k
theorem vs_eq {n : Nat} {ad ad' : Nat → Nat} (h : adE n ad ad') : ∀ st : List Value, vsB n st = true → mSt ad' st = mSt ad st
  | [], _ => rfl
  | v :: r, hs => by
    cases v with
    | ref k =>
      have hs2 : (vkB n k && vsB n r) = true := hs
      obtain ⟨h1, h2⟩ := Bool.and_eq_true_iff.mp hs2
      show Value.ref (ad' k) :: mSt ad' r = Value.ref (ad k) :: mSt ad r
      rw [h k (vkB_ok h1), vs_eq h r h2]
    | _ => exact congrArg (List.cons _) (vs_eq h r hs)
theorem vl_eq {n : Nat} {ad ad' : Nat → Nat} (h : adE n ad ad') : ∀ (ls : List (Option Value)) (i : Nat), vlB n ls = true → mLs ad' i ls = mLs ad i ls
  | [], _, _ => rfl
  | none :: r, i, hs => vl_eq h r (i + 1) hs
  | some v :: r, i, hs => by
    cases v with
    | ref k =>
      have hs2 : (vkB n k && vlB n r) = true := hs
      obtain ⟨h1, h2⟩ := Bool.and_eq_true_iff.mp hs2
      show (i, Value.ref (ad' k)) :: mLs ad' (i + 1) r = (i, Value.ref (ad k)) :: mLs ad (i + 1) r
      rw [h k (vkB_ok h1), vl_eq h r (i + 1) h2]
    | _ => exact congrArg (List.cons _) (vl_eq h r (i + 1) hs)
theorem vf_eq {n : Nat} {ad ad' : Nat → Nat} {I : Nat → Int32} (h : adE n ad ad') : ∀ (fs : List (Option (Option Nat))) (i : Nat), vfB n fs = true → mFs ad' I i fs = mFs ad I i fs
  | [], _, _ => rfl
  | none :: r, i, hs => congrArg (List.cons _) (vf_eq h r (i + 1) hs)
  | some none :: r, i, hs => congrArg (List.cons _) (vf_eq h r (i + 1) hs)
  | some (some k) :: r, i, hs => by
    have hs2 : (Nat.blt k n && vfB n r) = true := hs
    obtain ⟨h1, h2⟩ := Bool.and_eq_true_iff.mp hs2
    show va_rf (some (ad' k)) :: mFs ad' I (i + 1) r = va_rf (some (ad k)) :: mFs ad I (i + 1) r
    rw [h k (Or.inl (Nat.blt_eq.mp h1)), vf_eq h r (i + 1) h2]
theorem vq_eq {n : Nat} {ad ad' : Nat → Nat} (h : adE n ad ad') : ∀ (rs : List (Option Nat)) (i : Nat), vqB n rs = true → (rs.getD i none).map ad' = (rs.getD i none).map ad
  | [], _, _ => rfl
  | none :: r, 0, _ => rfl
  | none :: r, i + 1, hs => vq_eq h r i hs
  | some k :: r, i, hs => by
    have hs2 : (Nat.blt k n && vqB n r) = true := hs
    obtain ⟨h1, h2⟩ := Bool.and_eq_true_iff.mp hs2
    cases i with
    | zero =>
      show some (ad' k) = some (ad k)
      rw [h k (Or.inl (Nat.blt_eq.mp h1))]
    | succ i => exact vq_eq h r i h2
theorem ve_eq {n : Nat} {dA : Nat → ClassId} {ad ad' : Nat → Nat} {I : Nat → Int32} {L : Nat → Int64} (h : adE n ad ad') (e : mEn) (he : veB n e = true) : mE dA ad' I L e = mE dA ad I L e := by
  match e, he with
  | .inl (_, _, 0), _ => rfl
  | .inl (_, _, _ + 1), _ => rfl
  | .inr (.inl (t, rs)), he =>
    show (Sum.inl (dA t, rs.length, .inr (.inr (.inr (.inr (fun i => (rs.getD i none).map ad'))))) : va_E) = .inl (dA t, rs.length, .inr (.inr (.inr (.inr (fun i => (rs.getD i none).map ad)))))
    rw [show (fun i => (rs.getD i none).map ad') = (fun i => (rs.getD i none).map ad) from funext (fun i => vq_eq h rs i he)]
  | .inr (.inr (ci, fs)), he =>
    show (Sum.inr (ci, mFs ad' I 0 fs) : va_E) = .inr (ci, mFs ad I 0 fs)
    rw [vf_eq h fs 0 he]
theorem vy_at {n : Nat} : ∀ (ly : List mEn) (k : Nat) (e : mEn), vyB n ly = true → ly[k]? = some e → veB n e = true
  | [], _, _, _, h => by simp at h
  | a :: r, k, e, hv, h => by
    have hv2 : (veB n a && vyB n r) = true := hv
    obtain ⟨h1, h2⟩ := Bool.and_eq_true_iff.mp hv2
    cases k with
    | zero =>
      rw [List.getElem?_cons_zero] at h
      cases h
      exact h1
    | succ k => exact vy_at r k e h2 (by rwa [List.getElem?_cons_succ] at h)
theorem mW_ext {n : Nat} {dA : Nat → ClassId} {ad ad' : Nat → Nat} {ly : List mEn} {M : mM} {J : mJ} (h : adE n ad ad') (hl : ly.length ≤ n) (hv : vyB n ly = true) : mW dA ad' ly M J = mW dA ad ly M J := by
  apply List.ext_getElem?
  intro k
  unfold mW
  rw [List.getElem?_mapIdx, List.getElem?_mapIdx]
  cases hk : ly[k]? with
  | none => rfl
  | some e =>
    have hlt := (List.getElem?_eq_some_iff.mp hk).1
    show some (ad' k, mE dA ad' (M k) (J k) e) = some (ad k, mE dA ad (M k) (J k) e)
    rw [h k (Or.inl (by omega)), ve_eq h e (vy_at ly k e hv hk)]
theorem mW_snoc {dA : Nat → ClassId} {ad : Nat → Nat} {ly : List mEn} {e : mEn} {M : mM} {J : mJ} : mW dA ad (ly ++ [e]) M J = mW dA ad ly M J ++ [(ad ly.length, mE dA ad (M ly.length) (J ly.length) e)] := by
  unfold mW
  rw [List.mapIdx_concat]
theorem adE_new {r q : Nat} {ad : Nat → Nat} (hr : r < 1000) : adE r ad (fun k => if k = r then q else ad k) := fun k hk => if_neg (by omega)
theorem mAg_ext {nb r : Nat} {ad0 ad ad' : Nat → Nat} (h : adE r ad ad') (hnb : nb ≤ r) (g : mAg true nb ad0 ad) : mAg true nb ad0 ad' := fun k hk => (h k (by omega)).trans (g k hk)
section NV
variable {own : String} {cc : ByteArray} {nL : Nat} {ret : Option FieldType} {ini : Bool} {R : Room} {nb : Nat} {X : Option (Nat × (Nat → Int32))} {Q : mQt} {kc ks pc : Nat} {ls : List (Option Value)} {st : List Value} {ly : List mEn} {M : mM} {J : mJ}
theorem v_newO {ci idx N r : Nat} {C : String} {T : u_T} {ty : Nat → FieldType} {fs : List (Option (Option Nat))} {ly' : List mEn} (hcl : Cond.classLink own idx C ∈ GW) (hin : Cond.instantiable C N ∈ GW) (hini : Cond.initialized C ∈ GW) (hlay : ∀ w ∈ u_ws C T N, w ∈ GW) (hty : ∀ k, k < N → parseFieldDescriptor (T k).2.2.1 = some (ty k)) (hc : vwCl[ci]? = some (C, T, N))
    (hfs : ∀ (ad : Nat → Nat) j, j < N → defaultValue (ty j) = vp_V (mFs ad (fun _ => 0) 0 fs) j) (hlen : ly.length = r) (hr : r < 1000) (hnb : nb ≤ r) (hst : vsB r st = true) (hls : vlB r ls = true) (hlv : vyB r ly = true) (hfv : vfB r fs = true) (hz : M r = fun _ => 0) (he : ly ++ [.inr (.inr (ci, fs))] = ly') (hkc : kc + 1 ≤ R.cells) (hks : ks + N ≤ R.slots) (hd : decode cc pc = .ok (.new idx, 3))
    (k : V own cc nL ret ini R true nb X Q (kc + 1) (ks + N) (pc + 3) ls (.ref r :: st) ly' M J) : V own cc nL ret ini R true nb X Q kc ks pc ls st ly M J := by
  intro p l e s m args below meth c D dA A ad0 ad Z H locs la C0 E g1 g2 g3 g4 g5
  obtain ⟨hx, hb, hml, hown, hts, hnw, hao, hK, hA, hin9, hX⟩ := id C0
  refine va_new hx hb hts hlay ty hty hown (hts _ hcl) (hts _ hin) (hts _ hini) hK g2 g3 g4 hA hc (fs := mFs ad (fun _ => 0) 0 fs) (hfs ad) hkc hks hd (fun q H1 P1 D1 S1 => ?_)
  have h0 := adE_new (q := q) (ad := ad) hr
  generalize hg : (fun k => if k = r then q else ad k) = ad' at h0
  have hq : ad' r = q := by
    rw [← hg]
    exact if_pos rfl
  have eW : mW dA ad ly M J ++ [(q, .inr (ci, mFs ad (fun _ => 0) 0 fs))] = mW dA ad' ly' M J := by
    rw [← he, mW_snoc, mW_ext h0 (by omega) hlv, hlen, hq, hz]
    show _ = mW dA ad ly M J ++ [(q, .inr (ci, mFs ad' (fun _ => 0) 0 fs))]
    rw [vf_eq h0 fs 0 hfv]
  rw [eW] at P1 D1
  have eS : (.ref q :: mSt ad st : List Value) = mSt ad' (.ref r :: st) := by
    show _ = Value.ref (ad' r) :: mSt ad' st
    rw [hq, vs_eq h0 st hst]
  rw [eS]
  exact k p l e s m args below meth c D dA A ad0 ad' Z H1 locs la C0 E (mAg_ext h0 hnb g1) P1 D1 S1 (by rw [vl_eq h0 ls 0 hls]; exact g5)
theorem v_newI {n : Int32} {N r : Nat} {ly' : List mEn} (harr : Cond.arrayClass .int ∈ GW) (hn : ¬ n < 0) (hN : n.toNatClampNeg = N) (hby : N * 4 ≤ 536870912) (hlen : ly.length = r) (hr : r < 1000) (hnb : nb ≤ r) (hst : vsB r st = true) (hls : vlB r ls = true) (hlv : vyB r ly = true) (hz : M r = fun _ => 0) (he : ly ++ [.inl (0, N, 0)] = ly') (hkc : kc + 1 ≤ R.cells) (hks : ks + N ≤ R.slots) (hd : decode cc pc = .ok (.newarray .int, 2))
    (k : V own cc nL ret ini R true nb X Q (kc + 1) (ks + N) (pc + 2) ls (.ref r :: st) ly' M J) : V own cc nL ret ini R true nb X Q kc ks pc ls (.int n :: st) ly M J := by
  intro p l e s m args below meth c D dA A ad0 ad Z H locs la C0 E g1 g2 g3 g4 g5
  obtain ⟨hx, hb, hml, hown, hts, hnw, hao, hK, hA, hin9, hX⟩ := id C0
  refine va_newa (atype := .int) hx hb (hts _ harr) (ty := .int) rfl hK g2 g3 g4 hA (n := n) (N' := N) (a0 := (N, .inl (fun _ => 0))) (fun cA => rfl) hn hN hby hkc hks hd (fun q cA H1 K1 P1 D1 S1 => ?_)
  have a1 : s.vm.findClass ("[" ++ FieldType.int.toString) = some cA := (K1.2 4 (cA, .int) rfl).2
  have a2 : s.vm.findClass ("[" ++ FieldType.int.toString) = some (dA 0) := (hK.2 0 (dA 0, .int) rfl).2
  have ec : cA = dA 0 := Option.some.inj (a1.symm.trans a2)
  have h0 := adE_new (q := q) (ad := ad) hr
  generalize hg : (fun k => if k = r then q else ad k) = ad' at h0
  have hq : ad' r = q := by
    rw [← hg]
    exact if_pos rfl
  have eW : mW dA ad ly M J ++ [(q, .inl (cA, N, .inl (fun _ => 0)))] = mW dA ad' ly' M J := by
    rw [← he, mW_snoc, mW_ext h0 (by omega) hlv, hlen, hq, hz, ec]
    rfl
  rw [eW] at P1 D1
  have eS : (.ref q :: mSt ad st : List Value) = mSt ad' (.ref r :: st) := by
    show _ = Value.ref (ad' r) :: mSt ad' st
    rw [hq, vs_eq h0 st hst]
  show W p l e R s m args below meth c H1 locs (kc + 1) (ks + N) Z (F0 m (pc + 2) la (.ref q :: mSt ad st))
  rw [eS]
  exact k p l e s m args below meth c D dA A ad0 ad' Z H1 locs la C0 E (mAg_ext h0 hnb g1) P1 D1 S1 (by rw [vl_eq h0 ls 0 hls]; exact g5)
theorem v_newZ {n : Int32} {N r : Nat} {ly' : List mEn} (harr : Cond.arrayClass .boolean ∈ GW) (hn : ¬ n < 0) (hN : n.toNatClampNeg = N) (hby : N * componentBytes .boolean ≤ 536870912) (hlen : ly.length = r) (hr : r < 1000) (hnb : nb ≤ r) (hst : vsB r st = true) (hls : vlB r ls = true) (hlv : vyB r ly = true) (hz : M r = fun _ => 0) (he : ly ++ [.inl (2, N, 0)] = ly') (hkc : kc + 1 ≤ R.cells) (hks : ks + N ≤ R.slots) (hd : decode cc pc = .ok (.newarray .boolean, 2))
    (k : V own cc nL ret ini R true nb X Q (kc + 1) (ks + N) (pc + 2) ls (.ref r :: st) ly' M J) : V own cc nL ret ini R true nb X Q kc ks pc ls (.int n :: st) ly M J := by
  intro p l e s m args below meth c D dA A ad0 ad Z H locs la C0 E g1 g2 g3 g4 g5
  obtain ⟨hx, hb, hml, hown, hts, hnw, hao, hK, hA, hin9, hX⟩ := id C0
  refine va_newa (atype := .boolean) hx hb (hts _ harr) (ty := .boolean) rfl hK g2 g3 g4 hA (n := n) (N' := N) (a0 := (N, .inl (fun _ => 0))) (fun cA => rfl) hn hN hby hkc hks hd (fun q cA H1 K1 P1 D1 S1 => ?_)
  have a1 : s.vm.findClass ("[" ++ FieldType.boolean.toString) = some cA := (K1.2 4 (cA, .boolean) rfl).2
  have a2 : s.vm.findClass ("[" ++ FieldType.boolean.toString) = some (dA 2) := (hK.2 2 (dA 2, .boolean) rfl).2
  have ec : cA = dA 2 := Option.some.inj (a1.symm.trans a2)
  have h0 := adE_new (q := q) (ad := ad) hr
  generalize hg : (fun k => if k = r then q else ad k) = ad' at h0
  have hq : ad' r = q := by
    rw [← hg]
    exact if_pos rfl
  have eW : mW dA ad ly M J ++ [(q, .inl (cA, N, .inl (fun _ => 0)))] = mW dA ad' ly' M J := by
    rw [← he, mW_snoc, mW_ext h0 (by omega) hlv, hlen, hq, hz, ec]
    rfl
  rw [eW] at P1 D1
  have eS : (.ref q :: mSt ad st : List Value) = mSt ad' (.ref r :: st) := by
    show _ = Value.ref (ad' r) :: mSt ad' st
    rw [hq, vs_eq h0 st hst]
  show W p l e R s m args below meth c H1 locs (kc + 1) (ks + N) Z (F0 m (pc + 2) la (.ref q :: mSt ad st))
  rw [eS]
  exact k p l e s m args below meth c D dA A ad0 ad' Z H1 locs la C0 E (mAg_ext h0 hnb g1) P1 D1 S1 (by rw [vl_eq h0 ls 0 hls]; exact g5)
theorem v_newL {n : Int32} {N r : Nat} {ly' : List mEn} (harr : Cond.arrayClass .long ∈ GW) (hn : ¬ n < 0) (hN : n.toNatClampNeg = N) (hby : N * componentBytes .long ≤ 536870912) (hlen : ly.length = r) (hr : r < 1000) (hnb : nb ≤ r) (hst : vsB r st = true) (hls : vlB r ls = true) (hlv : vyB r ly = true) (hz : J r = fun _ => 0) (he : ly ++ [.inl (1, N, 1)] = ly') (hkc : kc + 1 ≤ R.cells) (hks : ks + N ≤ R.slots) (hd : decode cc pc = .ok (.newarray .long, 2))
    (k : V own cc nL ret ini R true nb X Q (kc + 1) (ks + N) (pc + 2) ls (.ref r :: st) ly' M J) : V own cc nL ret ini R true nb X Q kc ks pc ls (.int n :: st) ly M J := by
  intro p l e s m args below meth c D dA A ad0 ad Z H locs la C0 E g1 g2 g3 g4 g5
  obtain ⟨hx, hb, hml, hown, hts, hnw, hao, hK, hA, hin9, hX⟩ := id C0
  refine va_newa (atype := .long) hx hb (hts _ harr) (ty := .long) rfl hK g2 g3 g4 hA (n := n) (N' := N) (a0 := (N, .inr (.inl (fun _ => 0)))) (fun cA => rfl) hn hN hby hkc hks hd (fun q cA H1 K1 P1 D1 S1 => ?_)
  have a1 : s.vm.findClass ("[" ++ FieldType.long.toString) = some cA := (K1.2 4 (cA, .long) rfl).2
  have a2 : s.vm.findClass ("[" ++ FieldType.long.toString) = some (dA 1) := (hK.2 1 (dA 1, .long) rfl).2
  have ec : cA = dA 1 := Option.some.inj (a1.symm.trans a2)
  have h0 := adE_new (q := q) (ad := ad) hr
  generalize hg : (fun k => if k = r then q else ad k) = ad' at h0
  have hq : ad' r = q := by
    rw [← hg]
    exact if_pos rfl
  have eW : mW dA ad ly M J ++ [(q, .inl (cA, N, .inr (.inl (fun _ => 0))))] = mW dA ad' ly' M J := by
    rw [← he, mW_snoc, mW_ext h0 (by omega) hlv, hlen, hq, hz, ec]
    rfl
  rw [eW] at P1 D1
  have eS : (.ref q :: mSt ad st : List Value) = mSt ad' (.ref r :: st) := by
    show _ = Value.ref (ad' r) :: mSt ad' st
    rw [hq, vs_eq h0 st hst]
  show W p l e R s m args below meth c H1 locs (kc + 1) (ks + N) Z (F0 m (pc + 2) la (.ref q :: mSt ad st))
  rw [eS]
  exact k p l e s m args below meth c D dA A ad0 ad' Z H1 locs la C0 E (mAg_ext h0 hnb g1) P1 D1 S1 (by rw [vl_eq h0 ls 0 hls]; exact g5)
theorem v_newQ {idx : Nat} {n : Int32} {N r : Nat} {ly' : List mEn} (hcl : Cond.classLink own idx RX1 ∈ GW) (hn : ¬ n < 0) (hN : n.toNatClampNeg = N) (hby : N * 4 ≤ 536870912) (hlen : ly.length = r) (hr : r < 1000) (hnb : nb ≤ r) (hst : vsB r st = true) (hls : vlB r ls = true) (hlv : vyB r ly = true) (he : ly ++ [.inr (.inl (3, List.replicate N none))] = ly') (hkc : kc + 1 ≤ R.cells) (hks : ks + N ≤ R.slots) (hd : decode cc pc = .ok (.anewarray idx, 3))
    (k : V own cc nL ret ini R true nb X Q (kc + 1) (ks + N) (pc + 3) ls (.ref r :: st) ly' M J) : V own cc nL ret ini R true nb X Q kc ks pc ls (.int n :: st) ly M J := by
  intro p l e s m args below meth c D dA A ad0 ad Z H locs la C0 E g1 g2 g3 g4 g5
  obtain ⟨hx, hb, hml, hown, hts, hnw, hao, hK, hA, hin9, hX⟩ := id C0
  refine va_newq hx hb hown (hts _ hcl) hao hK g2 g3 g4 hA (n := n) (N' := N) hn hN hby hkc hks hd (fun q cA H1 K1 P1 D1 S1 => ?_)
  obtain ⟨kA, comp, -, -, -, a1⟩ := (K1.2 4 (cA, .object RX1) rfl).2
  obtain ⟨kB, comp2, -, -, -, a2⟩ := (hK.2 3 (dA 3, .object RX1) rfl).2
  have ec : cA = dA 3 := Option.some.inj (a1.symm.trans a2)
  have h0 := adE_new (q := q) (ad := ad) hr
  generalize hg : (fun k => if k = r then q else ad k) = ad' at h0
  have hq : ad' r = q := by
    rw [← hg]
    exact if_pos rfl
  have eR : ∀ i, ((List.replicate N (none : Option Nat)).getD i none).map ad' = none := fun i => by
    rw [List.getD_eq_getElem?_getD, List.getElem?_replicate]
    split <;> rfl
  have eW : mW dA ad ly M J ++ [(q, .inl (cA, N, .inr (.inr (.inr (.inr (fun _ => none))))))] = mW dA ad' ly' M J := by
    rw [← he, mW_snoc, mW_ext h0 (by omega) hlv, hlen, hq, ec]
    show _ = mW dA ad ly M J ++ [(q, .inl (dA 3, (List.replicate N (none : Option Nat)).length, .inr (.inr (.inr (.inr (fun i => ((List.replicate N (none : Option Nat)).getD i none).map ad'))))))]
    rw [List.length_replicate, show (fun i => ((List.replicate N (none : Option Nat)).getD i none).map ad') = (fun _ => none) from funext eR]
  rw [eW] at P1 D1
  have eS : (.ref q :: mSt ad st : List Value) = mSt ad' (.ref r :: st) := by
    show _ = Value.ref (ad' r) :: mSt ad' st
    rw [hq, vs_eq h0 st hst]
  show W p l e R s m args below meth c H1 locs (kc + 1) (ks + N) Z (F0 m (pc + 3) la (.ref q :: mSt ad st))
  rw [eS]
  exact k p l e s m args below meth c D dA A ad0 ad' Z H1 locs la C0 E (mAg_ext h0 hnb g1) P1 D1 S1 (by rw [vl_eq h0 ls 0 hls]; exact g5)
theorem v_putFR {al : Bool} {r r2 idx ci j : Nat} {t : FieldType} {fs : List (Option (Option Nat))} {x : Option Nat} {ly' : List mEn} (hini : ini = true) (hL : mFF own idx ci j t) (hn : ∀ a : Nat, narrow t (.ref a) = .ref a) (hft : ∀ a : Nat, fits t (.ref a) = true) (he : ly[r]? = some (.inr (.inr (ci, fs)))) (hf : fs[j]? = some (some x)) (hly : ly.set r (.inr (.inr (ci, fs.set j (some (some r2))))) = ly') (hd : decode cc pc = .ok (.putfield idx, 3))
    (k : V own cc nL ret ini R al nb X Q kc ks (pc + 3) ls st ly' M J) : V own cc nL ret ini R al nb X Q kc ks pc ls (.ref r2 :: .ref r :: st) ly M J := by
  intro p l e s m args below meth c D dA A ad0 ad Z H locs la C E g1 g2 g3 g4 g5
  obtain ⟨hx, hb, hml, hown, hts, hnw, hao, hK, hA, hin9, hX⟩ := id C
  obtain ⟨Cn, T, N, ty, h1, h2, h3, h4, h5, h6, h7, h8, h9, h10⟩ := hL
  have hw := mW_at (dA := dA) (ad := ad) (M := M) (J := J) he
  have hlen : j < (mFs ad (M r) 0 fs).length := by rw [mFs_len]; exact (List.getElem?_eq_some_iff.mp hf).1
  have hd2 := h6 j h2
  rw [h10] at hd2
  have eq9 := mW_set (dA := dA) (ad := ad) (M := M) (M' := M) (J := J) (J' := J) he hly (fun _ _ => rfl) (fun _ _ => rfl) (x := .inr (ci, (mFs ad (M r) 0 fs).set j (.ref (ad r2)))) (by
    show (Sum.inr (ci, mFs ad (M r) 0 (fs.set j (some (some r2)))) : va_E) = _
    rw [mFs_setR fs 0 j x hf])
  exact va_putF hx hb hts h5 ty h6 h7 hown hK g2 g3 g4 r hw h1 j h2 (hts _ h3) (fun _ z => h4 ▸ z) h8 (hin9 hini) h9 hd2 (hn _) (hft _) hlen hd (fun H1 locs1 P1 D1 S1 => by
      have P2 : va_P D vwCl (mW dA ad ly' M J) H1 := by rw [← eq9]; exact P1
      have D2 : va_D A (mW dA ad ly' M J) := by rw [← eq9]; exact D1
      exact k p l e s m args below meth c D dA A ad0 ad Z H1 locs1 la C E g1 P2 D2 S1 g5)
theorem v_aast {al : Bool} {r r2 : Nat} {i : Int32} {rs : List (Option Nat)} {fs : List (Option (Option Nat))} {ly' : List mEn} (he : ly[r]? = some (.inr (.inl (3, rs)))) (hv : ly[r2]? = some (.inr (.inr (1, fs)))) (hi : vp_in i rs.length) (hly : ly.set r (.inr (.inl (3, rs.set i.toNatClampNeg (some r2)))) = ly') (hd : decode cc pc = .ok (.aastore, 1))
    (k : V own cc nL ret ini R al nb X Q kc ks (pc + 1) ls st ly' M J) : V own cc nL ret ini R al nb X Q kc ks pc ls (.ref r2 :: .int i :: .ref r :: st) ly M J := by
  intro p l e s m args below meth c D dA A ad0 ad Z H locs la C E g1 g2 g3 g4 g5
  obtain ⟨hx, hb, hml, hown, hts, hnw, hao, hK, hA, hin9, hX⟩ := id C
  have hw := mW_at (dA := dA) (ad := ad) (M := M) (J := J) he
  have hw2 := mW_at (dA := dA) (ad := ad) (M := M) (J := J) hv
  have hlt : i.toNatClampNeg < rs.length := Nat.not_le.mp fun q => hi (Or.inr q)
  have eF : (fun j => ((rs.set i.toNatClampNeg (some r2)).getD j none).map ad) = va_up (fun j => (rs.getD j none).map ad) i.toNatClampNeg (some (ad r2)) := by
    funext j
    unfold va_up
    by_cases hj : j = i.toNatClampNeg
    · rw [if_pos hj, hj, List.getD_eq_getElem?_getD, List.getElem?_set_self hlt]
      rfl
    · rw [if_neg hj, List.getD_eq_getElem?_getD, List.getElem?_set_ne (Ne.symm hj), ← List.getD_eq_getElem?_getD]
  have eq9 := mW_set (dA := dA) (ad := ad) (M := M) (M' := M) (J := J) (J' := J) he hly (fun _ _ => rfl) (fun _ _ => rfl) (x := .inl (dA 3, rs.length, .inr (.inr (.inr (.inr (va_up (fun j => (rs.getD j none).map ad) i.toNatClampNeg (some (ad r2)))))))) (by
    show (Sum.inl (dA 3, (rs.set i.toNatClampNeg (some r2)).length, .inr (.inr (.inr (.inr (fun j => ((rs.set i.toNatClampNeg (some r2)).getD j none).map ad))))) : va_E) = _
    rw [List.length_set, eF])
  exact va_astq hx hb hK g2 g3 g4 r 3 r2 1 hw (ht := rfl) hw2 (r := (RX1, TX1, 4)) rfl hi hd (fun H1 locs1 P1 D1 S1 => by
      have P2 : va_P D vwCl (mW dA ad ly' M J) H1 := by rw [← eq9]; exact P1
      have D2 : va_D A (mW dA ad ly' M J) := by rw [← eq9]; exact D1
      exact k p l e s m args below meth c D dA A ad0 ad Z H1 locs1 la C E g1 P2 D2 S1 g5)
theorem v_obj {al : Bool} {idx r : Nat} (hl : Cond.methodLink own idx Lib.objectInit ∈ GW) (hi : Cond.instanceMethod Lib.objectInit ∈ GW) (hc : Cond.code Lib.objectInit ⟨#[0xb1]⟩ 1 none ∈ GW) (hf : 1 ≤ R.frames) (hw : (st.map fun v => v.category).sum + 12 ≤ R.locals) (hd : decode cc pc = .ok (.invokespecial idx, 3))
    (k : V own cc nL ret ini R al nb X Q kc ks (pc + 3) ls st ly M J) : V own cc nL ret ini R al nb X Q kc ks pc ls (.ref r :: st) ly M J := by
  intro p l e s m args below meth c D dA A ad0 ad Z H locs la C E g1 g2 g3 g4 g5
  obtain ⟨hx, hb, hml, hown, hts, hnw, hao, hK, hA, hin9, hX⟩ := id C
  refine W.objInit hx hb hown (hts _ hl) (hts _ hi) (hts _ hc) rfl (g5.1.trans hml.symm) rfl hd hf ?_ (k p l e s m args below meth c D dA A ad0 ad Z H locs la C E g1 g2 g3 g4 g5)
  show 2 * 0 + ((mSt ad st).map fun v => v.category).sum + 12 ≤ R.locals
  rw [mSt_cat]
  omega
theorem v_callI {y : MethodName} {cc' : ByteArray} {nL' idx n r : Nat} {R' : Room} {Q' : mQt} {As : List Value} (hk : mCI own idx y cc' nL' n) (hC : Ct y cc' nL' none R' true (.ref r :: As) ly M J Q') (hn : As.length = n) (hw : (st.map fun v => v.category).sum ≤ 8) (hR : mRm R' nL' R = true) (hkc : kc + R'.cells ≤ R.cells) (hks : ks + R'.slots ≤ R.slots) (hnb : nb ≤ ly.length) (hst : vsB ly.length st = true) (hls : vlB ly.length ls = true) (hd : decode cc pc = .ok (.invokespecial idx, 3))
    (k : ∀ o ly' M' J', Q' o ly' M' J' → V own cc nL ret ini R true nb X Q (kc + R'.cells) (ks + R'.slots) (pc + 3) ls (o.toList ++ st) ly' M' J') : V own cc nL ret ini R true nb X Q kc ks pc ls (As.reverse ++ .ref r :: st) ly M J := by
  intro p l e s m args below meth c D dA A ad0 ad Z H locs la C E g1 g2 g3 g4 g5
  obtain ⟨hx, hb, hml, hown, hts, hnw, hao, hK, hA, hin9, hX⟩ := id C
  obtain ⟨k1, k2, k4, k5, k55, k6, k7, k8⟩ := hk
  obtain ⟨hR1, hR2⟩ := mRm_ok hR
  have hM := hC l D dA ad H.size
  have hrun : va_Run p l e R s m args below meth c H locs kc ks R'.cells R'.slots (F0 m pc la (mSt ad (As.reverse ++ .ref r :: st))) (mSt ad st) (mQ D dA true ly.length ad Q' (mA ly ad H.size) (mSt ad (.ref r :: As)).toArray) (mA ly ad H.size) := by
    rcases k1 with k1 | ⟨host, k1⟩
    · exact va_runI (b := ad r) (As := mSt ad As) ⟨hx, hb, hml, hown, hts⟩ hM ⟨callB_of (own := own) (index := idx) (mc := R'.cells) (ms := R'.slots) (R := R) (rm := R') n hts (gw_good k5) rfl rfl rfl (hts _ k4) (hts _ k1) ⟨k6, k7, k8⟩ ⟨hR1, hR2⟩, k55, hts _ k2⟩ ⟨mPc_blind, mPc_pre (args := .ref r :: As) g2 g3 hK hao hnw⟩ rfl (by rw [mSt_len]; exact hn) g5.1 (mSt_rev ad As (.ref r :: st)) (lv_room (by rw [mSt_cat]; exact hw)) hd ⟨hkc, hks⟩
    · exact va_runIN (b := ad r) (As := mSt ad As) ⟨hx, hb, hml, hown, hts⟩ hM ⟨va_cnB n hts (gw_good k5) rfl rfl rfl (hnw _ k1) (hts _ k4) ⟨k6, k7, k8⟩ ⟨hR1, hR2⟩, k55, hts _ k2⟩ ⟨mPc_blind, mPc_pre (args := .ref r :: As) g2 g3 hK hao hnw⟩ rfl (by rw [mSt_len]; exact hn) g5.1 (mSt_rev ad As (.ref r :: st)) (lv_room (by rw [mSt_cat]; exact hw)) hd ⟨hkc, hks⟩
  refine m_call hrun g4 (fun q _ h => mA_free g3 g4 hA q h) (mA_free g3 g4 hA) (fun o ly' M' J' ad' H1 locs1 hQ hag hP1 hD1 hS1 => ?_)
  have hF := mA_free g3 g4 hA
  have h0 : adE ly.length ad ad' := hag
  rw [← vs_eq h0 st hst, mSt_args]
  exact k o ly' M' J' hQ p l e s m args below meth c D dA A ad0 ad' Z H1 locs1 la C E (mAg_ext h0 hnb g1) hP1 (hD1.weaken (fun _ _ _ h => hF _ h)) hS1 (by rw [vl_eq h0 ls 0 hls]; exact g5)
end NV
