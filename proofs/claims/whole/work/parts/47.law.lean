/-! the law: its rows, a lemma a call -/
section LV
variable {own : String} {cc : ByteArray} {nL : Nat} {ret : Option FieldType} {ini : Bool} {R : Room} {al : Bool} {nb : Nat} {X : Option (Nat × (Nat → Int32))} {Q : mQt} {kc ks pc : Nat} {ls : List (Option Value)} {st : List Value} {ly : List mEn} {M : mM} {J : mJ}
theorem mAg_1000 {ad0 ad : Nat → Nat} (h : mAg al nb ad0 ad) : ad 1000 = ad0 1000 := by
  cases al with
  | false =>
    have h2 : ad = ad0 := h
    rw [h2]
  | true => exact h 1000 (Or.inr (Nat.le_refl _))
theorem v_sld {L : Nat} {xs : Nat → Int32} {i : Int32} (hXs : X = some (L, xs)) (hi : vp_in i L) (hd : decode cc pc = .ok (.iaload, 1)) (k : V own cc nL ret ini R al nb X Q kc ks (pc + 1) ls (.int (xs i.toNatClampNeg) :: st) ly M J) : V own cc nL ret ini R al nb X Q kc ks pc ls (.int i :: .ref 1000 :: st) ly M J := by
  intro p l e s m args below meth c D dA A ad0 ad Z H locs la C E g1 g2 g3 g4 g5
  obtain ⟨hx, hb, hml, hown, hts, hnw, hao, hK, hA, hin9, hX⟩ := id C
  obtain ⟨x1, x2, x3⟩ := hX L xs hXs
  rw [← mAg_1000 g1] at x1 x2 x3
  exact va_sld hx hb x1 x2 x3 g4 hi hd (k p l e s m args below meth c D dA A ad0 ad Z H locs la C E g1 g2 g3 g4 g5)
theorem v_slen {L : Nat} {xs : Nat → Int32} (hXs : X = some (L, xs)) (hd : decode cc pc = .ok (.arraylength, 1)) (k : V own cc nL ret ini R al nb X Q kc ks (pc + 1) ls (.int (nI L) :: st) ly M J) : V own cc nL ret ini R al nb X Q kc ks pc ls (.ref 1000 :: st) ly M J := by
  intro p l e s m args below meth c D dA A ad0 ad Z H locs la C E g1 g2 g3 g4 g5
  obtain ⟨hx, hb, hml, hown, hts, hnw, hao, hK, hA, hin9, hX⟩ := id C
  obtain ⟨x1, x2, x3⟩ := hX L xs hXs
  rw [← mAg_1000 g1] at x1 x2 x3
  exact va_slen hx hb x1 x2 x3 g4 hd (k p l e s m args below meth c D dA A ad0 ad Z H locs la C E g1 g2 g3 g4 g5)
theorem v_arg {L i j : Nat} {n : Int} {xs : Nat → Int32} (hXs : X = some (L, xs)) (h0 : ls[0]? = some (some (.ref 1000))) (h3 : ls[3]? = some (some (.int (nI i)))) (hi : i + j < L) (hL : L < 2 ^ 31) (hn : Int32.ofInt n = nI j) (d0 : decode cc pc = .ok (.aload_n 0, 1)) (d1 : decode cc (pc + 1) = .ok (.iload_n 3, 1)) (d2 : decode cc (pc + 1 + 1) = .ok (.iconst n, 1)) (d3 : decode cc (pc + 1 + 1 + 1) = .ok (.iadd, 1)) (d4 : decode cc (pc + 1 + 1 + 1 + 1) = .ok (.iaload, 1))
    (k : V own cc nL ret ini R al nb X Q kc ks (pc + 1 + 1 + 1 + 1 + 1) ls (.int (xs (i + j)) :: st) ly M J) : V own cc nL ret ini R al nb X Q kc ks pc ls st ly M J := by
  refine v_aload_n d0 h0 ?_
  refine v_iload_n d1 h3 ?_
  refine v_iconst hn d2 ?_
  refine v_iadd d3 ?_
  rw [nI_add]
  refine v_sld hXs ?_ d4 ?_
  · exact vp_in_nI hi hL
  rw [nI_clamp (show i + j < 2 ^ 31 by omega)]
  exact k
end LV
def lwV : mQt := fun o _ _ _ => o = some (.int 1)
abbrev VL (L : Nat) (xs : Nat → Int32) (kc ks pc i : Nat) (M : mM) (J : mJ) : Prop := V RL cL_law 4 (some .boolean) false room_1 true 0 (some (L, xs)) lwV kc ks pc [some (.ref 1000), some (.ref 0), some (.ref 49), some (.int (nI i))] [] LY M J
theorem WNb_c {M N : mM} (h : N 53 = M 53) (g : WNb M) : WNb N := by
  obtain ⟨nb, h1, h2⟩ := g
  exact ⟨nb, by rw [h]; exact h1, h2⟩
theorem tryT_ne {M : mM} {n b : Nat} (hb : b < 38 ∨ 46 < b ∨ b = 44 ∨ b = 45) : tryT M n b = M b := by
  unfold tryT
  split
  · exact tryM_ne hb
  · rfl
theorem lg_self (a : Int64) : lg_cmp a a = 0 := by
  unfold lg_cmp
  rw [if_neg (by simp), if_pos rfl]

set_option maxRecDepth 100000 in
set_option maxHeartbeats 4000000 in
theorem k_dive {L i kc ks : Nat} {xs : Nat → Int32} {M : mM} {J : mJ} (hL : L ≤ 384) (hi : i + 6 ≤ L) (hkc : kc ≤ room_1.cells) (hks : ks ≤ room_1.slots) (g : Rel M) (hl : ∀ N K, Rel N → VL L xs kc ks 1049 i N K) : VL L xs kc ks 168 i M J := by
  refine v_aload_n (pc := 168) dL_law_168 rfl ?_
  refine v_arg (pc := 169) (i := i) (j := 1) (n := 1) rfl rfl rfl (by omega) (by omega) (by decide) dL_law_169 dL_law_170 dL_law_171 dL_law_172 dL_law_173 ?_
  refine v_arg (pc := 174) (i := i) (j := 2) (n := 2) rfl rfl rfl (by omega) (by omega) (by decide) dL_law_174 dL_law_175 dL_law_176 dL_law_177 dL_law_178 ?_
  refine v_arg (pc := 179) (i := i) (j := 3) (n := 3) rfl rfl rfl (by omega) (by omega) (by decide) dL_law_179 dL_law_180 dL_law_181 dL_law_182 dL_law_183 ?_
  refine v_cV3i (pc := 184) dL_law_184 mkL_13 c_dive ly0 rfl (Nat.le_of_ble_eq_true rfl) rfl hkc hks (fun r0 M1 J1 h1 => ?_)
  obtain ⟨e1, e2, e3⟩ := h1
  refine v_aload_n (pc := 187) dL_law_187 rfl ?_
  refine v_arg (pc := 188) (i := i) (j := 1) (n := 1) rfl rfl rfl (by omega) (by omega) (by decide) dL_law_188 dL_law_189 dL_law_190 dL_law_191 dL_law_192 ?_
  refine v_arg (pc := 193) (i := i) (j := 2) (n := 2) rfl rfl rfl (by omega) (by omega) (by decide) dL_law_193 dL_law_194 dL_law_195 dL_law_196 dL_law_197 ?_
  refine v_arg (pc := 198) (i := i) (j := 3) (n := 3) rfl rfl rfl (by omega) (by omega) (by decide) dL_law_198 dL_law_199 dL_law_200 dL_law_201 dL_law_202 ?_
  refine v_cV3i (pc := 203) dL_law_203 mkL_17 m_dive ly49 rfl (Nat.le_of_ble_eq_true rfl) rfl hkc hks (fun r1 M2 J2 h2 => ?_)
  obtain ⟨f1, f2, f3⟩ := h2
  have hp := px_dive g ⟨e1, e2⟩ ⟨f1, f2⟩
  refine v_icmp_eq (pc := 206) (tgt := 1049) dL_law_206 (by decide) (fun _ => ?_) (fun c_1 => absurd hp.1 c_1)
  exact hl M2 J2 hp.2

set_option maxRecDepth 100000 in
set_option maxHeartbeats 4000000 in
theorem k_leave {L i kc ks : Nat} {xs : Nat → Int32} {M : mM} {J : mJ} (hL : L ≤ 384) (hi : i + 6 ≤ L) (hkc : kc ≤ room_1.cells) (hks : ks ≤ room_1.slots) (g : Rel M) (hl : ∀ N K, Rel N → VL L xs kc ks 1049 i N K) : VL L xs kc ks 211 i M J := by
  refine v_aload_n (pc := 211) dL_law_211 rfl ?_
  refine v_arg (pc := 212) (i := i) (j := 1) (n := 1) rfl rfl rfl (by omega) (by omega) (by decide) dL_law_212 dL_law_213 dL_law_214 dL_law_215 dL_law_216 ?_
  refine v_cV1i (pc := 217) dL_law_217 mkL_18 c_leave ly0 rfl (Nat.le_of_ble_eq_true rfl) rfl hkc hks (fun r0 M1 J1 h1 => ?_)
  obtain ⟨e1, e2, e3⟩ := h1
  refine v_aload_n (pc := 220) dL_law_220 rfl ?_
  refine v_arg (pc := 221) (i := i) (j := 1) (n := 1) rfl rfl rfl (by omega) (by omega) (by decide) dL_law_221 dL_law_222 dL_law_223 dL_law_224 dL_law_225 ?_
  refine v_cV1i (pc := 226) dL_law_226 mkL_22 m_leave ly49 rfl (Nat.le_of_ble_eq_true rfl) rfl hkc hks (fun r1 M2 J2 h2 => ?_)
  obtain ⟨f1, f2, f3⟩ := h2
  have hp := px_leave g ⟨e1, e2⟩ ⟨f1, f2⟩
  refine v_icmp_eq (pc := 229) (tgt := 1049) dL_law_229 (by decide) (fun _ => ?_) (fun c_1 => absurd hp.1 c_1)
  exact hl M2 J2 hp.2

set_option maxRecDepth 100000 in
set_option maxHeartbeats 4000000 in
theorem k_set {L i kc ks : Nat} {xs : Nat → Int32} {M : mM} {J : mJ} (hL : L ≤ 384) (hi : i + 6 ≤ L) (hkc : kc ≤ room_1.cells) (hks : ks ≤ room_1.slots) (g : Rel M) (hl : ∀ N K, Rel N → VL L xs kc ks 1049 i N K) : VL L xs kc ks 234 i M J := by
  refine v_aload_n (pc := 234) dL_law_234 rfl ?_
  refine v_arg (pc := 235) (i := i) (j := 1) (n := 1) rfl rfl rfl (by omega) (by omega) (by decide) dL_law_235 dL_law_236 dL_law_237 dL_law_238 dL_law_239 ?_
  refine v_arg (pc := 240) (i := i) (j := 2) (n := 2) rfl rfl rfl (by omega) (by omega) (by decide) dL_law_240 dL_law_241 dL_law_242 dL_law_243 dL_law_244 ?_
  refine v_cV2i (pc := 245) dL_law_245 mkL_23 c_set ly0 rfl (Nat.le_of_ble_eq_true rfl) rfl hkc hks (fun r0 M1 J1 h1 => ?_)
  obtain ⟨e1, e2, e3⟩ := h1
  refine v_aload_n (pc := 248) dL_law_248 rfl ?_
  refine v_arg (pc := 249) (i := i) (j := 1) (n := 1) rfl rfl rfl (by omega) (by omega) (by decide) dL_law_249 dL_law_250 dL_law_251 dL_law_252 dL_law_253 ?_
  refine v_arg (pc := 254) (i := i) (j := 2) (n := 2) rfl rfl rfl (by omega) (by omega) (by decide) dL_law_254 dL_law_255 dL_law_256 dL_law_257 dL_law_258 ?_
  refine v_cV2i (pc := 259) dL_law_259 mkL_27 m_set ly49 rfl (Nat.le_of_ble_eq_true rfl) rfl hkc hks (fun r1 M2 J2 h2 => ?_)
  obtain ⟨f1, f2, f3⟩ := h2
  have hp := px_set g ⟨e1, e2⟩ ⟨f1, f2⟩
  refine v_icmp_eq (pc := 262) (tgt := 1049) dL_law_262 (by decide) (fun _ => ?_) (fun c_1 => absurd hp.1 c_1)
  exact hl M2 J2 hp.2

set_option maxRecDepth 100000 in
set_option maxHeartbeats 4000000 in
theorem k_close {L i kc ks : Nat} {xs : Nat → Int32} {M : mM} {J : mJ} (hL : L ≤ 384) (hi : i + 6 ≤ L) (hkc : kc ≤ room_1.cells) (hks : ks ≤ room_1.slots) (g : Rel M) (hl : ∀ N K, Rel N → VL L xs kc ks 1049 i N K) : VL L xs kc ks 267 i M J := by
  refine v_aload_n (pc := 267) dL_law_267 rfl ?_
  refine v_cV0i (pc := 268) dL_law_268 mkL_28 c_close ly0 rfl (Nat.le_of_ble_eq_true rfl) rfl hkc hks (fun r0 M1 J1 h1 => ?_)
  obtain ⟨e1, e2, e3⟩ := h1
  refine v_aload_n (pc := 271) dL_law_271 rfl ?_
  refine v_cV0i (pc := 272) dL_law_272 mkL_32 m_close ly49 rfl (Nat.le_of_ble_eq_true rfl) rfl hkc hks (fun r1 M2 J2 h2 => ?_)
  obtain ⟨f1, f2, f3⟩ := h2
  have hp := px_close g ⟨e1, e2⟩ ⟨f1, f2⟩
  refine v_icmp_eq (pc := 275) (tgt := 1049) dL_law_275 (by decide) (fun _ => ?_) (fun c_1 => absurd hp.1 c_1)
  exact hl M2 J2 hp.2

set_option maxRecDepth 100000 in
set_option maxHeartbeats 4000000 in
theorem k_say {L i kc ks : Nat} {xs : Nat → Int32} {M : mM} {J : mJ} (hL : L ≤ 384) (hi : i + 6 ≤ L) (hkc : kc ≤ room_1.cells) (hks : ks ≤ room_1.slots) (g : Rel M) (hl : ∀ N K, Rel N → VL L xs kc ks 1049 i N K) : VL L xs kc ks 280 i M J := by
  refine v_aload_n (pc := 280) dL_law_280 rfl ?_
  refine v_arg (pc := 281) (i := i) (j := 1) (n := 1) rfl rfl rfl (by omega) (by omega) (by decide) dL_law_281 dL_law_282 dL_law_283 dL_law_284 dL_law_285 ?_
  obtain ⟨n, p1, p2, p3, p4⟩ := R_pad g
  refine v_cV1i (pc := 286) dL_law_286 mkL_33 (c_say p1 p3) ly0 rfl (Nat.le_of_ble_eq_true rfl) rfl hkc hks (fun r0 M1 J1 h1 => ?_)
  obtain ⟨e1, e2, e3⟩ := h1
  have e49 : M1 49 = M 49 := by
    rw [e2]
    split
    · split
      · rw [mU_ne _ (by decide), mU_ne _ (by decide)]
      · rfl
    · rfl
  refine v_aload_n (pc := 289) dL_law_289 rfl ?_
  refine v_arg (pc := 290) (i := i) (j := 1) (n := 1) rfl rfl rfl (by omega) (by omega) (by decide) dL_law_290 dL_law_291 dL_law_292 dL_law_293 dL_law_294 ?_
  refine v_cV1i (pc := 295) dL_law_295 mkL_36 (m_say (n := n) (by rw [e49]; exact p2) p3) ly49 rfl (Nat.le_of_ble_eq_true rfl) rfl hkc hks (fun r1 M2 J2 h2 => ?_)
  obtain ⟨f1, f2, f3⟩ := h2
  have hp := px_say p1 p3 (by rw [e49]; exact p2) p3 g ⟨e1, e2⟩ ⟨f1, f2⟩
  refine v_icmp_eq (pc := 298) (tgt := 1049) dL_law_298 (by decide) (fun _ => ?_) (fun c_1 => absurd hp.1 c_1)
  exact hl M2 J2 hp.2

set_option maxRecDepth 100000 in
set_option maxHeartbeats 4000000 in
theorem k_wipe {L i kc ks : Nat} {xs : Nat → Int32} {M : mM} {J : mJ} (hL : L ≤ 384) (hi : i + 6 ≤ L) (hkc : kc ≤ room_1.cells) (hks : ks ≤ room_1.slots) (g : Rel M) (hl : ∀ N K, Rel N → VL L xs kc ks 1049 i N K) : VL L xs kc ks 303 i M J := by
  refine v_aload_n (pc := 303) dL_law_303 rfl ?_
  refine v_cV0i (pc := 304) dL_law_304 mkL_37 c_wipe ly0 rfl (Nat.le_of_ble_eq_true rfl) rfl hkc hks (fun r0 M1 J1 h1 => ?_)
  obtain ⟨e1, e2, e3⟩ := h1
  refine v_aload_n (pc := 307) dL_law_307 rfl ?_
  refine v_cV0i (pc := 308) dL_law_308 mkL_40 m_wipe ly49 rfl (Nat.le_of_ble_eq_true rfl) rfl hkc hks (fun r1 M2 J2 h2 => ?_)
  obtain ⟨f1, f2, f3⟩ := h2
  have hp := px_wipe g ⟨e1, e2⟩ ⟨f1, f2⟩
  refine v_icmp_eq (pc := 311) (tgt := 1049) dL_law_311 (by decide) (fun _ => ?_) (fun c_1 => absurd hp.1 c_1)
  exact hl M2 J2 hp.2

set_option maxRecDepth 100000 in
set_option maxHeartbeats 4000000 in
theorem k_fault {L i kc ks : Nat} {xs : Nat → Int32} {M : mM} {J : mJ} (hL : L ≤ 384) (hi : i + 6 ≤ L) (hkc : kc ≤ room_1.cells) (hks : ks ≤ room_1.slots) (g : Rel M) (hl : ∀ N K, Rel N → VL L xs kc ks 1049 i N K) : VL L xs kc ks 316 i M J := by
  refine v_aload_n (pc := 316) dL_law_316 rfl ?_
  obtain ⟨n, p1, p2, p3, p4⟩ := R_pad g
  refine v_cV0i (pc := 317) dL_law_317 mkL_41 (c_faultC p1 p3) ly0 rfl (Nat.le_of_ble_eq_true rfl) rfl hkc hks (fun r0 M1 J1 h1 => ?_)
  obtain ⟨e1, e2, e3⟩ := h1
  refine v_aload_n (pc := 320) dL_law_320 rfl ?_
  refine v_cV0i (pc := 321) dL_law_321 mkL_44 (m_fault (n := n) (by rw [e2]; exact p2) p3) ly49 rfl (Nat.le_of_ble_eq_true rfl) rfl hkc hks (fun r1 M2 J2 h2 => ?_)
  obtain ⟨f1, f2, f3⟩ := h2
  have hp := px_fault p1 p3 (by rw [e2]; exact p2) p3 g ⟨e1, e2⟩ ⟨f1, f2⟩
  refine v_icmp_eq (pc := 324) (tgt := 1049) dL_law_324 (by decide) (fun _ => ?_) (fun c_1 => absurd hp.1 c_1)
  exact hl M2 J2 hp.2

set_option maxRecDepth 100000 in
set_option maxHeartbeats 4000000 in
theorem k_judge {L i kc ks : Nat} {xs : Nat → Int32} {M : mM} {J : mJ} (hL : L ≤ 384) (hi : i + 6 ≤ L) (hkc : kc ≤ room_1.cells) (hks : ks ≤ room_1.slots) (g : Rel M) (hl : ∀ N K, Rel N → VL L xs kc ks 1049 i N K) : VL L xs kc ks 329 i M J := by
  refine v_aload_n (pc := 329) dL_law_329 rfl ?_
  refine v_arg (pc := 330) (i := i) (j := 1) (n := 1) rfl rfl rfl (by omega) (by omega) (by decide) dL_law_330 dL_law_331 dL_law_332 dL_law_333 dL_law_334 ?_
  obtain ⟨n, p1, p2, p3, p4⟩ := R_pad g
  refine v_cV1i (pc := 335) dL_law_335 mkL_45 (c_judge p1 p3 (R_WFn g)) ly0 rfl (Nat.le_of_ble_eq_true rfl) rfl hkc hks (fun r0 M1 J1 h1 => ?_)
  obtain ⟨e1, e2, e3⟩ := h1
  have e49 : M1 49 = M 49 := by
    rw [e2]
    split
    · exact tryT_ne (by omega)
    · rfl
  have e53 : M1 53 = M 53 := by
    rw [e2]
    split
    · exact tryT_ne (by omega)
    · rfl
  refine v_aload_n (pc := 338) dL_law_338 rfl ?_
  refine v_arg (pc := 339) (i := i) (j := 1) (n := 1) rfl rfl rfl (by omega) (by omega) (by decide) dL_law_339 dL_law_340 dL_law_341 dL_law_342 dL_law_343 ?_
  refine v_cV1i (pc := 344) dL_law_344 mkL_48 (m_judge (n := n) (by rw [e49]; exact p2) p3 (WNb_c e53 (R_WNb g))) ly49 rfl (Nat.le_of_ble_eq_true rfl) rfl hkc hks (fun r1 M2 J2 h2 => ?_)
  obtain ⟨f1, f2, f3⟩ := h2
  have hp := px_judge p1 p3 (R_WFn g) (by rw [e49]; exact p2) p3 (WNb_c e53 (R_WNb g)) g ⟨e1, e2⟩ ⟨f1, f2⟩
  refine v_icmp_eq (pc := 347) (tgt := 1049) dL_law_347 (by decide) (fun _ => ?_) (fun c_1 => absurd hp.1 c_1)
  exact hl M2 J2 hp.2

set_option maxRecDepth 100000 in
set_option maxHeartbeats 4000000 in
theorem k_done {L i kc ks : Nat} {xs : Nat → Int32} {M : mM} {J : mJ} (hL : L ≤ 384) (hi : i + 6 ≤ L) (hkc : kc ≤ room_1.cells) (hks : ks ≤ room_1.slots) (g : Rel M) (hl : ∀ N K, Rel N → VL L xs kc ks 1049 i N K) : VL L xs kc ks 352 i M J := by
  refine v_aload_n (pc := 352) dL_law_352 rfl ?_
  obtain ⟨n, p1, p2, p3, p4⟩ := R_pad g
  refine v_cV0i (pc := 353) dL_law_353 mkL_49 (c_done p1 p3 (R_WFn g)) ly0 rfl (Nat.le_of_ble_eq_true rfl) rfl hkc hks (fun r0 M1 J1 h1 => ?_)
  obtain ⟨e1, e2, e3⟩ := h1
  have e49 : M1 49 = M 49 := by
    rw [e2]
    split
    · rw [mU_ne _ (by omega), cLg_ne (by omega)]
      exact tryT_ne (by omega)
    · exact tryT_ne (by omega)
  have e53 : M1 53 = M 53 := by
    rw [e2]
    split
    · rw [mU_ne _ (by omega), cLg_ne (by omega)]
      exact tryT_ne (by omega)
    · exact tryT_ne (by omega)
  refine v_aload_n (pc := 356) dL_law_356 rfl ?_
  refine v_cV0i (pc := 357) dL_law_357 mkL_52 (m_done (n := n) (by rw [e49]; exact p2) p3 (WNb_c e53 (R_WNb g))) ly49 rfl (Nat.le_of_ble_eq_true rfl) rfl hkc hks (fun r1 M2 J2 h2 => ?_)
  obtain ⟨f1, f2, f3⟩ := h2
  have hp := px_done p1 p3 (R_WFn g) (by rw [e49]; exact p2) p3 (WNb_c e53 (R_WNb g)) g ⟨e1, e2⟩ ⟨f1, f2⟩
  refine v_icmp_eq (pc := 360) (tgt := 1049) dL_law_360 (by decide) (fun _ => ?_) (fun c_1 => absurd hp.1 c_1)
  exact hl M2 J2 hp.2

set_option maxRecDepth 100000 in
set_option maxHeartbeats 4000000 in
theorem k_behind {L i kc ks : Nat} {xs : Nat → Int32} {M : mM} {J : mJ} (hL : L ≤ 384) (hi : i + 6 ≤ L) (hkc : kc ≤ room_1.cells) (hks : ks ≤ room_1.slots) (g : Rel M) (hl : ∀ N K, Rel N → VL L xs kc ks 1049 i N K) : VL L xs kc ks 365 i M J := by
  refine v_aload_n (pc := 365) dL_law_365 rfl ?_
  refine v_arg (pc := 366) (i := i) (j := 1) (n := 1) rfl rfl rfl (by omega) (by omega) (by decide) dL_law_366 dL_law_367 dL_law_368 dL_law_369 dL_law_370 ?_
  refine v_arg (pc := 371) (i := i) (j := 2) (n := 2) rfl rfl rfl (by omega) (by omega) (by decide) dL_law_371 dL_law_372 dL_law_373 dL_law_374 dL_law_375 ?_
  obtain ⟨n, p1, p2, p3, p4⟩ := R_pad g
  refine v_cV2i (pc := 376) dL_law_376 mkL_53 (c_behind p1 p3 (R_WFn g)) ly0 rfl (Nat.le_of_ble_eq_true rfl) rfl hkc hks (fun r0 M1 J1 h1 => ?_)
  obtain ⟨e1, e2, e3⟩ := h1
  have e49 : M1 49 = M 49 := by
    rw [e2]
    split
    · split
      · exact tryT_ne (by omega)
      · rfl
    · rfl
  have e53 : M1 53 = M 53 := by
    rw [e2]
    split
    · split
      · exact tryT_ne (by omega)
      · rfl
    · rfl
  refine v_aload_n (pc := 379) dL_law_379 rfl ?_
  refine v_arg (pc := 380) (i := i) (j := 1) (n := 1) rfl rfl rfl (by omega) (by omega) (by decide) dL_law_380 dL_law_381 dL_law_382 dL_law_383 dL_law_384 ?_
  refine v_arg (pc := 385) (i := i) (j := 2) (n := 2) rfl rfl rfl (by omega) (by omega) (by decide) dL_law_385 dL_law_386 dL_law_387 dL_law_388 dL_law_389 ?_
  refine v_cV2i (pc := 390) dL_law_390 mkL_56 (m_behind (n := n) (by rw [e49]; exact p2) p3 (WNb_c e53 (R_WNb g))) ly49 rfl (Nat.le_of_ble_eq_true rfl) rfl hkc hks (fun r1 M2 J2 h2 => ?_)
  obtain ⟨f1, f2, f3⟩ := h2
  have hp := px_behind p1 p3 (R_WFn g) (by rw [e49]; exact p2) p3 (WNb_c e53 (R_WNb g)) g ⟨e1, e2⟩ ⟨f1, f2⟩
  refine v_icmp_eq (pc := 393) (tgt := 1049) dL_law_393 (by decide) (fun _ => ?_) (fun c_1 => absurd hp.1 c_1)
  exact hl M2 J2 hp.2

set_option maxRecDepth 100000 in
set_option maxHeartbeats 4000000 in
theorem k_then {L i kc ks : Nat} {xs : Nat → Int32} {M : mM} {J : mJ} (hL : L ≤ 384) (hi : i + 6 ≤ L) (hkc : kc ≤ room_1.cells) (hks : ks ≤ room_1.slots) (g : Rel M) (hl : ∀ N K, Rel N → VL L xs kc ks 1049 i N K) : VL L xs kc ks 398 i M J := by
  refine v_aload_n (pc := 398) dL_law_398 rfl ?_
  refine v_arg (pc := 399) (i := i) (j := 1) (n := 1) rfl rfl rfl (by omega) (by omega) (by decide) dL_law_399 dL_law_400 dL_law_401 dL_law_402 dL_law_403 ?_
  obtain ⟨n, p1, p2, p3, p4⟩ := R_pad g
  refine v_cV1i (pc := 404) dL_law_404 mkL_57 (c_then p1 p3 (R_WFn g)) ly0 rfl (Nat.le_of_ble_eq_true rfl) rfl hkc hks (fun r0 M1 J1 h1 => ?_)
  obtain ⟨e1, e2, e3⟩ := h1
  have e49 : M1 49 = M 49 := by
    rw [e2]
    split
    · exact tryT_ne (by omega)
    · rfl
  have e53 : M1 53 = M 53 := by
    rw [e2]
    split
    · exact tryT_ne (by omega)
    · rfl
  refine v_aload_n (pc := 407) dL_law_407 rfl ?_
  refine v_arg (pc := 408) (i := i) (j := 1) (n := 1) rfl rfl rfl (by omega) (by omega) (by decide) dL_law_408 dL_law_409 dL_law_410 dL_law_411 dL_law_412 ?_
  refine v_cV1i (pc := 413) dL_law_413 mkL_60 (m_then (n := n) (by rw [e49]; exact p2) p3 (WNb_c e53 (R_WNb g))) ly49 rfl (Nat.le_of_ble_eq_true rfl) rfl hkc hks (fun r1 M2 J2 h2 => ?_)
  obtain ⟨f1, f2, f3⟩ := h2
  have hp := px_then p1 p3 (R_WFn g) (by rw [e49]; exact p2) p3 (WNb_c e53 (R_WNb g)) g ⟨e1, e2⟩ ⟨f1, f2⟩
  refine v_icmp_eq (pc := 416) (tgt := 1049) dL_law_416 (by decide) (fun _ => ?_) (fun c_1 => absurd hp.1 c_1)
  exact hl M2 J2 hp.2

set_option maxRecDepth 100000 in
set_option maxHeartbeats 4000000 in
theorem k_word {L i kc ks : Nat} {xs : Nat → Int32} {M : mM} {J : mJ} (hL : L ≤ 384) (hi : i + 6 ≤ L) (hkc : kc ≤ room_1.cells) (hks : ks ≤ room_1.slots) (g : Rel M) (hl : ∀ N K, Rel N → VL L xs kc ks 1049 i N K) : VL L xs kc ks 421 i M J := by
  refine v_aload_n (pc := 421) dL_law_421 rfl ?_
  refine v_arg (pc := 422) (i := i) (j := 1) (n := 1) rfl rfl rfl (by omega) (by omega) (by decide) dL_law_422 dL_law_423 dL_law_424 dL_law_425 dL_law_426 ?_
  refine v_arg (pc := 427) (i := i) (j := 2) (n := 2) rfl rfl rfl (by omega) (by omega) (by decide) dL_law_427 dL_law_428 dL_law_429 dL_law_430 dL_law_431 ?_
  obtain ⟨wd, nb0, T, b1, b2, b3, b4, b5, -⟩ := R_bk g
  obtain ⟨nb, lm, q1, q2, q3, q4⟩ := R_last g
  refine v_cV2i (pc := 432) dL_law_432 mkL_61 (c_word b1 (by omega)) ly0 rfl (Nat.le_of_ble_eq_true rfl) rfl hkc hks (fun r0 M1 J1 h1 => ?_)
  obtain ⟨e1, e2, e3⟩ := h1
  refine v_aload_n (pc := 435) dL_law_435 rfl ?_
  refine v_arg (pc := 436) (i := i) (j := 1) (n := 1) rfl rfl rfl (by omega) (by omega) (by decide) dL_law_436 dL_law_437 dL_law_438 dL_law_439 dL_law_440 ?_
  refine v_arg (pc := 441) (i := i) (j := 2) (n := 2) rfl rfl rfl (by omega) (by omega) (by decide) dL_law_441 dL_law_442 dL_law_443 dL_law_444 dL_law_445 ?_
  refine v_cV2i (pc := 446) dL_law_446 mkL_64 (m_word (nb := nb) (lm := lm) (by rw [e2]; exact q1) q2 (by rw [e2]; exact q3) q4) ly49 rfl (Nat.le_of_ble_eq_true rfl) rfl hkc hks (fun r1 M2 J2 h2 => ?_)
  obtain ⟨f1, f2, f3⟩ := h2
  have hp := px_word b1 (by omega) (by rw [e2]; exact q1) q2 (by rw [e2]; exact q3) q4 g ⟨e1, e2⟩ ⟨f1, f2⟩
  refine v_icmp_eq (pc := 449) (tgt := 1049) dL_law_449 (by decide) (fun _ => ?_) (fun c_1 => absurd hp.1 c_1)
  exact hl M2 J2 hp.2

set_option maxRecDepth 100000 in
set_option maxHeartbeats 4000000 in
theorem k_votes {L i kc ks : Nat} {xs : Nat → Int32} {M : mM} {J : mJ} (hL : L ≤ 384) (hi : i + 6 ≤ L) (hkc : kc ≤ room_1.cells) (hks : ks ≤ room_1.slots) (g : Rel M) (hl : ∀ N K, Rel N → VL L xs kc ks 1049 i N K) : VL L xs kc ks 454 i M J := by
  refine v_aload_n (pc := 454) dL_law_454 rfl ?_
  refine v_arg (pc := 455) (i := i) (j := 1) (n := 1) rfl rfl rfl (by omega) (by omega) (by decide) dL_law_455 dL_law_456 dL_law_457 dL_law_458 dL_law_459 ?_
  refine v_arg (pc := 460) (i := i) (j := 2) (n := 2) rfl rfl rfl (by omega) (by omega) (by decide) dL_law_460 dL_law_461 dL_law_462 dL_law_463 dL_law_464 ?_
  refine v_arg (pc := 465) (i := i) (j := 3) (n := 3) rfl rfl rfl (by omega) (by omega) (by decide) dL_law_465 dL_law_466 dL_law_467 dL_law_468 dL_law_469 ?_
  obtain ⟨wd, nb0, T, b1, b2, b3, b4, b5, -⟩ := R_bk g
  obtain ⟨nb, lm, q1, q2, q3, q4⟩ := R_last g
  refine v_cV3i (pc := 470) dL_law_470 mkL_65 (c_votes b1 (by omega)) ly0 rfl (Nat.le_of_ble_eq_true rfl) rfl hkc hks (fun r0 M1 J1 h1 => ?_)
  obtain ⟨e1, e2, e3⟩ := h1
  refine v_aload_n (pc := 473) dL_law_473 rfl ?_
  refine v_arg (pc := 474) (i := i) (j := 1) (n := 1) rfl rfl rfl (by omega) (by omega) (by decide) dL_law_474 dL_law_475 dL_law_476 dL_law_477 dL_law_478 ?_
  refine v_arg (pc := 479) (i := i) (j := 2) (n := 2) rfl rfl rfl (by omega) (by omega) (by decide) dL_law_479 dL_law_480 dL_law_481 dL_law_482 dL_law_483 ?_
  refine v_arg (pc := 484) (i := i) (j := 3) (n := 3) rfl rfl rfl (by omega) (by omega) (by decide) dL_law_484 dL_law_485 dL_law_486 dL_law_487 dL_law_488 ?_
  refine v_cV3i (pc := 489) dL_law_489 mkL_68 (m_votes (nb := nb) (lm := lm) (by rw [e2]; exact q1) q2 (by rw [e2]; exact q3) q4) ly49 rfl (Nat.le_of_ble_eq_true rfl) rfl hkc hks (fun r1 M2 J2 h2 => ?_)
  obtain ⟨f1, f2, f3⟩ := h2
  have hp := px_votes b1 (by omega) (by rw [e2]; exact q1) q2 (by rw [e2]; exact q3) q4 g ⟨e1, e2⟩ ⟨f1, f2⟩
  refine v_icmp_eq (pc := 492) (tgt := 1049) dL_law_492 (by decide) (fun _ => ?_) (fun c_1 => absurd hp.1 c_1)
  exact hl M2 J2 hp.2

set_option maxRecDepth 100000 in
set_option maxHeartbeats 4000000 in
theorem k_falls {L i kc ks : Nat} {xs : Nat → Int32} {M : mM} {J : mJ} (hL : L ≤ 384) (hi : i + 6 ≤ L) (hkc : kc ≤ room_1.cells) (hks : ks ≤ room_1.slots) (g : Rel M) (hl : ∀ N K, Rel N → VL L xs kc ks 1049 i N K) : VL L xs kc ks 497 i M J := by
  refine v_aload_n (pc := 497) dL_law_497 rfl ?_
  refine v_cV0i (pc := 498) dL_law_498 mkL_69 c_falls ly0 rfl (Nat.le_of_ble_eq_true rfl) rfl hkc hks (fun r0 M1 J1 h1 => ?_)
  obtain ⟨e1, e2, e3⟩ := h1
  refine v_aload_n (pc := 501) dL_law_501 rfl ?_
  refine v_cV0i (pc := 502) dL_law_502 mkL_72 m_falls ly49 rfl (Nat.le_of_ble_eq_true rfl) rfl hkc hks (fun r1 M2 J2 h2 => ?_)
  obtain ⟨f1, f2, f3⟩ := h2
  have hp := px_falls g ⟨e1, e2⟩ ⟨f1, f2⟩
  refine v_icmp_eq (pc := 505) (tgt := 1049) dL_law_505 (by decide) (fun _ => ?_) (fun c_1 => absurd hp.1 c_1)
  exact hl M2 J2 hp.2

set_option maxRecDepth 100000 in
set_option maxHeartbeats 4000000 in
theorem k_speak {L i kc ks : Nat} {xs : Nat → Int32} {M : mM} {J : mJ} (hL : L ≤ 384) (hi : i + 6 ≤ L) (hkc : kc ≤ room_1.cells) (hks : ks ≤ room_1.slots) (g : Rel M) (hl : ∀ N K, Rel N → VL L xs kc ks 1049 i N K) : VL L xs kc ks 510 i M J := by
  refine v_aload_n (pc := 510) dL_law_510 rfl ?_
  refine v_arg (pc := 511) (i := i) (j := 1) (n := 1) rfl rfl rfl (by omega) (by omega) (by decide) dL_law_511 dL_law_512 dL_law_513 dL_law_514 dL_law_515 ?_
  refine v_arg (pc := 516) (i := i) (j := 2) (n := 2) rfl rfl rfl (by omega) (by omega) (by decide) dL_law_516 dL_law_517 dL_law_518 dL_law_519 dL_law_520 ?_
  refine v_arg (pc := 521) (i := i) (j := 3) (n := 3) rfl rfl rfl (by omega) (by omega) (by decide) dL_law_521 dL_law_522 dL_law_523 dL_law_524 dL_law_525 ?_
  refine v_arg (pc := 526) (i := i) (j := 4) (n := 4) rfl rfl rfl (by omega) (by omega) (by decide) dL_law_526 dL_law_527 dL_law_528 dL_law_529 dL_law_530 ?_
  refine v_cV4i (pc := 531) dL_law_531 mkL_73 c_speak ly0 rfl (Nat.le_of_ble_eq_true rfl) rfl hkc hks (fun r0 M1 J1 h1 => ?_)
  obtain ⟨e1, e2, e3⟩ := h1
  refine v_aload_n (pc := 534) dL_law_534 rfl ?_
  refine v_arg (pc := 535) (i := i) (j := 1) (n := 1) rfl rfl rfl (by omega) (by omega) (by decide) dL_law_535 dL_law_536 dL_law_537 dL_law_538 dL_law_539 ?_
  refine v_arg (pc := 540) (i := i) (j := 2) (n := 2) rfl rfl rfl (by omega) (by omega) (by decide) dL_law_540 dL_law_541 dL_law_542 dL_law_543 dL_law_544 ?_
  refine v_arg (pc := 545) (i := i) (j := 3) (n := 3) rfl rfl rfl (by omega) (by omega) (by decide) dL_law_545 dL_law_546 dL_law_547 dL_law_548 dL_law_549 ?_
  refine v_arg (pc := 550) (i := i) (j := 4) (n := 4) rfl rfl rfl (by omega) (by omega) (by decide) dL_law_550 dL_law_551 dL_law_552 dL_law_553 dL_law_554 ?_
  refine v_cV4i (pc := 555) dL_law_555 mkL_77 m_speak ly49 rfl (Nat.le_of_ble_eq_true rfl) rfl hkc hks (fun r1 M2 J2 h2 => ?_)
  obtain ⟨f1, f2, f3⟩ := h2
  have hp := px_speak g ⟨e1, e2⟩ ⟨f1, f2⟩
  refine v_icmp_eq (pc := 558) (tgt := 1049) dL_law_558 (by decide) (fun _ => ?_) (fun c_1 => absurd hp.1 c_1)
  exact hl M2 J2 hp.2

set_option maxRecDepth 100000 in
set_option maxHeartbeats 4000000 in
theorem k_laws {L i kc ks : Nat} {xs : Nat → Int32} {M : mM} {J : mJ} (hL : L ≤ 384) (hi : i + 6 ≤ L) (hkc : kc ≤ room_1.cells) (hks : ks ≤ room_1.slots) (g : Rel M) (hl : ∀ N K, Rel N → VL L xs kc ks 1049 i N K) : VL L xs kc ks 563 i M J := by
  refine v_aload_n (pc := 563) dL_law_563 rfl ?_
  refine v_arg (pc := 564) (i := i) (j := 1) (n := 1) rfl rfl rfl (by omega) (by omega) (by decide) dL_law_564 dL_law_565 dL_law_566 dL_law_567 dL_law_568 ?_
  refine v_arg (pc := 569) (i := i) (j := 2) (n := 2) rfl rfl rfl (by omega) (by omega) (by decide) dL_law_569 dL_law_570 dL_law_571 dL_law_572 dL_law_573 ?_
  refine v_arg (pc := 574) (i := i) (j := 3) (n := 3) rfl rfl rfl (by omega) (by omega) (by decide) dL_law_574 dL_law_575 dL_law_576 dL_law_577 dL_law_578 ?_
  refine v_arg (pc := 579) (i := i) (j := 4) (n := 4) rfl rfl rfl (by omega) (by omega) (by decide) dL_law_579 dL_law_580 dL_law_581 dL_law_582 dL_law_583 ?_
  refine v_cV4i (pc := 584) dL_law_584 mkL_78 c_laws ly0 rfl (Nat.le_of_ble_eq_true rfl) rfl hkc hks (fun r0 M1 J1 h1 => ?_)
  obtain ⟨e1, e2, e3⟩ := h1
  refine v_aload_n (pc := 587) dL_law_587 rfl ?_
  refine v_arg (pc := 588) (i := i) (j := 1) (n := 1) rfl rfl rfl (by omega) (by omega) (by decide) dL_law_588 dL_law_589 dL_law_590 dL_law_591 dL_law_592 ?_
  refine v_arg (pc := 593) (i := i) (j := 2) (n := 2) rfl rfl rfl (by omega) (by omega) (by decide) dL_law_593 dL_law_594 dL_law_595 dL_law_596 dL_law_597 ?_
  refine v_arg (pc := 598) (i := i) (j := 3) (n := 3) rfl rfl rfl (by omega) (by omega) (by decide) dL_law_598 dL_law_599 dL_law_600 dL_law_601 dL_law_602 ?_
  refine v_arg (pc := 603) (i := i) (j := 4) (n := 4) rfl rfl rfl (by omega) (by omega) (by decide) dL_law_603 dL_law_604 dL_law_605 dL_law_606 dL_law_607 ?_
  refine v_cV4i (pc := 608) dL_law_608 mkL_81 m_laws ly49 rfl (Nat.le_of_ble_eq_true rfl) rfl hkc hks (fun r1 M2 J2 h2 => ?_)
  obtain ⟨f1, f2, f3⟩ := h2
  have hp := px_laws g ⟨e1, e2⟩ ⟨f1, f2⟩
  refine v_icmp_eq (pc := 611) (tgt := 1049) dL_law_611 (by decide) (fun _ => ?_) (fun c_1 => absurd hp.1 c_1)
  exact hl M2 J2 hp.2

set_option maxRecDepth 100000 in
set_option maxHeartbeats 4000000 in
theorem k_power {L i kc ks : Nat} {xs : Nat → Int32} {M : mM} {J : mJ} (hL : L ≤ 384) (hi : i + 6 ≤ L) (hkc : kc ≤ room_1.cells) (hks : ks ≤ room_1.slots) (g : Rel M) (hl : ∀ N K, Rel N → VL L xs kc ks 1049 i N K) : VL L xs kc ks 616 i M J := by
  refine v_aload_n (pc := 616) dL_law_616 rfl ?_
  refine v_arg (pc := 617) (i := i) (j := 1) (n := 1) rfl rfl rfl (by omega) (by omega) (by decide) dL_law_617 dL_law_618 dL_law_619 dL_law_620 dL_law_621 ?_
  refine v_cV1i (pc := 622) dL_law_622 mkL_82 c_power ly0 rfl (Nat.le_of_ble_eq_true rfl) rfl hkc hks (fun r0 M1 J1 h1 => ?_)
  obtain ⟨e1, e2, e3⟩ := h1
  refine v_aload_n (pc := 625) dL_law_625 rfl ?_
  refine v_arg (pc := 626) (i := i) (j := 1) (n := 1) rfl rfl rfl (by omega) (by omega) (by decide) dL_law_626 dL_law_627 dL_law_628 dL_law_629 dL_law_630 ?_
  refine v_cV1i (pc := 631) dL_law_631 mkL_85 m_power ly49 rfl (Nat.le_of_ble_eq_true rfl) rfl hkc hks (fun r1 M2 J2 h2 => ?_)
  obtain ⟨f1, f2, f3⟩ := h2
  have hp := px_power g ⟨e1, e2⟩ ⟨f1, f2⟩
  refine v_icmp_eq (pc := 634) (tgt := 1049) dL_law_634 (by decide) (fun _ => ?_) (fun c_1 => absurd hp.1 c_1)
  exact hl M2 J2 hp.2

set_option maxRecDepth 100000 in
set_option maxHeartbeats 4000000 in
theorem k_held {L i kc ks : Nat} {xs : Nat → Int32} {M : mM} {J : mJ} (hL : L ≤ 384) (hi : i + 6 ≤ L) (hkc : kc ≤ room_1.cells) (hks : ks ≤ room_1.slots) (g : Rel M) (hl : ∀ N K, Rel N → VL L xs kc ks 1049 i N K) : VL L xs kc ks 639 i M J := by
  refine v_aload_n (pc := 639) dL_law_639 rfl ?_
  refine v_arg (pc := 640) (i := i) (j := 1) (n := 1) rfl rfl rfl (by omega) (by omega) (by decide) dL_law_640 dL_law_641 dL_law_642 dL_law_643 dL_law_644 ?_
  refine v_arg (pc := 645) (i := i) (j := 2) (n := 2) rfl rfl rfl (by omega) (by omega) (by decide) dL_law_645 dL_law_646 dL_law_647 dL_law_648 dL_law_649 ?_
  refine v_cV2i (pc := 650) dL_law_650 mkL_86 c_held ly0 rfl (Nat.le_of_ble_eq_true rfl) rfl hkc hks (fun r0 M1 J1 h1 => ?_)
  obtain ⟨e1, e2, e3⟩ := h1
  refine v_aload_n (pc := 653) dL_law_653 rfl ?_
  refine v_arg (pc := 654) (i := i) (j := 1) (n := 1) rfl rfl rfl (by omega) (by omega) (by decide) dL_law_654 dL_law_655 dL_law_656 dL_law_657 dL_law_658 ?_
  refine v_arg (pc := 659) (i := i) (j := 2) (n := 2) rfl rfl rfl (by omega) (by omega) (by decide) dL_law_659 dL_law_660 dL_law_661 dL_law_662 dL_law_663 ?_
  refine v_cV2i (pc := 664) dL_law_664 mkL_89 m_held ly49 rfl (Nat.le_of_ble_eq_true rfl) rfl hkc hks (fun r1 M2 J2 h2 => ?_)
  obtain ⟨f1, f2, f3⟩ := h2
  have hp := px_held g ⟨e1, e2⟩ ⟨f1, f2⟩
  refine v_icmp_eq (pc := 667) (tgt := 1049) dL_law_667 (by decide) (fun _ => ?_) (fun c_1 => absurd hp.1 c_1)
  exact hl M2 J2 hp.2

set_option maxRecDepth 100000 in
set_option maxHeartbeats 4000000 in
theorem k_hours {L i kc ks : Nat} {xs : Nat → Int32} {M : mM} {J : mJ} (hL : L ≤ 384) (hi : i + 6 ≤ L) (hkc : kc ≤ room_1.cells) (hks : ks ≤ room_1.slots) (g : Rel M) (hl : ∀ N K, Rel N → VL L xs kc ks 1049 i N K) : VL L xs kc ks 672 i M J := by
  refine v_aload_n (pc := 672) dL_law_672 rfl ?_
  refine v_arg (pc := 673) (i := i) (j := 1) (n := 1) rfl rfl rfl (by omega) (by omega) (by decide) dL_law_673 dL_law_674 dL_law_675 dL_law_676 dL_law_677 ?_
  refine v_arg (pc := 678) (i := i) (j := 2) (n := 2) rfl rfl rfl (by omega) (by omega) (by decide) dL_law_678 dL_law_679 dL_law_680 dL_law_681 dL_law_682 ?_
  refine v_cV2i (pc := 683) dL_law_683 mkL_90 c_hours ly0 rfl (Nat.le_of_ble_eq_true rfl) rfl hkc hks (fun r0 M1 J1 h1 => ?_)
  obtain ⟨e1, e2, e3⟩ := h1
  refine v_aload_n (pc := 686) dL_law_686 rfl ?_
  refine v_arg (pc := 687) (i := i) (j := 1) (n := 1) rfl rfl rfl (by omega) (by omega) (by decide) dL_law_687 dL_law_688 dL_law_689 dL_law_690 dL_law_691 ?_
  refine v_arg (pc := 692) (i := i) (j := 2) (n := 2) rfl rfl rfl (by omega) (by omega) (by decide) dL_law_692 dL_law_693 dL_law_694 dL_law_695 dL_law_696 ?_
  refine v_cV2i (pc := 697) dL_law_697 mkL_93 m_hours ly49 rfl (Nat.le_of_ble_eq_true rfl) rfl hkc hks (fun r1 M2 J2 h2 => ?_)
  obtain ⟨f1, f2, f3⟩ := h2
  have hp := px_hours g ⟨e1, e2⟩ ⟨f1, f2⟩
  refine v_icmp_eq (pc := 700) (tgt := 1049) dL_law_700 (by decide) (fun _ => ?_) (fun c_1 => absurd hp.1 c_1)
  exact hl M2 J2 hp.2

set_option maxRecDepth 100000 in
set_option maxHeartbeats 4000000 in
theorem k_orders {L i kc ks : Nat} {xs : Nat → Int32} {M : mM} {J : mJ} (hL : L ≤ 384) (hi : i + 6 ≤ L) (hkc : kc ≤ room_1.cells) (hks : ks ≤ room_1.slots) (g : Rel M) (hl : ∀ N K, Rel N → VL L xs kc ks 1049 i N K) : VL L xs kc ks 705 i M J := by
  refine v_aload_n (pc := 705) dL_law_705 rfl ?_
  refine v_arg (pc := 706) (i := i) (j := 1) (n := 1) rfl rfl rfl (by omega) (by omega) (by decide) dL_law_706 dL_law_707 dL_law_708 dL_law_709 dL_law_710 ?_
  refine v_arg (pc := 711) (i := i) (j := 2) (n := 2) rfl rfl rfl (by omega) (by omega) (by decide) dL_law_711 dL_law_712 dL_law_713 dL_law_714 dL_law_715 ?_
  refine v_cV2i (pc := 716) dL_law_716 mkL_94 c_orders ly0 rfl (Nat.le_of_ble_eq_true rfl) rfl hkc hks (fun r0 M1 J1 h1 => ?_)
  obtain ⟨e1, e2, e3⟩ := h1
  refine v_aload_n (pc := 719) dL_law_719 rfl ?_
  refine v_arg (pc := 720) (i := i) (j := 1) (n := 1) rfl rfl rfl (by omega) (by omega) (by decide) dL_law_720 dL_law_721 dL_law_722 dL_law_723 dL_law_724 ?_
  refine v_arg (pc := 725) (i := i) (j := 2) (n := 2) rfl rfl rfl (by omega) (by omega) (by decide) dL_law_725 dL_law_726 dL_law_727 dL_law_728 dL_law_729 ?_
  refine v_cV2i (pc := 730) dL_law_730 mkL_97 m_orders ly49 rfl (Nat.le_of_ble_eq_true rfl) rfl hkc hks (fun r1 M2 J2 h2 => ?_)
  obtain ⟨f1, f2, f3⟩ := h2
  have hp := px_orders g ⟨e1, e2⟩ ⟨f1, f2⟩
  refine v_icmp_eq (pc := 733) (tgt := 1049) dL_law_733 (by decide) (fun _ => ?_) (fun c_1 => absurd hp.1 c_1)
  exact hl M2 J2 hp.2

set_option maxRecDepth 100000 in
set_option maxHeartbeats 4000000 in
theorem k_seen {L i kc ks : Nat} {xs : Nat → Int32} {M : mM} {J : mJ} (hL : L ≤ 384) (hi : i + 6 ≤ L) (hkc : kc ≤ room_1.cells) (hks : ks ≤ room_1.slots) (g : Rel M) (hl : ∀ N K, Rel N → VL L xs kc ks 1049 i N K) : VL L xs kc ks 738 i M J := by
  refine v_aload_n (pc := 738) dL_law_738 rfl ?_
  refine v_arg (pc := 739) (i := i) (j := 1) (n := 1) rfl rfl rfl (by omega) (by omega) (by decide) dL_law_739 dL_law_740 dL_law_741 dL_law_742 dL_law_743 ?_
  refine v_arg (pc := 744) (i := i) (j := 2) (n := 2) rfl rfl rfl (by omega) (by omega) (by decide) dL_law_744 dL_law_745 dL_law_746 dL_law_747 dL_law_748 ?_
  refine v_arg (pc := 749) (i := i) (j := 3) (n := 3) rfl rfl rfl (by omega) (by omega) (by decide) dL_law_749 dL_law_750 dL_law_751 dL_law_752 dL_law_753 ?_
  obtain ⟨n, s1, s2, s3, s4⟩ := R_sg g
  refine v_cV3i (pc := 754) dL_law_754 mkL_98 (c_seen s1 s3) ly0 rfl (Nat.le_of_ble_eq_true rfl) rfl hkc hks (fun r0 M1 J1 h1 => ?_)
  obtain ⟨e1, e2, e3⟩ := h1
  have e49 : M1 49 = M 49 := by
    rw [e2]
    split
    · split
      · unfold fSeen
        rw [mU_ne _ (by decide), mU_ne _ (by decide), mU_ne _ (by decide), mU_ne _ (by decide)]
      · rfl
    · rfl
  refine v_aload_n (pc := 757) dL_law_757 rfl ?_
  refine v_arg (pc := 758) (i := i) (j := 1) (n := 1) rfl rfl rfl (by omega) (by omega) (by decide) dL_law_758 dL_law_759 dL_law_760 dL_law_761 dL_law_762 ?_
  refine v_arg (pc := 763) (i := i) (j := 2) (n := 2) rfl rfl rfl (by omega) (by omega) (by decide) dL_law_763 dL_law_764 dL_law_765 dL_law_766 dL_law_767 ?_
  refine v_arg (pc := 768) (i := i) (j := 3) (n := 3) rfl rfl rfl (by omega) (by omega) (by decide) dL_law_768 dL_law_769 dL_law_770 dL_law_771 dL_law_772 ?_
  refine v_cV3i (pc := 773) dL_law_773 mkL_101 (m_seen (c := n) (by rw [e49]; exact s2) s3) ly49 rfl (Nat.le_of_ble_eq_true rfl) rfl hkc hks (fun r1 M2 J2 h2 => ?_)
  obtain ⟨f1, f2, f3⟩ := h2
  have hp := px_seen s1 s3 (by rw [e49]; exact s2) s3 g ⟨e1, e2⟩ ⟨f1, f2⟩
  refine v_icmp_eq (pc := 776) (tgt := 1049) dL_law_776 (by decide) (fun _ => ?_) (fun c_1 => absurd hp.1 c_1)
  exact hl M2 J2 hp.2

set_option maxRecDepth 100000 in
set_option maxHeartbeats 4000000 in
theorem k_forget {L i kc ks : Nat} {xs : Nat → Int32} {M : mM} {J : mJ} (hL : L ≤ 384) (hi : i + 6 ≤ L) (hkc : kc ≤ room_1.cells) (hks : ks ≤ room_1.slots) (g : Rel M) (hl : ∀ N K, Rel N → VL L xs kc ks 1049 i N K) : VL L xs kc ks 781 i M J := by
  refine v_aload_n (pc := 781) dL_law_781 rfl ?_
  refine v_cV0i (pc := 782) dL_law_782 mkL_102 c_forget ly0 rfl (Nat.le_of_ble_eq_true rfl) rfl hkc hks (fun r0 M1 J1 h1 => ?_)
  obtain ⟨e1, e2, e3⟩ := h1
  refine v_aload_n (pc := 785) dL_law_785 rfl ?_
  refine v_cV0i (pc := 786) dL_law_786 mkL_105 m_forget ly49 rfl (Nat.le_of_ble_eq_true rfl) rfl hkc hks (fun r1 M2 J2 h2 => ?_)
  obtain ⟨f1, f2, f3⟩ := h2
  have hp := px_forget g ⟨e1, e2⟩ ⟨f1, f2⟩
  refine v_icmp_eq (pc := 789) (tgt := 1049) dL_law_789 (by decide) (fun _ => ?_) (fun c_1 => absurd hp.1 c_1)
  exact hl M2 J2 hp.2

set_option maxRecDepth 100000 in
set_option maxHeartbeats 4000000 in
theorem k_whose {L i kc ks : Nat} {xs : Nat → Int32} {M : mM} {J : mJ} (hL : L ≤ 384) (hi : i + 6 ≤ L) (hkc : kc ≤ room_1.cells) (hks : ks ≤ room_1.slots) (g : Rel M) (hl : ∀ N K, Rel N → VL L xs kc ks 1049 i N K) : VL L xs kc ks 794 i M J := by
  refine v_aload_n (pc := 794) dL_law_794 rfl ?_
  obtain ⟨n, s1, s2, s3, s4⟩ := R_sg g
  refine v_cV0i (pc := 795) dL_law_795 mkL_106 (c_whose s1 s3) ly0 rfl (Nat.le_of_ble_eq_true rfl) rfl hkc hks (fun r0 M1 J1 h1 => ?_)
  obtain ⟨e1, e2, e3⟩ := h1
  have hs : ∀ i, i < n → 1 ≤ M1 52 (0 + 3 * i) := fun i hi => by
    rw [e2, ← (s4 i hi).1]
    exact (s4 i hi).2.2.2
  refine v_aload_n (pc := 798) dL_law_798 rfl ?_
  refine v_cV0i (pc := 799) dL_law_799 mkL_109 (m_whose (c := n) (by rw [e2]; exact s2) s3 hs) ly49 rfl (Nat.le_of_ble_eq_true rfl) rfl hkc hks (fun r1 M2 J2 h2 => ?_)
  obtain ⟨f1, f2, f3⟩ := h2
  have hp := px_whose s1 s3 (by rw [e2]; exact s2) s3 hs g ⟨e1, e2⟩ ⟨f1, f2⟩
  refine v_icmp_eq (pc := 802) (tgt := 1049) dL_law_802 (by decide) (fun _ => ?_) (fun c_1 => absurd hp.1 c_1)
  exact hl M2 J2 hp.2

set_option maxRecDepth 100000 in
set_option maxHeartbeats 4000000 in
theorem k_alike {L i kc ks : Nat} {xs : Nat → Int32} {M : mM} {J : mJ} (hL : L ≤ 384) (hi : i + 6 ≤ L) (hkc : kc ≤ room_1.cells) (hks : ks ≤ room_1.slots) (g : Rel M) (hl : ∀ N K, Rel N → VL L xs kc ks 1049 i N K) : VL L xs kc ks 807 i M J := by
  refine v_aload_n (pc := 807) dL_law_807 rfl ?_
  refine v_arg (pc := 808) (i := i) (j := 1) (n := 1) rfl rfl rfl (by omega) (by omega) (by decide) dL_law_808 dL_law_809 dL_law_810 dL_law_811 dL_law_812 ?_
  obtain ⟨n, s1, s2, s3, s4⟩ := R_sg g
  refine v_cV1i (pc := 813) dL_law_813 mkL_110 (c_alike s1 s3) ly0 rfl (Nat.le_of_ble_eq_true rfl) rfl hkc hks (fun r0 M1 J1 h1 => ?_)
  obtain ⟨e1, e2, e3⟩ := h1
  have hs : ∀ i, i < n → 1 ≤ M1 52 (0 + 3 * i) := fun i hi => by
    rw [e2, ← (s4 i hi).1]
    exact (s4 i hi).2.2.2
  refine v_aload_n (pc := 816) dL_law_816 rfl ?_
  refine v_arg (pc := 817) (i := i) (j := 1) (n := 1) rfl rfl rfl (by omega) (by omega) (by decide) dL_law_817 dL_law_818 dL_law_819 dL_law_820 dL_law_821 ?_
  refine v_cV1i (pc := 822) dL_law_822 mkL_113 (m_alike (c := n) (by rw [e2]; exact s2) s3 hs) ly49 rfl (Nat.le_of_ble_eq_true rfl) rfl hkc hks (fun r1 M2 J2 h2 => ?_)
  obtain ⟨f1, f2, f3⟩ := h2
  have hp := px_alike s1 s3 (by rw [e2]; exact s2) s3 hs g ⟨e1, e2⟩ ⟨f1, f2⟩
  refine v_icmp_eq (pc := 825) (tgt := 1049) dL_law_825 (by decide) (fun _ => ?_) (fun c_1 => absurd hp.1 c_1)
  exact hl M2 J2 hp.2

set_option maxRecDepth 100000 in
set_option maxHeartbeats 4000000 in
theorem k_fili {L i kc ks : Nat} {xs : Nat → Int32} {M : mM} {J : mJ} (hL : L ≤ 384) (hi : i + 6 ≤ L) (hkc : kc ≤ room_1.cells) (hks : ks ≤ room_1.slots) (g : Rel M) (hl : ∀ N K, Rel N → VL L xs kc ks 1049 i N K) : VL L xs kc ks 830 i M J := by
  refine v_aload_n (pc := 830) dL_law_830 rfl ?_
  refine v_arg (pc := 831) (i := i) (j := 1) (n := 1) rfl rfl rfl (by omega) (by omega) (by decide) dL_law_831 dL_law_832 dL_law_833 dL_law_834 dL_law_835 ?_
  refine v_arg (pc := 836) (i := i) (j := 2) (n := 2) rfl rfl rfl (by omega) (by omega) (by decide) dL_law_836 dL_law_837 dL_law_838 dL_law_839 dL_law_840 ?_
  refine v_arg (pc := 841) (i := i) (j := 3) (n := 3) rfl rfl rfl (by omega) (by omega) (by decide) dL_law_841 dL_law_842 dL_law_843 dL_law_844 dL_law_845 ?_
  refine v_cV3i (pc := 846) dL_law_846 mkL_114 c_fili ly0 rfl (Nat.le_of_ble_eq_true rfl) rfl hkc hks (fun r0 M1 J1 h1 => ?_)
  obtain ⟨e1, e2, e3⟩ := h1
  refine v_aload_n (pc := 849) dL_law_849 rfl ?_
  refine v_arg (pc := 850) (i := i) (j := 1) (n := 1) rfl rfl rfl (by omega) (by omega) (by decide) dL_law_850 dL_law_851 dL_law_852 dL_law_853 dL_law_854 ?_
  refine v_arg (pc := 855) (i := i) (j := 2) (n := 2) rfl rfl rfl (by omega) (by omega) (by decide) dL_law_855 dL_law_856 dL_law_857 dL_law_858 dL_law_859 ?_
  refine v_arg (pc := 860) (i := i) (j := 3) (n := 3) rfl rfl rfl (by omega) (by omega) (by decide) dL_law_860 dL_law_861 dL_law_862 dL_law_863 dL_law_864 ?_
  refine v_cV3i (pc := 865) dL_law_865 mkL_117 m_fili ly49 rfl (Nat.le_of_ble_eq_true rfl) rfl hkc hks (fun r1 M2 J2 h2 => ?_)
  obtain ⟨f1, f2, f3⟩ := h2
  have hp := px_fili g ⟨e1, e2⟩ ⟨f1, f2⟩
  refine v_icmp_eq (pc := 868) (tgt := 1049) dL_law_868 (by decide) (fun _ => ?_) (fun c_1 => absurd hp.1 c_1)
  exact hl M2 J2 hp.2

set_option maxRecDepth 100000 in
set_option maxHeartbeats 4000000 in
theorem k_breaks {L i kc ks : Nat} {xs : Nat → Int32} {M : mM} {J : mJ} (hL : L ≤ 384) (hi : i + 6 ≤ L) (hkc : kc ≤ room_1.cells) (hks : ks ≤ room_1.slots) (g : Rel M) (hl : ∀ N K, Rel N → VL L xs kc ks 1049 i N K) : VL L xs kc ks 873 i M J := by
  refine v_aload_n (pc := 873) dL_law_873 rfl ?_
  refine v_arg (pc := 874) (i := i) (j := 1) (n := 1) rfl rfl rfl (by omega) (by omega) (by decide) dL_law_874 dL_law_875 dL_law_876 dL_law_877 dL_law_878 ?_
  refine v_arg (pc := 879) (i := i) (j := 2) (n := 2) rfl rfl rfl (by omega) (by omega) (by decide) dL_law_879 dL_law_880 dL_law_881 dL_law_882 dL_law_883 ?_
  refine v_arg (pc := 884) (i := i) (j := 3) (n := 3) rfl rfl rfl (by omega) (by omega) (by decide) dL_law_884 dL_law_885 dL_law_886 dL_law_887 dL_law_888 ?_
  refine v_arg (pc := 889) (i := i) (j := 4) (n := 4) rfl rfl rfl (by omega) (by omega) (by decide) dL_law_889 dL_law_890 dL_law_891 dL_law_892 dL_law_893 ?_
  refine v_arg (pc := 894) (i := i) (j := 5) (n := 5) rfl rfl rfl (by omega) (by omega) (by decide) dL_law_894 dL_law_895 dL_law_896 dL_law_897 dL_law_898 ?_
  refine v_cV5l (pc := 899) dL_law_899 mkL_118 c_breaks ly0 rfl (Nat.le_of_ble_eq_true rfl) rfl hkc hks (fun r0 M1 J1 h1 => ?_)
  obtain ⟨e1, e2, e3⟩ := h1
  refine v_aload_n (pc := 902) dL_law_902 rfl ?_
  refine v_arg (pc := 903) (i := i) (j := 1) (n := 1) rfl rfl rfl (by omega) (by omega) (by decide) dL_law_903 dL_law_904 dL_law_905 dL_law_906 dL_law_907 ?_
  refine v_arg (pc := 908) (i := i) (j := 2) (n := 2) rfl rfl rfl (by omega) (by omega) (by decide) dL_law_908 dL_law_909 dL_law_910 dL_law_911 dL_law_912 ?_
  refine v_arg (pc := 913) (i := i) (j := 3) (n := 3) rfl rfl rfl (by omega) (by omega) (by decide) dL_law_913 dL_law_914 dL_law_915 dL_law_916 dL_law_917 ?_
  refine v_arg (pc := 918) (i := i) (j := 4) (n := 4) rfl rfl rfl (by omega) (by omega) (by decide) dL_law_918 dL_law_919 dL_law_920 dL_law_921 dL_law_922 ?_
  refine v_arg (pc := 923) (i := i) (j := 5) (n := 5) rfl rfl rfl (by omega) (by omega) (by decide) dL_law_923 dL_law_924 dL_law_925 dL_law_926 dL_law_927 ?_
  refine v_cV5l (pc := 928) dL_law_928 mkL_122 (m_breaks (fun h => (br_eq (M := M1) (J := J) h).1)) ly49 rfl (Nat.le_of_ble_eq_true rfl) rfl hkc hks (fun r1 M2 J2 h2 => ?_)
  obtain ⟨f1, f2, f3⟩ := h2
  have hp := px_breaks (J := J) (fun h => (br_eq (M := M1) (J := J) h).1) g ⟨e1, e2⟩ ⟨f1, f2⟩
  refine v_lcmp (pc := 931) dL_law_931 ?_
  refine v_if_eq (pc := 932) (tgt := 1049) dL_law_932 (by decide) (fun _ => ?_) (fun c_1 => absurd (by rw [hp.1]; exact lg_self r1) c_1)
  exact hl M2 J2 hp.2

set_option maxRecDepth 100000 in
set_option maxHeartbeats 4000000 in
theorem k_day {L i kc ks : Nat} {xs : Nat → Int32} {M : mM} {J : mJ} (hL : L ≤ 384) (hi : i + 6 ≤ L) (hkc : kc ≤ room_1.cells) (hks : ks ≤ room_1.slots) (g : Rel M) (hl : ∀ N K, Rel N → VL L xs kc ks 1049 i N K) : VL L xs kc ks 937 i M J := by
  refine v_aload_n (pc := 937) dL_law_937 rfl ?_
  refine v_arg (pc := 938) (i := i) (j := 1) (n := 1) rfl rfl rfl (by omega) (by omega) (by decide) dL_law_938 dL_law_939 dL_law_940 dL_law_941 dL_law_942 ?_
  refine v_arg (pc := 943) (i := i) (j := 2) (n := 2) rfl rfl rfl (by omega) (by omega) (by decide) dL_law_943 dL_law_944 dL_law_945 dL_law_946 dL_law_947 ?_
  refine v_arg (pc := 948) (i := i) (j := 3) (n := 3) rfl rfl rfl (by omega) (by omega) (by decide) dL_law_948 dL_law_949 dL_law_950 dL_law_951 dL_law_952 ?_
  refine v_cV3i (pc := 953) dL_law_953 mkL_123 (c_day (R_WFn g)) ly0 rfl (Nat.le_of_ble_eq_true rfl) rfl hkc hks (fun r0 M1 J1 h1 => ?_)
  obtain ⟨e1, e2, e3⟩ := h1
  have e53 : M1 53 = M 53 := by
    rw [e2]
    split
    · exact dayP_ne (by omega) _
    · rfl
  refine v_aload_n (pc := 956) dL_law_956 rfl ?_
  refine v_arg (pc := 957) (i := i) (j := 1) (n := 1) rfl rfl rfl (by omega) (by omega) (by decide) dL_law_957 dL_law_958 dL_law_959 dL_law_960 dL_law_961 ?_
  refine v_arg (pc := 962) (i := i) (j := 2) (n := 2) rfl rfl rfl (by omega) (by omega) (by decide) dL_law_962 dL_law_963 dL_law_964 dL_law_965 dL_law_966 ?_
  refine v_arg (pc := 967) (i := i) (j := 3) (n := 3) rfl rfl rfl (by omega) (by omega) (by decide) dL_law_967 dL_law_968 dL_law_969 dL_law_970 dL_law_971 ?_
  refine v_cV3i (pc := 972) dL_law_972 mkL_126 (m_day (WNb_c e53 (R_WNb g))) ly49 rfl (Nat.le_of_ble_eq_true rfl) rfl hkc hks (fun r1 M2 J2 h2 => ?_)
  obtain ⟨f1, f2, f3⟩ := h2
  have hp := px_day (R_WFn g) (WNb_c e53 (R_WNb g)) g ⟨e1, e2⟩ ⟨f1, f2⟩
  refine v_icmp_eq (pc := 975) (tgt := 1049) dL_law_975 (by decide) (fun _ => ?_) (fun c_1 => absurd hp.1 c_1)
  exact hl M2 J2 hp.2

set_option maxRecDepth 100000 in
set_option maxHeartbeats 4000000 in
theorem k_image0 {L i kc ks : Nat} {xs : Nat → Int32} {M : mM} {J : mJ} (hL : L ≤ 384) (hi : i + 6 ≤ L) (hkc : kc ≤ room_1.cells) (hks : ks ≤ room_1.slots) (g : Rel M) (hl : ∀ N K, Rel N → VL L xs kc ks 1049 i N K) (hx : xs (i + 1) = 0) : VL L xs kc ks 980 i M J := by
  refine v_aload_n (pc := 980) dL_law_980 rfl ?_
  refine v_arg (pc := 981) (i := i) (j := 1) (n := 1) rfl rfl rfl (by omega) (by omega) (by decide) dL_law_981 dL_law_982 dL_law_983 dL_law_984 dL_law_985 ?_
  rw [hx]
  refine v_cV1i (pc := 986) dL_law_986 mkL_127 c_image0 ly0 rfl (Nat.le_of_ble_eq_true rfl) rfl hkc hks (fun r0 M1 J1 h1 => ?_)
  obtain ⟨e1, e2, e3⟩ := h1
  refine v_aload_n (pc := 989) dL_law_989 rfl ?_
  refine v_arg (pc := 990) (i := i) (j := 1) (n := 1) rfl rfl rfl (by omega) (by omega) (by decide) dL_law_990 dL_law_991 dL_law_992 dL_law_993 dL_law_994 ?_
  rw [hx]
  refine v_cV1i (pc := 995) dL_law_995 mkL_130 (m_image (k := 0) (by omega)) ly49 rfl (Nat.le_of_ble_eq_true rfl) rfl hkc hks (fun r1 M2 J2 h2 => ?_)
  obtain ⟨f1, f2, f3⟩ := h2
  have hp := (⟨e1.trans f1.symm, px_image (h := 14) (k := 0) g (by omega) e2 f2⟩ : r0 = r1 ∧ Rel M2)
  refine v_icmp_eq (pc := 998) (tgt := 1049) dL_law_998 (by decide) (fun _ => ?_) (fun c_1 => absurd hp.1 c_1)
  exact hl M2 J2 hp.2

set_option maxRecDepth 100000 in
set_option maxHeartbeats 4000000 in
theorem k_image1 {L i kc ks : Nat} {xs : Nat → Int32} {M : mM} {J : mJ} (hL : L ≤ 384) (hi : i + 6 ≤ L) (hkc : kc ≤ room_1.cells) (hks : ks ≤ room_1.slots) (g : Rel M) (hl : ∀ N K, Rel N → VL L xs kc ks 1049 i N K) (hx : xs (i + 1) = 1) : VL L xs kc ks 980 i M J := by
  refine v_aload_n (pc := 980) dL_law_980 rfl ?_
  refine v_arg (pc := 981) (i := i) (j := 1) (n := 1) rfl rfl rfl (by omega) (by omega) (by decide) dL_law_981 dL_law_982 dL_law_983 dL_law_984 dL_law_985 ?_
  rw [hx]
  refine v_cV1i (pc := 986) dL_law_986 mkL_127 c_image1 ly0 rfl (Nat.le_of_ble_eq_true rfl) rfl hkc hks (fun r0 M1 J1 h1 => ?_)
  obtain ⟨e1, e2, e3⟩ := h1
  refine v_aload_n (pc := 989) dL_law_989 rfl ?_
  refine v_arg (pc := 990) (i := i) (j := 1) (n := 1) rfl rfl rfl (by omega) (by omega) (by decide) dL_law_990 dL_law_991 dL_law_992 dL_law_993 dL_law_994 ?_
  rw [hx]
  refine v_cV1i (pc := 995) dL_law_995 mkL_130 (m_image (k := 1) (by omega)) ly49 rfl (Nat.le_of_ble_eq_true rfl) rfl hkc hks (fun r1 M2 J2 h2 => ?_)
  obtain ⟨f1, f2, f3⟩ := h2
  have hp := (⟨e1.trans f1.symm, px_image (h := 26) (k := 1) g (by omega) e2 f2⟩ : r0 = r1 ∧ Rel M2)
  refine v_icmp_eq (pc := 998) (tgt := 1049) dL_law_998 (by decide) (fun _ => ?_) (fun c_1 => absurd hp.1 c_1)
  exact hl M2 J2 hp.2

set_option maxRecDepth 100000 in
set_option maxHeartbeats 4000000 in
theorem k_imageO {L i kc ks : Nat} {xs : Nat → Int32} {M : mM} {J : mJ} (hL : L ≤ 384) (hi : i + 6 ≤ L) (hkc : kc ≤ room_1.cells) (hks : ks ≤ room_1.slots) (g : Rel M) (hl : ∀ N K, Rel N → VL L xs kc ks 1049 i N K) (hx : ¬ (0 ≤ xs (i + 1) ∧ xs (i + 1) ≤ 1)) : VL L xs kc ks 980 i M J := by
  refine v_aload_n (pc := 980) dL_law_980 rfl ?_
  refine v_arg (pc := 981) (i := i) (j := 1) (n := 1) rfl rfl rfl (by omega) (by omega) (by decide) dL_law_981 dL_law_982 dL_law_983 dL_law_984 dL_law_985 ?_
  refine v_cV1i (pc := 986) dL_law_986 mkL_127 (c_imageO hx) ly0 rfl (Nat.le_of_ble_eq_true rfl) rfl hkc hks (fun r0 M1 J1 h1 => ?_)
  obtain ⟨e1, e2, e3⟩ := h1
  refine v_aload_n (pc := 989) dL_law_989 rfl ?_
  refine v_arg (pc := 990) (i := i) (j := 1) (n := 1) rfl rfl rfl (by omega) (by omega) (by decide) dL_law_990 dL_law_991 dL_law_992 dL_law_993 dL_law_994 ?_
  refine v_cV1i (pc := 995) dL_law_995 mkL_130 (m_imageO hx) ly49 rfl (Nat.le_of_ble_eq_true rfl) rfl hkc hks (fun r1 M2 J2 h2 => ?_)
  obtain ⟨f1, f2, f3⟩ := h2
  have hp := (⟨e1.trans f1.symm, by rw [f2, e2]; exact g⟩ : r0 = r1 ∧ Rel M2)
  refine v_icmp_eq (pc := 998) (tgt := 1049) dL_law_998 (by decide) (fun _ => ?_) (fun c_1 => absurd hp.1 c_1)
  exact hl M2 J2 hp.2

theorem k_image {L i kc ks : Nat} {xs : Nat → Int32} {M : mM} {J : mJ} (hL : L ≤ 384) (hi : i + 6 ≤ L) (hkc : kc ≤ room_1.cells) (hks : ks ≤ room_1.slots) (g : Rel M) (hl : ∀ N K, Rel N → VL L xs kc ks 1049 i N K) : VL L xs kc ks 980 i M J := by
  by_cases hx : 0 ≤ xs (i + 1) ∧ xs (i + 1) ≤ 1
  · rcases two_cases hx with h | h
    · exact k_image0 hL hi hkc hks g hl h
    · exact k_image1 hL hi hkc hks g hl h
  · exact k_imageO hL hi hkc hks g hl hx

set_option maxRecDepth 100000 in
set_option maxHeartbeats 4000000 in
theorem k_restore0 {L i kc ks : Nat} {xs : Nat → Int32} {M : mM} {J : mJ} (hL : L ≤ 384) (hi : i + 6 ≤ L) (hkc : kc ≤ room_1.cells) (hks : ks ≤ room_1.slots) (g : Rel M) (hl : ∀ N K, Rel N → VL L xs kc ks 1049 i N K) (hx : xs (i + 1) = 0) : VL L xs kc ks 1003 i M J := by
  refine v_aload_n (pc := 1003) dL_law_1003 rfl ?_
  refine v_arg (pc := 1004) (i := i) (j := 1) (n := 1) rfl rfl rfl (by omega) (by omega) (by decide) dL_law_1004 dL_law_1005 dL_law_1006 dL_law_1007 dL_law_1008 ?_
  rw [hx]
  refine v_cV1i (pc := 1009) dL_law_1009 mkL_131 c_restore0 ly0 rfl (Nat.le_of_ble_eq_true rfl) rfl hkc hks (fun r0 M1 J1 h1 => ?_)
  obtain ⟨e1, e2, e3⟩ := h1
  refine v_aload_n (pc := 1012) dL_law_1012 rfl ?_
  refine v_arg (pc := 1013) (i := i) (j := 1) (n := 1) rfl rfl rfl (by omega) (by omega) (by decide) dL_law_1013 dL_law_1014 dL_law_1015 dL_law_1016 dL_law_1017 ?_
  rw [hx]
  refine v_cV1i (pc := 1018) dL_law_1018 mkL_134 (m_restore (k := 0) (by omega)) ly49 rfl (Nat.le_of_ble_eq_true rfl) rfl hkc hks (fun r1 M2 J2 h2 => ?_)
  obtain ⟨f1, f2, f3⟩ := h2
  have hp := px_restore (h := 14) (k := 0) g (by omega) ⟨e1, e2⟩ ⟨f1, f2⟩
  refine v_icmp_eq (pc := 1021) (tgt := 1049) dL_law_1021 (by decide) (fun _ => ?_) (fun c_1 => absurd hp.1 c_1)
  exact hl M2 J2 hp.2

set_option maxRecDepth 100000 in
set_option maxHeartbeats 4000000 in
theorem k_restore1 {L i kc ks : Nat} {xs : Nat → Int32} {M : mM} {J : mJ} (hL : L ≤ 384) (hi : i + 6 ≤ L) (hkc : kc ≤ room_1.cells) (hks : ks ≤ room_1.slots) (g : Rel M) (hl : ∀ N K, Rel N → VL L xs kc ks 1049 i N K) (hx : xs (i + 1) = 1) : VL L xs kc ks 1003 i M J := by
  refine v_aload_n (pc := 1003) dL_law_1003 rfl ?_
  refine v_arg (pc := 1004) (i := i) (j := 1) (n := 1) rfl rfl rfl (by omega) (by omega) (by decide) dL_law_1004 dL_law_1005 dL_law_1006 dL_law_1007 dL_law_1008 ?_
  rw [hx]
  refine v_cV1i (pc := 1009) dL_law_1009 mkL_131 c_restore1 ly0 rfl (Nat.le_of_ble_eq_true rfl) rfl hkc hks (fun r0 M1 J1 h1 => ?_)
  obtain ⟨e1, e2, e3⟩ := h1
  refine v_aload_n (pc := 1012) dL_law_1012 rfl ?_
  refine v_arg (pc := 1013) (i := i) (j := 1) (n := 1) rfl rfl rfl (by omega) (by omega) (by decide) dL_law_1013 dL_law_1014 dL_law_1015 dL_law_1016 dL_law_1017 ?_
  rw [hx]
  refine v_cV1i (pc := 1018) dL_law_1018 mkL_134 (m_restore (k := 1) (by omega)) ly49 rfl (Nat.le_of_ble_eq_true rfl) rfl hkc hks (fun r1 M2 J2 h2 => ?_)
  obtain ⟨f1, f2, f3⟩ := h2
  have hp := px_restore (h := 26) (k := 1) g (by omega) ⟨e1, e2⟩ ⟨f1, f2⟩
  refine v_icmp_eq (pc := 1021) (tgt := 1049) dL_law_1021 (by decide) (fun _ => ?_) (fun c_1 => absurd hp.1 c_1)
  exact hl M2 J2 hp.2

set_option maxRecDepth 100000 in
set_option maxHeartbeats 4000000 in
theorem k_restoreO {L i kc ks : Nat} {xs : Nat → Int32} {M : mM} {J : mJ} (hL : L ≤ 384) (hi : i + 6 ≤ L) (hkc : kc ≤ room_1.cells) (hks : ks ≤ room_1.slots) (g : Rel M) (hl : ∀ N K, Rel N → VL L xs kc ks 1049 i N K) (hx : ¬ (0 ≤ xs (i + 1) ∧ xs (i + 1) ≤ 1)) : VL L xs kc ks 1003 i M J := by
  refine v_aload_n (pc := 1003) dL_law_1003 rfl ?_
  refine v_arg (pc := 1004) (i := i) (j := 1) (n := 1) rfl rfl rfl (by omega) (by omega) (by decide) dL_law_1004 dL_law_1005 dL_law_1006 dL_law_1007 dL_law_1008 ?_
  refine v_cV1i (pc := 1009) dL_law_1009 mkL_131 (c_restoreO hx) ly0 rfl (Nat.le_of_ble_eq_true rfl) rfl hkc hks (fun r0 M1 J1 h1 => ?_)
  obtain ⟨e1, e2, e3⟩ := h1
  refine v_aload_n (pc := 1012) dL_law_1012 rfl ?_
  refine v_arg (pc := 1013) (i := i) (j := 1) (n := 1) rfl rfl rfl (by omega) (by omega) (by decide) dL_law_1013 dL_law_1014 dL_law_1015 dL_law_1016 dL_law_1017 ?_
  refine v_cV1i (pc := 1018) dL_law_1018 mkL_134 (m_restoreO hx) ly49 rfl (Nat.le_of_ble_eq_true rfl) rfl hkc hks (fun r1 M2 J2 h2 => ?_)
  obtain ⟨f1, f2, f3⟩ := h2
  have hp := (⟨e1.trans f1.symm, by rw [f2, e2]; exact g⟩ : r0 = r1 ∧ Rel M2)
  refine v_icmp_eq (pc := 1021) (tgt := 1049) dL_law_1021 (by decide) (fun _ => ?_) (fun c_1 => absurd hp.1 c_1)
  exact hl M2 J2 hp.2

theorem k_restore {L i kc ks : Nat} {xs : Nat → Int32} {M : mM} {J : mJ} (hL : L ≤ 384) (hi : i + 6 ≤ L) (hkc : kc ≤ room_1.cells) (hks : ks ≤ room_1.slots) (g : Rel M) (hl : ∀ N K, Rel N → VL L xs kc ks 1049 i N K) : VL L xs kc ks 1003 i M J := by
  by_cases hx : 0 ≤ xs (i + 1) ∧ xs (i + 1) ≤ 1
  · rcases two_cases hx with h | h
    · exact k_restore0 hL hi hkc hks g hl h
    · exact k_restore1 hL hi hkc hks g hl h
  · exact k_restoreO hL hi hkc hks g hl hx

set_option maxRecDepth 100000 in
set_option maxHeartbeats 4000000 in
theorem k_told {L i kc ks : Nat} {xs : Nat → Int32} {M : mM} {J : mJ} (hL : L ≤ 384) (hi : i + 6 ≤ L) (hkc : kc ≤ room_1.cells) (hks : ks ≤ room_1.slots) (g : Rel M) (hl : ∀ N K, Rel N → VL L xs kc ks 1049 i N K) : VL L xs kc ks 1026 i M J := by
  refine v_aload_n (pc := 1026) dL_law_1026 rfl ?_
  refine v_arg (pc := 1027) (i := i) (j := 1) (n := 1) rfl rfl rfl (by omega) (by omega) (by decide) dL_law_1027 dL_law_1028 dL_law_1029 dL_law_1030 dL_law_1031 ?_
  refine v_cV1i (pc := 1032) dL_law_1032 mkL_135 c_told ly0 rfl (Nat.le_of_ble_eq_true rfl) rfl hkc hks (fun r0 M1 J1 h1 => ?_)
  obtain ⟨e1, e2, e3⟩ := h1
  refine v_aload_n (pc := 1035) dL_law_1035 rfl ?_
  refine v_arg (pc := 1036) (i := i) (j := 1) (n := 1) rfl rfl rfl (by omega) (by omega) (by decide) dL_law_1036 dL_law_1037 dL_law_1038 dL_law_1039 dL_law_1040 ?_
  refine v_cV1i (pc := 1041) dL_law_1041 mkL_138 m_told ly49 rfl (Nat.le_of_ble_eq_true rfl) rfl hkc hks (fun r1 M2 J2 h2 => ?_)
  obtain ⟨f1, f2, f3⟩ := h2
  have hp := px_told g ⟨e1, e2⟩ ⟨f1, f2⟩
  refine v_icmp_eq (pc := 1044) (tgt := 1049) dL_law_1044 (by decide) (fun _ => ?_) (fun c_1 => absurd hp.1 c_1)
  exact hl M2 J2 hp.2
