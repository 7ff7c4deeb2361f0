/-! the model: breaks -/
def tenP (n : Nat) : Int64 := itN (fun _ a => a * 10) 1 n
def bkZ (z : Int32) (i : Nat) (A : mM) : mM := mU A 57 (i + 1) (if nI (i + 1) = z then 1 else 0)
def bkJ (w j : Nat) (A : mM) : mM := if bt (nI w) (nI j) then bkA A else A
def bkW (z : Int32) (m w : Nat) (A : mM) : mM := itN (bkJ w) (itN (bkZ z) A 9) m
def wt1 (t : Int32) (w j : Nat) (a : Int64) : Int64 := if bt (nI w) (nI j) then a * t.toInt64 else a * (10 - t).toInt64
def wtW (t : Int32) (w m : Nat) : Int64 := itN (wt1 t w) 1 m
abbrev ctA (A : mM) : Int32 := itN (cnA (A 57)) 0 9
def sm1 (z t u : Int32) (m w : Nat) (p : Int64 × mM) : Int64 × mM := (if u = 0 then p.1 + wtW t w m * (ctA (bkW z m w p.2)).toInt64 else if ctA (bkW z m w p.2) = bkW z m w p.2 57 1 then p.1 + wtW t w m else p.1 + 0, bkW z m w p.2)
def smP (z t u : Int32) (m : Nat) (M : mM) (n : Nat) : Int64 × mM := itN (sm1 z t u m) (0, M) n
def gcG : Nat → Int64 → Int64 → Int64
  | 0, _, _ => 0
  | f + 1, a, b => if b = 0 then a else gcG f b (a - a / b * b)
theorem lg0 {b : Int64} : lg_cmp b 0 = 0 ↔ b = 0 := by
  unfold lg_cmp
  constructor
  · intro h
    split at h
    · exact absurd h (by decide)
    · split at h
      · assumption
      · exact absurd h (by decide)
  · rintro rfl
    rfl

set_option maxRecDepth 100000 in
set_option maxHeartbeats 300000 in
theorem lm_gc {x y z u v : Int32} {S T : Int64} {M : mM} {J : mJ} : ∀ (f : Nat) (a b : Int64) (l14 : Option Value), ¬ gcG f a b = 0 → V RX7 cX7_breaks 16 (some .long) false (rmD 2) false LY.length none (mNl LY (fun r0 M1 J1 => r0 = (if v = 0 then S / gcG f a b else T / gcG f a b) ∧ M1 = M ∧ J1 = J)) 0 0 239 [some (.ref 49), some (.int x), some (.int y), some (.int z), some (.int u), some (.int v), some (.long S), none, some (.long T), none, some (.long a), none, some (.long b), none, l14, none] [] LY M J := by
  intro f
  induction f with
  | zero =>
    intro a b l14 h
    exact absurd rfl h
  | succ f ih =>
    intro a b l14 h
    refine v_lload (pc := 239) dX7_breaks_239 rfl ?_
    refine v_lconst (pc := 241) (v := 0) (by decide) dX7_breaks_241 ?_
    refine v_lcmp (pc := 242) dX7_breaks_242 ?_
    refine v_if_eq (pc := 243) (tgt := 264) dX7_breaks_243 (by decide) (fun c_243 => ?_) (fun c_243 => ?_)
    · refine v_iload (pc := 264) dX7_breaks_264 rfl ?_
      refine v_if_ne (pc := 266) (tgt := 277) dX7_breaks_266 (by decide) (fun c_266 => ?_) (fun c_266 => ?_)
      · refine v_lload (pc := 277) dX7_breaks_277 rfl ?_
        refine v_lload (pc := 279) dX7_breaks_279 rfl ?_
        refine v_ldiv (pc := 281) (by rw [gcG, if_pos (lg0.mp c_243)] at h; exact h) dX7_breaks_281 ?_
        refine v_lret (pc := 282) dX7_breaks_282 (Nat.zero_le _) (Nat.zero_le _) ?_
        exact ⟨by rw [gcG, if_pos (lg0.mp c_243), if_neg c_266], rfl, rfl⟩
      · refine v_lload (pc := 269) dX7_breaks_269 rfl ?_
        refine v_lload (pc := 271) dX7_breaks_271 rfl ?_
        refine v_ldiv (pc := 273) (by rw [gcG, if_pos (lg0.mp c_243)] at h; exact h) dX7_breaks_273 ?_
        refine v_goto (pc := 274) (tgt := 282) dX7_breaks_274 (by decide) ?_
        refine v_lret (pc := 282) dX7_breaks_282 (Nat.zero_le _) (Nat.zero_le _) ?_
        exact ⟨by rw [gcG, if_pos (lg0.mp c_243), if_pos c_266], rfl, rfl⟩
    · refine v_lload (pc := 246) dX7_breaks_246 rfl ?_
      refine v_lload (pc := 248) dX7_breaks_248 rfl ?_
      refine v_lrem (pc := 250) (fun q => c_243 (lg0.mpr q)) dX7_breaks_250 ?_
      refine v_lst_14 (pc := 251) dX7_breaks_251 (by decide) rfl ?_
      refine v_lload (pc := 253) dX7_breaks_253 rfl ?_
      refine v_lst_10 (pc := 255) dX7_breaks_255 (by decide) rfl ?_
      refine v_lload (pc := 257) dX7_breaks_257 rfl ?_
      refine v_lst_12 (pc := 259) dX7_breaks_259 (by decide) rfl ?_
      refine v_goto (pc := 261) (tgt := 239) dX7_breaks_261 (by decide) ?_
      have hb : ¬ b = 0 := fun q => c_243 (lg0.mpr q)
      rw [gcG, if_neg hb] at h ⊢
      exact ih _ _ _ h

set_option maxRecDepth 100000 in
set_option maxHeartbeats 300000 in
theorem lm_brD {x z u v : Int32} {m w : Nat} (hm : m ≤ 6) {S T : Int64} {P9 : Int64 → mM → mJ → Prop} {A : mM} {J : mJ} (ho : V RX7 cX7_breaks 16 (some .long) false (rmD 2) false LY.length none (mNl LY P9) 0 0 86 [some (.ref 49), some (.int x), some (.int (nI m)), some (.int z), some (.int u), some (.int v), some (.long ((sm1 x z u m w (S, A)).1)), none, some (.long T), none, some (.int (nI (w + 1))), none, none, none, none, none] [] LY (sm1 x z u m w (S, A)).2 J) : ∀ (n j : Nat), n + j = m → V RX7 cX7_breaks 16 (some .long) false (rmD 2) false LY.length none (mNl LY P9) 0 0 134 [some (.ref 49), some (.int x), some (.int (nI m)), some (.int z), some (.int u), some (.int v), some (.long (S)), none, some (.long T), none, some (.int (nI (w))), some (.long (itN (wt1 z w) 1 j)), none, some (.int (nI (j))), none, none] [] LY (itN (bkJ w) (itN (bkZ x) A 9) j) J := by
  intro n
  induction n with
  | zero =>
    intro j hj
    obtain rfl : j = m := by omega
    refine v_iload (pc := 134) dX7_breaks_134 rfl ?_
    refine v_iload_n (pc := 136) dX7_breaks_136 rfl ?_
    refine v_icmp_ge (pc := 137) (tgt := 185) dX7_breaks_137 (by decide) (fun c_137 => ?_) (fun c_137 => absurd (nI_le (Nat.le_refl _) (by omega)) c_137)
    refine v_lload (pc := 185) dX7_breaks_185 rfl ?_
    refine v_iload (pc := 187) dX7_breaks_187 rfl ?_
    refine v_if_ne (pc := 189) (tgt := 203) dX7_breaks_189 (by decide) (fun c_189 => ?_) (fun c_189 => ?_)
    · refine v_aload_n (pc := 203) dX7_breaks_203 rfl ?_
      refine v_cV0i (pc := 204) dX7_breaks_204 mkX7_149 m_count ly49 rfl (Nat.le_of_ble_eq_true rfl) rfl (Nat.zero_le _) (Nat.zero_le _) (fun r_204 M_204 J_204 h_204 => ?_)
      obtain ⟨e1_204, e2_204, e3_204⟩ := h_204
      replace e1_204 := e1_204.symm
      replace e2_204 := e2_204.symm
      replace e3_204 := e3_204.symm
      subst e1_204 e2_204 e3_204
      refine v_aload_n (pc := 207) dX7_breaks_207 rfl ?_
      refine v_getR (pc := 208) fkX7_35 ly49 rfl dX7_breaks_208 ?_
      refine v_iconst (pc := 211) (v := 1) (by decide) dX7_breaks_211 ?_
      refine v_iald (pc := 212) ly57 ?_ dX7_breaks_212 ?_
      · unfold vp_in; decide
      rw [show Int32.toNatClampNeg 1 = 1 from rfl]
      refine v_icmp_ne (pc := 213) (tgt := 221) dX7_breaks_213 (by decide) (fun c_213 => ?_) (fun c_213 => ?_)
      · refine v_lconst (pc := 221) (v := 0) (by decide) dX7_breaks_221 ?_
        refine v_ladd (pc := 222) dX7_breaks_222 ?_
        refine v_lst_6 (pc := 223) dX7_breaks_223 (by decide) rfl ?_
        refine v_inc_10 (pc := 225) (v := 1) dX7_breaks_225 (by decide) (by decide) rfl ?_
        refine v_goto (pc := 228) (tgt := 86) dX7_breaks_228 (by decide) ?_
        refine v_fg_13 (v_fg_11 ?_)
        rw [nI_1]
        have e9 := ho
        have e8 : (sm1 x z u j w (S, A)).1 = (S + 0) := (if_neg c_189).trans (if_neg c_213)
        rw [e8] at e9
        exact e9
      · refine v_lload (pc := 216) dX7_breaks_216 rfl ?_
        refine v_goto (pc := 218) (tgt := 222) dX7_breaks_218 (by decide) ?_
        refine v_ladd (pc := 222) dX7_breaks_222 ?_
        refine v_lst_6 (pc := 223) dX7_breaks_223 (by decide) rfl ?_
        refine v_inc_10 (pc := 225) (v := 1) dX7_breaks_225 (by decide) (by decide) rfl ?_
        refine v_goto (pc := 228) (tgt := 86) dX7_breaks_228 (by decide) ?_
        refine v_fg_13 (v_fg_11 ?_)
        rw [nI_1]
        have e9 := ho
        have e8 : (sm1 x z u j w (S, A)).1 = (S + wtW z w j) := (if_neg c_189).trans (if_pos c_213)
        rw [e8] at e9
        exact e9
    · refine v_lload (pc := 192) dX7_breaks_192 rfl ?_
      refine v_aload_n (pc := 194) dX7_breaks_194 rfl ?_
      refine v_cV0i (pc := 195) dX7_breaks_195 mkX7_149 m_count ly49 rfl (Nat.le_of_ble_eq_true rfl) rfl (Nat.zero_le _) (Nat.zero_le _) (fun r_195 M_195 J_195 h_195 => ?_)
      obtain ⟨e1_195, e2_195, e3_195⟩ := h_195
      replace e1_195 := e1_195.symm
      replace e2_195 := e2_195.symm
      replace e3_195 := e3_195.symm
      subst e1_195 e2_195 e3_195
      refine v_i2l (pc := 198) dX7_breaks_198 ?_
      refine v_lmul (pc := 199) dX7_breaks_199 ?_
      refine v_goto (pc := 200) (tgt := 222) dX7_breaks_200 (by decide) ?_
      refine v_ladd (pc := 222) dX7_breaks_222 ?_
      refine v_lst_6 (pc := 223) dX7_breaks_223 (by decide) rfl ?_
      refine v_inc_10 (pc := 225) (v := 1) dX7_breaks_225 (by decide) (by decide) rfl ?_
      refine v_goto (pc := 228) (tgt := 86) dX7_breaks_228 (by decide) ?_
      refine v_fg_13 (v_fg_11 ?_)
      rw [nI_1]
      have e9 := ho
      have e8 : (sm1 x z u j w (S, A)).1 = (S + wtW z w j * (ctA (bkW x j w A)).toInt64) := if_pos c_189
      rw [e8] at e9
      exact e9
  | succ n ih =>
    intro j hj
    refine v_iload (pc := 134) dX7_breaks_134 rfl ?_
    refine v_iload_n (pc := 136) dX7_breaks_136 rfl ?_
    refine v_icmp_ge (pc := 137) (tgt := 185) dX7_breaks_137 (by decide) (fun c_137 => absurd c_137 (nI_ge (show j < m by omega) (by omega))) (fun c_137 => ?_)
    refine v_lload (pc := 140) dX7_breaks_140 rfl ?_
    refine v_iload (pc := 142) dX7_breaks_142 rfl ?_
    refine v_iload (pc := 144) dX7_breaks_144 rfl ?_
    refine v_cS2i (pc := 146) dX7_breaks_146 mkX7_56 m_has (Nat.le_of_ble_eq_true rfl) rfl (Nat.zero_le _) (Nat.zero_le _) (fun r_146 M_146 J_146 h_146 => ?_)
    obtain ⟨e1_146, e2_146, e3_146⟩ := h_146
    replace e1_146 := e1_146.symm
    replace e2_146 := e2_146.symm
    replace e3_146 := e3_146.symm
    subst e1_146 e2_146 e3_146
    refine v_if_eq (pc := 149) (tgt := 157) dX7_breaks_149 (by decide) (fun c_149 => ?_) (fun c_149 => ?_)
    · refine v_bipush (pc := 157) (v := 10) (by decide) dX7_breaks_157 ?_
      refine v_iload_n (pc := 159) dX7_breaks_159 rfl ?_
      refine v_isub (pc := 160) dX7_breaks_160 ?_
      refine v_i2l (pc := 161) dX7_breaks_161 ?_
      refine v_lmul (pc := 162) dX7_breaks_162 ?_
      refine v_lst_11 (pc := 163) dX7_breaks_163 (by decide) rfl ?_
      refine v_iload (pc := 165) dX7_breaks_165 rfl ?_
      refine v_iload (pc := 167) dX7_breaks_167 rfl ?_
      refine v_cS2i (pc := 169) dX7_breaks_169 mkX7_56 m_has (Nat.le_of_ble_eq_true rfl) rfl (Nat.zero_le _) (Nat.zero_le _) (fun r_169 M_169 J_169 h_169 => ?_)
      obtain ⟨e1_169, e2_169, e3_169⟩ := h_169
      replace e1_169 := e1_169.symm
      replace e2_169 := e2_169.symm
      replace e3_169 := e3_169.symm
      subst e1_169 e2_169 e3_169
      refine v_if_eq (pc := 172) (tgt := 179) dX7_breaks_172 (by decide) (fun c_172 => ?_) (fun c_172 => ?_)
      · refine v_inc_13 (pc := 179) (v := 1) dX7_breaks_179 (by decide) (by decide) rfl ?_
        refine v_goto (pc := 182) (tgt := 134) dX7_breaks_182 (by decide) ?_
        rw [nI_1]
        have e9 := ih (j + 1) (by omega)
        rw [itN_s _ _ j, itN_s _ _ j, show wt1 z w j (itN (wt1 z w) 1 j) = _ from if_neg (bI_0.mp c_149), show bkJ w j (itN (bkJ w) (itN (bkZ x) A 9) j) = _ from if_neg (bI_0.mp c_149)] at e9
        exact e9
      · refine v_aload_n (pc := 175) dX7_breaks_175 rfl ?_
        refine v_cV0v (pc := 176) dX7_breaks_176 mkX7_146 m_breakAll ly49 rfl (Nat.le_of_ble_eq_true rfl) rfl (Nat.zero_le _) (Nat.zero_le _) (fun M_176 J_176 h_176 => ?_)
        obtain ⟨e2_176, e3_176⟩ := h_176
        replace e2_176 := e2_176.symm
        replace e3_176 := e3_176.symm
        subst e2_176 e3_176
        refine v_inc_13 (pc := 179) (v := 1) dX7_breaks_179 (by decide) (by decide) rfl ?_
        refine v_goto (pc := 182) (tgt := 134) dX7_breaks_182 (by decide) ?_
        exact absurd c_149 c_172
    · refine v_iload_n (pc := 152) dX7_breaks_152 rfl ?_
      refine v_i2l (pc := 153) dX7_breaks_153 ?_
      refine v_goto (pc := 154) (tgt := 162) dX7_breaks_154 (by decide) ?_
      refine v_lmul (pc := 162) dX7_breaks_162 ?_
      refine v_lst_11 (pc := 163) dX7_breaks_163 (by decide) rfl ?_
      refine v_iload (pc := 165) dX7_breaks_165 rfl ?_
      refine v_iload (pc := 167) dX7_breaks_167 rfl ?_
      refine v_cS2i (pc := 169) dX7_breaks_169 mkX7_56 m_has (Nat.le_of_ble_eq_true rfl) rfl (Nat.zero_le _) (Nat.zero_le _) (fun r_169 M_169 J_169 h_169 => ?_)
      obtain ⟨e1_169, e2_169, e3_169⟩ := h_169
      replace e1_169 := e1_169.symm
      replace e2_169 := e2_169.symm
      replace e3_169 := e3_169.symm
      subst e1_169 e2_169 e3_169
      refine v_if_eq (pc := 172) (tgt := 179) dX7_breaks_172 (by decide) (fun c_172 => ?_) (fun c_172 => ?_)
      · refine v_inc_13 (pc := 179) (v := 1) dX7_breaks_179 (by decide) (by decide) rfl ?_
        refine v_goto (pc := 182) (tgt := 134) dX7_breaks_182 (by decide) ?_
        exact absurd c_172 c_149
      · refine v_aload_n (pc := 175) dX7_breaks_175 rfl ?_
        refine v_cV0v (pc := 176) dX7_breaks_176 mkX7_146 m_breakAll ly49 rfl (Nat.le_of_ble_eq_true rfl) rfl (Nat.zero_le _) (Nat.zero_le _) (fun M_176 J_176 h_176 => ?_)
        obtain ⟨e2_176, e3_176⟩ := h_176
        replace e2_176 := e2_176.symm
        replace e3_176 := e3_176.symm
        subst e2_176 e3_176
        refine v_inc_13 (pc := 179) (v := 1) dX7_breaks_179 (by decide) (by decide) rfl ?_
        refine v_goto (pc := 182) (tgt := 134) dX7_breaks_182 (by decide) ?_
        rw [nI_1]
        have e9 := ih (j + 1) (by omega)
        rw [itN_s _ _ j, itN_s _ _ j, show wt1 z w j (itN (wt1 z w) 1 j) = _ from if_pos (bI_n0.mp c_149), show bkJ w j (itN (bkJ w) (itN (bkZ x) A 9) j) = _ from if_pos (bI_n0.mp c_149)] at e9
        exact e9

set_option maxRecDepth 100000 in
set_option maxHeartbeats 300000 in
theorem lm_brC {x z u v : Int32} {m w : Nat} (hm : m ≤ 6) {S T : Int64} {P9 : Int64 → mM → mJ → Prop} {A : mM} {J : mJ} (ho : V RX7 cX7_breaks 16 (some .long) false (rmD 2) false LY.length none (mNl LY P9) 0 0 86 [some (.ref 49), some (.int x), some (.int (nI m)), some (.int z), some (.int u), some (.int v), some (.long ((sm1 x z u m w (S, A)).1)), none, some (.long T), none, some (.int (nI (w + 1))), none, none, none, none, none] [] LY (sm1 x z u m w (S, A)).2 J) : ∀ (n i : Nat), n + i = 9 → V RX7 cX7_breaks 16 (some .long) false (rmD 2) false LY.length none (mNl LY P9) 0 0 100 [some (.ref 49), some (.int x), some (.int (nI m)), some (.int z), some (.int u), some (.int v), some (.long (S)), none, some (.long T), none, some (.int (nI (w))), some (.long (1)), none, some (.int (nI (i + 1))), none, none] [] LY (itN (bkZ x) A i) J := by
  intro n
  induction n with
  | zero =>
    intro i hi
    obtain rfl : i = 9 := by omega
    refine v_iload (pc := 100) dX7_breaks_100 rfl ?_
    refine v_bipush (pc := 102) (v := 10) (by decide) dX7_breaks_102 ?_
    refine v_icmp_ge (pc := 104) (tgt := 131) dX7_breaks_104 (by decide) (fun c_104 => ?_) (fun c_104 => absurd (by decide) c_104)
    refine v_iconst (pc := 131) (v := 0) (by decide) dX7_breaks_131 ?_
    refine v_ist_13 (pc := 132) dX7_breaks_132 (by decide) rfl ?_
    exact lm_brD hm ho m 0 rfl
  | succ n ih =>
    intro i hi
    have hcl := nI_clamp (show i + 1 < 2 ^ 31 by omega)
    refine v_iload (pc := 100) dX7_breaks_100 rfl ?_
    refine v_bipush (pc := 102) (v := 10) (by decide) dX7_breaks_102 ?_
    refine v_icmp_ge (pc := 104) (tgt := 131) dX7_breaks_104 (by decide) (fun c_104 => absurd c_104 (nI_ge (b := 10) (show i + 1 < 10 by omega) (by omega))) (fun c_104 => ?_)
    refine v_aload_n (pc := 107) dX7_breaks_107 rfl ?_
    refine v_getR (pc := 108) fkX7_35 ly49 rfl dX7_breaks_108 ?_
    refine v_iload (pc := 111) dX7_breaks_111 rfl ?_
    refine v_iload (pc := 113) dX7_breaks_113 rfl ?_
    refine v_iload_n (pc := 115) dX7_breaks_115 rfl ?_
    refine v_icmp_ne (pc := 116) (tgt := 123) dX7_breaks_116 (by decide) (fun c_116 => ?_) (fun c_116 => ?_)
    · refine v_iconst (pc := 123) (v := 0) (by decide) dX7_breaks_123 ?_
      refine v_iast (pc := 124) ly57 ?_ dX7_breaks_124 ?_
      · exact vp_in_nI (show i + 1 < 10 by omega) (by omega)
      refine v_inc_13 (pc := 125) (v := 1) dX7_breaks_125 (by decide) (by decide) rfl ?_
      refine v_goto (pc := 128) (tgt := 100) dX7_breaks_128 (by decide) ?_
      rw [hcl, nI_1]
      have e9 := ih (i + 1) (by omega)
      rw [itN_s _ _ i, show bkZ x i (itN (bkZ x) A i) = mU (itN (bkZ x) A i) 57 (i + 1) (if nI (i + 1) = x then 1 else 0) from rfl, if_neg c_116] at e9
      exact e9
    · refine v_iconst (pc := 119) (v := 1) (by decide) dX7_breaks_119 ?_
      refine v_goto (pc := 120) (tgt := 124) dX7_breaks_120 (by decide) ?_
      refine v_iast (pc := 124) ly57 ?_ dX7_breaks_124 ?_
      · exact vp_in_nI (show i + 1 < 10 by omega) (by omega)
      refine v_inc_13 (pc := 125) (v := 1) dX7_breaks_125 (by decide) (by decide) rfl ?_
      refine v_goto (pc := 128) (tgt := 100) dX7_breaks_128 (by decide) ?_
      rw [hcl, nI_1]
      have e9 := ih (i + 1) (by omega)
      rw [itN_s _ _ i, show bkZ x i (itN (bkZ x) A i) = mU (itN (bkZ x) A i) 57 (i + 1) (if nI (i + 1) = x then 1 else 0) from rfl, if_pos c_116] at e9
      exact e9

set_option maxRecDepth 100000 in
set_option maxHeartbeats 300000 in
theorem lm_brB {x z u v : Int32} {m : Nat} (hm : m ≤ 6) {M : mM} {J : mJ} (hg : ¬ gcG 64 (smP x z u m M (2 ^ m)).1 (tenP m) = 0) : ∀ (n w : Nat), n + w = 2 ^ m → V RX7 cX7_breaks 16 (some .long) false (rmD 2) false LY.length none (mNl LY (fun r0 M1 J1 => r0 = (if v = 0 then (smP x z u m M (2 ^ m)).1 / gcG 64 (smP x z u m M (2 ^ m)).1 (tenP m) else tenP m / gcG 64 (smP x z u m M (2 ^ m)).1 (tenP m)) ∧ M1 = (smP x z u m M (2 ^ m)).2 ∧ J1 = J)) 0 0 86 [some (.ref 49), some (.int x), some (.int (nI m)), some (.int z), some (.int u), some (.int v), some (.long ((smP x z u m M w).1)), none, some (.long (tenP m)), none, some (.int (nI (w))), none, none, none, none, none] [] LY (smP x z u m M w).2 J := by
  have hp : 2 ^ m ≤ 64 := by
    have : 2 ^ m ≤ 2 ^ 6 := Nat.pow_le_pow_right (by omega) (by omega)
    omega
  have hbv : (1 : Int32) <<< (nI m &&& 31) = nI (2 ^ m) := bv_pow m (by omega)
  intro n
  induction n with
  | zero =>
    intro w hw
    obtain rfl : w = 2 ^ m := by omega
    refine v_iload (pc := 86) dX7_breaks_86 rfl ?_
    refine v_iconst (pc := 88) (v := 1) (by decide) dX7_breaks_88 ?_
    refine v_iload_n (pc := 89) dX7_breaks_89 rfl ?_
    refine v_ishl (pc := 90) dX7_breaks_90 ?_
    rw [hbv]
    refine v_icmp_ge (pc := 91) (tgt := 231) dX7_breaks_91 (by decide) (fun c_91 => ?_) (fun c_91 => absurd (nI_le (Nat.le_refl _) (by omega)) c_91)
    refine v_lload (pc := 231) dX7_breaks_231 rfl ?_
    refine v_lst_10 (pc := 233) dX7_breaks_233 (by decide) rfl ?_
    refine v_lload (pc := 235) dX7_breaks_235 rfl ?_
    refine v_lst_12 (pc := 237) dX7_breaks_237 (by decide) rfl ?_
    exact lm_gc 64 _ _ _ hg
  | succ n ih =>
    intro w hw
    refine v_iload (pc := 86) dX7_breaks_86 rfl ?_
    refine v_iconst (pc := 88) (v := 1) (by decide) dX7_breaks_88 ?_
    refine v_iload_n (pc := 89) dX7_breaks_89 rfl ?_
    refine v_ishl (pc := 90) dX7_breaks_90 ?_
    rw [hbv]
    refine v_icmp_ge (pc := 91) (tgt := 231) dX7_breaks_91 (by decide) (fun c_91 => absurd c_91 (nI_ge (show w < 2 ^ m by omega) (by omega))) (fun c_91 => ?_)
    refine v_lconst (pc := 94) (v := 1) (by decide) dX7_breaks_94 ?_
    refine v_lst_11 (pc := 95) dX7_breaks_95 (by decide) rfl ?_
    refine v_iconst (pc := 97) (v := 1) (by decide) dX7_breaks_97 ?_
    refine v_ist_13 (pc := 98) dX7_breaks_98 (by decide) rfl ?_
    exact lm_brC hm (ih (w + 1) (by omega)) 9 0 rfl

set_option maxRecDepth 100000 in
set_option maxHeartbeats 4000000 in
theorem lm_brA {x z u v : Int32} {m : Nat} {M : mM} {J : mJ} (hm : m ≤ 6) (hg : ¬ gcG 64 (smP x z u m M (2 ^ m)).1 (tenP m) = 0) : ∀ (n i : Nat), n + i = m → V RX7 cX7_breaks 16 (some .long) false (rmD 2) false LY.length none (mNl LY (fun r0 M1 J1 => r0 = (if v = 0 then (smP x z u m M (2 ^ m)).1 / gcG 64 (smP x z u m M (2 ^ m)).1 (tenP m) else tenP m / gcG 64 (smP x z u m M (2 ^ m)).1 (tenP m)) ∧ M1 = (smP x z u m M (2 ^ m)).2 ∧ J1 = J)) 0 0 63 [some (.ref 49), some (.int x), some (.int (nI m)), some (.int z), some (.int u), some (.int v), some (.long 0), none, some (.long (tenP i)), none, some (.int (nI i)), none, none, none, none, none] [] LY M J := by
  intro n
  induction n with
  | zero =>
    intro i hi
    obtain rfl : i = m := by omega
    refine v_iload (pc := 63) dX7_breaks_63 rfl ?_
    refine v_iload_n (pc := 65) dX7_breaks_65 rfl ?_
    refine v_icmp_ge (pc := 66) (tgt := 83) dX7_breaks_66 (by decide) (fun c_66 => ?_) (fun c_66 => absurd (nI_le (Nat.le_refl _) (by omega)) c_66)
    refine v_iconst (pc := 83) (v := 0) (by decide) dX7_breaks_83 ?_
    refine v_ist_10 (pc := 84) dX7_breaks_84 (by decide) rfl ?_
    exact lm_brB hm hg (2 ^ i) 0 rfl
  | succ n ih =>
    intro i hi
    have hb7 : i < m := by omega
    have hcl := nI_clamp (show i < 2 ^ 31 by omega)
    refine v_iload (pc := 63) dX7_breaks_63 rfl ?_
    refine v_iload_n (pc := 65) dX7_breaks_65 rfl ?_
    refine v_icmp_ge (pc := 66) (tgt := 83) dX7_breaks_66 (by decide) (fun c_66 => absurd c_66 (nI_ge hb7 (by omega))) (fun c_66 => ?_)
    refine v_lload (pc := 69) dX7_breaks_69 rfl ?_
    refine v_ldc2 (pc := 71) ckX7_144 dX7_breaks_71 ?_
    refine v_lmul (pc := 74) dX7_breaks_74 ?_
    refine v_lst_8 (pc := 75) dX7_breaks_75 (by decide) rfl ?_
    refine v_inc_10 (pc := 77) (v := 1) dX7_breaks_77 (by decide) (by decide) rfl ?_
    refine v_goto (pc := 80) (tgt := 63) dX7_breaks_80 (by decide) ?_
    rw [nI_1]
    exact ih (i + 1) (by omega)

set_option maxRecDepth 100000 in
set_option maxHeartbeats 4000000 in
theorem m_breaks {x y z u v : Int32} {M : mM} {J : mJ} (hg : ((1 ≤ x ∧ x ≤ 9) ∧ (0 ≤ y ∧ y ≤ 6) ∧ (0 ≤ z ∧ z ≤ 10) ∧ (0 ≤ u ∧ u ≤ 1) ∧ (0 ≤ v ∧ v ≤ 1)) → ¬ gcG 64 (smP x z u y.toNatClampNeg M (2 ^ y.toNatClampNeg)).1 (tenP y.toNatClampNeg) = 0) : Ct yX7_breaks cX7_breaks 16 (some .long) (rmD 2) false [.ref 49, .int x, .int y, .int z, .int u, .int v] LY M J (mNl LY (fun r0 M1 J1 => r0 = (if ((1 ≤ x ∧ x ≤ 9) ∧ (0 ≤ y ∧ y ≤ 6) ∧ (0 ≤ z ∧ z ≤ 10) ∧ (0 ≤ u ∧ u ≤ 1) ∧ (0 ≤ v ∧ v ≤ 1)) then (if v = 0 then (smP x z u y.toNatClampNeg M (2 ^ y.toNatClampNeg)).1 / gcG 64 (smP x z u y.toNatClampNeg M (2 ^ y.toNatClampNeg)).1 (tenP y.toNatClampNeg) else tenP y.toNatClampNeg / gcG 64 (smP x z u y.toNatClampNeg M (2 ^ y.toNatClampNeg)).1 (tenP y.toNatClampNeg)) else -1000000000000000002) ∧ M1 = (if ((1 ≤ x ∧ x ≤ 9) ∧ (0 ≤ y ∧ y ≤ 6) ∧ (0 ≤ z ∧ z ≤ 10) ∧ (0 ≤ u ∧ u ≤ 1) ∧ (0 ≤ v ∧ v ≤ 1)) then (smP x z u y.toNatClampNeg M (2 ^ y.toNatClampNeg)).2 else M) ∧ J1 = J)) := by
  refine ct_of (own := RX7) (ini := false) (ls := [some (.ref 49), some (.int x), some (.int y), some (.int z), some (.int u), some (.int v), none, none, none, none, none, none, none, none, none, none]) 10 (by decide +kernel) rfl (fun h => by cases h) rfl (fun ad => by first | exact Nat.le_of_ble_eq_true rfl) ?_
  refine v_iload_n (pc := 0) dX7_breaks_0 rfl ?_
  refine v_iconst (pc := 1) (v := 1) (by decide) dX7_breaks_1 ?_
  refine v_bipush (pc := 2) (v := 9) (by decide) dX7_breaks_2 ?_
  refine v_cS3i (pc := 4) dX7_breaks_4 mkX7_49 m_in (Nat.le_of_ble_eq_true rfl) rfl (Nat.zero_le _) (Nat.zero_le _) (fun r_4 M_4 J_4 h_4 => ?_)
  obtain ⟨e1_4, e2_4, e3_4⟩ := h_4
  replace e1_4 := e1_4.symm
  replace e2_4 := e2_4.symm
  replace e3_4 := e3_4.symm
  subst e1_4 e2_4 e3_4
  refine v_if_eq (pc := 7) (tgt := 50) dX7_breaks_7 (by decide) (fun c_7 => ?_) (fun c_7 => ?_)
  · refine v_ldc2 (pc := 50) ckX7_142 dX7_breaks_50 ?_
    refine v_lret (pc := 53) dX7_breaks_53 (Nat.zero_le _) (Nat.zero_le _) ?_
    exact ⟨by rw [if_neg (fun q => bI_0.mp c_7 q.1)]; try rfl, by rw [if_neg (fun q => bI_0.mp c_7 q.1)]; try rfl, rfl⟩
  · refine v_iload_n (pc := 10) dX7_breaks_10 rfl ?_
    refine v_iconst (pc := 11) (v := 0) (by decide) dX7_breaks_11 ?_
    refine v_bipush (pc := 12) (v := 6) (by decide) dX7_breaks_12 ?_
    refine v_cS3i (pc := 14) dX7_breaks_14 mkX7_49 m_in (Nat.le_of_ble_eq_true rfl) rfl (Nat.zero_le _) (Nat.zero_le _) (fun r_14 M_14 J_14 h_14 => ?_)
    obtain ⟨e1_14, e2_14, e3_14⟩ := h_14
    replace e1_14 := e1_14.symm
    replace e2_14 := e2_14.symm
    replace e3_14 := e3_14.symm
    subst e1_14 e2_14 e3_14
    refine v_if_eq (pc := 17) (tgt := 50) dX7_breaks_17 (by decide) (fun c_17 => ?_) (fun c_17 => ?_)
    · refine v_ldc2 (pc := 50) ckX7_142 dX7_breaks_50 ?_
      refine v_lret (pc := 53) dX7_breaks_53 (Nat.zero_le _) (Nat.zero_le _) ?_
      exact ⟨by rw [if_neg (fun q => bI_0.mp c_17 q.2.1)]; try rfl, by rw [if_neg (fun q => bI_0.mp c_17 q.2.1)]; try rfl, rfl⟩
    · refine v_iload_n (pc := 20) dX7_breaks_20 rfl ?_
      refine v_iconst (pc := 21) (v := 0) (by decide) dX7_breaks_21 ?_
      refine v_bipush (pc := 22) (v := 10) (by decide) dX7_breaks_22 ?_
      refine v_cS3i (pc := 24) dX7_breaks_24 mkX7_49 m_in (Nat.le_of_ble_eq_true rfl) rfl (Nat.zero_le _) (Nat.zero_le _) (fun r_24 M_24 J_24 h_24 => ?_)
      obtain ⟨e1_24, e2_24, e3_24⟩ := h_24
      replace e1_24 := e1_24.symm
      replace e2_24 := e2_24.symm
      replace e3_24 := e3_24.symm
      subst e1_24 e2_24 e3_24
      refine v_if_eq (pc := 27) (tgt := 50) dX7_breaks_27 (by decide) (fun c_27 => ?_) (fun c_27 => ?_)
      · refine v_ldc2 (pc := 50) ckX7_142 dX7_breaks_50 ?_
        refine v_lret (pc := 53) dX7_breaks_53 (Nat.zero_le _) (Nat.zero_le _) ?_
        exact ⟨by rw [if_neg (fun q => bI_0.mp c_27 q.2.2.1)]; try rfl, by rw [if_neg (fun q => bI_0.mp c_27 q.2.2.1)]; try rfl, rfl⟩
      · refine v_iload (pc := 30) dX7_breaks_30 rfl ?_
        refine v_iconst (pc := 32) (v := 0) (by decide) dX7_breaks_32 ?_
        refine v_iconst (pc := 33) (v := 1) (by decide) dX7_breaks_33 ?_
        refine v_cS3i (pc := 34) dX7_breaks_34 mkX7_49 m_in (Nat.le_of_ble_eq_true rfl) rfl (Nat.zero_le _) (Nat.zero_le _) (fun r_34 M_34 J_34 h_34 => ?_)
        obtain ⟨e1_34, e2_34, e3_34⟩ := h_34
        replace e1_34 := e1_34.symm
        replace e2_34 := e2_34.symm
        replace e3_34 := e3_34.symm
        subst e1_34 e2_34 e3_34
        refine v_if_eq (pc := 37) (tgt := 50) dX7_breaks_37 (by decide) (fun c_37 => ?_) (fun c_37 => ?_)
        · refine v_ldc2 (pc := 50) ckX7_142 dX7_breaks_50 ?_
          refine v_lret (pc := 53) dX7_breaks_53 (Nat.zero_le _) (Nat.zero_le _) ?_
          exact ⟨by rw [if_neg (fun q => bI_0.mp c_37 q.2.2.2.1)]; try rfl, by rw [if_neg (fun q => bI_0.mp c_37 q.2.2.2.1)]; try rfl, rfl⟩
        · refine v_iload (pc := 40) dX7_breaks_40 rfl ?_
          refine v_iconst (pc := 42) (v := 0) (by decide) dX7_breaks_42 ?_
          refine v_iconst (pc := 43) (v := 1) (by decide) dX7_breaks_43 ?_
          refine v_cS3i (pc := 44) dX7_breaks_44 mkX7_49 m_in (Nat.le_of_ble_eq_true rfl) rfl (Nat.zero_le _) (Nat.zero_le _) (fun r_44 M_44 J_44 h_44 => ?_)
          obtain ⟨e1_44, e2_44, e3_44⟩ := h_44
          replace e1_44 := e1_44.symm
          replace e2_44 := e2_44.symm
          replace e3_44 := e3_44.symm
          subst e1_44 e2_44 e3_44
          refine v_if_ne (pc := 47) (tgt := 54) dX7_breaks_47 (by decide) (fun c_47 => ?_) (fun c_47 => ?_)
          · refine v_lconst (pc := 54) (v := 0) (by decide) dX7_breaks_54 ?_
            refine v_lst_6 (pc := 55) dX7_breaks_55 (by decide) rfl ?_
            refine v_lconst (pc := 57) (v := 1) (by decide) dX7_breaks_57 ?_
            refine v_lst_8 (pc := 58) dX7_breaks_58 (by decide) rfl ?_
            refine v_iconst (pc := 60) (v := 0) (by decide) dX7_breaks_60 ?_
            refine v_ist_10 (pc := 61) dX7_breaks_61 (by decide) rfl ?_
            have hG : ((1 ≤ x ∧ x ≤ 9) ∧ (0 ≤ y ∧ y ≤ 6) ∧ (0 ≤ z ∧ z ≤ 10) ∧ (0 ≤ u ∧ u ≤ 1) ∧ (0 ≤ v ∧ v ≤ 1)) := ⟨bI_n0.mp c_7, bI_n0.mp c_17, bI_n0.mp c_27, bI_n0.mp c_37, bI_n0.mp c_47⟩
            have hg2 := hg hG
            rw [if_pos hG, if_pos hG]
            obtain ⟨m, hm, rfl⟩ := rngN (a := 0) (n := 6) rfl rfl (by omega) hG.2.1.1 hG.2.1.2
            rw [nI_clamp (show 0 + m < 2 ^ 31 by omega)] at hg2 ⊢
            exact lm_brA (by omega) hg2 (0 + m) 0 rfl
          · refine v_ldc2 (pc := 50) ckX7_142 dX7_breaks_50 ?_
            refine v_lret (pc := 53) dX7_breaks_53 (Nat.zero_le _) (Nat.zero_le _) ?_
            exact ⟨by rw [if_neg (fun q => bI_0.mp c_47 q.2.2.2.2)]; try rfl, by rw [if_neg (fun q => bI_0.mp c_47 q.2.2.2.2)]; try rfl, rfl⟩
