/-! THE LAW: both sides of a call, side by side -/
def rO (x : Nat) (q : Nat → Nat) (h : jv_H) (O : Nat × Int32 × mA) : Option Value → jv_H → Prop := fun v h' => ∃ r, v = some (.int r) ∧ (O.1 = 0 → r = O.2.1) ∧ jv_I h' x 0 = nI O.1 ∧ rf_R x q h' O.2.2 ∧ sF rsh h h'
theorem rO_p {x : Nat} {q : Nat → Nat} {h h' : jv_H} {O : Nat × Int32 × mA} {v : Option Value} (S : rf_S x q h) (y : pO x q h O v h') : rO x q h O v h' := ⟨_, y.1, fun _ => rfl, y.2.1, y.2.2.1, fr_sF S y.2.2.2⟩
theorem rO_r {x : Nat} {q : Nat → Nat} {h h' : jv_H} {M : mA} {code : Nat} {val : Int32} {v : Option Value} (hR : rf_R x q h M) (y : ∃ r, v = some (.int r) ∧ (code = 0 → r = val) ∧ jv_I h' x 0 = nI code ∧ rs x q h h') : rO x q h (code, val, M) v h' := by
  obtain ⟨r, y1, y2, y3, y4⟩ := y
  exact ⟨r, y1, y2, y3, y4.R hR, rs_sF hR.1 y4⟩
theorem uqs {z : Nat → Nat → Nat} {T : Nat → Nat} {N : Nat → Nat → Nat} {tO : Nat → Nat} {h : jv_H} {M : mA} (hR : cl_R z T N tO h M) : (∀ k, m_uq (ma_t M k)) ∧ ∀ (k i : Nat) t, (ma_t M k)[i]? = some t → m_uk t := by
  have g : ∀ k, 8 ≤ k → ma_t M k = [] := fun k hk => (ma_out (by have := hR.1.2.1.2.1; omega)).1
  refine ⟨fun k => ?_, fun k i t ht => ?_⟩
  · by_cases hk : k < 8
    · exact (hR.1.2.2.2 k hk).1
    · rw [g k (by omega)]
      exact fun i j a b y => by simp at y
  · by_cases hk : k < 8
    · exact ((hR.1.2.2.2 k hk).2.1 t (List.mem_of_getElem? ht)).1
    · rw [g k (by omega)] at ht
      simp at ht
def lwS (E : jv_E) (b L : Nat) (xs : Nat → Int32) : Prop := va_X b L xs (jv_s E) (jv_s E).heap ∧ b < (jv_s E).heap.size ∧ b < jv_z E
section SC
variable {E : jv_E} {cc : ByteArray} {own : String} {nL : Nat} {h : jv_H} {ce sl : Nat} {Q : State → Prop} {pc q : Nat} {lo : List (Nat × Value)} {st : List Value} {b L : Nat} {xs : Nat → Int32}
theorem jv_sld (G : jv_C E cc own nL) (S : lwS E b L xs) {j : Nat} (hd : decode cc pc = .ok (.iaload, 1)) (hj : j < L) (hL : L < 2 ^ 31) (hp : pc + 1 = q) (kk : jv_V E nL h ce sl Q q lo (.int (xs j) :: st)) : jv_V E nL h ce sl Q pc lo (.int (nI j) :: .ref b :: st) := by
  subst hp
  intro H locs ls hR hS hl
  have k := kk H locs ls hR hS hl
  have e : xs j = xs (nI j).toNatClampNeg := by rw [nI_clamp (by omega)]
  rw [e] at k
  exact va_sld (A := fun q => jv_z E ≤ q) G.1 G.2.1 S.1 S.2.1 (fun y => by have := S.2.2; omega) hS (nI_in hj hL) hd k
theorem jv_slen (G : jv_C E cc own nL) (S : lwS E b L xs) (hd : decode cc pc = .ok (.arraylength, 1)) (hp : pc + 1 = q) (kk : jv_V E nL h ce sl Q q lo (.int (nI L) :: st)) : jv_V E nL h ce sl Q pc lo (.ref b :: st) := by
  subst hp
  intro H locs ls hR hS hl
  exact va_slen (A := fun q => jv_z E ≤ q) G.1 G.2.1 S.1 S.2.1 (fun y => by have := S.2.2; omega) hS hd (kk H locs ls hR hS hl)
end SC
theorem lg0 (a : Int64) : lg_cmp a a = 0 := by simp [lg_cmp]
theorem lg1 {a : Int32} {c : Int64} (e : a.toInt64 = c) : lg_cmp a.toInt64 c = 0 := by rw [e]; exact lg0 c
set_option maxHeartbeats 4000000 in
set_option maxRecDepth 100000 in
theorem lc_edition {E : jv_E} {Q : State → Prop} (hlt : (jv_l E).stackTraces = false) (G : jv_C E cL_law RL 7) (Z : jv_rm E = jv_room 1000 601024 7293034) {b L : Nat} {xs : Nat → Int32} (S : lwS E b L xs) {z : Nat → Nat → Nat} {T : Nat → Nat} {N : Nat → Nat → Nat} {tO : Nat → Nat} {h : jv_H} {M : mA} (hR : cl_R z T N tO h M) {m : Nat} {q : Nat → Nat} (hM : rf_R m q h M) {o : Nat} (ho : jv_sh h o = some (.inr (.long, 1))) {i : Nat} (hi : i + 9 ≤ L) (hL : L ≤ 4608) {ce sl : Nat} (hc : ce ≤ 600000) (hs : sl ≤ 7000000) (kk : ∀ h' M' ce' sl', (∃ T N, cl_R z T N tO h' M') → rf_R m q h' M' → jv_sh h' o = some (.inr (.long, 1)) → ce' ≤ ce + 5 → sl' ≤ sl + 30 → jv_V E 7 h' ce' sl' Q 2122 [(4, .int (nI i)), (0, .ref b), (1, .ref (z 6 0)), (2, .ref m), (3, .ref o)] []) : jv_V E 7 h ce sl Q 148 [(4, .int (nI i)), (0, .ref b), (1, .ref (z 6 0)), (2, .ref m), (3, .ref o)] [] := by
  refine jv_aload_n (q := 149) G 2 dL_law_148 rfl rfl rfl ?_
  refine jv_aload_n (q := 150) G 4 dL_law_149 rfl rfl rfl ?_
  refine jv_callSH (q := 153) (As := [.ref (z 6 0), .ref o]) (rest := []) G Z ml_L_103 (w_edition hlt hR ho) dL_law_150 rfl (by decide) (by decide) (by omega) (by omega) (Nat.le_of_ble_eq_true rfl) rfl rfl (fun v1 h1 y1 => ?_)
  obtain ⟨rfl, hL1, ⟨T1, N1, hR1⟩, f1⟩ := y1
  show jv_V E 7 h1 (ce + 1) (sl + 6) Q 153 [(4, .int (nI i)), (0, .ref b), (1, .ref (z 6 0)), (2, .ref m), (3, .ref o)] [.int (nI ((m_ed M).1))]
  have hM1 := hM.sF f1; have ho1 := (f1.sh o).trans ho; have hle := le_edition (M := M)
  have hle : (m_ed M).1 ≤ 4 := Nat.le_trans hle (by decide)
  refine jv_istore (q := 155) (lo' := [(5, .int (nI ((m_ed M).1))), (4, .int (nI i)), (0, .ref b), (1, .ref (z 6 0)), (2, .ref m), (3, .ref o)]) G dL_law_153 (by decide) rfl rfl ?_
  refine jv_aload_n (q := 156) G 4 dL_law_155 rfl rfl rfl ?_
  refine jv_callV (q := 159) (As := []) (rest := []) G Z ml_L_108 ((show jv_Met _ _ _ _ _ _ _ _ _ _ (rO m q h1 (m_ed M)) _ from (r_edition hlt hM1).mono (fun _ _ y => rO_p hM1.1 y) (fun _ _ y => y))) hM1.1.1 dL_law_156 rfl (by decide) (by decide) (by omega) (by omega) (Nat.le_of_ble_eq_true rfl) rfl rfl (fun v2 h1 y3 => ?_) (fun _ _ hx => hx.elim)
  obtain ⟨r9, rfl, hr9, hth, hM2, f2⟩ := y3
  show jv_V E 7 h1 (ce + 1) (sl + 6) Q 159 [(5, .int (nI ((m_ed M).1))), (4, .int (nI i)), (0, .ref b), (1, .ref (z 6 0)), (2, .ref m), (3, .ref o)] [.int r9]
  refine jv_istore (q := 161) (lo' := [(6, .int r9), (5, .int (nI ((m_ed M).1))), (4, .int (nI i)), (0, .ref b), (1, .ref (z 6 0)), (2, .ref m), (3, .ref o)]) G dL_law_159 (by decide) rfl rfl ?_
  refine jv_aload_n (q := 162) G 5 dL_law_161 rfl rfl rfl ?_
  refine jv_callV_I (q := 165) (h1 := h1) (As := []) (rest := []) (ce' := ce + 1) (sl' := sl + 6) (r := nI ((m_ed M).1)) G Z ml_L_109 (r_thrown hlt hM2.1 hth) hM2.1.1 dL_law_162 rfl (by decide) (by decide) (by omega) (by omega) (Nat.le_of_ble_eq_true rfl) rfl rfl rfl rfl ?_
  refine jv_iload (q := 167) G 1 dL_law_165 rfl rfl ?_
  refine jv_icmp_eqN (q := 170) (tgt := 172) G dL_law_167 (by decide) rfl (by omega) (by omega) (fun c4 => ?_) (fun c4 => ?_)
  · refine jv_iload (q := 174) G 1 dL_law_172 rfl rfl ?_
    refine jv_if_neN (q := 177) (tgt := 189) G dL_law_174 (by decide) rfl (by omega) (fun c5 => ?_) (fun c5 => ?_)
    · refine jv_goto (q := 2122) G dL_law_189 (by decide) ?_
      refine jv_lo [2, 3, 4, 5, 6] (lo' := [(4, .int (nI i)), (0, .ref b), (1, .ref (z 6 0)), (2, .ref m), (3, .ref o)]) rfl ?_
      exact kk _ _ _ _ ⟨_, _, f2.R cn_rsh hR1⟩ hM2 ((f2.sh o).trans ho1) (by omega) (by omega)
    · refine jv_aload_n (q := 178) G 6 dL_law_177 rfl rfl rfl ?_
      refine jv_iconst (q := 179) (v := nI 0) G dL_law_178 (by decide) rfl ?_
      refine jv_lald (q := 180) G dL_law_179 ((f2.sh o).trans ho1) rfl (by omega) (by decide) ((f2.l ho1 rfl 0).trans (hL1 c5)) rfl ?_
      refine jv_iload (q := 182) G 0 dL_law_180 rfl rfl ?_
      refine jv_i2l (q := 183) G dL_law_182 rfl rfl ?_
      refine jv_lcmp (q := 184) G dL_law_183 rfl rfl ?_
      refine jv_if_eq (q := 187) (tgt := 189) G dL_law_184 (by decide) rfl (fun c6 => ?_) (fun c6 => ?_)
      · refine jv_goto (q := 2122) G dL_law_189 (by decide) ?_
        refine jv_lo [2, 3, 4, 5, 6] (lo' := [(4, .int (nI i)), (0, .ref b), (1, .ref (z 6 0)), (2, .ref m), (3, .ref o)]) rfl ?_
        exact kk _ _ _ _ ⟨_, _, f2.R cn_rsh hR1⟩ hM2 ((f2.sh o).trans ho1) (by omega) (by omega)
      · exact absurd (by rw [hr9 c5]; exact lg0 _) c6
  · exact absurd rfl c4
set_option maxHeartbeats 4000000 in
set_option maxRecDepth 100000 in
theorem lc_copy {E : jv_E} {Q : State → Prop} (hlt : (jv_l E).stackTraces = false) (G : jv_C E cL_law RL 7) (Z : jv_rm E = jv_room 1000 601024 7293034) {b L : Nat} {xs : Nat → Int32} (S : lwS E b L xs) {z : Nat → Nat → Nat} {T : Nat → Nat} {N : Nat → Nat → Nat} {tO : Nat → Nat} {h : jv_H} {M : mA} (hR : cl_R z T N tO h M) {m : Nat} {q : Nat → Nat} (hM : rf_R m q h M) {o : Nat} (ho : jv_sh h o = some (.inr (.long, 1))) {i : Nat} (hi : i + 9 ≤ L) (hL : L ≤ 4608) {ce sl : Nat} (hc : ce ≤ 600000) (hs : sl ≤ 7000000) (kk : ∀ h' M' ce' sl', (∃ T N, cl_R z T N tO h' M') → rf_R m q h' M' → jv_sh h' o = some (.inr (.long, 1)) → ce' ≤ ce + 5 → sl' ≤ sl + 30 → jv_V E 7 h' ce' sl' Q 2122 [(4, .int (nI i)), (0, .ref b), (1, .ref (z 6 0)), (2, .ref m), (3, .ref o)] []) : jv_V E 7 h ce sl Q 192 [(4, .int (nI i)), (0, .ref b), (1, .ref (z 6 0)), (2, .ref m), (3, .ref o)] [] := by
  refine jv_aload_n (q := 193) G 2 dL_law_192 rfl rfl rfl ?_
  refine jv_aload_n (q := 194) G 1 dL_law_193 rfl rfl rfl ?_
  refine jv_iload (q := 196) G 0 dL_law_194 rfl rfl ?_
  refine jv_iconst (q := 197) (v := nI 1) G dL_law_196 (by decide) rfl ?_
  refine jv_iaddN (q := 198) G dL_law_197 rfl ?_
  refine jv_sld (q := 199) G S dL_law_198 (by omega) (by omega) rfl ?_
  refine jv_aload_n (q := 200) G 4 dL_law_199 rfl rfl rfl ?_
  refine jv_callSH (q := 203) (As := [.ref (z 6 0), .int (xs (i + 1)), .ref o]) (rest := []) G Z ml_L_112 (w_copy (p0 := (xs (i + 1))) hlt hR ho) dL_law_200 rfl (by decide) (by decide) (by omega) (by omega) (Nat.le_of_ble_eq_true rfl) rfl rfl (fun v1 h1 y1 => ?_)
  obtain ⟨rfl, hL1, ⟨T1, N1, hR1⟩, f1⟩ := y1
  show jv_V E 7 h1 (ce + 3) (sl + 18) Q 203 [(4, .int (nI i)), (0, .ref b), (1, .ref (z 6 0)), (2, .ref m), (3, .ref o)] [.int (nI ((m_cy M (xs (i + 1))).1))]
  have hM1 := hM.sF f1; have ho1 := (f1.sh o).trans ho; have hle := le_copy (M := M) (p0 := (xs (i + 1)))
  have hle : (m_cy M (xs (i + 1))).1 ≤ 4 := Nat.le_trans hle (by decide)
  refine jv_istore (q := 205) (lo' := [(5, .int (nI ((m_cy M (xs (i + 1))).1))), (4, .int (nI i)), (0, .ref b), (1, .ref (z 6 0)), (2, .ref m), (3, .ref o)]) G dL_law_203 (by decide) rfl rfl ?_
  refine jv_aload_n (q := 206) G 4 dL_law_205 rfl rfl rfl ?_
  refine jv_aload_n (q := 207) G 2 dL_law_206 rfl rfl rfl ?_
  refine jv_iload (q := 209) G 1 dL_law_207 rfl rfl ?_
  refine jv_iconst (q := 210) (v := nI 1) G dL_law_209 (by decide) rfl ?_
  refine jv_iaddN (q := 211) G dL_law_210 rfl ?_
  refine jv_sld (q := 212) G S dL_law_211 (by omega) (by omega) rfl ?_
  refine jv_callV (q := 215) (As := [.int (xs (i + 1))]) (rest := []) G Z ml_L_115 ((show jv_Met _ _ _ _ _ _ _ _ _ _ (rO m q h1 (m_cy M (xs (i + 1)))) _ from (r_copy (e := (xs (i + 1))) hlt hM1).mono (fun _ _ y => rO_p hM1.1 y) (fun _ _ y => y))) hM1.1.1 dL_law_212 rfl (by decide) (by decide) (by omega) (by omega) (Nat.le_of_ble_eq_true rfl) rfl rfl (fun v2 h1 y3 => ?_) (fun _ _ hx => hx.elim)
  obtain ⟨r9, rfl, hr9, hth, hM2, f2⟩ := y3
  show jv_V E 7 h1 (ce + 3) (sl + 18) Q 215 [(5, .int (nI ((m_cy M (xs (i + 1))).1))), (4, .int (nI i)), (0, .ref b), (1, .ref (z 6 0)), (2, .ref m), (3, .ref o)] [.int r9]
  refine jv_istore (q := 217) (lo' := [(6, .int r9), (5, .int (nI ((m_cy M (xs (i + 1))).1))), (4, .int (nI i)), (0, .ref b), (1, .ref (z 6 0)), (2, .ref m), (3, .ref o)]) G dL_law_215 (by decide) rfl rfl ?_
  refine jv_aload_n (q := 218) G 5 dL_law_217 rfl rfl rfl ?_
  refine jv_callV_I (q := 221) (h1 := h1) (As := []) (rest := []) (ce' := ce + 3) (sl' := sl + 18) (r := nI ((m_cy M (xs (i + 1))).1)) G Z ml_L_109 (r_thrown hlt hM2.1 hth) hM2.1.1 dL_law_218 rfl (by decide) (by decide) (by omega) (by omega) (Nat.le_of_ble_eq_true rfl) rfl rfl rfl rfl ?_
  refine jv_iload (q := 223) G 1 dL_law_221 rfl rfl ?_
  refine jv_icmp_eqN (q := 226) (tgt := 228) G dL_law_223 (by decide) rfl (by omega) (by omega) (fun c4 => ?_) (fun c4 => ?_)
  · refine jv_iload (q := 230) G 1 dL_law_228 rfl rfl ?_
    refine jv_if_neN (q := 233) (tgt := 245) G dL_law_230 (by decide) rfl (by omega) (fun c5 => ?_) (fun c5 => ?_)
    · refine jv_goto (q := 2122) G dL_law_245 (by decide) ?_
      refine jv_lo [2, 3, 4, 5, 6] (lo' := [(4, .int (nI i)), (0, .ref b), (1, .ref (z 6 0)), (2, .ref m), (3, .ref o)]) rfl ?_
      exact kk _ _ _ _ ⟨_, _, f2.R cn_rsh hR1⟩ hM2 ((f2.sh o).trans ho1) (by omega) (by omega)
    · refine jv_aload_n (q := 234) G 6 dL_law_233 rfl rfl rfl ?_
      refine jv_iconst (q := 235) (v := nI 0) G dL_law_234 (by decide) rfl ?_
      refine jv_lald (q := 236) G dL_law_235 ((f2.sh o).trans ho1) rfl (by omega) (by decide) ((f2.l ho1 rfl 0).trans (hL1 c5)) rfl ?_
      refine jv_iload (q := 238) G 0 dL_law_236 rfl rfl ?_
      refine jv_i2l (q := 239) G dL_law_238 rfl rfl ?_
      refine jv_lcmp (q := 240) G dL_law_239 rfl rfl ?_
      refine jv_if_eq (q := 243) (tgt := 245) G dL_law_240 (by decide) rfl (fun c6 => ?_) (fun c6 => ?_)
      · refine jv_goto (q := 2122) G dL_law_245 (by decide) ?_
        refine jv_lo [2, 3, 4, 5, 6] (lo' := [(4, .int (nI i)), (0, .ref b), (1, .ref (z 6 0)), (2, .ref m), (3, .ref o)]) rfl ?_
        exact kk _ _ _ _ ⟨_, _, f2.R cn_rsh hR1⟩ hM2 ((f2.sh o).trans ho1) (by omega) (by omega)
      · exact absurd (by rw [hr9 c5]; exact lg0 _) c6
  · exact absurd rfl c4
set_option maxHeartbeats 4000000 in
set_option maxRecDepth 100000 in
theorem lc_type {E : jv_E} {Q : State → Prop} (hlt : (jv_l E).stackTraces = false) (G : jv_C E cL_law RL 7) (Z : jv_rm E = jv_room 1000 601024 7293034) {b L : Nat} {xs : Nat → Int32} (S : lwS E b L xs) {z : Nat → Nat → Nat} {T : Nat → Nat} {N : Nat → Nat → Nat} {tO : Nat → Nat} {h : jv_H} {M : mA} (hR : cl_R z T N tO h M) {m : Nat} {q : Nat → Nat} (hM : rf_R m q h M) {o : Nat} (ho : jv_sh h o = some (.inr (.long, 1))) {i : Nat} (hi : i + 9 ≤ L) (hL : L ≤ 4608) {ce sl : Nat} (hc : ce ≤ 600000) (hs : sl ≤ 7000000) (kk : ∀ h' M' ce' sl', (∃ T N, cl_R z T N tO h' M') → rf_R m q h' M' → jv_sh h' o = some (.inr (.long, 1)) → ce' ≤ ce + 5 → sl' ≤ sl + 30 → jv_V E 7 h' ce' sl' Q 2122 [(4, .int (nI i)), (0, .ref b), (1, .ref (z 6 0)), (2, .ref m), (3, .ref o)] []) : jv_V E 7 h ce sl Q 248 [(4, .int (nI i)), (0, .ref b), (1, .ref (z 6 0)), (2, .ref m), (3, .ref o)] [] := by
  refine jv_aload_n (q := 249) G 2 dL_law_248 rfl rfl rfl ?_
  refine jv_aload_n (q := 250) G 1 dL_law_249 rfl rfl rfl ?_
  refine jv_iload (q := 252) G 0 dL_law_250 rfl rfl ?_
  refine jv_iconst (q := 253) (v := nI 1) G dL_law_252 (by decide) rfl ?_
  refine jv_iaddN (q := 254) G dL_law_253 rfl ?_
  refine jv_sld (q := 255) G S dL_law_254 (by omega) (by omega) rfl ?_
  refine jv_aload_n (q := 256) G 1 dL_law_255 rfl rfl rfl ?_
  refine jv_iload (q := 258) G 0 dL_law_256 rfl rfl ?_
  refine jv_iconst (q := 259) (v := nI 2) G dL_law_258 (by decide) rfl ?_
  refine jv_iaddN (q := 260) G dL_law_259 rfl ?_
  refine jv_sld (q := 261) G S dL_law_260 (by omega) (by omega) rfl ?_
  refine jv_aload_n (q := 262) G 1 dL_law_261 rfl rfl rfl ?_
  refine jv_iload (q := 264) G 0 dL_law_262 rfl rfl ?_
  refine jv_iconst (q := 265) (v := nI 3) G dL_law_264 (by decide) rfl ?_
  refine jv_iaddN (q := 266) G dL_law_265 rfl ?_
  refine jv_sld (q := 267) G S dL_law_266 (by omega) (by omega) rfl ?_
  refine jv_if_eq (q := 270) (tgt := 274) G dL_law_267 (by decide) rfl (fun c1 => ?_) (fun c1 => ?_)
  · refine jv_iconst (q := 275) (v := nI 0) G dL_law_274 (by decide) rfl ?_
    refine jv_aload_n (q := 276) G 1 dL_law_275 rfl rfl rfl ?_
    refine jv_iload (q := 278) G 0 dL_law_276 rfl rfl ?_
    refine jv_iconst (q := 279) (v := nI 4) G dL_law_278 (by decide) rfl ?_
    refine jv_iaddN (q := 280) G dL_law_279 rfl ?_
    refine jv_sld (q := 281) G S dL_law_280 (by omega) (by omega) rfl ?_
    refine jv_if_eq (q := 284) (tgt := 288) G dL_law_281 (by decide) rfl (fun c2 => ?_) (fun c2 => ?_)
    · refine jv_iconst (q := 289) (v := nI 0) G dL_law_288 (by decide) rfl ?_
      refine jv_aload_n (q := 290) G 1 dL_law_289 rfl rfl rfl ?_
      refine jv_iload (q := 292) G 0 dL_law_290 rfl rfl ?_
      refine jv_iconst (q := 293) (v := nI 5) G dL_law_292 (by decide) rfl ?_
      refine jv_iaddN (q := 294) G dL_law_293 rfl ?_
      refine jv_sld (q := 295) G S dL_law_294 (by omega) (by omega) rfl ?_
      refine jv_aload_n (q := 296) G 1 dL_law_295 rfl rfl rfl ?_
      refine jv_iload (q := 298) G 0 dL_law_296 rfl rfl ?_
      refine jv_bipush (q := 300) (v := nI 6) G dL_law_298 (by decide) rfl ?_
      refine jv_iaddN (q := 301) G dL_law_300 rfl ?_
      refine jv_sld (q := 302) G S dL_law_301 (by omega) (by omega) rfl ?_
      refine jv_if_eq (q := 305) (tgt := 309) G dL_law_302 (by decide) rfl (fun c3 => ?_) (fun c3 => ?_)
      · refine jv_iconst (q := 310) (v := nI 0) G dL_law_309 (by decide) rfl ?_
        refine jv_aload_n (q := 311) G 1 dL_law_310 rfl rfl rfl ?_
        refine jv_iload (q := 313) G 0 dL_law_311 rfl rfl ?_
        refine jv_bipush (q := 315) (v := nI 7) G dL_law_313 (by decide) rfl ?_
        refine jv_iaddN (q := 316) G dL_law_315 rfl ?_
        refine jv_sld (q := 317) G S dL_law_316 (by omega) (by omega) rfl ?_
        refine jv_aload_n (q := 318) G 4 dL_law_317 rfl rfl rfl ?_
        refine jv_callSH (q := 321) (As := [.ref (z 6 0), .int (xs (i + 1)), .int (xs (i + 2)), .int (nI 0), .int (nI 0), .int (xs (i + 5)), .int (nI 0), .int (xs (i + 7)), .ref o]) (rest := []) G Z ml_L_116 (w_type (p0 := (xs (i + 1))) (p1 := (xs (i + 2))) (p2 := false) (p3 := false) (p4 := (xs (i + 5))) (p5 := false) (p6 := (xs (i + 7))) hlt hR ho) dL_law_318 rfl (by decide) (by decide) (by omega) (by omega) (Nat.le_of_ble_eq_true rfl) rfl rfl (fun v1 h1 y1 => ?_)
        obtain ⟨rfl, hL1, ⟨T1, N1, hR1⟩, f1⟩ := y1
        show jv_V E 7 h1 (ce + 3) (sl + 18) Q 321 [(4, .int (nI i)), (0, .ref b), (1, .ref (z 6 0)), (2, .ref m), (3, .ref o)] [.int (nI ((m_ty M (xs (i + 1)) (xs (i + 2)) false false (xs (i + 5)) false (xs (i + 7))).1))]
        have hM1 := hM.sF f1; have ho1 := (f1.sh o).trans ho; have hle := le_type (M := M) (p0 := (xs (i + 1))) (p1 := (xs (i + 2))) (p2 := false) (p3 := false) (p4 := (xs (i + 5))) (p5 := false) (p6 := (xs (i + 7)))
        have hle : (m_ty M (xs (i + 1)) (xs (i + 2)) false false (xs (i + 5)) false (xs (i + 7))).1 ≤ 4 := Nat.le_trans hle (by decide)
        refine jv_istore (q := 323) (lo' := [(5, .int (nI ((m_ty M (xs (i + 1)) (xs (i + 2)) false false (xs (i + 5)) false (xs (i + 7))).1))), (4, .int (nI i)), (0, .ref b), (1, .ref (z 6 0)), (2, .ref m), (3, .ref o)]) G dL_law_321 (by decide) rfl rfl ?_
        refine jv_aload_n (q := 324) G 4 dL_law_323 rfl rfl rfl ?_
        refine jv_aload_n (q := 325) G 2 dL_law_324 rfl rfl rfl ?_
        refine jv_iload (q := 327) G 1 dL_law_325 rfl rfl ?_
        refine jv_iconst (q := 328) (v := nI 1) G dL_law_327 (by decide) rfl ?_
        refine jv_iaddN (q := 329) G dL_law_328 rfl ?_
        refine jv_sld (q := 330) G S dL_law_329 (by omega) (by omega) rfl ?_
        refine jv_aload_n (q := 331) G 2 dL_law_330 rfl rfl rfl ?_
        refine jv_iload (q := 333) G 1 dL_law_331 rfl rfl ?_
        refine jv_iconst (q := 334) (v := nI 2) G dL_law_333 (by decide) rfl ?_
        refine jv_iaddN (q := 335) G dL_law_334 rfl ?_
        refine jv_sld (q := 336) G S dL_law_335 (by omega) (by omega) rfl ?_
        refine jv_aload_n (q := 337) G 2 dL_law_336 rfl rfl rfl ?_
        refine jv_iload (q := 339) G 1 dL_law_337 rfl rfl ?_
        refine jv_iconst (q := 340) (v := nI 3) G dL_law_339 (by decide) rfl ?_
        refine jv_iaddN (q := 341) G dL_law_340 rfl ?_
        refine jv_sld (q := 342) G S dL_law_341 (by omega) (by omega) rfl ?_
        refine jv_if_eq (q := 345) (tgt := 349) G dL_law_342 (by decide) rfl (fun c4 => ?_) (fun c4 => ?_)
        · refine jv_iconst (q := 350) (v := nI 0) G dL_law_349 (by decide) rfl ?_
          refine jv_aload_n (q := 351) G 2 dL_law_350 rfl rfl rfl ?_
          refine jv_iload (q := 353) G 1 dL_law_351 rfl rfl ?_
          refine jv_iconst (q := 354) (v := nI 4) G dL_law_353 (by decide) rfl ?_
          refine jv_iaddN (q := 355) G dL_law_354 rfl ?_
          refine jv_sld (q := 356) G S dL_law_355 (by omega) (by omega) rfl ?_
          refine jv_if_eq (q := 359) (tgt := 363) G dL_law_356 (by decide) rfl (fun c5 => ?_) (fun c5 => ?_)
          · refine jv_iconst (q := 364) (v := nI 0) G dL_law_363 (by decide) rfl ?_
            refine jv_aload_n (q := 365) G 2 dL_law_364 rfl rfl rfl ?_
            refine jv_iload (q := 367) G 1 dL_law_365 rfl rfl ?_
            refine jv_iconst (q := 368) (v := nI 5) G dL_law_367 (by decide) rfl ?_
            refine jv_iaddN (q := 369) G dL_law_368 rfl ?_
            refine jv_sld (q := 370) G S dL_law_369 (by omega) (by omega) rfl ?_
            refine jv_aload_n (q := 371) G 2 dL_law_370 rfl rfl rfl ?_
            refine jv_iload (q := 373) G 1 dL_law_371 rfl rfl ?_
            refine jv_bipush (q := 375) (v := nI 6) G dL_law_373 (by decide) rfl ?_
            refine jv_iaddN (q := 376) G dL_law_375 rfl ?_
            refine jv_sld (q := 377) G S dL_law_376 (by omega) (by omega) rfl ?_
            refine jv_if_eq (q := 380) (tgt := 384) G dL_law_377 (by decide) rfl (fun c6 => ?_) (fun c6 => ?_)
            · refine jv_iconst (q := 385) (v := nI 0) G dL_law_384 (by decide) rfl ?_
              refine jv_aload_n (q := 386) G 2 dL_law_385 rfl rfl rfl ?_
              refine jv_iload (q := 388) G 1 dL_law_386 rfl rfl ?_
              refine jv_bipush (q := 390) (v := nI 7) G dL_law_388 (by decide) rfl ?_
              refine jv_iaddN (q := 391) G dL_law_390 rfl ?_
              refine jv_sld (q := 392) G S dL_law_391 (by omega) (by omega) rfl ?_
              refine jv_callV (q := 395) (As := [.int (xs (i + 1)), .int (xs (i + 2)), .int (nI 0), .int (nI 0), .int (xs (i + 5)), .int (nI 0), .int (xs (i + 7))]) (rest := []) G Z ml_L_119 ((show jv_Met _ _ _ _ _ _ _ _ _ _ (rO m q h1 (m_ty M (xs (i + 1)) (xs (i + 2)) false false (xs (i + 5)) false (xs (i + 7)))) _ from (r_type (e := (xs (i + 1))) (n := (xs (i + 2))) (i := false) (a := false) (p := (xs (i + 5))) (b := false) (s := (xs (i + 7))) hlt hM1).mono (fun _ _ y => rO_p hM1.1 y) (fun _ _ y => y))) hM1.1.1 dL_law_392 rfl (by decide) (by decide) (by omega) (by omega) (Nat.le_of_ble_eq_true rfl) rfl rfl (fun v8 h7 y9 => ?_) (fun _ _ hx => hx.elim)
              obtain ⟨r9, rfl, hr9, hth, hM2, f2⟩ := y9
              show jv_V E 7 h7 (ce + 3) (sl + 18) Q 395 [(5, .int (nI ((m_ty M (xs (i + 1)) (xs (i + 2)) false false (xs (i + 5)) false (xs (i + 7))).1))), (4, .int (nI i)), (0, .ref b), (1, .ref (z 6 0)), (2, .ref m), (3, .ref o)] [.int r9]
              refine jv_istore (q := 397) (lo' := [(6, .int r9), (5, .int (nI ((m_ty M (xs (i + 1)) (xs (i + 2)) false false (xs (i + 5)) false (xs (i + 7))).1))), (4, .int (nI i)), (0, .ref b), (1, .ref (z 6 0)), (2, .ref m), (3, .ref o)]) G dL_law_395 (by decide) rfl rfl ?_
              refine jv_aload_n (q := 398) G 5 dL_law_397 rfl rfl rfl ?_
              refine jv_callV_I (q := 401) (h1 := h7) (As := []) (rest := []) (ce' := ce + 3) (sl' := sl + 18) (r := nI ((m_ty M (xs (i + 1)) (xs (i + 2)) false false (xs (i + 5)) false (xs (i + 7))).1)) G Z ml_L_109 (r_thrown hlt hM2.1 hth) hM2.1.1 dL_law_398 rfl (by decide) (by decide) (by omega) (by omega) (Nat.le_of_ble_eq_true rfl) rfl rfl rfl rfl ?_
              refine jv_iload (q := 403) G 1 dL_law_401 rfl rfl ?_
              refine jv_icmp_eqN (q := 406) (tgt := 408) G dL_law_403 (by decide) rfl (by omega) (by omega) (fun c10 => ?_) (fun c10 => ?_)
              · refine jv_iload (q := 410) G 1 dL_law_408 rfl rfl ?_
                refine jv_if_neN (q := 413) (tgt := 425) G dL_law_410 (by decide) rfl (by omega) (fun c11 => ?_) (fun c11 => ?_)
                · refine jv_goto (q := 2122) G dL_law_425 (by decide) ?_
                  refine jv_lo [2, 3, 4, 5, 6] (lo' := [(4, .int (nI i)), (0, .ref b), (1, .ref (z 6 0)), (2, .ref m), (3, .ref o)]) rfl ?_
                  exact kk _ _ _ _ ⟨_, _, f2.R cn_rsh hR1⟩ hM2 ((f2.sh o).trans ho1) (by omega) (by omega)
                · refine jv_aload_n (q := 414) G 6 dL_law_413 rfl rfl rfl ?_
                  refine jv_iconst (q := 415) (v := nI 0) G dL_law_414 (by decide) rfl ?_
                  refine jv_lald (q := 416) G dL_law_415 ((f2.sh o).trans ho1) rfl (by omega) (by decide) ((f2.l ho1 rfl 0).trans (hL1 c11)) rfl ?_
                  refine jv_iload (q := 418) G 0 dL_law_416 rfl rfl ?_
                  refine jv_i2l (q := 419) G dL_law_418 rfl rfl ?_
                  refine jv_lcmp (q := 420) G dL_law_419 rfl rfl ?_
                  refine jv_if_eq (q := 423) (tgt := 425) G dL_law_420 (by decide) rfl (fun c12 => ?_) (fun c12 => ?_)
                  · refine jv_goto (q := 2122) G dL_law_425 (by decide) ?_
                    refine jv_lo [2, 3, 4, 5, 6] (lo' := [(4, .int (nI i)), (0, .ref b), (1, .ref (z 6 0)), (2, .ref m), (3, .ref o)]) rfl ?_
                    exact kk _ _ _ _ ⟨_, _, f2.R cn_rsh hR1⟩ hM2 ((f2.sh o).trans ho1) (by omega) (by omega)
                  · exact absurd (by rw [hr9 c11]; exact lg0 _) c12
              · exact absurd rfl c10
            · exact absurd c3 c6
          · exact absurd c2 c5
        · exact absurd c1 c4
      · refine jv_iconst (q := 306) (v := nI 1) G dL_law_305 (by decide) rfl ?_
        refine jv_goto (q := 310) G dL_law_306 (by decide) ?_
        refine jv_aload_n (q := 311) G 1 dL_law_310 rfl rfl rfl ?_
        refine jv_iload (q := 313) G 0 dL_law_311 rfl rfl ?_
        refine jv_bipush (q := 315) (v := nI 7) G dL_law_313 (by decide) rfl ?_
        refine jv_iaddN (q := 316) G dL_law_315 rfl ?_
        refine jv_sld (q := 317) G S dL_law_316 (by omega) (by omega) rfl ?_
        refine jv_aload_n (q := 318) G 4 dL_law_317 rfl rfl rfl ?_
        refine jv_callSH (q := 321) (As := [.ref (z 6 0), .int (xs (i + 1)), .int (xs (i + 2)), .int (nI 0), .int (nI 0), .int (xs (i + 5)), .int (nI 1), .int (xs (i + 7)), .ref o]) (rest := []) G Z ml_L_116 (w_type (p0 := (xs (i + 1))) (p1 := (xs (i + 2))) (p2 := false) (p3 := false) (p4 := (xs (i + 5))) (p5 := true) (p6 := (xs (i + 7))) hlt hR ho) dL_law_318 rfl (by decide) (by decide) (by omega) (by omega) (Nat.le_of_ble_eq_true rfl) rfl rfl (fun v1 h1 y1 => ?_)
        obtain ⟨rfl, hL1, ⟨T1, N1, hR1⟩, f1⟩ := y1
        show jv_V E 7 h1 (ce + 3) (sl + 18) Q 321 [(4, .int (nI i)), (0, .ref b), (1, .ref (z 6 0)), (2, .ref m), (3, .ref o)] [.int (nI ((m_ty M (xs (i + 1)) (xs (i + 2)) false false (xs (i + 5)) true (xs (i + 7))).1))]
        have hM1 := hM.sF f1; have ho1 := (f1.sh o).trans ho; have hle := le_type (M := M) (p0 := (xs (i + 1))) (p1 := (xs (i + 2))) (p2 := false) (p3 := false) (p4 := (xs (i + 5))) (p5 := true) (p6 := (xs (i + 7)))
        have hle : (m_ty M (xs (i + 1)) (xs (i + 2)) false false (xs (i + 5)) true (xs (i + 7))).1 ≤ 4 := Nat.le_trans hle (by decide)
        refine jv_istore (q := 323) (lo' := [(5, .int (nI ((m_ty M (xs (i + 1)) (xs (i + 2)) false false (xs (i + 5)) true (xs (i + 7))).1))), (4, .int (nI i)), (0, .ref b), (1, .ref (z 6 0)), (2, .ref m), (3, .ref o)]) G dL_law_321 (by decide) rfl rfl ?_
        refine jv_aload_n (q := 324) G 4 dL_law_323 rfl rfl rfl ?_
        refine jv_aload_n (q := 325) G 2 dL_law_324 rfl rfl rfl ?_
        refine jv_iload (q := 327) G 1 dL_law_325 rfl rfl ?_
        refine jv_iconst (q := 328) (v := nI 1) G dL_law_327 (by decide) rfl ?_
        refine jv_iaddN (q := 329) G dL_law_328 rfl ?_
        refine jv_sld (q := 330) G S dL_law_329 (by omega) (by omega) rfl ?_
        refine jv_aload_n (q := 331) G 2 dL_law_330 rfl rfl rfl ?_
        refine jv_iload (q := 333) G 1 dL_law_331 rfl rfl ?_
        refine jv_iconst (q := 334) (v := nI 2) G dL_law_333 (by decide) rfl ?_
        refine jv_iaddN (q := 335) G dL_law_334 rfl ?_
        refine jv_sld (q := 336) G S dL_law_335 (by omega) (by omega) rfl ?_
        refine jv_aload_n (q := 337) G 2 dL_law_336 rfl rfl rfl ?_
        refine jv_iload (q := 339) G 1 dL_law_337 rfl rfl ?_
        refine jv_iconst (q := 340) (v := nI 3) G dL_law_339 (by decide) rfl ?_
        refine jv_iaddN (q := 341) G dL_law_340 rfl ?_
        refine jv_sld (q := 342) G S dL_law_341 (by omega) (by omega) rfl ?_
        refine jv_if_eq (q := 345) (tgt := 349) G dL_law_342 (by decide) rfl (fun c13 => ?_) (fun c13 => ?_)
        · refine jv_iconst (q := 350) (v := nI 0) G dL_law_349 (by decide) rfl ?_
          refine jv_aload_n (q := 351) G 2 dL_law_350 rfl rfl rfl ?_
          refine jv_iload (q := 353) G 1 dL_law_351 rfl rfl ?_
          refine jv_iconst (q := 354) (v := nI 4) G dL_law_353 (by decide) rfl ?_
          refine jv_iaddN (q := 355) G dL_law_354 rfl ?_
          refine jv_sld (q := 356) G S dL_law_355 (by omega) (by omega) rfl ?_
          refine jv_if_eq (q := 359) (tgt := 363) G dL_law_356 (by decide) rfl (fun c14 => ?_) (fun c14 => ?_)
          · refine jv_iconst (q := 364) (v := nI 0) G dL_law_363 (by decide) rfl ?_
            refine jv_aload_n (q := 365) G 2 dL_law_364 rfl rfl rfl ?_
            refine jv_iload (q := 367) G 1 dL_law_365 rfl rfl ?_
            refine jv_iconst (q := 368) (v := nI 5) G dL_law_367 (by decide) rfl ?_
            refine jv_iaddN (q := 369) G dL_law_368 rfl ?_
            refine jv_sld (q := 370) G S dL_law_369 (by omega) (by omega) rfl ?_
            refine jv_aload_n (q := 371) G 2 dL_law_370 rfl rfl rfl ?_
            refine jv_iload (q := 373) G 1 dL_law_371 rfl rfl ?_
            refine jv_bipush (q := 375) (v := nI 6) G dL_law_373 (by decide) rfl ?_
            refine jv_iaddN (q := 376) G dL_law_375 rfl ?_
            refine jv_sld (q := 377) G S dL_law_376 (by omega) (by omega) rfl ?_
            refine jv_if_eq (q := 380) (tgt := 384) G dL_law_377 (by decide) rfl (fun c15 => ?_) (fun c15 => ?_)
            · exact absurd c15 c3
            · refine jv_iconst (q := 381) (v := nI 1) G dL_law_380 (by decide) rfl ?_
              refine jv_goto (q := 385) G dL_law_381 (by decide) ?_
              refine jv_aload_n (q := 386) G 2 dL_law_385 rfl rfl rfl ?_
              refine jv_iload (q := 388) G 1 dL_law_386 rfl rfl ?_
              refine jv_bipush (q := 390) (v := nI 7) G dL_law_388 (by decide) rfl ?_
              refine jv_iaddN (q := 391) G dL_law_390 rfl ?_
              refine jv_sld (q := 392) G S dL_law_391 (by omega) (by omega) rfl ?_
              refine jv_callV (q := 395) (As := [.int (xs (i + 1)), .int (xs (i + 2)), .int (nI 0), .int (nI 0), .int (xs (i + 5)), .int (nI 1), .int (xs (i + 7))]) (rest := []) G Z ml_L_119 ((show jv_Met _ _ _ _ _ _ _ _ _ _ (rO m q h1 (m_ty M (xs (i + 1)) (xs (i + 2)) false false (xs (i + 5)) true (xs (i + 7)))) _ from (r_type (e := (xs (i + 1))) (n := (xs (i + 2))) (i := false) (a := false) (p := (xs (i + 5))) (b := true) (s := (xs (i + 7))) hlt hM1).mono (fun _ _ y => rO_p hM1.1 y) (fun _ _ y => y))) hM1.1.1 dL_law_392 rfl (by decide) (by decide) (by omega) (by omega) (Nat.le_of_ble_eq_true rfl) rfl rfl (fun v17 h16 y18 => ?_) (fun _ _ hx => hx.elim)
              obtain ⟨r9, rfl, hr9, hth, hM2, f2⟩ := y18
              show jv_V E 7 h16 (ce + 3) (sl + 18) Q 395 [(5, .int (nI ((m_ty M (xs (i + 1)) (xs (i + 2)) false false (xs (i + 5)) true (xs (i + 7))).1))), (4, .int (nI i)), (0, .ref b), (1, .ref (z 6 0)), (2, .ref m), (3, .ref o)] [.int r9]
              refine jv_istore (q := 397) (lo' := [(6, .int r9), (5, .int (nI ((m_ty M (xs (i + 1)) (xs (i + 2)) false false (xs (i + 5)) true (xs (i + 7))).1))), (4, .int (nI i)), (0, .ref b), (1, .ref (z 6 0)), (2, .ref m), (3, .ref o)]) G dL_law_395 (by decide) rfl rfl ?_
              refine jv_aload_n (q := 398) G 5 dL_law_397 rfl rfl rfl ?_
              refine jv_callV_I (q := 401) (h1 := h16) (As := []) (rest := []) (ce' := ce + 3) (sl' := sl + 18) (r := nI ((m_ty M (xs (i + 1)) (xs (i + 2)) false false (xs (i + 5)) true (xs (i + 7))).1)) G Z ml_L_109 (r_thrown hlt hM2.1 hth) hM2.1.1 dL_law_398 rfl (by decide) (by decide) (by omega) (by omega) (Nat.le_of_ble_eq_true rfl) rfl rfl rfl rfl ?_
              refine jv_iload (q := 403) G 1 dL_law_401 rfl rfl ?_
              refine jv_icmp_eqN (q := 406) (tgt := 408) G dL_law_403 (by decide) rfl (by omega) (by omega) (fun c19 => ?_) (fun c19 => ?_)
              · refine jv_iload (q := 410) G 1 dL_law_408 rfl rfl ?_
                refine jv_if_neN (q := 413) (tgt := 425) G dL_law_410 (by decide) rfl (by omega) (fun c20 => ?_) (fun c20 => ?_)
                · refine jv_goto (q := 2122) G dL_law_425 (by decide) ?_
                  refine jv_lo [2, 3, 4, 5, 6] (lo' := [(4, .int (nI i)), (0, .ref b), (1, .ref (z 6 0)), (2, .ref m), (3, .ref o)]) rfl ?_
                  exact kk _ _ _ _ ⟨_, _, f2.R cn_rsh hR1⟩ hM2 ((f2.sh o).trans ho1) (by omega) (by omega)
                · refine jv_aload_n (q := 414) G 6 dL_law_413 rfl rfl rfl ?_
                  refine jv_iconst (q := 415) (v := nI 0) G dL_law_414 (by decide) rfl ?_
                  refine jv_lald (q := 416) G dL_law_415 ((f2.sh o).trans ho1) rfl (by omega) (by decide) ((f2.l ho1 rfl 0).trans (hL1 c20)) rfl ?_
                  refine jv_iload (q := 418) G 0 dL_law_416 rfl rfl ?_
                  refine jv_i2l (q := 419) G dL_law_418 rfl rfl ?_
                  refine jv_lcmp (q := 420) G dL_law_419 rfl rfl ?_
                  refine jv_if_eq (q := 423) (tgt := 425) G dL_law_420 (by decide) rfl (fun c21 => ?_) (fun c21 => ?_)
                  · refine jv_goto (q := 2122) G dL_law_425 (by decide) ?_
                    refine jv_lo [2, 3, 4, 5, 6] (lo' := [(4, .int (nI i)), (0, .ref b), (1, .ref (z 6 0)), (2, .ref m), (3, .ref o)]) rfl ?_
                    exact kk _ _ _ _ ⟨_, _, f2.R cn_rsh hR1⟩ hM2 ((f2.sh o).trans ho1) (by omega) (by omega)
                  · exact absurd (by rw [hr9 c20]; exact lg0 _) c21
              · exact absurd rfl c19
          · exact absurd c2 c14
        · exact absurd c1 c13
    · refine jv_iconst (q := 285) (v := nI 1) G dL_law_284 (by decide) rfl ?_
      refine jv_goto (q := 289) G dL_law_285 (by decide) ?_
      refine jv_aload_n (q := 290) G 1 dL_law_289 rfl rfl rfl ?_
      refine jv_iload (q := 292) G 0 dL_law_290 rfl rfl ?_
      refine jv_iconst (q := 293) (v := nI 5) G dL_law_292 (by decide) rfl ?_
      refine jv_iaddN (q := 294) G dL_law_293 rfl ?_
      refine jv_sld (q := 295) G S dL_law_294 (by omega) (by omega) rfl ?_
      refine jv_aload_n (q := 296) G 1 dL_law_295 rfl rfl rfl ?_
      refine jv_iload (q := 298) G 0 dL_law_296 rfl rfl ?_
      refine jv_bipush (q := 300) (v := nI 6) G dL_law_298 (by decide) rfl ?_
      refine jv_iaddN (q := 301) G dL_law_300 rfl ?_
      refine jv_sld (q := 302) G S dL_law_301 (by omega) (by omega) rfl ?_
      refine jv_if_eq (q := 305) (tgt := 309) G dL_law_302 (by decide) rfl (fun c22 => ?_) (fun c22 => ?_)
      · refine jv_iconst (q := 310) (v := nI 0) G dL_law_309 (by decide) rfl ?_
        refine jv_aload_n (q := 311) G 1 dL_law_310 rfl rfl rfl ?_
        refine jv_iload (q := 313) G 0 dL_law_311 rfl rfl ?_
        refine jv_bipush (q := 315) (v := nI 7) G dL_law_313 (by decide) rfl ?_
        refine jv_iaddN (q := 316) G dL_law_315 rfl ?_
        refine jv_sld (q := 317) G S dL_law_316 (by omega) (by omega) rfl ?_
        refine jv_aload_n (q := 318) G 4 dL_law_317 rfl rfl rfl ?_
        refine jv_callSH (q := 321) (As := [.ref (z 6 0), .int (xs (i + 1)), .int (xs (i + 2)), .int (nI 0), .int (nI 1), .int (xs (i + 5)), .int (nI 0), .int (xs (i + 7)), .ref o]) (rest := []) G Z ml_L_116 (w_type (p0 := (xs (i + 1))) (p1 := (xs (i + 2))) (p2 := false) (p3 := true) (p4 := (xs (i + 5))) (p5 := false) (p6 := (xs (i + 7))) hlt hR ho) dL_law_318 rfl (by decide) (by decide) (by omega) (by omega) (Nat.le_of_ble_eq_true rfl) rfl rfl (fun v1 h1 y1 => ?_)
        obtain ⟨rfl, hL1, ⟨T1, N1, hR1⟩, f1⟩ := y1
        show jv_V E 7 h1 (ce + 3) (sl + 18) Q 321 [(4, .int (nI i)), (0, .ref b), (1, .ref (z 6 0)), (2, .ref m), (3, .ref o)] [.int (nI ((m_ty M (xs (i + 1)) (xs (i + 2)) false true (xs (i + 5)) false (xs (i + 7))).1))]
        have hM1 := hM.sF f1; have ho1 := (f1.sh o).trans ho; have hle := le_type (M := M) (p0 := (xs (i + 1))) (p1 := (xs (i + 2))) (p2 := false) (p3 := true) (p4 := (xs (i + 5))) (p5 := false) (p6 := (xs (i + 7)))
        have hle : (m_ty M (xs (i + 1)) (xs (i + 2)) false true (xs (i + 5)) false (xs (i + 7))).1 ≤ 4 := Nat.le_trans hle (by decide)
        refine jv_istore (q := 323) (lo' := [(5, .int (nI ((m_ty M (xs (i + 1)) (xs (i + 2)) false true (xs (i + 5)) false (xs (i + 7))).1))), (4, .int (nI i)), (0, .ref b), (1, .ref (z 6 0)), (2, .ref m), (3, .ref o)]) G dL_law_321 (by decide) rfl rfl ?_
        refine jv_aload_n (q := 324) G 4 dL_law_323 rfl rfl rfl ?_
        refine jv_aload_n (q := 325) G 2 dL_law_324 rfl rfl rfl ?_
        refine jv_iload (q := 327) G 1 dL_law_325 rfl rfl ?_
        refine jv_iconst (q := 328) (v := nI 1) G dL_law_327 (by decide) rfl ?_
        refine jv_iaddN (q := 329) G dL_law_328 rfl ?_
        refine jv_sld (q := 330) G S dL_law_329 (by omega) (by omega) rfl ?_
        refine jv_aload_n (q := 331) G 2 dL_law_330 rfl rfl rfl ?_
        refine jv_iload (q := 333) G 1 dL_law_331 rfl rfl ?_
        refine jv_iconst (q := 334) (v := nI 2) G dL_law_333 (by decide) rfl ?_
        refine jv_iaddN (q := 335) G dL_law_334 rfl ?_
        refine jv_sld (q := 336) G S dL_law_335 (by omega) (by omega) rfl ?_
        refine jv_aload_n (q := 337) G 2 dL_law_336 rfl rfl rfl ?_
        refine jv_iload (q := 339) G 1 dL_law_337 rfl rfl ?_
        refine jv_iconst (q := 340) (v := nI 3) G dL_law_339 (by decide) rfl ?_
        refine jv_iaddN (q := 341) G dL_law_340 rfl ?_
        refine jv_sld (q := 342) G S dL_law_341 (by omega) (by omega) rfl ?_
        refine jv_if_eq (q := 345) (tgt := 349) G dL_law_342 (by decide) rfl (fun c23 => ?_) (fun c23 => ?_)
        · refine jv_iconst (q := 350) (v := nI 0) G dL_law_349 (by decide) rfl ?_
          refine jv_aload_n (q := 351) G 2 dL_law_350 rfl rfl rfl ?_
          refine jv_iload (q := 353) G 1 dL_law_351 rfl rfl ?_
          refine jv_iconst (q := 354) (v := nI 4) G dL_law_353 (by decide) rfl ?_
          refine jv_iaddN (q := 355) G dL_law_354 rfl ?_
          refine jv_sld (q := 356) G S dL_law_355 (by omega) (by omega) rfl ?_
          refine jv_if_eq (q := 359) (tgt := 363) G dL_law_356 (by decide) rfl (fun c24 => ?_) (fun c24 => ?_)
          · exact absurd c24 c2
          · refine jv_iconst (q := 360) (v := nI 1) G dL_law_359 (by decide) rfl ?_
            refine jv_goto (q := 364) G dL_law_360 (by decide) ?_
            refine jv_aload_n (q := 365) G 2 dL_law_364 rfl rfl rfl ?_
            refine jv_iload (q := 367) G 1 dL_law_365 rfl rfl ?_
            refine jv_iconst (q := 368) (v := nI 5) G dL_law_367 (by decide) rfl ?_
            refine jv_iaddN (q := 369) G dL_law_368 rfl ?_
            refine jv_sld (q := 370) G S dL_law_369 (by omega) (by omega) rfl ?_
            refine jv_aload_n (q := 371) G 2 dL_law_370 rfl rfl rfl ?_
            refine jv_iload (q := 373) G 1 dL_law_371 rfl rfl ?_
            refine jv_bipush (q := 375) (v := nI 6) G dL_law_373 (by decide) rfl ?_
            refine jv_iaddN (q := 376) G dL_law_375 rfl ?_
            refine jv_sld (q := 377) G S dL_law_376 (by omega) (by omega) rfl ?_
            refine jv_if_eq (q := 380) (tgt := 384) G dL_law_377 (by decide) rfl (fun c25 => ?_) (fun c25 => ?_)
            · refine jv_iconst (q := 385) (v := nI 0) G dL_law_384 (by decide) rfl ?_
              refine jv_aload_n (q := 386) G 2 dL_law_385 rfl rfl rfl ?_
              refine jv_iload (q := 388) G 1 dL_law_386 rfl rfl ?_
              refine jv_bipush (q := 390) (v := nI 7) G dL_law_388 (by decide) rfl ?_
              refine jv_iaddN (q := 391) G dL_law_390 rfl ?_
              refine jv_sld (q := 392) G S dL_law_391 (by omega) (by omega) rfl ?_
              refine jv_callV (q := 395) (As := [.int (xs (i + 1)), .int (xs (i + 2)), .int (nI 0), .int (nI 1), .int (xs (i + 5)), .int (nI 0), .int (xs (i + 7))]) (rest := []) G Z ml_L_119 ((show jv_Met _ _ _ _ _ _ _ _ _ _ (rO m q h1 (m_ty M (xs (i + 1)) (xs (i + 2)) false true (xs (i + 5)) false (xs (i + 7)))) _ from (r_type (e := (xs (i + 1))) (n := (xs (i + 2))) (i := false) (a := true) (p := (xs (i + 5))) (b := false) (s := (xs (i + 7))) hlt hM1).mono (fun _ _ y => rO_p hM1.1 y) (fun _ _ y => y))) hM1.1.1 dL_law_392 rfl (by decide) (by decide) (by omega) (by omega) (Nat.le_of_ble_eq_true rfl) rfl rfl (fun v27 h26 y28 => ?_) (fun _ _ hx => hx.elim)
              obtain ⟨r9, rfl, hr9, hth, hM2, f2⟩ := y28
              show jv_V E 7 h26 (ce + 3) (sl + 18) Q 395 [(5, .int (nI ((m_ty M (xs (i + 1)) (xs (i + 2)) false true (xs (i + 5)) false (xs (i + 7))).1))), (4, .int (nI i)), (0, .ref b), (1, .ref (z 6 0)), (2, .ref m), (3, .ref o)] [.int r9]
              refine jv_istore (q := 397) (lo' := [(6, .int r9), (5, .int (nI ((m_ty M (xs (i + 1)) (xs (i + 2)) false true (xs (i + 5)) false (xs (i + 7))).1))), (4, .int (nI i)), (0, .ref b), (1, .ref (z 6 0)), (2, .ref m), (3, .ref o)]) G dL_law_395 (by decide) rfl rfl ?_
              refine jv_aload_n (q := 398) G 5 dL_law_397 rfl rfl rfl ?_
              refine jv_callV_I (q := 401) (h1 := h26) (As := []) (rest := []) (ce' := ce + 3) (sl' := sl + 18) (r := nI ((m_ty M (xs (i + 1)) (xs (i + 2)) false true (xs (i + 5)) false (xs (i + 7))).1)) G Z ml_L_109 (r_thrown hlt hM2.1 hth) hM2.1.1 dL_law_398 rfl (by decide) (by decide) (by omega) (by omega) (Nat.le_of_ble_eq_true rfl) rfl rfl rfl rfl ?_
              refine jv_iload (q := 403) G 1 dL_law_401 rfl rfl ?_
              refine jv_icmp_eqN (q := 406) (tgt := 408) G dL_law_403 (by decide) rfl (by omega) (by omega) (fun c29 => ?_) (fun c29 => ?_)
              · refine jv_iload (q := 410) G 1 dL_law_408 rfl rfl ?_
                refine jv_if_neN (q := 413) (tgt := 425) G dL_law_410 (by decide) rfl (by omega) (fun c30 => ?_) (fun c30 => ?_)
                · refine jv_goto (q := 2122) G dL_law_425 (by decide) ?_
                  refine jv_lo [2, 3, 4, 5, 6] (lo' := [(4, .int (nI i)), (0, .ref b), (1, .ref (z 6 0)), (2, .ref m), (3, .ref o)]) rfl ?_
                  exact kk _ _ _ _ ⟨_, _, f2.R cn_rsh hR1⟩ hM2 ((f2.sh o).trans ho1) (by omega) (by omega)
                · refine jv_aload_n (q := 414) G 6 dL_law_413 rfl rfl rfl ?_
                  refine jv_iconst (q := 415) (v := nI 0) G dL_law_414 (by decide) rfl ?_
                  refine jv_lald (q := 416) G dL_law_415 ((f2.sh o).trans ho1) rfl (by omega) (by decide) ((f2.l ho1 rfl 0).trans (hL1 c30)) rfl ?_
                  refine jv_iload (q := 418) G 0 dL_law_416 rfl rfl ?_
                  refine jv_i2l (q := 419) G dL_law_418 rfl rfl ?_
                  refine jv_lcmp (q := 420) G dL_law_419 rfl rfl ?_
                  refine jv_if_eq (q := 423) (tgt := 425) G dL_law_420 (by decide) rfl (fun c31 => ?_) (fun c31 => ?_)
                  · refine jv_goto (q := 2122) G dL_law_425 (by decide) ?_
                    refine jv_lo [2, 3, 4, 5, 6] (lo' := [(4, .int (nI i)), (0, .ref b), (1, .ref (z 6 0)), (2, .ref m), (3, .ref o)]) rfl ?_
                    exact kk _ _ _ _ ⟨_, _, f2.R cn_rsh hR1⟩ hM2 ((f2.sh o).trans ho1) (by omega) (by omega)
                  · exact absurd (by rw [hr9 c30]; exact lg0 _) c31
              · exact absurd rfl c29
            · exact absurd c22 c25
        · exact absurd c1 c23
      · refine jv_iconst (q := 306) (v := nI 1) G dL_law_305 (by decide) rfl ?_
        refine jv_goto (q := 310) G dL_law_306 (by decide) ?_
        refine jv_aload_n (q := 311) G 1 dL_law_310 rfl rfl rfl ?_
        refine jv_iload (q := 313) G 0 dL_law_311 rfl rfl ?_
        refine jv_bipush (q := 315) (v := nI 7) G dL_law_313 (by decide) rfl ?_
        refine jv_iaddN (q := 316) G dL_law_315 rfl ?_
        refine jv_sld (q := 317) G S dL_law_316 (by omega) (by omega) rfl ?_
        refine jv_aload_n (q := 318) G 4 dL_law_317 rfl rfl rfl ?_
        refine jv_callSH (q := 321) (As := [.ref (z 6 0), .int (xs (i + 1)), .int (xs (i + 2)), .int (nI 0), .int (nI 1), .int (xs (i + 5)), .int (nI 1), .int (xs (i + 7)), .ref o]) (rest := []) G Z ml_L_116 (w_type (p0 := (xs (i + 1))) (p1 := (xs (i + 2))) (p2 := false) (p3 := true) (p4 := (xs (i + 5))) (p5 := true) (p6 := (xs (i + 7))) hlt hR ho) dL_law_318 rfl (by decide) (by decide) (by omega) (by omega) (Nat.le_of_ble_eq_true rfl) rfl rfl (fun v1 h1 y1 => ?_)
        obtain ⟨rfl, hL1, ⟨T1, N1, hR1⟩, f1⟩ := y1
        show jv_V E 7 h1 (ce + 3) (sl + 18) Q 321 [(4, .int (nI i)), (0, .ref b), (1, .ref (z 6 0)), (2, .ref m), (3, .ref o)] [.int (nI ((m_ty M (xs (i + 1)) (xs (i + 2)) false true (xs (i + 5)) true (xs (i + 7))).1))]
        have hM1 := hM.sF f1; have ho1 := (f1.sh o).trans ho; have hle := le_type (M := M) (p0 := (xs (i + 1))) (p1 := (xs (i + 2))) (p2 := false) (p3 := true) (p4 := (xs (i + 5))) (p5 := true) (p6 := (xs (i + 7)))
        have hle : (m_ty M (xs (i + 1)) (xs (i + 2)) false true (xs (i + 5)) true (xs (i + 7))).1 ≤ 4 := Nat.le_trans hle (by decide)
        refine jv_istore (q := 323) (lo' := [(5, .int (nI ((m_ty M (xs (i + 1)) (xs (i + 2)) false true (xs (i + 5)) true (xs (i + 7))).1))), (4, .int (nI i)), (0, .ref b), (1, .ref (z 6 0)), (2, .ref m), (3, .ref o)]) G dL_law_321 (by decide) rfl rfl ?_
        refine jv_aload_n (q := 324) G 4 dL_law_323 rfl rfl rfl ?_
        refine jv_aload_n (q := 325) G 2 dL_law_324 rfl rfl rfl ?_
        refine jv_iload (q := 327) G 1 dL_law_325 rfl rfl ?_
        refine jv_iconst (q := 328) (v := nI 1) G dL_law_327 (by decide) rfl ?_
        refine jv_iaddN (q := 329) G dL_law_328 rfl ?_
        refine jv_sld (q := 330) G S dL_law_329 (by omega) (by omega) rfl ?_
        refine jv_aload_n (q := 331) G 2 dL_law_330 rfl rfl rfl ?_
        refine jv_iload (q := 333) G 1 dL_law_331 rfl rfl ?_
        refine jv_iconst (q := 334) (v := nI 2) G dL_law_333 (by decide) rfl ?_
        refine jv_iaddN (q := 335) G dL_law_334 rfl ?_
        refine jv_sld (q := 336) G S dL_law_335 (by omega) (by omega) rfl ?_
        refine jv_aload_n (q := 337) G 2 dL_law_336 rfl rfl rfl ?_
        refine jv_iload (q := 339) G 1 dL_law_337 rfl rfl ?_
        refine jv_iconst (q := 340) (v := nI 3) G dL_law_339 (by decide) rfl ?_
        refine jv_iaddN (q := 341) G dL_law_340 rfl ?_
        refine jv_sld (q := 342) G S dL_law_341 (by omega) (by omega) rfl ?_
        refine jv_if_eq (q := 345) (tgt := 349) G dL_law_342 (by decide) rfl (fun c32 => ?_) (fun c32 => ?_)
        · refine jv_iconst (q := 350) (v := nI 0) G dL_law_349 (by decide) rfl ?_
          refine jv_aload_n (q := 351) G 2 dL_law_350 rfl rfl rfl ?_
          refine jv_iload (q := 353) G 1 dL_law_351 rfl rfl ?_
          refine jv_iconst (q := 354) (v := nI 4) G dL_law_353 (by decide) rfl ?_
          refine jv_iaddN (q := 355) G dL_law_354 rfl ?_
          refine jv_sld (q := 356) G S dL_law_355 (by omega) (by omega) rfl ?_
          refine jv_if_eq (q := 359) (tgt := 363) G dL_law_356 (by decide) rfl (fun c33 => ?_) (fun c33 => ?_)
          · exact absurd c33 c2
          · refine jv_iconst (q := 360) (v := nI 1) G dL_law_359 (by decide) rfl ?_
            refine jv_goto (q := 364) G dL_law_360 (by decide) ?_
            refine jv_aload_n (q := 365) G 2 dL_law_364 rfl rfl rfl ?_
            refine jv_iload (q := 367) G 1 dL_law_365 rfl rfl ?_
            refine jv_iconst (q := 368) (v := nI 5) G dL_law_367 (by decide) rfl ?_
            refine jv_iaddN (q := 369) G dL_law_368 rfl ?_
            refine jv_sld (q := 370) G S dL_law_369 (by omega) (by omega) rfl ?_
            refine jv_aload_n (q := 371) G 2 dL_law_370 rfl rfl rfl ?_
            refine jv_iload (q := 373) G 1 dL_law_371 rfl rfl ?_
            refine jv_bipush (q := 375) (v := nI 6) G dL_law_373 (by decide) rfl ?_
            refine jv_iaddN (q := 376) G dL_law_375 rfl ?_
            refine jv_sld (q := 377) G S dL_law_376 (by omega) (by omega) rfl ?_
            refine jv_if_eq (q := 380) (tgt := 384) G dL_law_377 (by decide) rfl (fun c34 => ?_) (fun c34 => ?_)
            · exact absurd c34 c22
            · refine jv_iconst (q := 381) (v := nI 1) G dL_law_380 (by decide) rfl ?_
              refine jv_goto (q := 385) G dL_law_381 (by decide) ?_
              refine jv_aload_n (q := 386) G 2 dL_law_385 rfl rfl rfl ?_
              refine jv_iload (q := 388) G 1 dL_law_386 rfl rfl ?_
              refine jv_bipush (q := 390) (v := nI 7) G dL_law_388 (by decide) rfl ?_
              refine jv_iaddN (q := 391) G dL_law_390 rfl ?_
              refine jv_sld (q := 392) G S dL_law_391 (by omega) (by omega) rfl ?_
              refine jv_callV (q := 395) (As := [.int (xs (i + 1)), .int (xs (i + 2)), .int (nI 0), .int (nI 1), .int (xs (i + 5)), .int (nI 1), .int (xs (i + 7))]) (rest := []) G Z ml_L_119 ((show jv_Met _ _ _ _ _ _ _ _ _ _ (rO m q h1 (m_ty M (xs (i + 1)) (xs (i + 2)) false true (xs (i + 5)) true (xs (i + 7)))) _ from (r_type (e := (xs (i + 1))) (n := (xs (i + 2))) (i := false) (a := true) (p := (xs (i + 5))) (b := true) (s := (xs (i + 7))) hlt hM1).mono (fun _ _ y => rO_p hM1.1 y) (fun _ _ y => y))) hM1.1.1 dL_law_392 rfl (by decide) (by decide) (by omega) (by omega) (Nat.le_of_ble_eq_true rfl) rfl rfl (fun v36 h35 y37 => ?_) (fun _ _ hx => hx.elim)
              obtain ⟨r9, rfl, hr9, hth, hM2, f2⟩ := y37
              show jv_V E 7 h35 (ce + 3) (sl + 18) Q 395 [(5, .int (nI ((m_ty M (xs (i + 1)) (xs (i + 2)) false true (xs (i + 5)) true (xs (i + 7))).1))), (4, .int (nI i)), (0, .ref b), (1, .ref (z 6 0)), (2, .ref m), (3, .ref o)] [.int r9]
              refine jv_istore (q := 397) (lo' := [(6, .int r9), (5, .int (nI ((m_ty M (xs (i + 1)) (xs (i + 2)) false true (xs (i + 5)) true (xs (i + 7))).1))), (4, .int (nI i)), (0, .ref b), (1, .ref (z 6 0)), (2, .ref m), (3, .ref o)]) G dL_law_395 (by decide) rfl rfl ?_
              refine jv_aload_n (q := 398) G 5 dL_law_397 rfl rfl rfl ?_
              refine jv_callV_I (q := 401) (h1 := h35) (As := []) (rest := []) (ce' := ce + 3) (sl' := sl + 18) (r := nI ((m_ty M (xs (i + 1)) (xs (i + 2)) false true (xs (i + 5)) true (xs (i + 7))).1)) G Z ml_L_109 (r_thrown hlt hM2.1 hth) hM2.1.1 dL_law_398 rfl (by decide) (by decide) (by omega) (by omega) (Nat.le_of_ble_eq_true rfl) rfl rfl rfl rfl ?_
              refine jv_iload (q := 403) G 1 dL_law_401 rfl rfl ?_
              refine jv_icmp_eqN (q := 406) (tgt := 408) G dL_law_403 (by decide) rfl (by omega) (by omega) (fun c38 => ?_) (fun c38 => ?_)
              · refine jv_iload (q := 410) G 1 dL_law_408 rfl rfl ?_
                refine jv_if_neN (q := 413) (tgt := 425) G dL_law_410 (by decide) rfl (by omega) (fun c39 => ?_) (fun c39 => ?_)
                · refine jv_goto (q := 2122) G dL_law_425 (by decide) ?_
                  refine jv_lo [2, 3, 4, 5, 6] (lo' := [(4, .int (nI i)), (0, .ref b), (1, .ref (z 6 0)), (2, .ref m), (3, .ref o)]) rfl ?_
                  exact kk _ _ _ _ ⟨_, _, f2.R cn_rsh hR1⟩ hM2 ((f2.sh o).trans ho1) (by omega) (by omega)
                · refine jv_aload_n (q := 414) G 6 dL_law_413 rfl rfl rfl ?_
                  refine jv_iconst (q := 415) (v := nI 0) G dL_law_414 (by decide) rfl ?_
                  refine jv_lald (q := 416) G dL_law_415 ((f2.sh o).trans ho1) rfl (by omega) (by decide) ((f2.l ho1 rfl 0).trans (hL1 c39)) rfl ?_
                  refine jv_iload (q := 418) G 0 dL_law_416 rfl rfl ?_
                  refine jv_i2l (q := 419) G dL_law_418 rfl rfl ?_
                  refine jv_lcmp (q := 420) G dL_law_419 rfl rfl ?_
                  refine jv_if_eq (q := 423) (tgt := 425) G dL_law_420 (by decide) rfl (fun c40 => ?_) (fun c40 => ?_)
                  · refine jv_goto (q := 2122) G dL_law_425 (by decide) ?_
                    refine jv_lo [2, 3, 4, 5, 6] (lo' := [(4, .int (nI i)), (0, .ref b), (1, .ref (z 6 0)), (2, .ref m), (3, .ref o)]) rfl ?_
                    exact kk _ _ _ _ ⟨_, _, f2.R cn_rsh hR1⟩ hM2 ((f2.sh o).trans ho1) (by omega) (by omega)
                  · exact absurd (by rw [hr9 c39]; exact lg0 _) c40
              · exact absurd rfl c38
        · exact absurd c1 c32
  · refine jv_iconst (q := 271) (v := nI 1) G dL_law_270 (by decide) rfl ?_
    refine jv_goto (q := 275) G dL_law_271 (by decide) ?_
    refine jv_aload_n (q := 276) G 1 dL_law_275 rfl rfl rfl ?_
    refine jv_iload (q := 278) G 0 dL_law_276 rfl rfl ?_
    refine jv_iconst (q := 279) (v := nI 4) G dL_law_278 (by decide) rfl ?_
    refine jv_iaddN (q := 280) G dL_law_279 rfl ?_
    refine jv_sld (q := 281) G S dL_law_280 (by omega) (by omega) rfl ?_
    refine jv_if_eq (q := 284) (tgt := 288) G dL_law_281 (by decide) rfl (fun c41 => ?_) (fun c41 => ?_)
    · refine jv_iconst (q := 289) (v := nI 0) G dL_law_288 (by decide) rfl ?_
      refine jv_aload_n (q := 290) G 1 dL_law_289 rfl rfl rfl ?_
      refine jv_iload (q := 292) G 0 dL_law_290 rfl rfl ?_
      refine jv_iconst (q := 293) (v := nI 5) G dL_law_292 (by decide) rfl ?_
      refine jv_iaddN (q := 294) G dL_law_293 rfl ?_
      refine jv_sld (q := 295) G S dL_law_294 (by omega) (by omega) rfl ?_
      refine jv_aload_n (q := 296) G 1 dL_law_295 rfl rfl rfl ?_
      refine jv_iload (q := 298) G 0 dL_law_296 rfl rfl ?_
      refine jv_bipush (q := 300) (v := nI 6) G dL_law_298 (by decide) rfl ?_
      refine jv_iaddN (q := 301) G dL_law_300 rfl ?_
      refine jv_sld (q := 302) G S dL_law_301 (by omega) (by omega) rfl ?_
      refine jv_if_eq (q := 305) (tgt := 309) G dL_law_302 (by decide) rfl (fun c42 => ?_) (fun c42 => ?_)
      · refine jv_iconst (q := 310) (v := nI 0) G dL_law_309 (by decide) rfl ?_
        refine jv_aload_n (q := 311) G 1 dL_law_310 rfl rfl rfl ?_
        refine jv_iload (q := 313) G 0 dL_law_311 rfl rfl ?_
        refine jv_bipush (q := 315) (v := nI 7) G dL_law_313 (by decide) rfl ?_
        refine jv_iaddN (q := 316) G dL_law_315 rfl ?_
        refine jv_sld (q := 317) G S dL_law_316 (by omega) (by omega) rfl ?_
        refine jv_aload_n (q := 318) G 4 dL_law_317 rfl rfl rfl ?_
        refine jv_callSH (q := 321) (As := [.ref (z 6 0), .int (xs (i + 1)), .int (xs (i + 2)), .int (nI 1), .int (nI 0), .int (xs (i + 5)), .int (nI 0), .int (xs (i + 7)), .ref o]) (rest := []) G Z ml_L_116 (w_type (p0 := (xs (i + 1))) (p1 := (xs (i + 2))) (p2 := true) (p3 := false) (p4 := (xs (i + 5))) (p5 := false) (p6 := (xs (i + 7))) hlt hR ho) dL_law_318 rfl (by decide) (by decide) (by omega) (by omega) (Nat.le_of_ble_eq_true rfl) rfl rfl (fun v1 h1 y1 => ?_)
        obtain ⟨rfl, hL1, ⟨T1, N1, hR1⟩, f1⟩ := y1
        show jv_V E 7 h1 (ce + 3) (sl + 18) Q 321 [(4, .int (nI i)), (0, .ref b), (1, .ref (z 6 0)), (2, .ref m), (3, .ref o)] [.int (nI ((m_ty M (xs (i + 1)) (xs (i + 2)) true false (xs (i + 5)) false (xs (i + 7))).1))]
        have hM1 := hM.sF f1; have ho1 := (f1.sh o).trans ho; have hle := le_type (M := M) (p0 := (xs (i + 1))) (p1 := (xs (i + 2))) (p2 := true) (p3 := false) (p4 := (xs (i + 5))) (p5 := false) (p6 := (xs (i + 7)))
        have hle : (m_ty M (xs (i + 1)) (xs (i + 2)) true false (xs (i + 5)) false (xs (i + 7))).1 ≤ 4 := Nat.le_trans hle (by decide)
        refine jv_istore (q := 323) (lo' := [(5, .int (nI ((m_ty M (xs (i + 1)) (xs (i + 2)) true false (xs (i + 5)) false (xs (i + 7))).1))), (4, .int (nI i)), (0, .ref b), (1, .ref (z 6 0)), (2, .ref m), (3, .ref o)]) G dL_law_321 (by decide) rfl rfl ?_
        refine jv_aload_n (q := 324) G 4 dL_law_323 rfl rfl rfl ?_
        refine jv_aload_n (q := 325) G 2 dL_law_324 rfl rfl rfl ?_
        refine jv_iload (q := 327) G 1 dL_law_325 rfl rfl ?_
        refine jv_iconst (q := 328) (v := nI 1) G dL_law_327 (by decide) rfl ?_
        refine jv_iaddN (q := 329) G dL_law_328 rfl ?_
        refine jv_sld (q := 330) G S dL_law_329 (by omega) (by omega) rfl ?_
        refine jv_aload_n (q := 331) G 2 dL_law_330 rfl rfl rfl ?_
        refine jv_iload (q := 333) G 1 dL_law_331 rfl rfl ?_
        refine jv_iconst (q := 334) (v := nI 2) G dL_law_333 (by decide) rfl ?_
        refine jv_iaddN (q := 335) G dL_law_334 rfl ?_
        refine jv_sld (q := 336) G S dL_law_335 (by omega) (by omega) rfl ?_
        refine jv_aload_n (q := 337) G 2 dL_law_336 rfl rfl rfl ?_
        refine jv_iload (q := 339) G 1 dL_law_337 rfl rfl ?_
        refine jv_iconst (q := 340) (v := nI 3) G dL_law_339 (by decide) rfl ?_
        refine jv_iaddN (q := 341) G dL_law_340 rfl ?_
        refine jv_sld (q := 342) G S dL_law_341 (by omega) (by omega) rfl ?_
        refine jv_if_eq (q := 345) (tgt := 349) G dL_law_342 (by decide) rfl (fun c43 => ?_) (fun c43 => ?_)
        · exact absurd c43 c1
        · refine jv_iconst (q := 346) (v := nI 1) G dL_law_345 (by decide) rfl ?_
          refine jv_goto (q := 350) G dL_law_346 (by decide) ?_
          refine jv_aload_n (q := 351) G 2 dL_law_350 rfl rfl rfl ?_
          refine jv_iload (q := 353) G 1 dL_law_351 rfl rfl ?_
          refine jv_iconst (q := 354) (v := nI 4) G dL_law_353 (by decide) rfl ?_
          refine jv_iaddN (q := 355) G dL_law_354 rfl ?_
          refine jv_sld (q := 356) G S dL_law_355 (by omega) (by omega) rfl ?_
          refine jv_if_eq (q := 359) (tgt := 363) G dL_law_356 (by decide) rfl (fun c44 => ?_) (fun c44 => ?_)
          · refine jv_iconst (q := 364) (v := nI 0) G dL_law_363 (by decide) rfl ?_
            refine jv_aload_n (q := 365) G 2 dL_law_364 rfl rfl rfl ?_
            refine jv_iload (q := 367) G 1 dL_law_365 rfl rfl ?_
            refine jv_iconst (q := 368) (v := nI 5) G dL_law_367 (by decide) rfl ?_
            refine jv_iaddN (q := 369) G dL_law_368 rfl ?_
            refine jv_sld (q := 370) G S dL_law_369 (by omega) (by omega) rfl ?_
            refine jv_aload_n (q := 371) G 2 dL_law_370 rfl rfl rfl ?_
            refine jv_iload (q := 373) G 1 dL_law_371 rfl rfl ?_
            refine jv_bipush (q := 375) (v := nI 6) G dL_law_373 (by decide) rfl ?_
            refine jv_iaddN (q := 376) G dL_law_375 rfl ?_
            refine jv_sld (q := 377) G S dL_law_376 (by omega) (by omega) rfl ?_
            refine jv_if_eq (q := 380) (tgt := 384) G dL_law_377 (by decide) rfl (fun c45 => ?_) (fun c45 => ?_)
            · refine jv_iconst (q := 385) (v := nI 0) G dL_law_384 (by decide) rfl ?_
              refine jv_aload_n (q := 386) G 2 dL_law_385 rfl rfl rfl ?_
              refine jv_iload (q := 388) G 1 dL_law_386 rfl rfl ?_
              refine jv_bipush (q := 390) (v := nI 7) G dL_law_388 (by decide) rfl ?_
              refine jv_iaddN (q := 391) G dL_law_390 rfl ?_
              refine jv_sld (q := 392) G S dL_law_391 (by omega) (by omega) rfl ?_
              refine jv_callV (q := 395) (As := [.int (xs (i + 1)), .int (xs (i + 2)), .int (nI 1), .int (nI 0), .int (xs (i + 5)), .int (nI 0), .int (xs (i + 7))]) (rest := []) G Z ml_L_119 ((show jv_Met _ _ _ _ _ _ _ _ _ _ (rO m q h1 (m_ty M (xs (i + 1)) (xs (i + 2)) true false (xs (i + 5)) false (xs (i + 7)))) _ from (r_type (e := (xs (i + 1))) (n := (xs (i + 2))) (i := true) (a := false) (p := (xs (i + 5))) (b := false) (s := (xs (i + 7))) hlt hM1).mono (fun _ _ y => rO_p hM1.1 y) (fun _ _ y => y))) hM1.1.1 dL_law_392 rfl (by decide) (by decide) (by omega) (by omega) (Nat.le_of_ble_eq_true rfl) rfl rfl (fun v47 h46 y48 => ?_) (fun _ _ hx => hx.elim)
              obtain ⟨r9, rfl, hr9, hth, hM2, f2⟩ := y48
              show jv_V E 7 h46 (ce + 3) (sl + 18) Q 395 [(5, .int (nI ((m_ty M (xs (i + 1)) (xs (i + 2)) true false (xs (i + 5)) false (xs (i + 7))).1))), (4, .int (nI i)), (0, .ref b), (1, .ref (z 6 0)), (2, .ref m), (3, .ref o)] [.int r9]
              refine jv_istore (q := 397) (lo' := [(6, .int r9), (5, .int (nI ((m_ty M (xs (i + 1)) (xs (i + 2)) true false (xs (i + 5)) false (xs (i + 7))).1))), (4, .int (nI i)), (0, .ref b), (1, .ref (z 6 0)), (2, .ref m), (3, .ref o)]) G dL_law_395 (by decide) rfl rfl ?_
              refine jv_aload_n (q := 398) G 5 dL_law_397 rfl rfl rfl ?_
              refine jv_callV_I (q := 401) (h1 := h46) (As := []) (rest := []) (ce' := ce + 3) (sl' := sl + 18) (r := nI ((m_ty M (xs (i + 1)) (xs (i + 2)) true false (xs (i + 5)) false (xs (i + 7))).1)) G Z ml_L_109 (r_thrown hlt hM2.1 hth) hM2.1.1 dL_law_398 rfl (by decide) (by decide) (by omega) (by omega) (Nat.le_of_ble_eq_true rfl) rfl rfl rfl rfl ?_
              refine jv_iload (q := 403) G 1 dL_law_401 rfl rfl ?_
              refine jv_icmp_eqN (q := 406) (tgt := 408) G dL_law_403 (by decide) rfl (by omega) (by omega) (fun c49 => ?_) (fun c49 => ?_)
              · refine jv_iload (q := 410) G 1 dL_law_408 rfl rfl ?_
                refine jv_if_neN (q := 413) (tgt := 425) G dL_law_410 (by decide) rfl (by omega) (fun c50 => ?_) (fun c50 => ?_)
                · refine jv_goto (q := 2122) G dL_law_425 (by decide) ?_
                  refine jv_lo [2, 3, 4, 5, 6] (lo' := [(4, .int (nI i)), (0, .ref b), (1, .ref (z 6 0)), (2, .ref m), (3, .ref o)]) rfl ?_
                  exact kk _ _ _ _ ⟨_, _, f2.R cn_rsh hR1⟩ hM2 ((f2.sh o).trans ho1) (by omega) (by omega)
                · refine jv_aload_n (q := 414) G 6 dL_law_413 rfl rfl rfl ?_
                  refine jv_iconst (q := 415) (v := nI 0) G dL_law_414 (by decide) rfl ?_
                  refine jv_lald (q := 416) G dL_law_415 ((f2.sh o).trans ho1) rfl (by omega) (by decide) ((f2.l ho1 rfl 0).trans (hL1 c50)) rfl ?_
                  refine jv_iload (q := 418) G 0 dL_law_416 rfl rfl ?_
                  refine jv_i2l (q := 419) G dL_law_418 rfl rfl ?_
                  refine jv_lcmp (q := 420) G dL_law_419 rfl rfl ?_
                  refine jv_if_eq (q := 423) (tgt := 425) G dL_law_420 (by decide) rfl (fun c51 => ?_) (fun c51 => ?_)
                  · refine jv_goto (q := 2122) G dL_law_425 (by decide) ?_
                    refine jv_lo [2, 3, 4, 5, 6] (lo' := [(4, .int (nI i)), (0, .ref b), (1, .ref (z 6 0)), (2, .ref m), (3, .ref o)]) rfl ?_
                    exact kk _ _ _ _ ⟨_, _, f2.R cn_rsh hR1⟩ hM2 ((f2.sh o).trans ho1) (by omega) (by omega)
                  · exact absurd (by rw [hr9 c50]; exact lg0 _) c51
              · exact absurd rfl c49
            · exact absurd c42 c45
          · exact absurd c41 c44
      · refine jv_iconst (q := 306) (v := nI 1) G dL_law_305 (by decide) rfl ?_
        refine jv_goto (q := 310) G dL_law_306 (by decide) ?_
        refine jv_aload_n (q := 311) G 1 dL_law_310 rfl rfl rfl ?_
        refine jv_iload (q := 313) G 0 dL_law_311 rfl rfl ?_
        refine jv_bipush (q := 315) (v := nI 7) G dL_law_313 (by decide) rfl ?_
        refine jv_iaddN (q := 316) G dL_law_315 rfl ?_
        refine jv_sld (q := 317) G S dL_law_316 (by omega) (by omega) rfl ?_
        refine jv_aload_n (q := 318) G 4 dL_law_317 rfl rfl rfl ?_
        refine jv_callSH (q := 321) (As := [.ref (z 6 0), .int (xs (i + 1)), .int (xs (i + 2)), .int (nI 1), .int (nI 0), .int (xs (i + 5)), .int (nI 1), .int (xs (i + 7)), .ref o]) (rest := []) G Z ml_L_116 (w_type (p0 := (xs (i + 1))) (p1 := (xs (i + 2))) (p2 := true) (p3 := false) (p4 := (xs (i + 5))) (p5 := true) (p6 := (xs (i + 7))) hlt hR ho) dL_law_318 rfl (by decide) (by decide) (by omega) (by omega) (Nat.le_of_ble_eq_true rfl) rfl rfl (fun v1 h1 y1 => ?_)
        obtain ⟨rfl, hL1, ⟨T1, N1, hR1⟩, f1⟩ := y1
        show jv_V E 7 h1 (ce + 3) (sl + 18) Q 321 [(4, .int (nI i)), (0, .ref b), (1, .ref (z 6 0)), (2, .ref m), (3, .ref o)] [.int (nI ((m_ty M (xs (i + 1)) (xs (i + 2)) true false (xs (i + 5)) true (xs (i + 7))).1))]
        have hM1 := hM.sF f1; have ho1 := (f1.sh o).trans ho; have hle := le_type (M := M) (p0 := (xs (i + 1))) (p1 := (xs (i + 2))) (p2 := true) (p3 := false) (p4 := (xs (i + 5))) (p5 := true) (p6 := (xs (i + 7)))
        have hle : (m_ty M (xs (i + 1)) (xs (i + 2)) true false (xs (i + 5)) true (xs (i + 7))).1 ≤ 4 := Nat.le_trans hle (by decide)
        refine jv_istore (q := 323) (lo' := [(5, .int (nI ((m_ty M (xs (i + 1)) (xs (i + 2)) true false (xs (i + 5)) true (xs (i + 7))).1))), (4, .int (nI i)), (0, .ref b), (1, .ref (z 6 0)), (2, .ref m), (3, .ref o)]) G dL_law_321 (by decide) rfl rfl ?_
        refine jv_aload_n (q := 324) G 4 dL_law_323 rfl rfl rfl ?_
        refine jv_aload_n (q := 325) G 2 dL_law_324 rfl rfl rfl ?_
        refine jv_iload (q := 327) G 1 dL_law_325 rfl rfl ?_
        refine jv_iconst (q := 328) (v := nI 1) G dL_law_327 (by decide) rfl ?_
        refine jv_iaddN (q := 329) G dL_law_328 rfl ?_
        refine jv_sld (q := 330) G S dL_law_329 (by omega) (by omega) rfl ?_
        refine jv_aload_n (q := 331) G 2 dL_law_330 rfl rfl rfl ?_
        refine jv_iload (q := 333) G 1 dL_law_331 rfl rfl ?_
        refine jv_iconst (q := 334) (v := nI 2) G dL_law_333 (by decide) rfl ?_
        refine jv_iaddN (q := 335) G dL_law_334 rfl ?_
        refine jv_sld (q := 336) G S dL_law_335 (by omega) (by omega) rfl ?_
        refine jv_aload_n (q := 337) G 2 dL_law_336 rfl rfl rfl ?_
        refine jv_iload (q := 339) G 1 dL_law_337 rfl rfl ?_
        refine jv_iconst (q := 340) (v := nI 3) G dL_law_339 (by decide) rfl ?_
        refine jv_iaddN (q := 341) G dL_law_340 rfl ?_
        refine jv_sld (q := 342) G S dL_law_341 (by omega) (by omega) rfl ?_
        refine jv_if_eq (q := 345) (tgt := 349) G dL_law_342 (by decide) rfl (fun c52 => ?_) (fun c52 => ?_)
        · exact absurd c52 c1
        · refine jv_iconst (q := 346) (v := nI 1) G dL_law_345 (by decide) rfl ?_
          refine jv_goto (q := 350) G dL_law_346 (by decide) ?_
          refine jv_aload_n (q := 351) G 2 dL_law_350 rfl rfl rfl ?_
          refine jv_iload (q := 353) G 1 dL_law_351 rfl rfl ?_
          refine jv_iconst (q := 354) (v := nI 4) G dL_law_353 (by decide) rfl ?_
          refine jv_iaddN (q := 355) G dL_law_354 rfl ?_
          refine jv_sld (q := 356) G S dL_law_355 (by omega) (by omega) rfl ?_
          refine jv_if_eq (q := 359) (tgt := 363) G dL_law_356 (by decide) rfl (fun c53 => ?_) (fun c53 => ?_)
          · refine jv_iconst (q := 364) (v := nI 0) G dL_law_363 (by decide) rfl ?_
            refine jv_aload_n (q := 365) G 2 dL_law_364 rfl rfl rfl ?_
            refine jv_iload (q := 367) G 1 dL_law_365 rfl rfl ?_
            refine jv_iconst (q := 368) (v := nI 5) G dL_law_367 (by decide) rfl ?_
            refine jv_iaddN (q := 369) G dL_law_368 rfl ?_
            refine jv_sld (q := 370) G S dL_law_369 (by omega) (by omega) rfl ?_
            refine jv_aload_n (q := 371) G 2 dL_law_370 rfl rfl rfl ?_
            refine jv_iload (q := 373) G 1 dL_law_371 rfl rfl ?_
            refine jv_bipush (q := 375) (v := nI 6) G dL_law_373 (by decide) rfl ?_
            refine jv_iaddN (q := 376) G dL_law_375 rfl ?_
            refine jv_sld (q := 377) G S dL_law_376 (by omega) (by omega) rfl ?_
            refine jv_if_eq (q := 380) (tgt := 384) G dL_law_377 (by decide) rfl (fun c54 => ?_) (fun c54 => ?_)
            · exact absurd c54 c42
            · refine jv_iconst (q := 381) (v := nI 1) G dL_law_380 (by decide) rfl ?_
              refine jv_goto (q := 385) G dL_law_381 (by decide) ?_
              refine jv_aload_n (q := 386) G 2 dL_law_385 rfl rfl rfl ?_
              refine jv_iload (q := 388) G 1 dL_law_386 rfl rfl ?_
              refine jv_bipush (q := 390) (v := nI 7) G dL_law_388 (by decide) rfl ?_
              refine jv_iaddN (q := 391) G dL_law_390 rfl ?_
              refine jv_sld (q := 392) G S dL_law_391 (by omega) (by omega) rfl ?_
              refine jv_callV (q := 395) (As := [.int (xs (i + 1)), .int (xs (i + 2)), .int (nI 1), .int (nI 0), .int (xs (i + 5)), .int (nI 1), .int (xs (i + 7))]) (rest := []) G Z ml_L_119 ((show jv_Met _ _ _ _ _ _ _ _ _ _ (rO m q h1 (m_ty M (xs (i + 1)) (xs (i + 2)) true false (xs (i + 5)) true (xs (i + 7)))) _ from (r_type (e := (xs (i + 1))) (n := (xs (i + 2))) (i := true) (a := false) (p := (xs (i + 5))) (b := true) (s := (xs (i + 7))) hlt hM1).mono (fun _ _ y => rO_p hM1.1 y) (fun _ _ y => y))) hM1.1.1 dL_law_392 rfl (by decide) (by decide) (by omega) (by omega) (Nat.le_of_ble_eq_true rfl) rfl rfl (fun v56 h55 y57 => ?_) (fun _ _ hx => hx.elim)
              obtain ⟨r9, rfl, hr9, hth, hM2, f2⟩ := y57
              show jv_V E 7 h55 (ce + 3) (sl + 18) Q 395 [(5, .int (nI ((m_ty M (xs (i + 1)) (xs (i + 2)) true false (xs (i + 5)) true (xs (i + 7))).1))), (4, .int (nI i)), (0, .ref b), (1, .ref (z 6 0)), (2, .ref m), (3, .ref o)] [.int r9]
              refine jv_istore (q := 397) (lo' := [(6, .int r9), (5, .int (nI ((m_ty M (xs (i + 1)) (xs (i + 2)) true false (xs (i + 5)) true (xs (i + 7))).1))), (4, .int (nI i)), (0, .ref b), (1, .ref (z 6 0)), (2, .ref m), (3, .ref o)]) G dL_law_395 (by decide) rfl rfl ?_
              refine jv_aload_n (q := 398) G 5 dL_law_397 rfl rfl rfl ?_
              refine jv_callV_I (q := 401) (h1 := h55) (As := []) (rest := []) (ce' := ce + 3) (sl' := sl + 18) (r := nI ((m_ty M (xs (i + 1)) (xs (i + 2)) true false (xs (i + 5)) true (xs (i + 7))).1)) G Z ml_L_109 (r_thrown hlt hM2.1 hth) hM2.1.1 dL_law_398 rfl (by decide) (by decide) (by omega) (by omega) (Nat.le_of_ble_eq_true rfl) rfl rfl rfl rfl ?_
              refine jv_iload (q := 403) G 1 dL_law_401 rfl rfl ?_
              refine jv_icmp_eqN (q := 406) (tgt := 408) G dL_law_403 (by decide) rfl (by omega) (by omega) (fun c58 => ?_) (fun c58 => ?_)
              · refine jv_iload (q := 410) G 1 dL_law_408 rfl rfl ?_
                refine jv_if_neN (q := 413) (tgt := 425) G dL_law_410 (by decide) rfl (by omega) (fun c59 => ?_) (fun c59 => ?_)
                · refine jv_goto (q := 2122) G dL_law_425 (by decide) ?_
                  refine jv_lo [2, 3, 4, 5, 6] (lo' := [(4, .int (nI i)), (0, .ref b), (1, .ref (z 6 0)), (2, .ref m), (3, .ref o)]) rfl ?_
                  exact kk _ _ _ _ ⟨_, _, f2.R cn_rsh hR1⟩ hM2 ((f2.sh o).trans ho1) (by omega) (by omega)
                · refine jv_aload_n (q := 414) G 6 dL_law_413 rfl rfl rfl ?_
                  refine jv_iconst (q := 415) (v := nI 0) G dL_law_414 (by decide) rfl ?_
                  refine jv_lald (q := 416) G dL_law_415 ((f2.sh o).trans ho1) rfl (by omega) (by decide) ((f2.l ho1 rfl 0).trans (hL1 c59)) rfl ?_
                  refine jv_iload (q := 418) G 0 dL_law_416 rfl rfl ?_
                  refine jv_i2l (q := 419) G dL_law_418 rfl rfl ?_
                  refine jv_lcmp (q := 420) G dL_law_419 rfl rfl ?_
                  refine jv_if_eq (q := 423) (tgt := 425) G dL_law_420 (by decide) rfl (fun c60 => ?_) (fun c60 => ?_)
                  · refine jv_goto (q := 2122) G dL_law_425 (by decide) ?_
                    refine jv_lo [2, 3, 4, 5, 6] (lo' := [(4, .int (nI i)), (0, .ref b), (1, .ref (z 6 0)), (2, .ref m), (3, .ref o)]) rfl ?_
                    exact kk _ _ _ _ ⟨_, _, f2.R cn_rsh hR1⟩ hM2 ((f2.sh o).trans ho1) (by omega) (by omega)
                  · exact absurd (by rw [hr9 c59]; exact lg0 _) c60
              · exact absurd rfl c58
          · exact absurd c41 c53
    · refine jv_iconst (q := 285) (v := nI 1) G dL_law_284 (by decide) rfl ?_
      refine jv_goto (q := 289) G dL_law_285 (by decide) ?_
      refine jv_aload_n (q := 290) G 1 dL_law_289 rfl rfl rfl ?_
      refine jv_iload (q := 292) G 0 dL_law_290 rfl rfl ?_
      refine jv_iconst (q := 293) (v := nI 5) G dL_law_292 (by decide) rfl ?_
      refine jv_iaddN (q := 294) G dL_law_293 rfl ?_
      refine jv_sld (q := 295) G S dL_law_294 (by omega) (by omega) rfl ?_
      refine jv_aload_n (q := 296) G 1 dL_law_295 rfl rfl rfl ?_
      refine jv_iload (q := 298) G 0 dL_law_296 rfl rfl ?_
      refine jv_bipush (q := 300) (v := nI 6) G dL_law_298 (by decide) rfl ?_
      refine jv_iaddN (q := 301) G dL_law_300 rfl ?_
      refine jv_sld (q := 302) G S dL_law_301 (by omega) (by omega) rfl ?_
      refine jv_if_eq (q := 305) (tgt := 309) G dL_law_302 (by decide) rfl (fun c61 => ?_) (fun c61 => ?_)
      · refine jv_iconst (q := 310) (v := nI 0) G dL_law_309 (by decide) rfl ?_
        refine jv_aload_n (q := 311) G 1 dL_law_310 rfl rfl rfl ?_
        refine jv_iload (q := 313) G 0 dL_law_311 rfl rfl ?_
        refine jv_bipush (q := 315) (v := nI 7) G dL_law_313 (by decide) rfl ?_
        refine jv_iaddN (q := 316) G dL_law_315 rfl ?_
        refine jv_sld (q := 317) G S dL_law_316 (by omega) (by omega) rfl ?_
        refine jv_aload_n (q := 318) G 4 dL_law_317 rfl rfl rfl ?_
        refine jv_callSH (q := 321) (As := [.ref (z 6 0), .int (xs (i + 1)), .int (xs (i + 2)), .int (nI 1), .int (nI 1), .int (xs (i + 5)), .int (nI 0), .int (xs (i + 7)), .ref o]) (rest := []) G Z ml_L_116 (w_type (p0 := (xs (i + 1))) (p1 := (xs (i + 2))) (p2 := true) (p3 := true) (p4 := (xs (i + 5))) (p5 := false) (p6 := (xs (i + 7))) hlt hR ho) dL_law_318 rfl (by decide) (by decide) (by omega) (by omega) (Nat.le_of_ble_eq_true rfl) rfl rfl (fun v1 h1 y1 => ?_)
        obtain ⟨rfl, hL1, ⟨T1, N1, hR1⟩, f1⟩ := y1
        show jv_V E 7 h1 (ce + 3) (sl + 18) Q 321 [(4, .int (nI i)), (0, .ref b), (1, .ref (z 6 0)), (2, .ref m), (3, .ref o)] [.int (nI ((m_ty M (xs (i + 1)) (xs (i + 2)) true true (xs (i + 5)) false (xs (i + 7))).1))]
        have hM1 := hM.sF f1; have ho1 := (f1.sh o).trans ho; have hle := le_type (M := M) (p0 := (xs (i + 1))) (p1 := (xs (i + 2))) (p2 := true) (p3 := true) (p4 := (xs (i + 5))) (p5 := false) (p6 := (xs (i + 7)))
        have hle : (m_ty M (xs (i + 1)) (xs (i + 2)) true true (xs (i + 5)) false (xs (i + 7))).1 ≤ 4 := Nat.le_trans hle (by decide)
        refine jv_istore (q := 323) (lo' := [(5, .int (nI ((m_ty M (xs (i + 1)) (xs (i + 2)) true true (xs (i + 5)) false (xs (i + 7))).1))), (4, .int (nI i)), (0, .ref b), (1, .ref (z 6 0)), (2, .ref m), (3, .ref o)]) G dL_law_321 (by decide) rfl rfl ?_
        refine jv_aload_n (q := 324) G 4 dL_law_323 rfl rfl rfl ?_
        refine jv_aload_n (q := 325) G 2 dL_law_324 rfl rfl rfl ?_
        refine jv_iload (q := 327) G 1 dL_law_325 rfl rfl ?_
        refine jv_iconst (q := 328) (v := nI 1) G dL_law_327 (by decide) rfl ?_
        refine jv_iaddN (q := 329) G dL_law_328 rfl ?_
        refine jv_sld (q := 330) G S dL_law_329 (by omega) (by omega) rfl ?_
        refine jv_aload_n (q := 331) G 2 dL_law_330 rfl rfl rfl ?_
        refine jv_iload (q := 333) G 1 dL_law_331 rfl rfl ?_
        refine jv_iconst (q := 334) (v := nI 2) G dL_law_333 (by decide) rfl ?_
        refine jv_iaddN (q := 335) G dL_law_334 rfl ?_
        refine jv_sld (q := 336) G S dL_law_335 (by omega) (by omega) rfl ?_
        refine jv_aload_n (q := 337) G 2 dL_law_336 rfl rfl rfl ?_
        refine jv_iload (q := 339) G 1 dL_law_337 rfl rfl ?_
        refine jv_iconst (q := 340) (v := nI 3) G dL_law_339 (by decide) rfl ?_
        refine jv_iaddN (q := 341) G dL_law_340 rfl ?_
        refine jv_sld (q := 342) G S dL_law_341 (by omega) (by omega) rfl ?_
        refine jv_if_eq (q := 345) (tgt := 349) G dL_law_342 (by decide) rfl (fun c62 => ?_) (fun c62 => ?_)
        · exact absurd c62 c1
        · refine jv_iconst (q := 346) (v := nI 1) G dL_law_345 (by decide) rfl ?_
          refine jv_goto (q := 350) G dL_law_346 (by decide) ?_
          refine jv_aload_n (q := 351) G 2 dL_law_350 rfl rfl rfl ?_
          refine jv_iload (q := 353) G 1 dL_law_351 rfl rfl ?_
          refine jv_iconst (q := 354) (v := nI 4) G dL_law_353 (by decide) rfl ?_
          refine jv_iaddN (q := 355) G dL_law_354 rfl ?_
          refine jv_sld (q := 356) G S dL_law_355 (by omega) (by omega) rfl ?_
          refine jv_if_eq (q := 359) (tgt := 363) G dL_law_356 (by decide) rfl (fun c63 => ?_) (fun c63 => ?_)
          · exact absurd c63 c41
          · refine jv_iconst (q := 360) (v := nI 1) G dL_law_359 (by decide) rfl ?_
            refine jv_goto (q := 364) G dL_law_360 (by decide) ?_
            refine jv_aload_n (q := 365) G 2 dL_law_364 rfl rfl rfl ?_
            refine jv_iload (q := 367) G 1 dL_law_365 rfl rfl ?_
            refine jv_iconst (q := 368) (v := nI 5) G dL_law_367 (by decide) rfl ?_
            refine jv_iaddN (q := 369) G dL_law_368 rfl ?_
            refine jv_sld (q := 370) G S dL_law_369 (by omega) (by omega) rfl ?_
            refine jv_aload_n (q := 371) G 2 dL_law_370 rfl rfl rfl ?_
            refine jv_iload (q := 373) G 1 dL_law_371 rfl rfl ?_
            refine jv_bipush (q := 375) (v := nI 6) G dL_law_373 (by decide) rfl ?_
            refine jv_iaddN (q := 376) G dL_law_375 rfl ?_
            refine jv_sld (q := 377) G S dL_law_376 (by omega) (by omega) rfl ?_
            refine jv_if_eq (q := 380) (tgt := 384) G dL_law_377 (by decide) rfl (fun c64 => ?_) (fun c64 => ?_)
            · refine jv_iconst (q := 385) (v := nI 0) G dL_law_384 (by decide) rfl ?_
              refine jv_aload_n (q := 386) G 2 dL_law_385 rfl rfl rfl ?_
              refine jv_iload (q := 388) G 1 dL_law_386 rfl rfl ?_
              refine jv_bipush (q := 390) (v := nI 7) G dL_law_388 (by decide) rfl ?_
              refine jv_iaddN (q := 391) G dL_law_390 rfl ?_
              refine jv_sld (q := 392) G S dL_law_391 (by omega) (by omega) rfl ?_
              refine jv_callV (q := 395) (As := [.int (xs (i + 1)), .int (xs (i + 2)), .int (nI 1), .int (nI 1), .int (xs (i + 5)), .int (nI 0), .int (xs (i + 7))]) (rest := []) G Z ml_L_119 ((show jv_Met _ _ _ _ _ _ _ _ _ _ (rO m q h1 (m_ty M (xs (i + 1)) (xs (i + 2)) true true (xs (i + 5)) false (xs (i + 7)))) _ from (r_type (e := (xs (i + 1))) (n := (xs (i + 2))) (i := true) (a := true) (p := (xs (i + 5))) (b := false) (s := (xs (i + 7))) hlt hM1).mono (fun _ _ y => rO_p hM1.1 y) (fun _ _ y => y))) hM1.1.1 dL_law_392 rfl (by decide) (by decide) (by omega) (by omega) (Nat.le_of_ble_eq_true rfl) rfl rfl (fun v66 h65 y67 => ?_) (fun _ _ hx => hx.elim)
              obtain ⟨r9, rfl, hr9, hth, hM2, f2⟩ := y67
              show jv_V E 7 h65 (ce + 3) (sl + 18) Q 395 [(5, .int (nI ((m_ty M (xs (i + 1)) (xs (i + 2)) true true (xs (i + 5)) false (xs (i + 7))).1))), (4, .int (nI i)), (0, .ref b), (1, .ref (z 6 0)), (2, .ref m), (3, .ref o)] [.int r9]
              refine jv_istore (q := 397) (lo' := [(6, .int r9), (5, .int (nI ((m_ty M (xs (i + 1)) (xs (i + 2)) true true (xs (i + 5)) false (xs (i + 7))).1))), (4, .int (nI i)), (0, .ref b), (1, .ref (z 6 0)), (2, .ref m), (3, .ref o)]) G dL_law_395 (by decide) rfl rfl ?_
              refine jv_aload_n (q := 398) G 5 dL_law_397 rfl rfl rfl ?_
              refine jv_callV_I (q := 401) (h1 := h65) (As := []) (rest := []) (ce' := ce + 3) (sl' := sl + 18) (r := nI ((m_ty M (xs (i + 1)) (xs (i + 2)) true true (xs (i + 5)) false (xs (i + 7))).1)) G Z ml_L_109 (r_thrown hlt hM2.1 hth) hM2.1.1 dL_law_398 rfl (by decide) (by decide) (by omega) (by omega) (Nat.le_of_ble_eq_true rfl) rfl rfl rfl rfl ?_
              refine jv_iload (q := 403) G 1 dL_law_401 rfl rfl ?_
              refine jv_icmp_eqN (q := 406) (tgt := 408) G dL_law_403 (by decide) rfl (by omega) (by omega) (fun c68 => ?_) (fun c68 => ?_)
              · refine jv_iload (q := 410) G 1 dL_law_408 rfl rfl ?_
                refine jv_if_neN (q := 413) (tgt := 425) G dL_law_410 (by decide) rfl (by omega) (fun c69 => ?_) (fun c69 => ?_)
                · refine jv_goto (q := 2122) G dL_law_425 (by decide) ?_
                  refine jv_lo [2, 3, 4, 5, 6] (lo' := [(4, .int (nI i)), (0, .ref b), (1, .ref (z 6 0)), (2, .ref m), (3, .ref o)]) rfl ?_
                  exact kk _ _ _ _ ⟨_, _, f2.R cn_rsh hR1⟩ hM2 ((f2.sh o).trans ho1) (by omega) (by omega)
                · refine jv_aload_n (q := 414) G 6 dL_law_413 rfl rfl rfl ?_
                  refine jv_iconst (q := 415) (v := nI 0) G dL_law_414 (by decide) rfl ?_
                  refine jv_lald (q := 416) G dL_law_415 ((f2.sh o).trans ho1) rfl (by omega) (by decide) ((f2.l ho1 rfl 0).trans (hL1 c69)) rfl ?_
                  refine jv_iload (q := 418) G 0 dL_law_416 rfl rfl ?_
                  refine jv_i2l (q := 419) G dL_law_418 rfl rfl ?_
                  refine jv_lcmp (q := 420) G dL_law_419 rfl rfl ?_
                  refine jv_if_eq (q := 423) (tgt := 425) G dL_law_420 (by decide) rfl (fun c70 => ?_) (fun c70 => ?_)
                  · refine jv_goto (q := 2122) G dL_law_425 (by decide) ?_
                    refine jv_lo [2, 3, 4, 5, 6] (lo' := [(4, .int (nI i)), (0, .ref b), (1, .ref (z 6 0)), (2, .ref m), (3, .ref o)]) rfl ?_
                    exact kk _ _ _ _ ⟨_, _, f2.R cn_rsh hR1⟩ hM2 ((f2.sh o).trans ho1) (by omega) (by omega)
                  · exact absurd (by rw [hr9 c69]; exact lg0 _) c70
              · exact absurd rfl c68
            · exact absurd c61 c64
      · refine jv_iconst (q := 306) (v := nI 1) G dL_law_305 (by decide) rfl ?_
        refine jv_goto (q := 310) G dL_law_306 (by decide) ?_
        refine jv_aload_n (q := 311) G 1 dL_law_310 rfl rfl rfl ?_
        refine jv_iload (q := 313) G 0 dL_law_311 rfl rfl ?_
        refine jv_bipush (q := 315) (v := nI 7) G dL_law_313 (by decide) rfl ?_
        refine jv_iaddN (q := 316) G dL_law_315 rfl ?_
        refine jv_sld (q := 317) G S dL_law_316 (by omega) (by omega) rfl ?_
        refine jv_aload_n (q := 318) G 4 dL_law_317 rfl rfl rfl ?_
        refine jv_callSH (q := 321) (As := [.ref (z 6 0), .int (xs (i + 1)), .int (xs (i + 2)), .int (nI 1), .int (nI 1), .int (xs (i + 5)), .int (nI 1), .int (xs (i + 7)), .ref o]) (rest := []) G Z ml_L_116 (w_type (p0 := (xs (i + 1))) (p1 := (xs (i + 2))) (p2 := true) (p3 := true) (p4 := (xs (i + 5))) (p5 := true) (p6 := (xs (i + 7))) hlt hR ho) dL_law_318 rfl (by decide) (by decide) (by omega) (by omega) (Nat.le_of_ble_eq_true rfl) rfl rfl (fun v1 h1 y1 => ?_)
        obtain ⟨rfl, hL1, ⟨T1, N1, hR1⟩, f1⟩ := y1
        show jv_V E 7 h1 (ce + 3) (sl + 18) Q 321 [(4, .int (nI i)), (0, .ref b), (1, .ref (z 6 0)), (2, .ref m), (3, .ref o)] [.int (nI ((m_ty M (xs (i + 1)) (xs (i + 2)) true true (xs (i + 5)) true (xs (i + 7))).1))]
        have hM1 := hM.sF f1; have ho1 := (f1.sh o).trans ho; have hle := le_type (M := M) (p0 := (xs (i + 1))) (p1 := (xs (i + 2))) (p2 := true) (p3 := true) (p4 := (xs (i + 5))) (p5 := true) (p6 := (xs (i + 7)))
        have hle : (m_ty M (xs (i + 1)) (xs (i + 2)) true true (xs (i + 5)) true (xs (i + 7))).1 ≤ 4 := Nat.le_trans hle (by decide)
        refine jv_istore (q := 323) (lo' := [(5, .int (nI ((m_ty M (xs (i + 1)) (xs (i + 2)) true true (xs (i + 5)) true (xs (i + 7))).1))), (4, .int (nI i)), (0, .ref b), (1, .ref (z 6 0)), (2, .ref m), (3, .ref o)]) G dL_law_321 (by decide) rfl rfl ?_
        refine jv_aload_n (q := 324) G 4 dL_law_323 rfl rfl rfl ?_
        refine jv_aload_n (q := 325) G 2 dL_law_324 rfl rfl rfl ?_
        refine jv_iload (q := 327) G 1 dL_law_325 rfl rfl ?_
        refine jv_iconst (q := 328) (v := nI 1) G dL_law_327 (by decide) rfl ?_
        refine jv_iaddN (q := 329) G dL_law_328 rfl ?_
        refine jv_sld (q := 330) G S dL_law_329 (by omega) (by omega) rfl ?_
        refine jv_aload_n (q := 331) G 2 dL_law_330 rfl rfl rfl ?_
        refine jv_iload (q := 333) G 1 dL_law_331 rfl rfl ?_
        refine jv_iconst (q := 334) (v := nI 2) G dL_law_333 (by decide) rfl ?_
        refine jv_iaddN (q := 335) G dL_law_334 rfl ?_
        refine jv_sld (q := 336) G S dL_law_335 (by omega) (by omega) rfl ?_
        refine jv_aload_n (q := 337) G 2 dL_law_336 rfl rfl rfl ?_
        refine jv_iload (q := 339) G 1 dL_law_337 rfl rfl ?_
        refine jv_iconst (q := 340) (v := nI 3) G dL_law_339 (by decide) rfl ?_
        refine jv_iaddN (q := 341) G dL_law_340 rfl ?_
        refine jv_sld (q := 342) G S dL_law_341 (by omega) (by omega) rfl ?_
        refine jv_if_eq (q := 345) (tgt := 349) G dL_law_342 (by decide) rfl (fun c71 => ?_) (fun c71 => ?_)
        · exact absurd c71 c1
        · refine jv_iconst (q := 346) (v := nI 1) G dL_law_345 (by decide) rfl ?_
          refine jv_goto (q := 350) G dL_law_346 (by decide) ?_
          refine jv_aload_n (q := 351) G 2 dL_law_350 rfl rfl rfl ?_
          refine jv_iload (q := 353) G 1 dL_law_351 rfl rfl ?_
          refine jv_iconst (q := 354) (v := nI 4) G dL_law_353 (by decide) rfl ?_
          refine jv_iaddN (q := 355) G dL_law_354 rfl ?_
          refine jv_sld (q := 356) G S dL_law_355 (by omega) (by omega) rfl ?_
          refine jv_if_eq (q := 359) (tgt := 363) G dL_law_356 (by decide) rfl (fun c72 => ?_) (fun c72 => ?_)
          · exact absurd c72 c41
          · refine jv_iconst (q := 360) (v := nI 1) G dL_law_359 (by decide) rfl ?_
            refine jv_goto (q := 364) G dL_law_360 (by decide) ?_
            refine jv_aload_n (q := 365) G 2 dL_law_364 rfl rfl rfl ?_
            refine jv_iload (q := 367) G 1 dL_law_365 rfl rfl ?_
            refine jv_iconst (q := 368) (v := nI 5) G dL_law_367 (by decide) rfl ?_
            refine jv_iaddN (q := 369) G dL_law_368 rfl ?_
            refine jv_sld (q := 370) G S dL_law_369 (by omega) (by omega) rfl ?_
            refine jv_aload_n (q := 371) G 2 dL_law_370 rfl rfl rfl ?_
            refine jv_iload (q := 373) G 1 dL_law_371 rfl rfl ?_
            refine jv_bipush (q := 375) (v := nI 6) G dL_law_373 (by decide) rfl ?_
            refine jv_iaddN (q := 376) G dL_law_375 rfl ?_
            refine jv_sld (q := 377) G S dL_law_376 (by omega) (by omega) rfl ?_
            refine jv_if_eq (q := 380) (tgt := 384) G dL_law_377 (by decide) rfl (fun c73 => ?_) (fun c73 => ?_)
            · exact absurd c73 c61
            · refine jv_iconst (q := 381) (v := nI 1) G dL_law_380 (by decide) rfl ?_
              refine jv_goto (q := 385) G dL_law_381 (by decide) ?_
              refine jv_aload_n (q := 386) G 2 dL_law_385 rfl rfl rfl ?_
              refine jv_iload (q := 388) G 1 dL_law_386 rfl rfl ?_
              refine jv_bipush (q := 390) (v := nI 7) G dL_law_388 (by decide) rfl ?_
              refine jv_iaddN (q := 391) G dL_law_390 rfl ?_
              refine jv_sld (q := 392) G S dL_law_391 (by omega) (by omega) rfl ?_
              refine jv_callV (q := 395) (As := [.int (xs (i + 1)), .int (xs (i + 2)), .int (nI 1), .int (nI 1), .int (xs (i + 5)), .int (nI 1), .int (xs (i + 7))]) (rest := []) G Z ml_L_119 ((show jv_Met _ _ _ _ _ _ _ _ _ _ (rO m q h1 (m_ty M (xs (i + 1)) (xs (i + 2)) true true (xs (i + 5)) true (xs (i + 7)))) _ from (r_type (e := (xs (i + 1))) (n := (xs (i + 2))) (i := true) (a := true) (p := (xs (i + 5))) (b := true) (s := (xs (i + 7))) hlt hM1).mono (fun _ _ y => rO_p hM1.1 y) (fun _ _ y => y))) hM1.1.1 dL_law_392 rfl (by decide) (by decide) (by omega) (by omega) (Nat.le_of_ble_eq_true rfl) rfl rfl (fun v75 h74 y76 => ?_) (fun _ _ hx => hx.elim)
              obtain ⟨r9, rfl, hr9, hth, hM2, f2⟩ := y76
              show jv_V E 7 h74 (ce + 3) (sl + 18) Q 395 [(5, .int (nI ((m_ty M (xs (i + 1)) (xs (i + 2)) true true (xs (i + 5)) true (xs (i + 7))).1))), (4, .int (nI i)), (0, .ref b), (1, .ref (z 6 0)), (2, .ref m), (3, .ref o)] [.int r9]
              refine jv_istore (q := 397) (lo' := [(6, .int r9), (5, .int (nI ((m_ty M (xs (i + 1)) (xs (i + 2)) true true (xs (i + 5)) true (xs (i + 7))).1))), (4, .int (nI i)), (0, .ref b), (1, .ref (z 6 0)), (2, .ref m), (3, .ref o)]) G dL_law_395 (by decide) rfl rfl ?_
              refine jv_aload_n (q := 398) G 5 dL_law_397 rfl rfl rfl ?_
              refine jv_callV_I (q := 401) (h1 := h74) (As := []) (rest := []) (ce' := ce + 3) (sl' := sl + 18) (r := nI ((m_ty M (xs (i + 1)) (xs (i + 2)) true true (xs (i + 5)) true (xs (i + 7))).1)) G Z ml_L_109 (r_thrown hlt hM2.1 hth) hM2.1.1 dL_law_398 rfl (by decide) (by decide) (by omega) (by omega) (Nat.le_of_ble_eq_true rfl) rfl rfl rfl rfl ?_
              refine jv_iload (q := 403) G 1 dL_law_401 rfl rfl ?_
              refine jv_icmp_eqN (q := 406) (tgt := 408) G dL_law_403 (by decide) rfl (by omega) (by omega) (fun c77 => ?_) (fun c77 => ?_)
              · refine jv_iload (q := 410) G 1 dL_law_408 rfl rfl ?_
                refine jv_if_neN (q := 413) (tgt := 425) G dL_law_410 (by decide) rfl (by omega) (fun c78 => ?_) (fun c78 => ?_)
                · refine jv_goto (q := 2122) G dL_law_425 (by decide) ?_
                  refine jv_lo [2, 3, 4, 5, 6] (lo' := [(4, .int (nI i)), (0, .ref b), (1, .ref (z 6 0)), (2, .ref m), (3, .ref o)]) rfl ?_
                  exact kk _ _ _ _ ⟨_, _, f2.R cn_rsh hR1⟩ hM2 ((f2.sh o).trans ho1) (by omega) (by omega)
                · refine jv_aload_n (q := 414) G 6 dL_law_413 rfl rfl rfl ?_
                  refine jv_iconst (q := 415) (v := nI 0) G dL_law_414 (by decide) rfl ?_
                  refine jv_lald (q := 416) G dL_law_415 ((f2.sh o).trans ho1) rfl (by omega) (by decide) ((f2.l ho1 rfl 0).trans (hL1 c78)) rfl ?_
                  refine jv_iload (q := 418) G 0 dL_law_416 rfl rfl ?_
                  refine jv_i2l (q := 419) G dL_law_418 rfl rfl ?_
                  refine jv_lcmp (q := 420) G dL_law_419 rfl rfl ?_
                  refine jv_if_eq (q := 423) (tgt := 425) G dL_law_420 (by decide) rfl (fun c79 => ?_) (fun c79 => ?_)
                  · refine jv_goto (q := 2122) G dL_law_425 (by decide) ?_
                    refine jv_lo [2, 3, 4, 5, 6] (lo' := [(4, .int (nI i)), (0, .ref b), (1, .ref (z 6 0)), (2, .ref m), (3, .ref o)]) rfl ?_
                    exact kk _ _ _ _ ⟨_, _, f2.R cn_rsh hR1⟩ hM2 ((f2.sh o).trans ho1) (by omega) (by omega)
                  · exact absurd (by rw [hr9 c78]; exact lg0 _) c79
              · exact absurd rfl c77
set_option maxHeartbeats 4000000 in
set_option maxRecDepth 100000 in
theorem lc_implement {E : jv_E} {Q : State → Prop} (hlt : (jv_l E).stackTraces = false) (G : jv_C E cL_law RL 7) (Z : jv_rm E = jv_room 1000 601024 7293034) {b L : Nat} {xs : Nat → Int32} (S : lwS E b L xs) {z : Nat → Nat → Nat} {T : Nat → Nat} {N : Nat → Nat → Nat} {tO : Nat → Nat} {h : jv_H} {M : mA} (hR : cl_R z T N tO h M) {m : Nat} {q : Nat → Nat} (hM : rf_R m q h M) {o : Nat} (ho : jv_sh h o = some (.inr (.long, 1))) {i : Nat} (hi : i + 9 ≤ L) (hL : L ≤ 4608) {ce sl : Nat} (hc : ce ≤ 600000) (hs : sl ≤ 7000000) (kk : ∀ h' M' ce' sl', (∃ T N, cl_R z T N tO h' M') → rf_R m q h' M' → jv_sh h' o = some (.inr (.long, 1)) → ce' ≤ ce + 5 → sl' ≤ sl + 30 → jv_V E 7 h' ce' sl' Q 2122 [(4, .int (nI i)), (0, .ref b), (1, .ref (z 6 0)), (2, .ref m), (3, .ref o)] []) : jv_V E 7 h ce sl Q 428 [(4, .int (nI i)), (0, .ref b), (1, .ref (z 6 0)), (2, .ref m), (3, .ref o)] [] := by
  refine jv_aload_n (q := 429) G 2 dL_law_428 rfl rfl rfl ?_
  refine jv_aload_n (q := 430) G 1 dL_law_429 rfl rfl rfl ?_
  refine jv_iload (q := 432) G 0 dL_law_430 rfl rfl ?_
  refine jv_iconst (q := 433) (v := nI 1) G dL_law_432 (by decide) rfl ?_
  refine jv_iaddN (q := 434) G dL_law_433 rfl ?_
  refine jv_sld (q := 435) G S dL_law_434 (by omega) (by omega) rfl ?_
  refine jv_aload_n (q := 436) G 1 dL_law_435 rfl rfl rfl ?_
  refine jv_iload (q := 438) G 0 dL_law_436 rfl rfl ?_
  refine jv_iconst (q := 439) (v := nI 2) G dL_law_438 (by decide) rfl ?_
  refine jv_iaddN (q := 440) G dL_law_439 rfl ?_
  refine jv_sld (q := 441) G S dL_law_440 (by omega) (by omega) rfl ?_
  refine jv_aload_n (q := 442) G 1 dL_law_441 rfl rfl rfl ?_
  refine jv_iload (q := 444) G 0 dL_law_442 rfl rfl ?_
  refine jv_iconst (q := 445) (v := nI 3) G dL_law_444 (by decide) rfl ?_
  refine jv_iaddN (q := 446) G dL_law_445 rfl ?_
  refine jv_sld (q := 447) G S dL_law_446 (by omega) (by omega) rfl ?_
  refine jv_aload_n (q := 448) G 4 dL_law_447 rfl rfl rfl ?_
  refine jv_callSH (q := 451) (As := [.ref (z 6 0), .int (xs (i + 1)), .int (xs (i + 2)), .int (xs (i + 3)), .ref o]) (rest := []) G Z ml_L_120 (w_implement (p0 := (xs (i + 1))) (p1 := (xs (i + 2))) (p2 := (xs (i + 3))) hlt hR ho) dL_law_448 rfl (by decide) (by decide) (by omega) (by omega) (Nat.le_of_ble_eq_true rfl) rfl rfl (fun v1 h1 y1 => ?_)
  obtain ⟨rfl, hL1, ⟨T1, N1, hR1⟩, f1⟩ := y1
  show jv_V E 7 h1 (ce + 4) (sl + 24) Q 451 [(4, .int (nI i)), (0, .ref b), (1, .ref (z 6 0)), (2, .ref m), (3, .ref o)] [.int (nI ((m_im M (xs (i + 1)) (xs (i + 2)) (xs (i + 3))).1))]
  have hM1 := hM.sF f1; have ho1 := (f1.sh o).trans ho; have hle := le_implement (M := M) (p0 := (xs (i + 1))) (p1 := (xs (i + 2))) (p2 := (xs (i + 3)))
  have hle : (m_im M (xs (i + 1)) (xs (i + 2)) (xs (i + 3))).1 ≤ 4 := Nat.le_trans hle (by decide)
  refine jv_istore (q := 453) (lo' := [(5, .int (nI ((m_im M (xs (i + 1)) (xs (i + 2)) (xs (i + 3))).1))), (4, .int (nI i)), (0, .ref b), (1, .ref (z 6 0)), (2, .ref m), (3, .ref o)]) G dL_law_451 (by decide) rfl rfl ?_
  refine jv_aload_n (q := 454) G 4 dL_law_453 rfl rfl rfl ?_
  refine jv_aload_n (q := 455) G 2 dL_law_454 rfl rfl rfl ?_
  refine jv_iload (q := 457) G 1 dL_law_455 rfl rfl ?_
  refine jv_iconst (q := 458) (v := nI 1) G dL_law_457 (by decide) rfl ?_
  refine jv_iaddN (q := 459) G dL_law_458 rfl ?_
  refine jv_sld (q := 460) G S dL_law_459 (by omega) (by omega) rfl ?_
  refine jv_aload_n (q := 461) G 2 dL_law_460 rfl rfl rfl ?_
  refine jv_iload (q := 463) G 1 dL_law_461 rfl rfl ?_
  refine jv_iconst (q := 464) (v := nI 2) G dL_law_463 (by decide) rfl ?_
  refine jv_iaddN (q := 465) G dL_law_464 rfl ?_
  refine jv_sld (q := 466) G S dL_law_465 (by omega) (by omega) rfl ?_
  refine jv_aload_n (q := 467) G 2 dL_law_466 rfl rfl rfl ?_
  refine jv_iload (q := 469) G 1 dL_law_467 rfl rfl ?_
  refine jv_iconst (q := 470) (v := nI 3) G dL_law_469 (by decide) rfl ?_
  refine jv_iaddN (q := 471) G dL_law_470 rfl ?_
  refine jv_sld (q := 472) G S dL_law_471 (by omega) (by omega) rfl ?_
  refine jv_callV (q := 475) (As := [.int (xs (i + 1)), .int (xs (i + 2)), .int (xs (i + 3))]) (rest := []) G Z ml_L_123 ((show jv_Met _ _ _ _ _ _ _ _ _ _ (rO m q h1 (m_im M (xs (i + 1)) (xs (i + 2)) (xs (i + 3)))) _ from (r_implement (e := (xs (i + 1))) (n := (xs (i + 2))) (v := (xs (i + 3))) hlt hM1).mono (fun _ _ y => rO_p hM1.1 y) (fun _ _ y => y))) hM1.1.1 dL_law_472 rfl (by decide) (by decide) (by omega) (by omega) (Nat.le_of_ble_eq_true rfl) rfl rfl (fun v2 h1 y3 => ?_) (fun _ _ hx => hx.elim)
  obtain ⟨r9, rfl, hr9, hth, hM2, f2⟩ := y3
  show jv_V E 7 h1 (ce + 4) (sl + 24) Q 475 [(5, .int (nI ((m_im M (xs (i + 1)) (xs (i + 2)) (xs (i + 3))).1))), (4, .int (nI i)), (0, .ref b), (1, .ref (z 6 0)), (2, .ref m), (3, .ref o)] [.int r9]
  refine jv_istore (q := 477) (lo' := [(6, .int r9), (5, .int (nI ((m_im M (xs (i + 1)) (xs (i + 2)) (xs (i + 3))).1))), (4, .int (nI i)), (0, .ref b), (1, .ref (z 6 0)), (2, .ref m), (3, .ref o)]) G dL_law_475 (by decide) rfl rfl ?_
  refine jv_aload_n (q := 478) G 5 dL_law_477 rfl rfl rfl ?_
  refine jv_callV_I (q := 481) (h1 := h1) (As := []) (rest := []) (ce' := ce + 4) (sl' := sl + 24) (r := nI ((m_im M (xs (i + 1)) (xs (i + 2)) (xs (i + 3))).1)) G Z ml_L_109 (r_thrown hlt hM2.1 hth) hM2.1.1 dL_law_478 rfl (by decide) (by decide) (by omega) (by omega) (Nat.le_of_ble_eq_true rfl) rfl rfl rfl rfl ?_
  refine jv_iload (q := 483) G 1 dL_law_481 rfl rfl ?_
  refine jv_icmp_eqN (q := 486) (tgt := 488) G dL_law_483 (by decide) rfl (by omega) (by omega) (fun c4 => ?_) (fun c4 => ?_)
  · refine jv_iload (q := 490) G 1 dL_law_488 rfl rfl ?_
    refine jv_if_neN (q := 493) (tgt := 505) G dL_law_490 (by decide) rfl (by omega) (fun c5 => ?_) (fun c5 => ?_)
    · refine jv_goto (q := 2122) G dL_law_505 (by decide) ?_
      refine jv_lo [2, 3, 4, 5, 6] (lo' := [(4, .int (nI i)), (0, .ref b), (1, .ref (z 6 0)), (2, .ref m), (3, .ref o)]) rfl ?_
      exact kk _ _ _ _ ⟨_, _, f2.R cn_rsh hR1⟩ hM2 ((f2.sh o).trans ho1) (by omega) (by omega)
    · refine jv_aload_n (q := 494) G 6 dL_law_493 rfl rfl rfl ?_
      refine jv_iconst (q := 495) (v := nI 0) G dL_law_494 (by decide) rfl ?_
      refine jv_lald (q := 496) G dL_law_495 ((f2.sh o).trans ho1) rfl (by omega) (by decide) ((f2.l ho1 rfl 0).trans (hL1 c5)) rfl ?_
      refine jv_iload (q := 498) G 0 dL_law_496 rfl rfl ?_
      refine jv_i2l (q := 499) G dL_law_498 rfl rfl ?_
      refine jv_lcmp (q := 500) G dL_law_499 rfl rfl ?_
      refine jv_if_eq (q := 503) (tgt := 505) G dL_law_500 (by decide) rfl (fun c6 => ?_) (fun c6 => ?_)
      · refine jv_goto (q := 2122) G dL_law_505 (by decide) ?_
        refine jv_lo [2, 3, 4, 5, 6] (lo' := [(4, .int (nI i)), (0, .ref b), (1, .ref (z 6 0)), (2, .ref m), (3, .ref o)]) rfl ?_
        exact kk _ _ _ _ ⟨_, _, f2.R cn_rsh hR1⟩ hM2 ((f2.sh o).trans ho1) (by omega) (by omega)
      · exact absurd (by rw [hr9 c5]; exact lg0 _) c6
  · exact absurd rfl c4
set_option maxHeartbeats 4000000 in
set_option maxRecDepth 100000 in
theorem lc_member {E : jv_E} {Q : State → Prop} (hlt : (jv_l E).stackTraces = false) (G : jv_C E cL_law RL 7) (Z : jv_rm E = jv_room 1000 601024 7293034) {b L : Nat} {xs : Nat → Int32} (S : lwS E b L xs) {z : Nat → Nat → Nat} {T : Nat → Nat} {N : Nat → Nat → Nat} {tO : Nat → Nat} {h : jv_H} {M : mA} (hR : cl_R z T N tO h M) {m : Nat} {q : Nat → Nat} (hM : rf_R m q h M) {o : Nat} (ho : jv_sh h o = some (.inr (.long, 1))) {i : Nat} (hi : i + 9 ≤ L) (hL : L ≤ 4608) {ce sl : Nat} (hc : ce ≤ 600000) (hs : sl ≤ 7000000) (kk : ∀ h' M' ce' sl', (∃ T N, cl_R z T N tO h' M') → rf_R m q h' M' → jv_sh h' o = some (.inr (.long, 1)) → ce' ≤ ce + 5 → sl' ≤ sl + 30 → jv_V E 7 h' ce' sl' Q 2122 [(4, .int (nI i)), (0, .ref b), (1, .ref (z 6 0)), (2, .ref m), (3, .ref o)] []) : jv_V E 7 h ce sl Q 508 [(4, .int (nI i)), (0, .ref b), (1, .ref (z 6 0)), (2, .ref m), (3, .ref o)] [] := by
  refine jv_aload_n (q := 509) G 2 dL_law_508 rfl rfl rfl ?_
  refine jv_aload_n (q := 510) G 1 dL_law_509 rfl rfl rfl ?_
  refine jv_iload (q := 512) G 0 dL_law_510 rfl rfl ?_
  refine jv_iconst (q := 513) (v := nI 1) G dL_law_512 (by decide) rfl ?_
  refine jv_iaddN (q := 514) G dL_law_513 rfl ?_
  refine jv_sld (q := 515) G S dL_law_514 (by omega) (by omega) rfl ?_
  refine jv_aload_n (q := 516) G 1 dL_law_515 rfl rfl rfl ?_
  refine jv_iload (q := 518) G 0 dL_law_516 rfl rfl ?_
  refine jv_iconst (q := 519) (v := nI 2) G dL_law_518 (by decide) rfl ?_
  refine jv_iaddN (q := 520) G dL_law_519 rfl ?_
  refine jv_sld (q := 521) G S dL_law_520 (by omega) (by omega) rfl ?_
  refine jv_aload_n (q := 522) G 1 dL_law_521 rfl rfl rfl ?_
  refine jv_iload (q := 524) G 0 dL_law_522 rfl rfl ?_
  refine jv_iconst (q := 525) (v := nI 3) G dL_law_524 (by decide) rfl ?_
  refine jv_iaddN (q := 526) G dL_law_525 rfl ?_
  refine jv_sld (q := 527) G S dL_law_526 (by omega) (by omega) rfl ?_
  refine jv_aload_n (q := 528) G 1 dL_law_527 rfl rfl rfl ?_
  refine jv_iload (q := 530) G 0 dL_law_528 rfl rfl ?_
  refine jv_iconst (q := 531) (v := nI 4) G dL_law_530 (by decide) rfl ?_
  refine jv_iaddN (q := 532) G dL_law_531 rfl ?_
  refine jv_sld (q := 533) G S dL_law_532 (by omega) (by omega) rfl ?_
  refine jv_aload_n (q := 534) G 1 dL_law_533 rfl rfl rfl ?_
  refine jv_iload (q := 536) G 0 dL_law_534 rfl rfl ?_
  refine jv_iconst (q := 537) (v := nI 5) G dL_law_536 (by decide) rfl ?_
  refine jv_iaddN (q := 538) G dL_law_537 rfl ?_
  refine jv_sld (q := 539) G S dL_law_538 (by omega) (by omega) rfl ?_
  refine jv_aload_n (q := 540) G 1 dL_law_539 rfl rfl rfl ?_
  refine jv_iload (q := 542) G 0 dL_law_540 rfl rfl ?_
  refine jv_bipush (q := 544) (v := nI 6) G dL_law_542 (by decide) rfl ?_
  refine jv_iaddN (q := 545) G dL_law_544 rfl ?_
  refine jv_sld (q := 546) G S dL_law_545 (by omega) (by omega) rfl ?_
  refine jv_aload_n (q := 547) G 1 dL_law_546 rfl rfl rfl ?_
  refine jv_iload (q := 549) G 0 dL_law_547 rfl rfl ?_
  refine jv_bipush (q := 551) (v := nI 7) G dL_law_549 (by decide) rfl ?_
  refine jv_iaddN (q := 552) G dL_law_551 rfl ?_
  refine jv_sld (q := 553) G S dL_law_552 (by omega) (by omega) rfl ?_
  refine jv_if_eq (q := 556) (tgt := 560) G dL_law_553 (by decide) rfl (fun c1 => ?_) (fun c1 => ?_)
  · refine jv_iconst (q := 561) (v := nI 0) G dL_law_560 (by decide) rfl ?_
    refine jv_aload_n (q := 562) G 1 dL_law_561 rfl rfl rfl ?_
    refine jv_iload (q := 564) G 0 dL_law_562 rfl rfl ?_
    refine jv_bipush (q := 566) (v := nI 8) G dL_law_564 (by decide) rfl ?_
    refine jv_iaddN (q := 567) G dL_law_566 rfl ?_
    refine jv_sld (q := 568) G S dL_law_567 (by omega) (by omega) rfl ?_
    refine jv_aload_n (q := 569) G 4 dL_law_568 rfl rfl rfl ?_
    refine jv_callSH (q := 572) (As := [.ref (z 6 0), .int (xs (i + 1)), .int (xs (i + 2)), .int (xs (i + 3)), .int (xs (i + 4)), .int (xs (i + 5)), .int (xs (i + 6)), .int (nI 0), .int (xs (i + 8)), .ref o]) (rest := []) G Z ml_L_124 (w_member (p0 := (xs (i + 1))) (p1 := (xs (i + 2))) (p2 := (xs (i + 3))) (p3 := (xs (i + 4))) (p4 := (xs (i + 5))) (p5 := (xs (i + 6))) (p6 := false) (p7 := (xs (i + 8))) hlt hR ho) dL_law_569 rfl (by decide) (by decide) (by omega) (by omega) (Nat.le_of_ble_eq_true rfl) rfl rfl (fun v1 h1 y1 => ?_)
    obtain ⟨rfl, hL1, ⟨T1, N1, hR1⟩, f1⟩ := y1
    show jv_V E 7 h1 (ce + 4) (sl + 24) Q 572 [(4, .int (nI i)), (0, .ref b), (1, .ref (z 6 0)), (2, .ref m), (3, .ref o)] [.int (nI ((m_mb M (xs (i + 1)) (xs (i + 2)) (xs (i + 3)) (xs (i + 4)) (xs (i + 5)) (xs (i + 6)) false (xs (i + 8))).1))]
    have hM1 := hM.sF f1; have ho1 := (f1.sh o).trans ho; have hle := le_member (M := M) (p0 := (xs (i + 1))) (p1 := (xs (i + 2))) (p2 := (xs (i + 3))) (p3 := (xs (i + 4))) (p4 := (xs (i + 5))) (p5 := (xs (i + 6))) (p6 := false) (p7 := (xs (i + 8)))
    have hle : (m_mb M (xs (i + 1)) (xs (i + 2)) (xs (i + 3)) (xs (i + 4)) (xs (i + 5)) (xs (i + 6)) false (xs (i + 8))).1 ≤ 4 := Nat.le_trans hle (by decide)
    refine jv_istore (q := 574) (lo' := [(5, .int (nI ((m_mb M (xs (i + 1)) (xs (i + 2)) (xs (i + 3)) (xs (i + 4)) (xs (i + 5)) (xs (i + 6)) false (xs (i + 8))).1))), (4, .int (nI i)), (0, .ref b), (1, .ref (z 6 0)), (2, .ref m), (3, .ref o)]) G dL_law_572 (by decide) rfl rfl ?_
    refine jv_aload_n (q := 575) G 4 dL_law_574 rfl rfl rfl ?_
    refine jv_aload_n (q := 576) G 2 dL_law_575 rfl rfl rfl ?_
    refine jv_iload (q := 578) G 1 dL_law_576 rfl rfl ?_
    refine jv_iconst (q := 579) (v := nI 1) G dL_law_578 (by decide) rfl ?_
    refine jv_iaddN (q := 580) G dL_law_579 rfl ?_
    refine jv_sld (q := 581) G S dL_law_580 (by omega) (by omega) rfl ?_
    refine jv_aload_n (q := 582) G 2 dL_law_581 rfl rfl rfl ?_
    refine jv_iload (q := 584) G 1 dL_law_582 rfl rfl ?_
    refine jv_iconst (q := 585) (v := nI 2) G dL_law_584 (by decide) rfl ?_
    refine jv_iaddN (q := 586) G dL_law_585 rfl ?_
    refine jv_sld (q := 587) G S dL_law_586 (by omega) (by omega) rfl ?_
    refine jv_aload_n (q := 588) G 2 dL_law_587 rfl rfl rfl ?_
    refine jv_iload (q := 590) G 1 dL_law_588 rfl rfl ?_
    refine jv_iconst (q := 591) (v := nI 3) G dL_law_590 (by decide) rfl ?_
    refine jv_iaddN (q := 592) G dL_law_591 rfl ?_
    refine jv_sld (q := 593) G S dL_law_592 (by omega) (by omega) rfl ?_
    refine jv_aload_n (q := 594) G 2 dL_law_593 rfl rfl rfl ?_
    refine jv_iload (q := 596) G 1 dL_law_594 rfl rfl ?_
    refine jv_iconst (q := 597) (v := nI 4) G dL_law_596 (by decide) rfl ?_
    refine jv_iaddN (q := 598) G dL_law_597 rfl ?_
    refine jv_sld (q := 599) G S dL_law_598 (by omega) (by omega) rfl ?_
    refine jv_aload_n (q := 600) G 2 dL_law_599 rfl rfl rfl ?_
    refine jv_iload (q := 602) G 1 dL_law_600 rfl rfl ?_
    refine jv_iconst (q := 603) (v := nI 5) G dL_law_602 (by decide) rfl ?_
    refine jv_iaddN (q := 604) G dL_law_603 rfl ?_
    refine jv_sld (q := 605) G S dL_law_604 (by omega) (by omega) rfl ?_
    refine jv_aload_n (q := 606) G 2 dL_law_605 rfl rfl rfl ?_
    refine jv_iload (q := 608) G 1 dL_law_606 rfl rfl ?_
    refine jv_bipush (q := 610) (v := nI 6) G dL_law_608 (by decide) rfl ?_
    refine jv_iaddN (q := 611) G dL_law_610 rfl ?_
    refine jv_sld (q := 612) G S dL_law_611 (by omega) (by omega) rfl ?_
    refine jv_aload_n (q := 613) G 2 dL_law_612 rfl rfl rfl ?_
    refine jv_iload (q := 615) G 1 dL_law_613 rfl rfl ?_
    refine jv_bipush (q := 617) (v := nI 7) G dL_law_615 (by decide) rfl ?_
    refine jv_iaddN (q := 618) G dL_law_617 rfl ?_
    refine jv_sld (q := 619) G S dL_law_618 (by omega) (by omega) rfl ?_
    refine jv_if_eq (q := 622) (tgt := 626) G dL_law_619 (by decide) rfl (fun c2 => ?_) (fun c2 => ?_)
    · refine jv_iconst (q := 627) (v := nI 0) G dL_law_626 (by decide) rfl ?_
      refine jv_aload_n (q := 628) G 2 dL_law_627 rfl rfl rfl ?_
      refine jv_iload (q := 630) G 1 dL_law_628 rfl rfl ?_
      refine jv_bipush (q := 632) (v := nI 8) G dL_law_630 (by decide) rfl ?_
      refine jv_iaddN (q := 633) G dL_law_632 rfl ?_
      refine jv_sld (q := 634) G S dL_law_633 (by omega) (by omega) rfl ?_
      refine jv_callV (q := 637) (As := [.int (xs (i + 1)), .int (xs (i + 2)), .int (xs (i + 3)), .int (xs (i + 4)), .int (xs (i + 5)), .int (xs (i + 6)), .int (nI 0), .int (xs (i + 8))]) (rest := []) G Z ml_L_127 ((show jv_Met _ _ _ _ _ _ _ _ _ _ (rO m q h1 (m_mb M (xs (i + 1)) (xs (i + 2)) (xs (i + 3)) (xs (i + 4)) (xs (i + 5)) (xs (i + 6)) false (xs (i + 8)))) _ from (r_member (e := (xs (i + 1))) (n := (xs (i + 2))) (w := (xs (i + 3))) (o := (xs (i + 4))) (s := (xs (i + 5))) (a := (xs (i + 6))) (st := false) (b := (xs (i + 8))) hlt hM1).mono (fun _ _ y => rO_p hM1.1 y) (fun _ _ y => y))) hM1.1.1 dL_law_634 rfl (by decide) (by decide) (by omega) (by omega) (Nat.le_of_ble_eq_true rfl) rfl rfl (fun v4 h3 y5 => ?_) (fun _ _ hx => hx.elim)
      obtain ⟨r9, rfl, hr9, hth, hM2, f2⟩ := y5
      show jv_V E 7 h3 (ce + 4) (sl + 24) Q 637 [(5, .int (nI ((m_mb M (xs (i + 1)) (xs (i + 2)) (xs (i + 3)) (xs (i + 4)) (xs (i + 5)) (xs (i + 6)) false (xs (i + 8))).1))), (4, .int (nI i)), (0, .ref b), (1, .ref (z 6 0)), (2, .ref m), (3, .ref o)] [.int r9]
      refine jv_istore (q := 639) (lo' := [(6, .int r9), (5, .int (nI ((m_mb M (xs (i + 1)) (xs (i + 2)) (xs (i + 3)) (xs (i + 4)) (xs (i + 5)) (xs (i + 6)) false (xs (i + 8))).1))), (4, .int (nI i)), (0, .ref b), (1, .ref (z 6 0)), (2, .ref m), (3, .ref o)]) G dL_law_637 (by decide) rfl rfl ?_
      refine jv_aload_n (q := 640) G 5 dL_law_639 rfl rfl rfl ?_
      refine jv_callV_I (q := 643) (h1 := h3) (As := []) (rest := []) (ce' := ce + 4) (sl' := sl + 24) (r := nI ((m_mb M (xs (i + 1)) (xs (i + 2)) (xs (i + 3)) (xs (i + 4)) (xs (i + 5)) (xs (i + 6)) false (xs (i + 8))).1)) G Z ml_L_109 (r_thrown hlt hM2.1 hth) hM2.1.1 dL_law_640 rfl (by decide) (by decide) (by omega) (by omega) (Nat.le_of_ble_eq_true rfl) rfl rfl rfl rfl ?_
      refine jv_iload (q := 645) G 1 dL_law_643 rfl rfl ?_
      refine jv_icmp_eqN (q := 648) (tgt := 650) G dL_law_645 (by decide) rfl (by omega) (by omega) (fun c6 => ?_) (fun c6 => ?_)
      · refine jv_iload (q := 652) G 1 dL_law_650 rfl rfl ?_
        refine jv_if_neN (q := 655) (tgt := 667) G dL_law_652 (by decide) rfl (by omega) (fun c7 => ?_) (fun c7 => ?_)
        · refine jv_goto (q := 2122) G dL_law_667 (by decide) ?_
          refine jv_lo [2, 3, 4, 5, 6] (lo' := [(4, .int (nI i)), (0, .ref b), (1, .ref (z 6 0)), (2, .ref m), (3, .ref o)]) rfl ?_
          exact kk _ _ _ _ ⟨_, _, f2.R cn_rsh hR1⟩ hM2 ((f2.sh o).trans ho1) (by omega) (by omega)
        · refine jv_aload_n (q := 656) G 6 dL_law_655 rfl rfl rfl ?_
          refine jv_iconst (q := 657) (v := nI 0) G dL_law_656 (by decide) rfl ?_
          refine jv_lald (q := 658) G dL_law_657 ((f2.sh o).trans ho1) rfl (by omega) (by decide) ((f2.l ho1 rfl 0).trans (hL1 c7)) rfl ?_
          refine jv_iload (q := 660) G 0 dL_law_658 rfl rfl ?_
          refine jv_i2l (q := 661) G dL_law_660 rfl rfl ?_
          refine jv_lcmp (q := 662) G dL_law_661 rfl rfl ?_
          refine jv_if_eq (q := 665) (tgt := 667) G dL_law_662 (by decide) rfl (fun c8 => ?_) (fun c8 => ?_)
          · refine jv_goto (q := 2122) G dL_law_667 (by decide) ?_
            refine jv_lo [2, 3, 4, 5, 6] (lo' := [(4, .int (nI i)), (0, .ref b), (1, .ref (z 6 0)), (2, .ref m), (3, .ref o)]) rfl ?_
            exact kk _ _ _ _ ⟨_, _, f2.R cn_rsh hR1⟩ hM2 ((f2.sh o).trans ho1) (by omega) (by omega)
          · exact absurd (by rw [hr9 c7]; exact lg0 _) c8
      · exact absurd rfl c6
    · exact absurd c1 c2
  · refine jv_iconst (q := 557) (v := nI 1) G dL_law_556 (by decide) rfl ?_
    refine jv_goto (q := 561) G dL_law_557 (by decide) ?_
    refine jv_aload_n (q := 562) G 1 dL_law_561 rfl rfl rfl ?_
    refine jv_iload (q := 564) G 0 dL_law_562 rfl rfl ?_
    refine jv_bipush (q := 566) (v := nI 8) G dL_law_564 (by decide) rfl ?_
    refine jv_iaddN (q := 567) G dL_law_566 rfl ?_
    refine jv_sld (q := 568) G S dL_law_567 (by omega) (by omega) rfl ?_
    refine jv_aload_n (q := 569) G 4 dL_law_568 rfl rfl rfl ?_
    refine jv_callSH (q := 572) (As := [.ref (z 6 0), .int (xs (i + 1)), .int (xs (i + 2)), .int (xs (i + 3)), .int (xs (i + 4)), .int (xs (i + 5)), .int (xs (i + 6)), .int (nI 1), .int (xs (i + 8)), .ref o]) (rest := []) G Z ml_L_124 (w_member (p0 := (xs (i + 1))) (p1 := (xs (i + 2))) (p2 := (xs (i + 3))) (p3 := (xs (i + 4))) (p4 := (xs (i + 5))) (p5 := (xs (i + 6))) (p6 := true) (p7 := (xs (i + 8))) hlt hR ho) dL_law_569 rfl (by decide) (by decide) (by omega) (by omega) (Nat.le_of_ble_eq_true rfl) rfl rfl (fun v1 h1 y1 => ?_)
    obtain ⟨rfl, hL1, ⟨T1, N1, hR1⟩, f1⟩ := y1
    show jv_V E 7 h1 (ce + 4) (sl + 24) Q 572 [(4, .int (nI i)), (0, .ref b), (1, .ref (z 6 0)), (2, .ref m), (3, .ref o)] [.int (nI ((m_mb M (xs (i + 1)) (xs (i + 2)) (xs (i + 3)) (xs (i + 4)) (xs (i + 5)) (xs (i + 6)) true (xs (i + 8))).1))]
    have hM1 := hM.sF f1; have ho1 := (f1.sh o).trans ho; have hle := le_member (M := M) (p0 := (xs (i + 1))) (p1 := (xs (i + 2))) (p2 := (xs (i + 3))) (p3 := (xs (i + 4))) (p4 := (xs (i + 5))) (p5 := (xs (i + 6))) (p6 := true) (p7 := (xs (i + 8)))
    have hle : (m_mb M (xs (i + 1)) (xs (i + 2)) (xs (i + 3)) (xs (i + 4)) (xs (i + 5)) (xs (i + 6)) true (xs (i + 8))).1 ≤ 4 := Nat.le_trans hle (by decide)
    refine jv_istore (q := 574) (lo' := [(5, .int (nI ((m_mb M (xs (i + 1)) (xs (i + 2)) (xs (i + 3)) (xs (i + 4)) (xs (i + 5)) (xs (i + 6)) true (xs (i + 8))).1))), (4, .int (nI i)), (0, .ref b), (1, .ref (z 6 0)), (2, .ref m), (3, .ref o)]) G dL_law_572 (by decide) rfl rfl ?_
    refine jv_aload_n (q := 575) G 4 dL_law_574 rfl rfl rfl ?_
    refine jv_aload_n (q := 576) G 2 dL_law_575 rfl rfl rfl ?_
    refine jv_iload (q := 578) G 1 dL_law_576 rfl rfl ?_
    refine jv_iconst (q := 579) (v := nI 1) G dL_law_578 (by decide) rfl ?_
    refine jv_iaddN (q := 580) G dL_law_579 rfl ?_
    refine jv_sld (q := 581) G S dL_law_580 (by omega) (by omega) rfl ?_
    refine jv_aload_n (q := 582) G 2 dL_law_581 rfl rfl rfl ?_
    refine jv_iload (q := 584) G 1 dL_law_582 rfl rfl ?_
    refine jv_iconst (q := 585) (v := nI 2) G dL_law_584 (by decide) rfl ?_
    refine jv_iaddN (q := 586) G dL_law_585 rfl ?_
    refine jv_sld (q := 587) G S dL_law_586 (by omega) (by omega) rfl ?_
    refine jv_aload_n (q := 588) G 2 dL_law_587 rfl rfl rfl ?_
    refine jv_iload (q := 590) G 1 dL_law_588 rfl rfl ?_
    refine jv_iconst (q := 591) (v := nI 3) G dL_law_590 (by decide) rfl ?_
    refine jv_iaddN (q := 592) G dL_law_591 rfl ?_
    refine jv_sld (q := 593) G S dL_law_592 (by omega) (by omega) rfl ?_
    refine jv_aload_n (q := 594) G 2 dL_law_593 rfl rfl rfl ?_
    refine jv_iload (q := 596) G 1 dL_law_594 rfl rfl ?_
    refine jv_iconst (q := 597) (v := nI 4) G dL_law_596 (by decide) rfl ?_
    refine jv_iaddN (q := 598) G dL_law_597 rfl ?_
    refine jv_sld (q := 599) G S dL_law_598 (by omega) (by omega) rfl ?_
    refine jv_aload_n (q := 600) G 2 dL_law_599 rfl rfl rfl ?_
    refine jv_iload (q := 602) G 1 dL_law_600 rfl rfl ?_
    refine jv_iconst (q := 603) (v := nI 5) G dL_law_602 (by decide) rfl ?_
    refine jv_iaddN (q := 604) G dL_law_603 rfl ?_
    refine jv_sld (q := 605) G S dL_law_604 (by omega) (by omega) rfl ?_
    refine jv_aload_n (q := 606) G 2 dL_law_605 rfl rfl rfl ?_
    refine jv_iload (q := 608) G 1 dL_law_606 rfl rfl ?_
    refine jv_bipush (q := 610) (v := nI 6) G dL_law_608 (by decide) rfl ?_
    refine jv_iaddN (q := 611) G dL_law_610 rfl ?_
    refine jv_sld (q := 612) G S dL_law_611 (by omega) (by omega) rfl ?_
    refine jv_aload_n (q := 613) G 2 dL_law_612 rfl rfl rfl ?_
    refine jv_iload (q := 615) G 1 dL_law_613 rfl rfl ?_
    refine jv_bipush (q := 617) (v := nI 7) G dL_law_615 (by decide) rfl ?_
    refine jv_iaddN (q := 618) G dL_law_617 rfl ?_
    refine jv_sld (q := 619) G S dL_law_618 (by omega) (by omega) rfl ?_
    refine jv_if_eq (q := 622) (tgt := 626) G dL_law_619 (by decide) rfl (fun c9 => ?_) (fun c9 => ?_)
    · exact absurd c9 c1
    · refine jv_iconst (q := 623) (v := nI 1) G dL_law_622 (by decide) rfl ?_
      refine jv_goto (q := 627) G dL_law_623 (by decide) ?_
      refine jv_aload_n (q := 628) G 2 dL_law_627 rfl rfl rfl ?_
      refine jv_iload (q := 630) G 1 dL_law_628 rfl rfl ?_
      refine jv_bipush (q := 632) (v := nI 8) G dL_law_630 (by decide) rfl ?_
      refine jv_iaddN (q := 633) G dL_law_632 rfl ?_
      refine jv_sld (q := 634) G S dL_law_633 (by omega) (by omega) rfl ?_
      refine jv_callV (q := 637) (As := [.int (xs (i + 1)), .int (xs (i + 2)), .int (xs (i + 3)), .int (xs (i + 4)), .int (xs (i + 5)), .int (xs (i + 6)), .int (nI 1), .int (xs (i + 8))]) (rest := []) G Z ml_L_127 ((show jv_Met _ _ _ _ _ _ _ _ _ _ (rO m q h1 (m_mb M (xs (i + 1)) (xs (i + 2)) (xs (i + 3)) (xs (i + 4)) (xs (i + 5)) (xs (i + 6)) true (xs (i + 8)))) _ from (r_member (e := (xs (i + 1))) (n := (xs (i + 2))) (w := (xs (i + 3))) (o := (xs (i + 4))) (s := (xs (i + 5))) (a := (xs (i + 6))) (st := true) (b := (xs (i + 8))) hlt hM1).mono (fun _ _ y => rO_p hM1.1 y) (fun _ _ y => y))) hM1.1.1 dL_law_634 rfl (by decide) (by decide) (by omega) (by omega) (Nat.le_of_ble_eq_true rfl) rfl rfl (fun v11 h10 y12 => ?_) (fun _ _ hx => hx.elim)
      obtain ⟨r9, rfl, hr9, hth, hM2, f2⟩ := y12
      show jv_V E 7 h10 (ce + 4) (sl + 24) Q 637 [(5, .int (nI ((m_mb M (xs (i + 1)) (xs (i + 2)) (xs (i + 3)) (xs (i + 4)) (xs (i + 5)) (xs (i + 6)) true (xs (i + 8))).1))), (4, .int (nI i)), (0, .ref b), (1, .ref (z 6 0)), (2, .ref m), (3, .ref o)] [.int r9]
      refine jv_istore (q := 639) (lo' := [(6, .int r9), (5, .int (nI ((m_mb M (xs (i + 1)) (xs (i + 2)) (xs (i + 3)) (xs (i + 4)) (xs (i + 5)) (xs (i + 6)) true (xs (i + 8))).1))), (4, .int (nI i)), (0, .ref b), (1, .ref (z 6 0)), (2, .ref m), (3, .ref o)]) G dL_law_637 (by decide) rfl rfl ?_
      refine jv_aload_n (q := 640) G 5 dL_law_639 rfl rfl rfl ?_
      refine jv_callV_I (q := 643) (h1 := h10) (As := []) (rest := []) (ce' := ce + 4) (sl' := sl + 24) (r := nI ((m_mb M (xs (i + 1)) (xs (i + 2)) (xs (i + 3)) (xs (i + 4)) (xs (i + 5)) (xs (i + 6)) true (xs (i + 8))).1)) G Z ml_L_109 (r_thrown hlt hM2.1 hth) hM2.1.1 dL_law_640 rfl (by decide) (by decide) (by omega) (by omega) (Nat.le_of_ble_eq_true rfl) rfl rfl rfl rfl ?_
      refine jv_iload (q := 645) G 1 dL_law_643 rfl rfl ?_
      refine jv_icmp_eqN (q := 648) (tgt := 650) G dL_law_645 (by decide) rfl (by omega) (by omega) (fun c13 => ?_) (fun c13 => ?_)
      · refine jv_iload (q := 652) G 1 dL_law_650 rfl rfl ?_
        refine jv_if_neN (q := 655) (tgt := 667) G dL_law_652 (by decide) rfl (by omega) (fun c14 => ?_) (fun c14 => ?_)
        · refine jv_goto (q := 2122) G dL_law_667 (by decide) ?_
          refine jv_lo [2, 3, 4, 5, 6] (lo' := [(4, .int (nI i)), (0, .ref b), (1, .ref (z 6 0)), (2, .ref m), (3, .ref o)]) rfl ?_
          exact kk _ _ _ _ ⟨_, _, f2.R cn_rsh hR1⟩ hM2 ((f2.sh o).trans ho1) (by omega) (by omega)
        · refine jv_aload_n (q := 656) G 6 dL_law_655 rfl rfl rfl ?_
          refine jv_iconst (q := 657) (v := nI 0) G dL_law_656 (by decide) rfl ?_
          refine jv_lald (q := 658) G dL_law_657 ((f2.sh o).trans ho1) rfl (by omega) (by decide) ((f2.l ho1 rfl 0).trans (hL1 c14)) rfl ?_
          refine jv_iload (q := 660) G 0 dL_law_658 rfl rfl ?_
          refine jv_i2l (q := 661) G dL_law_660 rfl rfl ?_
          refine jv_lcmp (q := 662) G dL_law_661 rfl rfl ?_
          refine jv_if_eq (q := 665) (tgt := 667) G dL_law_662 (by decide) rfl (fun c15 => ?_) (fun c15 => ?_)
          · refine jv_goto (q := 2122) G dL_law_667 (by decide) ?_
            refine jv_lo [2, 3, 4, 5, 6] (lo' := [(4, .int (nI i)), (0, .ref b), (1, .ref (z 6 0)), (2, .ref m), (3, .ref o)]) rfl ?_
            exact kk _ _ _ _ ⟨_, _, f2.R cn_rsh hR1⟩ hM2 ((f2.sh o).trans ho1) (by omega) (by omega)
          · exact absurd (by rw [hr9 c14]; exact lg0 _) c15
      · exact absurd rfl c13
set_option maxHeartbeats 4000000 in
set_option maxRecDepth 100000 in
theorem lc_drop {E : jv_E} {Q : State → Prop} (hlt : (jv_l E).stackTraces = false) (G : jv_C E cL_law RL 7) (Z : jv_rm E = jv_room 1000 601024 7293034) {b L : Nat} {xs : Nat → Int32} (S : lwS E b L xs) {z : Nat → Nat → Nat} {T : Nat → Nat} {N : Nat → Nat → Nat} {tO : Nat → Nat} {h : jv_H} {M : mA} (hR : cl_R z T N tO h M) {m : Nat} {q : Nat → Nat} (hM : rf_R m q h M) {o : Nat} (ho : jv_sh h o = some (.inr (.long, 1))) {i : Nat} (hi : i + 9 ≤ L) (hL : L ≤ 4608) {ce sl : Nat} (hc : ce ≤ 600000) (hs : sl ≤ 7000000) (kk : ∀ h' M' ce' sl', (∃ T N, cl_R z T N tO h' M') → rf_R m q h' M' → jv_sh h' o = some (.inr (.long, 1)) → ce' ≤ ce + 5 → sl' ≤ sl + 30 → jv_V E 7 h' ce' sl' Q 2122 [(4, .int (nI i)), (0, .ref b), (1, .ref (z 6 0)), (2, .ref m), (3, .ref o)] []) : jv_V E 7 h ce sl Q 670 [(4, .int (nI i)), (0, .ref b), (1, .ref (z 6 0)), (2, .ref m), (3, .ref o)] [] := by
  refine jv_aload_n (q := 671) G 2 dL_law_670 rfl rfl rfl ?_
  refine jv_aload_n (q := 672) G 1 dL_law_671 rfl rfl rfl ?_
  refine jv_iload (q := 674) G 0 dL_law_672 rfl rfl ?_
  refine jv_iconst (q := 675) (v := nI 1) G dL_law_674 (by decide) rfl ?_
  refine jv_iaddN (q := 676) G dL_law_675 rfl ?_
  refine jv_sld (q := 677) G S dL_law_676 (by omega) (by omega) rfl ?_
  refine jv_aload_n (q := 678) G 1 dL_law_677 rfl rfl rfl ?_
  refine jv_iload (q := 680) G 0 dL_law_678 rfl rfl ?_
  refine jv_iconst (q := 681) (v := nI 2) G dL_law_680 (by decide) rfl ?_
  refine jv_iaddN (q := 682) G dL_law_681 rfl ?_
  refine jv_sld (q := 683) G S dL_law_682 (by omega) (by omega) rfl ?_
  refine jv_aload_n (q := 684) G 1 dL_law_683 rfl rfl rfl ?_
  refine jv_iload (q := 686) G 0 dL_law_684 rfl rfl ?_
  refine jv_iconst (q := 687) (v := nI 3) G dL_law_686 (by decide) rfl ?_
  refine jv_iaddN (q := 688) G dL_law_687 rfl ?_
  refine jv_sld (q := 689) G S dL_law_688 (by omega) (by omega) rfl ?_
  refine jv_aload_n (q := 690) G 1 dL_law_689 rfl rfl rfl ?_
  refine jv_iload (q := 692) G 0 dL_law_690 rfl rfl ?_
  refine jv_iconst (q := 693) (v := nI 4) G dL_law_692 (by decide) rfl ?_
  refine jv_iaddN (q := 694) G dL_law_693 rfl ?_
  refine jv_sld (q := 695) G S dL_law_694 (by omega) (by omega) rfl ?_
  refine jv_aload_n (q := 696) G 1 dL_law_695 rfl rfl rfl ?_
  refine jv_iload (q := 698) G 0 dL_law_696 rfl rfl ?_
  refine jv_iconst (q := 699) (v := nI 5) G dL_law_698 (by decide) rfl ?_
  refine jv_iaddN (q := 700) G dL_law_699 rfl ?_
  refine jv_sld (q := 701) G S dL_law_700 (by omega) (by omega) rfl ?_
  refine jv_aload_n (q := 702) G 4 dL_law_701 rfl rfl rfl ?_
  refine jv_callSH (q := 705) (As := [.ref (z 6 0), .int (xs (i + 1)), .int (xs (i + 2)), .int (xs (i + 3)), .int (xs (i + 4)), .int (xs (i + 5)), .ref o]) (rest := []) G Z ml_L_128 (w_drop (p0 := (xs (i + 1))) (p1 := (xs (i + 2))) (p2 := (xs (i + 3))) (p3 := (xs (i + 4))) (p4 := (xs (i + 5))) hlt hR ho) dL_law_702 rfl (by decide) (by decide) (by omega) (by omega) (Nat.le_of_ble_eq_true rfl) rfl rfl (fun v1 h1 y1 => ?_)
  obtain ⟨rfl, hL1, ⟨T1, N1, hR1⟩, f1⟩ := y1
  show jv_V E 7 h1 (ce + 2) (sl + 12) Q 705 [(4, .int (nI i)), (0, .ref b), (1, .ref (z 6 0)), (2, .ref m), (3, .ref o)] [.int (nI ((m_dr M (xs (i + 1)) (xs (i + 2)) (xs (i + 3)) (xs (i + 4)) (xs (i + 5))).1))]
  have hM1 := hM.sF f1; have ho1 := (f1.sh o).trans ho; have hle := le_drop (M := M) (p0 := (xs (i + 1))) (p1 := (xs (i + 2))) (p2 := (xs (i + 3))) (p3 := (xs (i + 4))) (p4 := (xs (i + 5)))
  have hle : (m_dr M (xs (i + 1)) (xs (i + 2)) (xs (i + 3)) (xs (i + 4)) (xs (i + 5))).1 ≤ 4 := Nat.le_trans hle (by decide)
  refine jv_istore (q := 707) (lo' := [(5, .int (nI ((m_dr M (xs (i + 1)) (xs (i + 2)) (xs (i + 3)) (xs (i + 4)) (xs (i + 5))).1))), (4, .int (nI i)), (0, .ref b), (1, .ref (z 6 0)), (2, .ref m), (3, .ref o)]) G dL_law_705 (by decide) rfl rfl ?_
  refine jv_aload_n (q := 708) G 4 dL_law_707 rfl rfl rfl ?_
  refine jv_aload_n (q := 709) G 2 dL_law_708 rfl rfl rfl ?_
  refine jv_iload (q := 711) G 1 dL_law_709 rfl rfl ?_
  refine jv_iconst (q := 712) (v := nI 1) G dL_law_711 (by decide) rfl ?_
  refine jv_iaddN (q := 713) G dL_law_712 rfl ?_
  refine jv_sld (q := 714) G S dL_law_713 (by omega) (by omega) rfl ?_
  refine jv_aload_n (q := 715) G 2 dL_law_714 rfl rfl rfl ?_
  refine jv_iload (q := 717) G 1 dL_law_715 rfl rfl ?_
  refine jv_iconst (q := 718) (v := nI 2) G dL_law_717 (by decide) rfl ?_
  refine jv_iaddN (q := 719) G dL_law_718 rfl ?_
  refine jv_sld (q := 720) G S dL_law_719 (by omega) (by omega) rfl ?_
  refine jv_aload_n (q := 721) G 2 dL_law_720 rfl rfl rfl ?_
  refine jv_iload (q := 723) G 1 dL_law_721 rfl rfl ?_
  refine jv_iconst (q := 724) (v := nI 3) G dL_law_723 (by decide) rfl ?_
  refine jv_iaddN (q := 725) G dL_law_724 rfl ?_
  refine jv_sld (q := 726) G S dL_law_725 (by omega) (by omega) rfl ?_
  refine jv_aload_n (q := 727) G 2 dL_law_726 rfl rfl rfl ?_
  refine jv_iload (q := 729) G 1 dL_law_727 rfl rfl ?_
  refine jv_iconst (q := 730) (v := nI 4) G dL_law_729 (by decide) rfl ?_
  refine jv_iaddN (q := 731) G dL_law_730 rfl ?_
  refine jv_sld (q := 732) G S dL_law_731 (by omega) (by omega) rfl ?_
  refine jv_aload_n (q := 733) G 2 dL_law_732 rfl rfl rfl ?_
  refine jv_iload (q := 735) G 1 dL_law_733 rfl rfl ?_
  refine jv_iconst (q := 736) (v := nI 5) G dL_law_735 (by decide) rfl ?_
  refine jv_iaddN (q := 737) G dL_law_736 rfl ?_
  refine jv_sld (q := 738) G S dL_law_737 (by omega) (by omega) rfl ?_
  refine jv_callV (q := 741) (As := [.int (xs (i + 1)), .int (xs (i + 2)), .int (xs (i + 3)), .int (xs (i + 4)), .int (xs (i + 5))]) (rest := []) G Z ml_L_131 ((show jv_Met _ _ _ _ _ _ _ _ _ _ (rO m q h1 (m_dr M (xs (i + 1)) (xs (i + 2)) (xs (i + 3)) (xs (i + 4)) (xs (i + 5)))) _ from (r_drop (e := (xs (i + 1))) (n := (xs (i + 2))) (w := (xs (i + 3))) (a := (xs (i + 4))) (s := (xs (i + 5))) hlt hM1).mono (fun _ _ y => rO_p hM1.1 y) (fun _ _ y => y))) hM1.1.1 dL_law_738 rfl (by decide) (by decide) (by omega) (by omega) (Nat.le_of_ble_eq_true rfl) rfl rfl (fun v2 h1 y3 => ?_) (fun _ _ hx => hx.elim)
  obtain ⟨r9, rfl, hr9, hth, hM2, f2⟩ := y3
  show jv_V E 7 h1 (ce + 2) (sl + 12) Q 741 [(5, .int (nI ((m_dr M (xs (i + 1)) (xs (i + 2)) (xs (i + 3)) (xs (i + 4)) (xs (i + 5))).1))), (4, .int (nI i)), (0, .ref b), (1, .ref (z 6 0)), (2, .ref m), (3, .ref o)] [.int r9]
  refine jv_istore (q := 743) (lo' := [(6, .int r9), (5, .int (nI ((m_dr M (xs (i + 1)) (xs (i + 2)) (xs (i + 3)) (xs (i + 4)) (xs (i + 5))).1))), (4, .int (nI i)), (0, .ref b), (1, .ref (z 6 0)), (2, .ref m), (3, .ref o)]) G dL_law_741 (by decide) rfl rfl ?_
  refine jv_aload_n (q := 744) G 5 dL_law_743 rfl rfl rfl ?_
  refine jv_callV_I (q := 747) (h1 := h1) (As := []) (rest := []) (ce' := ce + 2) (sl' := sl + 12) (r := nI ((m_dr M (xs (i + 1)) (xs (i + 2)) (xs (i + 3)) (xs (i + 4)) (xs (i + 5))).1)) G Z ml_L_109 (r_thrown hlt hM2.1 hth) hM2.1.1 dL_law_744 rfl (by decide) (by decide) (by omega) (by omega) (Nat.le_of_ble_eq_true rfl) rfl rfl rfl rfl ?_
  refine jv_iload (q := 749) G 1 dL_law_747 rfl rfl ?_
  refine jv_icmp_eqN (q := 752) (tgt := 754) G dL_law_749 (by decide) rfl (by omega) (by omega) (fun c4 => ?_) (fun c4 => ?_)
  · refine jv_iload (q := 756) G 1 dL_law_754 rfl rfl ?_
    refine jv_if_neN (q := 759) (tgt := 778) G dL_law_756 (by decide) rfl (by omega) (fun c5 => ?_) (fun c5 => ?_)
    · refine jv_goto (q := 2122) G dL_law_778 (by decide) ?_
      refine jv_lo [2, 3, 4, 5, 6] (lo' := [(4, .int (nI i)), (0, .ref b), (1, .ref (z 6 0)), (2, .ref m), (3, .ref o)]) rfl ?_
      exact kk _ _ _ _ ⟨_, _, f2.R cn_rsh hR1⟩ hM2 ((f2.sh o).trans ho1) (by omega) (by omega)
    · refine jv_aload_n (q := 760) G 6 dL_law_759 rfl rfl rfl ?_
      refine jv_iconst (q := 761) (v := nI 0) G dL_law_760 (by decide) rfl ?_
      refine jv_lald (q := 762) G dL_law_761 ((f2.sh o).trans ho1) rfl (by omega) (by decide) ((f2.l ho1 rfl 0).trans (hL1 c5)) rfl ?_
      refine jv_iload (q := 764) G 0 dL_law_762 rfl rfl ?_
      refine jv_if_eq (q := 767) (tgt := 771) G dL_law_764 (by decide) rfl (fun c6 => ?_) (fun c6 => ?_)
      · refine jv_lconst (q := 772) (v := 0) G dL_law_771 (by decide) rfl ?_
        refine jv_lcmp (q := 773) G dL_law_772 rfl rfl ?_
        refine jv_if_eq (q := 776) (tgt := 778) G dL_law_773 (by decide) rfl (fun c7 => ?_) (fun c7 => ?_)
        · refine jv_goto (q := 2122) G dL_law_778 (by decide) ?_
          refine jv_lo [2, 3, 4, 5, 6] (lo' := [(4, .int (nI i)), (0, .ref b), (1, .ref (z 6 0)), (2, .ref m), (3, .ref o)]) rfl ?_
          exact kk _ _ _ _ ⟨_, _, f2.R cn_rsh hR1⟩ hM2 ((f2.sh o).trans ho1) (by omega) (by omega)
        · exact absurd (lg1 (by rw [← hr9 c5, c6]; rfl)) c7
      · refine jv_lconst (q := 768) (v := 1) G dL_law_767 (by decide) rfl ?_
        refine jv_goto (q := 772) G dL_law_768 (by decide) ?_
        refine jv_lcmp (q := 773) G dL_law_772 rfl rfl ?_
        refine jv_if_eq (q := 776) (tgt := 778) G dL_law_773 (by decide) rfl (fun c8 => ?_) (fun c8 => ?_)
        · refine jv_goto (q := 2122) G dL_law_778 (by decide) ?_
          refine jv_lo [2, 3, 4, 5, 6] (lo' := [(4, .int (nI i)), (0, .ref b), (1, .ref (z 6 0)), (2, .ref m), (3, .ref o)]) rfl ?_
          exact kk _ _ _ _ ⟨_, _, f2.R cn_rsh hR1⟩ hM2 ((f2.sh o).trans ho1) (by omega) (by omega)
        · exact absurd (lg1 (by rw [(b01_drop (M := M) (p0 := (xs (i + 1))) (p1 := (xs (i + 2))) (p2 := (xs (i + 3))) (p3 := (xs (i + 4))) (p4 := (xs (i + 5)))).resolve_left (fun y => c6 ((hr9 c5).trans y))]; rfl)) c8
  · exact absurd rfl c4
set_option maxHeartbeats 4000000 in
set_option maxRecDepth 100000 in
theorem lc_seal {E : jv_E} {Q : State → Prop} (hlt : (jv_l E).stackTraces = false) (G : jv_C E cL_law RL 7) (Z : jv_rm E = jv_room 1000 601024 7293034) {b L : Nat} {xs : Nat → Int32} (S : lwS E b L xs) {z : Nat → Nat → Nat} {T : Nat → Nat} {N : Nat → Nat → Nat} {tO : Nat → Nat} {h : jv_H} {M : mA} (hR : cl_R z T N tO h M) {m : Nat} {q : Nat → Nat} (hM : rf_R m q h M) {o : Nat} (ho : jv_sh h o = some (.inr (.long, 1))) {i : Nat} (hi : i + 9 ≤ L) (hL : L ≤ 4608) {ce sl : Nat} (hc : ce ≤ 600000) (hs : sl ≤ 7000000) (kk : ∀ h' M' ce' sl', (∃ T N, cl_R z T N tO h' M') → rf_R m q h' M' → jv_sh h' o = some (.inr (.long, 1)) → ce' ≤ ce + 5 → sl' ≤ sl + 30 → jv_V E 7 h' ce' sl' Q 2122 [(4, .int (nI i)), (0, .ref b), (1, .ref (z 6 0)), (2, .ref m), (3, .ref o)] []) : jv_V E 7 h ce sl Q 781 [(4, .int (nI i)), (0, .ref b), (1, .ref (z 6 0)), (2, .ref m), (3, .ref o)] [] := by
  refine jv_aload_n (q := 782) G 2 dL_law_781 rfl rfl rfl ?_
  refine jv_aload_n (q := 783) G 1 dL_law_782 rfl rfl rfl ?_
  refine jv_iload (q := 785) G 0 dL_law_783 rfl rfl ?_
  refine jv_iconst (q := 786) (v := nI 1) G dL_law_785 (by decide) rfl ?_
  refine jv_iaddN (q := 787) G dL_law_786 rfl ?_
  refine jv_sld (q := 788) G S dL_law_787 (by omega) (by omega) rfl ?_
  refine jv_aload_n (q := 789) G 4 dL_law_788 rfl rfl rfl ?_
  refine jv_callSH (q := 792) (As := [.ref (z 6 0), .int (xs (i + 1)), .ref o]) (rest := []) G Z ml_L_132 (w_seal (p0 := (xs (i + 1))) hlt hR ho) dL_law_789 rfl (by decide) (by decide) (by omega) (by omega) (Nat.le_of_ble_eq_true rfl) rfl rfl (fun v1 h1 y1 => ?_)
  obtain ⟨rfl, hL1, ⟨T1, N1, hR1⟩, f1⟩ := y1
  show jv_V E 7 h1 (ce + 2) (sl + 12) Q 792 [(4, .int (nI i)), (0, .ref b), (1, .ref (z 6 0)), (2, .ref m), (3, .ref o)] [.int (nI ((m_sa M (xs (i + 1))).1))]
  have hM1 := hM.sF f1; have ho1 := (f1.sh o).trans ho; have hle := le_seal (M := M) (p0 := (xs (i + 1)))
  have hle : (m_sa M (xs (i + 1))).1 ≤ 4 := Nat.le_trans hle (by decide)
  refine jv_istore (q := 794) (lo' := [(5, .int (nI ((m_sa M (xs (i + 1))).1))), (4, .int (nI i)), (0, .ref b), (1, .ref (z 6 0)), (2, .ref m), (3, .ref o)]) G dL_law_792 (by decide) rfl rfl ?_
  refine jv_aload_n (q := 795) G 4 dL_law_794 rfl rfl rfl ?_
  refine jv_aload_n (q := 796) G 2 dL_law_795 rfl rfl rfl ?_
  refine jv_iload (q := 798) G 1 dL_law_796 rfl rfl ?_
  refine jv_iconst (q := 799) (v := nI 1) G dL_law_798 (by decide) rfl ?_
  refine jv_iaddN (q := 800) G dL_law_799 rfl ?_
  refine jv_sld (q := 801) G S dL_law_800 (by omega) (by omega) rfl ?_
  refine jv_callV (q := 804) (As := [.int (xs (i + 1))]) (rest := []) G Z ml_L_134 ((show jv_Met _ _ _ _ _ _ _ _ _ _ (rO m q h1 (m_sa M (xs (i + 1)))) _ from (r_seal (e := (xs (i + 1))) hlt (uqs hR).1 hM1).mono (fun _ _ y => rO_p hM1.1 y) (fun _ _ y => y))) hM1.1.1 dL_law_801 rfl (by decide) (by decide) (by omega) (by omega) (Nat.le_of_ble_eq_true rfl) rfl rfl (fun v2 h1 y3 => ?_) (fun _ _ hx => hx.elim)
  obtain ⟨r9, rfl, hr9, hth, hM2, f2⟩ := y3
  show jv_V E 7 h1 (ce + 2) (sl + 12) Q 804 [(5, .int (nI ((m_sa M (xs (i + 1))).1))), (4, .int (nI i)), (0, .ref b), (1, .ref (z 6 0)), (2, .ref m), (3, .ref o)] [.int r9]
  refine jv_istore (q := 806) (lo' := [(6, .int r9), (5, .int (nI ((m_sa M (xs (i + 1))).1))), (4, .int (nI i)), (0, .ref b), (1, .ref (z 6 0)), (2, .ref m), (3, .ref o)]) G dL_law_804 (by decide) rfl rfl ?_
  refine jv_aload_n (q := 807) G 5 dL_law_806 rfl rfl rfl ?_
  refine jv_callV_I (q := 810) (h1 := h1) (As := []) (rest := []) (ce' := ce + 2) (sl' := sl + 12) (r := nI ((m_sa M (xs (i + 1))).1)) G Z ml_L_109 (r_thrown hlt hM2.1 hth) hM2.1.1 dL_law_807 rfl (by decide) (by decide) (by omega) (by omega) (Nat.le_of_ble_eq_true rfl) rfl rfl rfl rfl ?_
  refine jv_iload (q := 812) G 1 dL_law_810 rfl rfl ?_
  refine jv_icmp_eqN (q := 815) (tgt := 817) G dL_law_812 (by decide) rfl (by omega) (by omega) (fun c4 => ?_) (fun c4 => ?_)
  · refine jv_iload (q := 819) G 1 dL_law_817 rfl rfl ?_
    refine jv_if_neN (q := 822) (tgt := 834) G dL_law_819 (by decide) rfl (by omega) (fun c5 => ?_) (fun c5 => ?_)
    · refine jv_goto (q := 2122) G dL_law_834 (by decide) ?_
      refine jv_lo [2, 3, 4, 5, 6] (lo' := [(4, .int (nI i)), (0, .ref b), (1, .ref (z 6 0)), (2, .ref m), (3, .ref o)]) rfl ?_
      exact kk _ _ _ _ ⟨_, _, f2.R cn_rsh hR1⟩ hM2 ((f2.sh o).trans ho1) (by omega) (by omega)
    · refine jv_aload_n (q := 823) G 6 dL_law_822 rfl rfl rfl ?_
      refine jv_iconst (q := 824) (v := nI 0) G dL_law_823 (by decide) rfl ?_
      refine jv_lald (q := 825) G dL_law_824 ((f2.sh o).trans ho1) rfl (by omega) (by decide) ((f2.l ho1 rfl 0).trans (hL1 c5)) rfl ?_
      refine jv_iload (q := 827) G 0 dL_law_825 rfl rfl ?_
      refine jv_i2l (q := 828) G dL_law_827 rfl rfl ?_
      refine jv_lcmp (q := 829) G dL_law_828 rfl rfl ?_
      refine jv_if_eq (q := 832) (tgt := 834) G dL_law_829 (by decide) rfl (fun c6 => ?_) (fun c6 => ?_)
      · refine jv_goto (q := 2122) G dL_law_834 (by decide) ?_
        refine jv_lo [2, 3, 4, 5, 6] (lo' := [(4, .int (nI i)), (0, .ref b), (1, .ref (z 6 0)), (2, .ref m), (3, .ref o)]) rfl ?_
        exact kk _ _ _ _ ⟨_, _, f2.R cn_rsh hR1⟩ hM2 ((f2.sh o).trans ho1) (by omega) (by omega)
      · exact absurd (by rw [hr9 c5]; exact lg0 _) c6
  · exact absurd rfl c4
set_option maxHeartbeats 4000000 in
set_option maxRecDepth 100000 in
theorem lc_above {E : jv_E} {Q : State → Prop} (hlt : (jv_l E).stackTraces = false) (G : jv_C E cL_law RL 7) (Z : jv_rm E = jv_room 1000 601024 7293034) {b L : Nat} {xs : Nat → Int32} (S : lwS E b L xs) {z : Nat → Nat → Nat} {T : Nat → Nat} {N : Nat → Nat → Nat} {tO : Nat → Nat} {h : jv_H} {M : mA} (hR : cl_R z T N tO h M) {m : Nat} {q : Nat → Nat} (hM : rf_R m q h M) {o : Nat} (ho : jv_sh h o = some (.inr (.long, 1))) {i : Nat} (hi : i + 9 ≤ L) (hL : L ≤ 4608) {ce sl : Nat} (hc : ce ≤ 600000) (hs : sl ≤ 7000000) (kk : ∀ h' M' ce' sl', (∃ T N, cl_R z T N tO h' M') → rf_R m q h' M' → jv_sh h' o = some (.inr (.long, 1)) → ce' ≤ ce + 5 → sl' ≤ sl + 30 → jv_V E 7 h' ce' sl' Q 2122 [(4, .int (nI i)), (0, .ref b), (1, .ref (z 6 0)), (2, .ref m), (3, .ref o)] []) : jv_V E 7 h ce sl Q 837 [(4, .int (nI i)), (0, .ref b), (1, .ref (z 6 0)), (2, .ref m), (3, .ref o)] [] := by
  refine jv_aload_n (q := 838) G 2 dL_law_837 rfl rfl rfl ?_
  refine jv_aload_n (q := 839) G 1 dL_law_838 rfl rfl rfl ?_
  refine jv_iload (q := 841) G 0 dL_law_839 rfl rfl ?_
  refine jv_iconst (q := 842) (v := nI 1) G dL_law_841 (by decide) rfl ?_
  refine jv_iaddN (q := 843) G dL_law_842 rfl ?_
  refine jv_sld (q := 844) G S dL_law_843 (by omega) (by omega) rfl ?_
  refine jv_aload_n (q := 845) G 1 dL_law_844 rfl rfl rfl ?_
  refine jv_iload (q := 847) G 0 dL_law_845 rfl rfl ?_
  refine jv_iconst (q := 848) (v := nI 2) G dL_law_847 (by decide) rfl ?_
  refine jv_iaddN (q := 849) G dL_law_848 rfl ?_
  refine jv_sld (q := 850) G S dL_law_849 (by omega) (by omega) rfl ?_
  refine jv_aload_n (q := 851) G 1 dL_law_850 rfl rfl rfl ?_
  refine jv_iload (q := 853) G 0 dL_law_851 rfl rfl ?_
  refine jv_iconst (q := 854) (v := nI 3) G dL_law_853 (by decide) rfl ?_
  refine jv_iaddN (q := 855) G dL_law_854 rfl ?_
  refine jv_sld (q := 856) G S dL_law_855 (by omega) (by omega) rfl ?_
  refine jv_aload_n (q := 857) G 4 dL_law_856 rfl rfl rfl ?_
  refine jv_callSH (q := 860) (As := [.ref (z 6 0), .int (xs (i + 1)), .int (xs (i + 2)), .int (xs (i + 3)), .ref o]) (rest := []) G Z ml_L_135 (w_above (p0 := (xs (i + 1))) (p1 := (xs (i + 2))) (p2 := (xs (i + 3))) hlt hR ho) dL_law_857 rfl (by decide) (by decide) (by omega) (by omega) (Nat.le_of_ble_eq_true rfl) rfl rfl (fun v1 h1 y1 => ?_)
  obtain ⟨rfl, hL1, ⟨T1, N1, hR1⟩, f1⟩ := y1
  show jv_V E 7 h1 (ce + 2) (sl + 12) Q 860 [(4, .int (nI i)), (0, .ref b), (1, .ref (z 6 0)), (2, .ref m), (3, .ref o)] [.int (nI (((m_seF M (xs (i + 1)), m_above M (xs (i + 1)) (xs (i + 2)) (xs (i + 3)), M)).1))]
  have hM1 := hM.sF f1; have ho1 := (f1.sh o).trans ho; have hle := le_above (M := M) (p0 := (xs (i + 1))) (p1 := (xs (i + 2))) (p2 := (xs (i + 3)))
  have hle : ((m_seF M (xs (i + 1)), m_above M (xs (i + 1)) (xs (i + 2)) (xs (i + 3)), M)).1 ≤ 4 := Nat.le_trans hle (by decide)
  refine jv_istore (q := 862) (lo' := [(5, .int (nI (((m_seF M (xs (i + 1)), m_above M (xs (i + 1)) (xs (i + 2)) (xs (i + 3)), M)).1))), (4, .int (nI i)), (0, .ref b), (1, .ref (z 6 0)), (2, .ref m), (3, .ref o)]) G dL_law_860 (by decide) rfl rfl ?_
  refine jv_aload_n (q := 863) G 4 dL_law_862 rfl rfl rfl ?_
  refine jv_aload_n (q := 864) G 2 dL_law_863 rfl rfl rfl ?_
  refine jv_iload (q := 866) G 1 dL_law_864 rfl rfl ?_
  refine jv_iconst (q := 867) (v := nI 1) G dL_law_866 (by decide) rfl ?_
  refine jv_iaddN (q := 868) G dL_law_867 rfl ?_
  refine jv_sld (q := 869) G S dL_law_868 (by omega) (by omega) rfl ?_
  refine jv_aload_n (q := 870) G 2 dL_law_869 rfl rfl rfl ?_
  refine jv_iload (q := 872) G 1 dL_law_870 rfl rfl ?_
  refine jv_iconst (q := 873) (v := nI 2) G dL_law_872 (by decide) rfl ?_
  refine jv_iaddN (q := 874) G dL_law_873 rfl ?_
  refine jv_sld (q := 875) G S dL_law_874 (by omega) (by omega) rfl ?_
  refine jv_aload_n (q := 876) G 2 dL_law_875 rfl rfl rfl ?_
  refine jv_iload (q := 878) G 1 dL_law_876 rfl rfl ?_
  refine jv_iconst (q := 879) (v := nI 3) G dL_law_878 (by decide) rfl ?_
  refine jv_iaddN (q := 880) G dL_law_879 rfl ?_
  refine jv_sld (q := 881) G S dL_law_880 (by omega) (by omega) rfl ?_
  refine jv_callV (q := 884) (As := [.int (xs (i + 1)), .int (xs (i + 2)), .int (xs (i + 3))]) (rest := []) G Z ml_L_137 ((show jv_Met _ _ _ _ _ _ _ _ _ _ (rO m q h1 ((m_seF M (xs (i + 1)), m_above M (xs (i + 1)) (xs (i + 2)) (xs (i + 3)), M))) _ from (r_above (e := (xs (i + 1))) (u := (xs (i + 2))) (l := (xs (i + 3))) hlt hM1).mono (fun _ _ y => rO_r hM1 y) (fun _ _ y => y))) hM1.1.1 dL_law_881 rfl (by decide) (by decide) (by omega) (by omega) (Nat.le_of_ble_eq_true rfl) rfl rfl (fun v2 h1 y3 => ?_) (fun _ _ hx => hx.elim)
  obtain ⟨r9, rfl, hr9, hth, hM2, f2⟩ := y3
  show jv_V E 7 h1 (ce + 2) (sl + 12) Q 884 [(5, .int (nI (((m_seF M (xs (i + 1)), m_above M (xs (i + 1)) (xs (i + 2)) (xs (i + 3)), M)).1))), (4, .int (nI i)), (0, .ref b), (1, .ref (z 6 0)), (2, .ref m), (3, .ref o)] [.int r9]
  refine jv_istore (q := 886) (lo' := [(6, .int r9), (5, .int (nI (((m_seF M (xs (i + 1)), m_above M (xs (i + 1)) (xs (i + 2)) (xs (i + 3)), M)).1))), (4, .int (nI i)), (0, .ref b), (1, .ref (z 6 0)), (2, .ref m), (3, .ref o)]) G dL_law_884 (by decide) rfl rfl ?_
  refine jv_aload_n (q := 887) G 5 dL_law_886 rfl rfl rfl ?_
  refine jv_callV_I (q := 890) (h1 := h1) (As := []) (rest := []) (ce' := ce + 2) (sl' := sl + 12) (r := nI (((m_seF M (xs (i + 1)), m_above M (xs (i + 1)) (xs (i + 2)) (xs (i + 3)), M)).1)) G Z ml_L_109 (r_thrown hlt hM2.1 hth) hM2.1.1 dL_law_887 rfl (by decide) (by decide) (by omega) (by omega) (Nat.le_of_ble_eq_true rfl) rfl rfl rfl rfl ?_
  refine jv_iload (q := 892) G 1 dL_law_890 rfl rfl ?_
  refine jv_icmp_eqN (q := 895) (tgt := 897) G dL_law_892 (by decide) rfl (by omega) (by omega) (fun c4 => ?_) (fun c4 => ?_)
  · refine jv_iload (q := 899) G 1 dL_law_897 rfl rfl ?_
    refine jv_if_neN (q := 902) (tgt := 921) G dL_law_899 (by decide) rfl (by omega) (fun c5 => ?_) (fun c5 => ?_)
    · refine jv_goto (q := 2122) G dL_law_921 (by decide) ?_
      refine jv_lo [2, 3, 4, 5, 6] (lo' := [(4, .int (nI i)), (0, .ref b), (1, .ref (z 6 0)), (2, .ref m), (3, .ref o)]) rfl ?_
      exact kk _ _ _ _ ⟨_, _, f2.R cn_rsh hR1⟩ hM2 ((f2.sh o).trans ho1) (by omega) (by omega)
    · refine jv_aload_n (q := 903) G 6 dL_law_902 rfl rfl rfl ?_
      refine jv_iconst (q := 904) (v := nI 0) G dL_law_903 (by decide) rfl ?_
      refine jv_lald (q := 905) G dL_law_904 ((f2.sh o).trans ho1) rfl (by omega) (by decide) ((f2.l ho1 rfl 0).trans (hL1 c5)) rfl ?_
      refine jv_iload (q := 907) G 0 dL_law_905 rfl rfl ?_
      refine jv_if_eq (q := 910) (tgt := 914) G dL_law_907 (by decide) rfl (fun c6 => ?_) (fun c6 => ?_)
      · refine jv_lconst (q := 915) (v := 0) G dL_law_914 (by decide) rfl ?_
        refine jv_lcmp (q := 916) G dL_law_915 rfl rfl ?_
        refine jv_if_eq (q := 919) (tgt := 921) G dL_law_916 (by decide) rfl (fun c7 => ?_) (fun c7 => ?_)
        · refine jv_goto (q := 2122) G dL_law_921 (by decide) ?_
          refine jv_lo [2, 3, 4, 5, 6] (lo' := [(4, .int (nI i)), (0, .ref b), (1, .ref (z 6 0)), (2, .ref m), (3, .ref o)]) rfl ?_
          exact kk _ _ _ _ ⟨_, _, f2.R cn_rsh hR1⟩ hM2 ((f2.sh o).trans ho1) (by omega) (by omega)
        · exact absurd (lg1 (by rw [← hr9 c5, c6]; rfl)) c7
      · refine jv_lconst (q := 911) (v := 1) G dL_law_910 (by decide) rfl ?_
        refine jv_goto (q := 915) G dL_law_911 (by decide) ?_
        refine jv_lcmp (q := 916) G dL_law_915 rfl rfl ?_
        refine jv_if_eq (q := 919) (tgt := 921) G dL_law_916 (by decide) rfl (fun c8 => ?_) (fun c8 => ?_)
        · refine jv_goto (q := 2122) G dL_law_921 (by decide) ?_
          refine jv_lo [2, 3, 4, 5, 6] (lo' := [(4, .int (nI i)), (0, .ref b), (1, .ref (z 6 0)), (2, .ref m), (3, .ref o)]) rfl ?_
          exact kk _ _ _ _ ⟨_, _, f2.R cn_rsh hR1⟩ hM2 ((f2.sh o).trans ho1) (by omega) (by omega)
        · exact absurd (lg1 (by rw [(b01_above (M := M) (p0 := (xs (i + 1))) (p1 := (xs (i + 2))) (p2 := (xs (i + 3)))).resolve_left (fun y => c6 ((hr9 c5).trans y))]; rfl)) c8
  · exact absurd rfl c4
set_option maxHeartbeats 4000000 in
set_option maxRecDepth 100000 in
theorem lc_find {E : jv_E} {Q : State → Prop} (hlt : (jv_l E).stackTraces = false) (G : jv_C E cL_law RL 7) (Z : jv_rm E = jv_room 1000 601024 7293034) {b L : Nat} {xs : Nat → Int32} (S : lwS E b L xs) {z : Nat → Nat → Nat} {T : Nat → Nat} {N : Nat → Nat → Nat} {tO : Nat → Nat} {h : jv_H} {M : mA} (hR : cl_R z T N tO h M) {m : Nat} {q : Nat → Nat} (hM : rf_R m q h M) {o : Nat} (ho : jv_sh h o = some (.inr (.long, 1))) {i : Nat} (hi : i + 9 ≤ L) (hL : L ≤ 4608) {ce sl : Nat} (hc : ce ≤ 600000) (hs : sl ≤ 7000000) (kk : ∀ h' M' ce' sl', (∃ T N, cl_R z T N tO h' M') → rf_R m q h' M' → jv_sh h' o = some (.inr (.long, 1)) → ce' ≤ ce + 5 → sl' ≤ sl + 30 → jv_V E 7 h' ce' sl' Q 2122 [(4, .int (nI i)), (0, .ref b), (1, .ref (z 6 0)), (2, .ref m), (3, .ref o)] []) : jv_V E 7 h ce sl Q 924 [(4, .int (nI i)), (0, .ref b), (1, .ref (z 6 0)), (2, .ref m), (3, .ref o)] [] := by
  refine jv_aload_n (q := 925) G 2 dL_law_924 rfl rfl rfl ?_
  refine jv_aload_n (q := 926) G 1 dL_law_925 rfl rfl rfl ?_
  refine jv_iload (q := 928) G 0 dL_law_926 rfl rfl ?_
  refine jv_iconst (q := 929) (v := nI 1) G dL_law_928 (by decide) rfl ?_
  refine jv_iaddN (q := 930) G dL_law_929 rfl ?_
  refine jv_sld (q := 931) G S dL_law_930 (by omega) (by omega) rfl ?_
  refine jv_aload_n (q := 932) G 1 dL_law_931 rfl rfl rfl ?_
  refine jv_iload (q := 934) G 0 dL_law_932 rfl rfl ?_
  refine jv_iconst (q := 935) (v := nI 2) G dL_law_934 (by decide) rfl ?_
  refine jv_iaddN (q := 936) G dL_law_935 rfl ?_
  refine jv_sld (q := 937) G S dL_law_936 (by omega) (by omega) rfl ?_
  refine jv_aload_n (q := 938) G 1 dL_law_937 rfl rfl rfl ?_
  refine jv_iload (q := 940) G 0 dL_law_938 rfl rfl ?_
  refine jv_iconst (q := 941) (v := nI 3) G dL_law_940 (by decide) rfl ?_
  refine jv_iaddN (q := 942) G dL_law_941 rfl ?_
  refine jv_sld (q := 943) G S dL_law_942 (by omega) (by omega) rfl ?_
  refine jv_if_eq (q := 946) (tgt := 950) G dL_law_943 (by decide) rfl (fun c1 => ?_) (fun c1 => ?_)
  · refine jv_iconst (q := 951) (v := nI 0) G dL_law_950 (by decide) rfl ?_
    refine jv_aload_n (q := 952) G 1 dL_law_951 rfl rfl rfl ?_
    refine jv_iload (q := 954) G 0 dL_law_952 rfl rfl ?_
    refine jv_iconst (q := 955) (v := nI 4) G dL_law_954 (by decide) rfl ?_
    refine jv_iaddN (q := 956) G dL_law_955 rfl ?_
    refine jv_sld (q := 957) G S dL_law_956 (by omega) (by omega) rfl ?_
    refine jv_aload_n (q := 958) G 1 dL_law_957 rfl rfl rfl ?_
    refine jv_iload (q := 960) G 0 dL_law_958 rfl rfl ?_
    refine jv_iconst (q := 961) (v := nI 5) G dL_law_960 (by decide) rfl ?_
    refine jv_iaddN (q := 962) G dL_law_961 rfl ?_
    refine jv_sld (q := 963) G S dL_law_962 (by omega) (by omega) rfl ?_
    refine jv_aload_n (q := 964) G 4 dL_law_963 rfl rfl rfl ?_
    refine jv_callSH (q := 967) (As := [.ref (z 6 0), .int (xs (i + 1)), .int (xs (i + 2)), .int (nI 0), .int (xs (i + 4)), .int (xs (i + 5)), .ref o]) (rest := []) G Z ml_L_138 (w_find (p0 := (xs (i + 1))) (p1 := (xs (i + 2))) (p2 := false) (p3 := (xs (i + 4))) (p4 := (xs (i + 5))) hlt hR ho) dL_law_964 rfl (by decide) (by decide) (by omega) (by omega) (Nat.le_of_ble_eq_true rfl) rfl rfl (fun v1 h1 y1 => ?_)
    obtain ⟨rfl, hL1, ⟨T1, N1, hR1⟩, f1⟩ := y1
    show jv_V E 7 h1 (ce + 2) (sl + 12) Q 967 [(4, .int (nI i)), (0, .ref b), (1, .ref (z 6 0)), (2, .ref m), (3, .ref o)] [.int (nI (((m_seF M (xs (i + 1)), m_find M (xs (i + 1)) (xs (i + 2)) false (xs (i + 4)) (xs (i + 5)), M)).1))]
    have hM1 := hM.sF f1; have ho1 := (f1.sh o).trans ho; have hle := le_find (M := M) (p0 := (xs (i + 1))) (p1 := (xs (i + 2))) (p2 := false) (p3 := (xs (i + 4))) (p4 := (xs (i + 5)))
    have hle : ((m_seF M (xs (i + 1)), m_find M (xs (i + 1)) (xs (i + 2)) false (xs (i + 4)) (xs (i + 5)), M)).1 ≤ 4 := Nat.le_trans hle (by decide)
    refine jv_istore (q := 969) (lo' := [(5, .int (nI (((m_seF M (xs (i + 1)), m_find M (xs (i + 1)) (xs (i + 2)) false (xs (i + 4)) (xs (i + 5)), M)).1))), (4, .int (nI i)), (0, .ref b), (1, .ref (z 6 0)), (2, .ref m), (3, .ref o)]) G dL_law_967 (by decide) rfl rfl ?_
    refine jv_aload_n (q := 970) G 4 dL_law_969 rfl rfl rfl ?_
    refine jv_aload_n (q := 971) G 2 dL_law_970 rfl rfl rfl ?_
    refine jv_iload (q := 973) G 1 dL_law_971 rfl rfl ?_
    refine jv_iconst (q := 974) (v := nI 1) G dL_law_973 (by decide) rfl ?_
    refine jv_iaddN (q := 975) G dL_law_974 rfl ?_
    refine jv_sld (q := 976) G S dL_law_975 (by omega) (by omega) rfl ?_
    refine jv_aload_n (q := 977) G 2 dL_law_976 rfl rfl rfl ?_
    refine jv_iload (q := 979) G 1 dL_law_977 rfl rfl ?_
    refine jv_iconst (q := 980) (v := nI 2) G dL_law_979 (by decide) rfl ?_
    refine jv_iaddN (q := 981) G dL_law_980 rfl ?_
    refine jv_sld (q := 982) G S dL_law_981 (by omega) (by omega) rfl ?_
    refine jv_aload_n (q := 983) G 2 dL_law_982 rfl rfl rfl ?_
    refine jv_iload (q := 985) G 1 dL_law_983 rfl rfl ?_
    refine jv_iconst (q := 986) (v := nI 3) G dL_law_985 (by decide) rfl ?_
    refine jv_iaddN (q := 987) G dL_law_986 rfl ?_
    refine jv_sld (q := 988) G S dL_law_987 (by omega) (by omega) rfl ?_
    refine jv_if_eq (q := 991) (tgt := 995) G dL_law_988 (by decide) rfl (fun c2 => ?_) (fun c2 => ?_)
    · refine jv_iconst (q := 996) (v := nI 0) G dL_law_995 (by decide) rfl ?_
      refine jv_aload_n (q := 997) G 2 dL_law_996 rfl rfl rfl ?_
      refine jv_iload (q := 999) G 1 dL_law_997 rfl rfl ?_
      refine jv_iconst (q := 1000) (v := nI 4) G dL_law_999 (by decide) rfl ?_
      refine jv_iaddN (q := 1001) G dL_law_1000 rfl ?_
      refine jv_sld (q := 1002) G S dL_law_1001 (by omega) (by omega) rfl ?_
      refine jv_aload_n (q := 1003) G 2 dL_law_1002 rfl rfl rfl ?_
      refine jv_iload (q := 1005) G 1 dL_law_1003 rfl rfl ?_
      refine jv_iconst (q := 1006) (v := nI 5) G dL_law_1005 (by decide) rfl ?_
      refine jv_iaddN (q := 1007) G dL_law_1006 rfl ?_
      refine jv_sld (q := 1008) G S dL_law_1007 (by omega) (by omega) rfl ?_
      refine jv_callV (q := 1011) (As := [.int (xs (i + 1)), .int (xs (i + 2)), .int (nI 0), .int (xs (i + 4)), .int (xs (i + 5))]) (rest := []) G Z ml_L_141 ((show jv_Met _ _ _ _ _ _ _ _ _ _ (rO m q h1 ((m_seF M (xs (i + 1)), m_find M (xs (i + 1)) (xs (i + 2)) false (xs (i + 4)) (xs (i + 5)), M))) _ from (r_find (e := (xs (i + 1))) (n := (xs (i + 2))) (b := false) (a := (xs (i + 4))) (s := (xs (i + 5))) hlt hM1).mono (fun _ _ y => rO_r hM1 y) (fun _ _ y => y))) hM1.1.1 dL_law_1008 rfl (by decide) (by decide) (by omega) (by omega) (Nat.le_of_ble_eq_true rfl) rfl rfl (fun v4 h3 y5 => ?_) (fun _ _ hx => hx.elim)
      obtain ⟨r9, rfl, hr9, hth, hM2, f2⟩ := y5
      show jv_V E 7 h3 (ce + 2) (sl + 12) Q 1011 [(5, .int (nI (((m_seF M (xs (i + 1)), m_find M (xs (i + 1)) (xs (i + 2)) false (xs (i + 4)) (xs (i + 5)), M)).1))), (4, .int (nI i)), (0, .ref b), (1, .ref (z 6 0)), (2, .ref m), (3, .ref o)] [.int r9]
      refine jv_istore (q := 1013) (lo' := [(6, .int r9), (5, .int (nI (((m_seF M (xs (i + 1)), m_find M (xs (i + 1)) (xs (i + 2)) false (xs (i + 4)) (xs (i + 5)), M)).1))), (4, .int (nI i)), (0, .ref b), (1, .ref (z 6 0)), (2, .ref m), (3, .ref o)]) G dL_law_1011 (by decide) rfl rfl ?_
      refine jv_aload_n (q := 1014) G 5 dL_law_1013 rfl rfl rfl ?_
      refine jv_callV_I (q := 1017) (h1 := h3) (As := []) (rest := []) (ce' := ce + 2) (sl' := sl + 12) (r := nI (((m_seF M (xs (i + 1)), m_find M (xs (i + 1)) (xs (i + 2)) false (xs (i + 4)) (xs (i + 5)), M)).1)) G Z ml_L_109 (r_thrown hlt hM2.1 hth) hM2.1.1 dL_law_1014 rfl (by decide) (by decide) (by omega) (by omega) (Nat.le_of_ble_eq_true rfl) rfl rfl rfl rfl ?_
      refine jv_iload (q := 1019) G 1 dL_law_1017 rfl rfl ?_
      refine jv_icmp_eqN (q := 1022) (tgt := 1024) G dL_law_1019 (by decide) rfl (by omega) (by omega) (fun c6 => ?_) (fun c6 => ?_)
      · refine jv_iload (q := 1026) G 1 dL_law_1024 rfl rfl ?_
        refine jv_if_neN (q := 1029) (tgt := 1041) G dL_law_1026 (by decide) rfl (by omega) (fun c7 => ?_) (fun c7 => ?_)
        · refine jv_goto (q := 2122) G dL_law_1041 (by decide) ?_
          refine jv_lo [2, 3, 4, 5, 6] (lo' := [(4, .int (nI i)), (0, .ref b), (1, .ref (z 6 0)), (2, .ref m), (3, .ref o)]) rfl ?_
          exact kk _ _ _ _ ⟨_, _, f2.R cn_rsh hR1⟩ hM2 ((f2.sh o).trans ho1) (by omega) (by omega)
        · refine jv_aload_n (q := 1030) G 6 dL_law_1029 rfl rfl rfl ?_
          refine jv_iconst (q := 1031) (v := nI 0) G dL_law_1030 (by decide) rfl ?_
          refine jv_lald (q := 1032) G dL_law_1031 ((f2.sh o).trans ho1) rfl (by omega) (by decide) ((f2.l ho1 rfl 0).trans (hL1 c7)) rfl ?_
          refine jv_iload (q := 1034) G 0 dL_law_1032 rfl rfl ?_
          refine jv_i2l (q := 1035) G dL_law_1034 rfl rfl ?_
          refine jv_lcmp (q := 1036) G dL_law_1035 rfl rfl ?_
          refine jv_if_eq (q := 1039) (tgt := 1041) G dL_law_1036 (by decide) rfl (fun c8 => ?_) (fun c8 => ?_)
          · refine jv_goto (q := 2122) G dL_law_1041 (by decide) ?_
            refine jv_lo [2, 3, 4, 5, 6] (lo' := [(4, .int (nI i)), (0, .ref b), (1, .ref (z 6 0)), (2, .ref m), (3, .ref o)]) rfl ?_
            exact kk _ _ _ _ ⟨_, _, f2.R cn_rsh hR1⟩ hM2 ((f2.sh o).trans ho1) (by omega) (by omega)
          · exact absurd (by rw [hr9 c7]; exact lg0 _) c8
      · exact absurd rfl c6
    · exact absurd c1 c2
  · refine jv_iconst (q := 947) (v := nI 1) G dL_law_946 (by decide) rfl ?_
    refine jv_goto (q := 951) G dL_law_947 (by decide) ?_
    refine jv_aload_n (q := 952) G 1 dL_law_951 rfl rfl rfl ?_
    refine jv_iload (q := 954) G 0 dL_law_952 rfl rfl ?_
    refine jv_iconst (q := 955) (v := nI 4) G dL_law_954 (by decide) rfl ?_
    refine jv_iaddN (q := 956) G dL_law_955 rfl ?_
    refine jv_sld (q := 957) G S dL_law_956 (by omega) (by omega) rfl ?_
    refine jv_aload_n (q := 958) G 1 dL_law_957 rfl rfl rfl ?_
    refine jv_iload (q := 960) G 0 dL_law_958 rfl rfl ?_
    refine jv_iconst (q := 961) (v := nI 5) G dL_law_960 (by decide) rfl ?_
    refine jv_iaddN (q := 962) G dL_law_961 rfl ?_
    refine jv_sld (q := 963) G S dL_law_962 (by omega) (by omega) rfl ?_
    refine jv_aload_n (q := 964) G 4 dL_law_963 rfl rfl rfl ?_
    refine jv_callSH (q := 967) (As := [.ref (z 6 0), .int (xs (i + 1)), .int (xs (i + 2)), .int (nI 1), .int (xs (i + 4)), .int (xs (i + 5)), .ref o]) (rest := []) G Z ml_L_138 (w_find (p0 := (xs (i + 1))) (p1 := (xs (i + 2))) (p2 := true) (p3 := (xs (i + 4))) (p4 := (xs (i + 5))) hlt hR ho) dL_law_964 rfl (by decide) (by decide) (by omega) (by omega) (Nat.le_of_ble_eq_true rfl) rfl rfl (fun v1 h1 y1 => ?_)
    obtain ⟨rfl, hL1, ⟨T1, N1, hR1⟩, f1⟩ := y1
    show jv_V E 7 h1 (ce + 2) (sl + 12) Q 967 [(4, .int (nI i)), (0, .ref b), (1, .ref (z 6 0)), (2, .ref m), (3, .ref o)] [.int (nI (((m_seF M (xs (i + 1)), m_find M (xs (i + 1)) (xs (i + 2)) true (xs (i + 4)) (xs (i + 5)), M)).1))]
    have hM1 := hM.sF f1; have ho1 := (f1.sh o).trans ho; have hle := le_find (M := M) (p0 := (xs (i + 1))) (p1 := (xs (i + 2))) (p2 := true) (p3 := (xs (i + 4))) (p4 := (xs (i + 5)))
    have hle : ((m_seF M (xs (i + 1)), m_find M (xs (i + 1)) (xs (i + 2)) true (xs (i + 4)) (xs (i + 5)), M)).1 ≤ 4 := Nat.le_trans hle (by decide)
    refine jv_istore (q := 969) (lo' := [(5, .int (nI (((m_seF M (xs (i + 1)), m_find M (xs (i + 1)) (xs (i + 2)) true (xs (i + 4)) (xs (i + 5)), M)).1))), (4, .int (nI i)), (0, .ref b), (1, .ref (z 6 0)), (2, .ref m), (3, .ref o)]) G dL_law_967 (by decide) rfl rfl ?_
    refine jv_aload_n (q := 970) G 4 dL_law_969 rfl rfl rfl ?_
    refine jv_aload_n (q := 971) G 2 dL_law_970 rfl rfl rfl ?_
    refine jv_iload (q := 973) G 1 dL_law_971 rfl rfl ?_
    refine jv_iconst (q := 974) (v := nI 1) G dL_law_973 (by decide) rfl ?_
    refine jv_iaddN (q := 975) G dL_law_974 rfl ?_
    refine jv_sld (q := 976) G S dL_law_975 (by omega) (by omega) rfl ?_
    refine jv_aload_n (q := 977) G 2 dL_law_976 rfl rfl rfl ?_
    refine jv_iload (q := 979) G 1 dL_law_977 rfl rfl ?_
    refine jv_iconst (q := 980) (v := nI 2) G dL_law_979 (by decide) rfl ?_
    refine jv_iaddN (q := 981) G dL_law_980 rfl ?_
    refine jv_sld (q := 982) G S dL_law_981 (by omega) (by omega) rfl ?_
    refine jv_aload_n (q := 983) G 2 dL_law_982 rfl rfl rfl ?_
    refine jv_iload (q := 985) G 1 dL_law_983 rfl rfl ?_
    refine jv_iconst (q := 986) (v := nI 3) G dL_law_985 (by decide) rfl ?_
    refine jv_iaddN (q := 987) G dL_law_986 rfl ?_
    refine jv_sld (q := 988) G S dL_law_987 (by omega) (by omega) rfl ?_
    refine jv_if_eq (q := 991) (tgt := 995) G dL_law_988 (by decide) rfl (fun c9 => ?_) (fun c9 => ?_)
    · exact absurd c9 c1
    · refine jv_iconst (q := 992) (v := nI 1) G dL_law_991 (by decide) rfl ?_
      refine jv_goto (q := 996) G dL_law_992 (by decide) ?_
      refine jv_aload_n (q := 997) G 2 dL_law_996 rfl rfl rfl ?_
      refine jv_iload (q := 999) G 1 dL_law_997 rfl rfl ?_
      refine jv_iconst (q := 1000) (v := nI 4) G dL_law_999 (by decide) rfl ?_
      refine jv_iaddN (q := 1001) G dL_law_1000 rfl ?_
      refine jv_sld (q := 1002) G S dL_law_1001 (by omega) (by omega) rfl ?_
      refine jv_aload_n (q := 1003) G 2 dL_law_1002 rfl rfl rfl ?_
      refine jv_iload (q := 1005) G 1 dL_law_1003 rfl rfl ?_
      refine jv_iconst (q := 1006) (v := nI 5) G dL_law_1005 (by decide) rfl ?_
      refine jv_iaddN (q := 1007) G dL_law_1006 rfl ?_
      refine jv_sld (q := 1008) G S dL_law_1007 (by omega) (by omega) rfl ?_
      refine jv_callV (q := 1011) (As := [.int (xs (i + 1)), .int (xs (i + 2)), .int (nI 1), .int (xs (i + 4)), .int (xs (i + 5))]) (rest := []) G Z ml_L_141 ((show jv_Met _ _ _ _ _ _ _ _ _ _ (rO m q h1 ((m_seF M (xs (i + 1)), m_find M (xs (i + 1)) (xs (i + 2)) true (xs (i + 4)) (xs (i + 5)), M))) _ from (r_find (e := (xs (i + 1))) (n := (xs (i + 2))) (b := true) (a := (xs (i + 4))) (s := (xs (i + 5))) hlt hM1).mono (fun _ _ y => rO_r hM1 y) (fun _ _ y => y))) hM1.1.1 dL_law_1008 rfl (by decide) (by decide) (by omega) (by omega) (Nat.le_of_ble_eq_true rfl) rfl rfl (fun v11 h10 y12 => ?_) (fun _ _ hx => hx.elim)
      obtain ⟨r9, rfl, hr9, hth, hM2, f2⟩ := y12
      show jv_V E 7 h10 (ce + 2) (sl + 12) Q 1011 [(5, .int (nI (((m_seF M (xs (i + 1)), m_find M (xs (i + 1)) (xs (i + 2)) true (xs (i + 4)) (xs (i + 5)), M)).1))), (4, .int (nI i)), (0, .ref b), (1, .ref (z 6 0)), (2, .ref m), (3, .ref o)] [.int r9]
      refine jv_istore (q := 1013) (lo' := [(6, .int r9), (5, .int (nI (((m_seF M (xs (i + 1)), m_find M (xs (i + 1)) (xs (i + 2)) true (xs (i + 4)) (xs (i + 5)), M)).1))), (4, .int (nI i)), (0, .ref b), (1, .ref (z 6 0)), (2, .ref m), (3, .ref o)]) G dL_law_1011 (by decide) rfl rfl ?_
      refine jv_aload_n (q := 1014) G 5 dL_law_1013 rfl rfl rfl ?_
      refine jv_callV_I (q := 1017) (h1 := h10) (As := []) (rest := []) (ce' := ce + 2) (sl' := sl + 12) (r := nI (((m_seF M (xs (i + 1)), m_find M (xs (i + 1)) (xs (i + 2)) true (xs (i + 4)) (xs (i + 5)), M)).1)) G Z ml_L_109 (r_thrown hlt hM2.1 hth) hM2.1.1 dL_law_1014 rfl (by decide) (by decide) (by omega) (by omega) (Nat.le_of_ble_eq_true rfl) rfl rfl rfl rfl ?_
      refine jv_iload (q := 1019) G 1 dL_law_1017 rfl rfl ?_
      refine jv_icmp_eqN (q := 1022) (tgt := 1024) G dL_law_1019 (by decide) rfl (by omega) (by omega) (fun c13 => ?_) (fun c13 => ?_)
      · refine jv_iload (q := 1026) G 1 dL_law_1024 rfl rfl ?_
        refine jv_if_neN (q := 1029) (tgt := 1041) G dL_law_1026 (by decide) rfl (by omega) (fun c14 => ?_) (fun c14 => ?_)
        · refine jv_goto (q := 2122) G dL_law_1041 (by decide) ?_
          refine jv_lo [2, 3, 4, 5, 6] (lo' := [(4, .int (nI i)), (0, .ref b), (1, .ref (z 6 0)), (2, .ref m), (3, .ref o)]) rfl ?_
          exact kk _ _ _ _ ⟨_, _, f2.R cn_rsh hR1⟩ hM2 ((f2.sh o).trans ho1) (by omega) (by omega)
        · refine jv_aload_n (q := 1030) G 6 dL_law_1029 rfl rfl rfl ?_
          refine jv_iconst (q := 1031) (v := nI 0) G dL_law_1030 (by decide) rfl ?_
          refine jv_lald (q := 1032) G dL_law_1031 ((f2.sh o).trans ho1) rfl (by omega) (by decide) ((f2.l ho1 rfl 0).trans (hL1 c14)) rfl ?_
          refine jv_iload (q := 1034) G 0 dL_law_1032 rfl rfl ?_
          refine jv_i2l (q := 1035) G dL_law_1034 rfl rfl ?_
          refine jv_lcmp (q := 1036) G dL_law_1035 rfl rfl ?_
          refine jv_if_eq (q := 1039) (tgt := 1041) G dL_law_1036 (by decide) rfl (fun c15 => ?_) (fun c15 => ?_)
          · refine jv_goto (q := 2122) G dL_law_1041 (by decide) ?_
            refine jv_lo [2, 3, 4, 5, 6] (lo' := [(4, .int (nI i)), (0, .ref b), (1, .ref (z 6 0)), (2, .ref m), (3, .ref o)]) rfl ?_
            exact kk _ _ _ _ ⟨_, _, f2.R cn_rsh hR1⟩ hM2 ((f2.sh o).trans ho1) (by omega) (by omega)
          · exact absurd (by rw [hr9 c14]; exact lg0 _) c15
      · exact absurd rfl c13
set_option maxHeartbeats 4000000 in
set_option maxRecDepth 100000 in
theorem lc_select {E : jv_E} {Q : State → Prop} (hlt : (jv_l E).stackTraces = false) (G : jv_C E cL_law RL 7) (Z : jv_rm E = jv_room 1000 601024 7293034) {b L : Nat} {xs : Nat → Int32} (S : lwS E b L xs) {z : Nat → Nat → Nat} {T : Nat → Nat} {N : Nat → Nat → Nat} {tO : Nat → Nat} {h : jv_H} {M : mA} (hR : cl_R z T N tO h M) {m : Nat} {q : Nat → Nat} (hM : rf_R m q h M) {o : Nat} (ho : jv_sh h o = some (.inr (.long, 1))) {i : Nat} (hi : i + 9 ≤ L) (hL : L ≤ 4608) {ce sl : Nat} (hc : ce ≤ 600000) (hs : sl ≤ 7000000) (kk : ∀ h' M' ce' sl', (∃ T N, cl_R z T N tO h' M') → rf_R m q h' M' → jv_sh h' o = some (.inr (.long, 1)) → ce' ≤ ce + 5 → sl' ≤ sl + 30 → jv_V E 7 h' ce' sl' Q 2122 [(4, .int (nI i)), (0, .ref b), (1, .ref (z 6 0)), (2, .ref m), (3, .ref o)] []) : jv_V E 7 h ce sl Q 1044 [(4, .int (nI i)), (0, .ref b), (1, .ref (z 6 0)), (2, .ref m), (3, .ref o)] [] := by
  refine jv_aload_n (q := 1045) G 2 dL_law_1044 rfl rfl rfl ?_
  refine jv_aload_n (q := 1046) G 1 dL_law_1045 rfl rfl rfl ?_
  refine jv_iload (q := 1048) G 0 dL_law_1046 rfl rfl ?_
  refine jv_iconst (q := 1049) (v := nI 1) G dL_law_1048 (by decide) rfl ?_
  refine jv_iaddN (q := 1050) G dL_law_1049 rfl ?_
  refine jv_sld (q := 1051) G S dL_law_1050 (by omega) (by omega) rfl ?_
  refine jv_aload_n (q := 1052) G 1 dL_law_1051 rfl rfl rfl ?_
  refine jv_iload (q := 1054) G 0 dL_law_1052 rfl rfl ?_
  refine jv_iconst (q := 1055) (v := nI 2) G dL_law_1054 (by decide) rfl ?_
  refine jv_iaddN (q := 1056) G dL_law_1055 rfl ?_
  refine jv_sld (q := 1057) G S dL_law_1056 (by omega) (by omega) rfl ?_
  refine jv_aload_n (q := 1058) G 1 dL_law_1057 rfl rfl rfl ?_
  refine jv_iload (q := 1060) G 0 dL_law_1058 rfl rfl ?_
  refine jv_iconst (q := 1061) (v := nI 3) G dL_law_1060 (by decide) rfl ?_
  refine jv_iaddN (q := 1062) G dL_law_1061 rfl ?_
  refine jv_sld (q := 1063) G S dL_law_1062 (by omega) (by omega) rfl ?_
  refine jv_aload_n (q := 1064) G 1 dL_law_1063 rfl rfl rfl ?_
  refine jv_iload (q := 1066) G 0 dL_law_1064 rfl rfl ?_
  refine jv_iconst (q := 1067) (v := nI 4) G dL_law_1066 (by decide) rfl ?_
  refine jv_iaddN (q := 1068) G dL_law_1067 rfl ?_
  refine jv_sld (q := 1069) G S dL_law_1068 (by omega) (by omega) rfl ?_
  refine jv_aload_n (q := 1070) G 1 dL_law_1069 rfl rfl rfl ?_
  refine jv_iload (q := 1072) G 0 dL_law_1070 rfl rfl ?_
  refine jv_iconst (q := 1073) (v := nI 5) G dL_law_1072 (by decide) rfl ?_
  refine jv_iaddN (q := 1074) G dL_law_1073 rfl ?_
  refine jv_sld (q := 1075) G S dL_law_1074 (by omega) (by omega) rfl ?_
  refine jv_aload_n (q := 1076) G 4 dL_law_1075 rfl rfl rfl ?_
  refine jv_callSH (q := 1079) (As := [.ref (z 6 0), .int (xs (i + 1)), .int (xs (i + 2)), .int (xs (i + 3)), .int (xs (i + 4)), .int (xs (i + 5)), .ref o]) (rest := []) G Z ml_L_142 (w_select (p0 := (xs (i + 1))) (p1 := (xs (i + 2))) (p2 := (xs (i + 3))) (p3 := (xs (i + 4))) (p4 := (xs (i + 5))) hlt hR ho) dL_law_1076 rfl (by decide) (by decide) (by omega) (by omega) (Nat.le_of_ble_eq_true rfl) rfl rfl (fun v1 h1 y1 => ?_)
  obtain ⟨rfl, hL1, ⟨T1, N1, hR1⟩, f1⟩ := y1
  show jv_V E 7 h1 (ce + 2) (sl + 12) Q 1079 [(4, .int (nI i)), (0, .ref b), (1, .ref (z 6 0)), (2, .ref m), (3, .ref o)] [.int (nI (((m_seF M (xs (i + 1)), m_select M (xs (i + 1)) (xs (i + 2)) (xs (i + 3)) (xs (i + 4)) (xs (i + 5)), M)).1))]
  have hM1 := hM.sF f1; have ho1 := (f1.sh o).trans ho; have hle := le_select (M := M) (p0 := (xs (i + 1))) (p1 := (xs (i + 2))) (p2 := (xs (i + 3))) (p3 := (xs (i + 4))) (p4 := (xs (i + 5)))
  have hle : ((m_seF M (xs (i + 1)), m_select M (xs (i + 1)) (xs (i + 2)) (xs (i + 3)) (xs (i + 4)) (xs (i + 5)), M)).1 ≤ 4 := Nat.le_trans hle (by decide)
  refine jv_istore (q := 1081) (lo' := [(5, .int (nI (((m_seF M (xs (i + 1)), m_select M (xs (i + 1)) (xs (i + 2)) (xs (i + 3)) (xs (i + 4)) (xs (i + 5)), M)).1))), (4, .int (nI i)), (0, .ref b), (1, .ref (z 6 0)), (2, .ref m), (3, .ref o)]) G dL_law_1079 (by decide) rfl rfl ?_
  refine jv_aload_n (q := 1082) G 4 dL_law_1081 rfl rfl rfl ?_
  refine jv_aload_n (q := 1083) G 2 dL_law_1082 rfl rfl rfl ?_
  refine jv_iload (q := 1085) G 1 dL_law_1083 rfl rfl ?_
  refine jv_iconst (q := 1086) (v := nI 1) G dL_law_1085 (by decide) rfl ?_
  refine jv_iaddN (q := 1087) G dL_law_1086 rfl ?_
  refine jv_sld (q := 1088) G S dL_law_1087 (by omega) (by omega) rfl ?_
  refine jv_aload_n (q := 1089) G 2 dL_law_1088 rfl rfl rfl ?_
  refine jv_iload (q := 1091) G 1 dL_law_1089 rfl rfl ?_
  refine jv_iconst (q := 1092) (v := nI 2) G dL_law_1091 (by decide) rfl ?_
  refine jv_iaddN (q := 1093) G dL_law_1092 rfl ?_
  refine jv_sld (q := 1094) G S dL_law_1093 (by omega) (by omega) rfl ?_
  refine jv_aload_n (q := 1095) G 2 dL_law_1094 rfl rfl rfl ?_
  refine jv_iload (q := 1097) G 1 dL_law_1095 rfl rfl ?_
  refine jv_iconst (q := 1098) (v := nI 3) G dL_law_1097 (by decide) rfl ?_
  refine jv_iaddN (q := 1099) G dL_law_1098 rfl ?_
  refine jv_sld (q := 1100) G S dL_law_1099 (by omega) (by omega) rfl ?_
  refine jv_aload_n (q := 1101) G 2 dL_law_1100 rfl rfl rfl ?_
  refine jv_iload (q := 1103) G 1 dL_law_1101 rfl rfl ?_
  refine jv_iconst (q := 1104) (v := nI 4) G dL_law_1103 (by decide) rfl ?_
  refine jv_iaddN (q := 1105) G dL_law_1104 rfl ?_
  refine jv_sld (q := 1106) G S dL_law_1105 (by omega) (by omega) rfl ?_
  refine jv_aload_n (q := 1107) G 2 dL_law_1106 rfl rfl rfl ?_
  refine jv_iload (q := 1109) G 1 dL_law_1107 rfl rfl ?_
  refine jv_iconst (q := 1110) (v := nI 5) G dL_law_1109 (by decide) rfl ?_
  refine jv_iaddN (q := 1111) G dL_law_1110 rfl ?_
  refine jv_sld (q := 1112) G S dL_law_1111 (by omega) (by omega) rfl ?_
  refine jv_callV (q := 1115) (As := [.int (xs (i + 1)), .int (xs (i + 2)), .int (xs (i + 3)), .int (xs (i + 4)), .int (xs (i + 5))]) (rest := []) G Z ml_L_144 ((show jv_Met _ _ _ _ _ _ _ _ _ _ (rO m q h1 ((m_seF M (xs (i + 1)), m_select M (xs (i + 1)) (xs (i + 2)) (xs (i + 3)) (xs (i + 4)) (xs (i + 5)), M))) _ from (r_select (e := (xs (i + 1))) (n := (xs (i + 2))) (a := (xs (i + 3))) (s := (xs (i + 4))) (rc := (xs (i + 5))) hlt hM1).mono (fun _ _ y => rO_r hM1 y) (fun _ _ y => y))) hM1.1.1 dL_law_1112 rfl (by decide) (by decide) (by omega) (by omega) (Nat.le_of_ble_eq_true rfl) rfl rfl (fun v2 h1 y3 => ?_) (fun _ _ hx => hx.elim)
  obtain ⟨r9, rfl, hr9, hth, hM2, f2⟩ := y3
  show jv_V E 7 h1 (ce + 2) (sl + 12) Q 1115 [(5, .int (nI (((m_seF M (xs (i + 1)), m_select M (xs (i + 1)) (xs (i + 2)) (xs (i + 3)) (xs (i + 4)) (xs (i + 5)), M)).1))), (4, .int (nI i)), (0, .ref b), (1, .ref (z 6 0)), (2, .ref m), (3, .ref o)] [.int r9]
  refine jv_istore (q := 1117) (lo' := [(6, .int r9), (5, .int (nI (((m_seF M (xs (i + 1)), m_select M (xs (i + 1)) (xs (i + 2)) (xs (i + 3)) (xs (i + 4)) (xs (i + 5)), M)).1))), (4, .int (nI i)), (0, .ref b), (1, .ref (z 6 0)), (2, .ref m), (3, .ref o)]) G dL_law_1115 (by decide) rfl rfl ?_
  refine jv_aload_n (q := 1118) G 5 dL_law_1117 rfl rfl rfl ?_
  refine jv_callV_I (q := 1121) (h1 := h1) (As := []) (rest := []) (ce' := ce + 2) (sl' := sl + 12) (r := nI (((m_seF M (xs (i + 1)), m_select M (xs (i + 1)) (xs (i + 2)) (xs (i + 3)) (xs (i + 4)) (xs (i + 5)), M)).1)) G Z ml_L_109 (r_thrown hlt hM2.1 hth) hM2.1.1 dL_law_1118 rfl (by decide) (by decide) (by omega) (by omega) (Nat.le_of_ble_eq_true rfl) rfl rfl rfl rfl ?_
  refine jv_iload (q := 1123) G 1 dL_law_1121 rfl rfl ?_
  refine jv_icmp_eqN (q := 1126) (tgt := 1128) G dL_law_1123 (by decide) rfl (by omega) (by omega) (fun c4 => ?_) (fun c4 => ?_)
  · refine jv_iload (q := 1130) G 1 dL_law_1128 rfl rfl ?_
    refine jv_if_neN (q := 1133) (tgt := 1145) G dL_law_1130 (by decide) rfl (by omega) (fun c5 => ?_) (fun c5 => ?_)
    · refine jv_goto (q := 2122) G dL_law_1145 (by decide) ?_
      refine jv_lo [2, 3, 4, 5, 6] (lo' := [(4, .int (nI i)), (0, .ref b), (1, .ref (z 6 0)), (2, .ref m), (3, .ref o)]) rfl ?_
      exact kk _ _ _ _ ⟨_, _, f2.R cn_rsh hR1⟩ hM2 ((f2.sh o).trans ho1) (by omega) (by omega)
    · refine jv_aload_n (q := 1134) G 6 dL_law_1133 rfl rfl rfl ?_
      refine jv_iconst (q := 1135) (v := nI 0) G dL_law_1134 (by decide) rfl ?_
      refine jv_lald (q := 1136) G dL_law_1135 ((f2.sh o).trans ho1) rfl (by omega) (by decide) ((f2.l ho1 rfl 0).trans (hL1 c5)) rfl ?_
      refine jv_iload (q := 1138) G 0 dL_law_1136 rfl rfl ?_
      refine jv_i2l (q := 1139) G dL_law_1138 rfl rfl ?_
      refine jv_lcmp (q := 1140) G dL_law_1139 rfl rfl ?_
      refine jv_if_eq (q := 1143) (tgt := 1145) G dL_law_1140 (by decide) rfl (fun c6 => ?_) (fun c6 => ?_)
      · refine jv_goto (q := 2122) G dL_law_1145 (by decide) ?_
        refine jv_lo [2, 3, 4, 5, 6] (lo' := [(4, .int (nI i)), (0, .ref b), (1, .ref (z 6 0)), (2, .ref m), (3, .ref o)]) rfl ?_
        exact kk _ _ _ _ ⟨_, _, f2.R cn_rsh hR1⟩ hM2 ((f2.sh o).trans ho1) (by omega) (by omega)
      · exact absurd (by rw [hr9 c5]; exact lg0 _) c6
  · exact absurd rfl c4
set_option maxHeartbeats 4000000 in
set_option maxRecDepth 100000 in
theorem lc_caller {E : jv_E} {Q : State → Prop} (hlt : (jv_l E).stackTraces = false) (G : jv_C E cL_law RL 7) (Z : jv_rm E = jv_room 1000 601024 7293034) {b L : Nat} {xs : Nat → Int32} (S : lwS E b L xs) {z : Nat → Nat → Nat} {T : Nat → Nat} {N : Nat → Nat → Nat} {tO : Nat → Nat} {h : jv_H} {M : mA} (hR : cl_R z T N tO h M) {m : Nat} {q : Nat → Nat} (hM : rf_R m q h M) {o : Nat} (ho : jv_sh h o = some (.inr (.long, 1))) {i : Nat} (hi : i + 9 ≤ L) (hL : L ≤ 4608) {ce sl : Nat} (hc : ce ≤ 600000) (hs : sl ≤ 7000000) (kk : ∀ h' M' ce' sl', (∃ T N, cl_R z T N tO h' M') → rf_R m q h' M' → jv_sh h' o = some (.inr (.long, 1)) → ce' ≤ ce + 5 → sl' ≤ sl + 30 → jv_V E 7 h' ce' sl' Q 2122 [(4, .int (nI i)), (0, .ref b), (1, .ref (z 6 0)), (2, .ref m), (3, .ref o)] []) : jv_V E 7 h ce sl Q 1148 [(4, .int (nI i)), (0, .ref b), (1, .ref (z 6 0)), (2, .ref m), (3, .ref o)] [] := by
  refine jv_aload_n (q := 1149) G 2 dL_law_1148 rfl rfl rfl ?_
  refine jv_aload_n (q := 1150) G 1 dL_law_1149 rfl rfl rfl ?_
  refine jv_iload (q := 1152) G 0 dL_law_1150 rfl rfl ?_
  refine jv_iconst (q := 1153) (v := nI 1) G dL_law_1152 (by decide) rfl ?_
  refine jv_iaddN (q := 1154) G dL_law_1153 rfl ?_
  refine jv_sld (q := 1155) G S dL_law_1154 (by omega) (by omega) rfl ?_
  refine jv_aload_n (q := 1156) G 1 dL_law_1155 rfl rfl rfl ?_
  refine jv_iload (q := 1158) G 0 dL_law_1156 rfl rfl ?_
  refine jv_iconst (q := 1159) (v := nI 2) G dL_law_1158 (by decide) rfl ?_
  refine jv_iaddN (q := 1160) G dL_law_1159 rfl ?_
  refine jv_sld (q := 1161) G S dL_law_1160 (by omega) (by omega) rfl ?_
  refine jv_aload_n (q := 1162) G 1 dL_law_1161 rfl rfl rfl ?_
  refine jv_iload (q := 1164) G 0 dL_law_1162 rfl rfl ?_
  refine jv_iconst (q := 1165) (v := nI 3) G dL_law_1164 (by decide) rfl ?_
  refine jv_iaddN (q := 1166) G dL_law_1165 rfl ?_
  refine jv_sld (q := 1167) G S dL_law_1166 (by omega) (by omega) rfl ?_
  refine jv_aload_n (q := 1168) G 4 dL_law_1167 rfl rfl rfl ?_
  refine jv_callSH (q := 1171) (As := [.ref (z 6 0), .int (xs (i + 1)), .int (xs (i + 2)), .int (xs (i + 3)), .ref o]) (rest := []) G Z ml_L_145 (w_caller (p0 := (xs (i + 1))) (p1 := (xs (i + 2))) (p2 := (xs (i + 3))) hlt hR ho) dL_law_1168 rfl (by decide) (by decide) (by omega) (by omega) (Nat.le_of_ble_eq_true rfl) rfl rfl (fun v1 h1 y1 => ?_)
  obtain ⟨rfl, hL1, ⟨T1, N1, hR1⟩, f1⟩ := y1
  show jv_V E 7 h1 (ce + 3) (sl + 18) Q 1171 [(4, .int (nI i)), (0, .ref b), (1, .ref (z 6 0)), (2, .ref m), (3, .ref o)] [.int (nI ((m_ca M (xs (i + 1)) (xs (i + 2)) (xs (i + 3))).1))]
  have hM1 := hM.sF f1; have ho1 := (f1.sh o).trans ho; have hle := le_caller (M := M) (p0 := (xs (i + 1))) (p1 := (xs (i + 2))) (p2 := (xs (i + 3)))
  have hle : (m_ca M (xs (i + 1)) (xs (i + 2)) (xs (i + 3))).1 ≤ 4 := Nat.le_trans hle (by decide)
  refine jv_istore (q := 1173) (lo' := [(5, .int (nI ((m_ca M (xs (i + 1)) (xs (i + 2)) (xs (i + 3))).1))), (4, .int (nI i)), (0, .ref b), (1, .ref (z 6 0)), (2, .ref m), (3, .ref o)]) G dL_law_1171 (by decide) rfl rfl ?_
  refine jv_aload_n (q := 1174) G 4 dL_law_1173 rfl rfl rfl ?_
  refine jv_aload_n (q := 1175) G 2 dL_law_1174 rfl rfl rfl ?_
  refine jv_iload (q := 1177) G 1 dL_law_1175 rfl rfl ?_
  refine jv_iconst (q := 1178) (v := nI 1) G dL_law_1177 (by decide) rfl ?_
  refine jv_iaddN (q := 1179) G dL_law_1178 rfl ?_
  refine jv_sld (q := 1180) G S dL_law_1179 (by omega) (by omega) rfl ?_
  refine jv_aload_n (q := 1181) G 2 dL_law_1180 rfl rfl rfl ?_
  refine jv_iload (q := 1183) G 1 dL_law_1181 rfl rfl ?_
  refine jv_iconst (q := 1184) (v := nI 2) G dL_law_1183 (by decide) rfl ?_
  refine jv_iaddN (q := 1185) G dL_law_1184 rfl ?_
  refine jv_sld (q := 1186) G S dL_law_1185 (by omega) (by omega) rfl ?_
  refine jv_aload_n (q := 1187) G 2 dL_law_1186 rfl rfl rfl ?_
  refine jv_iload (q := 1189) G 1 dL_law_1187 rfl rfl ?_
  refine jv_iconst (q := 1190) (v := nI 3) G dL_law_1189 (by decide) rfl ?_
  refine jv_iaddN (q := 1191) G dL_law_1190 rfl ?_
  refine jv_sld (q := 1192) G S dL_law_1191 (by omega) (by omega) rfl ?_
  refine jv_callV (q := 1195) (As := [.int (xs (i + 1)), .int (xs (i + 2)), .int (xs (i + 3))]) (rest := []) G Z ml_L_147 ((show jv_Met _ _ _ _ _ _ _ _ _ _ (rO m q h1 (m_ca M (xs (i + 1)) (xs (i + 2)) (xs (i + 3)))) _ from (r_caller (e := (xs (i + 1))) (p := (xs (i + 2))) (s := (xs (i + 3))) hlt hM1).mono (fun _ _ y => rO_p hM1.1 y) (fun _ _ y => y))) hM1.1.1 dL_law_1192 rfl (by decide) (by decide) (by omega) (by omega) (Nat.le_of_ble_eq_true rfl) rfl rfl (fun v2 h1 y3 => ?_) (fun _ _ hx => hx.elim)
  obtain ⟨r9, rfl, hr9, hth, hM2, f2⟩ := y3
  show jv_V E 7 h1 (ce + 3) (sl + 18) Q 1195 [(5, .int (nI ((m_ca M (xs (i + 1)) (xs (i + 2)) (xs (i + 3))).1))), (4, .int (nI i)), (0, .ref b), (1, .ref (z 6 0)), (2, .ref m), (3, .ref o)] [.int r9]
  refine jv_istore (q := 1197) (lo' := [(6, .int r9), (5, .int (nI ((m_ca M (xs (i + 1)) (xs (i + 2)) (xs (i + 3))).1))), (4, .int (nI i)), (0, .ref b), (1, .ref (z 6 0)), (2, .ref m), (3, .ref o)]) G dL_law_1195 (by decide) rfl rfl ?_
  refine jv_aload_n (q := 1198) G 5 dL_law_1197 rfl rfl rfl ?_
  refine jv_callV_I (q := 1201) (h1 := h1) (As := []) (rest := []) (ce' := ce + 3) (sl' := sl + 18) (r := nI ((m_ca M (xs (i + 1)) (xs (i + 2)) (xs (i + 3))).1)) G Z ml_L_109 (r_thrown hlt hM2.1 hth) hM2.1.1 dL_law_1198 rfl (by decide) (by decide) (by omega) (by omega) (Nat.le_of_ble_eq_true rfl) rfl rfl rfl rfl ?_
  refine jv_iload (q := 1203) G 1 dL_law_1201 rfl rfl ?_
  refine jv_icmp_eqN (q := 1206) (tgt := 1208) G dL_law_1203 (by decide) rfl (by omega) (by omega) (fun c4 => ?_) (fun c4 => ?_)
  · refine jv_iload (q := 1210) G 1 dL_law_1208 rfl rfl ?_
    refine jv_if_neN (q := 1213) (tgt := 1225) G dL_law_1210 (by decide) rfl (by omega) (fun c5 => ?_) (fun c5 => ?_)
    · refine jv_goto (q := 2122) G dL_law_1225 (by decide) ?_
      refine jv_lo [2, 3, 4, 5, 6] (lo' := [(4, .int (nI i)), (0, .ref b), (1, .ref (z 6 0)), (2, .ref m), (3, .ref o)]) rfl ?_
      exact kk _ _ _ _ ⟨_, _, f2.R cn_rsh hR1⟩ hM2 ((f2.sh o).trans ho1) (by omega) (by omega)
    · refine jv_aload_n (q := 1214) G 6 dL_law_1213 rfl rfl rfl ?_
      refine jv_iconst (q := 1215) (v := nI 0) G dL_law_1214 (by decide) rfl ?_
      refine jv_lald (q := 1216) G dL_law_1215 ((f2.sh o).trans ho1) rfl (by omega) (by decide) ((f2.l ho1 rfl 0).trans (hL1 c5)) rfl ?_
      refine jv_iload (q := 1218) G 0 dL_law_1216 rfl rfl ?_
      refine jv_i2l (q := 1219) G dL_law_1218 rfl rfl ?_
      refine jv_lcmp (q := 1220) G dL_law_1219 rfl rfl ?_
      refine jv_if_eq (q := 1223) (tgt := 1225) G dL_law_1220 (by decide) rfl (fun c6 => ?_) (fun c6 => ?_)
      · refine jv_goto (q := 2122) G dL_law_1225 (by decide) ?_
        refine jv_lo [2, 3, 4, 5, 6] (lo' := [(4, .int (nI i)), (0, .ref b), (1, .ref (z 6 0)), (2, .ref m), (3, .ref o)]) rfl ?_
        exact kk _ _ _ _ ⟨_, _, f2.R cn_rsh hR1⟩ hM2 ((f2.sh o).trans ho1) (by omega) (by omega)
      · exact absurd (by rw [hr9 c5]; exact lg0 _) c6
  · exact absurd rfl c4
set_option maxHeartbeats 4000000 in
set_option maxRecDepth 100000 in
theorem lc_use {E : jv_E} {Q : State → Prop} (hlt : (jv_l E).stackTraces = false) (G : jv_C E cL_law RL 7) (Z : jv_rm E = jv_room 1000 601024 7293034) {b L : Nat} {xs : Nat → Int32} (S : lwS E b L xs) {z : Nat → Nat → Nat} {T : Nat → Nat} {N : Nat → Nat → Nat} {tO : Nat → Nat} {h : jv_H} {M : mA} (hR : cl_R z T N tO h M) {m : Nat} {q : Nat → Nat} (hM : rf_R m q h M) {o : Nat} (ho : jv_sh h o = some (.inr (.long, 1))) {i : Nat} (hi : i + 9 ≤ L) (hL : L ≤ 4608) {ce sl : Nat} (hc : ce ≤ 600000) (hs : sl ≤ 7000000) (kk : ∀ h' M' ce' sl', (∃ T N, cl_R z T N tO h' M') → rf_R m q h' M' → jv_sh h' o = some (.inr (.long, 1)) → ce' ≤ ce + 5 → sl' ≤ sl + 30 → jv_V E 7 h' ce' sl' Q 2122 [(4, .int (nI i)), (0, .ref b), (1, .ref (z 6 0)), (2, .ref m), (3, .ref o)] []) : jv_V E 7 h ce sl Q 1228 [(4, .int (nI i)), (0, .ref b), (1, .ref (z 6 0)), (2, .ref m), (3, .ref o)] [] := by
  refine jv_aload_n (q := 1229) G 2 dL_law_1228 rfl rfl rfl ?_
  refine jv_aload_n (q := 1230) G 1 dL_law_1229 rfl rfl rfl ?_
  refine jv_iload (q := 1232) G 0 dL_law_1230 rfl rfl ?_
  refine jv_iconst (q := 1233) (v := nI 1) G dL_law_1232 (by decide) rfl ?_
  refine jv_iaddN (q := 1234) G dL_law_1233 rfl ?_
  refine jv_sld (q := 1235) G S dL_law_1234 (by omega) (by omega) rfl ?_
  refine jv_aload_n (q := 1236) G 1 dL_law_1235 rfl rfl rfl ?_
  refine jv_iload (q := 1238) G 0 dL_law_1236 rfl rfl ?_
  refine jv_iconst (q := 1239) (v := nI 2) G dL_law_1238 (by decide) rfl ?_
  refine jv_iaddN (q := 1240) G dL_law_1239 rfl ?_
  refine jv_sld (q := 1241) G S dL_law_1240 (by omega) (by omega) rfl ?_
  refine jv_aload_n (q := 1242) G 1 dL_law_1241 rfl rfl rfl ?_
  refine jv_iload (q := 1244) G 0 dL_law_1242 rfl rfl ?_
  refine jv_iconst (q := 1245) (v := nI 3) G dL_law_1244 (by decide) rfl ?_
  refine jv_iaddN (q := 1246) G dL_law_1245 rfl ?_
  refine jv_sld (q := 1247) G S dL_law_1246 (by omega) (by omega) rfl ?_
  refine jv_aload_n (q := 1248) G 1 dL_law_1247 rfl rfl rfl ?_
  refine jv_iload (q := 1250) G 0 dL_law_1248 rfl rfl ?_
  refine jv_iconst (q := 1251) (v := nI 4) G dL_law_1250 (by decide) rfl ?_
  refine jv_iaddN (q := 1252) G dL_law_1251 rfl ?_
  refine jv_sld (q := 1253) G S dL_law_1252 (by omega) (by omega) rfl ?_
  refine jv_aload_n (q := 1254) G 1 dL_law_1253 rfl rfl rfl ?_
  refine jv_iload (q := 1256) G 0 dL_law_1254 rfl rfl ?_
  refine jv_iconst (q := 1257) (v := nI 5) G dL_law_1256 (by decide) rfl ?_
  refine jv_iaddN (q := 1258) G dL_law_1257 rfl ?_
  refine jv_sld (q := 1259) G S dL_law_1258 (by omega) (by omega) rfl ?_
  refine jv_aload_n (q := 1260) G 1 dL_law_1259 rfl rfl rfl ?_
  refine jv_iload (q := 1262) G 0 dL_law_1260 rfl rfl ?_
  refine jv_bipush (q := 1264) (v := nI 6) G dL_law_1262 (by decide) rfl ?_
  refine jv_iaddN (q := 1265) G dL_law_1264 rfl ?_
  refine jv_sld (q := 1266) G S dL_law_1265 (by omega) (by omega) rfl ?_
  refine jv_aload_n (q := 1267) G 4 dL_law_1266 rfl rfl rfl ?_
  refine jv_callSH (q := 1270) (As := [.ref (z 6 0), .int (xs (i + 1)), .int (xs (i + 2)), .int (xs (i + 3)), .int (xs (i + 4)), .int (xs (i + 5)), .int (xs (i + 6)), .ref o]) (rest := []) G Z ml_L_148 (w_use (p0 := (xs (i + 1))) (p1 := (xs (i + 2))) (p2 := (xs (i + 3))) (p3 := (xs (i + 4))) (p4 := (xs (i + 5))) (p5 := (xs (i + 6))) hlt hR ho) dL_law_1267 rfl (by decide) (by decide) (by omega) (by omega) (Nat.le_of_ble_eq_true rfl) rfl rfl (fun v1 h1 y1 => ?_)
  obtain ⟨rfl, hL1, ⟨T1, N1, hR1⟩, f1⟩ := y1
  show jv_V E 7 h1 (ce + 2) (sl + 12) Q 1270 [(4, .int (nI i)), (0, .ref b), (1, .ref (z 6 0)), (2, .ref m), (3, .ref o)] [.int (nI ((m_us M (xs (i + 1)) (xs (i + 2)) (xs (i + 3)) (xs (i + 4)) (xs (i + 5)) (xs (i + 6))).1))]
  have hM1 := hM.sF f1; have ho1 := (f1.sh o).trans ho; have hle := le_use (M := M) (p0 := (xs (i + 1))) (p1 := (xs (i + 2))) (p2 := (xs (i + 3))) (p3 := (xs (i + 4))) (p4 := (xs (i + 5))) (p5 := (xs (i + 6)))
  have hle : (m_us M (xs (i + 1)) (xs (i + 2)) (xs (i + 3)) (xs (i + 4)) (xs (i + 5)) (xs (i + 6))).1 ≤ 4 := Nat.le_trans hle (by decide)
  refine jv_istore (q := 1272) (lo' := [(5, .int (nI ((m_us M (xs (i + 1)) (xs (i + 2)) (xs (i + 3)) (xs (i + 4)) (xs (i + 5)) (xs (i + 6))).1))), (4, .int (nI i)), (0, .ref b), (1, .ref (z 6 0)), (2, .ref m), (3, .ref o)]) G dL_law_1270 (by decide) rfl rfl ?_
  refine jv_aload_n (q := 1273) G 4 dL_law_1272 rfl rfl rfl ?_
  refine jv_aload_n (q := 1274) G 2 dL_law_1273 rfl rfl rfl ?_
  refine jv_iload (q := 1276) G 1 dL_law_1274 rfl rfl ?_
  refine jv_iconst (q := 1277) (v := nI 1) G dL_law_1276 (by decide) rfl ?_
  refine jv_iaddN (q := 1278) G dL_law_1277 rfl ?_
  refine jv_sld (q := 1279) G S dL_law_1278 (by omega) (by omega) rfl ?_
  refine jv_aload_n (q := 1280) G 2 dL_law_1279 rfl rfl rfl ?_
  refine jv_iload (q := 1282) G 1 dL_law_1280 rfl rfl ?_
  refine jv_iconst (q := 1283) (v := nI 2) G dL_law_1282 (by decide) rfl ?_
  refine jv_iaddN (q := 1284) G dL_law_1283 rfl ?_
  refine jv_sld (q := 1285) G S dL_law_1284 (by omega) (by omega) rfl ?_
  refine jv_aload_n (q := 1286) G 2 dL_law_1285 rfl rfl rfl ?_
  refine jv_iload (q := 1288) G 1 dL_law_1286 rfl rfl ?_
  refine jv_iconst (q := 1289) (v := nI 3) G dL_law_1288 (by decide) rfl ?_
  refine jv_iaddN (q := 1290) G dL_law_1289 rfl ?_
  refine jv_sld (q := 1291) G S dL_law_1290 (by omega) (by omega) rfl ?_
  refine jv_aload_n (q := 1292) G 2 dL_law_1291 rfl rfl rfl ?_
  refine jv_iload (q := 1294) G 1 dL_law_1292 rfl rfl ?_
  refine jv_iconst (q := 1295) (v := nI 4) G dL_law_1294 (by decide) rfl ?_
  refine jv_iaddN (q := 1296) G dL_law_1295 rfl ?_
  refine jv_sld (q := 1297) G S dL_law_1296 (by omega) (by omega) rfl ?_
  refine jv_aload_n (q := 1298) G 2 dL_law_1297 rfl rfl rfl ?_
  refine jv_iload (q := 1300) G 1 dL_law_1298 rfl rfl ?_
  refine jv_iconst (q := 1301) (v := nI 5) G dL_law_1300 (by decide) rfl ?_
  refine jv_iaddN (q := 1302) G dL_law_1301 rfl ?_
  refine jv_sld (q := 1303) G S dL_law_1302 (by omega) (by omega) rfl ?_
  refine jv_aload_n (q := 1304) G 2 dL_law_1303 rfl rfl rfl ?_
  refine jv_iload (q := 1306) G 1 dL_law_1304 rfl rfl ?_
  refine jv_bipush (q := 1308) (v := nI 6) G dL_law_1306 (by decide) rfl ?_
  refine jv_iaddN (q := 1309) G dL_law_1308 rfl ?_
  refine jv_sld (q := 1310) G S dL_law_1309 (by omega) (by omega) rfl ?_
  refine jv_callV (q := 1313) (As := [.int (xs (i + 1)), .int (xs (i + 2)), .int (xs (i + 3)), .int (xs (i + 4)), .int (xs (i + 5)), .int (xs (i + 6))]) (rest := []) G Z ml_L_151 ((show jv_Met _ _ _ _ _ _ _ _ _ _ (rO m q h1 (m_us M (xs (i + 1)) (xs (i + 2)) (xs (i + 3)) (xs (i + 4)) (xs (i + 5)) (xs (i + 6)))) _ from (r_use (c := (xs (i + 1))) (kd := (xs (i + 2))) (t := (xs (i + 3))) (n := (xs (i + 4))) (s := (xs (i + 5))) (r := (xs (i + 6))) hlt hM1).mono (fun _ _ y => rO_p hM1.1 y) (fun _ _ y => y))) hM1.1.1 dL_law_1310 rfl (by decide) (by decide) (by omega) (by omega) (Nat.le_of_ble_eq_true rfl) rfl rfl (fun v2 h1 y3 => ?_) (fun _ _ hx => hx.elim)
  obtain ⟨r9, rfl, hr9, hth, hM2, f2⟩ := y3
  show jv_V E 7 h1 (ce + 2) (sl + 12) Q 1313 [(5, .int (nI ((m_us M (xs (i + 1)) (xs (i + 2)) (xs (i + 3)) (xs (i + 4)) (xs (i + 5)) (xs (i + 6))).1))), (4, .int (nI i)), (0, .ref b), (1, .ref (z 6 0)), (2, .ref m), (3, .ref o)] [.int r9]
  refine jv_istore (q := 1315) (lo' := [(6, .int r9), (5, .int (nI ((m_us M (xs (i + 1)) (xs (i + 2)) (xs (i + 3)) (xs (i + 4)) (xs (i + 5)) (xs (i + 6))).1))), (4, .int (nI i)), (0, .ref b), (1, .ref (z 6 0)), (2, .ref m), (3, .ref o)]) G dL_law_1313 (by decide) rfl rfl ?_
  refine jv_aload_n (q := 1316) G 5 dL_law_1315 rfl rfl rfl ?_
  refine jv_callV_I (q := 1319) (h1 := h1) (As := []) (rest := []) (ce' := ce + 2) (sl' := sl + 12) (r := nI ((m_us M (xs (i + 1)) (xs (i + 2)) (xs (i + 3)) (xs (i + 4)) (xs (i + 5)) (xs (i + 6))).1)) G Z ml_L_109 (r_thrown hlt hM2.1 hth) hM2.1.1 dL_law_1316 rfl (by decide) (by decide) (by omega) (by omega) (Nat.le_of_ble_eq_true rfl) rfl rfl rfl rfl ?_
  refine jv_iload (q := 1321) G 1 dL_law_1319 rfl rfl ?_
  refine jv_icmp_eqN (q := 1324) (tgt := 1326) G dL_law_1321 (by decide) rfl (by omega) (by omega) (fun c4 => ?_) (fun c4 => ?_)
  · refine jv_iload (q := 1328) G 1 dL_law_1326 rfl rfl ?_
    refine jv_if_neN (q := 1331) (tgt := 1343) G dL_law_1328 (by decide) rfl (by omega) (fun c5 => ?_) (fun c5 => ?_)
    · refine jv_goto (q := 2122) G dL_law_1343 (by decide) ?_
      refine jv_lo [2, 3, 4, 5, 6] (lo' := [(4, .int (nI i)), (0, .ref b), (1, .ref (z 6 0)), (2, .ref m), (3, .ref o)]) rfl ?_
      exact kk _ _ _ _ ⟨_, _, f2.R cn_rsh hR1⟩ hM2 ((f2.sh o).trans ho1) (by omega) (by omega)
    · refine jv_aload_n (q := 1332) G 6 dL_law_1331 rfl rfl rfl ?_
      refine jv_iconst (q := 1333) (v := nI 0) G dL_law_1332 (by decide) rfl ?_
      refine jv_lald (q := 1334) G dL_law_1333 ((f2.sh o).trans ho1) rfl (by omega) (by decide) ((f2.l ho1 rfl 0).trans (hL1 c5)) rfl ?_
      refine jv_iload (q := 1336) G 0 dL_law_1334 rfl rfl ?_
      refine jv_i2l (q := 1337) G dL_law_1336 rfl rfl ?_
      refine jv_lcmp (q := 1338) G dL_law_1337 rfl rfl ?_
      refine jv_if_eq (q := 1341) (tgt := 1343) G dL_law_1338 (by decide) rfl (fun c6 => ?_) (fun c6 => ?_)
      · refine jv_goto (q := 2122) G dL_law_1343 (by decide) ?_
        refine jv_lo [2, 3, 4, 5, 6] (lo' := [(4, .int (nI i)), (0, .ref b), (1, .ref (z 6 0)), (2, .ref m), (3, .ref o)]) rfl ?_
        exact kk _ _ _ _ ⟨_, _, f2.R cn_rsh hR1⟩ hM2 ((f2.sh o).trans ho1) (by omega) (by omega)
      · exact absurd (by rw [hr9 c5]; exact lg0 _) c6
  · exact absurd rfl c4
set_option maxHeartbeats 4000000 in
set_option maxRecDepth 100000 in
theorem lc_foretell {E : jv_E} {Q : State → Prop} (hlt : (jv_l E).stackTraces = false) (G : jv_C E cL_law RL 7) (Z : jv_rm E = jv_room 1000 601024 7293034) {b L : Nat} {xs : Nat → Int32} (S : lwS E b L xs) {z : Nat → Nat → Nat} {T : Nat → Nat} {N : Nat → Nat → Nat} {tO : Nat → Nat} {h : jv_H} {M : mA} (hR : cl_R z T N tO h M) {m : Nat} {q : Nat → Nat} (hM : rf_R m q h M) {o : Nat} (ho : jv_sh h o = some (.inr (.long, 1))) {i : Nat} (hi : i + 9 ≤ L) (hL : L ≤ 4608) {ce sl : Nat} (hc : ce ≤ 600000) (hs : sl ≤ 7000000) (kk : ∀ h' M' ce' sl', (∃ T N, cl_R z T N tO h' M') → rf_R m q h' M' → jv_sh h' o = some (.inr (.long, 1)) → ce' ≤ ce + 5 → sl' ≤ sl + 30 → jv_V E 7 h' ce' sl' Q 2122 [(4, .int (nI i)), (0, .ref b), (1, .ref (z 6 0)), (2, .ref m), (3, .ref o)] []) : jv_V E 7 h ce sl Q 1346 [(4, .int (nI i)), (0, .ref b), (1, .ref (z 6 0)), (2, .ref m), (3, .ref o)] [] := by
  refine jv_aload_n (q := 1347) G 2 dL_law_1346 rfl rfl rfl ?_
  refine jv_aload_n (q := 1348) G 1 dL_law_1347 rfl rfl rfl ?_
  refine jv_iload (q := 1350) G 0 dL_law_1348 rfl rfl ?_
  refine jv_iconst (q := 1351) (v := nI 1) G dL_law_1350 (by decide) rfl ?_
  refine jv_iaddN (q := 1352) G dL_law_1351 rfl ?_
  refine jv_sld (q := 1353) G S dL_law_1352 (by omega) (by omega) rfl ?_
  refine jv_aload_n (q := 1354) G 1 dL_law_1353 rfl rfl rfl ?_
  refine jv_iload (q := 1356) G 0 dL_law_1354 rfl rfl ?_
  refine jv_iconst (q := 1357) (v := nI 2) G dL_law_1356 (by decide) rfl ?_
  refine jv_iaddN (q := 1358) G dL_law_1357 rfl ?_
  refine jv_sld (q := 1359) G S dL_law_1358 (by omega) (by omega) rfl ?_
  refine jv_aload_n (q := 1360) G 1 dL_law_1359 rfl rfl rfl ?_
  refine jv_iload (q := 1362) G 0 dL_law_1360 rfl rfl ?_
  refine jv_iconst (q := 1363) (v := nI 3) G dL_law_1362 (by decide) rfl ?_
  refine jv_iaddN (q := 1364) G dL_law_1363 rfl ?_
  refine jv_sld (q := 1365) G S dL_law_1364 (by omega) (by omega) rfl ?_
  refine jv_aload_n (q := 1366) G 4 dL_law_1365 rfl rfl rfl ?_
  refine jv_callSH (q := 1369) (As := [.ref (z 6 0), .int (xs (i + 1)), .int (xs (i + 2)), .int (xs (i + 3)), .ref o]) (rest := []) G Z ml_L_152 (w_foretell (p0 := (xs (i + 1))) (p1 := (xs (i + 2))) (p2 := (xs (i + 3))) hlt hR ho) dL_law_1366 rfl (by decide) (by decide) (by omega) (by omega) (Nat.le_of_ble_eq_true rfl) rfl rfl (fun v1 h1 y1 => ?_)
  obtain ⟨rfl, hL1, ⟨T1, N1, hR1⟩, f1⟩ := y1
  show jv_V E 7 h1 (ce + 4) (sl + 24) Q 1369 [(4, .int (nI i)), (0, .ref b), (1, .ref (z 6 0)), (2, .ref m), (3, .ref o)] [.int (nI (((m_usF M (xs (i + 1)) (xs (i + 2)) (xs (i + 3)), m_foretell M (xs (i + 1)) (xs (i + 2)) (xs (i + 3)), M)).1))]
  have hM1 := hM.sF f1; have ho1 := (f1.sh o).trans ho; have hle := le_foretell (M := M) (p0 := (xs (i + 1))) (p1 := (xs (i + 2))) (p2 := (xs (i + 3)))
  have hle : ((m_usF M (xs (i + 1)) (xs (i + 2)) (xs (i + 3)), m_foretell M (xs (i + 1)) (xs (i + 2)) (xs (i + 3)), M)).1 ≤ 4 := Nat.le_trans hle (by decide)
  refine jv_istore (q := 1371) (lo' := [(5, .int (nI (((m_usF M (xs (i + 1)) (xs (i + 2)) (xs (i + 3)), m_foretell M (xs (i + 1)) (xs (i + 2)) (xs (i + 3)), M)).1))), (4, .int (nI i)), (0, .ref b), (1, .ref (z 6 0)), (2, .ref m), (3, .ref o)]) G dL_law_1369 (by decide) rfl rfl ?_
  refine jv_aload_n (q := 1372) G 4 dL_law_1371 rfl rfl rfl ?_
  refine jv_aload_n (q := 1373) G 2 dL_law_1372 rfl rfl rfl ?_
  refine jv_iload (q := 1375) G 1 dL_law_1373 rfl rfl ?_
  refine jv_iconst (q := 1376) (v := nI 1) G dL_law_1375 (by decide) rfl ?_
  refine jv_iaddN (q := 1377) G dL_law_1376 rfl ?_
  refine jv_sld (q := 1378) G S dL_law_1377 (by omega) (by omega) rfl ?_
  refine jv_aload_n (q := 1379) G 2 dL_law_1378 rfl rfl rfl ?_
  refine jv_iload (q := 1381) G 1 dL_law_1379 rfl rfl ?_
  refine jv_iconst (q := 1382) (v := nI 2) G dL_law_1381 (by decide) rfl ?_
  refine jv_iaddN (q := 1383) G dL_law_1382 rfl ?_
  refine jv_sld (q := 1384) G S dL_law_1383 (by omega) (by omega) rfl ?_
  refine jv_aload_n (q := 1385) G 2 dL_law_1384 rfl rfl rfl ?_
  refine jv_iload (q := 1387) G 1 dL_law_1385 rfl rfl ?_
  refine jv_iconst (q := 1388) (v := nI 3) G dL_law_1387 (by decide) rfl ?_
  refine jv_iaddN (q := 1389) G dL_law_1388 rfl ?_
  refine jv_sld (q := 1390) G S dL_law_1389 (by omega) (by omega) rfl ?_
  refine jv_callV (q := 1393) (As := [.int (xs (i + 1)), .int (xs (i + 2)), .int (xs (i + 3))]) (rest := []) G Z ml_L_154 ((show jv_Met _ _ _ _ _ _ _ _ _ _ (rO m q h1 ((m_usF M (xs (i + 1)) (xs (i + 2)) (xs (i + 3)), m_foretell M (xs (i + 1)) (xs (i + 2)) (xs (i + 3)), M))) _ from (r_foretell (c := (xs (i + 1))) (e := (xs (i + 2))) (u := (xs (i + 3))) hlt hM1).mono (fun _ _ y => rO_r hM1 y) (fun _ _ y => y))) hM1.1.1 dL_law_1390 rfl (by decide) (by decide) (by omega) (by omega) (Nat.le_of_ble_eq_true rfl) rfl rfl (fun v2 h1 y3 => ?_) (fun _ _ hx => hx.elim)
  obtain ⟨r9, rfl, hr9, hth, hM2, f2⟩ := y3
  show jv_V E 7 h1 (ce + 4) (sl + 24) Q 1393 [(5, .int (nI (((m_usF M (xs (i + 1)) (xs (i + 2)) (xs (i + 3)), m_foretell M (xs (i + 1)) (xs (i + 2)) (xs (i + 3)), M)).1))), (4, .int (nI i)), (0, .ref b), (1, .ref (z 6 0)), (2, .ref m), (3, .ref o)] [.int r9]
  refine jv_istore (q := 1395) (lo' := [(6, .int r9), (5, .int (nI (((m_usF M (xs (i + 1)) (xs (i + 2)) (xs (i + 3)), m_foretell M (xs (i + 1)) (xs (i + 2)) (xs (i + 3)), M)).1))), (4, .int (nI i)), (0, .ref b), (1, .ref (z 6 0)), (2, .ref m), (3, .ref o)]) G dL_law_1393 (by decide) rfl rfl ?_
  refine jv_aload_n (q := 1396) G 5 dL_law_1395 rfl rfl rfl ?_
  refine jv_callV_I (q := 1399) (h1 := h1) (As := []) (rest := []) (ce' := ce + 4) (sl' := sl + 24) (r := nI (((m_usF M (xs (i + 1)) (xs (i + 2)) (xs (i + 3)), m_foretell M (xs (i + 1)) (xs (i + 2)) (xs (i + 3)), M)).1)) G Z ml_L_109 (r_thrown hlt hM2.1 hth) hM2.1.1 dL_law_1396 rfl (by decide) (by decide) (by omega) (by omega) (Nat.le_of_ble_eq_true rfl) rfl rfl rfl rfl ?_
  refine jv_iload (q := 1401) G 1 dL_law_1399 rfl rfl ?_
  refine jv_icmp_eqN (q := 1404) (tgt := 1406) G dL_law_1401 (by decide) rfl (by omega) (by omega) (fun c4 => ?_) (fun c4 => ?_)
  · refine jv_iload (q := 1408) G 1 dL_law_1406 rfl rfl ?_
    refine jv_if_neN (q := 1411) (tgt := 1423) G dL_law_1408 (by decide) rfl (by omega) (fun c5 => ?_) (fun c5 => ?_)
    · refine jv_goto (q := 2122) G dL_law_1423 (by decide) ?_
      refine jv_lo [2, 3, 4, 5, 6] (lo' := [(4, .int (nI i)), (0, .ref b), (1, .ref (z 6 0)), (2, .ref m), (3, .ref o)]) rfl ?_
      exact kk _ _ _ _ ⟨_, _, f2.R cn_rsh hR1⟩ hM2 ((f2.sh o).trans ho1) (by omega) (by omega)
    · refine jv_aload_n (q := 1412) G 6 dL_law_1411 rfl rfl rfl ?_
      refine jv_iconst (q := 1413) (v := nI 0) G dL_law_1412 (by decide) rfl ?_
      refine jv_lald (q := 1414) G dL_law_1413 ((f2.sh o).trans ho1) rfl (by omega) (by decide) ((f2.l ho1 rfl 0).trans (hL1 c5)) rfl ?_
      refine jv_iload (q := 1416) G 0 dL_law_1414 rfl rfl ?_
      refine jv_i2l (q := 1417) G dL_law_1416 rfl rfl ?_
      refine jv_lcmp (q := 1418) G dL_law_1417 rfl rfl ?_
      refine jv_if_eq (q := 1421) (tgt := 1423) G dL_law_1418 (by decide) rfl (fun c6 => ?_) (fun c6 => ?_)
      · refine jv_goto (q := 2122) G dL_law_1423 (by decide) ?_
        refine jv_lo [2, 3, 4, 5, 6] (lo' := [(4, .int (nI i)), (0, .ref b), (1, .ref (z 6 0)), (2, .ref m), (3, .ref o)]) rfl ?_
        exact kk _ _ _ _ ⟨_, _, f2.R cn_rsh hR1⟩ hM2 ((f2.sh o).trans ho1) (by omega) (by omega)
      · exact absurd (by rw [hr9 c5]; exact lg0 _) c6
  · exact absurd rfl c4
set_option maxHeartbeats 4000000 in
set_option maxRecDepth 100000 in
theorem lc_runs {E : jv_E} {Q : State → Prop} (hlt : (jv_l E).stackTraces = false) (G : jv_C E cL_law RL 7) (Z : jv_rm E = jv_room 1000 601024 7293034) {b L : Nat} {xs : Nat → Int32} (S : lwS E b L xs) {z : Nat → Nat → Nat} {T : Nat → Nat} {N : Nat → Nat → Nat} {tO : Nat → Nat} {h : jv_H} {M : mA} (hR : cl_R z T N tO h M) {m : Nat} {q : Nat → Nat} (hM : rf_R m q h M) {o : Nat} (ho : jv_sh h o = some (.inr (.long, 1))) {i : Nat} (hi : i + 9 ≤ L) (hL : L ≤ 4608) {ce sl : Nat} (hc : ce ≤ 600000) (hs : sl ≤ 7000000) (kk : ∀ h' M' ce' sl', (∃ T N, cl_R z T N tO h' M') → rf_R m q h' M' → jv_sh h' o = some (.inr (.long, 1)) → ce' ≤ ce + 5 → sl' ≤ sl + 30 → jv_V E 7 h' ce' sl' Q 2122 [(4, .int (nI i)), (0, .ref b), (1, .ref (z 6 0)), (2, .ref m), (3, .ref o)] []) : jv_V E 7 h ce sl Q 1426 [(4, .int (nI i)), (0, .ref b), (1, .ref (z 6 0)), (2, .ref m), (3, .ref o)] [] := by
  refine jv_aload_n (q := 1427) G 2 dL_law_1426 rfl rfl rfl ?_
  refine jv_aload_n (q := 1428) G 1 dL_law_1427 rfl rfl rfl ?_
  refine jv_iload (q := 1430) G 0 dL_law_1428 rfl rfl ?_
  refine jv_iconst (q := 1431) (v := nI 1) G dL_law_1430 (by decide) rfl ?_
  refine jv_iaddN (q := 1432) G dL_law_1431 rfl ?_
  refine jv_sld (q := 1433) G S dL_law_1432 (by omega) (by omega) rfl ?_
  refine jv_aload_n (q := 1434) G 1 dL_law_1433 rfl rfl rfl ?_
  refine jv_iload (q := 1436) G 0 dL_law_1434 rfl rfl ?_
  refine jv_iconst (q := 1437) (v := nI 2) G dL_law_1436 (by decide) rfl ?_
  refine jv_iaddN (q := 1438) G dL_law_1437 rfl ?_
  refine jv_sld (q := 1439) G S dL_law_1438 (by omega) (by omega) rfl ?_
  refine jv_aload_n (q := 1440) G 1 dL_law_1439 rfl rfl rfl ?_
  refine jv_iload (q := 1442) G 0 dL_law_1440 rfl rfl ?_
  refine jv_iconst (q := 1443) (v := nI 3) G dL_law_1442 (by decide) rfl ?_
  refine jv_iaddN (q := 1444) G dL_law_1443 rfl ?_
  refine jv_sld (q := 1445) G S dL_law_1444 (by omega) (by omega) rfl ?_
  refine jv_aload_n (q := 1446) G 4 dL_law_1445 rfl rfl rfl ?_
  refine jv_callSH (q := 1449) (As := [.ref (z 6 0), .int (xs (i + 1)), .int (xs (i + 2)), .int (xs (i + 3)), .ref o]) (rest := []) G Z ml_L_155 (w_runs (p0 := (xs (i + 1))) (p1 := (xs (i + 2))) (p2 := (xs (i + 3))) hlt hR ho) dL_law_1446 rfl (by decide) (by decide) (by omega) (by omega) (Nat.le_of_ble_eq_true rfl) rfl rfl (fun v1 h1 y1 => ?_)
  obtain ⟨rfl, hL1, ⟨T1, N1, hR1⟩, f1⟩ := y1
  show jv_V E 7 h1 (ce + 4) (sl + 24) Q 1449 [(4, .int (nI i)), (0, .ref b), (1, .ref (z 6 0)), (2, .ref m), (3, .ref o)] [.int (nI (((m_usF M (xs (i + 1)) (xs (i + 2)) (xs (i + 3)), m_runs M (xs (i + 1)) (xs (i + 2)) (xs (i + 3)), M)).1))]
  have hM1 := hM.sF f1; have ho1 := (f1.sh o).trans ho; have hle := le_runs (M := M) (p0 := (xs (i + 1))) (p1 := (xs (i + 2))) (p2 := (xs (i + 3)))
  have hle : ((m_usF M (xs (i + 1)) (xs (i + 2)) (xs (i + 3)), m_runs M (xs (i + 1)) (xs (i + 2)) (xs (i + 3)), M)).1 ≤ 4 := Nat.le_trans hle (by decide)
  refine jv_istore (q := 1451) (lo' := [(5, .int (nI (((m_usF M (xs (i + 1)) (xs (i + 2)) (xs (i + 3)), m_runs M (xs (i + 1)) (xs (i + 2)) (xs (i + 3)), M)).1))), (4, .int (nI i)), (0, .ref b), (1, .ref (z 6 0)), (2, .ref m), (3, .ref o)]) G dL_law_1449 (by decide) rfl rfl ?_
  refine jv_aload_n (q := 1452) G 4 dL_law_1451 rfl rfl rfl ?_
  refine jv_aload_n (q := 1453) G 2 dL_law_1452 rfl rfl rfl ?_
  refine jv_iload (q := 1455) G 1 dL_law_1453 rfl rfl ?_
  refine jv_iconst (q := 1456) (v := nI 1) G dL_law_1455 (by decide) rfl ?_
  refine jv_iaddN (q := 1457) G dL_law_1456 rfl ?_
  refine jv_sld (q := 1458) G S dL_law_1457 (by omega) (by omega) rfl ?_
  refine jv_aload_n (q := 1459) G 2 dL_law_1458 rfl rfl rfl ?_
  refine jv_iload (q := 1461) G 1 dL_law_1459 rfl rfl ?_
  refine jv_iconst (q := 1462) (v := nI 2) G dL_law_1461 (by decide) rfl ?_
  refine jv_iaddN (q := 1463) G dL_law_1462 rfl ?_
  refine jv_sld (q := 1464) G S dL_law_1463 (by omega) (by omega) rfl ?_
  refine jv_aload_n (q := 1465) G 2 dL_law_1464 rfl rfl rfl ?_
  refine jv_iload (q := 1467) G 1 dL_law_1465 rfl rfl ?_
  refine jv_iconst (q := 1468) (v := nI 3) G dL_law_1467 (by decide) rfl ?_
  refine jv_iaddN (q := 1469) G dL_law_1468 rfl ?_
  refine jv_sld (q := 1470) G S dL_law_1469 (by omega) (by omega) rfl ?_
  refine jv_callV (q := 1473) (As := [.int (xs (i + 1)), .int (xs (i + 2)), .int (xs (i + 3))]) (rest := []) G Z ml_L_157 ((show jv_Met _ _ _ _ _ _ _ _ _ _ (rO m q h1 ((m_usF M (xs (i + 1)) (xs (i + 2)) (xs (i + 3)), m_runs M (xs (i + 1)) (xs (i + 2)) (xs (i + 3)), M))) _ from (r_runs (c := (xs (i + 1))) (e := (xs (i + 2))) (u := (xs (i + 3))) hlt hM1).mono (fun _ _ y => rO_r hM1 y) (fun _ _ y => y))) hM1.1.1 dL_law_1470 rfl (by decide) (by decide) (by omega) (by omega) (Nat.le_of_ble_eq_true rfl) rfl rfl (fun v2 h1 y3 => ?_) (fun _ _ hx => hx.elim)
  obtain ⟨r9, rfl, hr9, hth, hM2, f2⟩ := y3
  show jv_V E 7 h1 (ce + 4) (sl + 24) Q 1473 [(5, .int (nI (((m_usF M (xs (i + 1)) (xs (i + 2)) (xs (i + 3)), m_runs M (xs (i + 1)) (xs (i + 2)) (xs (i + 3)), M)).1))), (4, .int (nI i)), (0, .ref b), (1, .ref (z 6 0)), (2, .ref m), (3, .ref o)] [.int r9]
  refine jv_istore (q := 1475) (lo' := [(6, .int r9), (5, .int (nI (((m_usF M (xs (i + 1)) (xs (i + 2)) (xs (i + 3)), m_runs M (xs (i + 1)) (xs (i + 2)) (xs (i + 3)), M)).1))), (4, .int (nI i)), (0, .ref b), (1, .ref (z 6 0)), (2, .ref m), (3, .ref o)]) G dL_law_1473 (by decide) rfl rfl ?_
  refine jv_aload_n (q := 1476) G 5 dL_law_1475 rfl rfl rfl ?_
  refine jv_callV_I (q := 1479) (h1 := h1) (As := []) (rest := []) (ce' := ce + 4) (sl' := sl + 24) (r := nI (((m_usF M (xs (i + 1)) (xs (i + 2)) (xs (i + 3)), m_runs M (xs (i + 1)) (xs (i + 2)) (xs (i + 3)), M)).1)) G Z ml_L_109 (r_thrown hlt hM2.1 hth) hM2.1.1 dL_law_1476 rfl (by decide) (by decide) (by omega) (by omega) (Nat.le_of_ble_eq_true rfl) rfl rfl rfl rfl ?_
  refine jv_iload (q := 1481) G 1 dL_law_1479 rfl rfl ?_
  refine jv_icmp_eqN (q := 1484) (tgt := 1486) G dL_law_1481 (by decide) rfl (by omega) (by omega) (fun c4 => ?_) (fun c4 => ?_)
  · refine jv_iload (q := 1488) G 1 dL_law_1486 rfl rfl ?_
    refine jv_if_neN (q := 1491) (tgt := 1503) G dL_law_1488 (by decide) rfl (by omega) (fun c5 => ?_) (fun c5 => ?_)
    · refine jv_goto (q := 2122) G dL_law_1503 (by decide) ?_
      refine jv_lo [2, 3, 4, 5, 6] (lo' := [(4, .int (nI i)), (0, .ref b), (1, .ref (z 6 0)), (2, .ref m), (3, .ref o)]) rfl ?_
      exact kk _ _ _ _ ⟨_, _, f2.R cn_rsh hR1⟩ hM2 ((f2.sh o).trans ho1) (by omega) (by omega)
    · refine jv_aload_n (q := 1492) G 6 dL_law_1491 rfl rfl rfl ?_
      refine jv_iconst (q := 1493) (v := nI 0) G dL_law_1492 (by decide) rfl ?_
      refine jv_lald (q := 1494) G dL_law_1493 ((f2.sh o).trans ho1) rfl (by omega) (by decide) ((f2.l ho1 rfl 0).trans (hL1 c5)) rfl ?_
      refine jv_iload (q := 1496) G 0 dL_law_1494 rfl rfl ?_
      refine jv_i2l (q := 1497) G dL_law_1496 rfl rfl ?_
      refine jv_lcmp (q := 1498) G dL_law_1497 rfl rfl ?_
      refine jv_if_eq (q := 1501) (tgt := 1503) G dL_law_1498 (by decide) rfl (fun c6 => ?_) (fun c6 => ?_)
      · refine jv_goto (q := 2122) G dL_law_1503 (by decide) ?_
        refine jv_lo [2, 3, 4, 5, 6] (lo' := [(4, .int (nI i)), (0, .ref b), (1, .ref (z 6 0)), (2, .ref m), (3, .ref o)]) rfl ?_
        exact kk _ _ _ _ ⟨_, _, f2.R cn_rsh hR1⟩ hM2 ((f2.sh o).trans ho1) (by omega) (by omega)
      · exact absurd (by rw [hr9 c5]; exact lg0 _) c6
  · exact absurd rfl c4
set_option maxHeartbeats 4000000 in
set_option maxRecDepth 100000 in
theorem lc_copied {E : jv_E} {Q : State → Prop} (hlt : (jv_l E).stackTraces = false) (G : jv_C E cL_law RL 7) (Z : jv_rm E = jv_room 1000 601024 7293034) {b L : Nat} {xs : Nat → Int32} (S : lwS E b L xs) {z : Nat → Nat → Nat} {T : Nat → Nat} {N : Nat → Nat → Nat} {tO : Nat → Nat} {h : jv_H} {M : mA} (hR : cl_R z T N tO h M) {m : Nat} {q : Nat → Nat} (hM : rf_R m q h M) {o : Nat} (ho : jv_sh h o = some (.inr (.long, 1))) {i : Nat} (hi : i + 9 ≤ L) (hL : L ≤ 4608) {ce sl : Nat} (hc : ce ≤ 600000) (hs : sl ≤ 7000000) (kk : ∀ h' M' ce' sl', (∃ T N, cl_R z T N tO h' M') → rf_R m q h' M' → jv_sh h' o = some (.inr (.long, 1)) → ce' ≤ ce + 5 → sl' ≤ sl + 30 → jv_V E 7 h' ce' sl' Q 2122 [(4, .int (nI i)), (0, .ref b), (1, .ref (z 6 0)), (2, .ref m), (3, .ref o)] []) : jv_V E 7 h ce sl Q 1506 [(4, .int (nI i)), (0, .ref b), (1, .ref (z 6 0)), (2, .ref m), (3, .ref o)] [] := by
  refine jv_aload_n (q := 1507) G 2 dL_law_1506 rfl rfl rfl ?_
  refine jv_aload_n (q := 1508) G 1 dL_law_1507 rfl rfl rfl ?_
  refine jv_iload (q := 1510) G 0 dL_law_1508 rfl rfl ?_
  refine jv_iconst (q := 1511) (v := nI 1) G dL_law_1510 (by decide) rfl ?_
  refine jv_iaddN (q := 1512) G dL_law_1511 rfl ?_
  refine jv_sld (q := 1513) G S dL_law_1512 (by omega) (by omega) rfl ?_
  refine jv_aload_n (q := 1514) G 1 dL_law_1513 rfl rfl rfl ?_
  refine jv_iload (q := 1516) G 0 dL_law_1514 rfl rfl ?_
  refine jv_iconst (q := 1517) (v := nI 2) G dL_law_1516 (by decide) rfl ?_
  refine jv_iaddN (q := 1518) G dL_law_1517 rfl ?_
  refine jv_sld (q := 1519) G S dL_law_1518 (by omega) (by omega) rfl ?_
  refine jv_aload_n (q := 1520) G 4 dL_law_1519 rfl rfl rfl ?_
  refine jv_callSH (q := 1523) (As := [.ref (z 6 0), .int (xs (i + 1)), .int (xs (i + 2)), .ref o]) (rest := []) G Z ml_L_158 (w_copied (p0 := (xs (i + 1))) (p1 := (xs (i + 2))) hlt hR ho) dL_law_1520 rfl (by decide) (by decide) (by omega) (by omega) (Nat.le_of_ble_eq_true rfl) rfl rfl (fun v1 h1 y1 => ?_)
  obtain ⟨rfl, hL1, ⟨T1, N1, hR1⟩, f1⟩ := y1
  show jv_V E 7 h1 (ce + 2) (sl + 12) Q 1523 [(4, .int (nI i)), (0, .ref b), (1, .ref (z 6 0)), (2, .ref m), (3, .ref o)] [.int (nI (((m_cpF M (xs (i + 1)) (xs (i + 2)), m_copied M (xs (i + 1)) (xs (i + 2)), M)).1))]
  have hM1 := hM.sF f1; have ho1 := (f1.sh o).trans ho; have hle := le_copied (M := M) (p0 := (xs (i + 1))) (p1 := (xs (i + 2)))
  have hle : ((m_cpF M (xs (i + 1)) (xs (i + 2)), m_copied M (xs (i + 1)) (xs (i + 2)), M)).1 ≤ 4 := Nat.le_trans hle (by decide)
  refine jv_istore (q := 1525) (lo' := [(5, .int (nI (((m_cpF M (xs (i + 1)) (xs (i + 2)), m_copied M (xs (i + 1)) (xs (i + 2)), M)).1))), (4, .int (nI i)), (0, .ref b), (1, .ref (z 6 0)), (2, .ref m), (3, .ref o)]) G dL_law_1523 (by decide) rfl rfl ?_
  refine jv_aload_n (q := 1526) G 4 dL_law_1525 rfl rfl rfl ?_
  refine jv_aload_n (q := 1527) G 2 dL_law_1526 rfl rfl rfl ?_
  refine jv_iload (q := 1529) G 1 dL_law_1527 rfl rfl ?_
  refine jv_iconst (q := 1530) (v := nI 1) G dL_law_1529 (by decide) rfl ?_
  refine jv_iaddN (q := 1531) G dL_law_1530 rfl ?_
  refine jv_sld (q := 1532) G S dL_law_1531 (by omega) (by omega) rfl ?_
  refine jv_aload_n (q := 1533) G 2 dL_law_1532 rfl rfl rfl ?_
  refine jv_iload (q := 1535) G 1 dL_law_1533 rfl rfl ?_
  refine jv_iconst (q := 1536) (v := nI 2) G dL_law_1535 (by decide) rfl ?_
  refine jv_iaddN (q := 1537) G dL_law_1536 rfl ?_
  refine jv_sld (q := 1538) G S dL_law_1537 (by omega) (by omega) rfl ?_
  refine jv_callV (q := 1541) (As := [.int (xs (i + 1)), .int (xs (i + 2))]) (rest := []) G Z ml_L_161 ((show jv_Met _ _ _ _ _ _ _ _ _ _ (rO m q h1 ((m_cpF M (xs (i + 1)) (xs (i + 2)), m_copied M (xs (i + 1)) (xs (i + 2)), M))) _ from (r_copied (c := (xs (i + 1))) (u := (xs (i + 2))) hlt hM1).mono (fun _ _ y => rO_r hM1 y) (fun _ _ y => y))) hM1.1.1 dL_law_1538 rfl (by decide) (by decide) (by omega) (by omega) (Nat.le_of_ble_eq_true rfl) rfl rfl (fun v2 h1 y3 => ?_) (fun _ _ hx => hx.elim)
  obtain ⟨r9, rfl, hr9, hth, hM2, f2⟩ := y3
  show jv_V E 7 h1 (ce + 2) (sl + 12) Q 1541 [(5, .int (nI (((m_cpF M (xs (i + 1)) (xs (i + 2)), m_copied M (xs (i + 1)) (xs (i + 2)), M)).1))), (4, .int (nI i)), (0, .ref b), (1, .ref (z 6 0)), (2, .ref m), (3, .ref o)] [.int r9]
  refine jv_istore (q := 1543) (lo' := [(6, .int r9), (5, .int (nI (((m_cpF M (xs (i + 1)) (xs (i + 2)), m_copied M (xs (i + 1)) (xs (i + 2)), M)).1))), (4, .int (nI i)), (0, .ref b), (1, .ref (z 6 0)), (2, .ref m), (3, .ref o)]) G dL_law_1541 (by decide) rfl rfl ?_
  refine jv_aload_n (q := 1544) G 5 dL_law_1543 rfl rfl rfl ?_
  refine jv_callV_I (q := 1547) (h1 := h1) (As := []) (rest := []) (ce' := ce + 2) (sl' := sl + 12) (r := nI (((m_cpF M (xs (i + 1)) (xs (i + 2)), m_copied M (xs (i + 1)) (xs (i + 2)), M)).1)) G Z ml_L_109 (r_thrown hlt hM2.1 hth) hM2.1.1 dL_law_1544 rfl (by decide) (by decide) (by omega) (by omega) (Nat.le_of_ble_eq_true rfl) rfl rfl rfl rfl ?_
  refine jv_iload (q := 1549) G 1 dL_law_1547 rfl rfl ?_
  refine jv_icmp_eqN (q := 1552) (tgt := 1554) G dL_law_1549 (by decide) rfl (by omega) (by omega) (fun c4 => ?_) (fun c4 => ?_)
  · refine jv_iload (q := 1556) G 1 dL_law_1554 rfl rfl ?_
    refine jv_if_neN (q := 1559) (tgt := 1571) G dL_law_1556 (by decide) rfl (by omega) (fun c5 => ?_) (fun c5 => ?_)
    · refine jv_goto (q := 2122) G dL_law_1571 (by decide) ?_
      refine jv_lo [2, 3, 4, 5, 6] (lo' := [(4, .int (nI i)), (0, .ref b), (1, .ref (z 6 0)), (2, .ref m), (3, .ref o)]) rfl ?_
      exact kk _ _ _ _ ⟨_, _, f2.R cn_rsh hR1⟩ hM2 ((f2.sh o).trans ho1) (by omega) (by omega)
    · refine jv_aload_n (q := 1560) G 6 dL_law_1559 rfl rfl rfl ?_
      refine jv_iconst (q := 1561) (v := nI 0) G dL_law_1560 (by decide) rfl ?_
      refine jv_lald (q := 1562) G dL_law_1561 ((f2.sh o).trans ho1) rfl (by omega) (by decide) ((f2.l ho1 rfl 0).trans (hL1 c5)) rfl ?_
      refine jv_iload (q := 1564) G 0 dL_law_1562 rfl rfl ?_
      refine jv_i2l (q := 1565) G dL_law_1564 rfl rfl ?_
      refine jv_lcmp (q := 1566) G dL_law_1565 rfl rfl ?_
      refine jv_if_eq (q := 1569) (tgt := 1571) G dL_law_1566 (by decide) rfl (fun c6 => ?_) (fun c6 => ?_)
      · refine jv_goto (q := 2122) G dL_law_1571 (by decide) ?_
        refine jv_lo [2, 3, 4, 5, 6] (lo' := [(4, .int (nI i)), (0, .ref b), (1, .ref (z 6 0)), (2, .ref m), (3, .ref o)]) rfl ?_
        exact kk _ _ _ _ ⟨_, _, f2.R cn_rsh hR1⟩ hM2 ((f2.sh o).trans ho1) (by omega) (by omega)
      · exact absurd (by rw [hr9 c5]; exact lg0 _) c6
  · exact absurd rfl c4
set_option maxHeartbeats 4000000 in
set_option maxRecDepth 100000 in
theorem lc_meets {E : jv_E} {Q : State → Prop} (hlt : (jv_l E).stackTraces = false) (G : jv_C E cL_law RL 7) (Z : jv_rm E = jv_room 1000 601024 7293034) {b L : Nat} {xs : Nat → Int32} (S : lwS E b L xs) {z : Nat → Nat → Nat} {T : Nat → Nat} {N : Nat → Nat → Nat} {tO : Nat → Nat} {h : jv_H} {M : mA} (hR : cl_R z T N tO h M) {m : Nat} {q : Nat → Nat} (hM : rf_R m q h M) {o : Nat} (ho : jv_sh h o = some (.inr (.long, 1))) {i : Nat} (hi : i + 9 ≤ L) (hL : L ≤ 4608) {ce sl : Nat} (hc : ce ≤ 600000) (hs : sl ≤ 7000000) (kk : ∀ h' M' ce' sl', (∃ T N, cl_R z T N tO h' M') → rf_R m q h' M' → jv_sh h' o = some (.inr (.long, 1)) → ce' ≤ ce + 5 → sl' ≤ sl + 30 → jv_V E 7 h' ce' sl' Q 2122 [(4, .int (nI i)), (0, .ref b), (1, .ref (z 6 0)), (2, .ref m), (3, .ref o)] []) : jv_V E 7 h ce sl Q 1574 [(4, .int (nI i)), (0, .ref b), (1, .ref (z 6 0)), (2, .ref m), (3, .ref o)] [] := by
  refine jv_aload_n (q := 1575) G 2 dL_law_1574 rfl rfl rfl ?_
  refine jv_aload_n (q := 1576) G 1 dL_law_1575 rfl rfl rfl ?_
  refine jv_iload (q := 1578) G 0 dL_law_1576 rfl rfl ?_
  refine jv_iconst (q := 1579) (v := nI 1) G dL_law_1578 (by decide) rfl ?_
  refine jv_iaddN (q := 1580) G dL_law_1579 rfl ?_
  refine jv_sld (q := 1581) G S dL_law_1580 (by omega) (by omega) rfl ?_
  refine jv_aload_n (q := 1582) G 1 dL_law_1581 rfl rfl rfl ?_
  refine jv_iload (q := 1584) G 0 dL_law_1582 rfl rfl ?_
  refine jv_iconst (q := 1585) (v := nI 2) G dL_law_1584 (by decide) rfl ?_
  refine jv_iaddN (q := 1586) G dL_law_1585 rfl ?_
  refine jv_sld (q := 1587) G S dL_law_1586 (by omega) (by omega) rfl ?_
  refine jv_aload_n (q := 1588) G 1 dL_law_1587 rfl rfl rfl ?_
  refine jv_iload (q := 1590) G 0 dL_law_1588 rfl rfl ?_
  refine jv_iconst (q := 1591) (v := nI 3) G dL_law_1590 (by decide) rfl ?_
  refine jv_iaddN (q := 1592) G dL_law_1591 rfl ?_
  refine jv_sld (q := 1593) G S dL_law_1592 (by omega) (by omega) rfl ?_
  refine jv_aload_n (q := 1594) G 4 dL_law_1593 rfl rfl rfl ?_
  refine jv_callSH (q := 1597) (As := [.ref (z 6 0), .int (xs (i + 1)), .int (xs (i + 2)), .int (xs (i + 3)), .ref o]) (rest := []) G Z ml_L_162 (w_meets (p0 := (xs (i + 1))) (p1 := (xs (i + 2))) (p2 := (xs (i + 3))) hlt hR ho) dL_law_1594 rfl (by decide) (by decide) (by omega) (by omega) (Nat.le_of_ble_eq_true rfl) rfl rfl (fun v1 h1 y1 => ?_)
  obtain ⟨rfl, hL1, ⟨T1, N1, hR1⟩, f1⟩ := y1
  show jv_V E 7 h1 (ce + 3) (sl + 18) Q 1597 [(4, .int (nI i)), (0, .ref b), (1, .ref (z 6 0)), (2, .ref m), (3, .ref o)] [.int (nI (((m_ceF M (xs (i + 1)) (xs (i + 2)), m_meets M (xs (i + 1)) (xs (i + 2)) (xs (i + 3)), M)).1))]
  have hM1 := hM.sF f1; have ho1 := (f1.sh o).trans ho; have hle := le_meets (M := M) (p0 := (xs (i + 1))) (p1 := (xs (i + 2))) (p2 := (xs (i + 3)))
  have hle : ((m_ceF M (xs (i + 1)) (xs (i + 2)), m_meets M (xs (i + 1)) (xs (i + 2)) (xs (i + 3)), M)).1 ≤ 4 := Nat.le_trans hle (by decide)
  refine jv_istore (q := 1599) (lo' := [(5, .int (nI (((m_ceF M (xs (i + 1)) (xs (i + 2)), m_meets M (xs (i + 1)) (xs (i + 2)) (xs (i + 3)), M)).1))), (4, .int (nI i)), (0, .ref b), (1, .ref (z 6 0)), (2, .ref m), (3, .ref o)]) G dL_law_1597 (by decide) rfl rfl ?_
  refine jv_aload_n (q := 1600) G 4 dL_law_1599 rfl rfl rfl ?_
  refine jv_aload_n (q := 1601) G 2 dL_law_1600 rfl rfl rfl ?_
  refine jv_iload (q := 1603) G 1 dL_law_1601 rfl rfl ?_
  refine jv_iconst (q := 1604) (v := nI 1) G dL_law_1603 (by decide) rfl ?_
  refine jv_iaddN (q := 1605) G dL_law_1604 rfl ?_
  refine jv_sld (q := 1606) G S dL_law_1605 (by omega) (by omega) rfl ?_
  refine jv_aload_n (q := 1607) G 2 dL_law_1606 rfl rfl rfl ?_
  refine jv_iload (q := 1609) G 1 dL_law_1607 rfl rfl ?_
  refine jv_iconst (q := 1610) (v := nI 2) G dL_law_1609 (by decide) rfl ?_
  refine jv_iaddN (q := 1611) G dL_law_1610 rfl ?_
  refine jv_sld (q := 1612) G S dL_law_1611 (by omega) (by omega) rfl ?_
  refine jv_aload_n (q := 1613) G 2 dL_law_1612 rfl rfl rfl ?_
  refine jv_iload (q := 1615) G 1 dL_law_1613 rfl rfl ?_
  refine jv_iconst (q := 1616) (v := nI 3) G dL_law_1615 (by decide) rfl ?_
  refine jv_iaddN (q := 1617) G dL_law_1616 rfl ?_
  refine jv_sld (q := 1618) G S dL_law_1617 (by omega) (by omega) rfl ?_
  refine jv_callV (q := 1621) (As := [.int (xs (i + 1)), .int (xs (i + 2)), .int (xs (i + 3))]) (rest := []) G Z ml_L_164 ((show jv_Met _ _ _ _ _ _ _ _ _ _ (rO m q h1 ((m_ceF M (xs (i + 1)) (xs (i + 2)), m_meets M (xs (i + 1)) (xs (i + 2)) (xs (i + 3)), M))) _ from (r_meets (c := (xs (i + 1))) (e := (xs (i + 2))) (w := (xs (i + 3))) hlt hM1).mono (fun _ _ y => rO_r hM1 y) (fun _ _ y => y))) hM1.1.1 dL_law_1618 rfl (by decide) (by decide) (by omega) (by omega) (Nat.le_of_ble_eq_true rfl) rfl rfl (fun v2 h1 y3 => ?_) (fun _ _ hx => hx.elim)
  obtain ⟨r9, rfl, hr9, hth, hM2, f2⟩ := y3
  show jv_V E 7 h1 (ce + 3) (sl + 18) Q 1621 [(5, .int (nI (((m_ceF M (xs (i + 1)) (xs (i + 2)), m_meets M (xs (i + 1)) (xs (i + 2)) (xs (i + 3)), M)).1))), (4, .int (nI i)), (0, .ref b), (1, .ref (z 6 0)), (2, .ref m), (3, .ref o)] [.int r9]
  refine jv_istore (q := 1623) (lo' := [(6, .int r9), (5, .int (nI (((m_ceF M (xs (i + 1)) (xs (i + 2)), m_meets M (xs (i + 1)) (xs (i + 2)) (xs (i + 3)), M)).1))), (4, .int (nI i)), (0, .ref b), (1, .ref (z 6 0)), (2, .ref m), (3, .ref o)]) G dL_law_1621 (by decide) rfl rfl ?_
  refine jv_aload_n (q := 1624) G 5 dL_law_1623 rfl rfl rfl ?_
  refine jv_callV_I (q := 1627) (h1 := h1) (As := []) (rest := []) (ce' := ce + 3) (sl' := sl + 18) (r := nI (((m_ceF M (xs (i + 1)) (xs (i + 2)), m_meets M (xs (i + 1)) (xs (i + 2)) (xs (i + 3)), M)).1)) G Z ml_L_109 (r_thrown hlt hM2.1 hth) hM2.1.1 dL_law_1624 rfl (by decide) (by decide) (by omega) (by omega) (Nat.le_of_ble_eq_true rfl) rfl rfl rfl rfl ?_
  refine jv_iload (q := 1629) G 1 dL_law_1627 rfl rfl ?_
  refine jv_icmp_eqN (q := 1632) (tgt := 1634) G dL_law_1629 (by decide) rfl (by omega) (by omega) (fun c4 => ?_) (fun c4 => ?_)
  · refine jv_iload (q := 1636) G 1 dL_law_1634 rfl rfl ?_
    refine jv_if_neN (q := 1639) (tgt := 1651) G dL_law_1636 (by decide) rfl (by omega) (fun c5 => ?_) (fun c5 => ?_)
    · refine jv_goto (q := 2122) G dL_law_1651 (by decide) ?_
      refine jv_lo [2, 3, 4, 5, 6] (lo' := [(4, .int (nI i)), (0, .ref b), (1, .ref (z 6 0)), (2, .ref m), (3, .ref o)]) rfl ?_
      exact kk _ _ _ _ ⟨_, _, f2.R cn_rsh hR1⟩ hM2 ((f2.sh o).trans ho1) (by omega) (by omega)
    · refine jv_aload_n (q := 1640) G 6 dL_law_1639 rfl rfl rfl ?_
      refine jv_iconst (q := 1641) (v := nI 0) G dL_law_1640 (by decide) rfl ?_
      refine jv_lald (q := 1642) G dL_law_1641 ((f2.sh o).trans ho1) rfl (by omega) (by decide) ((f2.l ho1 rfl 0).trans (hL1 c5)) rfl ?_
      refine jv_iload (q := 1644) G 0 dL_law_1642 rfl rfl ?_
      refine jv_i2l (q := 1645) G dL_law_1644 rfl rfl ?_
      refine jv_lcmp (q := 1646) G dL_law_1645 rfl rfl ?_
      refine jv_if_eq (q := 1649) (tgt := 1651) G dL_law_1646 (by decide) rfl (fun c6 => ?_) (fun c6 => ?_)
      · refine jv_goto (q := 2122) G dL_law_1651 (by decide) ?_
        refine jv_lo [2, 3, 4, 5, 6] (lo' := [(4, .int (nI i)), (0, .ref b), (1, .ref (z 6 0)), (2, .ref m), (3, .ref o)]) rfl ?_
        exact kk _ _ _ _ ⟨_, _, f2.R cn_rsh hR1⟩ hM2 ((f2.sh o).trans ho1) (by omega) (by omega)
      · exact absurd (by rw [hr9 c5]; exact lg0 _) c6
  · exact absurd rfl c4
set_option maxHeartbeats 4000000 in
set_option maxRecDepth 100000 in
theorem lc_best {E : jv_E} {Q : State → Prop} (hlt : (jv_l E).stackTraces = false) (G : jv_C E cL_law RL 7) (Z : jv_rm E = jv_room 1000 601024 7293034) {b L : Nat} {xs : Nat → Int32} (S : lwS E b L xs) {z : Nat → Nat → Nat} {T : Nat → Nat} {N : Nat → Nat → Nat} {tO : Nat → Nat} {h : jv_H} {M : mA} (hR : cl_R z T N tO h M) {m : Nat} {q : Nat → Nat} (hM : rf_R m q h M) {o : Nat} (ho : jv_sh h o = some (.inr (.long, 1))) {i : Nat} (hi : i + 9 ≤ L) (hL : L ≤ 4608) {ce sl : Nat} (hc : ce ≤ 600000) (hs : sl ≤ 7000000) (kk : ∀ h' M' ce' sl', (∃ T N, cl_R z T N tO h' M') → rf_R m q h' M' → jv_sh h' o = some (.inr (.long, 1)) → ce' ≤ ce + 5 → sl' ≤ sl + 30 → jv_V E 7 h' ce' sl' Q 2122 [(4, .int (nI i)), (0, .ref b), (1, .ref (z 6 0)), (2, .ref m), (3, .ref o)] []) : jv_V E 7 h ce sl Q 1654 [(4, .int (nI i)), (0, .ref b), (1, .ref (z 6 0)), (2, .ref m), (3, .ref o)] [] := by
  refine jv_aload_n (q := 1655) G 2 dL_law_1654 rfl rfl rfl ?_
  refine jv_aload_n (q := 1656) G 1 dL_law_1655 rfl rfl rfl ?_
  refine jv_iload (q := 1658) G 0 dL_law_1656 rfl rfl ?_
  refine jv_iconst (q := 1659) (v := nI 1) G dL_law_1658 (by decide) rfl ?_
  refine jv_iaddN (q := 1660) G dL_law_1659 rfl ?_
  refine jv_sld (q := 1661) G S dL_law_1660 (by omega) (by omega) rfl ?_
  refine jv_aload_n (q := 1662) G 1 dL_law_1661 rfl rfl rfl ?_
  refine jv_iload (q := 1664) G 0 dL_law_1662 rfl rfl ?_
  refine jv_iconst (q := 1665) (v := nI 2) G dL_law_1664 (by decide) rfl ?_
  refine jv_iaddN (q := 1666) G dL_law_1665 rfl ?_
  refine jv_sld (q := 1667) G S dL_law_1666 (by omega) (by omega) rfl ?_
  refine jv_if_eq (q := 1670) (tgt := 1674) G dL_law_1667 (by decide) rfl (fun c1 => ?_) (fun c1 => ?_)
  · refine jv_iconst (q := 1675) (v := nI 0) G dL_law_1674 (by decide) rfl ?_
    refine jv_aload_n (q := 1676) G 4 dL_law_1675 rfl rfl rfl ?_
    refine jv_callSH (q := 1679) (As := [.ref (z 6 0), .int (xs (i + 1)), .int (nI 0), .ref o]) (rest := []) G Z ml_L_165 (w_best (p0 := (xs (i + 1))) (p1 := false) hlt hR ho) dL_law_1676 rfl (by decide) (by decide) (by omega) (by omega) (Nat.le_of_ble_eq_true rfl) rfl rfl (fun v1 h1 y1 => ?_)
    obtain ⟨rfl, hL1, ⟨T1, N1, hR1⟩, f1⟩ := y1
    show jv_V E 7 h1 (ce + 1) (sl + 6) Q 1679 [(4, .int (nI i)), (0, .ref b), (1, .ref (z 6 0)), (2, .ref m), (3, .ref o)] [.int (nI (((m_cF M (xs (i + 1)), m_best M (xs (i + 1)) false, M)).1))]
    have hM1 := hM.sF f1; have ho1 := (f1.sh o).trans ho; have hle := le_best (M := M) (p0 := (xs (i + 1))) (p1 := false)
    have hle : ((m_cF M (xs (i + 1)), m_best M (xs (i + 1)) false, M)).1 ≤ 4 := Nat.le_trans hle (by decide)
    refine jv_istore (q := 1681) (lo' := [(5, .int (nI (((m_cF M (xs (i + 1)), m_best M (xs (i + 1)) false, M)).1))), (4, .int (nI i)), (0, .ref b), (1, .ref (z 6 0)), (2, .ref m), (3, .ref o)]) G dL_law_1679 (by decide) rfl rfl ?_
    refine jv_aload_n (q := 1682) G 4 dL_law_1681 rfl rfl rfl ?_
    refine jv_aload_n (q := 1683) G 2 dL_law_1682 rfl rfl rfl ?_
    refine jv_iload (q := 1685) G 1 dL_law_1683 rfl rfl ?_
    refine jv_iconst (q := 1686) (v := nI 1) G dL_law_1685 (by decide) rfl ?_
    refine jv_iaddN (q := 1687) G dL_law_1686 rfl ?_
    refine jv_sld (q := 1688) G S dL_law_1687 (by omega) (by omega) rfl ?_
    refine jv_aload_n (q := 1689) G 2 dL_law_1688 rfl rfl rfl ?_
    refine jv_iload (q := 1691) G 1 dL_law_1689 rfl rfl ?_
    refine jv_iconst (q := 1692) (v := nI 2) G dL_law_1691 (by decide) rfl ?_
    refine jv_iaddN (q := 1693) G dL_law_1692 rfl ?_
    refine jv_sld (q := 1694) G S dL_law_1693 (by omega) (by omega) rfl ?_
    refine jv_if_eq (q := 1697) (tgt := 1701) G dL_law_1694 (by decide) rfl (fun c2 => ?_) (fun c2 => ?_)
    · refine jv_iconst (q := 1702) (v := nI 0) G dL_law_1701 (by decide) rfl ?_
      refine jv_callV (q := 1705) (As := [.int (xs (i + 1)), .int (nI 0)]) (rest := []) G Z ml_L_168 ((show jv_Met _ _ _ _ _ _ _ _ _ _ (rO m q h1 ((m_cF M (xs (i + 1)), m_best M (xs (i + 1)) false, M))) _ from (r_best (c := (xs (i + 1))) (old := false) hlt hM1).mono (fun _ _ y => rO_r hM1 y) (fun _ _ y => y))) hM1.1.1 dL_law_1702 rfl (by decide) (by decide) (by omega) (by omega) (Nat.le_of_ble_eq_true rfl) rfl rfl (fun v4 h3 y5 => ?_) (fun _ _ hx => hx.elim)
      obtain ⟨r9, rfl, hr9, hth, hM2, f2⟩ := y5
      show jv_V E 7 h3 (ce + 1) (sl + 6) Q 1705 [(5, .int (nI (((m_cF M (xs (i + 1)), m_best M (xs (i + 1)) false, M)).1))), (4, .int (nI i)), (0, .ref b), (1, .ref (z 6 0)), (2, .ref m), (3, .ref o)] [.int r9]
      refine jv_istore (q := 1707) (lo' := [(6, .int r9), (5, .int (nI (((m_cF M (xs (i + 1)), m_best M (xs (i + 1)) false, M)).1))), (4, .int (nI i)), (0, .ref b), (1, .ref (z 6 0)), (2, .ref m), (3, .ref o)]) G dL_law_1705 (by decide) rfl rfl ?_
      refine jv_aload_n (q := 1708) G 5 dL_law_1707 rfl rfl rfl ?_
      refine jv_callV_I (q := 1711) (h1 := h3) (As := []) (rest := []) (ce' := ce + 1) (sl' := sl + 6) (r := nI (((m_cF M (xs (i + 1)), m_best M (xs (i + 1)) false, M)).1)) G Z ml_L_109 (r_thrown hlt hM2.1 hth) hM2.1.1 dL_law_1708 rfl (by decide) (by decide) (by omega) (by omega) (Nat.le_of_ble_eq_true rfl) rfl rfl rfl rfl ?_
      refine jv_iload (q := 1713) G 1 dL_law_1711 rfl rfl ?_
      refine jv_icmp_eqN (q := 1716) (tgt := 1718) G dL_law_1713 (by decide) rfl (by omega) (by omega) (fun c6 => ?_) (fun c6 => ?_)
      · refine jv_iload (q := 1720) G 1 dL_law_1718 rfl rfl ?_
        refine jv_if_neN (q := 1723) (tgt := 1735) G dL_law_1720 (by decide) rfl (by omega) (fun c7 => ?_) (fun c7 => ?_)
        · refine jv_goto (q := 2122) G dL_law_1735 (by decide) ?_
          refine jv_lo [2, 3, 4, 5, 6] (lo' := [(4, .int (nI i)), (0, .ref b), (1, .ref (z 6 0)), (2, .ref m), (3, .ref o)]) rfl ?_
          exact kk _ _ _ _ ⟨_, _, f2.R cn_rsh hR1⟩ hM2 ((f2.sh o).trans ho1) (by omega) (by omega)
        · refine jv_aload_n (q := 1724) G 6 dL_law_1723 rfl rfl rfl ?_
          refine jv_iconst (q := 1725) (v := nI 0) G dL_law_1724 (by decide) rfl ?_
          refine jv_lald (q := 1726) G dL_law_1725 ((f2.sh o).trans ho1) rfl (by omega) (by decide) ((f2.l ho1 rfl 0).trans (hL1 c7)) rfl ?_
          refine jv_iload (q := 1728) G 0 dL_law_1726 rfl rfl ?_
          refine jv_i2l (q := 1729) G dL_law_1728 rfl rfl ?_
          refine jv_lcmp (q := 1730) G dL_law_1729 rfl rfl ?_
          refine jv_if_eq (q := 1733) (tgt := 1735) G dL_law_1730 (by decide) rfl (fun c8 => ?_) (fun c8 => ?_)
          · refine jv_goto (q := 2122) G dL_law_1735 (by decide) ?_
            refine jv_lo [2, 3, 4, 5, 6] (lo' := [(4, .int (nI i)), (0, .ref b), (1, .ref (z 6 0)), (2, .ref m), (3, .ref o)]) rfl ?_
            exact kk _ _ _ _ ⟨_, _, f2.R cn_rsh hR1⟩ hM2 ((f2.sh o).trans ho1) (by omega) (by omega)
          · exact absurd (by rw [hr9 c7]; exact lg0 _) c8
      · exact absurd rfl c6
    · exact absurd c1 c2
  · refine jv_iconst (q := 1671) (v := nI 1) G dL_law_1670 (by decide) rfl ?_
    refine jv_goto (q := 1675) G dL_law_1671 (by decide) ?_
    refine jv_aload_n (q := 1676) G 4 dL_law_1675 rfl rfl rfl ?_
    refine jv_callSH (q := 1679) (As := [.ref (z 6 0), .int (xs (i + 1)), .int (nI 1), .ref o]) (rest := []) G Z ml_L_165 (w_best (p0 := (xs (i + 1))) (p1 := true) hlt hR ho) dL_law_1676 rfl (by decide) (by decide) (by omega) (by omega) (Nat.le_of_ble_eq_true rfl) rfl rfl (fun v1 h1 y1 => ?_)
    obtain ⟨rfl, hL1, ⟨T1, N1, hR1⟩, f1⟩ := y1
    show jv_V E 7 h1 (ce + 1) (sl + 6) Q 1679 [(4, .int (nI i)), (0, .ref b), (1, .ref (z 6 0)), (2, .ref m), (3, .ref o)] [.int (nI (((m_cF M (xs (i + 1)), m_best M (xs (i + 1)) true, M)).1))]
    have hM1 := hM.sF f1; have ho1 := (f1.sh o).trans ho; have hle := le_best (M := M) (p0 := (xs (i + 1))) (p1 := true)
    have hle : ((m_cF M (xs (i + 1)), m_best M (xs (i + 1)) true, M)).1 ≤ 4 := Nat.le_trans hle (by decide)
    refine jv_istore (q := 1681) (lo' := [(5, .int (nI (((m_cF M (xs (i + 1)), m_best M (xs (i + 1)) true, M)).1))), (4, .int (nI i)), (0, .ref b), (1, .ref (z 6 0)), (2, .ref m), (3, .ref o)]) G dL_law_1679 (by decide) rfl rfl ?_
    refine jv_aload_n (q := 1682) G 4 dL_law_1681 rfl rfl rfl ?_
    refine jv_aload_n (q := 1683) G 2 dL_law_1682 rfl rfl rfl ?_
    refine jv_iload (q := 1685) G 1 dL_law_1683 rfl rfl ?_
    refine jv_iconst (q := 1686) (v := nI 1) G dL_law_1685 (by decide) rfl ?_
    refine jv_iaddN (q := 1687) G dL_law_1686 rfl ?_
    refine jv_sld (q := 1688) G S dL_law_1687 (by omega) (by omega) rfl ?_
    refine jv_aload_n (q := 1689) G 2 dL_law_1688 rfl rfl rfl ?_
    refine jv_iload (q := 1691) G 1 dL_law_1689 rfl rfl ?_
    refine jv_iconst (q := 1692) (v := nI 2) G dL_law_1691 (by decide) rfl ?_
    refine jv_iaddN (q := 1693) G dL_law_1692 rfl ?_
    refine jv_sld (q := 1694) G S dL_law_1693 (by omega) (by omega) rfl ?_
    refine jv_if_eq (q := 1697) (tgt := 1701) G dL_law_1694 (by decide) rfl (fun c9 => ?_) (fun c9 => ?_)
    · exact absurd c9 c1
    · refine jv_iconst (q := 1698) (v := nI 1) G dL_law_1697 (by decide) rfl ?_
      refine jv_goto (q := 1702) G dL_law_1698 (by decide) ?_
      refine jv_callV (q := 1705) (As := [.int (xs (i + 1)), .int (nI 1)]) (rest := []) G Z ml_L_168 ((show jv_Met _ _ _ _ _ _ _ _ _ _ (rO m q h1 ((m_cF M (xs (i + 1)), m_best M (xs (i + 1)) true, M))) _ from (r_best (c := (xs (i + 1))) (old := true) hlt hM1).mono (fun _ _ y => rO_r hM1 y) (fun _ _ y => y))) hM1.1.1 dL_law_1702 rfl (by decide) (by decide) (by omega) (by omega) (Nat.le_of_ble_eq_true rfl) rfl rfl (fun v11 h10 y12 => ?_) (fun _ _ hx => hx.elim)
      obtain ⟨r9, rfl, hr9, hth, hM2, f2⟩ := y12
      show jv_V E 7 h10 (ce + 1) (sl + 6) Q 1705 [(5, .int (nI (((m_cF M (xs (i + 1)), m_best M (xs (i + 1)) true, M)).1))), (4, .int (nI i)), (0, .ref b), (1, .ref (z 6 0)), (2, .ref m), (3, .ref o)] [.int r9]
      refine jv_istore (q := 1707) (lo' := [(6, .int r9), (5, .int (nI (((m_cF M (xs (i + 1)), m_best M (xs (i + 1)) true, M)).1))), (4, .int (nI i)), (0, .ref b), (1, .ref (z 6 0)), (2, .ref m), (3, .ref o)]) G dL_law_1705 (by decide) rfl rfl ?_
      refine jv_aload_n (q := 1708) G 5 dL_law_1707 rfl rfl rfl ?_
      refine jv_callV_I (q := 1711) (h1 := h10) (As := []) (rest := []) (ce' := ce + 1) (sl' := sl + 6) (r := nI (((m_cF M (xs (i + 1)), m_best M (xs (i + 1)) true, M)).1)) G Z ml_L_109 (r_thrown hlt hM2.1 hth) hM2.1.1 dL_law_1708 rfl (by decide) (by decide) (by omega) (by omega) (Nat.le_of_ble_eq_true rfl) rfl rfl rfl rfl ?_
      refine jv_iload (q := 1713) G 1 dL_law_1711 rfl rfl ?_
      refine jv_icmp_eqN (q := 1716) (tgt := 1718) G dL_law_1713 (by decide) rfl (by omega) (by omega) (fun c13 => ?_) (fun c13 => ?_)
      · refine jv_iload (q := 1720) G 1 dL_law_1718 rfl rfl ?_
        refine jv_if_neN (q := 1723) (tgt := 1735) G dL_law_1720 (by decide) rfl (by omega) (fun c14 => ?_) (fun c14 => ?_)
        · refine jv_goto (q := 2122) G dL_law_1735 (by decide) ?_
          refine jv_lo [2, 3, 4, 5, 6] (lo' := [(4, .int (nI i)), (0, .ref b), (1, .ref (z 6 0)), (2, .ref m), (3, .ref o)]) rfl ?_
          exact kk _ _ _ _ ⟨_, _, f2.R cn_rsh hR1⟩ hM2 ((f2.sh o).trans ho1) (by omega) (by omega)
        · refine jv_aload_n (q := 1724) G 6 dL_law_1723 rfl rfl rfl ?_
          refine jv_iconst (q := 1725) (v := nI 0) G dL_law_1724 (by decide) rfl ?_
          refine jv_lald (q := 1726) G dL_law_1725 ((f2.sh o).trans ho1) rfl (by omega) (by decide) ((f2.l ho1 rfl 0).trans (hL1 c14)) rfl ?_
          refine jv_iload (q := 1728) G 0 dL_law_1726 rfl rfl ?_
          refine jv_i2l (q := 1729) G dL_law_1728 rfl rfl ?_
          refine jv_lcmp (q := 1730) G dL_law_1729 rfl rfl ?_
          refine jv_if_eq (q := 1733) (tgt := 1735) G dL_law_1730 (by decide) rfl (fun c15 => ?_) (fun c15 => ?_)
          · refine jv_goto (q := 2122) G dL_law_1735 (by decide) ?_
            refine jv_lo [2, 3, 4, 5, 6] (lo' := [(4, .int (nI i)), (0, .ref b), (1, .ref (z 6 0)), (2, .ref m), (3, .ref o)]) rfl ?_
            exact kk _ _ _ _ ⟨_, _, f2.R cn_rsh hR1⟩ hM2 ((f2.sh o).trans ho1) (by omega) (by omega)
          · exact absurd (by rw [hr9 c14]; exact lg0 _) c15
      · exact absurd rfl c13
set_option maxHeartbeats 4000000 in
set_option maxRecDepth 100000 in
theorem lc_differ {E : jv_E} {Q : State → Prop} (hlt : (jv_l E).stackTraces = false) (G : jv_C E cL_law RL 7) (Z : jv_rm E = jv_room 1000 601024 7293034) {b L : Nat} {xs : Nat → Int32} (S : lwS E b L xs) {z : Nat → Nat → Nat} {T : Nat → Nat} {N : Nat → Nat → Nat} {tO : Nat → Nat} {h : jv_H} {M : mA} (hR : cl_R z T N tO h M) {m : Nat} {q : Nat → Nat} (hM : rf_R m q h M) {o : Nat} (ho : jv_sh h o = some (.inr (.long, 1))) {i : Nat} (hi : i + 9 ≤ L) (hL : L ≤ 4608) {ce sl : Nat} (hc : ce ≤ 600000) (hs : sl ≤ 7000000) (kk : ∀ h' M' ce' sl', (∃ T N, cl_R z T N tO h' M') → rf_R m q h' M' → jv_sh h' o = some (.inr (.long, 1)) → ce' ≤ ce + 5 → sl' ≤ sl + 30 → jv_V E 7 h' ce' sl' Q 2122 [(4, .int (nI i)), (0, .ref b), (1, .ref (z 6 0)), (2, .ref m), (3, .ref o)] []) : jv_V E 7 h ce sl Q 1738 [(4, .int (nI i)), (0, .ref b), (1, .ref (z 6 0)), (2, .ref m), (3, .ref o)] [] := by
  refine jv_aload_n (q := 1739) G 2 dL_law_1738 rfl rfl rfl ?_
  refine jv_aload_n (q := 1740) G 1 dL_law_1739 rfl rfl rfl ?_
  refine jv_iload (q := 1742) G 0 dL_law_1740 rfl rfl ?_
  refine jv_iconst (q := 1743) (v := nI 1) G dL_law_1742 (by decide) rfl ?_
  refine jv_iaddN (q := 1744) G dL_law_1743 rfl ?_
  refine jv_sld (q := 1745) G S dL_law_1744 (by omega) (by omega) rfl ?_
  refine jv_aload_n (q := 1746) G 1 dL_law_1745 rfl rfl rfl ?_
  refine jv_iload (q := 1748) G 0 dL_law_1746 rfl rfl ?_
  refine jv_iconst (q := 1749) (v := nI 2) G dL_law_1748 (by decide) rfl ?_
  refine jv_iaddN (q := 1750) G dL_law_1749 rfl ?_
  refine jv_sld (q := 1751) G S dL_law_1750 (by omega) (by omega) rfl ?_
  refine jv_aload_n (q := 1752) G 4 dL_law_1751 rfl rfl rfl ?_
  refine jv_callSH (q := 1755) (As := [.ref (z 6 0), .int (xs (i + 1)), .int (xs (i + 2)), .ref o]) (rest := []) G Z ml_L_169 (w_differ (p0 := (xs (i + 1))) (p1 := (xs (i + 2))) hlt hR ho) dL_law_1752 rfl (by decide) (by decide) (by omega) (by omega) (Nat.le_of_ble_eq_true rfl) rfl rfl (fun v1 h1 y1 => ?_)
  obtain ⟨rfl, hL1, ⟨T1, N1, hR1⟩, f1⟩ := y1
  show jv_V E 7 h1 (ce + 4) (sl + 24) Q 1755 [(4, .int (nI i)), (0, .ref b), (1, .ref (z 6 0)), (2, .ref m), (3, .ref o)] [.int (nI (((m_paF M (xs (i + 1)) (xs (i + 2)), m_differ M (xs (i + 1)) (xs (i + 2)), M)).1))]
  have hM1 := hM.sF f1; have ho1 := (f1.sh o).trans ho; have hle := le_differ (M := M) (p0 := (xs (i + 1))) (p1 := (xs (i + 2)))
  have hle : ((m_paF M (xs (i + 1)) (xs (i + 2)), m_differ M (xs (i + 1)) (xs (i + 2)), M)).1 ≤ 4 := Nat.le_trans hle (by decide)
  refine jv_istore (q := 1757) (lo' := [(5, .int (nI (((m_paF M (xs (i + 1)) (xs (i + 2)), m_differ M (xs (i + 1)) (xs (i + 2)), M)).1))), (4, .int (nI i)), (0, .ref b), (1, .ref (z 6 0)), (2, .ref m), (3, .ref o)]) G dL_law_1755 (by decide) rfl rfl ?_
  refine jv_aload_n (q := 1758) G 4 dL_law_1757 rfl rfl rfl ?_
  refine jv_aload_n (q := 1759) G 2 dL_law_1758 rfl rfl rfl ?_
  refine jv_iload (q := 1761) G 1 dL_law_1759 rfl rfl ?_
  refine jv_iconst (q := 1762) (v := nI 1) G dL_law_1761 (by decide) rfl ?_
  refine jv_iaddN (q := 1763) G dL_law_1762 rfl ?_
  refine jv_sld (q := 1764) G S dL_law_1763 (by omega) (by omega) rfl ?_
  refine jv_aload_n (q := 1765) G 2 dL_law_1764 rfl rfl rfl ?_
  refine jv_iload (q := 1767) G 1 dL_law_1765 rfl rfl ?_
  refine jv_iconst (q := 1768) (v := nI 2) G dL_law_1767 (by decide) rfl ?_
  refine jv_iaddN (q := 1769) G dL_law_1768 rfl ?_
  refine jv_sld (q := 1770) G S dL_law_1769 (by omega) (by omega) rfl ?_
  refine jv_callV (q := 1773) (As := [.int (xs (i + 1)), .int (xs (i + 2))]) (rest := []) G Z ml_L_171 ((show jv_Met _ _ _ _ _ _ _ _ _ _ (rO m q h1 ((m_paF M (xs (i + 1)) (xs (i + 2)), m_differ M (xs (i + 1)) (xs (i + 2)), M))) _ from (r_differ (a := (xs (i + 1))) (b := (xs (i + 2))) hlt (uqs hR).1 (uqs hR).2 hM1).mono (fun _ _ y => rO_r hM1 y) (fun _ _ y => y))) hM1.1.1 dL_law_1770 rfl (by decide) (by decide) (by omega) (by omega) (Nat.le_of_ble_eq_true rfl) rfl rfl (fun v2 h1 y3 => ?_) (fun _ _ hx => hx.elim)
  obtain ⟨r9, rfl, hr9, hth, hM2, f2⟩ := y3
  show jv_V E 7 h1 (ce + 4) (sl + 24) Q 1773 [(5, .int (nI (((m_paF M (xs (i + 1)) (xs (i + 2)), m_differ M (xs (i + 1)) (xs (i + 2)), M)).1))), (4, .int (nI i)), (0, .ref b), (1, .ref (z 6 0)), (2, .ref m), (3, .ref o)] [.int r9]
  refine jv_istore (q := 1775) (lo' := [(6, .int r9), (5, .int (nI (((m_paF M (xs (i + 1)) (xs (i + 2)), m_differ M (xs (i + 1)) (xs (i + 2)), M)).1))), (4, .int (nI i)), (0, .ref b), (1, .ref (z 6 0)), (2, .ref m), (3, .ref o)]) G dL_law_1773 (by decide) rfl rfl ?_
  refine jv_aload_n (q := 1776) G 5 dL_law_1775 rfl rfl rfl ?_
  refine jv_callV_I (q := 1779) (h1 := h1) (As := []) (rest := []) (ce' := ce + 4) (sl' := sl + 24) (r := nI (((m_paF M (xs (i + 1)) (xs (i + 2)), m_differ M (xs (i + 1)) (xs (i + 2)), M)).1)) G Z ml_L_109 (r_thrown hlt hM2.1 hth) hM2.1.1 dL_law_1776 rfl (by decide) (by decide) (by omega) (by omega) (Nat.le_of_ble_eq_true rfl) rfl rfl rfl rfl ?_
  refine jv_iload (q := 1781) G 1 dL_law_1779 rfl rfl ?_
  refine jv_icmp_eqN (q := 1784) (tgt := 1786) G dL_law_1781 (by decide) rfl (by omega) (by omega) (fun c4 => ?_) (fun c4 => ?_)
  · refine jv_iload (q := 1788) G 1 dL_law_1786 rfl rfl ?_
    refine jv_if_neN (q := 1791) (tgt := 1803) G dL_law_1788 (by decide) rfl (by omega) (fun c5 => ?_) (fun c5 => ?_)
    · refine jv_goto (q := 2122) G dL_law_1803 (by decide) ?_
      refine jv_lo [2, 3, 4, 5, 6] (lo' := [(4, .int (nI i)), (0, .ref b), (1, .ref (z 6 0)), (2, .ref m), (3, .ref o)]) rfl ?_
      exact kk _ _ _ _ ⟨_, _, f2.R cn_rsh hR1⟩ hM2 ((f2.sh o).trans ho1) (by omega) (by omega)
    · refine jv_aload_n (q := 1792) G 6 dL_law_1791 rfl rfl rfl ?_
      refine jv_iconst (q := 1793) (v := nI 0) G dL_law_1792 (by decide) rfl ?_
      refine jv_lald (q := 1794) G dL_law_1793 ((f2.sh o).trans ho1) rfl (by omega) (by decide) ((f2.l ho1 rfl 0).trans (hL1 c5)) rfl ?_
      refine jv_iload (q := 1796) G 0 dL_law_1794 rfl rfl ?_
      refine jv_i2l (q := 1797) G dL_law_1796 rfl rfl ?_
      refine jv_lcmp (q := 1798) G dL_law_1797 rfl rfl ?_
      refine jv_if_eq (q := 1801) (tgt := 1803) G dL_law_1798 (by decide) rfl (fun c6 => ?_) (fun c6 => ?_)
      · refine jv_goto (q := 2122) G dL_law_1803 (by decide) ?_
        refine jv_lo [2, 3, 4, 5, 6] (lo' := [(4, .int (nI i)), (0, .ref b), (1, .ref (z 6 0)), (2, .ref m), (3, .ref o)]) rfl ?_
        exact kk _ _ _ _ ⟨_, _, f2.R cn_rsh hR1⟩ hM2 ((f2.sh o).trans ho1) (by omega) (by omega)
      · exact absurd (by rw [hr9 c5]; exact lg0 _) c6
  · exact absurd rfl c4
set_option maxHeartbeats 4000000 in
set_option maxRecDepth 100000 in
theorem lc_difference {E : jv_E} {Q : State → Prop} (hlt : (jv_l E).stackTraces = false) (G : jv_C E cL_law RL 7) (Z : jv_rm E = jv_room 1000 601024 7293034) {b L : Nat} {xs : Nat → Int32} (S : lwS E b L xs) {z : Nat → Nat → Nat} {T : Nat → Nat} {N : Nat → Nat → Nat} {tO : Nat → Nat} {h : jv_H} {M : mA} (hR : cl_R z T N tO h M) {m : Nat} {q : Nat → Nat} (hM : rf_R m q h M) {o : Nat} (ho : jv_sh h o = some (.inr (.long, 1))) {i : Nat} (hi : i + 9 ≤ L) (hL : L ≤ 4608) {ce sl : Nat} (hc : ce ≤ 600000) (hs : sl ≤ 7000000) (kk : ∀ h' M' ce' sl', (∃ T N, cl_R z T N tO h' M') → rf_R m q h' M' → jv_sh h' o = some (.inr (.long, 1)) → ce' ≤ ce + 5 → sl' ≤ sl + 30 → jv_V E 7 h' ce' sl' Q 2122 [(4, .int (nI i)), (0, .ref b), (1, .ref (z 6 0)), (2, .ref m), (3, .ref o)] []) : jv_V E 7 h ce sl Q 1806 [(4, .int (nI i)), (0, .ref b), (1, .ref (z 6 0)), (2, .ref m), (3, .ref o)] [] := by
  refine jv_aload_n (q := 1807) G 2 dL_law_1806 rfl rfl rfl ?_
  refine jv_aload_n (q := 1808) G 1 dL_law_1807 rfl rfl rfl ?_
  refine jv_iload (q := 1810) G 0 dL_law_1808 rfl rfl ?_
  refine jv_iconst (q := 1811) (v := nI 1) G dL_law_1810 (by decide) rfl ?_
  refine jv_iaddN (q := 1812) G dL_law_1811 rfl ?_
  refine jv_sld (q := 1813) G S dL_law_1812 (by omega) (by omega) rfl ?_
  refine jv_aload_n (q := 1814) G 1 dL_law_1813 rfl rfl rfl ?_
  refine jv_iload (q := 1816) G 0 dL_law_1814 rfl rfl ?_
  refine jv_iconst (q := 1817) (v := nI 2) G dL_law_1816 (by decide) rfl ?_
  refine jv_iaddN (q := 1818) G dL_law_1817 rfl ?_
  refine jv_sld (q := 1819) G S dL_law_1818 (by omega) (by omega) rfl ?_
  refine jv_aload_n (q := 1820) G 1 dL_law_1819 rfl rfl rfl ?_
  refine jv_iload (q := 1822) G 0 dL_law_1820 rfl rfl ?_
  refine jv_iconst (q := 1823) (v := nI 3) G dL_law_1822 (by decide) rfl ?_
  refine jv_iaddN (q := 1824) G dL_law_1823 rfl ?_
  refine jv_sld (q := 1825) G S dL_law_1824 (by omega) (by omega) rfl ?_
  refine jv_aload_n (q := 1826) G 1 dL_law_1825 rfl rfl rfl ?_
  refine jv_iload (q := 1828) G 0 dL_law_1826 rfl rfl ?_
  refine jv_iconst (q := 1829) (v := nI 4) G dL_law_1828 (by decide) rfl ?_
  refine jv_iaddN (q := 1830) G dL_law_1829 rfl ?_
  refine jv_sld (q := 1831) G S dL_law_1830 (by omega) (by omega) rfl ?_
  refine jv_aload_n (q := 1832) G 4 dL_law_1831 rfl rfl rfl ?_
  refine jv_callSH (q := 1835) (As := [.ref (z 6 0), .int (xs (i + 1)), .int (xs (i + 2)), .int (xs (i + 3)), .int (xs (i + 4)), .ref o]) (rest := []) G Z ml_L_172 (w_difference (p0 := (xs (i + 1))) (p1 := (xs (i + 2))) (p2 := (xs (i + 3))) (p3 := (xs (i + 4))) hlt hR ho) dL_law_1832 rfl (by decide) (by decide) (by omega) (by omega) (Nat.le_of_ble_eq_true rfl) rfl rfl (fun v1 h1 y1 => ?_)
  obtain ⟨rfl, hL1, ⟨T1, N1, hR1⟩, f1⟩ := y1
  show jv_V E 7 h1 (ce + 5) (sl + 30) Q 1835 [(4, .int (nI i)), (0, .ref b), (1, .ref (z 6 0)), (2, .ref m), (3, .ref o)] [.int (nI (((m_dcF M (xs (i + 1)) (xs (i + 2)) (xs (i + 3)) (xs (i + 4)), m_dce M (xs (i + 1)) (xs (i + 2)) (xs (i + 3)) (xs (i + 4)), M)).1))]
  have hM1 := hM.sF f1; have ho1 := (f1.sh o).trans ho; have hle := le_difference (M := M) (p0 := (xs (i + 1))) (p1 := (xs (i + 2))) (p2 := (xs (i + 3))) (p3 := (xs (i + 4)))
  have hle : ((m_dcF M (xs (i + 1)) (xs (i + 2)) (xs (i + 3)) (xs (i + 4)), m_dce M (xs (i + 1)) (xs (i + 2)) (xs (i + 3)) (xs (i + 4)), M)).1 ≤ 4 := Nat.le_trans hle (by decide)
  refine jv_istore (q := 1837) (lo' := [(5, .int (nI (((m_dcF M (xs (i + 1)) (xs (i + 2)) (xs (i + 3)) (xs (i + 4)), m_dce M (xs (i + 1)) (xs (i + 2)) (xs (i + 3)) (xs (i + 4)), M)).1))), (4, .int (nI i)), (0, .ref b), (1, .ref (z 6 0)), (2, .ref m), (3, .ref o)]) G dL_law_1835 (by decide) rfl rfl ?_
  refine jv_aload_n (q := 1838) G 4 dL_law_1837 rfl rfl rfl ?_
  refine jv_aload_n (q := 1839) G 2 dL_law_1838 rfl rfl rfl ?_
  refine jv_iload (q := 1841) G 1 dL_law_1839 rfl rfl ?_
  refine jv_iconst (q := 1842) (v := nI 1) G dL_law_1841 (by decide) rfl ?_
  refine jv_iaddN (q := 1843) G dL_law_1842 rfl ?_
  refine jv_sld (q := 1844) G S dL_law_1843 (by omega) (by omega) rfl ?_
  refine jv_aload_n (q := 1845) G 2 dL_law_1844 rfl rfl rfl ?_
  refine jv_iload (q := 1847) G 1 dL_law_1845 rfl rfl ?_
  refine jv_iconst (q := 1848) (v := nI 2) G dL_law_1847 (by decide) rfl ?_
  refine jv_iaddN (q := 1849) G dL_law_1848 rfl ?_
  refine jv_sld (q := 1850) G S dL_law_1849 (by omega) (by omega) rfl ?_
  refine jv_aload_n (q := 1851) G 2 dL_law_1850 rfl rfl rfl ?_
  refine jv_iload (q := 1853) G 1 dL_law_1851 rfl rfl ?_
  refine jv_iconst (q := 1854) (v := nI 3) G dL_law_1853 (by decide) rfl ?_
  refine jv_iaddN (q := 1855) G dL_law_1854 rfl ?_
  refine jv_sld (q := 1856) G S dL_law_1855 (by omega) (by omega) rfl ?_
  refine jv_aload_n (q := 1857) G 2 dL_law_1856 rfl rfl rfl ?_
  refine jv_iload (q := 1859) G 1 dL_law_1857 rfl rfl ?_
  refine jv_iconst (q := 1860) (v := nI 4) G dL_law_1859 (by decide) rfl ?_
  refine jv_iaddN (q := 1861) G dL_law_1860 rfl ?_
  refine jv_sld (q := 1862) G S dL_law_1861 (by omega) (by omega) rfl ?_
  refine jv_callV (q := 1865) (As := [.int (xs (i + 1)), .int (xs (i + 2)), .int (xs (i + 3)), .int (xs (i + 4))]) (rest := []) G Z ml_L_175 ((show jv_Met _ _ _ _ _ _ _ _ _ _ (rO m q h1 ((m_dcF M (xs (i + 1)) (xs (i + 2)) (xs (i + 3)) (xs (i + 4)), m_dce M (xs (i + 1)) (xs (i + 2)) (xs (i + 3)) (xs (i + 4)), M))) _ from (r_difference (a := (xs (i + 1))) (b := (xs (i + 2))) (i := (xs (i + 3))) (w := (xs (i + 4))) hlt (uqs hR).1 (uqs hR).2 hM1).mono (fun _ _ y => rO_r hM1 y) (fun _ _ y => y))) hM1.1.1 dL_law_1862 rfl (by decide) (by decide) (by omega) (by omega) (Nat.le_of_ble_eq_true rfl) rfl rfl (fun v2 h1 y3 => ?_) (fun _ _ hx => hx.elim)
  obtain ⟨r9, rfl, hr9, hth, hM2, f2⟩ := y3
  show jv_V E 7 h1 (ce + 5) (sl + 30) Q 1865 [(5, .int (nI (((m_dcF M (xs (i + 1)) (xs (i + 2)) (xs (i + 3)) (xs (i + 4)), m_dce M (xs (i + 1)) (xs (i + 2)) (xs (i + 3)) (xs (i + 4)), M)).1))), (4, .int (nI i)), (0, .ref b), (1, .ref (z 6 0)), (2, .ref m), (3, .ref o)] [.int r9]
  refine jv_istore (q := 1867) (lo' := [(6, .int r9), (5, .int (nI (((m_dcF M (xs (i + 1)) (xs (i + 2)) (xs (i + 3)) (xs (i + 4)), m_dce M (xs (i + 1)) (xs (i + 2)) (xs (i + 3)) (xs (i + 4)), M)).1))), (4, .int (nI i)), (0, .ref b), (1, .ref (z 6 0)), (2, .ref m), (3, .ref o)]) G dL_law_1865 (by decide) rfl rfl ?_
  refine jv_aload_n (q := 1868) G 5 dL_law_1867 rfl rfl rfl ?_
  refine jv_callV_I (q := 1871) (h1 := h1) (As := []) (rest := []) (ce' := ce + 5) (sl' := sl + 30) (r := nI (((m_dcF M (xs (i + 1)) (xs (i + 2)) (xs (i + 3)) (xs (i + 4)), m_dce M (xs (i + 1)) (xs (i + 2)) (xs (i + 3)) (xs (i + 4)), M)).1)) G Z ml_L_109 (r_thrown hlt hM2.1 hth) hM2.1.1 dL_law_1868 rfl (by decide) (by decide) (by omega) (by omega) (Nat.le_of_ble_eq_true rfl) rfl rfl rfl rfl ?_
  refine jv_iload (q := 1873) G 1 dL_law_1871 rfl rfl ?_
  refine jv_icmp_eqN (q := 1876) (tgt := 1878) G dL_law_1873 (by decide) rfl (by omega) (by omega) (fun c4 => ?_) (fun c4 => ?_)
  · refine jv_iload (q := 1880) G 1 dL_law_1878 rfl rfl ?_
    refine jv_if_neN (q := 1883) (tgt := 1895) G dL_law_1880 (by decide) rfl (by omega) (fun c5 => ?_) (fun c5 => ?_)
    · refine jv_goto (q := 2122) G dL_law_1895 (by decide) ?_
      refine jv_lo [2, 3, 4, 5, 6] (lo' := [(4, .int (nI i)), (0, .ref b), (1, .ref (z 6 0)), (2, .ref m), (3, .ref o)]) rfl ?_
      exact kk _ _ _ _ ⟨_, _, f2.R cn_rsh hR1⟩ hM2 ((f2.sh o).trans ho1) (by omega) (by omega)
    · refine jv_aload_n (q := 1884) G 6 dL_law_1883 rfl rfl rfl ?_
      refine jv_iconst (q := 1885) (v := nI 0) G dL_law_1884 (by decide) rfl ?_
      refine jv_lald (q := 1886) G dL_law_1885 ((f2.sh o).trans ho1) rfl (by omega) (by decide) ((f2.l ho1 rfl 0).trans (hL1 c5)) rfl ?_
      refine jv_iload (q := 1888) G 0 dL_law_1886 rfl rfl ?_
      refine jv_i2l (q := 1889) G dL_law_1888 rfl rfl ?_
      refine jv_lcmp (q := 1890) G dL_law_1889 rfl rfl ?_
      refine jv_if_eq (q := 1893) (tgt := 1895) G dL_law_1890 (by decide) rfl (fun c6 => ?_) (fun c6 => ?_)
      · refine jv_goto (q := 2122) G dL_law_1895 (by decide) ?_
        refine jv_lo [2, 3, 4, 5, 6] (lo' := [(4, .int (nI i)), (0, .ref b), (1, .ref (z 6 0)), (2, .ref m), (3, .ref o)]) rfl ?_
        exact kk _ _ _ _ ⟨_, _, f2.R cn_rsh hR1⟩ hM2 ((f2.sh o).trans ho1) (by omega) (by omega)
      · exact absurd (by rw [hr9 c5]; exact lg0 _) c6
  · exact absurd rfl c4
set_option maxHeartbeats 4000000 in
set_option maxRecDepth 100000 in
theorem lc_compatible {E : jv_E} {Q : State → Prop} (hlt : (jv_l E).stackTraces = false) (G : jv_C E cL_law RL 7) (Z : jv_rm E = jv_room 1000 601024 7293034) {b L : Nat} {xs : Nat → Int32} (S : lwS E b L xs) {z : Nat → Nat → Nat} {T : Nat → Nat} {N : Nat → Nat → Nat} {tO : Nat → Nat} {h : jv_H} {M : mA} (hR : cl_R z T N tO h M) {m : Nat} {q : Nat → Nat} (hM : rf_R m q h M) {o : Nat} (ho : jv_sh h o = some (.inr (.long, 1))) {i : Nat} (hi : i + 9 ≤ L) (hL : L ≤ 4608) {ce sl : Nat} (hc : ce ≤ 600000) (hs : sl ≤ 7000000) (kk : ∀ h' M' ce' sl', (∃ T N, cl_R z T N tO h' M') → rf_R m q h' M' → jv_sh h' o = some (.inr (.long, 1)) → ce' ≤ ce + 5 → sl' ≤ sl + 30 → jv_V E 7 h' ce' sl' Q 2122 [(4, .int (nI i)), (0, .ref b), (1, .ref (z 6 0)), (2, .ref m), (3, .ref o)] []) : jv_V E 7 h ce sl Q 1898 [(4, .int (nI i)), (0, .ref b), (1, .ref (z 6 0)), (2, .ref m), (3, .ref o)] [] := by
  refine jv_aload_n (q := 1899) G 2 dL_law_1898 rfl rfl rfl ?_
  refine jv_aload_n (q := 1900) G 1 dL_law_1899 rfl rfl rfl ?_
  refine jv_iload (q := 1902) G 0 dL_law_1900 rfl rfl ?_
  refine jv_iconst (q := 1903) (v := nI 1) G dL_law_1902 (by decide) rfl ?_
  refine jv_iaddN (q := 1904) G dL_law_1903 rfl ?_
  refine jv_sld (q := 1905) G S dL_law_1904 (by omega) (by omega) rfl ?_
  refine jv_aload_n (q := 1906) G 1 dL_law_1905 rfl rfl rfl ?_
  refine jv_iload (q := 1908) G 0 dL_law_1906 rfl rfl ?_
  refine jv_iconst (q := 1909) (v := nI 2) G dL_law_1908 (by decide) rfl ?_
  refine jv_iaddN (q := 1910) G dL_law_1909 rfl ?_
  refine jv_sld (q := 1911) G S dL_law_1910 (by omega) (by omega) rfl ?_
  refine jv_aload_n (q := 1912) G 4 dL_law_1911 rfl rfl rfl ?_
  refine jv_callSH (q := 1915) (As := [.ref (z 6 0), .int (xs (i + 1)), .int (xs (i + 2)), .ref o]) (rest := []) G Z ml_L_176 (w_compatible (p0 := (xs (i + 1))) (p1 := (xs (i + 2))) hlt hR ho) dL_law_1912 rfl (by decide) (by decide) (by omega) (by omega) (Nat.le_of_ble_eq_true rfl) rfl rfl (fun v1 h1 y1 => ?_)
  obtain ⟨rfl, hL1, ⟨T1, N1, hR1⟩, f1⟩ := y1
  show jv_V E 7 h1 (ce + 4) (sl + 24) Q 1915 [(4, .int (nI i)), (0, .ref b), (1, .ref (z 6 0)), (2, .ref m), (3, .ref o)] [.int (nI (((m_paF M (xs (i + 1)) (xs (i + 2)), m_cmp M (xs (i + 1)) (xs (i + 2)), M)).1))]
  have hM1 := hM.sF f1; have ho1 := (f1.sh o).trans ho; have hle := le_compatible (M := M) (p0 := (xs (i + 1))) (p1 := (xs (i + 2)))
  have hle : ((m_paF M (xs (i + 1)) (xs (i + 2)), m_cmp M (xs (i + 1)) (xs (i + 2)), M)).1 ≤ 4 := Nat.le_trans hle (by decide)
  refine jv_istore (q := 1917) (lo' := [(5, .int (nI (((m_paF M (xs (i + 1)) (xs (i + 2)), m_cmp M (xs (i + 1)) (xs (i + 2)), M)).1))), (4, .int (nI i)), (0, .ref b), (1, .ref (z 6 0)), (2, .ref m), (3, .ref o)]) G dL_law_1915 (by decide) rfl rfl ?_
  refine jv_aload_n (q := 1918) G 4 dL_law_1917 rfl rfl rfl ?_
  refine jv_aload_n (q := 1919) G 2 dL_law_1918 rfl rfl rfl ?_
  refine jv_iload (q := 1921) G 1 dL_law_1919 rfl rfl ?_
  refine jv_iconst (q := 1922) (v := nI 1) G dL_law_1921 (by decide) rfl ?_
  refine jv_iaddN (q := 1923) G dL_law_1922 rfl ?_
  refine jv_sld (q := 1924) G S dL_law_1923 (by omega) (by omega) rfl ?_
  refine jv_aload_n (q := 1925) G 2 dL_law_1924 rfl rfl rfl ?_
  refine jv_iload (q := 1927) G 1 dL_law_1925 rfl rfl ?_
  refine jv_iconst (q := 1928) (v := nI 2) G dL_law_1927 (by decide) rfl ?_
  refine jv_iaddN (q := 1929) G dL_law_1928 rfl ?_
  refine jv_sld (q := 1930) G S dL_law_1929 (by omega) (by omega) rfl ?_
  refine jv_callV (q := 1933) (As := [.int (xs (i + 1)), .int (xs (i + 2))]) (rest := []) G Z ml_L_178 ((show jv_Met _ _ _ _ _ _ _ _ _ _ (rO m q h1 ((m_paF M (xs (i + 1)) (xs (i + 2)), m_cmp M (xs (i + 1)) (xs (i + 2)), M))) _ from (r_compatible (a := (xs (i + 1))) (b := (xs (i + 2))) hlt hM1).mono (fun _ _ y => rO_r hM1 y) (fun _ _ y => y))) hM1.1.1 dL_law_1930 rfl (by decide) (by decide) (by omega) (by omega) (Nat.le_of_ble_eq_true rfl) rfl rfl (fun v2 h1 y3 => ?_) (fun _ _ hx => hx.elim)
  obtain ⟨r9, rfl, hr9, hth, hM2, f2⟩ := y3
  show jv_V E 7 h1 (ce + 4) (sl + 24) Q 1933 [(5, .int (nI (((m_paF M (xs (i + 1)) (xs (i + 2)), m_cmp M (xs (i + 1)) (xs (i + 2)), M)).1))), (4, .int (nI i)), (0, .ref b), (1, .ref (z 6 0)), (2, .ref m), (3, .ref o)] [.int r9]
  refine jv_istore (q := 1935) (lo' := [(6, .int r9), (5, .int (nI (((m_paF M (xs (i + 1)) (xs (i + 2)), m_cmp M (xs (i + 1)) (xs (i + 2)), M)).1))), (4, .int (nI i)), (0, .ref b), (1, .ref (z 6 0)), (2, .ref m), (3, .ref o)]) G dL_law_1933 (by decide) rfl rfl ?_
  refine jv_aload_n (q := 1936) G 5 dL_law_1935 rfl rfl rfl ?_
  refine jv_callV_I (q := 1939) (h1 := h1) (As := []) (rest := []) (ce' := ce + 4) (sl' := sl + 24) (r := nI (((m_paF M (xs (i + 1)) (xs (i + 2)), m_cmp M (xs (i + 1)) (xs (i + 2)), M)).1)) G Z ml_L_109 (r_thrown hlt hM2.1 hth) hM2.1.1 dL_law_1936 rfl (by decide) (by decide) (by omega) (by omega) (Nat.le_of_ble_eq_true rfl) rfl rfl rfl rfl ?_
  refine jv_iload (q := 1941) G 1 dL_law_1939 rfl rfl ?_
  refine jv_icmp_eqN (q := 1944) (tgt := 1946) G dL_law_1941 (by decide) rfl (by omega) (by omega) (fun c4 => ?_) (fun c4 => ?_)
  · refine jv_iload (q := 1948) G 1 dL_law_1946 rfl rfl ?_
    refine jv_if_neN (q := 1951) (tgt := 1970) G dL_law_1948 (by decide) rfl (by omega) (fun c5 => ?_) (fun c5 => ?_)
    · refine jv_goto (q := 2122) G dL_law_1970 (by decide) ?_
      refine jv_lo [2, 3, 4, 5, 6] (lo' := [(4, .int (nI i)), (0, .ref b), (1, .ref (z 6 0)), (2, .ref m), (3, .ref o)]) rfl ?_
      exact kk _ _ _ _ ⟨_, _, f2.R cn_rsh hR1⟩ hM2 ((f2.sh o).trans ho1) (by omega) (by omega)
    · refine jv_aload_n (q := 1952) G 6 dL_law_1951 rfl rfl rfl ?_
      refine jv_iconst (q := 1953) (v := nI 0) G dL_law_1952 (by decide) rfl ?_
      refine jv_lald (q := 1954) G dL_law_1953 ((f2.sh o).trans ho1) rfl (by omega) (by decide) ((f2.l ho1 rfl 0).trans (hL1 c5)) rfl ?_
      refine jv_iload (q := 1956) G 0 dL_law_1954 rfl rfl ?_
      refine jv_if_eq (q := 1959) (tgt := 1963) G dL_law_1956 (by decide) rfl (fun c6 => ?_) (fun c6 => ?_)
      · refine jv_lconst (q := 1964) (v := 0) G dL_law_1963 (by decide) rfl ?_
        refine jv_lcmp (q := 1965) G dL_law_1964 rfl rfl ?_
        refine jv_if_eq (q := 1968) (tgt := 1970) G dL_law_1965 (by decide) rfl (fun c7 => ?_) (fun c7 => ?_)
        · refine jv_goto (q := 2122) G dL_law_1970 (by decide) ?_
          refine jv_lo [2, 3, 4, 5, 6] (lo' := [(4, .int (nI i)), (0, .ref b), (1, .ref (z 6 0)), (2, .ref m), (3, .ref o)]) rfl ?_
          exact kk _ _ _ _ ⟨_, _, f2.R cn_rsh hR1⟩ hM2 ((f2.sh o).trans ho1) (by omega) (by omega)
        · exact absurd (lg1 (by rw [← hr9 c5, c6]; rfl)) c7
      · refine jv_lconst (q := 1960) (v := 1) G dL_law_1959 (by decide) rfl ?_
        refine jv_goto (q := 1964) G dL_law_1960 (by decide) ?_
        refine jv_lcmp (q := 1965) G dL_law_1964 rfl rfl ?_
        refine jv_if_eq (q := 1968) (tgt := 1970) G dL_law_1965 (by decide) rfl (fun c8 => ?_) (fun c8 => ?_)
        · refine jv_goto (q := 2122) G dL_law_1970 (by decide) ?_
          refine jv_lo [2, 3, 4, 5, 6] (lo' := [(4, .int (nI i)), (0, .ref b), (1, .ref (z 6 0)), (2, .ref m), (3, .ref o)]) rfl ?_
          exact kk _ _ _ _ ⟨_, _, f2.R cn_rsh hR1⟩ hM2 ((f2.sh o).trans ho1) (by omega) (by omega)
        · exact absurd (lg1 (by rw [(b01_compatible (M := M) (p0 := (xs (i + 1))) (p1 := (xs (i + 2)))).resolve_left (fun y => c6 ((hr9 c5).trans y))]; rfl)) c8
  · exact absurd rfl c4
set_option maxHeartbeats 4000000 in
set_option maxRecDepth 100000 in
theorem lc_count {E : jv_E} {Q : State → Prop} (hlt : (jv_l E).stackTraces = false) (G : jv_C E cL_law RL 7) (Z : jv_rm E = jv_room 1000 601024 7293034) {b L : Nat} {xs : Nat → Int32} (S : lwS E b L xs) {z : Nat → Nat → Nat} {T : Nat → Nat} {N : Nat → Nat → Nat} {tO : Nat → Nat} {h : jv_H} {M : mA} (hR : cl_R z T N tO h M) {m : Nat} {q : Nat → Nat} (hM : rf_R m q h M) {o : Nat} (ho : jv_sh h o = some (.inr (.long, 1))) {i : Nat} (hi : i + 9 ≤ L) (hL : L ≤ 4608) {ce sl : Nat} (hc : ce ≤ 600000) (hs : sl ≤ 7000000) (kk : ∀ h' M' ce' sl', (∃ T N, cl_R z T N tO h' M') → rf_R m q h' M' → jv_sh h' o = some (.inr (.long, 1)) → ce' ≤ ce + 5 → sl' ≤ sl + 30 → jv_V E 7 h' ce' sl' Q 2122 [(4, .int (nI i)), (0, .ref b), (1, .ref (z 6 0)), (2, .ref m), (3, .ref o)] []) : jv_V E 7 h ce sl Q 1973 [(4, .int (nI i)), (0, .ref b), (1, .ref (z 6 0)), (2, .ref m), (3, .ref o)] [] := by
  refine jv_aload_n (q := 1974) G 2 dL_law_1973 rfl rfl rfl ?_
  refine jv_aload_n (q := 1975) G 1 dL_law_1974 rfl rfl rfl ?_
  refine jv_iload (q := 1977) G 0 dL_law_1975 rfl rfl ?_
  refine jv_iconst (q := 1978) (v := nI 1) G dL_law_1977 (by decide) rfl ?_
  refine jv_iaddN (q := 1979) G dL_law_1978 rfl ?_
  refine jv_sld (q := 1980) G S dL_law_1979 (by omega) (by omega) rfl ?_
  refine jv_callV_I (q := 1983) (h1 := h) (As := [.int (xs (i + 1))]) (rest := []) (ce' := ce) (sl' := sl) (r := (m_count M (xs (i + 1)))) G Z ml_L_179 (k_count hlt hR) hR.1.1.1 dL_law_1980 rfl (by decide) (by decide) (by omega) (by omega) (Nat.le_of_ble_eq_true rfl) rfl rfl rfl rfl ?_
  refine jv_aload_n (q := 1984) G 3 dL_law_1983 rfl rfl rfl ?_
  refine jv_aload_n (q := 1985) G 1 dL_law_1984 rfl rfl rfl ?_
  refine jv_iload (q := 1987) G 0 dL_law_1985 rfl rfl ?_
  refine jv_iconst (q := 1988) (v := nI 1) G dL_law_1987 (by decide) rfl ?_
  refine jv_iaddN (q := 1989) G dL_law_1988 rfl ?_
  refine jv_sld (q := 1990) G S dL_law_1989 (by omega) (by omega) rfl ?_
  refine jv_callV (q := 1993) (As := [.int (xs (i + 1))]) (rest := [.int (m_count M (xs (i + 1)))]) G Z ml_L_182 (r_count hlt hM) hM.1.1 dL_law_1990 rfl (by decide) (by decide) (by omega) (by omega) (Nat.le_of_ble_eq_true rfl) rfl rfl (fun v2 h1 y3 => ?_) (fun _ _ hx => hx.elim)
  obtain ⟨rfl, hth, f2⟩ := y3
  show jv_V E 7 h1 ce sl Q 1993 [(4, .int (nI i)), (0, .ref b), (1, .ref (z 6 0)), (2, .ref m), (3, .ref o)] [.int (m_count M (xs (i + 1))), .int (m_count M (xs (i + 1)))]
  refine jv_icmp_eq (q := 1996) (tgt := 2122) G dL_law_1993 (by decide) rfl (fun c4 => ?_) (fun c4 => ?_)
  · refine jv_lo [0, 1, 2, 3, 4] (lo' := [(4, .int (nI i)), (0, .ref b), (1, .ref (z 6 0)), (2, .ref m), (3, .ref o)]) rfl ?_
    exact kk _ M _ _ ⟨_, _, (rs_sF hM.1 f2).R cn_rsh hR⟩ (f2.R hM) (((rs_sF hM.1 f2).sh o).trans ho) (by omega) (by omega)
  · exact absurd rfl c4
set_option maxHeartbeats 4000000 in
set_option maxRecDepth 100000 in
theorem lc_look {E : jv_E} {Q : State → Prop} (hlt : (jv_l E).stackTraces = false) (G : jv_C E cL_law RL 7) (Z : jv_rm E = jv_room 1000 601024 7293034) {b L : Nat} {xs : Nat → Int32} (S : lwS E b L xs) {z : Nat → Nat → Nat} {T : Nat → Nat} {N : Nat → Nat → Nat} {tO : Nat → Nat} {h : jv_H} {M : mA} (hR : cl_R z T N tO h M) {m : Nat} {q : Nat → Nat} (hM : rf_R m q h M) {o : Nat} (ho : jv_sh h o = some (.inr (.long, 1))) {i : Nat} (hi : i + 9 ≤ L) (hL : L ≤ 4608) {ce sl : Nat} (hc : ce ≤ 600000) (hs : sl ≤ 7000000) (kk : ∀ h' M' ce' sl', (∃ T N, cl_R z T N tO h' M') → rf_R m q h' M' → jv_sh h' o = some (.inr (.long, 1)) → ce' ≤ ce + 5 → sl' ≤ sl + 30 → jv_V E 7 h' ce' sl' Q 2122 [(4, .int (nI i)), (0, .ref b), (1, .ref (z 6 0)), (2, .ref m), (3, .ref o)] []) : jv_V E 7 h ce sl Q 1998 [(4, .int (nI i)), (0, .ref b), (1, .ref (z 6 0)), (2, .ref m), (3, .ref o)] [] := by
  refine jv_aload_n (q := 1999) G 2 dL_law_1998 rfl rfl rfl ?_
  refine jv_aload_n (q := 2000) G 1 dL_law_1999 rfl rfl rfl ?_
  refine jv_iload (q := 2002) G 0 dL_law_2000 rfl rfl ?_
  refine jv_iconst (q := 2003) (v := nI 1) G dL_law_2002 (by decide) rfl ?_
  refine jv_iaddN (q := 2004) G dL_law_2003 rfl ?_
  refine jv_sld (q := 2005) G S dL_law_2004 (by omega) (by omega) rfl ?_
  refine jv_aload_n (q := 2006) G 1 dL_law_2005 rfl rfl rfl ?_
  refine jv_iload (q := 2008) G 0 dL_law_2006 rfl rfl ?_
  refine jv_iconst (q := 2009) (v := nI 2) G dL_law_2008 (by decide) rfl ?_
  refine jv_iaddN (q := 2010) G dL_law_2009 rfl ?_
  refine jv_sld (q := 2011) G S dL_law_2010 (by omega) (by omega) rfl ?_
  refine jv_aload_n (q := 2012) G 4 dL_law_2011 rfl rfl rfl ?_
  refine jv_callSH (q := 2015) (As := [.ref (z 6 0), .int (xs (i + 1)), .int (xs (i + 2)), .ref o]) (rest := []) G Z ml_L_183 (w_look (p0 := (xs (i + 1))) (p1 := (xs (i + 2))) hlt hR ho) dL_law_2012 rfl (by decide) (by decide) (by omega) (by omega) (Nat.le_of_ble_eq_true rfl) rfl rfl (fun v1 h1 y1 => ?_)
  obtain ⟨rfl, hL1, ⟨T1, N1, hR1⟩, f1⟩ := y1
  show jv_V E 7 h1 (ce + 1) (sl + 6) Q 2015 [(4, .int (nI i)), (0, .ref b), (1, .ref (z 6 0)), (2, .ref m), (3, .ref o)] [.int (nI (((m_eF M (xs (i + 1)), m_look M (xs (i + 1)) (xs (i + 2)), M)).1))]
  have hM1 := hM.sF f1; have ho1 := (f1.sh o).trans ho; have hle := le_look (M := M) (p0 := (xs (i + 1))) (p1 := (xs (i + 2)))
  have hle : ((m_eF M (xs (i + 1)), m_look M (xs (i + 1)) (xs (i + 2)), M)).1 ≤ 4 := Nat.le_trans hle (by decide)
  refine jv_istore (q := 2017) (lo' := [(5, .int (nI (((m_eF M (xs (i + 1)), m_look M (xs (i + 1)) (xs (i + 2)), M)).1))), (4, .int (nI i)), (0, .ref b), (1, .ref (z 6 0)), (2, .ref m), (3, .ref o)]) G dL_law_2015 (by decide) rfl rfl ?_
  refine jv_aload_n (q := 2018) G 4 dL_law_2017 rfl rfl rfl ?_
  refine jv_aload_n (q := 2019) G 2 dL_law_2018 rfl rfl rfl ?_
  refine jv_iload (q := 2021) G 1 dL_law_2019 rfl rfl ?_
  refine jv_iconst (q := 2022) (v := nI 1) G dL_law_2021 (by decide) rfl ?_
  refine jv_iaddN (q := 2023) G dL_law_2022 rfl ?_
  refine jv_sld (q := 2024) G S dL_law_2023 (by omega) (by omega) rfl ?_
  refine jv_aload_n (q := 2025) G 2 dL_law_2024 rfl rfl rfl ?_
  refine jv_iload (q := 2027) G 1 dL_law_2025 rfl rfl ?_
  refine jv_iconst (q := 2028) (v := nI 2) G dL_law_2027 (by decide) rfl ?_
  refine jv_iaddN (q := 2029) G dL_law_2028 rfl ?_
  refine jv_sld (q := 2030) G S dL_law_2029 (by omega) (by omega) rfl ?_
  refine jv_callV (q := 2033) (As := [.int (xs (i + 1)), .int (xs (i + 2))]) (rest := []) G Z ml_L_185 ((show jv_Met _ _ _ _ _ _ _ _ _ _ (rO m q h1 ((m_eF M (xs (i + 1)), m_look M (xs (i + 1)) (xs (i + 2)), M))) _ from (r_look (e := (xs (i + 1))) (w := (xs (i + 2))) hlt hM1).mono (fun _ _ y => rO_r hM1 y) (fun _ _ y => y))) hM1.1.1 dL_law_2030 rfl (by decide) (by decide) (by omega) (by omega) (Nat.le_of_ble_eq_true rfl) rfl rfl (fun v2 h1 y3 => ?_) (fun _ _ hx => hx.elim)
  obtain ⟨r9, rfl, hr9, hth, hM2, f2⟩ := y3
  show jv_V E 7 h1 (ce + 1) (sl + 6) Q 2033 [(5, .int (nI (((m_eF M (xs (i + 1)), m_look M (xs (i + 1)) (xs (i + 2)), M)).1))), (4, .int (nI i)), (0, .ref b), (1, .ref (z 6 0)), (2, .ref m), (3, .ref o)] [.int r9]
  refine jv_istore (q := 2035) (lo' := [(6, .int r9), (5, .int (nI (((m_eF M (xs (i + 1)), m_look M (xs (i + 1)) (xs (i + 2)), M)).1))), (4, .int (nI i)), (0, .ref b), (1, .ref (z 6 0)), (2, .ref m), (3, .ref o)]) G dL_law_2033 (by decide) rfl rfl ?_
  refine jv_aload_n (q := 2036) G 5 dL_law_2035 rfl rfl rfl ?_
  refine jv_callV_I (q := 2039) (h1 := h1) (As := []) (rest := []) (ce' := ce + 1) (sl' := sl + 6) (r := nI (((m_eF M (xs (i + 1)), m_look M (xs (i + 1)) (xs (i + 2)), M)).1)) G Z ml_L_109 (r_thrown hlt hM2.1 hth) hM2.1.1 dL_law_2036 rfl (by decide) (by decide) (by omega) (by omega) (Nat.le_of_ble_eq_true rfl) rfl rfl rfl rfl ?_
  refine jv_iload (q := 2041) G 1 dL_law_2039 rfl rfl ?_
  refine jv_icmp_eqN (q := 2044) (tgt := 2046) G dL_law_2041 (by decide) rfl (by omega) (by omega) (fun c4 => ?_) (fun c4 => ?_)
  · refine jv_iload (q := 2048) G 1 dL_law_2046 rfl rfl ?_
    refine jv_if_neN (q := 2051) (tgt := 2063) G dL_law_2048 (by decide) rfl (by omega) (fun c5 => ?_) (fun c5 => ?_)
    · refine jv_goto (q := 2122) G dL_law_2063 (by decide) ?_
      refine jv_lo [2, 3, 4, 5, 6] (lo' := [(4, .int (nI i)), (0, .ref b), (1, .ref (z 6 0)), (2, .ref m), (3, .ref o)]) rfl ?_
      exact kk _ _ _ _ ⟨_, _, f2.R cn_rsh hR1⟩ hM2 ((f2.sh o).trans ho1) (by omega) (by omega)
    · refine jv_aload_n (q := 2052) G 6 dL_law_2051 rfl rfl rfl ?_
      refine jv_iconst (q := 2053) (v := nI 0) G dL_law_2052 (by decide) rfl ?_
      refine jv_lald (q := 2054) G dL_law_2053 ((f2.sh o).trans ho1) rfl (by omega) (by decide) ((f2.l ho1 rfl 0).trans (hL1 c5)) rfl ?_
      refine jv_iload (q := 2056) G 0 dL_law_2054 rfl rfl ?_
      refine jv_i2l (q := 2057) G dL_law_2056 rfl rfl ?_
      refine jv_lcmp (q := 2058) G dL_law_2057 rfl rfl ?_
      refine jv_if_eq (q := 2061) (tgt := 2063) G dL_law_2058 (by decide) rfl (fun c6 => ?_) (fun c6 => ?_)
      · refine jv_goto (q := 2122) G dL_law_2063 (by decide) ?_
        refine jv_lo [2, 3, 4, 5, 6] (lo' := [(4, .int (nI i)), (0, .ref b), (1, .ref (z 6 0)), (2, .ref m), (3, .ref o)]) rfl ?_
        exact kk _ _ _ _ ⟨_, _, f2.R cn_rsh hR1⟩ hM2 ((f2.sh o).trans ho1) (by omega) (by omega)
      · exact absurd (by rw [hr9 c5]; exact lg0 _) c6
  · exact absurd rfl c4
set_option maxHeartbeats 4000000 in
set_option maxRecDepth 100000 in
theorem lc_uses {E : jv_E} {Q : State → Prop} (hlt : (jv_l E).stackTraces = false) (G : jv_C E cL_law RL 7) (Z : jv_rm E = jv_room 1000 601024 7293034) {b L : Nat} {xs : Nat → Int32} (S : lwS E b L xs) {z : Nat → Nat → Nat} {T : Nat → Nat} {N : Nat → Nat → Nat} {tO : Nat → Nat} {h : jv_H} {M : mA} (hR : cl_R z T N tO h M) {m : Nat} {q : Nat → Nat} (hM : rf_R m q h M) {o : Nat} (ho : jv_sh h o = some (.inr (.long, 1))) {i : Nat} (hi : i + 9 ≤ L) (hL : L ≤ 4608) {ce sl : Nat} (hc : ce ≤ 600000) (hs : sl ≤ 7000000) (kk : ∀ h' M' ce' sl', (∃ T N, cl_R z T N tO h' M') → rf_R m q h' M' → jv_sh h' o = some (.inr (.long, 1)) → ce' ≤ ce + 5 → sl' ≤ sl + 30 → jv_V E 7 h' ce' sl' Q 2122 [(4, .int (nI i)), (0, .ref b), (1, .ref (z 6 0)), (2, .ref m), (3, .ref o)] []) : jv_V E 7 h ce sl Q 2066 [(4, .int (nI i)), (0, .ref b), (1, .ref (z 6 0)), (2, .ref m), (3, .ref o)] [] := by
  refine jv_aload_n (q := 2067) G 2 dL_law_2066 rfl rfl rfl ?_
  refine jv_aload_n (q := 2068) G 1 dL_law_2067 rfl rfl rfl ?_
  refine jv_iload (q := 2070) G 0 dL_law_2068 rfl rfl ?_
  refine jv_iconst (q := 2071) (v := nI 1) G dL_law_2070 (by decide) rfl ?_
  refine jv_iaddN (q := 2072) G dL_law_2071 rfl ?_
  refine jv_sld (q := 2073) G S dL_law_2072 (by omega) (by omega) rfl ?_
  refine jv_aload_n (q := 2074) G 4 dL_law_2073 rfl rfl rfl ?_
  refine jv_callSH (q := 2077) (As := [.ref (z 6 0), .int (xs (i + 1)), .ref o]) (rest := []) G Z ml_L_186 (w_uses (p0 := (xs (i + 1))) hlt hR ho) dL_law_2074 rfl (by decide) (by decide) (by omega) (by omega) (Nat.le_of_ble_eq_true rfl) rfl rfl (fun v1 h1 y1 => ?_)
  obtain ⟨rfl, hL1, ⟨T1, N1, hR1⟩, f1⟩ := y1
  show jv_V E 7 h1 (ce + 1) (sl + 6) Q 2077 [(4, .int (nI i)), (0, .ref b), (1, .ref (z 6 0)), (2, .ref m), (3, .ref o)] [.int (nI ((((m_uses M (xs (i + 1))).1, nI (m_uses M (xs (i + 1))).2, M)).1))]
  have hM1 := hM.sF f1; have ho1 := (f1.sh o).trans ho; have hle := le_uses (M := M) (p0 := (xs (i + 1)))
  have hle : (((m_uses M (xs (i + 1))).1, nI (m_uses M (xs (i + 1))).2, M)).1 ≤ 4 := Nat.le_trans hle (by decide)
  refine jv_istore (q := 2079) (lo' := [(5, .int (nI ((((m_uses M (xs (i + 1))).1, nI (m_uses M (xs (i + 1))).2, M)).1))), (4, .int (nI i)), (0, .ref b), (1, .ref (z 6 0)), (2, .ref m), (3, .ref o)]) G dL_law_2077 (by decide) rfl rfl ?_
  refine jv_aload_n (q := 2080) G 4 dL_law_2079 rfl rfl rfl ?_
  refine jv_aload_n (q := 2081) G 2 dL_law_2080 rfl rfl rfl ?_
  refine jv_iload (q := 2083) G 1 dL_law_2081 rfl rfl ?_
  refine jv_iconst (q := 2084) (v := nI 1) G dL_law_2083 (by decide) rfl ?_
  refine jv_iaddN (q := 2085) G dL_law_2084 rfl ?_
  refine jv_sld (q := 2086) G S dL_law_2085 (by omega) (by omega) rfl ?_
  refine jv_callV (q := 2089) (As := [.int (xs (i + 1))]) (rest := []) G Z ml_L_188 ((show jv_Met _ _ _ _ _ _ _ _ _ _ (rO m q h1 (((m_uses M (xs (i + 1))).1, nI (m_uses M (xs (i + 1))).2, M))) _ from (r_uses (c := (xs (i + 1))) hlt hM1).mono (fun _ _ y => rO_r hM1 ⟨_, y.1, fun _ => rfl, y.2⟩) (fun _ _ y => y))) hM1.1.1 dL_law_2086 rfl (by decide) (by decide) (by omega) (by omega) (Nat.le_of_ble_eq_true rfl) rfl rfl (fun v2 h1 y3 => ?_) (fun _ _ hx => hx.elim)
  obtain ⟨r9, rfl, hr9, hth, hM2, f2⟩ := y3
  show jv_V E 7 h1 (ce + 1) (sl + 6) Q 2089 [(5, .int (nI ((((m_uses M (xs (i + 1))).1, nI (m_uses M (xs (i + 1))).2, M)).1))), (4, .int (nI i)), (0, .ref b), (1, .ref (z 6 0)), (2, .ref m), (3, .ref o)] [.int r9]
  refine jv_istore (q := 2091) (lo' := [(6, .int r9), (5, .int (nI ((((m_uses M (xs (i + 1))).1, nI (m_uses M (xs (i + 1))).2, M)).1))), (4, .int (nI i)), (0, .ref b), (1, .ref (z 6 0)), (2, .ref m), (3, .ref o)]) G dL_law_2089 (by decide) rfl rfl ?_
  refine jv_aload_n (q := 2092) G 5 dL_law_2091 rfl rfl rfl ?_
  refine jv_callV_I (q := 2095) (h1 := h1) (As := []) (rest := []) (ce' := ce + 1) (sl' := sl + 6) (r := nI ((((m_uses M (xs (i + 1))).1, nI (m_uses M (xs (i + 1))).2, M)).1)) G Z ml_L_109 (r_thrown hlt hM2.1 hth) hM2.1.1 dL_law_2092 rfl (by decide) (by decide) (by omega) (by omega) (Nat.le_of_ble_eq_true rfl) rfl rfl rfl rfl ?_
  refine jv_iload (q := 2097) G 1 dL_law_2095 rfl rfl ?_
  refine jv_icmp_eqN (q := 2100) (tgt := 2102) G dL_law_2097 (by decide) rfl (by omega) (by omega) (fun c4 => ?_) (fun c4 => ?_)
  · refine jv_iload (q := 2104) G 1 dL_law_2102 rfl rfl ?_
    refine jv_if_neN (q := 2107) (tgt := 2119) G dL_law_2104 (by decide) rfl (by omega) (fun c5 => ?_) (fun c5 => ?_)
    · refine jv_goto (q := 2122) G dL_law_2119 (by decide) ?_
      refine jv_lo [2, 3, 4, 5, 6] (lo' := [(4, .int (nI i)), (0, .ref b), (1, .ref (z 6 0)), (2, .ref m), (3, .ref o)]) rfl ?_
      exact kk _ _ _ _ ⟨_, _, f2.R cn_rsh hR1⟩ hM2 ((f2.sh o).trans ho1) (by omega) (by omega)
    · refine jv_aload_n (q := 2108) G 6 dL_law_2107 rfl rfl rfl ?_
      refine jv_iconst (q := 2109) (v := nI 0) G dL_law_2108 (by decide) rfl ?_
      refine jv_lald (q := 2110) G dL_law_2109 ((f2.sh o).trans ho1) rfl (by omega) (by decide) ((f2.l ho1 rfl 0).trans (hL1 c5)) rfl ?_
      refine jv_iload (q := 2112) G 0 dL_law_2110 rfl rfl ?_
      refine jv_i2l (q := 2113) G dL_law_2112 rfl rfl ?_
      refine jv_lcmp (q := 2114) G dL_law_2113 rfl rfl ?_
      refine jv_if_eq (q := 2117) (tgt := 2119) G dL_law_2114 (by decide) rfl (fun c6 => ?_) (fun c6 => ?_)
      · refine jv_goto (q := 2122) G dL_law_2119 (by decide) ?_
        refine jv_lo [2, 3, 4, 5, 6] (lo' := [(4, .int (nI i)), (0, .ref b), (1, .ref (z 6 0)), (2, .ref m), (3, .ref o)]) rfl ?_
        exact kk _ _ _ _ ⟨_, _, f2.R cn_rsh hR1⟩ hM2 ((f2.sh o).trans ho1) (by omega) (by omega)
      · exact absurd (by rw [hr9 c5]; exact lg0 _) c6
  · exact absurd rfl c4
