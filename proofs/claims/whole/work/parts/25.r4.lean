def m_c0 (ts : List mT) (tn : Nat) (n s : Int32) (k : Nat) : Bool := match ts[k]? with
  | none => false
  | some t => mt_i t && (m_isA ts (nI (mt_n t)) (nI tn) && match m_own t (nI 1) n s with
    | none => false
    | some j => match (mt_m t)[j]? with
      | none => false
      | some m => !mm_t m && !decide (mm_a m = 0))
def m_nA (ts : List mT) (k i : Nat) : Bool := match ts[k]?, ts[i]? with
  | some a, some b => m_isA ts (nI (mt_n a)) (nI (mt_n b))
  | _, _ => false
def m_cp (ts : List mT) (tn : Nat) (n s : Int32) (k i : Nat) : Bool := (List.range i).any (fun i => m_c0 ts tn n s i && m_nA ts k i)
def m_cd (ts : List mT) (tn : Nat) (n s : Int32) (k : Nat) : Bool := m_c0 ts tn n s k && !m_cp ts tn n s k ts.length
theorem m_cp_succ (ts : List mT) (tn : Nat) (n s : Int32) (k i : Nat) : m_cp ts tn n s k (i + 1) = (m_cp ts tn n s k i || (m_c0 ts tn n s i && m_nA ts k i)) := by
  unfold m_cp
  rw [List.range_succ, List.any_append]
  simp
theorem cand_step {h : jv_H} {a k : Nat} {p : Nat → Bool} {b : Bool} (hc : ∀ i, i < k → jv_I h a i = jv_bI (p i)) (e : p k = b) : ∀ i, i < k + 1 → jv_I (jv_wI h a k (jv_bI b)) a i = jv_bI (p i) := by
  intro i hi
  by_cases hik : i = k
  · subst hik; rw [jv_I_self, e]
  · rw [jv_I_wI, if_neg (fun z => hik z.2)]
    exact hc i (by omega)
theorem cand_keep {h : jv_H} {a k i : Nat} {v : Int32} (hik : i ≠ k) : jv_I (jv_wI h a k v) a i = jv_I h a i := by rw [jv_I_wI, if_neg (fun z => hik z.2)]
/-- the bits of 'out' when the places below k are through, and of k the partners below i -/
def cd_bits (ts : List mT) (tn : Nat) (n s : Int32) (k i : Nat) (w : Nat) : Prop := w < 1024 ∧ ∀ j, w.testBit j = ((decide (j < k) && (m_c0 ts tn n s j && m_cp ts tn n s j ts.length)) || (decide (j = k) && (m_c0 ts tn n s k && m_cp ts tn n s k i)))
theorem cd_bits0 (ts : List mT) (tn : Nat) (n s : Int32) : cd_bits ts tn n s 0 0 0 := ⟨by decide, fun j => by
  simp [m_cp]⟩
theorem cd_bitsI {ts : List mT} {tn : Nat} {n s : Int32} {k i w : Nat} (h : cd_bits ts tn n s k i w) (hb : (m_c0 ts tn n s k && (m_c0 ts tn n s i && m_nA ts k i)) = false) : cd_bits ts tn n s k (i + 1) w := by
  refine ⟨h.1, fun j => ?_⟩
  rw [h.2 j, m_cp_succ]
  revert hb
  cases m_c0 ts tn n s k <;> simp
  intro hb; rw [show (m_c0 ts tn n s i && m_nA ts k i) = false by simpa using hb]; simp
theorem cd_bitsS {ts : List mT} {tn : Nat} {n s : Int32} {k i w : Nat} (h : cd_bits ts tn n s k i w) (hk : k < 10) (hb : m_c0 ts tn n s k = true ∧ m_c0 ts tn n s i = true ∧ m_nA ts k i = true) : cd_bits ts tn n s k (i + 1) (w ||| 2 ^ k) := by
  refine ⟨Nat.or_lt_two_pow (n := 10) h.1 (Nat.pow_lt_pow_right (by decide) hk), fun j => ?_⟩
  rw [fb_bit_set, h.2 j, m_cp_succ, hb.1, hb.2.1, hb.2.2]
  by_cases hj : j = k
  · subst hj; simp
  · simp [hj]
theorem cd_bitsN {ts : List mT} {tn : Nat} {n s : Int32} {k w : Nat} (h : cd_bits ts tn n s k ts.length w) : cd_bits ts tn n s (k + 1) 0 w := by
  refine ⟨h.1, fun j => ?_⟩
  rw [h.2 j]
  by_cases hj : j = k
  · subst hj; simp [m_cp]
  · by_cases h2 : j < k
    · simp [h2, hj, m_cp, show j < k + 1 by omega]
    · simp [h2, hj, m_cp, show ¬ j < k + 1 by omega]
theorem cd_bitsE {ts : List mT} {tn : Nat} {n s : Int32} {w j : Nat} (h : cd_bits ts tn n s ts.length 0 w) (hj : j < ts.length) : w.testBit j = (m_c0 ts tn n s j && m_cp ts tn n s j ts.length) := by
  rw [h.2 j]; simp [hj, m_cp]
theorem cd_tb (w k : Nat) : nI ((w / 2 ^ k) &&& 1) = jv_bI (w.testBit k) := by
  rw [Nat.and_one_is_mod, jv_bitN]
  cases w.testBit k <;> rfl
set_option maxHeartbeats 4000000 in
set_option maxRecDepth 100000 in
theorem r_cd3 {E : jv_E} {x : Nat} {q : Nat → Nat} {h0 : jv_H} {e kt : Nat} {n s : Int32} {ts : List mT} {tt : mT} (hlt : (jv_l E).stackTraces = false) (G : jv_C E cX8_candidates RX8 10) (Z : jv_rm E = jv_room 3 0 0) (hr : (jv_mt E).sig.returnType = some .int) (hS : rf_S x q h0) (he : e < 8) (hE : rf_E q h0 e ts) (hV : rf_V q h0 e ts) (hkt : ts[kt]? = some tt) {w : Nat} : ∀ (m k : Nat) (h : jv_H), (sc x q h0 h ∧ cd_bits ts (mt_n tt) n s ts.length 0 w ∧ (∀ i, i < k → jv_I h (q 31) i = jv_bI (m_cd ts (mt_n tt) n s i)) ∧ ∀ i, k ≤ i → i < ts.length → jv_I h (q 31) i = jv_bI (m_c0 ts (mt_n tt) n s i)) → k + m = ts.length → jv_V E 10 h 0 0 (jv_Q E (fun v h' => v = some (.int (nI (fb_ct (m_cd ts (mt_n tt) n s) ts.length))) ∧ sc x q h0 h' ∧ ∀ i, i < ts.length → jv_I h' (q 31) i = jv_bI (m_cd ts (mt_n tt) n s i)) jv_no 0 0) 226 [(8, .int (nI k)), (6, .int (nI (fb_ct (m_cd ts (mt_n tt) n s) k))), (7, .int (nI w)), (5, .int (nI (10 * e))), (0, .ref x), (1, .int (nI e)), (2, .int (nI (10 * e + kt))), (3, .int n), (4, .int s)] [] := by
  have hlen := hE.2.1
  have hktl := jv_ltGet hkt
  have hTT := (hE.2.2 kt tt hkt).1
  have hTO := (hE.2.2 kt tt hkt).2
  intro m
  induction m with
  | zero =>
    intro k h hI hkm
    obtain ⟨hsc, hb, hc, hd⟩ := hI
    have hk : k = ts.length := by omega
    have hcn := fb_ct_le (m_cd ts (mt_n tt) n s) k
    refine jv_iload (q := 228) G 0 dX8_candidates_226 rfl rfl ?_
    refine jv_aload_n (q := 229) G 4 dX8_candidates_228 rfl rfl rfl ?_
    refine jv_getQ (q := 232) G dX8_candidates_229 fl_X8_13 rfl (hsc.S hS).1 (rf_p3 (hsc.S hS)) rfl ?_
    refine jv_iload_n (q := 233) G 5 dX8_candidates_232 rfl rfl rfl ?_
    refine jv_iald (q := 234) G dX8_candidates_233 (rf_a3 (hsc.S hS)) rfl (by omega) (by decide) (hsc.E hS hE).1 rfl ?_
    refine jv_icmp_geN (q := 237) (tgt := 295) G dX8_candidates_234 (by decide) rfl (by omega) (by omega) (fun c1 => ?_) (fun c1 => ?_)
    · refine jv_iload (q := 297) G 1 dX8_candidates_295 rfl rfl ?_
      refine jv_iret G hr dX8_candidates_297 (Nat.le_of_ble_eq_true rfl) (Nat.le_of_ble_eq_true rfl) ?_
      exact ⟨by rw [hk], hsc, fun i hi => hc i (by omega)⟩
    · omega
  | succ m ih =>
    intro k h hI hkm
    obtain ⟨t, ht⟩ := jv_getLt (l := ts) (k := k) (by omega)
    have Tt := (hE.2.2 k t ht).1
    have Ot := (hE.2.2 k t ht).2
    obtain ⟨hsc, hb, hc, hd⟩ := hI
    have hcn := fb_ct_le (m_cd ts (mt_n tt) n s) k
    have hw := hb.1
    refine jv_iload (q := 228) G 0 dX8_candidates_226 rfl rfl ?_
    refine jv_aload_n (q := 229) G 4 dX8_candidates_228 rfl rfl rfl ?_
    refine jv_getQ (q := 232) G dX8_candidates_229 fl_X8_13 rfl (hsc.S hS).1 (rf_p3 (hsc.S hS)) rfl ?_
    refine jv_iload_n (q := 233) G 5 dX8_candidates_232 rfl rfl rfl ?_
    refine jv_iald (q := 234) G dX8_candidates_233 (rf_a3 (hsc.S hS)) rfl (by omega) (by decide) (hsc.E hS hE).1 rfl ?_
    refine jv_icmp_geN (q := 237) (tgt := 295) G dX8_candidates_234 (by decide) rfl (by omega) (by omega) (fun c1 => ?_) (fun c1 => ?_)
    · omega
    · refine jv_aload_n (q := 238) G 4 dX8_candidates_237 rfl rfl rfl ?_
      refine jv_getQ (q := 241) G dX8_candidates_238 fl_X8_95 rfl (hsc.S hS).1 (rf_p31 (hsc.S hS)) rfl ?_
      refine jv_iload (q := 243) G 0 dX8_candidates_241 rfl rfl ?_
      refine jv_aload_n (q := 244) G 4 dX8_candidates_243 rfl rfl rfl ?_
      refine jv_getQ (q := 247) G dX8_candidates_244 fl_X8_95 rfl (hsc.S hS).1 (rf_p31 (hsc.S hS)) rfl ?_
      refine jv_iload (q := 249) G 0 dX8_candidates_247 rfl rfl ?_
      refine jv_zald (q := 250) G dX8_candidates_249 (rf_a31 (hsc.S hS)) rfl (by omega) (by decide) (hd k (Nat.le_refl k) (by omega)) rfl ?_
      refine jv_if_eqB (q := 253) (tgt := 267) G dX8_candidates_250 (by decide) rfl (fun c2 => ?_) (fun c2 => ?_)
      · refine jv_iconst (q := 268) (v := nI 0) G dX8_candidates_267 (by decide) rfl ?_
        refine jv_topI (y := jv_bI false) rfl ?_
        refine jv_zast (q := 269) G dX8_candidates_268 (rf_a31 (hsc.S hS)) rfl (by omega) (by decide) rfl ?_
        refine jv_iload (q := 271) G 1 dX8_candidates_269 rfl rfl ?_
        refine jv_aload_n (q := 272) G 4 dX8_candidates_271 rfl rfl rfl ?_
        refine jv_getQ (q := 275) G dX8_candidates_272 fl_X8_95 rfl (hsc.S hS).1 (rf_p31 (hsc.S hS)) rfl ?_
        refine jv_iload (q := 277) G 0 dX8_candidates_275 rfl rfl ?_
        refine jv_zald (q := 278) G dX8_candidates_277 (rf_a31 (hsc.S hS)) rfl (by omega) (by decide) (jv_I_self _ _ _ _) rfl ?_
        refine jv_if_eqB (q := 281) (tgt := 285) G dX8_candidates_278 (by decide) rfl (fun c3 => ?_) (fun c3 => ?_)
        · refine jv_iconst (q := 286) (v := nI 0) G dX8_candidates_285 (by decide) rfl ?_
          refine jv_iaddN (q := 287) G dX8_candidates_286 rfl ?_
          refine jv_istore (q := 289) (lo' := [(6, .int (nI ((fb_ct (m_cd ts (mt_n tt) n s) k) + 0))), (8, .int (nI k)), (7, .int (nI w)), (5, .int (nI (10 * e))), (0, .ref x), (1, .int (nI e)), (2, .int (nI (10 * e + kt))), (3, .int n), (4, .int s)]) G dX8_candidates_287 (by decide) rfl rfl ?_
          refine jv_iinc (q := 292) (lo' := [(8, .int (nI (k + 1))), (6, .int (nI ((fb_ct (m_cd ts (mt_n tt) n s) k) + 0))), (7, .int (nI w)), (5, .int (nI (10 * e))), (0, .ref x), (1, .int (nI e)), (2, .int (nI (10 * e + kt))), (3, .int n), (4, .int s)]) (v := nI (k + 1)) G 1 dX8_candidates_289 rfl (nI_1 k) (by decide) rfl rfl ?_
          refine jv_goto (q := 226) G dX8_candidates_292 (by decide) ?_
          have e1 : m_cd ts (mt_n tt) n s k = false := by
            have e9 := cd_bitsE hb (j := k) (by omega)
            unfold m_cd; simp_all
          have e2 : (fb_ct (m_cd ts (mt_n tt) n s) k) + 0 = fb_ct (m_cd ts (mt_n tt) n s) (k + 1) := by rw [fb_ct_succ, e1]; rfl
          rw [e2]
          refine jv_lo [0, 1, 2, 3, 4, 5, 6, 7, 8] (lo' := [(8, .int (nI (k + 1))), (6, .int (nI (fb_ct (m_cd ts (mt_n tt) n s) (k + 1)))), (7, .int (nI w)), (5, .int (nI (10 * e))), (0, .ref x), (1, .int (nI e)), (2, .int (nI (10 * e + kt))), (3, .int n), (4, .int s)]) rfl ?_
          exact ih (k + 1) _ ⟨hsc.wI _ rfl, hb, cand_step hc e1, fun i h1 h2 => by rw [cand_keep (by omega)]; exact hd i (by omega) h2⟩ (by omega)
        · cases c3
      · refine jv_iload (q := 255) G 2 dX8_candidates_253 rfl rfl ?_
        refine jv_iload (q := 257) G 0 dX8_candidates_255 rfl rfl ?_
        refine jv_ishrN (q := 258) G dX8_candidates_257 (by omega) (by omega) rfl ?_
        refine jv_iconst (q := 259) (v := nI 1) G dX8_candidates_258 (by decide) rfl ?_
        refine jv_iandN (q := 260) G dX8_candidates_259 rfl ?_
        refine jv_topI (y := jv_bI (w.testBit k)) (cd_tb w k) ?_
        refine jv_if_neB (q := 263) (tgt := 267) G dX8_candidates_260 (by decide) rfl (fun c4 => ?_) (fun c4 => ?_)
        · refine jv_iconst (q := 268) (v := nI 0) G dX8_candidates_267 (by decide) rfl ?_
          refine jv_topI (y := jv_bI false) rfl ?_
          refine jv_zast (q := 269) G dX8_candidates_268 (rf_a31 (hsc.S hS)) rfl (by omega) (by decide) rfl ?_
          refine jv_iload (q := 271) G 1 dX8_candidates_269 rfl rfl ?_
          refine jv_aload_n (q := 272) G 4 dX8_candidates_271 rfl rfl rfl ?_
          refine jv_getQ (q := 275) G dX8_candidates_272 fl_X8_95 rfl (hsc.S hS).1 (rf_p31 (hsc.S hS)) rfl ?_
          refine jv_iload (q := 277) G 0 dX8_candidates_275 rfl rfl ?_
          refine jv_zald (q := 278) G dX8_candidates_277 (rf_a31 (hsc.S hS)) rfl (by omega) (by decide) (jv_I_self _ _ _ _) rfl ?_
          refine jv_if_eqB (q := 281) (tgt := 285) G dX8_candidates_278 (by decide) rfl (fun c5 => ?_) (fun c5 => ?_)
          · refine jv_iconst (q := 286) (v := nI 0) G dX8_candidates_285 (by decide) rfl ?_
            refine jv_iaddN (q := 287) G dX8_candidates_286 rfl ?_
            refine jv_istore (q := 289) (lo' := [(6, .int (nI ((fb_ct (m_cd ts (mt_n tt) n s) k) + 0))), (8, .int (nI k)), (7, .int (nI w)), (5, .int (nI (10 * e))), (0, .ref x), (1, .int (nI e)), (2, .int (nI (10 * e + kt))), (3, .int n), (4, .int s)]) G dX8_candidates_287 (by decide) rfl rfl ?_
            refine jv_iinc (q := 292) (lo' := [(8, .int (nI (k + 1))), (6, .int (nI ((fb_ct (m_cd ts (mt_n tt) n s) k) + 0))), (7, .int (nI w)), (5, .int (nI (10 * e))), (0, .ref x), (1, .int (nI e)), (2, .int (nI (10 * e + kt))), (3, .int n), (4, .int s)]) (v := nI (k + 1)) G 1 dX8_candidates_289 rfl (nI_1 k) (by decide) rfl rfl ?_
            refine jv_goto (q := 226) G dX8_candidates_292 (by decide) ?_
            have e1 : m_cd ts (mt_n tt) n s k = false := by
              have e9 := cd_bitsE hb (j := k) (by omega)
              unfold m_cd; simp_all
            have e2 : (fb_ct (m_cd ts (mt_n tt) n s) k) + 0 = fb_ct (m_cd ts (mt_n tt) n s) (k + 1) := by rw [fb_ct_succ, e1]; rfl
            rw [e2]
            refine jv_lo [0, 1, 2, 3, 4, 5, 6, 7, 8] (lo' := [(8, .int (nI (k + 1))), (6, .int (nI (fb_ct (m_cd ts (mt_n tt) n s) (k + 1)))), (7, .int (nI w)), (5, .int (nI (10 * e))), (0, .ref x), (1, .int (nI e)), (2, .int (nI (10 * e + kt))), (3, .int n), (4, .int s)]) rfl ?_
            exact ih (k + 1) _ ⟨hsc.wI _ rfl, hb, cand_step hc e1, fun i h1 h2 => by rw [cand_keep (by omega)]; exact hd i (by omega) h2⟩ (by omega)
          · cases c5
        · refine jv_iconst (q := 264) (v := nI 1) G dX8_candidates_263 (by decide) rfl ?_
          refine jv_goto (q := 268) G dX8_candidates_264 (by decide) ?_
          refine jv_topI (y := jv_bI true) rfl ?_
          refine jv_zast (q := 269) G dX8_candidates_268 (rf_a31 (hsc.S hS)) rfl (by omega) (by decide) rfl ?_
          refine jv_iload (q := 271) G 1 dX8_candidates_269 rfl rfl ?_
          refine jv_aload_n (q := 272) G 4 dX8_candidates_271 rfl rfl rfl ?_
          refine jv_getQ (q := 275) G dX8_candidates_272 fl_X8_95 rfl (hsc.S hS).1 (rf_p31 (hsc.S hS)) rfl ?_
          refine jv_iload (q := 277) G 0 dX8_candidates_275 rfl rfl ?_
          refine jv_zald (q := 278) G dX8_candidates_277 (rf_a31 (hsc.S hS)) rfl (by omega) (by decide) (jv_I_self _ _ _ _) rfl ?_
          refine jv_if_eqB (q := 281) (tgt := 285) G dX8_candidates_278 (by decide) rfl (fun c6 => ?_) (fun c6 => ?_)
          · cases c6
          · refine jv_iconst (q := 282) (v := nI 1) G dX8_candidates_281 (by decide) rfl ?_
            refine jv_goto (q := 286) G dX8_candidates_282 (by decide) ?_
            refine jv_iaddN (q := 287) G dX8_candidates_286 rfl ?_
            refine jv_istore (q := 289) (lo' := [(6, .int (nI ((fb_ct (m_cd ts (mt_n tt) n s) k) + 1))), (8, .int (nI k)), (7, .int (nI w)), (5, .int (nI (10 * e))), (0, .ref x), (1, .int (nI e)), (2, .int (nI (10 * e + kt))), (3, .int n), (4, .int s)]) G dX8_candidates_287 (by decide) rfl rfl ?_
            refine jv_iinc (q := 292) (lo' := [(8, .int (nI (k + 1))), (6, .int (nI ((fb_ct (m_cd ts (mt_n tt) n s) k) + 1))), (7, .int (nI w)), (5, .int (nI (10 * e))), (0, .ref x), (1, .int (nI e)), (2, .int (nI (10 * e + kt))), (3, .int n), (4, .int s)]) (v := nI (k + 1)) G 1 dX8_candidates_289 rfl (nI_1 k) (by decide) rfl rfl ?_
            refine jv_goto (q := 226) G dX8_candidates_292 (by decide) ?_
            have e1 : m_cd ts (mt_n tt) n s k = true := by
              have e9 := cd_bitsE hb (j := k) (by omega)
              unfold m_cd; simp_all
            have e2 : (fb_ct (m_cd ts (mt_n tt) n s) k) + 1 = fb_ct (m_cd ts (mt_n tt) n s) (k + 1) := by rw [fb_ct_succ, e1]; rfl
            rw [e2]
            refine jv_lo [0, 1, 2, 3, 4, 5, 6, 7, 8] (lo' := [(8, .int (nI (k + 1))), (6, .int (nI (fb_ct (m_cd ts (mt_n tt) n s) (k + 1)))), (7, .int (nI w)), (5, .int (nI (10 * e))), (0, .ref x), (1, .int (nI e)), (2, .int (nI (10 * e + kt))), (3, .int n), (4, .int s)]) rfl ?_
            exact ih (k + 1) _ ⟨hsc.wI _ rfl, hb, cand_step hc e1, fun i h1 h2 => by rw [cand_keep (by omega)]; exact hd i (by omega) h2⟩ (by omega)
set_option maxHeartbeats 4000000 in
set_option maxRecDepth 100000 in
theorem r_cd2i {E : jv_E} {x : Nat} {q : Nat → Nat} {h0 : jv_H} {e kt : Nat} {n s : Int32} {ts : List mT} {tt : mT} (hlt : (jv_l E).stackTraces = false) (G : jv_C E cX8_candidates RX8 10) (Z : jv_rm E = jv_room 3 0 0) (hr : (jv_mt E).sig.returnType = some .int) (hS : rf_S x q h0) (he : e < 8) (hE : rf_E q h0 e ts) (hV : rf_V q h0 e ts) (hkt : ts[kt]? = some tt) {h : jv_H} (hsc : sc x q h0 h) (hc : ∀ i, i < ts.length → jv_I h (q 31) i = jv_bI (m_c0 ts (mt_n tt) n s i)) {k : Nat} {t : mT} (ht : ts[k]? = some t) (kont : ∀ w : Nat, cd_bits ts (mt_n tt) n s (k + 1) 0 w → jv_V E 10 h 0 0 (jv_Q E (fun v h' => v = some (.int (nI (fb_ct (m_cd ts (mt_n tt) n s) ts.length))) ∧ sc x q h0 h' ∧ ∀ i, i < ts.length → jv_I h' (q 31) i = jv_bI (m_cd ts (mt_n tt) n s i)) jv_no 0 0) 129 [(8, .int (nI (k + 1))), (7, .int (nI w)), (6, .int (nI 0)), (5, .int (nI (10 * e))), (0, .ref x), (1, .int (nI e)), (2, .int (nI (10 * e + kt))), (3, .int n), (4, .int s)] []) : ∀ (m i w : Nat), cd_bits ts (mt_n tt) n s k i w → i + m = ts.length → jv_V E 10 h 0 0 (jv_Q E (fun v h' => v = some (.int (nI (fb_ct (m_cd ts (mt_n tt) n s) ts.length))) ∧ sc x q h0 h' ∧ ∀ i, i < ts.length → jv_I h' (q 31) i = jv_bI (m_cd ts (mt_n tt) n s i)) jv_no 0 0) 143 [(9, .int (nI i)), (7, .int (nI w)), (8, .int (nI k)), (6, .int (nI 0)), (5, .int (nI (10 * e))), (0, .ref x), (1, .int (nI e)), (2, .int (nI (10 * e + kt))), (3, .int n), (4, .int s)] [] := by
  have hlen := hE.2.1
  have hktl := jv_ltGet hkt
  have hTT := (hE.2.2 kt tt hkt).1
  have hTO := (hE.2.2 kt tt hkt).2
  have hkl := jv_ltGet ht
  have Tt := (hE.2.2 k t ht).1
  have Ot := (hE.2.2 k t ht).2
  intro m
  induction m with
  | zero =>
    intro i w hb him
    have hi : i = ts.length := by omega
    subst hi
    refine jv_iload (q := 145) G 0 dX8_candidates_143 rfl rfl ?_
    refine jv_aload_n (q := 146) G 5 dX8_candidates_145 rfl rfl rfl ?_
    refine jv_getQ (q := 149) G dX8_candidates_146 fl_X8_13 rfl (hsc.S hS).1 (rf_p3 (hsc.S hS)) rfl ?_
    refine jv_iload_n (q := 150) G 6 dX8_candidates_149 rfl rfl rfl ?_
    refine jv_iald (q := 151) G dX8_candidates_150 (rf_a3 (hsc.S hS)) rfl (by omega) (by decide) (hsc.E hS hE).1 rfl ?_
    refine jv_icmp_geN (q := 154) (tgt := 217) G dX8_candidates_151 (by decide) rfl (by omega) (by omega) (fun c1 => ?_) (fun c1 => ?_)
    · refine jv_iinc (q := 220) (lo' := [(8, .int (nI (k + 1))), (9, .int (nI ts.length)), (7, .int (nI w)), (6, .int (nI 0)), (5, .int (nI (10 * e))), (0, .ref x), (1, .int (nI e)), (2, .int (nI (10 * e + kt))), (3, .int n), (4, .int s)]) (v := nI (k + 1)) G 2 dX8_candidates_217 rfl (nI_1 k) (by decide) rfl rfl ?_
      refine jv_goto (q := 129) G dX8_candidates_220 (by decide) ?_
      refine jv_lo [0, 2, 3, 4, 5, 6, 7, 8, 9] (lo' := [(8, .int (nI (k + 1))), (7, .int (nI w)), (6, .int (nI 0)), (5, .int (nI (10 * e))), (0, .ref x), (1, .int (nI e)), (2, .int (nI (10 * e + kt))), (3, .int n), (4, .int s)]) rfl ?_
      exact kont w (cd_bitsN hb)
    · omega
  | succ m ih =>
    intro i w hb him
    obtain ⟨t2, ht2⟩ := jv_getLt (l := ts) (k := i) (by omega)
    have Tt2 := (hE.2.2 i t2 ht2).1
    have Ot2 := (hE.2.2 i t2 ht2).2
    have e7 : m_nA ts k i = m_isA ts (nI (mt_n t)) (nI (mt_n t2)) := by unfold m_nA; rw [ht, ht2]
    refine jv_iload (q := 145) G 0 dX8_candidates_143 rfl rfl ?_
    refine jv_aload_n (q := 146) G 5 dX8_candidates_145 rfl rfl rfl ?_
    refine jv_getQ (q := 149) G dX8_candidates_146 fl_X8_13 rfl (hsc.S hS).1 (rf_p3 (hsc.S hS)) rfl ?_
    refine jv_iload_n (q := 150) G 6 dX8_candidates_149 rfl rfl rfl ?_
    refine jv_iald (q := 151) G dX8_candidates_150 (rf_a3 (hsc.S hS)) rfl (by omega) (by decide) (hsc.E hS hE).1 rfl ?_
    refine jv_icmp_geN (q := 154) (tgt := 217) G dX8_candidates_151 (by decide) rfl (by omega) (by omega) (fun c1 => ?_) (fun c1 => ?_)
    · omega
    · refine jv_aload_n (q := 155) G 5 dX8_candidates_154 rfl rfl rfl ?_
      refine jv_getQ (q := 158) G dX8_candidates_155 fl_X8_95 rfl (hsc.S hS).1 (rf_p31 (hsc.S hS)) rfl ?_
      refine jv_iload (q := 160) G 2 dX8_candidates_158 rfl rfl ?_
      refine jv_zald (q := 161) G dX8_candidates_160 (rf_a31 (hsc.S hS)) rfl (by omega) (by decide) (hc k hkl) rfl ?_
      refine jv_if_eqB (q := 164) (tgt := 211) G dX8_candidates_161 (by decide) rfl (fun c2 => ?_) (fun c2 => ?_)
      · refine jv_iinc (q := 214) (lo' := [(9, .int (nI (i + 1))), (7, .int (nI w)), (8, .int (nI k)), (6, .int (nI 0)), (5, .int (nI (10 * e))), (0, .ref x), (1, .int (nI e)), (2, .int (nI (10 * e + kt))), (3, .int n), (4, .int s)]) (v := nI (i + 1)) G 0 dX8_candidates_211 rfl (nI_1 i) (by decide) rfl rfl ?_
        refine jv_goto (q := 143) G dX8_candidates_214 (by decide) ?_
        refine jv_lo [0, 1, 2, 3, 4, 5, 6, 7, 8, 9] (lo' := [(9, .int (nI (i + 1))), (7, .int (nI w)), (8, .int (nI k)), (6, .int (nI 0)), (5, .int (nI (10 * e))), (0, .ref x), (1, .int (nI e)), (2, .int (nI (10 * e + kt))), (3, .int n), (4, .int s)]) rfl ?_
        exact ih (i + 1) _ (cd_bitsI hb (by rw [e7]; simp_all)) (by omega)
      · refine jv_aload_n (q := 165) G 5 dX8_candidates_164 rfl rfl rfl ?_
        refine jv_getQ (q := 168) G dX8_candidates_165 fl_X8_95 rfl (hsc.S hS).1 (rf_p31 (hsc.S hS)) rfl ?_
        refine jv_iload (q := 170) G 0 dX8_candidates_168 rfl rfl ?_
        refine jv_zald (q := 171) G dX8_candidates_170 (rf_a31 (hsc.S hS)) rfl (by omega) (by decide) (hc i (by omega)) rfl ?_
        refine jv_if_eqB (q := 174) (tgt := 211) G dX8_candidates_171 (by decide) rfl (fun c3 => ?_) (fun c3 => ?_)
        · refine jv_iinc (q := 214) (lo' := [(9, .int (nI (i + 1))), (7, .int (nI w)), (8, .int (nI k)), (6, .int (nI 0)), (5, .int (nI (10 * e))), (0, .ref x), (1, .int (nI e)), (2, .int (nI (10 * e + kt))), (3, .int n), (4, .int s)]) (v := nI (i + 1)) G 0 dX8_candidates_211 rfl (nI_1 i) (by decide) rfl rfl ?_
          refine jv_goto (q := 143) G dX8_candidates_214 (by decide) ?_
          refine jv_lo [0, 1, 2, 3, 4, 5, 6, 7, 8, 9] (lo' := [(9, .int (nI (i + 1))), (7, .int (nI w)), (8, .int (nI k)), (6, .int (nI 0)), (5, .int (nI (10 * e))), (0, .ref x), (1, .int (nI e)), (2, .int (nI (10 * e + kt))), (3, .int n), (4, .int s)]) rfl ?_
          exact ih (i + 1) _ (cd_bitsI hb (by rw [e7]; simp_all)) (by omega)
        · refine jv_aload_n (q := 175) G 5 dX8_candidates_174 rfl rfl rfl ?_
          refine jv_iload_n (q := 176) G 6 dX8_candidates_175 rfl rfl rfl ?_
          refine jv_aload_n (q := 177) G 5 dX8_candidates_176 rfl rfl rfl ?_
          refine jv_getQ (q := 180) G dX8_candidates_177 fl_X8_17 rfl (hsc.S hS).1 (rf_p4 (hsc.S hS)) rfl ?_
          refine jv_iload (q := 182) G 4 dX8_candidates_180 rfl rfl ?_
          refine jv_iload (q := 184) G 2 dX8_candidates_182 rfl rfl ?_
          refine jv_iaddN (q := 185) G dX8_candidates_184 rfl ?_
          refine jv_iald (q := 186) G dX8_candidates_185 (rf_a4 (hsc.S hS)) rfl (by omega) (by decide) (rt_4 (hsc.T hS Tt)) rfl ?_
          refine jv_aload_n (q := 187) G 5 dX8_candidates_186 rfl rfl rfl ?_
          refine jv_getQ (q := 190) G dX8_candidates_187 fl_X8_17 rfl (hsc.S hS).1 (rf_p4 (hsc.S hS)) rfl ?_
          refine jv_iload (q := 192) G 4 dX8_candidates_190 rfl rfl ?_
          refine jv_iload (q := 194) G 0 dX8_candidates_192 rfl rfl ?_
          refine jv_iaddN (q := 195) G dX8_candidates_194 rfl ?_
          refine jv_iald (q := 196) G dX8_candidates_195 (rf_a4 (hsc.S hS)) rfl (by omega) (by decide) (rt_4 (hsc.T hS Tt2)) rfl ?_
          refine jv_callV_I (q := 199) (h1 := h) (As := [.int (nI e), .int (nI (mt_n t)), .int (nI (mt_n t2))]) (rest := []) (ce' := 0) (sl' := 0) (r := jv_bI (m_isA ts (nI (mt_n t)) (nI (mt_n t2)))) G Z ml_X8_167 (r_isAbove hlt hsc hS he hV) (hsc.S hS).1 dX8_candidates_196 rfl (by decide) (by decide) (by decide) (by decide) (Nat.le_of_ble_eq_true rfl) rfl rfl rfl rfl ?_
          refine jv_if_eqB (q := 202) (tgt := 211) G dX8_candidates_199 (by decide) rfl (fun c4 => ?_) (fun c4 => ?_)
          · refine jv_iinc (q := 214) (lo' := [(9, .int (nI (i + 1))), (7, .int (nI w)), (8, .int (nI k)), (6, .int (nI 0)), (5, .int (nI (10 * e))), (0, .ref x), (1, .int (nI e)), (2, .int (nI (10 * e + kt))), (3, .int n), (4, .int s)]) (v := nI (i + 1)) G 0 dX8_candidates_211 rfl (nI_1 i) (by decide) rfl rfl ?_
            refine jv_goto (q := 143) G dX8_candidates_214 (by decide) ?_
            refine jv_lo [0, 1, 2, 3, 4, 5, 6, 7, 8, 9] (lo' := [(9, .int (nI (i + 1))), (7, .int (nI w)), (8, .int (nI k)), (6, .int (nI 0)), (5, .int (nI (10 * e))), (0, .ref x), (1, .int (nI e)), (2, .int (nI (10 * e + kt))), (3, .int n), (4, .int s)]) rfl ?_
            exact ih (i + 1) _ (cd_bitsI hb (by rw [e7]; simp_all)) (by omega)
          · refine jv_iload (q := 204) G 1 dX8_candidates_202 rfl rfl ?_
            refine jv_iconst (q := 205) (v := nI 1) G dX8_candidates_204 (by decide) rfl ?_
            refine jv_iload (q := 207) G 2 dX8_candidates_205 rfl rfl ?_
            refine jv_ishlN (q := 208) G dX8_candidates_207 (by omega) rfl ?_
            refine jv_iorN (q := 209) G dX8_candidates_208 rfl ?_
            refine jv_istore (q := 211) (lo' := [(7, .int (nI (w ||| (2 ^ k)))), (9, .int (nI i)), (8, .int (nI k)), (6, .int (nI 0)), (5, .int (nI (10 * e))), (0, .ref x), (1, .int (nI e)), (2, .int (nI (10 * e + kt))), (3, .int n), (4, .int s)]) G dX8_candidates_209 (by decide) rfl rfl ?_
            refine jv_iinc (q := 214) (lo' := [(9, .int (nI (i + 1))), (7, .int (nI (w ||| (2 ^ k)))), (8, .int (nI k)), (6, .int (nI 0)), (5, .int (nI (10 * e))), (0, .ref x), (1, .int (nI e)), (2, .int (nI (10 * e + kt))), (3, .int n), (4, .int s)]) (v := nI (i + 1)) G 1 dX8_candidates_211 rfl (nI_1 i) (by decide) rfl rfl ?_
            refine jv_goto (q := 143) G dX8_candidates_214 (by decide) ?_
            refine jv_lo [0, 1, 2, 3, 4, 5, 6, 7, 8, 9] (lo' := [(9, .int (nI (i + 1))), (7, .int (nI (w ||| (2 ^ k)))), (8, .int (nI k)), (6, .int (nI 0)), (5, .int (nI (10 * e))), (0, .ref x), (1, .int (nI e)), (2, .int (nI (10 * e + kt))), (3, .int n), (4, .int s)]) rfl ?_
            exact ih (i + 1) _ (cd_bitsS hb (by omega) (by rw [e7]; simp_all)) (by omega)
set_option maxHeartbeats 4000000 in
set_option maxRecDepth 100000 in
theorem r_cd2 {E : jv_E} {x : Nat} {q : Nat → Nat} {h0 : jv_H} {e kt : Nat} {n s : Int32} {ts : List mT} {tt : mT} (hlt : (jv_l E).stackTraces = false) (G : jv_C E cX8_candidates RX8 10) (Z : jv_rm E = jv_room 3 0 0) (hr : (jv_mt E).sig.returnType = some .int) (hS : rf_S x q h0) (he : e < 8) (hE : rf_E q h0 e ts) (hV : rf_V q h0 e ts) (hkt : ts[kt]? = some tt) {h : jv_H} (hsc : sc x q h0 h) (hc : ∀ i, i < ts.length → jv_I h (q 31) i = jv_bI (m_c0 ts (mt_n tt) n s i)) : ∀ (m k : Nat) (w : Nat), cd_bits ts (mt_n tt) n s k 0 w → k + m = ts.length → jv_V E 10 h 0 0 (jv_Q E (fun v h' => v = some (.int (nI (fb_ct (m_cd ts (mt_n tt) n s) ts.length))) ∧ sc x q h0 h' ∧ ∀ i, i < ts.length → jv_I h' (q 31) i = jv_bI (m_cd ts (mt_n tt) n s i)) jv_no 0 0) 129 [(8, .int (nI k)), (7, .int (nI w)), (6, .int (nI 0)), (5, .int (nI (10 * e))), (0, .ref x), (1, .int (nI e)), (2, .int (nI (10 * e + kt))), (3, .int n), (4, .int s)] [] := by
  have hlen := hE.2.1
  have hktl := jv_ltGet hkt
  have hTT := (hE.2.2 kt tt hkt).1
  have hTO := (hE.2.2 kt tt hkt).2
  intro m
  induction m with
  | zero =>
    intro k w hI hkm
    have hk : k = ts.length := by omega
    subst hk
    refine jv_iload (q := 131) G 0 dX8_candidates_129 rfl rfl ?_
    refine jv_aload_n (q := 132) G 4 dX8_candidates_131 rfl rfl rfl ?_
    refine jv_getQ (q := 135) G dX8_candidates_132 fl_X8_13 rfl (hsc.S hS).1 (rf_p3 (hsc.S hS)) rfl ?_
    refine jv_iload_n (q := 136) G 5 dX8_candidates_135 rfl rfl rfl ?_
    refine jv_iald (q := 137) G dX8_candidates_136 (rf_a3 (hsc.S hS)) rfl (by omega) (by decide) (hsc.E hS hE).1 rfl ?_
    refine jv_icmp_geN (q := 140) (tgt := 223) G dX8_candidates_137 (by decide) rfl (by omega) (by omega) (fun c1 => ?_) (fun c1 => ?_)
    · refine jv_iconst (q := 224) (v := nI 0) G dX8_candidates_223 (by decide) rfl ?_
      refine jv_istore (q := 226) (lo' := [(8, .int (nI 0)), (7, .int (nI w)), (6, .int (nI 0)), (5, .int (nI (10 * e))), (0, .ref x), (1, .int (nI e)), (2, .int (nI (10 * e + kt))), (3, .int n), (4, .int s)]) G dX8_candidates_224 (by decide) rfl rfl ?_
      refine jv_lo [0, 2, 1, 3, 4, 5, 6, 7, 8] (lo' := [(8, .int (nI 0)), (6, .int (nI 0)), (7, .int (nI w)), (5, .int (nI (10 * e))), (0, .ref x), (1, .int (nI e)), (2, .int (nI (10 * e + kt))), (3, .int n), (4, .int s)]) rfl ?_
      exact r_cd3 hlt G Z hr hS he hE hV hkt (w := w) ts.length 0 h ⟨hsc, hI, fun i hi => by omega, fun i h1 h2 => hc i h2⟩ (by omega)
    · omega
  | succ m ih =>
    intro k w hI hkm
    obtain ⟨t, ht⟩ := jv_getLt (l := ts) (k := k) (by omega)
    have Tt := (hE.2.2 k t ht).1
    have Ot := (hE.2.2 k t ht).2
    refine jv_iload (q := 131) G 0 dX8_candidates_129 rfl rfl ?_
    refine jv_aload_n (q := 132) G 4 dX8_candidates_131 rfl rfl rfl ?_
    refine jv_getQ (q := 135) G dX8_candidates_132 fl_X8_13 rfl (hsc.S hS).1 (rf_p3 (hsc.S hS)) rfl ?_
    refine jv_iload_n (q := 136) G 5 dX8_candidates_135 rfl rfl rfl ?_
    refine jv_iald (q := 137) G dX8_candidates_136 (rf_a3 (hsc.S hS)) rfl (by omega) (by decide) (hsc.E hS hE).1 rfl ?_
    refine jv_icmp_geN (q := 140) (tgt := 223) G dX8_candidates_137 (by decide) rfl (by omega) (by omega) (fun c1 => ?_) (fun c1 => ?_)
    · omega
    · refine jv_iconst (q := 141) (v := nI 0) G dX8_candidates_140 (by decide) rfl ?_
      refine jv_istore (q := 143) (lo' := [(9, .int (nI 0)), (8, .int (nI k)), (7, .int (nI w)), (6, .int (nI 0)), (5, .int (nI (10 * e))), (0, .ref x), (1, .int (nI e)), (2, .int (nI (10 * e + kt))), (3, .int n), (4, .int s)]) G dX8_candidates_141 (by decide) rfl rfl ?_
      refine jv_lo [0, 2, 1, 3, 4, 5, 6, 7, 8, 9] (lo' := [(9, .int (nI 0)), (7, .int (nI w)), (8, .int (nI k)), (6, .int (nI 0)), (5, .int (nI (10 * e))), (0, .ref x), (1, .int (nI e)), (2, .int (nI (10 * e + kt))), (3, .int n), (4, .int s)]) rfl ?_
      exact r_cd2i hlt G Z hr hS he hE hV hkt hsc hc ht (fun w hw => ih (k + 1) w hw (by omega)) ts.length 0 w hI (by omega)
set_option maxHeartbeats 4000000 in
set_option maxRecDepth 100000 in
theorem r_cd1 {E : jv_E} {x : Nat} {q : Nat → Nat} {h0 : jv_H} {e kt : Nat} {n s : Int32} {ts : List mT} {tt : mT} (hlt : (jv_l E).stackTraces = false) (G : jv_C E cX8_candidates RX8 10) (Z : jv_rm E = jv_room 3 0 0) (hr : (jv_mt E).sig.returnType = some .int) (hS : rf_S x q h0) (he : e < 8) (hE : rf_E q h0 e ts) (hV : rf_V q h0 e ts) (hkt : ts[kt]? = some tt)  : ∀ (m k : Nat) (h : jv_H), (sc x q h0 h ∧ ∀ i, i < k → jv_I h (q 31) i = jv_bI (m_c0 ts (mt_n tt) n s i)) → k + m = ts.length → jv_V E 10 h 0 0 (jv_Q E (fun v h' => v = some (.int (nI (fb_ct (m_cd ts (mt_n tt) n s) ts.length))) ∧ sc x q h0 h' ∧ ∀ i, i < ts.length → jv_I h' (q 31) i = jv_bI (m_cd ts (mt_n tt) n s i)) jv_no 0 0) 9 [(6, .int (nI k)), (5, .int (nI (10 * e))), (0, .ref x), (1, .int (nI e)), (2, .int (nI (10 * e + kt))), (3, .int n), (4, .int s)] [] := by
  have hlen := hE.2.1
  have hktl := jv_ltGet hkt
  have hTT := (hE.2.2 kt tt hkt).1
  have hTO := (hE.2.2 kt tt hkt).2
  intro m
  induction m with
  | zero =>
    intro k h hI hkm
    obtain ⟨hsc, hc⟩ := hI
    have hk : k = ts.length := by omega
    subst hk
    refine jv_iload (q := 11) G 0 dX8_candidates_9 rfl rfl ?_
    refine jv_aload_n (q := 12) G 2 dX8_candidates_11 rfl rfl rfl ?_
    refine jv_getQ (q := 15) G dX8_candidates_12 fl_X8_13 rfl (hsc.S hS).1 (rf_p3 (hsc.S hS)) rfl ?_
    refine jv_iload_n (q := 16) G 3 dX8_candidates_15 rfl rfl rfl ?_
    refine jv_iald (q := 17) G dX8_candidates_16 (rf_a3 (hsc.S hS)) rfl (by omega) (by decide) (hsc.E hS hE).1 rfl ?_
    refine jv_icmp_geN (q := 20) (tgt := 120) G dX8_candidates_17 (by decide) rfl (by omega) (by omega) (fun c1 => ?_) (fun c1 => ?_)
    · refine jv_iconst (q := 121) (v := nI 0) G dX8_candidates_120 (by decide) rfl ?_
      refine jv_istore (q := 123) (lo' := [(6, .int (nI 0)), (5, .int (nI (10 * e))), (0, .ref x), (1, .int (nI e)), (2, .int (nI (10 * e + kt))), (3, .int n), (4, .int s)]) G dX8_candidates_121 (by decide) rfl rfl ?_
      refine jv_iconst (q := 124) (v := nI 0) G dX8_candidates_123 (by decide) rfl ?_
      refine jv_istore (q := 126) (lo' := [(7, .int (nI 0)), (6, .int (nI 0)), (5, .int (nI (10 * e))), (0, .ref x), (1, .int (nI e)), (2, .int (nI (10 * e + kt))), (3, .int n), (4, .int s)]) G dX8_candidates_124 (by decide) rfl rfl ?_
      refine jv_iconst (q := 127) (v := nI 0) G dX8_candidates_126 (by decide) rfl ?_
      refine jv_istore (q := 129) (lo' := [(8, .int (nI 0)), (7, .int (nI 0)), (6, .int (nI 0)), (5, .int (nI (10 * e))), (0, .ref x), (1, .int (nI e)), (2, .int (nI (10 * e + kt))), (3, .int n), (4, .int s)]) G dX8_candidates_127 (by decide) rfl rfl ?_
      refine jv_lo [0, 1, 2, 3, 4, 5, 6, 7, 8] (lo' := [(8, .int (nI 0)), (7, .int (nI 0)), (6, .int (nI 0)), (5, .int (nI (10 * e))), (0, .ref x), (1, .int (nI e)), (2, .int (nI (10 * e + kt))), (3, .int n), (4, .int s)]) rfl ?_
      exact r_cd2 hlt G Z hr hS he hE hV hkt hsc hc ts.length 0 0 (cd_bits0 _ _ _ _) (by omega)
    · omega
  | succ m ih =>
    intro k h hI hkm
    obtain ⟨t, ht⟩ := jv_getLt (l := ts) (k := k) (by omega)
    have Tt := (hE.2.2 k t ht).1
    have Ot := (hE.2.2 k t ht).2
    obtain ⟨hsc, hc⟩ := hI
    refine jv_iload (q := 11) G 0 dX8_candidates_9 rfl rfl ?_
    refine jv_aload_n (q := 12) G 2 dX8_candidates_11 rfl rfl rfl ?_
    refine jv_getQ (q := 15) G dX8_candidates_12 fl_X8_13 rfl (hsc.S hS).1 (rf_p3 (hsc.S hS)) rfl ?_
    refine jv_iload_n (q := 16) G 3 dX8_candidates_15 rfl rfl rfl ?_
    refine jv_iald (q := 17) G dX8_candidates_16 (rf_a3 (hsc.S hS)) rfl (by omega) (by decide) (hsc.E hS hE).1 rfl ?_
    refine jv_icmp_geN (q := 20) (tgt := 120) G dX8_candidates_17 (by decide) rfl (by omega) (by omega) (fun c1 => ?_) (fun c1 => ?_)
    · omega
    · refine jv_aload_n (q := 21) G 2 dX8_candidates_20 rfl rfl rfl ?_
      refine jv_getQ (q := 24) G dX8_candidates_21 fl_X8_20 rfl (hsc.S hS).1 (rf_p5 (hsc.S hS)) rfl ?_
      refine jv_iload (q := 26) G 1 dX8_candidates_24 rfl rfl ?_
      refine jv_iload (q := 28) G 0 dX8_candidates_26 rfl rfl ?_
      refine jv_iaddN (q := 29) G dX8_candidates_28 rfl ?_
      refine jv_zald (q := 30) G dX8_candidates_29 (rf_a5 (hsc.S hS)) rfl (by omega) (by decide) (rt_5 (hsc.T hS Tt)) rfl ?_
      refine jv_if_eqB (q := 33) (tgt := 73) G dX8_candidates_30 (by decide) rfl (fun c2 => ?_) (fun c2 => ?_)
      · refine jv_iconst (q := 74) (v := (-1)) G dX8_candidates_73 (by decide) rfl ?_
        refine jv_istore (q := 76) (lo' := [(7, .int (-1)), (6, .int (nI k)), (5, .int (nI (10 * e))), (0, .ref x), (1, .int (nI e)), (2, .int (nI (10 * e + kt))), (3, .int n), (4, .int s)]) G dX8_candidates_74 (by decide) rfl rfl ?_
        refine jv_aload_n (q := 77) G 3 dX8_candidates_76 rfl rfl rfl ?_
        refine jv_getQ (q := 80) G dX8_candidates_77 fl_X8_95 rfl (hsc.S hS).1 (rf_p31 (hsc.S hS)) rfl ?_
        refine jv_iload (q := 82) G 1 dX8_candidates_80 rfl rfl ?_
        refine jv_iload (q := 84) G 0 dX8_candidates_82 rfl rfl ?_
        refine jv_iconst (q := 85) (v := (-1)) G dX8_candidates_84 (by decide) rfl ?_
        refine jv_icmp_eq (q := 88) (tgt := 112) G dX8_candidates_85 (by decide) rfl (fun c3 => ?_) (fun c3 => ?_)
        · refine jv_iconst (q := 113) (v := nI 0) G dX8_candidates_112 (by decide) rfl ?_
          refine jv_topI (y := jv_bI false) rfl ?_
          refine jv_zast (q := 114) G dX8_candidates_113 (rf_a31 (hsc.S hS)) rfl (by omega) (by decide) rfl ?_
          refine jv_iinc (q := 117) (lo' := [(6, .int (nI (k + 1))), (7, .int (-1)), (5, .int (nI (10 * e))), (0, .ref x), (1, .int (nI e)), (2, .int (nI (10 * e + kt))), (3, .int n), (4, .int s)]) (v := nI (k + 1)) G 1 dX8_candidates_114 rfl (nI_1 k) (by decide) rfl rfl ?_
          refine jv_goto (q := 9) G dX8_candidates_117 (by decide) ?_
          have e1 : m_c0 ts (mt_n tt) n s k = false := by
            unfold m_c0; rw [ht]; simp_all
          refine jv_lo [0, 2, 3, 4, 5, 6, 7] (lo' := [(6, .int (nI (k + 1))), (5, .int (nI (10 * e))), (0, .ref x), (1, .int (nI e)), (2, .int (nI (10 * e + kt))), (3, .int n), (4, .int s)]) rfl ?_
          exact ih (k + 1) _ ⟨hsc.wI _ rfl, cand_step hc e1⟩ (by omega)
        · exact absurd rfl c3
      · refine jv_aload_n (q := 34) G 2 dX8_candidates_33 rfl rfl rfl ?_
        refine jv_iload_n (q := 35) G 3 dX8_candidates_34 rfl rfl rfl ?_
        refine jv_aload_n (q := 36) G 2 dX8_candidates_35 rfl rfl rfl ?_
        refine jv_getQ (q := 39) G dX8_candidates_36 fl_X8_17 rfl (hsc.S hS).1 (rf_p4 (hsc.S hS)) rfl ?_
        refine jv_iload (q := 41) G 1 dX8_candidates_39 rfl rfl ?_
        refine jv_iload (q := 43) G 0 dX8_candidates_41 rfl rfl ?_
        refine jv_iaddN (q := 44) G dX8_candidates_43 rfl ?_
        refine jv_iald (q := 45) G dX8_candidates_44 (rf_a4 (hsc.S hS)) rfl (by omega) (by decide) (rt_4 (hsc.T hS Tt)) rfl ?_
        refine jv_aload_n (q := 46) G 2 dX8_candidates_45 rfl rfl rfl ?_
        refine jv_getQ (q := 49) G dX8_candidates_46 fl_X8_17 rfl (hsc.S hS).1 (rf_p4 (hsc.S hS)) rfl ?_
        refine jv_iload_n (q := 50) G 4 dX8_candidates_49 rfl rfl rfl ?_
        refine jv_iald (q := 51) G dX8_candidates_50 (rf_a4 (hsc.S hS)) rfl (by omega) (by decide) (rt_4 (hsc.T hS hTT)) rfl ?_
        refine jv_callV_I (q := 54) (h1 := h) (As := [.int (nI e), .int (nI (mt_n t)), .int (nI (mt_n tt))]) (rest := []) (ce' := 0) (sl' := 0) (r := jv_bI (m_isA ts (nI (mt_n t)) (nI (mt_n tt)))) G Z ml_X8_167 (r_isAbove hlt hsc hS he hV) (hsc.S hS).1 dX8_candidates_51 rfl (by decide) (by decide) (by decide) (by decide) (Nat.le_of_ble_eq_true rfl) rfl rfl rfl rfl ?_
        refine jv_if_eqB (q := 57) (tgt := 73) G dX8_candidates_54 (by decide) rfl (fun c4 => ?_) (fun c4 => ?_)
        · refine jv_iconst (q := 74) (v := (-1)) G dX8_candidates_73 (by decide) rfl ?_
          refine jv_istore (q := 76) (lo' := [(7, .int (-1)), (6, .int (nI k)), (5, .int (nI (10 * e))), (0, .ref x), (1, .int (nI e)), (2, .int (nI (10 * e + kt))), (3, .int n), (4, .int s)]) G dX8_candidates_74 (by decide) rfl rfl ?_
          refine jv_aload_n (q := 77) G 3 dX8_candidates_76 rfl rfl rfl ?_
          refine jv_getQ (q := 80) G dX8_candidates_77 fl_X8_95 rfl (hsc.S hS).1 (rf_p31 (hsc.S hS)) rfl ?_
          refine jv_iload (q := 82) G 1 dX8_candidates_80 rfl rfl ?_
          refine jv_iload (q := 84) G 0 dX8_candidates_82 rfl rfl ?_
          refine jv_iconst (q := 85) (v := (-1)) G dX8_candidates_84 (by decide) rfl ?_
          refine jv_icmp_eq (q := 88) (tgt := 112) G dX8_candidates_85 (by decide) rfl (fun c5 => ?_) (fun c5 => ?_)
          · refine jv_iconst (q := 113) (v := nI 0) G dX8_candidates_112 (by decide) rfl ?_
            refine jv_topI (y := jv_bI false) rfl ?_
            refine jv_zast (q := 114) G dX8_candidates_113 (rf_a31 (hsc.S hS)) rfl (by omega) (by decide) rfl ?_
            refine jv_iinc (q := 117) (lo' := [(6, .int (nI (k + 1))), (7, .int (-1)), (5, .int (nI (10 * e))), (0, .ref x), (1, .int (nI e)), (2, .int (nI (10 * e + kt))), (3, .int n), (4, .int s)]) (v := nI (k + 1)) G 1 dX8_candidates_114 rfl (nI_1 k) (by decide) rfl rfl ?_
            refine jv_goto (q := 9) G dX8_candidates_117 (by decide) ?_
            have e1 : m_c0 ts (mt_n tt) n s k = false := by
              unfold m_c0; rw [ht]; simp_all
            refine jv_lo [0, 2, 3, 4, 5, 6, 7] (lo' := [(6, .int (nI (k + 1))), (5, .int (nI (10 * e))), (0, .ref x), (1, .int (nI e)), (2, .int (nI (10 * e + kt))), (3, .int n), (4, .int s)]) rfl ?_
            exact ih (k + 1) _ ⟨hsc.wI _ rfl, cand_step hc e1⟩ (by omega)
          · exact absurd rfl c5
        · refine jv_aload_n (q := 58) G 2 dX8_candidates_57 rfl rfl rfl ?_
          refine jv_iload (q := 60) G 1 dX8_candidates_58 rfl rfl ?_
          refine jv_iload (q := 62) G 0 dX8_candidates_60 rfl rfl ?_
          refine jv_iaddN (q := 63) G dX8_candidates_62 rfl ?_
          refine jv_iconst (q := 64) (v := nI 1) G dX8_candidates_63 (by decide) rfl ?_
          refine jv_iload_n (q := 65) G 5 dX8_candidates_64 rfl rfl rfl ?_
          refine jv_iload (q := 67) G 6 dX8_candidates_65 rfl rfl ?_
          refine jv_callV_I (q := 70) (h1 := h) (As := [.int (nI ((10 * e) + k)), .int (nI 1), .int n, .int s]) (rest := []) (ce' := 0) (sl' := 0) (r := jv_oN ((m_own t (nI 1) n s).map (fun j => 6 * ((10 * e) + k) + j))) G Z ml_X8_155 (r_own hlt (hsc.S hS) (by omega) (hsc.T hS Tt) Ot) (hsc.S hS).1 dX8_candidates_67 rfl (by decide) (by decide) (by decide) (by decide) (Nat.le_of_ble_eq_true rfl) rfl rfl rfl rfl ?_
          rcases Option.eq_none_or_eq_some (m_own t (nI 1) n s) with hj8 | ⟨j6, hj8⟩
          · refine jv_topI (y := (-1)) (by rw [hj8]; rfl) ?_
            refine jv_goto (q := 74) G dX8_candidates_70 (by decide) ?_
            refine jv_istore (q := 76) (lo' := [(7, .int (-1)), (6, .int (nI k)), (5, .int (nI (10 * e))), (0, .ref x), (1, .int (nI e)), (2, .int (nI (10 * e + kt))), (3, .int n), (4, .int s)]) G dX8_candidates_74 (by decide) rfl rfl ?_
            refine jv_aload_n (q := 77) G 3 dX8_candidates_76 rfl rfl rfl ?_
            refine jv_getQ (q := 80) G dX8_candidates_77 fl_X8_95 rfl (hsc.S hS).1 (rf_p31 (hsc.S hS)) rfl ?_
            refine jv_iload (q := 82) G 1 dX8_candidates_80 rfl rfl ?_
            refine jv_iload (q := 84) G 0 dX8_candidates_82 rfl rfl ?_
            refine jv_iconst (q := 85) (v := (-1)) G dX8_candidates_84 (by decide) rfl ?_
            refine jv_icmp_eq (q := 88) (tgt := 112) G dX8_candidates_85 (by decide) rfl (fun c9 => ?_) (fun c9 => ?_)
            · refine jv_iconst (q := 113) (v := nI 0) G dX8_candidates_112 (by decide) rfl ?_
              refine jv_topI (y := jv_bI false) rfl ?_
              refine jv_zast (q := 114) G dX8_candidates_113 (rf_a31 (hsc.S hS)) rfl (by omega) (by decide) rfl ?_
              refine jv_iinc (q := 117) (lo' := [(6, .int (nI (k + 1))), (7, .int (-1)), (5, .int (nI (10 * e))), (0, .ref x), (1, .int (nI e)), (2, .int (nI (10 * e + kt))), (3, .int n), (4, .int s)]) (v := nI (k + 1)) G 1 dX8_candidates_114 rfl (nI_1 k) (by decide) rfl rfl ?_
              refine jv_goto (q := 9) G dX8_candidates_117 (by decide) ?_
              have e1 : m_c0 ts (mt_n tt) n s k = false := by
                unfold m_c0; rw [ht]; simp_all
              refine jv_lo [0, 2, 3, 4, 5, 6, 7] (lo' := [(6, .int (nI (k + 1))), (5, .int (nI (10 * e))), (0, .ref x), (1, .int (nI e)), (2, .int (nI (10 * e + kt))), (3, .int n), (4, .int s)]) rfl ?_
              exact ih (k + 1) _ ⟨hsc.wI _ rfl, cand_step hc e1⟩ (by omega)
            · exact absurd rfl c9
          · refine jv_topI (y := nI (6 * ((10 * e) + k) + j6)) (by rw [hj8]; rfl) ?_
            obtain ⟨m7, hm7, wm7, nm7, sm7, lm7⟩ := m_own_some hj8
            have Mm7 := rt_m Tt hm7
            have Om7 := Ot.2.2.2.2.2.2 m7 (List.mem_of_getElem? hm7)
            have Lm7 := Ot.2.2.2.2.2.1
            have Bm7n := Om7.1; have Bm7s := Om7.2.1; have Bm7a := Om7.2.2.1
            refine jv_goto (q := 74) G dX8_candidates_70 (by decide) ?_
            refine jv_istore (q := 76) (lo' := [(7, .int (nI (6 * ((10 * e) + k) + j6))), (6, .int (nI k)), (5, .int (nI (10 * e))), (0, .ref x), (1, .int (nI e)), (2, .int (nI (10 * e + kt))), (3, .int n), (4, .int s)]) G dX8_candidates_74 (by decide) rfl rfl ?_
            refine jv_aload_n (q := 77) G 3 dX8_candidates_76 rfl rfl rfl ?_
            refine jv_getQ (q := 80) G dX8_candidates_77 fl_X8_95 rfl (hsc.S hS).1 (rf_p31 (hsc.S hS)) rfl ?_
            refine jv_iload (q := 82) G 1 dX8_candidates_80 rfl rfl ?_
            refine jv_iload (q := 84) G 0 dX8_candidates_82 rfl rfl ?_
            refine jv_iconst (q := 85) (v := (-1)) G dX8_candidates_84 (by decide) rfl ?_
            refine jv_icmp_eq (q := 88) (tgt := 112) G dX8_candidates_85 (by decide) rfl (fun c10 => ?_) (fun c10 => ?_)
            · exact absurd c10 (jv_nI_m1 (by omega))
            · refine jv_aload_n (q := 89) G 3 dX8_candidates_88 rfl rfl rfl ?_
              refine jv_getQ (q := 92) G dX8_candidates_89 fl_X8_56 rfl (hsc.S hS).1 (rf_p17 (hsc.S hS)) rfl ?_
              refine jv_iload (q := 94) G 0 dX8_candidates_92 rfl rfl ?_
              refine jv_zald (q := 95) G dX8_candidates_94 (rf_a17 (hsc.S hS)) rfl (by omega) (by decide) (hsc.M hS Mm7).2.2.2.2.1 rfl ?_
              refine jv_if_neB (q := 98) (tgt := 112) G dX8_candidates_95 (by decide) rfl (fun c11 => ?_) (fun c11 => ?_)
              · refine jv_iconst (q := 113) (v := nI 0) G dX8_candidates_112 (by decide) rfl ?_
                refine jv_topI (y := jv_bI false) rfl ?_
                refine jv_zast (q := 114) G dX8_candidates_113 (rf_a31 (hsc.S hS)) rfl (by omega) (by decide) rfl ?_
                refine jv_iinc (q := 117) (lo' := [(6, .int (nI (k + 1))), (7, .int (nI (6 * ((10 * e) + k) + j6))), (5, .int (nI (10 * e))), (0, .ref x), (1, .int (nI e)), (2, .int (nI (10 * e + kt))), (3, .int n), (4, .int s)]) (v := nI (k + 1)) G 1 dX8_candidates_114 rfl (nI_1 k) (by decide) rfl rfl ?_
                refine jv_goto (q := 9) G dX8_candidates_117 (by decide) ?_
                have e1 : m_c0 ts (mt_n tt) n s k = false := by
                  unfold m_c0; rw [ht]; simp_all
                refine jv_lo [0, 2, 3, 4, 5, 6, 7] (lo' := [(6, .int (nI (k + 1))), (5, .int (nI (10 * e))), (0, .ref x), (1, .int (nI e)), (2, .int (nI (10 * e + kt))), (3, .int n), (4, .int s)]) rfl ?_
                exact ih (k + 1) _ ⟨hsc.wI _ rfl, cand_step hc e1⟩ (by omega)
              · refine jv_aload_n (q := 99) G 3 dX8_candidates_98 rfl rfl rfl ?_
                refine jv_getQ (q := 102) G dX8_candidates_99 fl_X8_53 rfl (hsc.S hS).1 (rf_p16 (hsc.S hS)) rfl ?_
                refine jv_iload (q := 104) G 0 dX8_candidates_102 rfl rfl ?_
                refine jv_iald (q := 105) G dX8_candidates_104 (rf_a16 (hsc.S hS)) rfl (by omega) (by decide) (hsc.M hS Mm7).2.2.2.1 rfl ?_
                refine jv_if_leN (q := 108) (tgt := 112) G dX8_candidates_105 (by decide) rfl (by omega) (fun c12 => ?_) (fun c12 => ?_)
                · refine jv_iconst (q := 113) (v := nI 0) G dX8_candidates_112 (by decide) rfl ?_
                  refine jv_topI (y := jv_bI false) rfl ?_
                  refine jv_zast (q := 114) G dX8_candidates_113 (rf_a31 (hsc.S hS)) rfl (by omega) (by decide) rfl ?_
                  refine jv_iinc (q := 117) (lo' := [(6, .int (nI (k + 1))), (7, .int (nI (6 * ((10 * e) + k) + j6))), (5, .int (nI (10 * e))), (0, .ref x), (1, .int (nI e)), (2, .int (nI (10 * e + kt))), (3, .int n), (4, .int s)]) (v := nI (k + 1)) G 1 dX8_candidates_114 rfl (nI_1 k) (by decide) rfl rfl ?_
                  refine jv_goto (q := 9) G dX8_candidates_117 (by decide) ?_
                  have e1 : m_c0 ts (mt_n tt) n s k = false := by
                    unfold m_c0; rw [ht]; simp_all
                  refine jv_lo [0, 2, 3, 4, 5, 6, 7] (lo' := [(6, .int (nI (k + 1))), (5, .int (nI (10 * e))), (0, .ref x), (1, .int (nI e)), (2, .int (nI (10 * e + kt))), (3, .int n), (4, .int s)]) rfl ?_
                  exact ih (k + 1) _ ⟨hsc.wI _ rfl, cand_step hc e1⟩ (by omega)
                · refine jv_iconst (q := 109) (v := nI 1) G dX8_candidates_108 (by decide) rfl ?_
                  refine jv_goto (q := 113) G dX8_candidates_109 (by decide) ?_
                  refine jv_topI (y := jv_bI true) rfl ?_
                  refine jv_zast (q := 114) G dX8_candidates_113 (rf_a31 (hsc.S hS)) rfl (by omega) (by decide) rfl ?_
                  refine jv_iinc (q := 117) (lo' := [(6, .int (nI (k + 1))), (7, .int (nI (6 * ((10 * e) + k) + j6))), (5, .int (nI (10 * e))), (0, .ref x), (1, .int (nI e)), (2, .int (nI (10 * e + kt))), (3, .int n), (4, .int s)]) (v := nI (k + 1)) G 1 dX8_candidates_114 rfl (nI_1 k) (by decide) rfl rfl ?_
                  refine jv_goto (q := 9) G dX8_candidates_117 (by decide) ?_
                  have e1 : m_c0 ts (mt_n tt) n s k = true := by
                    unfold m_c0; rw [ht]; simp_all
                  refine jv_lo [0, 2, 3, 4, 5, 6, 7] (lo' := [(6, .int (nI (k + 1))), (5, .int (nI (10 * e))), (0, .ref x), (1, .int (nI e)), (2, .int (nI (10 * e + kt))), (3, .int n), (4, .int s)]) rfl ?_
                  exact ih (k + 1) _ ⟨hsc.wI _ rfl, cand_step hc e1⟩ (by omega)
set_option maxHeartbeats 4000000 in
set_option maxRecDepth 100000 in
theorem r_candidates {lA : Launch} (hlt : lA.stackTraces = false) {D : jv_D} {base : Nat} {x : Nat} {q : Nat → Nat} {h0 h : jv_H} {e kt : Nat} {n s : Int32} {ts : List mT} {tt : mT} (hsc : sc x q h0 h) (hS : rf_S x q h0) (he : e < 8) (hE : rf_E q h0 e ts) (hV : rf_V q h0 e ts) (hkt : ts[kt]? = some tt) : jv_Met lA D base yX8_candidates (.code yX8_candidates cX8_candidates 10 (some .int)) 3 0 0 [.ref x, .int (nI e), .int (nI (10 * e + kt)), .int n, .int s] h (fun v h' => v = some (.int (nI (fb_ct (m_cd ts (mt_n tt) n s) ts.length))) ∧ sc x q h0 h' ∧ ∀ i, i < ts.length → jv_I h' (q 31) i = jv_bI (m_cd ts (mt_n tt) n s i)) jv_no := by
  refine jv_ofV (lo := [(0, .ref x), (1, .int (nI e)), (2, .int (nI (10 * e + kt))), (3, .int n), (4, .int s)]) hlt (by decide) (Nat.le_of_ble_eq_true rfl) rfl (fun E hEl hEd hEz Z G hr ht hnm => ?_)
  subst hEl; subst hEd; subst hEz
  refine jv_bipush (q := 2) (v := nI 10) G dX8_candidates_0 (by decide) rfl ?_
  refine jv_iload_n (q := 3) G 1 dX8_candidates_2 rfl rfl rfl ?_
  refine jv_imulN (q := 4) G dX8_candidates_3 rfl ?_
  refine jv_istore (q := 6) (lo' := [(5, .int (nI (10 * e))), (0, .ref x), (1, .int (nI e)), (2, .int (nI (10 * e + kt))), (3, .int n), (4, .int s)]) G dX8_candidates_4 (by decide) rfl rfl ?_
  refine jv_iconst (q := 7) (v := nI 0) G dX8_candidates_6 (by decide) rfl ?_
  refine jv_istore (q := 9) (lo' := [(6, .int (nI 0)), (5, .int (nI (10 * e))), (0, .ref x), (1, .int (nI e)), (2, .int (nI (10 * e + kt))), (3, .int n), (4, .int s)]) G dX8_candidates_7 (by decide) rfl rfl ?_
  exact r_cd1 hlt G Z hr hS he hE hV hkt ts.length 0 h ⟨hsc, fun i hi => by omega⟩ (by omega)
