set_option maxHeartbeats 4000000 in
set_option maxRecDepth 100000 in
theorem r_tt_m1 {E : jv_E} {Q : State → Prop} {x : Nat} {q : Nat → Nat} {h1 : jv_H} {a b t i i2 o : Nat} {tx : mT} (hS : rf_S x q h1) (ha : 10 * a + i < 80) (hTx : rf_T q h1 (10 * a + i) tx) (hOx : mt_ok tx) (G : jv_C E cX8_tellType RX8 7) (hK : jv_V E 7 h1 0 0 Q 160 [(4, .int (nI (m_mk (mt_f tx) (mt_f tx).length))), (5, .int (nI o)), (0, .ref x), (1, .int (nI t)), (2, .int (nI (10 * a + i))), (3, .int (nI (10 * b + i2)))] []) : ∀ (m n : Nat), n + m = (mt_f tx).length → jv_V E 7 h1 0 0 Q 125 [(6, .int (nI n)), (4, .int (nI (m_mk (mt_f tx) n))), (5, .int (nI o)), (0, .ref x), (1, .int (nI t)), (2, .int (nI (10 * a + i))), (3, .int (nI (10 * b + i2)))] [] := by
  have hl3 := hOx.2.2.2.1
  intro m
  induction m with
  | zero =>
    intro n hm
    refine jv_iload (q := 127) G 0 dX8_tellType_125 rfl rfl ?_
    refine jv_aload_n (q := 128) G 3 dX8_tellType_127 rfl rfl rfl ?_
    refine jv_getQ (q := 131) G dX8_tellType_128 fl_X8_35 rfl hS.1 (rf_p10 hS) rfl ?_
    refine jv_iload_n (q := 132) G 5 dX8_tellType_131 rfl rfl rfl ?_
    refine jv_iald (q := 133) G dX8_tellType_132 (rf_a10 hS) rfl (by omega) (by decide) (rt_10 hTx) rfl ?_
    refine jv_icmp_geN (q := 136) (tgt := 160) G dX8_tellType_133 (by decide) rfl (by omega) (by omega) (fun c1 => ?_) (fun c1 => ?_)
    · refine jv_lo [1, 2, 3, 4, 5, 6] (lo' := [(4, .int (nI (m_mk (mt_f tx) n))), (5, .int (nI o)), (0, .ref x), (1, .int (nI t)), (2, .int (nI (10 * a + i))), (3, .int (nI (10 * b + i2)))]) rfl ?_
      rw [show n = (mt_f tx).length by omega]; exact hK
    · omega
  | succ m ih =>
    intro n hm
    obtain ⟨v, hv⟩ := jv_getLt (l := mt_f tx) (k := n) (by omega)
    have hv11 := rt_11 hTx hv
    have hv16 := hOx.2.2.2.2.1 v (List.mem_of_getElem? hv)
    refine jv_iload (q := 127) G 0 dX8_tellType_125 rfl rfl ?_
    refine jv_aload_n (q := 128) G 3 dX8_tellType_127 rfl rfl rfl ?_
    refine jv_getQ (q := 131) G dX8_tellType_128 fl_X8_35 rfl hS.1 (rf_p10 hS) rfl ?_
    refine jv_iload_n (q := 132) G 5 dX8_tellType_131 rfl rfl rfl ?_
    refine jv_iald (q := 133) G dX8_tellType_132 (rf_a10 hS) rfl (by omega) (by decide) (rt_10 hTx) rfl ?_
    refine jv_icmp_geN (q := 136) (tgt := 160) G dX8_tellType_133 (by decide) rfl (by omega) (by omega) (fun c1 => ?_) (fun c1 => ?_)
    · omega
    · refine jv_iload (q := 138) G 1 dX8_tellType_136 rfl rfl ?_
      refine jv_iconst (q := 139) (v := nI 1) G dX8_tellType_138 (by decide) rfl ?_
      refine jv_aload_n (q := 140) G 3 dX8_tellType_139 rfl rfl rfl ?_
      refine jv_getQ (q := 143) G dX8_tellType_140 fl_X8_38 rfl hS.1 (rf_p11 hS) rfl ?_
      refine jv_iconst (q := 144) (v := nI 3) G dX8_tellType_143 (by decide) rfl ?_
      refine jv_iload_n (q := 145) G 5 dX8_tellType_144 rfl rfl rfl ?_
      refine jv_imulN (q := 146) G dX8_tellType_145 rfl ?_
      refine jv_iload (q := 148) G 0 dX8_tellType_146 rfl rfl ?_
      refine jv_iaddN (q := 149) G dX8_tellType_148 rfl ?_
      refine jv_iald (q := 150) G dX8_tellType_149 (rf_a11 hS) rfl (by omega) (by decide) hv11 rfl ?_
      refine jv_ishlN (q := 151) G dX8_tellType_150 (by omega) rfl ?_
      refine jv_iorN (q := 152) G dX8_tellType_151 rfl ?_
      refine jv_istore (q := 154) (lo' := [(4, .int (nI ((m_mk (mt_f tx) n) ||| (2 ^ v)))), (6, .int (nI n)), (5, .int (nI o)), (0, .ref x), (1, .int (nI t)), (2, .int (nI (10 * a + i))), (3, .int (nI (10 * b + i2)))]) G dX8_tellType_152 (by decide) rfl rfl ?_
      refine jv_iinc (q := 157) (lo' := [(6, .int (nI (n + 1))), (4, .int (nI ((m_mk (mt_f tx) n) ||| (2 ^ v)))), (5, .int (nI o)), (0, .ref x), (1, .int (nI t)), (2, .int (nI (10 * a + i))), (3, .int (nI (10 * b + i2)))]) (v := nI (n + 1)) G 1 dX8_tellType_154 rfl (nI_1 n) (by decide) rfl rfl ?_
      refine jv_goto (q := 125) G dX8_tellType_157 (by decide) ?_
      refine jv_lo [0, 1, 2, 3, 4, 5, 6] (lo' := [(6, .int (nI (n + 1))), (4, .int (nI ((m_mk (mt_f tx) n) ||| (2 ^ v)))), (5, .int (nI o)), (0, .ref x), (1, .int (nI t)), (2, .int (nI (10 * a + i))), (3, .int (nI (10 * b + i2)))]) rfl ?_
      have ea : m_mk (mt_f tx) n ||| 2 ^ v = m_mk (mt_f tx) (n + 1) := by rw [m_mk, hv]; rfl
      rw [ea]; exact ih (n + 1) (by omega)
set_option maxHeartbeats 4000000 in
set_option maxRecDepth 100000 in
theorem r_tt_m2 {E : jv_E} {Q : State → Prop} {x : Nat} {q : Nat → Nat} {h1 : jv_H} {a b t i i2 o : Nat} {ty : mT} (hS : rf_S x q h1) (ha : 10 * b + i2 < 80) (hTy : rf_T q h1 (10 * b + i2) ty) (hOy : mt_ok ty) (G : jv_C E cX8_tellType RX8 7) (hK : jv_V E 7 h1 0 0 Q 198 [(5, .int (nI (m_mk (mt_f ty) (mt_f ty).length))), (4, .int (nI o)), (0, .ref x), (1, .int (nI t)), (2, .int (nI (10 * a + i))), (3, .int (nI (10 * b + i2)))] []) : ∀ (m n : Nat), n + m = (mt_f ty).length → jv_V E 7 h1 0 0 Q 163 [(6, .int (nI n)), (5, .int (nI (m_mk (mt_f ty) n))), (4, .int (nI o)), (0, .ref x), (1, .int (nI t)), (2, .int (nI (10 * a + i))), (3, .int (nI (10 * b + i2)))] [] := by
  have hl3 := hOy.2.2.2.1
  intro m
  induction m with
  | zero =>
    intro n hm
    refine jv_iload (q := 165) G 0 dX8_tellType_163 rfl rfl ?_
    refine jv_aload_n (q := 166) G 3 dX8_tellType_165 rfl rfl rfl ?_
    refine jv_getQ (q := 169) G dX8_tellType_166 fl_X8_35 rfl hS.1 (rf_p10 hS) rfl ?_
    refine jv_iload_n (q := 170) G 6 dX8_tellType_169 rfl rfl rfl ?_
    refine jv_iald (q := 171) G dX8_tellType_170 (rf_a10 hS) rfl (by omega) (by decide) (rt_10 hTy) rfl ?_
    refine jv_icmp_geN (q := 174) (tgt := 198) G dX8_tellType_171 (by decide) rfl (by omega) (by omega) (fun c1 => ?_) (fun c1 => ?_)
    · refine jv_lo [1, 2, 3, 4, 5, 6] (lo' := [(5, .int (nI (m_mk (mt_f ty) n))), (4, .int (nI o)), (0, .ref x), (1, .int (nI t)), (2, .int (nI (10 * a + i))), (3, .int (nI (10 * b + i2)))]) rfl ?_
      rw [show n = (mt_f ty).length by omega]; exact hK
    · omega
  | succ m ih =>
    intro n hm
    obtain ⟨v, hv⟩ := jv_getLt (l := mt_f ty) (k := n) (by omega)
    have hv11 := rt_11 hTy hv
    have hv16 := hOy.2.2.2.2.1 v (List.mem_of_getElem? hv)
    refine jv_iload (q := 165) G 0 dX8_tellType_163 rfl rfl ?_
    refine jv_aload_n (q := 166) G 3 dX8_tellType_165 rfl rfl rfl ?_
    refine jv_getQ (q := 169) G dX8_tellType_166 fl_X8_35 rfl hS.1 (rf_p10 hS) rfl ?_
    refine jv_iload_n (q := 170) G 6 dX8_tellType_169 rfl rfl rfl ?_
    refine jv_iald (q := 171) G dX8_tellType_170 (rf_a10 hS) rfl (by omega) (by decide) (rt_10 hTy) rfl ?_
    refine jv_icmp_geN (q := 174) (tgt := 198) G dX8_tellType_171 (by decide) rfl (by omega) (by omega) (fun c1 => ?_) (fun c1 => ?_)
    · omega
    · refine jv_iload (q := 176) G 1 dX8_tellType_174 rfl rfl ?_
      refine jv_iconst (q := 177) (v := nI 1) G dX8_tellType_176 (by decide) rfl ?_
      refine jv_aload_n (q := 178) G 3 dX8_tellType_177 rfl rfl rfl ?_
      refine jv_getQ (q := 181) G dX8_tellType_178 fl_X8_38 rfl hS.1 (rf_p11 hS) rfl ?_
      refine jv_iconst (q := 182) (v := nI 3) G dX8_tellType_181 (by decide) rfl ?_
      refine jv_iload_n (q := 183) G 6 dX8_tellType_182 rfl rfl rfl ?_
      refine jv_imulN (q := 184) G dX8_tellType_183 rfl ?_
      refine jv_iload (q := 186) G 0 dX8_tellType_184 rfl rfl ?_
      refine jv_iaddN (q := 187) G dX8_tellType_186 rfl ?_
      refine jv_iald (q := 188) G dX8_tellType_187 (rf_a11 hS) rfl (by omega) (by decide) hv11 rfl ?_
      refine jv_ishlN (q := 189) G dX8_tellType_188 (by omega) rfl ?_
      refine jv_iorN (q := 190) G dX8_tellType_189 rfl ?_
      refine jv_istore (q := 192) (lo' := [(5, .int (nI ((m_mk (mt_f ty) n) ||| (2 ^ v)))), (6, .int (nI n)), (4, .int (nI o)), (0, .ref x), (1, .int (nI t)), (2, .int (nI (10 * a + i))), (3, .int (nI (10 * b + i2)))]) G dX8_tellType_190 (by decide) rfl rfl ?_
      refine jv_iinc (q := 195) (lo' := [(6, .int (nI (n + 1))), (5, .int (nI ((m_mk (mt_f ty) n) ||| (2 ^ v)))), (4, .int (nI o)), (0, .ref x), (1, .int (nI t)), (2, .int (nI (10 * a + i))), (3, .int (nI (10 * b + i2)))]) (v := nI (n + 1)) G 1 dX8_tellType_192 rfl (nI_1 n) (by decide) rfl rfl ?_
      refine jv_goto (q := 163) G dX8_tellType_195 (by decide) ?_
      refine jv_lo [0, 1, 2, 3, 4, 5, 6] (lo' := [(6, .int (nI (n + 1))), (5, .int (nI ((m_mk (mt_f ty) n) ||| (2 ^ v)))), (4, .int (nI o)), (0, .ref x), (1, .int (nI t)), (2, .int (nI (10 * a + i))), (3, .int (nI (10 * b + i2)))]) rfl ?_
      have ea : m_mk (mt_f ty) n ||| 2 ^ v = m_mk (mt_f ty) (n + 1) := by rw [m_mk, hv]; rfl
      rw [ea]; exact ih (n + 1) (by omega)
set_option maxHeartbeats 4000000 in
set_option maxRecDepth 100000 in
theorem r_tt_116 {E : jv_E} {x : Nat} {q : Nat → Nat} {h : jv_H} {a b t i i2 : Nat} {A B : List mT} {tx ty : mT} (hS0 : rf_S x q h) (ha : a < 8) (hb : b < 8) (ht16 : t < 16) (hEA : rf_E q h a A) (hEB : rf_E q h b B) (hti : A[i]? = some tx) (hty : B[i2]? = some ty) (hlt : (jv_l E).stackTraces = false) (G : jv_C E cX8_tellType RX8 7) (Z : jv_rm E = jv_room 2 0 0) (hr : (jv_mt E).sig.returnType = none) {LT L : List mR} {h1 : jv_H} (hF : FW (fun k _ => 34 ≤ k ∧ k ≤ 39) (fun j => j = 33) x q h h1) (hD : rf_D q h1 L) (hx : jv_I h1 x 33 = nI L.length) (hLT : LT = L ++ (if m_mk (mt_f tx) (mt_f tx).length = m_mk (mt_f ty) (mt_f ty).length then [] else [(7, t, none, none)] : List mR)) (hL : LT.length < 1390) : jv_V E 7 h1 0 0 (jv_Q E (fun v h' => v = none ∧ FW (fun k _ => 34 ≤ k ∧ k ≤ 39) (fun j => j = 33) x q h h' ∧ rf_D q h' LT ∧ jv_I h' x 33 = nI LT.length) jv_no 0 0) 116 [(0, .ref x), (1, .int (nI t)), (2, .int (nI (10 * a + i))), (3, .int (nI (10 * b + i2)))] [] := by
  have hla := hEA.2.1; have hlb := hEB.2.1; have hil := jv_ltGet hti; have hOx := (hEA.2.2 i tx hti).2; have hTx0 := (hEA.2.2 i tx hti).1; have hi2 := jv_ltGet hty; have hOy := (hEB.2.2 i2 ty hty).2; have hTy0 := (hEB.2.2 i2 ty hty).1
  have hfx := hOx.2.2.2.1; have hfy := hOy.2.2.2.1; have hkx := hOx.2.1; have hky := hOy.2.1
  have hS := hF.S hS0
  have hTx := hF.T hOx (fun k j o => wd_T o) hTx0; have hTy := hF.T hOy (fun k j o => wd_T o) hTy0
  have hL2 : L.length < 1390 := by rw [hLT, List.length_append] at hL; omega
  refine jv_iconst (q := 117) (v := nI 0) G dX8_tellType_116 (by decide) rfl ?_
  refine jv_istore (q := 119) (lo' := [(4, .int (nI 0)), (0, .ref x), (1, .int (nI t)), (2, .int (nI (10 * a + i))), (3, .int (nI (10 * b + i2)))]) G dX8_tellType_117 (by decide) rfl rfl ?_
  refine jv_iconst (q := 120) (v := nI 0) G dX8_tellType_119 (by decide) rfl ?_
  refine jv_istore (q := 122) (lo' := [(5, .int (nI 0)), (4, .int (nI 0)), (0, .ref x), (1, .int (nI t)), (2, .int (nI (10 * a + i))), (3, .int (nI (10 * b + i2)))]) G dX8_tellType_120 (by decide) rfl rfl ?_
  refine jv_iconst (q := 123) (v := nI 0) G dX8_tellType_122 (by decide) rfl ?_
  refine jv_istore (q := 125) (lo' := [(6, .int (nI 0)), (5, .int (nI 0)), (4, .int (nI 0)), (0, .ref x), (1, .int (nI t)), (2, .int (nI (10 * a + i))), (3, .int (nI (10 * b + i2)))]) G dX8_tellType_123 (by decide) rfl rfl ?_
  have e0 : m_mk (mt_f tx) 0 = 0 := rfl
  have bx := m_mk_lt hOx.2.2.2.2.1 (mt_f tx).length; have by_ := m_mk_lt hOy.2.2.2.2.1 (mt_f ty).length
  refine jv_lo [0, 2, 1, 3, 4, 5, 6] (lo' := [(6, .int (nI 0)), (4, .int (nI (m_mk (mt_f tx) 0))), (5, .int (nI 0)), (0, .ref x), (1, .int (nI t)), (2, .int (nI (10 * a + i))), (3, .int (nI (10 * b + i2)))]) rfl ?_
  refine r_tt_m1 hS (by omega) hTx hOx G ?_ (mt_f tx).length 0 (by omega)
  refine jv_iconst (q := 161) (v := nI 0) G dX8_tellType_160 (by decide) rfl ?_
  refine jv_istore (q := 163) (lo' := [(6, .int (nI 0)), (4, .int (nI (m_mk (mt_f tx) (mt_f tx).length))), (5, .int (nI 0)), (0, .ref x), (1, .int (nI t)), (2, .int (nI (10 * a + i))), (3, .int (nI (10 * b + i2)))]) G dX8_tellType_161 (by decide) rfl rfl ?_
  show jv_V E 7 h1 0 0 (jv_Q E (fun v h' => v = none ∧ FW (fun k _ => 34 ≤ k ∧ k ≤ 39) (fun j => j = 33) x q h h' ∧ rf_D q h' LT ∧ jv_I h' x 33 = nI LT.length) jv_no 0 0) 163 [(6, .int (nI 0)), (4, .int (nI (m_mk (mt_f tx) (mt_f tx).length))), (5, .int (nI (m_mk (mt_f ty) 0))), (0, .ref x), (1, .int (nI t)), (2, .int (nI (10 * a + i))), (3, .int (nI (10 * b + i2)))] []
  refine jv_lo [0, 2, 1, 3, 4, 5, 6] (lo' := [(6, .int (nI 0)), (5, .int (nI (m_mk (mt_f ty) 0))), (4, .int (nI (m_mk (mt_f tx) (mt_f tx).length))), (0, .ref x), (1, .int (nI t)), (2, .int (nI (10 * a + i))), (3, .int (nI (10 * b + i2)))]) rfl ?_
  refine r_tt_m2 hS (by omega) hTy hOy G ?_ (mt_f ty).length 0 (by omega)
  refine jv_iload (q := 200) G 1 dX8_tellType_198 rfl rfl ?_
  refine jv_iload (q := 202) G 0 dX8_tellType_200 rfl rfl ?_
  refine jv_icmp_eqN (q := 205) (tgt := 216) G dX8_tellType_202 (by decide) rfl (by omega) (by omega) (fun c1 => ?_) (fun c1 => ?_)
  · refine jv_vret G hr dX8_tellType_216 (Nat.le_of_ble_eq_true rfl) (Nat.le_of_ble_eq_true rfl) ?_
    have eL : L = LT := by rw [hLT, if_pos c1]; simp
    rw [eL] at hD hx
    exact ⟨rfl, hF, hD, hx⟩
  · refine jv_aload_n (q := 206) G 2 dX8_tellType_205 rfl rfl rfl ?_
    refine jv_bipush (q := 208) (v := nI 7) G dX8_tellType_206 (by decide) rfl ?_
    refine jv_iload_n (q := 209) G 3 dX8_tellType_208 rfl rfl rfl ?_
    refine jv_iconst (q := 210) (v := (-1)) G dX8_tellType_209 (by decide) rfl ?_
    refine jv_iconst (q := 211) (v := (-1)) G dX8_tellType_210 (by decide) rfl ?_
    refine jv_iconst (q := 212) (v := (-1)) G dX8_tellType_211 (by decide) rfl ?_
    refine jv_iconst (q := 213) (v := nI 0) G dX8_tellType_212 (by decide) rfl ?_
    refine jv_callV (q := 216) (As := [.int (nI 7), .int (nI t), .int (-1), .int (-1), .int (-1), .int (nI 0)]) (rest := []) G Z ml_X8_231 (r_tell (r := (7, t, none, none)) hlt hS hD hx (by first | omega | (simp only [List.length_append, List.length_cons, List.length_nil]; omega))) hS.1 dX8_tellType_213 rfl (by decide) (by decide) (by decide) (by decide) (Nat.le_of_ble_eq_true rfl) rfl rfl (fun v3 h2 y4 => ?_) (fun _ _ hx => hx.elim)
    obtain ⟨rfl, hFt, hD, hx⟩ := y4
    show jv_V E 7 h2 0 0 (jv_Q E (fun v h' => v = none ∧ FW (fun k _ => 34 ≤ k ∧ k ≤ 39) (fun j => j = 33) x q h h' ∧ rf_D q h' LT ∧ jv_I h' x 33 = nI LT.length) jv_no 0 0) 216 [(5, .int (nI (m_mk (mt_f ty) (mt_f ty).length))), (4, .int (nI (m_mk (mt_f tx) (mt_f tx).length))), (0, .ref x), (1, .int (nI t)), (2, .int (nI (10 * a + i))), (3, .int (nI (10 * b + i2)))] []
    have hF := hF.tr (hFt.mono (W' := (fun k _ => 34 ≤ k ∧ k ≤ 39)) (X' := (fun j => j = 33)) (fun k j o => ⟨o.1, o.2.1⟩) (fun _ z => z))
    have hS := hFt.S hS
    have hx := hx.trans (congrArg nI (show _ = (L ++ [(7, t, none, none)]).length by simp))
    have hTx := hF.T hOx (fun k j o => wd_T o) hTx0; have hTy := hF.T hOy (fun k j o => wd_T o) hTy0
    refine jv_vret G hr dX8_tellType_216 (Nat.le_of_ble_eq_true rfl) (Nat.le_of_ble_eq_true rfl) ?_
    have eL : (L ++ [(7, t, none, none)]) = LT := by rw [hLT, if_neg c1]
    rw [eL] at hD hx
    exact ⟨rfl, hF, hD, hx⟩
set_option maxHeartbeats 4000000 in
set_option maxRecDepth 100000 in
theorem r_tt_90 {E : jv_E} {x : Nat} {q : Nat → Nat} {h : jv_H} {a b t i i2 : Nat} {A B : List mT} {tx ty : mT} (hS0 : rf_S x q h) (ha : a < 8) (hb : b < 8) (ht16 : t < 16) (hEA : rf_E q h a A) (hEB : rf_E q h b B) (hti : A[i]? = some tx) (hty : B[i2]? = some ty) (hlt : (jv_l E).stackTraces = false) (G : jv_C E cX8_tellType RX8 7) (Z : jv_rm E = jv_room 2 0 0) (hr : (jv_mt E).sig.returnType = none) {LT L : List mR} {h1 : jv_H} (hF : FW (fun k _ => 34 ≤ k ∧ k ≤ 39) (fun j => j = 33) x q h h1) (hD : rf_D q h1 L) (hx : jv_I h1 x 33 = nI L.length) (hLT : LT = L ++ ((if mt_u tx = mt_u ty then [] else [(6, t, none, none)] : List mR) ++ (if m_mk (mt_f tx) (mt_f tx).length = m_mk (mt_f ty) (mt_f ty).length then [] else [(7, t, none, none)] : List mR))) (hL : LT.length < 1390) : jv_V E 7 h1 0 0 (jv_Q E (fun v h' => v = none ∧ FW (fun k _ => 34 ≤ k ∧ k ≤ 39) (fun j => j = 33) x q h h' ∧ rf_D q h' LT ∧ jv_I h' x 33 = nI LT.length) jv_no 0 0) 90 [(0, .ref x), (1, .int (nI t)), (2, .int (nI (10 * a + i))), (3, .int (nI (10 * b + i2)))] [] := by
  have hla := hEA.2.1; have hlb := hEB.2.1; have hil := jv_ltGet hti; have hOx := (hEA.2.2 i tx hti).2; have hTx0 := (hEA.2.2 i tx hti).1; have hi2 := jv_ltGet hty; have hOy := (hEB.2.2 i2 ty hty).2; have hTy0 := (hEB.2.2 i2 ty hty).1
  have hfx := hOx.2.2.2.1; have hfy := hOy.2.2.2.1; have hkx := hOx.2.1; have hky := hOy.2.1
  have hS := hF.S hS0
  have hTx := hF.T hOx (fun k j o => wd_T o) hTx0; have hTy := hF.T hOy (fun k j o => wd_T o) hTy0
  have hL2 : L.length < 1390 := by rw [hLT, List.length_append] at hL; omega
  refine jv_aload_n (q := 91) G 0 dX8_tellType_90 rfl rfl rfl ?_
  refine jv_getQ (q := 94) G dX8_tellType_91 fl_X8_32 rfl hS.1 (rf_p9 hS) rfl ?_
  refine jv_iload_n (q := 95) G 2 dX8_tellType_94 rfl rfl rfl ?_
  refine jv_iald (q := 96) G dX8_tellType_95 (rf_a9 hS) rfl (by omega) (by decide) (rt_9 hTx) rfl ?_
  refine jv_aload_n (q := 97) G 0 dX8_tellType_96 rfl rfl rfl ?_
  refine jv_getQ (q := 100) G dX8_tellType_97 fl_X8_32 rfl hS.1 (rf_p9 hS) rfl ?_
  refine jv_iload_n (q := 101) G 3 dX8_tellType_100 rfl rfl rfl ?_
  refine jv_iald (q := 102) G dX8_tellType_101 (rf_a9 hS) rfl (by omega) (by decide) (rt_9 hTy) rfl ?_
  refine jv_icmp_eq (q := 105) (tgt := 116) G dX8_tellType_102 (by decide) rfl (fun c1 => ?_) (fun c1 => ?_)
  · rw [jv_oN_inj (fun k e => by have := (hOx.2.2.1 k e).1; omega) (fun k e => by have := (hOy.2.2.1 k e).1; omega)] at c1
    refine jv_lo [0, 1, 2, 3] (lo' := [(0, .ref x), (1, .int (nI t)), (2, .int (nI (10 * a + i))), (3, .int (nI (10 * b + i2)))]) rfl ?_
    refine r_tt_116 hS0 ha hb ht16 hEA hEB hti hty hlt G Z hr hF hD hx ?_ hL
    rw [hLT]
    rw [if_pos c1, List.nil_append]
  · rw [jv_oN_inj (fun k e => by have := (hOx.2.2.1 k e).1; omega) (fun k e => by have := (hOy.2.2.1 k e).1; omega)] at c1
    refine jv_aload_n (q := 106) G 0 dX8_tellType_105 rfl rfl rfl ?_
    refine jv_bipush (q := 108) (v := nI 6) G dX8_tellType_106 (by decide) rfl ?_
    refine jv_iload_n (q := 109) G 1 dX8_tellType_108 rfl rfl rfl ?_
    refine jv_iconst (q := 110) (v := (-1)) G dX8_tellType_109 (by decide) rfl ?_
    refine jv_iconst (q := 111) (v := (-1)) G dX8_tellType_110 (by decide) rfl ?_
    refine jv_iconst (q := 112) (v := (-1)) G dX8_tellType_111 (by decide) rfl ?_
    refine jv_iconst (q := 113) (v := nI 0) G dX8_tellType_112 (by decide) rfl ?_
    refine jv_callV (q := 116) (As := [.int (nI 6), .int (nI t), .int (-1), .int (-1), .int (-1), .int (nI 0)]) (rest := []) G Z ml_X8_231 (r_tell (r := (6, t, none, none)) hlt hS hD hx (by first | omega | (simp only [List.length_append, List.length_cons, List.length_nil]; omega))) hS.1 dX8_tellType_113 rfl (by decide) (by decide) (by decide) (by decide) (Nat.le_of_ble_eq_true rfl) rfl rfl (fun v3 h2 y4 => ?_) (fun _ _ hx => hx.elim)
    obtain ⟨rfl, hFt, hD, hx⟩ := y4
    show jv_V E 7 h2 0 0 (jv_Q E (fun v h' => v = none ∧ FW (fun k _ => 34 ≤ k ∧ k ≤ 39) (fun j => j = 33) x q h h' ∧ rf_D q h' LT ∧ jv_I h' x 33 = nI LT.length) jv_no 0 0) 116 [(0, .ref x), (1, .int (nI t)), (2, .int (nI (10 * a + i))), (3, .int (nI (10 * b + i2)))] []
    have hF := hF.tr (hFt.mono (W' := (fun k _ => 34 ≤ k ∧ k ≤ 39)) (X' := (fun j => j = 33)) (fun k j o => ⟨o.1, o.2.1⟩) (fun _ z => z))
    have hS := hFt.S hS
    have hx := hx.trans (congrArg nI (show _ = (L ++ [(6, t, none, none)]).length by simp))
    have hTx := hF.T hOx (fun k j o => wd_T o) hTx0; have hTy := hF.T hOy (fun k j o => wd_T o) hTy0
    refine jv_lo [0, 1, 2, 3] (lo' := [(0, .ref x), (1, .int (nI t)), (2, .int (nI (10 * a + i))), (3, .int (nI (10 * b + i2)))]) rfl ?_
    refine r_tt_116 hS0 ha hb ht16 hEA hEB hti hty hlt G Z hr hF hD hx ?_ hL
    rw [hLT]
    rw [if_neg (fun e => c1 e), List.append_assoc]
set_option maxHeartbeats 4000000 in
set_option maxRecDepth 100000 in
theorem r_tt_50 {E : jv_E} {x : Nat} {q : Nat → Nat} {h : jv_H} {a b t i i2 : Nat} {A B : List mT} {tx ty : mT} (hS0 : rf_S x q h) (ha : a < 8) (hb : b < 8) (ht16 : t < 16) (hEA : rf_E q h a A) (hEB : rf_E q h b B) (hti : A[i]? = some tx) (hty : B[i2]? = some ty) (hlt : (jv_l E).stackTraces = false) (G : jv_C E cX8_tellType RX8 7) (Z : jv_rm E = jv_room 2 0 0) (hr : (jv_mt E).sig.returnType = none) {LT L : List mR} {h1 : jv_H} (hF : FW (fun k _ => 34 ≤ k ∧ k ≤ 39) (fun j => j = 33) x q h h1) (hD : rf_D q h1 L) (hx : jv_I h1 x 33 = nI L.length) (hLT : LT = L ++ ((if mt_k tx = mt_k ty ∧ mt_p tx = mt_p ty then [] else [(5, t, none, none)] : List mR) ++ ((if mt_u tx = mt_u ty then [] else [(6, t, none, none)] : List mR) ++ (if m_mk (mt_f tx) (mt_f tx).length = m_mk (mt_f ty) (mt_f ty).length then [] else [(7, t, none, none)] : List mR)))) (hL : LT.length < 1390) : jv_V E 7 h1 0 0 (jv_Q E (fun v h' => v = none ∧ FW (fun k _ => 34 ≤ k ∧ k ≤ 39) (fun j => j = 33) x q h h' ∧ rf_D q h' LT ∧ jv_I h' x 33 = nI LT.length) jv_no 0 0) 50 [(0, .ref x), (1, .int (nI t)), (2, .int (nI (10 * a + i))), (3, .int (nI (10 * b + i2)))] [] := by
  have hla := hEA.2.1; have hlb := hEB.2.1; have hil := jv_ltGet hti; have hOx := (hEA.2.2 i tx hti).2; have hTx0 := (hEA.2.2 i tx hti).1; have hi2 := jv_ltGet hty; have hOy := (hEB.2.2 i2 ty hty).2; have hTy0 := (hEB.2.2 i2 ty hty).1
  have hfx := hOx.2.2.2.1; have hfy := hOy.2.2.2.1; have hkx := hOx.2.1; have hky := hOy.2.1
  have hS := hF.S hS0
  have hTx := hF.T hOx (fun k j o => wd_T o) hTx0; have hTy := hF.T hOy (fun k j o => wd_T o) hTy0
  have hL2 : L.length < 1390 := by rw [hLT, List.length_append] at hL; omega
  refine jv_aload_n (q := 51) G 0 dX8_tellType_50 rfl rfl rfl ?_
  refine jv_getQ (q := 54) G dX8_tellType_51 fl_X8_26 rfl hS.1 (rf_p7 hS) rfl ?_
  refine jv_iload_n (q := 55) G 2 dX8_tellType_54 rfl rfl rfl ?_
  refine jv_iald (q := 56) G dX8_tellType_55 (rf_a7 hS) rfl (by omega) (by decide) (rt_7 hTx) rfl ?_
  refine jv_aload_n (q := 57) G 0 dX8_tellType_56 rfl rfl rfl ?_
  refine jv_getQ (q := 60) G dX8_tellType_57 fl_X8_26 rfl hS.1 (rf_p7 hS) rfl ?_
  refine jv_iload_n (q := 61) G 3 dX8_tellType_60 rfl rfl rfl ?_
  refine jv_iald (q := 62) G dX8_tellType_61 (rf_a7 hS) rfl (by omega) (by decide) (rt_7 hTy) rfl ?_
  refine jv_icmp_neN (q := 65) (tgt := 80) G dX8_tellType_62 (by decide) rfl (by omega) (by omega) (fun c1 => ?_) (fun c1 => ?_)
  · refine jv_aload_n (q := 81) G 0 dX8_tellType_80 rfl rfl rfl ?_
    refine jv_iconst (q := 82) (v := nI 5) G dX8_tellType_81 (by decide) rfl ?_
    refine jv_iload_n (q := 83) G 1 dX8_tellType_82 rfl rfl rfl ?_
    refine jv_iconst (q := 84) (v := (-1)) G dX8_tellType_83 (by decide) rfl ?_
    refine jv_iconst (q := 85) (v := (-1)) G dX8_tellType_84 (by decide) rfl ?_
    refine jv_iconst (q := 86) (v := (-1)) G dX8_tellType_85 (by decide) rfl ?_
    refine jv_iconst (q := 87) (v := nI 0) G dX8_tellType_86 (by decide) rfl ?_
    refine jv_callV (q := 90) (As := [.int (nI 5), .int (nI t), .int (-1), .int (-1), .int (-1), .int (nI 0)]) (rest := []) G Z ml_X8_231 (r_tell (r := (5, t, none, none)) hlt hS hD hx (by first | omega | (simp only [List.length_append, List.length_cons, List.length_nil]; omega))) hS.1 dX8_tellType_87 rfl (by decide) (by decide) (by decide) (by decide) (Nat.le_of_ble_eq_true rfl) rfl rfl (fun v3 h2 y4 => ?_) (fun _ _ hx => hx.elim)
    obtain ⟨rfl, hFt, hD, hx⟩ := y4
    show jv_V E 7 h2 0 0 (jv_Q E (fun v h' => v = none ∧ FW (fun k _ => 34 ≤ k ∧ k ≤ 39) (fun j => j = 33) x q h h' ∧ rf_D q h' LT ∧ jv_I h' x 33 = nI LT.length) jv_no 0 0) 90 [(0, .ref x), (1, .int (nI t)), (2, .int (nI (10 * a + i))), (3, .int (nI (10 * b + i2)))] []
    have hF := hF.tr (hFt.mono (W' := (fun k _ => 34 ≤ k ∧ k ≤ 39)) (X' := (fun j => j = 33)) (fun k j o => ⟨o.1, o.2.1⟩) (fun _ z => z))
    have hS := hFt.S hS
    have hx := hx.trans (congrArg nI (show _ = (L ++ [(5, t, none, none)]).length by simp))
    have hTx := hF.T hOx (fun k j o => wd_T o) hTx0; have hTy := hF.T hOy (fun k j o => wd_T o) hTy0
    refine jv_lo [0, 1, 2, 3] (lo' := [(0, .ref x), (1, .int (nI t)), (2, .int (nI (10 * a + i))), (3, .int (nI (10 * b + i2)))]) rfl ?_
    refine r_tt_90 hS0 ha hb ht16 hEA hEB hti hty hlt G Z hr hF hD hx ?_ hL
    rw [hLT]
    rw [if_neg (fun e => c1 e.1), List.append_assoc]
  · refine jv_aload_n (q := 66) G 0 dX8_tellType_65 rfl rfl rfl ?_
    refine jv_getQ (q := 69) G dX8_tellType_66 fl_X8_29 rfl hS.1 (rf_p8 hS) rfl ?_
    refine jv_iload_n (q := 70) G 2 dX8_tellType_69 rfl rfl rfl ?_
    refine jv_zald (q := 71) G dX8_tellType_70 (rf_a8 hS) rfl (by omega) (by decide) (rt_8 hTx) rfl ?_
    refine jv_aload_n (q := 72) G 0 dX8_tellType_71 rfl rfl rfl ?_
    refine jv_getQ (q := 75) G dX8_tellType_72 fl_X8_29 rfl hS.1 (rf_p8 hS) rfl ?_
    refine jv_iload_n (q := 76) G 3 dX8_tellType_75 rfl rfl rfl ?_
    refine jv_zald (q := 77) G dX8_tellType_76 (rf_a8 hS) rfl (by omega) (by decide) (rt_8 hTy) rfl ?_
    refine jv_icmp_eqB (q := 80) (tgt := 90) G dX8_tellType_77 (by decide) rfl (fun c5 => ?_) (fun c5 => ?_)
    · refine jv_lo [0, 1, 2, 3] (lo' := [(0, .ref x), (1, .int (nI t)), (2, .int (nI (10 * a + i))), (3, .int (nI (10 * b + i2)))]) rfl ?_
      refine r_tt_90 hS0 ha hb ht16 hEA hEB hti hty hlt G Z hr hF hD hx ?_ hL
      rw [hLT]
      rw [if_pos ⟨c1, c5⟩, List.nil_append]
    · refine jv_aload_n (q := 81) G 0 dX8_tellType_80 rfl rfl rfl ?_
      refine jv_iconst (q := 82) (v := nI 5) G dX8_tellType_81 (by decide) rfl ?_
      refine jv_iload_n (q := 83) G 1 dX8_tellType_82 rfl rfl rfl ?_
      refine jv_iconst (q := 84) (v := (-1)) G dX8_tellType_83 (by decide) rfl ?_
      refine jv_iconst (q := 85) (v := (-1)) G dX8_tellType_84 (by decide) rfl ?_
      refine jv_iconst (q := 86) (v := (-1)) G dX8_tellType_85 (by decide) rfl ?_
      refine jv_iconst (q := 87) (v := nI 0) G dX8_tellType_86 (by decide) rfl ?_
      refine jv_callV (q := 90) (As := [.int (nI 5), .int (nI t), .int (-1), .int (-1), .int (-1), .int (nI 0)]) (rest := []) G Z ml_X8_231 (r_tell (r := (5, t, none, none)) hlt hS hD hx (by first | omega | (simp only [List.length_append, List.length_cons, List.length_nil]; omega))) hS.1 dX8_tellType_87 rfl (by decide) (by decide) (by decide) (by decide) (Nat.le_of_ble_eq_true rfl) rfl rfl (fun v7 h6 y8 => ?_) (fun _ _ hx => hx.elim)
      obtain ⟨rfl, hFt, hD, hx⟩ := y8
      show jv_V E 7 h6 0 0 (jv_Q E (fun v h' => v = none ∧ FW (fun k _ => 34 ≤ k ∧ k ≤ 39) (fun j => j = 33) x q h h' ∧ rf_D q h' LT ∧ jv_I h' x 33 = nI LT.length) jv_no 0 0) 90 [(0, .ref x), (1, .int (nI t)), (2, .int (nI (10 * a + i))), (3, .int (nI (10 * b + i2)))] []
      have hF := hF.tr (hFt.mono (W' := (fun k _ => 34 ≤ k ∧ k ≤ 39)) (X' := (fun j => j = 33)) (fun k j o => ⟨o.1, o.2.1⟩) (fun _ z => z))
      have hS := hFt.S hS
      have hx := hx.trans (congrArg nI (show _ = (L ++ [(5, t, none, none)]).length by simp))
      have hTx := hF.T hOx (fun k j o => wd_T o) hTx0; have hTy := hF.T hOy (fun k j o => wd_T o) hTy0
      refine jv_lo [0, 1, 2, 3] (lo' := [(0, .ref x), (1, .int (nI t)), (2, .int (nI (10 * a + i))), (3, .int (nI (10 * b + i2)))]) rfl ?_
      refine r_tt_90 hS0 ha hb ht16 hEA hEB hti hty hlt G Z hr hF hD hx ?_ hL
      rw [hLT]
      rw [if_neg (fun e => c5 e.2), List.append_assoc]
set_option maxHeartbeats 4000000 in
set_option maxRecDepth 100000 in
theorem r_tt_25 {E : jv_E} {x : Nat} {q : Nat → Nat} {h : jv_H} {a b t i i2 : Nat} {A B : List mT} {tx ty : mT} (hS0 : rf_S x q h) (ha : a < 8) (hb : b < 8) (ht16 : t < 16) (hEA : rf_E q h a A) (hEB : rf_E q h b B) (hti : A[i]? = some tx) (hty : B[i2]? = some ty) (hlt : (jv_l E).stackTraces = false) (G : jv_C E cX8_tellType RX8 7) (Z : jv_rm E = jv_room 2 0 0) (hr : (jv_mt E).sig.returnType = none) {LT L : List mR} {h1 : jv_H} (hF : FW (fun k _ => 34 ≤ k ∧ k ≤ 39) (fun j => j = 33) x q h h1) (hD : rf_D q h1 L) (hx : jv_I h1 x 33 = nI L.length) (hLT : LT = L ++ ((if mt_a tx = mt_a ty then [] else [(4, t, none, none)] : List mR) ++ ((if mt_k tx = mt_k ty ∧ mt_p tx = mt_p ty then [] else [(5, t, none, none)] : List mR) ++ ((if mt_u tx = mt_u ty then [] else [(6, t, none, none)] : List mR) ++ (if m_mk (mt_f tx) (mt_f tx).length = m_mk (mt_f ty) (mt_f ty).length then [] else [(7, t, none, none)] : List mR))))) (hL : LT.length < 1390) : jv_V E 7 h1 0 0 (jv_Q E (fun v h' => v = none ∧ FW (fun k _ => 34 ≤ k ∧ k ≤ 39) (fun j => j = 33) x q h h' ∧ rf_D q h' LT ∧ jv_I h' x 33 = nI LT.length) jv_no 0 0) 25 [(0, .ref x), (1, .int (nI t)), (2, .int (nI (10 * a + i))), (3, .int (nI (10 * b + i2)))] [] := by
  have hla := hEA.2.1; have hlb := hEB.2.1; have hil := jv_ltGet hti; have hOx := (hEA.2.2 i tx hti).2; have hTx0 := (hEA.2.2 i tx hti).1; have hi2 := jv_ltGet hty; have hOy := (hEB.2.2 i2 ty hty).2; have hTy0 := (hEB.2.2 i2 ty hty).1
  have hfx := hOx.2.2.2.1; have hfy := hOy.2.2.2.1; have hkx := hOx.2.1; have hky := hOy.2.1
  have hS := hF.S hS0
  have hTx := hF.T hOx (fun k j o => wd_T o) hTx0; have hTy := hF.T hOy (fun k j o => wd_T o) hTy0
  have hL2 : L.length < 1390 := by rw [hLT, List.length_append] at hL; omega
  refine jv_aload_n (q := 26) G 0 dX8_tellType_25 rfl rfl rfl ?_
  refine jv_getQ (q := 29) G dX8_tellType_26 fl_X8_23 rfl hS.1 (rf_p6 hS) rfl ?_
  refine jv_iload_n (q := 30) G 2 dX8_tellType_29 rfl rfl rfl ?_
  refine jv_zald (q := 31) G dX8_tellType_30 (rf_a6 hS) rfl (by omega) (by decide) (rt_6 hTx) rfl ?_
  refine jv_aload_n (q := 32) G 0 dX8_tellType_31 rfl rfl rfl ?_
  refine jv_getQ (q := 35) G dX8_tellType_32 fl_X8_23 rfl hS.1 (rf_p6 hS) rfl ?_
  refine jv_iload_n (q := 36) G 3 dX8_tellType_35 rfl rfl rfl ?_
  refine jv_zald (q := 37) G dX8_tellType_36 (rf_a6 hS) rfl (by omega) (by decide) (rt_6 hTy) rfl ?_
  refine jv_icmp_eqB (q := 40) (tgt := 50) G dX8_tellType_37 (by decide) rfl (fun c1 => ?_) (fun c1 => ?_)
  · refine jv_lo [0, 1, 2, 3] (lo' := [(0, .ref x), (1, .int (nI t)), (2, .int (nI (10 * a + i))), (3, .int (nI (10 * b + i2)))]) rfl ?_
    refine r_tt_50 hS0 ha hb ht16 hEA hEB hti hty hlt G Z hr hF hD hx ?_ hL
    rw [hLT]
    rw [if_pos c1, List.nil_append]
  · refine jv_aload_n (q := 41) G 0 dX8_tellType_40 rfl rfl rfl ?_
    refine jv_iconst (q := 42) (v := nI 4) G dX8_tellType_41 (by decide) rfl ?_
    refine jv_iload_n (q := 43) G 1 dX8_tellType_42 rfl rfl rfl ?_
    refine jv_iconst (q := 44) (v := (-1)) G dX8_tellType_43 (by decide) rfl ?_
    refine jv_iconst (q := 45) (v := (-1)) G dX8_tellType_44 (by decide) rfl ?_
    refine jv_iconst (q := 46) (v := (-1)) G dX8_tellType_45 (by decide) rfl ?_
    refine jv_iconst (q := 47) (v := nI 0) G dX8_tellType_46 (by decide) rfl ?_
    refine jv_callV (q := 50) (As := [.int (nI 4), .int (nI t), .int (-1), .int (-1), .int (-1), .int (nI 0)]) (rest := []) G Z ml_X8_231 (r_tell (r := (4, t, none, none)) hlt hS hD hx (by first | omega | (simp only [List.length_append, List.length_cons, List.length_nil]; omega))) hS.1 dX8_tellType_47 rfl (by decide) (by decide) (by decide) (by decide) (Nat.le_of_ble_eq_true rfl) rfl rfl (fun v3 h2 y4 => ?_) (fun _ _ hx => hx.elim)
    obtain ⟨rfl, hFt, hD, hx⟩ := y4
    show jv_V E 7 h2 0 0 (jv_Q E (fun v h' => v = none ∧ FW (fun k _ => 34 ≤ k ∧ k ≤ 39) (fun j => j = 33) x q h h' ∧ rf_D q h' LT ∧ jv_I h' x 33 = nI LT.length) jv_no 0 0) 50 [(0, .ref x), (1, .int (nI t)), (2, .int (nI (10 * a + i))), (3, .int (nI (10 * b + i2)))] []
    have hF := hF.tr (hFt.mono (W' := (fun k _ => 34 ≤ k ∧ k ≤ 39)) (X' := (fun j => j = 33)) (fun k j o => ⟨o.1, o.2.1⟩) (fun _ z => z))
    have hS := hFt.S hS
    have hx := hx.trans (congrArg nI (show _ = (L ++ [(4, t, none, none)]).length by simp))
    have hTx := hF.T hOx (fun k j o => wd_T o) hTx0; have hTy := hF.T hOy (fun k j o => wd_T o) hTy0
    refine jv_lo [0, 1, 2, 3] (lo' := [(0, .ref x), (1, .int (nI t)), (2, .int (nI (10 * a + i))), (3, .int (nI (10 * b + i2)))]) rfl ?_
    refine r_tt_50 hS0 ha hb ht16 hEA hEB hti hty hlt G Z hr hF hD hx ?_ hL
    rw [hLT]
    rw [if_neg (fun e => c1 e), List.append_assoc]
set_option maxHeartbeats 4000000 in
set_option maxRecDepth 100000 in
theorem r_tt_0 {E : jv_E} {x : Nat} {q : Nat → Nat} {h : jv_H} {a b t i i2 : Nat} {A B : List mT} {tx ty : mT} (hS0 : rf_S x q h) (ha : a < 8) (hb : b < 8) (ht16 : t < 16) (hEA : rf_E q h a A) (hEB : rf_E q h b B) (hti : A[i]? = some tx) (hty : B[i2]? = some ty) (hlt : (jv_l E).stackTraces = false) (G : jv_C E cX8_tellType RX8 7) (Z : jv_rm E = jv_room 2 0 0) (hr : (jv_mt E).sig.returnType = none) {LT L : List mR} {h1 : jv_H} (hF : FW (fun k _ => 34 ≤ k ∧ k ≤ 39) (fun j => j = 33) x q h h1) (hD : rf_D q h1 L) (hx : jv_I h1 x 33 = nI L.length) (hLT : LT = L ++ ((if mt_i tx = mt_i ty then [] else [(3, t, none, none)] : List mR) ++ ((if mt_a tx = mt_a ty then [] else [(4, t, none, none)] : List mR) ++ ((if mt_k tx = mt_k ty ∧ mt_p tx = mt_p ty then [] else [(5, t, none, none)] : List mR) ++ ((if mt_u tx = mt_u ty then [] else [(6, t, none, none)] : List mR) ++ (if m_mk (mt_f tx) (mt_f tx).length = m_mk (mt_f ty) (mt_f ty).length then [] else [(7, t, none, none)] : List mR)))))) (hL : LT.length < 1390) : jv_V E 7 h1 0 0 (jv_Q E (fun v h' => v = none ∧ FW (fun k _ => 34 ≤ k ∧ k ≤ 39) (fun j => j = 33) x q h h' ∧ rf_D q h' LT ∧ jv_I h' x 33 = nI LT.length) jv_no 0 0) 0 [(0, .ref x), (1, .int (nI t)), (2, .int (nI (10 * a + i))), (3, .int (nI (10 * b + i2)))] [] := by
  have hla := hEA.2.1; have hlb := hEB.2.1; have hil := jv_ltGet hti; have hOx := (hEA.2.2 i tx hti).2; have hTx0 := (hEA.2.2 i tx hti).1; have hi2 := jv_ltGet hty; have hOy := (hEB.2.2 i2 ty hty).2; have hTy0 := (hEB.2.2 i2 ty hty).1
  have hfx := hOx.2.2.2.1; have hfy := hOy.2.2.2.1; have hkx := hOx.2.1; have hky := hOy.2.1
  have hS := hF.S hS0
  have hTx := hF.T hOx (fun k j o => wd_T o) hTx0; have hTy := hF.T hOy (fun k j o => wd_T o) hTy0
  have hL2 : L.length < 1390 := by rw [hLT, List.length_append] at hL; omega
  refine jv_aload_n (q := 1) G 0 dX8_tellType_0 rfl rfl rfl ?_
  refine jv_getQ (q := 4) G dX8_tellType_1 fl_X8_20 rfl hS.1 (rf_p5 hS) rfl ?_
  refine jv_iload_n (q := 5) G 2 dX8_tellType_4 rfl rfl rfl ?_
  refine jv_zald (q := 6) G dX8_tellType_5 (rf_a5 hS) rfl (by omega) (by decide) (rt_5 hTx) rfl ?_
  refine jv_aload_n (q := 7) G 0 dX8_tellType_6 rfl rfl rfl ?_
  refine jv_getQ (q := 10) G dX8_tellType_7 fl_X8_20 rfl hS.1 (rf_p5 hS) rfl ?_
  refine jv_iload_n (q := 11) G 3 dX8_tellType_10 rfl rfl rfl ?_
  refine jv_zald (q := 12) G dX8_tellType_11 (rf_a5 hS) rfl (by omega) (by decide) (rt_5 hTy) rfl ?_
  refine jv_icmp_eqB (q := 15) (tgt := 25) G dX8_tellType_12 (by decide) rfl (fun c1 => ?_) (fun c1 => ?_)
  · refine jv_lo [0, 1, 2, 3] (lo' := [(0, .ref x), (1, .int (nI t)), (2, .int (nI (10 * a + i))), (3, .int (nI (10 * b + i2)))]) rfl ?_
    refine r_tt_25 hS0 ha hb ht16 hEA hEB hti hty hlt G Z hr hF hD hx ?_ hL
    rw [hLT]
    rw [if_pos c1, List.nil_append]
  · refine jv_aload_n (q := 16) G 0 dX8_tellType_15 rfl rfl rfl ?_
    refine jv_iconst (q := 17) (v := nI 3) G dX8_tellType_16 (by decide) rfl ?_
    refine jv_iload_n (q := 18) G 1 dX8_tellType_17 rfl rfl rfl ?_
    refine jv_iconst (q := 19) (v := (-1)) G dX8_tellType_18 (by decide) rfl ?_
    refine jv_iconst (q := 20) (v := (-1)) G dX8_tellType_19 (by decide) rfl ?_
    refine jv_iconst (q := 21) (v := (-1)) G dX8_tellType_20 (by decide) rfl ?_
    refine jv_iconst (q := 22) (v := nI 0) G dX8_tellType_21 (by decide) rfl ?_
    refine jv_callV (q := 25) (As := [.int (nI 3), .int (nI t), .int (-1), .int (-1), .int (-1), .int (nI 0)]) (rest := []) G Z ml_X8_231 (r_tell (r := (3, t, none, none)) hlt hS hD hx (by first | omega | (simp only [List.length_append, List.length_cons, List.length_nil]; omega))) hS.1 dX8_tellType_22 rfl (by decide) (by decide) (by decide) (by decide) (Nat.le_of_ble_eq_true rfl) rfl rfl (fun v3 h2 y4 => ?_) (fun _ _ hx => hx.elim)
    obtain ⟨rfl, hFt, hD, hx⟩ := y4
    show jv_V E 7 h2 0 0 (jv_Q E (fun v h' => v = none ∧ FW (fun k _ => 34 ≤ k ∧ k ≤ 39) (fun j => j = 33) x q h h' ∧ rf_D q h' LT ∧ jv_I h' x 33 = nI LT.length) jv_no 0 0) 25 [(0, .ref x), (1, .int (nI t)), (2, .int (nI (10 * a + i))), (3, .int (nI (10 * b + i2)))] []
    have hF := hF.tr (hFt.mono (W' := (fun k _ => 34 ≤ k ∧ k ≤ 39)) (X' := (fun j => j = 33)) (fun k j o => ⟨o.1, o.2.1⟩) (fun _ z => z))
    have hS := hFt.S hS
    have hx := hx.trans (congrArg nI (show _ = (L ++ [(3, t, none, none)]).length by simp))
    have hTx := hF.T hOx (fun k j o => wd_T o) hTx0; have hTy := hF.T hOy (fun k j o => wd_T o) hTy0
    refine jv_lo [0, 1, 2, 3] (lo' := [(0, .ref x), (1, .int (nI t)), (2, .int (nI (10 * a + i))), (3, .int (nI (10 * b + i2)))]) rfl ?_
    refine r_tt_25 hS0 ha hb ht16 hEA hEB hti hty hlt G Z hr hF hD hx ?_ hL
    rw [hLT]
    rw [if_neg (fun e => c1 e), List.append_assoc]
set_option maxHeartbeats 4000000 in
set_option maxRecDepth 100000 in
theorem r_tellType {lA : Launch} (hlt : lA.stackTraces = false) {D : jv_D} {base : Nat} {x : Nat} {q : Nat → Nat} {h : jv_H} {a b t i i2 : Nat} {A B : List mT} {tx ty : mT} (hS0 : rf_S x q h) (ha : a < 8) (hb : b < 8) (ht16 : t < 16) (hEA : rf_E q h a A) (hEB : rf_E q h b B) (hti : A[i]? = some tx) (hty : B[i2]? = some ty) {L : List mR} (hD : rf_D q h L) (hx : jv_I h x 33 = nI L.length) (hL : (L ++ m_dT t tx ty).length < 1390) : jv_Met lA D base yX8_tellType (.code yX8_tellType cX8_tellType 7 none) 2 0 0 [.ref x, .int (nI t), .int (nI (10 * a + i)), .int (nI (10 * b + i2))] h (fun v h' => v = none ∧ FW (fun k _ => 34 ≤ k ∧ k ≤ 39) (fun j => j = 33) x q h h' ∧ rf_D q h' (L ++ m_dT t tx ty) ∧ jv_I h' x 33 = nI (L ++ m_dT t tx ty).length) jv_no := by
  refine jv_ofV (lo := [(0, .ref x), (1, .int (nI t)), (2, .int (nI (10 * a + i))), (3, .int (nI (10 * b + i2)))]) hlt (by decide) (Nat.le_of_ble_eq_true rfl) rfl (fun E hEl hEd hEz Z G hr ht hnm => ?_)
  subst hEl; subst hEd; subst hEz
  refine r_tt_0 hS0 ha hb ht16 hEA hEB hti hty hlt G Z hr FW.rf hD hx ?_ hL
  unfold m_dT
  simp only [List.append_assoc]
