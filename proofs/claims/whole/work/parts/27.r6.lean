theorem ff_own {e k : Nat} {o : Option Nat} : jv_oN (o.map (fun j => 6 * (10 * e + k) + j)) = ffE e (o.map (fun j => (k, j))) := by cases o <;> rfl
/-- the method of the type at k itself or of the nearest of its supers -/
def m_nr (ts : List mT) : Nat → Nat → Int32 → Int32 → Option (Nat × Nat)
  | 0, _, _, _ => none
  | d + 1, k, n, s => match ts[k]? with
    | none => none
    | some t => match m_own t (nI 1) n s with
      | some j => some (k, j)
      | none => (mt_u t).bind (fun u => (m_at ts (nI u)).bind (fun k' => m_nr ts d k' n s))
def m_rs (ts : List mT) (tn : Nat) (n s : Int32) : Option (Nat × Nat) := if fb_ct (m_cd ts tn n s) ts.length = 0 then none else match m_only (m_ob ts n s (m_cd ts tn n s)) ts.length with
  | some k => some (k, m_ix ts n s k)
  | none => (sf (m_cd ts tn n s) ts.length 0).map (fun k => (k, m_ix ts n s k))
def m_fm (ts : List mT) (d k : Nat) (n s : Int32) : Option (Nat × Nat) := match ts[k]? with
  | none => none
  | some t => (m_nr ts d k n s).or (m_rs ts (mt_n t) n s)
theorem m_c0_own {ts : List mT} {tn : Nat} {n s : Int32} {k : Nat} {t : mT} (h : m_cd ts tn n s k = true) (ht : ts[k]? = some t) : ∃ j, m_own t (nI 1) n s = some j := by
  unfold m_cd m_c0 at h
  rw [ht] at h
  cases ho : m_own t (nI 1) n s with
  | none => simp [ho] at h
  | some j => exact ⟨j, rfl⟩
theorem sf_skip {p : Nat → Bool} {k : Nat} : ∀ {m : Nat}, (∀ i, i < k → p i = false) → k ≤ m → sf p m 0 = sf p (m - k) k := by
  intro m hp hk
  have : ∀ j, j ≤ k → sf p m 0 = sf p (m - j) j := by
    intro j
    induction j with
    | zero => intro _; rfl
    | succ j ih =>
      intro hj
      rw [ih (by omega), show m - j = (m - (j + 1)) + 1 by omega, sf, if_neg (by rw [hp j (by omega)]; decide)]
  exact this k (Nat.le_refl k)
set_option maxHeartbeats 4000000 in
set_option maxRecDepth 100000 in
theorem r_fm3 {E : jv_E} {x : Nat} {q : Nat → Nat} {h0 h : jv_H} {e k0 : Nat} {n s : Int32} {ts : List mT} {t0 : mT} (hlt : (jv_l E).stackTraces = false) (G : jv_C E cX8_findMethod RX8 8) (Z : jv_rm E = jv_room 4 0 0) (hr : (jv_mt E).sig.returnType = some .int) (hsc : sc x q h0 h) (hS : rf_S x q h0) (he : e < 8) (hE : rf_E q h0 e ts) (hV : rf_V q h0 e ts) (h0t : ts[k0]? = some t0) {FM : Option (Nat × Nat)} (hcd : ∀ i, i < ts.length → jv_I h (q 31) i = jv_bI ((m_cd ts (mt_n t0) n s) i)) {k1 : Nat} (hk1 : k1 < ts.length) (hck : (m_cd ts (mt_n t0) n s) k1 = true) (hF : FM = (sf (m_cd ts (mt_n t0) n s) ts.length 0).map (fun k => (k, m_ix ts n s k))) : ∀ (m k : Nat), k + m = k1 → (∀ i, i < k → (m_cd ts (mt_n t0) n s) i = false) → jv_V E 8 h 0 0 (jv_Q E (fun v h' => v = some (.int (ffE e FM)) ∧ sc x q h0 h') jv_no 0 0) 105 [(5, .int (-1)), (7, .int (nI k)), (0, .ref x), (1, .int (nI e)), (2, .int (nI (10 * e + k0))), (3, .int n), (4, .int s)] [] := by
  have hlen := hE.2.1
  have hok : ∀ (k : Nat) (t : mT), ts[k]? = some t → mt_ok t := fun k t ht => (hE.2.2 k t ht).2
  have hk0l := jv_ltGet h0t
  have Tt0 := (hE.2.2 k0 t0 h0t).1
  have Ot0 := (hE.2.2 k0 t0 h0t).2
  intro m
  induction m with
  | zero =>
    intro k hkm hno
    have hk : k = k1 := by omega
    subst hk
    obtain ⟨t, ht⟩ := jv_getLt (l := ts) (k := k) (by omega)
    have Tt := (hE.2.2 k t ht).1
    have Ot := (hE.2.2 k t ht).2
    refine jv_iload (q := 107) G 0 dX8_findMethod_105 rfl rfl ?_
    refine jv_iconst (q := 108) (v := (-1)) G dX8_findMethod_107 (by decide) rfl ?_
    refine jv_icmp_ne (q := 111) (tgt := 144) G dX8_findMethod_108 (by decide) rfl (fun c1 => ?_) (fun c1 => ?_)
    · exact absurd rfl c1
    · refine jv_aload_n (q := 112) G 2 dX8_findMethod_111 rfl rfl rfl ?_
      refine jv_getQ (q := 115) G dX8_findMethod_112 fl_X8_95 rfl (hsc.S hS).1 (rf_p31 (hsc.S hS)) rfl ?_
      refine jv_iload (q := 117) G 1 dX8_findMethod_115 rfl rfl ?_
      refine jv_zald (q := 118) G dX8_findMethod_117 (rf_a31 (hsc.S hS)) rfl (by omega) (by decide) (hcd k (by omega)) rfl ?_
      refine jv_if_eqB (q := 121) (tgt := 138) G dX8_findMethod_118 (by decide) rfl (fun c2 => ?_) (fun c2 => ?_)
      · rw [hck] at c2; cases c2
      · refine jv_aload_n (q := 122) G 2 dX8_findMethod_121 rfl rfl rfl ?_
        refine jv_bipush (q := 124) (v := nI 10) G dX8_findMethod_122 (by decide) rfl ?_
        refine jv_iload_n (q := 125) G 3 dX8_findMethod_124 rfl rfl rfl ?_
        refine jv_imulN (q := 126) G dX8_findMethod_125 rfl ?_
        refine jv_iload (q := 128) G 1 dX8_findMethod_126 rfl rfl ?_
        refine jv_iaddN (q := 129) G dX8_findMethod_128 rfl ?_
        refine jv_iconst (q := 130) (v := nI 1) G dX8_findMethod_129 (by decide) rfl ?_
        refine jv_iload_n (q := 131) G 5 dX8_findMethod_130 rfl rfl rfl ?_
        refine jv_iload (q := 133) G 6 dX8_findMethod_131 rfl rfl ?_
        refine jv_callV_I (q := 136) (h1 := h) (As := [.int (nI ((10 * e) + k)), .int (nI 1), .int n, .int s]) (rest := []) (ce' := 0) (sl' := 0) (r := jv_oN ((m_own t (nI 1) n s).map (fun j => 6 * ((10 * e) + k) + j))) G Z ml_X8_155 (r_own hlt (hsc.S hS) (by omega) (hsc.T hS Tt) Ot) (hsc.S hS).1 dX8_findMethod_133 rfl (by decide) (by decide) (by decide) (by decide) (Nat.le_of_ble_eq_true rfl) rfl rfl rfl rfl ?_
        rcases Option.eq_none_or_eq_some (m_own t (nI 1) n s) with hj5 | ⟨j3, hj5⟩
        · refine jv_topI (y := (-1)) (by rw [hj5]; rfl) ?_
          refine jv_istore (q := 138) (lo' := [(5, .int (-1)), (7, .int (nI k)), (0, .ref x), (1, .int (nI e)), (2, .int (nI (10 * e + k0))), (3, .int n), (4, .int s)]) G dX8_findMethod_136 (by decide) rfl rfl ?_
          refine jv_iinc (q := 141) (lo' := [(7, .int (nI (k + 1))), (5, .int (-1)), (0, .ref x), (1, .int (nI e)), (2, .int (nI (10 * e + k0))), (3, .int n), (4, .int s)]) (v := nI (k + 1)) G 1 dX8_findMethod_138 rfl (nI_1 k) (by decide) rfl rfl ?_
          refine jv_goto (q := 105) G dX8_findMethod_141 (by decide) ?_
          refine jv_lo [1, 0, 2, 3, 4, 5, 6] (lo' := [(5, .int (-1)), (7, .int (nI (k + 1))), (0, .ref x), (1, .int (nI e)), (2, .int (nI (10 * e + k0))), (3, .int n), (4, .int s)]) rfl ?_
          obtain ⟨j9, hj9⟩ := m_c0_own (by assumption) ht; simp_all
        · refine jv_topI (y := nI (6 * ((10 * e) + k) + j3)) (by rw [hj5]; rfl) ?_
          obtain ⟨m4, hm4, wm4, nm4, sm4, lm4⟩ := m_own_some hj5
          have Mm4 := rt_m Tt hm4
          have Om4 := Ot.2.2.2.2.2.2 m4 (List.mem_of_getElem? hm4)
          have Lm4 := Ot.2.2.2.2.2.1
          have Bm4n := Om4.1; have Bm4s := Om4.2.1; have Bm4a := Om4.2.2.1
          refine jv_istore (q := 138) (lo' := [(5, .int (nI (6 * ((10 * e) + k) + j3))), (7, .int (nI k)), (0, .ref x), (1, .int (nI e)), (2, .int (nI (10 * e + k0))), (3, .int n), (4, .int s)]) G dX8_findMethod_136 (by decide) rfl rfl ?_
          refine jv_iinc (q := 141) (lo' := [(7, .int (nI (k + 1))), (5, .int (nI (6 * ((10 * e) + k) + j3))), (0, .ref x), (1, .int (nI e)), (2, .int (nI (10 * e + k0))), (3, .int n), (4, .int s)]) (v := nI (k + 1)) G 1 dX8_findMethod_138 rfl (nI_1 k) (by decide) rfl rfl ?_
          refine jv_goto (q := 105) G dX8_findMethod_141 (by decide) ?_
          refine jv_iload (q := 107) G 1 dX8_findMethod_105 rfl rfl ?_
          refine jv_iconst (q := 108) (v := (-1)) G dX8_findMethod_107 (by decide) rfl ?_
          refine jv_icmp_ne (q := 111) (tgt := 144) G dX8_findMethod_108 (by decide) rfl (fun c6 => ?_) (fun c6 => ?_)
          · refine jv_iload (q := 146) G 1 dX8_findMethod_144 rfl rfl ?_
            refine jv_iret G hr dX8_findMethod_146 (Nat.le_of_ble_eq_true rfl) (Nat.le_of_ble_eq_true rfl) ?_
            refine ⟨?_, hsc⟩
            have e5 : sf (m_cd ts (mt_n t0) n s) ts.length 0 = some k := by
              rw [sf_skip hno (by omega), show ts.length - k = (ts.length - k - 1) + 1 by omega, sf, if_pos (by assumption)]
            rw [hF, e5]; unfold ffE; rw [Option.map_some, Option.map_some, m_ix_of ht (by assumption)]; rfl
          · exact absurd c6 (jv_nI_m1 (by omega))
  | succ m ih =>
    intro k hkm hno
    obtain ⟨t, ht⟩ := jv_getLt (l := ts) (k := k) (by omega)
    have Tt := (hE.2.2 k t ht).1
    have Ot := (hE.2.2 k t ht).2
    refine jv_iload (q := 107) G 0 dX8_findMethod_105 rfl rfl ?_
    refine jv_iconst (q := 108) (v := (-1)) G dX8_findMethod_107 (by decide) rfl ?_
    refine jv_icmp_ne (q := 111) (tgt := 144) G dX8_findMethod_108 (by decide) rfl (fun c1 => ?_) (fun c1 => ?_)
    · exact absurd rfl c1
    · refine jv_aload_n (q := 112) G 2 dX8_findMethod_111 rfl rfl rfl ?_
      refine jv_getQ (q := 115) G dX8_findMethod_112 fl_X8_95 rfl (hsc.S hS).1 (rf_p31 (hsc.S hS)) rfl ?_
      refine jv_iload (q := 117) G 1 dX8_findMethod_115 rfl rfl ?_
      refine jv_zald (q := 118) G dX8_findMethod_117 (rf_a31 (hsc.S hS)) rfl (by omega) (by decide) (hcd k (by omega)) rfl ?_
      refine jv_if_eqB (q := 121) (tgt := 138) G dX8_findMethod_118 (by decide) rfl (fun c2 => ?_) (fun c2 => ?_)
      · refine jv_iinc (q := 141) (lo' := [(7, .int (nI (k + 1))), (5, .int (-1)), (0, .ref x), (1, .int (nI e)), (2, .int (nI (10 * e + k0))), (3, .int n), (4, .int s)]) (v := nI (k + 1)) G 1 dX8_findMethod_138 rfl (nI_1 k) (by decide) rfl rfl ?_
        refine jv_goto (q := 105) G dX8_findMethod_141 (by decide) ?_
        refine jv_lo [1, 0, 2, 3, 4, 5, 6] (lo' := [(5, .int (-1)), (7, .int (nI (k + 1))), (0, .ref x), (1, .int (nI e)), (2, .int (nI (10 * e + k0))), (3, .int n), (4, .int s)]) rfl ?_
        first
          | exact ih (k + 1) (by omega) (fun i hi => by rcases Nat.lt_or_eq_of_le (Nat.le_of_lt_succ hi) with h9 | h9; exact hno i h9; rw [h9]; assumption)
          | (obtain ⟨j9, hj9⟩ := m_c0_own (by assumption) ht; simp_all)
      · refine jv_aload_n (q := 122) G 2 dX8_findMethod_121 rfl rfl rfl ?_
        refine jv_bipush (q := 124) (v := nI 10) G dX8_findMethod_122 (by decide) rfl ?_
        refine jv_iload_n (q := 125) G 3 dX8_findMethod_124 rfl rfl rfl ?_
        refine jv_imulN (q := 126) G dX8_findMethod_125 rfl ?_
        refine jv_iload (q := 128) G 1 dX8_findMethod_126 rfl rfl ?_
        refine jv_iaddN (q := 129) G dX8_findMethod_128 rfl ?_
        refine jv_iconst (q := 130) (v := nI 1) G dX8_findMethod_129 (by decide) rfl ?_
        refine jv_iload_n (q := 131) G 5 dX8_findMethod_130 rfl rfl rfl ?_
        refine jv_iload (q := 133) G 6 dX8_findMethod_131 rfl rfl ?_
        refine jv_callV_I (q := 136) (h1 := h) (As := [.int (nI ((10 * e) + k)), .int (nI 1), .int n, .int s]) (rest := []) (ce' := 0) (sl' := 0) (r := jv_oN ((m_own t (nI 1) n s).map (fun j => 6 * ((10 * e) + k) + j))) G Z ml_X8_155 (r_own hlt (hsc.S hS) (by omega) (hsc.T hS Tt) Ot) (hsc.S hS).1 dX8_findMethod_133 rfl (by decide) (by decide) (by decide) (by decide) (Nat.le_of_ble_eq_true rfl) rfl rfl rfl rfl ?_
        rcases Option.eq_none_or_eq_some (m_own t (nI 1) n s) with hj5 | ⟨j3, hj5⟩
        · refine jv_topI (y := (-1)) (by rw [hj5]; rfl) ?_
          refine jv_istore (q := 138) (lo' := [(5, .int (-1)), (7, .int (nI k)), (0, .ref x), (1, .int (nI e)), (2, .int (nI (10 * e + k0))), (3, .int n), (4, .int s)]) G dX8_findMethod_136 (by decide) rfl rfl ?_
          refine jv_iinc (q := 141) (lo' := [(7, .int (nI (k + 1))), (5, .int (-1)), (0, .ref x), (1, .int (nI e)), (2, .int (nI (10 * e + k0))), (3, .int n), (4, .int s)]) (v := nI (k + 1)) G 1 dX8_findMethod_138 rfl (nI_1 k) (by decide) rfl rfl ?_
          refine jv_goto (q := 105) G dX8_findMethod_141 (by decide) ?_
          refine jv_lo [1, 0, 2, 3, 4, 5, 6] (lo' := [(5, .int (-1)), (7, .int (nI (k + 1))), (0, .ref x), (1, .int (nI e)), (2, .int (nI (10 * e + k0))), (3, .int n), (4, .int s)]) rfl ?_
          first
            | exact ih (k + 1) (by omega) (fun i hi => by rcases Nat.lt_or_eq_of_le (Nat.le_of_lt_succ hi) with h9 | h9; exact hno i h9; rw [h9]; assumption)
            | (obtain ⟨j9, hj9⟩ := m_c0_own (by assumption) ht; simp_all)
        · refine jv_topI (y := nI (6 * ((10 * e) + k) + j3)) (by rw [hj5]; rfl) ?_
          obtain ⟨m4, hm4, wm4, nm4, sm4, lm4⟩ := m_own_some hj5
          have Mm4 := rt_m Tt hm4
          have Om4 := Ot.2.2.2.2.2.2 m4 (List.mem_of_getElem? hm4)
          have Lm4 := Ot.2.2.2.2.2.1
          have Bm4n := Om4.1; have Bm4s := Om4.2.1; have Bm4a := Om4.2.2.1
          refine jv_istore (q := 138) (lo' := [(5, .int (nI (6 * ((10 * e) + k) + j3))), (7, .int (nI k)), (0, .ref x), (1, .int (nI e)), (2, .int (nI (10 * e + k0))), (3, .int n), (4, .int s)]) G dX8_findMethod_136 (by decide) rfl rfl ?_
          refine jv_iinc (q := 141) (lo' := [(7, .int (nI (k + 1))), (5, .int (nI (6 * ((10 * e) + k) + j3))), (0, .ref x), (1, .int (nI e)), (2, .int (nI (10 * e + k0))), (3, .int n), (4, .int s)]) (v := nI (k + 1)) G 1 dX8_findMethod_138 rfl (nI_1 k) (by decide) rfl rfl ?_
          refine jv_goto (q := 105) G dX8_findMethod_141 (by decide) ?_
          refine jv_iload (q := 107) G 1 dX8_findMethod_105 rfl rfl ?_
          refine jv_iconst (q := 108) (v := (-1)) G dX8_findMethod_107 (by decide) rfl ?_
          refine jv_icmp_ne (q := 111) (tgt := 144) G dX8_findMethod_108 (by decide) rfl (fun c6 => ?_) (fun c6 => ?_)
          · refine jv_iload (q := 146) G 1 dX8_findMethod_144 rfl rfl ?_
            refine jv_iret G hr dX8_findMethod_146 (Nat.le_of_ble_eq_true rfl) (Nat.le_of_ble_eq_true rfl) ?_
            refine ⟨?_, hsc⟩
            have e5 : sf (m_cd ts (mt_n t0) n s) ts.length 0 = some k := by
              rw [sf_skip hno (by omega), show ts.length - k = (ts.length - k - 1) + 1 by omega, sf, if_pos (by assumption)]
            rw [hF, e5]; unfold ffE; rw [Option.map_some, Option.map_some, m_ix_of ht (by assumption)]; rfl
          · exact absurd c6 (jv_nI_m1 (by omega))
set_option maxHeartbeats 4000000 in
set_option maxRecDepth 100000 in
theorem r_fm2 {E : jv_E} {x : Nat} {q : Nat → Nat} {h0 h : jv_H} {e k0 : Nat} {n s : Int32} {ts : List mT} {t0 : mT} (hlt : (jv_l E).stackTraces = false) (G : jv_C E cX8_findMethod RX8 8) (Z : jv_rm E = jv_room 4 0 0) (hr : (jv_mt E).sig.returnType = some .int) (hsc : sc x q h0 h) (hS : rf_S x q h0) (he : e < 8) (hE : rf_E q h0 e ts) (hV : rf_V q h0 e ts) (h0t : ts[k0]? = some t0) {FM : Option (Nat × Nat)} (hF : FM = m_rs ts (mt_n t0) n s) : jv_V E 8 h 0 0 (jv_Q E (fun v h' => v = some (.int (ffE e FM)) ∧ sc x q h0 h') jv_no 0 0) 78 [(5, .int (-1)), (0, .ref x), (1, .int (nI e)), (2, .int (nI (10 * e + k0))), (3, .int n), (4, .int s)] [] := by
  have hlen := hE.2.1
  have hok : ∀ (k : Nat) (t : mT), ts[k]? = some t → mt_ok t := fun k t ht => (hE.2.2 k t ht).2
  have hk0l := jv_ltGet h0t
  have Tt0 := (hE.2.2 k0 t0 h0t).1
  have Ot0 := (hE.2.2 k0 t0 h0t).2
  refine jv_aload_n (q := 79) G 1 dX8_findMethod_78 rfl rfl rfl ?_
  refine jv_iload_n (q := 80) G 2 dX8_findMethod_79 rfl rfl rfl ?_
  refine jv_iload_n (q := 81) G 3 dX8_findMethod_80 rfl rfl rfl ?_
  refine jv_iload_n (q := 82) G 4 dX8_findMethod_81 rfl rfl rfl ?_
  refine jv_iload (q := 84) G 5 dX8_findMethod_82 rfl rfl ?_
  refine jv_callV (q := 87) (As := [.int (nI e), .int (nI (10 * e + k0)), .int n, .int s]) (rest := []) G Z ml_X8_176 (r_candidates hlt hsc hS he hE hV h0t) (hsc.S hS).1 dX8_findMethod_84 rfl (by decide) (by decide) (by decide) (by decide) (Nat.le_of_ble_eq_true rfl) rfl rfl (fun v2 h1 y3 => ?_) (fun _ _ hx => hx.elim)
  obtain ⟨rfl, hsc, hcd⟩ := y3
  show jv_V E 8 h1 0 0 (jv_Q E (fun v h' => v = some (.int (ffE e FM)) ∧ sc x q h0 h') jv_no 0 0) 87 [(5, .int (-1)), (0, .ref x), (1, .int (nI e)), (2, .int (nI (10 * e + k0))), (3, .int n), (4, .int s)] [.int (nI (fb_ct (m_cd ts (mt_n t0) n s) ts.length))]
  have hcn := fb_ct_le (m_cd ts (mt_n t0) n s) ts.length
  refine jv_if_neN (q := 90) (tgt := 92) G dX8_findMethod_87 (by decide) rfl (by omega) (fun c4 => ?_) (fun c4 => ?_)
  · refine jv_aload_n (q := 93) G 1 dX8_findMethod_92 rfl rfl rfl ?_
    refine jv_iload_n (q := 94) G 2 dX8_findMethod_93 rfl rfl rfl ?_
    refine jv_iload_n (q := 95) G 4 dX8_findMethod_94 rfl rfl rfl ?_
    refine jv_iload (q := 97) G 5 dX8_findMethod_95 rfl rfl ?_
    refine jv_callV_I (q := 100) (h1 := h1) (As := [.int (nI e), .int n, .int s]) (rest := []) (ce' := 0) (sl' := 0) (r := (obE ts n s e (m_only (m_ob ts n s (m_cd ts (mt_n t0) n s)) ts.length))) G Z ml_X8_179 (r_onlyBody hlt hsc hS he hE hcd) (hsc.S hS).1 dX8_findMethod_97 rfl (by decide) (by decide) (by decide) (by decide) (Nat.le_of_ble_eq_true rfl) rfl rfl rfl rfl ?_
    refine jv_istore (q := 102) (lo' := [(5, .int (obE ts n s e (m_only (m_ob ts n s (m_cd ts (mt_n t0) n s)) ts.length))), (0, .ref x), (1, .int (nI e)), (2, .int (nI (10 * e + k0))), (3, .int n), (4, .int s)]) G dX8_findMethod_100 (by decide) rfl rfl ?_
    refine jv_iconst (q := 103) (v := nI 0) G dX8_findMethod_102 (by decide) rfl ?_
    refine jv_istore (q := 105) (lo' := [(7, .int (nI 0)), (5, .int (obE ts n s e (m_only (m_ob ts n s (m_cd ts (mt_n t0) n s)) ts.length))), (0, .ref x), (1, .int (nI e)), (2, .int (nI (10 * e + k0))), (3, .int n), (4, .int s)]) G dX8_findMethod_103 (by decide) rfl rfl ?_
    rcases Option.eq_none_or_eq_some (m_only (m_ob ts n s (m_cd ts (mt_n t0) n s)) ts.length) with ho | ⟨ko, ho⟩
    · refine jv_lo [1, 0, 2, 3, 4, 5, 6] (lo' := [(5, .int (obE ts n s e (m_only (m_ob ts n s (m_cd ts (mt_n t0) n s)) ts.length))), (7, .int (nI 0)), (0, .ref x), (1, .int (nI e)), (2, .int (nI (10 * e + k0))), (3, .int n), (4, .int s)]) rfl ?_
      have hF3 : FM = (sf (m_cd ts (mt_n t0) n s) ts.length 0).map (fun k => (k, m_ix ts n s k)) := by
        rw [hF, m_rs, if_neg (by assumption), ho]
      obtain ⟨k1, hk1, hck⟩ := fb_ct_pos.mp (Nat.pos_of_ne_zero (by assumption : ¬ fb_ct (m_cd ts (mt_n t0) n s) ts.length = 0))
      rw [ho]
      exact r_fm3 hlt G Z hr hsc hS he hE hV h0t hcd hk1 hck hF3 k1 0 (by omega) (fun i hi => by omega)
    · have hko : ko < ts.length := by
        have h9 := ho
        unfold m_only at h9
        split at h9
        · exact (m_last_lt h9).1
        · cases h9
      have hix := m_ix_lt (n := n) (s := s) hok ko
      rw [ho]
      show jv_V E 8 h1 0 0 (jv_Q E (fun v h' => v = some (.int (ffE e FM)) ∧ sc x q h0 h') jv_no 0 0) 105 [(7, .int (nI 0)), (5, .int (nI (6 * (10 * e + ko) + m_ix ts n s ko))), (0, .ref x), (1, .int (nI e)), (2, .int (nI (10 * e + k0))), (3, .int n), (4, .int s)] []
      refine jv_iload (q := 107) G 1 dX8_findMethod_105 rfl rfl ?_
      refine jv_iconst (q := 108) (v := (-1)) G dX8_findMethod_107 (by decide) rfl ?_
      refine jv_icmp_ne (q := 111) (tgt := 144) G dX8_findMethod_108 (by decide) rfl (fun c5 => ?_) (fun c5 => ?_)
      · refine jv_iload (q := 146) G 1 dX8_findMethod_144 rfl rfl ?_
        refine jv_iret G hr dX8_findMethod_146 (Nat.le_of_ble_eq_true rfl) (Nat.le_of_ble_eq_true rfl) ?_
        refine ⟨?_, hsc⟩
        rw [hF, m_rs, if_neg (by assumption), ho]; rfl
      · exact absurd c5 (jv_nI_m1 (by omega))
  · refine jv_iconst (q := 91) (v := (-1)) G dX8_findMethod_90 (by decide) rfl ?_
    refine jv_iret G hr dX8_findMethod_91 (Nat.le_of_ble_eq_true rfl) (Nat.le_of_ble_eq_true rfl) ?_
    refine ⟨?_, hsc⟩
    rw [hF, m_rs, if_pos (by assumption)]; rfl
set_option maxHeartbeats 4000000 in
set_option maxRecDepth 100000 in
theorem r_fm1 {E : jv_E} {x : Nat} {q : Nat → Nat} {h0 h : jv_H} {e k0 : Nat} {n s : Int32} {ts : List mT} {t0 : mT} (hlt : (jv_l E).stackTraces = false) (G : jv_C E cX8_findMethod RX8 8) (Z : jv_rm E = jv_room 4 0 0) (hr : (jv_mt E).sig.returnType = some .int) (hsc : sc x q h0 h) (hS : rf_S x q h0) (he : e < 8) (hE : rf_E q h0 e ts) (hV : rf_V q h0 e ts) (h0t : ts[k0]? = some t0) {FM : Option (Nat × Nat)} : ∀ (d kc : Nat) (tc : mT), ts[kc]? = some tc → m_hg ts d kc → (mt_i t0 = true → kc = k0) → FM = (m_nr ts d kc n s).or (m_rs ts (mt_n t0) n s) → jv_V E 8 h 0 0 (jv_Q E (fun v h' => v = some (.int (ffE e FM)) ∧ sc x q h0 h') jv_no 0 0) 14 [(5, .int (ffE e ((m_own tc (nI 1) n s).map (fun j => (kc, j))))), (6, .int (nI (10 * e + kc))), (0, .ref x), (1, .int (nI e)), (2, .int (nI (10 * e + k0))), (3, .int n), (4, .int s)] [] := by
  have hlen := hE.2.1
  have hok : ∀ (k : Nat) (t : mT), ts[k]? = some t → mt_ok t := fun k t ht => (hE.2.2 k t ht).2
  have hk0l := jv_ltGet h0t
  have Tt0 := (hE.2.2 k0 t0 h0t).1
  have Ot0 := (hE.2.2 k0 t0 h0t).2
  intro d
  induction d with
  | zero => intro kc tc _ hh; exact hh.elim
  | succ d ih =>
    intro kc tc htc hh hi hF
    have hkcl := jv_ltGet htc
    have Ttc := (hE.2.2 kc tc htc).1
    have Otc := (hE.2.2 kc tc htc).2
    obtain ⟨-, hsup⟩ := hh tc htc
    rw [m_nr, htc] at hF
    dsimp only at hF
    rcases Option.eq_none_or_eq_some (m_own tc (nI 1) n s) with ho | ⟨j, ho⟩
    · rw [ho] at hF
      dsimp only at hF
      rw [ho]
      show jv_V E 8 h 0 0 (jv_Q E (fun v h' => v = some (.int (ffE e FM)) ∧ sc x q h0 h') jv_no 0 0) 14 [(5, .int (-1)), (6, .int (nI (10 * e + kc))), (0, .ref x), (1, .int (nI e)), (2, .int (nI (10 * e + k0))), (3, .int n), (4, .int s)] []
      rcases Option.eq_none_or_eq_some (mt_u tc) with hu | ⟨u, hu⟩
      · rw [hu] at hF
        dsimp only [Option.bind_none, Option.none_or] at hF
        refine jv_iload (q := 16) G 0 dX8_findMethod_14 rfl rfl ?_
        refine jv_iconst (q := 17) (v := (-1)) G dX8_findMethod_16 (by decide) rfl ?_
        refine jv_icmp_ne (q := 20) (tgt := 69) G dX8_findMethod_17 (by decide) rfl (fun c1 => ?_) (fun c1 => ?_)
        · exact absurd rfl c1
        · refine jv_aload_n (q := 21) G 2 dX8_findMethod_20 rfl rfl rfl ?_
          refine jv_getQ (q := 24) G dX8_findMethod_21 fl_X8_20 rfl (hsc.S hS).1 (rf_p5 (hsc.S hS)) rfl ?_
          refine jv_iload_n (q := 25) G 4 dX8_findMethod_24 rfl rfl rfl ?_
          refine jv_zald (q := 26) G dX8_findMethod_25 (rf_a5 (hsc.S hS)) rfl (by omega) (by decide) (rt_5 (hsc.T hS Tt0)) rfl ?_
          refine jv_if_neB (q := 29) (tgt := 69) G dX8_findMethod_26 (by decide) rfl (fun c2 => ?_) (fun c2 => ?_)
          · refine jv_iload (q := 71) G 0 dX8_findMethod_69 rfl rfl ?_
            refine jv_iconst (q := 72) (v := (-1)) G dX8_findMethod_71 (by decide) rfl ?_
            refine jv_icmp_eq (q := 75) (tgt := 78) G dX8_findMethod_72 (by decide) rfl (fun c3 => ?_) (fun c3 => ?_)
            · refine jv_lo [0, 2, 3, 4, 5, 6] (lo' := [(5, .int (-1)), (0, .ref x), (1, .int (nI e)), (2, .int (nI (10 * e + k0))), (3, .int n), (4, .int s)]) rfl ?_
              exact r_fm2 hlt G Z hr hsc hS he hE hV h0t hF
            · exact absurd rfl c3
          · refine jv_aload_n (q := 30) G 2 dX8_findMethod_29 rfl rfl rfl ?_
            refine jv_getQ (q := 33) G dX8_findMethod_30 fl_X8_32 rfl (hsc.S hS).1 (rf_p9 (hsc.S hS)) rfl ?_
            refine jv_iload (q := 35) G 1 dX8_findMethod_33 rfl rfl ?_
            refine jv_iald (q := 36) G dX8_findMethod_35 (rf_a9 (hsc.S hS)) rfl (by omega) (by decide) ((rt_9 (hsc.T hS Ttc)).trans (congrArg jv_oN hu)) rfl ?_
            refine jv_iconst (q := 37) (v := (-1)) G dX8_findMethod_36 (by decide) rfl ?_
            refine jv_icmp_eq (q := 40) (tgt := 69) G dX8_findMethod_37 (by decide) rfl (fun c4 => ?_) (fun c4 => ?_)
            · refine jv_iload (q := 71) G 0 dX8_findMethod_69 rfl rfl ?_
              refine jv_iconst (q := 72) (v := (-1)) G dX8_findMethod_71 (by decide) rfl ?_
              refine jv_icmp_eq (q := 75) (tgt := 78) G dX8_findMethod_72 (by decide) rfl (fun c5 => ?_) (fun c5 => ?_)
              · refine jv_lo [0, 2, 3, 4, 5, 6] (lo' := [(5, .int (-1)), (0, .ref x), (1, .int (nI e)), (2, .int (nI (10 * e + k0))), (3, .int n), (4, .int s)]) rfl ?_
                exact r_fm2 hlt G Z hr hsc hS he hE hV h0t hF
              · exact absurd rfl c5
            · exact absurd rfl c4
      · obtain ⟨k1, hk1, hg1⟩ := hsup u hu
        have hu16 := (Otc.2.2.1 u hu).1
        obtain ⟨t1, ht1, -, hk1l⟩ := m_at_some hk1
        have Tt1 := (hE.2.2 k1 t1 ht1).1
        have Ot1 := (hE.2.2 k1 t1 ht1).2
        rw [hu] at hF; dsimp only [Option.bind_some] at hF; rw [hk1] at hF; dsimp only [Option.bind_some] at hF
        refine jv_iload (q := 16) G 0 dX8_findMethod_14 rfl rfl ?_
        refine jv_iconst (q := 17) (v := (-1)) G dX8_findMethod_16 (by decide) rfl ?_
        refine jv_icmp_ne (q := 20) (tgt := 69) G dX8_findMethod_17 (by decide) rfl (fun c6 => ?_) (fun c6 => ?_)
        · exact absurd rfl c6
        · refine jv_aload_n (q := 21) G 2 dX8_findMethod_20 rfl rfl rfl ?_
          refine jv_getQ (q := 24) G dX8_findMethod_21 fl_X8_20 rfl (hsc.S hS).1 (rf_p5 (hsc.S hS)) rfl ?_
          refine jv_iload_n (q := 25) G 4 dX8_findMethod_24 rfl rfl rfl ?_
          refine jv_zald (q := 26) G dX8_findMethod_25 (rf_a5 (hsc.S hS)) rfl (by omega) (by decide) (rt_5 (hsc.T hS Tt0)) rfl ?_
          refine jv_if_neB (q := 29) (tgt := 69) G dX8_findMethod_26 (by decide) rfl (fun c7 => ?_) (fun c7 => ?_)
          · have h9 := hi c7
            subst h9
            rw [htc] at h0t; cases h0t
            rw [(Otc.2.2.1 u hu).2] at c7; cases c7
          · refine jv_aload_n (q := 30) G 2 dX8_findMethod_29 rfl rfl rfl ?_
            refine jv_getQ (q := 33) G dX8_findMethod_30 fl_X8_32 rfl (hsc.S hS).1 (rf_p9 (hsc.S hS)) rfl ?_
            refine jv_iload (q := 35) G 1 dX8_findMethod_33 rfl rfl ?_
            refine jv_iald (q := 36) G dX8_findMethod_35 (rf_a9 (hsc.S hS)) rfl (by omega) (by decide) ((rt_9 (hsc.T hS Ttc)).trans (congrArg jv_oN hu)) rfl ?_
            refine jv_iconst (q := 37) (v := (-1)) G dX8_findMethod_36 (by decide) rfl ?_
            refine jv_icmp_eq (q := 40) (tgt := 69) G dX8_findMethod_37 (by decide) rfl (fun c8 => ?_) (fun c8 => ?_)
            · exact absurd c8 (jv_nI_m1 (by omega))
            · refine jv_aload_n (q := 41) G 2 dX8_findMethod_40 rfl rfl rfl ?_
              refine jv_iload_n (q := 42) G 3 dX8_findMethod_41 rfl rfl rfl ?_
              refine jv_aload_n (q := 43) G 2 dX8_findMethod_42 rfl rfl rfl ?_
              refine jv_getQ (q := 46) G dX8_findMethod_43 fl_X8_32 rfl (hsc.S hS).1 (rf_p9 (hsc.S hS)) rfl ?_
              refine jv_iload (q := 48) G 1 dX8_findMethod_46 rfl rfl ?_
              refine jv_iald (q := 49) G dX8_findMethod_48 (rf_a9 (hsc.S hS)) rfl (by omega) (by decide) ((rt_9 (hsc.T hS Ttc)).trans (congrArg jv_oN hu)) rfl ?_
              refine jv_callV_I (q := 52) (h1 := h) (As := [.int (nI e), .int (nI u)]) (rest := []) (ce' := 0) (sl' := 0) (r := jv_oN ((m_at ts (nI u)).map (fun k => 10 * e + k))) G Z ml_X8_151 (r_at hlt (hsc.S hS) he (hsc.E hS hE)) (hsc.S hS).1 dX8_findMethod_49 rfl (by decide) (by decide) (by decide) (by decide) (Nat.le_of_ble_eq_true rfl) rfl rfl rfl rfl ?_
              refine jv_topI (y := nI (10 * e + k1)) (by rw [hk1]; rfl) ?_
              refine jv_istore (q := 54) (lo' := [(6, .int (nI (10 * e + k1))), (5, .int (-1)), (0, .ref x), (1, .int (nI e)), (2, .int (nI (10 * e + k0))), (3, .int n), (4, .int s)]) G dX8_findMethod_52 (by decide) rfl rfl ?_
              refine jv_aload_n (q := 55) G 2 dX8_findMethod_54 rfl rfl rfl ?_
              refine jv_iload (q := 57) G 0 dX8_findMethod_55 rfl rfl ?_
              refine jv_iconst (q := 58) (v := nI 1) G dX8_findMethod_57 (by decide) rfl ?_
              refine jv_iload_n (q := 59) G 5 dX8_findMethod_58 rfl rfl rfl ?_
              refine jv_iload (q := 61) G 6 dX8_findMethod_59 rfl rfl ?_
              refine jv_callV_I (q := 64) (h1 := h) (As := [.int (nI (10 * e + k1)), .int (nI 1), .int n, .int s]) (rest := []) (ce' := 0) (sl' := 0) (r := (ffE e ((m_own t1 (nI 1) n s).map (fun j => (k1, j))))) G Z ml_X8_155 ((ff_own ▸ (r_own hlt (hsc.S hS) (by omega) (hsc.T hS Tt1) Ot1))) (hsc.S hS).1 dX8_findMethod_61 rfl (by decide) (by decide) (by decide) (by decide) (Nat.le_of_ble_eq_true rfl) rfl rfl rfl rfl ?_
              refine jv_istore (q := 66) (lo' := [(5, .int (ffE e ((m_own t1 (nI 1) n s).map (fun j => (k1, j))))), (6, .int (nI (10 * e + k1))), (0, .ref x), (1, .int (nI e)), (2, .int (nI (10 * e + k0))), (3, .int n), (4, .int s)]) G dX8_findMethod_64 (by decide) rfl rfl ?_
              refine jv_goto (q := 14) G dX8_findMethod_66 (by decide) ?_
              refine jv_lo [0, 1, 2, 3, 4, 5, 6] (lo' := [(5, .int (ffE e ((m_own t1 (nI 1) n s).map (fun j => (k1, j))))), (6, .int (nI (10 * e + k1))), (0, .ref x), (1, .int (nI e)), (2, .int (nI (10 * e + k0))), (3, .int n), (4, .int s)]) rfl ?_
              exact ih k1 t1 ht1 hg1 (fun h9 => by simp_all) hF
    · obtain ⟨mj, hmj, -, -, -, hjl⟩ := m_own_some ho
      have hj6 := Otc.2.2.2.2.2.1
      rw [ho] at hF
      dsimp only at hF
      rw [ho]
      show jv_V E 8 h 0 0 (jv_Q E (fun v h' => v = some (.int (ffE e FM)) ∧ sc x q h0 h') jv_no 0 0) 14 [(5, .int (nI (6 * (10 * e + kc) + j))), (6, .int (nI (10 * e + kc))), (0, .ref x), (1, .int (nI e)), (2, .int (nI (10 * e + k0))), (3, .int n), (4, .int s)] []
      refine jv_iload (q := 16) G 0 dX8_findMethod_14 rfl rfl ?_
      refine jv_iconst (q := 17) (v := (-1)) G dX8_findMethod_16 (by decide) rfl ?_
      refine jv_icmp_ne (q := 20) (tgt := 69) G dX8_findMethod_17 (by decide) rfl (fun c1 => ?_) (fun c1 => ?_)
      · refine jv_iload (q := 71) G 0 dX8_findMethod_69 rfl rfl ?_
        refine jv_iconst (q := 72) (v := (-1)) G dX8_findMethod_71 (by decide) rfl ?_
        refine jv_icmp_eq (q := 75) (tgt := 78) G dX8_findMethod_72 (by decide) rfl (fun c2 => ?_) (fun c2 => ?_)
        · exact absurd c2 (jv_nI_m1 (by omega))
        · refine jv_iload (q := 77) G 0 dX8_findMethod_75 rfl rfl ?_
          refine jv_iret G hr dX8_findMethod_77 (Nat.le_of_ble_eq_true rfl) (Nat.le_of_ble_eq_true rfl) ?_
          exact ⟨by rw [hF]; rfl, hsc⟩
      · exact absurd c1 (jv_nI_m1 (by omega))

set_option maxHeartbeats 4000000 in
set_option maxRecDepth 100000 in
theorem r_findMethod {lA : Launch} (hlt : lA.stackTraces = false) {D : jv_D} {base : Nat} {x : Nat} {q : Nat → Nat} {h0 h : jv_H} {e k0 d : Nat} {n s : Int32} {ts : List mT} {t0 : mT} (hsc : sc x q h0 h) (hS : rf_S x q h0) (he : e < 8) (hE : rf_E q h0 e ts) (hV : rf_V q h0 e ts) (h0t : ts[k0]? = some t0) (hh : m_hg ts d k0) : jv_Met lA D base yX8_findMethod (.code yX8_findMethod cX8_findMethod 8 (some .int)) 4 0 0 [.ref x, .int (nI e), .int (nI (10 * e + k0)), .int n, .int s] h (fun v h' => v = some (.int (ffE e (m_fm ts d k0 n s))) ∧ sc x q h0 h') jv_no := by
  refine jv_ofV (lo := [(0, .ref x), (1, .int (nI e)), (2, .int (nI (10 * e + k0))), (3, .int n), (4, .int s)]) hlt (by decide) (Nat.le_of_ble_eq_true rfl) rfl (fun E hEl hEd hEz Z G hr ht hnm => ?_)
  subst hEl; subst hEd; subst hEz
  have hlen := hE.2.1
  have hok : ∀ (k : Nat) (t : mT), ts[k]? = some t → mt_ok t := fun k t ht => (hE.2.2 k t ht).2
  have hk0l := jv_ltGet h0t
  have Tt0 := (hE.2.2 k0 t0 h0t).1
  have Ot0 := (hE.2.2 k0 t0 h0t).2
  refine jv_aload_n (q := 1) G 0 dX8_findMethod_0 rfl rfl rfl ?_
  refine jv_iload_n (q := 2) G 2 dX8_findMethod_1 rfl rfl rfl ?_
  refine jv_iconst (q := 3) (v := nI 1) G dX8_findMethod_2 (by decide) rfl ?_
  refine jv_iload_n (q := 4) G 3 dX8_findMethod_3 rfl rfl rfl ?_
  refine jv_iload (q := 6) G 4 dX8_findMethod_4 rfl rfl ?_
  refine jv_callV_I (q := 9) (h1 := h) (As := [.int (nI (10 * e + k0)), .int (nI 1), .int n, .int s]) (rest := []) (ce' := 0) (sl' := 0) (r := (ffE e ((m_own t0 (nI 1) n s).map (fun j => (k0, j))))) G Z ml_X8_155 ((ff_own ▸ (r_own hlt (hsc.S hS) (by omega) (hsc.T hS Tt0) Ot0))) (hsc.S hS).1 dX8_findMethod_6 rfl (by decide) (by decide) (by decide) (by decide) (Nat.le_of_ble_eq_true rfl) rfl rfl rfl rfl ?_
  refine jv_istore (q := 11) (lo' := [(5, .int (ffE e ((m_own t0 (nI 1) n s).map (fun j => (k0, j))))), (0, .ref x), (1, .int (nI e)), (2, .int (nI (10 * e + k0))), (3, .int n), (4, .int s)]) G dX8_findMethod_9 (by decide) rfl rfl ?_
  refine jv_iload_n (q := 12) G 3 dX8_findMethod_11 rfl rfl rfl ?_
  refine jv_istore (q := 14) (lo' := [(6, .int (nI (10 * e + k0))), (5, .int (ffE e ((m_own t0 (nI 1) n s).map (fun j => (k0, j))))), (0, .ref x), (1, .int (nI e)), (2, .int (nI (10 * e + k0))), (3, .int n), (4, .int s)]) G dX8_findMethod_12 (by decide) rfl rfl ?_
  refine jv_lo [1, 0, 2, 3, 4, 5, 6] (lo' := [(5, .int (ffE e ((m_own t0 (nI 1) n s).map (fun j => (k0, j))))), (6, .int (nI (10 * e + k0))), (0, .ref x), (1, .int (nI e)), (2, .int (nI (10 * e + k0))), (3, .int n), (4, .int s)]) rfl ?_
  exact r_fm1 hlt G Z hr hsc hS he hE hV h0t d k0 t0 h0t hh (fun _ => rfl) (by unfold m_fm; rw [h0t])
