def m_ix (ts : List mT) (n s : Int32) (k : Nat) : Nat := ((ts[k]?).bind (fun t => m_own t (nI 1) n s)).getD 0
/-- a candidate that has a body -/
def m_ob (ts : List mT) (n s : Int32) (cd : Nat → Bool) (k : Nat) : Bool := cd k && match ts[k]? with
  | none => false
  | some t => match m_own t (nI 1) n s with
    | none => false
    | some j => match (mt_m t)[j]? with
      | none => false
      | some m => !decide (mm_b m < 0)
def m_last (p : Nat → Bool) : Nat → Option Nat
  | 0 => none
  | k + 1 => if p k then some k else m_last p k
def m_only (p : Nat → Bool) (n : Nat) : Option Nat := if fb_ct p n = 1 then m_last p n else none
def obE (ts : List mT) (n s : Int32) (e : Nat) (r : Option Nat) : Int32 := jv_oN (r.map (fun k => 6 * (10 * e + k) + m_ix ts n s k))
theorem m_last_lt {p : Nat → Bool} : ∀ {n k : Nat}, m_last p n = some k → k < n ∧ p k = true
  | 0, k, h => by cases h
  | n + 1, k, h => by
    rw [m_last] at h
    by_cases hp : p n = true
    · rw [if_pos hp] at h; cases h; exact ⟨by omega, hp⟩
    · rw [if_neg hp] at h
      have := m_last_lt h
      exact ⟨by omega, this.2⟩
theorem m_ix_lt {ts : List mT} {n s : Int32} (hok : ∀ (k : Nat) (t : mT), ts[k]? = some t → mt_ok t) (k : Nat) : m_ix ts n s k < 6 := by
  unfold m_ix
  cases hk : ts[k]? with
  | none => simp
  | some t =>
    cases ho : m_own t (nI 1) n s with
    | none => simp [ho]
    | some j =>
      obtain ⟨m, -, -, -, -, h3⟩ := m_own_some ho
      simp only [Option.bind_some, ho, Option.getD_some]
      exact Nat.lt_of_lt_of_le h3 (hok k t hk).2.2.2.2.2.1
theorem m_ix_of {ts : List mT} {n s : Int32} {k j : Nat} {t : mT} (hk : ts[k]? = some t) (ho : m_own t (nI 1) n s = some j) : m_ix ts n s k = j := by
  unfold m_ix; rw [hk]; simp [ho]
set_option maxHeartbeats 4000000 in
set_option maxRecDepth 100000 in
theorem r_ob_loop {E : jv_E} {x : Nat} {q : Nat → Nat} {h0 h : jv_H} {e : Nat} {n s : Int32} {ts : List mT} {cd : Nat → Bool} (hlt : (jv_l E).stackTraces = false) (G : jv_C E cX8_onlyBody RX8 8) (Z : jv_rm E = jv_room 2 0 0) (hr : (jv_mt E).sig.returnType = some .int) (hsc : sc x q h0 h) (hS : rf_S x q h0) (he : e < 8) (hE : rf_E q h0 e ts) (hcd : ∀ i, i < ts.length → jv_I h (q 31) i = jv_bI (cd i)) : ∀ (m k : Nat), k + m = ts.length → jv_V E 8 h 0 0 (jv_Q E (jv_rI (obE ts n s e (m_only (m_ob ts n s cd) ts.length)) h) jv_no 0 0) 9 [(6, .int (nI k)), (5, .int (nI (fb_ct (m_ob ts n s cd) k))), (4, .int (obE ts n s e (m_last (m_ob ts n s cd) k))), (0, .ref x), (1, .int (nI e)), (2, .int n), (3, .int s)] [] := by
  have hlen := hE.2.1
  have hok : ∀ (k : Nat) (t : mT), ts[k]? = some t → mt_ok t := fun k t ht => (hE.2.2 k t ht).2
  intro m
  induction m with
  | zero =>
    intro k hkm
    have hk : k = ts.length := by omega
    subst hk
    have hcn := fb_ct_le (m_ob ts n s cd) ts.length
    refine jv_iload (q := 11) G 0 dX8_onlyBody_9 rfl rfl ?_
    refine jv_aload_n (q := 12) G 3 dX8_onlyBody_11 rfl rfl rfl ?_
    refine jv_getQ (q := 15) G dX8_onlyBody_12 fl_X8_13 rfl (hsc.S hS).1 (rf_p3 (hsc.S hS)) rfl ?_
    refine jv_iload_n (q := 16) G 4 dX8_onlyBody_15 rfl rfl rfl ?_
    refine jv_iald (q := 17) G dX8_onlyBody_16 (rf_a3 (hsc.S hS)) rfl (by omega) (by decide) (hsc.E hS hE).1 rfl ?_
    refine jv_icmp_geN (q := 20) (tgt := 82) G dX8_onlyBody_17 (by decide) rfl (by omega) (by omega) (fun c1 => ?_) (fun c1 => ?_)
    · refine jv_iload (q := 84) G 1 dX8_onlyBody_82 rfl rfl ?_
      refine jv_iconst (q := 85) (v := nI 1) G dX8_onlyBody_84 (by decide) rfl ?_
      refine jv_icmp_neN (q := 88) (tgt := 93) G dX8_onlyBody_85 (by decide) rfl (by omega) (by omega) (fun c2 => ?_) (fun c2 => ?_)
      · refine jv_iconst (q := 94) (v := (-1)) G dX8_onlyBody_93 (by decide) rfl ?_
        refine jv_iret G hr dX8_onlyBody_94 (Nat.le_of_ble_eq_true rfl) (Nat.le_of_ble_eq_true rfl) ?_
        exact ⟨by unfold m_only; simp only [*, if_true, if_false]; try rfl, rfl⟩
      · refine jv_iload (q := 90) G 2 dX8_onlyBody_88 rfl rfl ?_
        refine jv_goto (q := 94) G dX8_onlyBody_90 (by decide) ?_
        refine jv_iret G hr dX8_onlyBody_94 (Nat.le_of_ble_eq_true rfl) (Nat.le_of_ble_eq_true rfl) ?_
        exact ⟨by unfold m_only; simp only [*, if_true, if_false]; try rfl, rfl⟩
    · omega
  | succ m ih =>
    intro k hkm
    obtain ⟨t, ht⟩ := jv_getLt (l := ts) (k := k) (by omega)
    have Tt := (hE.2.2 k t ht).1
    have Ot := (hE.2.2 k t ht).2
    have hcn := fb_ct_le (m_ob ts n s cd) k
    refine jv_iload (q := 11) G 0 dX8_onlyBody_9 rfl rfl ?_
    refine jv_aload_n (q := 12) G 3 dX8_onlyBody_11 rfl rfl rfl ?_
    refine jv_getQ (q := 15) G dX8_onlyBody_12 fl_X8_13 rfl (hsc.S hS).1 (rf_p3 (hsc.S hS)) rfl ?_
    refine jv_iload_n (q := 16) G 4 dX8_onlyBody_15 rfl rfl rfl ?_
    refine jv_iald (q := 17) G dX8_onlyBody_16 (rf_a3 (hsc.S hS)) rfl (by omega) (by decide) (hsc.E hS hE).1 rfl ?_
    refine jv_icmp_geN (q := 20) (tgt := 82) G dX8_onlyBody_17 (by decide) rfl (by omega) (by omega) (fun c1 => ?_) (fun c1 => ?_)
    · omega
    · refine jv_aload_n (q := 21) G 3 dX8_onlyBody_20 rfl rfl rfl ?_
      refine jv_getQ (q := 24) G dX8_onlyBody_21 fl_X8_95 rfl (hsc.S hS).1 (rf_p31 (hsc.S hS)) rfl ?_
      refine jv_iload (q := 26) G 0 dX8_onlyBody_24 rfl rfl ?_
      refine jv_zald (q := 27) G dX8_onlyBody_26 (rf_a31 (hsc.S hS)) rfl (by omega) (by decide) (hcd k (by omega)) rfl ?_
      refine jv_if_eqB (q := 30) (tgt := 47) G dX8_onlyBody_27 (by decide) rfl (fun c2 => ?_) (fun c2 => ?_)
      · refine jv_iconst (q := 48) (v := (-1)) G dX8_onlyBody_47 (by decide) rfl ?_
        refine jv_istore (q := 50) (lo' := [(7, .int (-1)), (6, .int (nI k)), (5, .int (nI (fb_ct (m_ob ts n s cd) k))), (4, .int (obE ts n s e (m_last (m_ob ts n s cd) k))), (0, .ref x), (1, .int (nI e)), (2, .int n), (3, .int s)]) G dX8_onlyBody_48 (by decide) rfl rfl ?_
        refine jv_iload (q := 52) G 0 dX8_onlyBody_50 rfl rfl ?_
        refine jv_iconst (q := 53) (v := (-1)) G dX8_onlyBody_52 (by decide) rfl ?_
        refine jv_icmp_eq (q := 56) (tgt := 76) G dX8_onlyBody_53 (by decide) rfl (fun c3 => ?_) (fun c3 => ?_)
        · refine jv_iinc (q := 79) (lo' := [(6, .int (nI (k + 1))), (7, .int (-1)), (5, .int (nI (fb_ct (m_ob ts n s cd) k))), (4, .int (obE ts n s e (m_last (m_ob ts n s cd) k))), (0, .ref x), (1, .int (nI e)), (2, .int n), (3, .int s)]) (v := nI (k + 1)) G 1 dX8_onlyBody_76 rfl (nI_1 k) (by decide) rfl rfl ?_
          refine jv_goto (q := 9) G dX8_onlyBody_79 (by decide) ?_
          have e1 : m_ob ts n s cd k = false := by
            unfold m_ob; rw [ht]; simp_all
          have e2 : fb_ct (m_ob ts n s cd) k = fb_ct (m_ob ts n s cd) (k + 1) := by rw [fb_ct_succ, e1]; rfl
          have e3 : obE ts n s e (m_last (m_ob ts n s cd) k) = obE ts n s e (m_last (m_ob ts n s cd) (k + 1)) := by rw [m_last, if_neg (by rw [e1]; decide)]
          refine jv_lo [0, 2, 3, 4, 5, 6, 7] (lo' := [(6, .int (nI (k + 1))), (5, .int (nI (fb_ct (m_ob ts n s cd) k))), (4, .int (obE ts n s e (m_last (m_ob ts n s cd) k))), (0, .ref x), (1, .int (nI e)), (2, .int n), (3, .int s)]) rfl ?_
          rw [e2, e3]; exact ih (k + 1) (by omega)
        · exact absurd rfl c3
      · refine jv_aload_n (q := 31) G 3 dX8_onlyBody_30 rfl rfl rfl ?_
        refine jv_bipush (q := 33) (v := nI 10) G dX8_onlyBody_31 (by decide) rfl ?_
        refine jv_iload_n (q := 34) G 4 dX8_onlyBody_33 rfl rfl rfl ?_
        refine jv_imulN (q := 35) G dX8_onlyBody_34 rfl ?_
        refine jv_iload (q := 37) G 0 dX8_onlyBody_35 rfl rfl ?_
        refine jv_iaddN (q := 38) G dX8_onlyBody_37 rfl ?_
        refine jv_iconst (q := 39) (v := nI 1) G dX8_onlyBody_38 (by decide) rfl ?_
        refine jv_iload_n (q := 40) G 5 dX8_onlyBody_39 rfl rfl rfl ?_
        refine jv_iload_n (q := 41) G 6 dX8_onlyBody_40 rfl rfl rfl ?_
        refine jv_callV_I (q := 44) (h1 := h) (As := [.int (nI ((10 * e) + k)), .int (nI 1), .int n, .int s]) (rest := []) (ce' := 0) (sl' := 0) (r := jv_oN ((m_own t (nI 1) n s).map (fun j => 6 * ((10 * e) + k) + j))) G Z ml_X8_155 (r_own hlt (hsc.S hS) (by omega) (hsc.T hS Tt) Ot) (hsc.S hS).1 dX8_onlyBody_41 rfl (by decide) (by decide) (by decide) (by decide) (Nat.le_of_ble_eq_true rfl) rfl rfl rfl rfl ?_
        rcases Option.eq_none_or_eq_some (m_own t (nI 1) n s) with hj6 | ⟨j4, hj6⟩
        · refine jv_topI (y := (-1)) (by rw [hj6]; rfl) ?_
          refine jv_goto (q := 48) G dX8_onlyBody_44 (by decide) ?_
          refine jv_istore (q := 50) (lo' := [(7, .int (-1)), (6, .int (nI k)), (5, .int (nI (fb_ct (m_ob ts n s cd) k))), (4, .int (obE ts n s e (m_last (m_ob ts n s cd) k))), (0, .ref x), (1, .int (nI e)), (2, .int n), (3, .int s)]) G dX8_onlyBody_48 (by decide) rfl rfl ?_
          refine jv_iload (q := 52) G 0 dX8_onlyBody_50 rfl rfl ?_
          refine jv_iconst (q := 53) (v := (-1)) G dX8_onlyBody_52 (by decide) rfl ?_
          refine jv_icmp_eq (q := 56) (tgt := 76) G dX8_onlyBody_53 (by decide) rfl (fun c7 => ?_) (fun c7 => ?_)
          · refine jv_iinc (q := 79) (lo' := [(6, .int (nI (k + 1))), (7, .int (-1)), (5, .int (nI (fb_ct (m_ob ts n s cd) k))), (4, .int (obE ts n s e (m_last (m_ob ts n s cd) k))), (0, .ref x), (1, .int (nI e)), (2, .int n), (3, .int s)]) (v := nI (k + 1)) G 1 dX8_onlyBody_76 rfl (nI_1 k) (by decide) rfl rfl ?_
            refine jv_goto (q := 9) G dX8_onlyBody_79 (by decide) ?_
            have e1 : m_ob ts n s cd k = false := by
              unfold m_ob; rw [ht]; simp_all
            have e2 : fb_ct (m_ob ts n s cd) k = fb_ct (m_ob ts n s cd) (k + 1) := by rw [fb_ct_succ, e1]; rfl
            have e3 : obE ts n s e (m_last (m_ob ts n s cd) k) = obE ts n s e (m_last (m_ob ts n s cd) (k + 1)) := by rw [m_last, if_neg (by rw [e1]; decide)]
            refine jv_lo [0, 2, 3, 4, 5, 6, 7] (lo' := [(6, .int (nI (k + 1))), (5, .int (nI (fb_ct (m_ob ts n s cd) k))), (4, .int (obE ts n s e (m_last (m_ob ts n s cd) k))), (0, .ref x), (1, .int (nI e)), (2, .int n), (3, .int s)]) rfl ?_
            rw [e2, e3]; exact ih (k + 1) (by omega)
          · exact absurd rfl c7
        · refine jv_topI (y := nI (6 * ((10 * e) + k) + j4)) (by rw [hj6]; rfl) ?_
          obtain ⟨m5, hm5, wm5, nm5, sm5, lm5⟩ := m_own_some hj6
          have Mm5 := rt_m Tt hm5
          have Om5 := Ot.2.2.2.2.2.2 m5 (List.mem_of_getElem? hm5)
          have Lm5 := Ot.2.2.2.2.2.1
          have Bm5n := Om5.1; have Bm5s := Om5.2.1; have Bm5a := Om5.2.2.1
          refine jv_goto (q := 48) G dX8_onlyBody_44 (by decide) ?_
          refine jv_istore (q := 50) (lo' := [(7, .int (nI (6 * ((10 * e) + k) + j4))), (6, .int (nI k)), (5, .int (nI (fb_ct (m_ob ts n s cd) k))), (4, .int (obE ts n s e (m_last (m_ob ts n s cd) k))), (0, .ref x), (1, .int (nI e)), (2, .int n), (3, .int s)]) G dX8_onlyBody_48 (by decide) rfl rfl ?_
          refine jv_iload (q := 52) G 0 dX8_onlyBody_50 rfl rfl ?_
          refine jv_iconst (q := 53) (v := (-1)) G dX8_onlyBody_52 (by decide) rfl ?_
          refine jv_icmp_eq (q := 56) (tgt := 76) G dX8_onlyBody_53 (by decide) rfl (fun c8 => ?_) (fun c8 => ?_)
          · exact absurd c8 (jv_nI_m1 (by omega))
          · refine jv_aload_n (q := 57) G 4 dX8_onlyBody_56 rfl rfl rfl ?_
            refine jv_getQ (q := 60) G dX8_onlyBody_57 fl_X8_59 rfl (hsc.S hS).1 (rf_p18 (hsc.S hS)) rfl ?_
            refine jv_iload (q := 62) G 0 dX8_onlyBody_60 rfl rfl ?_
            refine jv_iald (q := 63) G dX8_onlyBody_62 (rf_a18 (hsc.S hS)) rfl (by omega) (by decide) (hsc.M hS Mm5).2.2.2.2.2.1 rfl ?_
            refine jv_if_ge (q := 66) (tgt := 69) G dX8_onlyBody_63 (by decide) rfl (fun c9 => ?_) (fun c9 => ?_)
            · refine jv_iload (q := 71) G 0 dX8_onlyBody_69 rfl rfl ?_
              refine jv_istore (q := 73) (lo' := [(4, .int (nI (6 * ((10 * e) + k) + j4))), (7, .int (nI (6 * ((10 * e) + k) + j4))), (6, .int (nI k)), (5, .int (nI (fb_ct (m_ob ts n s cd) k))), (0, .ref x), (1, .int (nI e)), (2, .int n), (3, .int s)]) G dX8_onlyBody_71 (by decide) rfl rfl ?_
              refine jv_iinc (q := 76) (lo' := [(5, .int (nI (fb_ct (m_ob ts n s cd) k + 1))), (4, .int (nI (6 * ((10 * e) + k) + j4))), (7, .int (nI (6 * ((10 * e) + k) + j4))), (6, .int (nI k)), (0, .ref x), (1, .int (nI e)), (2, .int n), (3, .int s)]) (v := nI (fb_ct (m_ob ts n s cd) k + 1)) G 3 dX8_onlyBody_73 rfl (nI_1 (fb_ct (m_ob ts n s cd) k)) (by decide) rfl rfl ?_
              refine jv_iinc (q := 79) (lo' := [(6, .int (nI (k + 1))), (5, .int (nI (fb_ct (m_ob ts n s cd) k + 1))), (4, .int (nI (6 * ((10 * e) + k) + j4))), (7, .int (nI (6 * ((10 * e) + k) + j4))), (0, .ref x), (1, .int (nI e)), (2, .int n), (3, .int s)]) (v := nI (k + 1)) G 3 dX8_onlyBody_76 rfl (nI_1 k) (by decide) rfl rfl ?_
              refine jv_goto (q := 9) G dX8_onlyBody_79 (by decide) ?_
              have e1 : m_ob ts n s cd k = true := by
                unfold m_ob; rw [ht]; simp_all
              have e2 : fb_ct (m_ob ts n s cd) k + 1 = fb_ct (m_ob ts n s cd) (k + 1) := by rw [fb_ct_succ, e1]; rfl
              have e3 : nI (6 * ((10 * e) + k) + j4) = obE ts n s e (m_last (m_ob ts n s cd) (k + 1)) := by
                rw [m_last, if_pos e1]; unfold obE; rw [Option.map_some, m_ix_of ht (by assumption)]; rfl
              refine jv_lo [0, 1, 2, 4, 5, 6, 7] (lo' := [(6, .int (nI (k + 1))), (5, .int (nI (fb_ct (m_ob ts n s cd) k + 1))), (4, .int (nI (6 * ((10 * e) + k) + j4))), (0, .ref x), (1, .int (nI e)), (2, .int n), (3, .int s)]) rfl ?_
              rw [e2, e3]; exact ih (k + 1) (by omega)
            · refine jv_goto (q := 76) G dX8_onlyBody_66 (by decide) ?_
              refine jv_iinc (q := 79) (lo' := [(6, .int (nI (k + 1))), (7, .int (nI (6 * ((10 * e) + k) + j4))), (5, .int (nI (fb_ct (m_ob ts n s cd) k))), (4, .int (obE ts n s e (m_last (m_ob ts n s cd) k))), (0, .ref x), (1, .int (nI e)), (2, .int n), (3, .int s)]) (v := nI (k + 1)) G 1 dX8_onlyBody_76 rfl (nI_1 k) (by decide) rfl rfl ?_
              refine jv_goto (q := 9) G dX8_onlyBody_79 (by decide) ?_
              have e1 : m_ob ts n s cd k = false := by
                unfold m_ob; rw [ht]; simp_all
              have e2 : fb_ct (m_ob ts n s cd) k = fb_ct (m_ob ts n s cd) (k + 1) := by rw [fb_ct_succ, e1]; rfl
              have e3 : obE ts n s e (m_last (m_ob ts n s cd) k) = obE ts n s e (m_last (m_ob ts n s cd) (k + 1)) := by rw [m_last, if_neg (by rw [e1]; decide)]
              refine jv_lo [0, 2, 3, 4, 5, 6, 7] (lo' := [(6, .int (nI (k + 1))), (5, .int (nI (fb_ct (m_ob ts n s cd) k))), (4, .int (obE ts n s e (m_last (m_ob ts n s cd) k))), (0, .ref x), (1, .int (nI e)), (2, .int n), (3, .int s)]) rfl ?_
              rw [e2, e3]; exact ih (k + 1) (by omega)
set_option maxHeartbeats 4000000 in
set_option maxRecDepth 100000 in
theorem r_onlyBody {lA : Launch} (hlt : lA.stackTraces = false) {D : jv_D} {base : Nat} {x : Nat} {q : Nat → Nat} {h0 h : jv_H} {e : Nat} {n s : Int32} {ts : List mT} {cd : Nat → Bool} (hsc : sc x q h0 h) (hS : rf_S x q h0) (he : e < 8) (hE : rf_E q h0 e ts) (hcd : ∀ i, i < ts.length → jv_I h (q 31) i = jv_bI (cd i)) : jv_Met lA D base yX8_onlyBody (.code yX8_onlyBody cX8_onlyBody 8 (some .int)) 2 0 0 [.ref x, .int (nI e), .int n, .int s] h (jv_rI (obE ts n s e (m_only (m_ob ts n s cd) ts.length)) h) jv_no := by
  refine jv_ofV (lo := [(0, .ref x), (1, .int (nI e)), (2, .int n), (3, .int s)]) hlt (by decide) (Nat.le_of_ble_eq_true rfl) rfl (fun E hEl hEd hEz Z G hr ht hnm => ?_)
  subst hEl; subst hEd; subst hEz
  refine jv_iconst (q := 1) (v := (-1)) G dX8_onlyBody_0 (by decide) rfl ?_
  refine jv_istore (q := 3) (lo' := [(4, .int (-1)), (0, .ref x), (1, .int (nI e)), (2, .int n), (3, .int s)]) G dX8_onlyBody_1 (by decide) rfl rfl ?_
  refine jv_iconst (q := 4) (v := nI 0) G dX8_onlyBody_3 (by decide) rfl ?_
  refine jv_istore (q := 6) (lo' := [(5, .int (nI 0)), (4, .int (-1)), (0, .ref x), (1, .int (nI e)), (2, .int n), (3, .int s)]) G dX8_onlyBody_4 (by decide) rfl rfl ?_
  refine jv_iconst (q := 7) (v := nI 0) G dX8_onlyBody_6 (by decide) rfl ?_
  refine jv_istore (q := 9) (lo' := [(6, .int (nI 0)), (5, .int (nI 0)), (4, .int (-1)), (0, .ref x), (1, .int (nI e)), (2, .int n), (3, .int s)]) G dX8_onlyBody_7 (by decide) rfl rfl ?_
  refine jv_lo [0, 1, 2, 3, 4, 5, 6] (lo' := [(6, .int (nI 0)), (5, .int (nI 0)), (4, .int (-1)), (0, .ref x), (1, .int (nI e)), (2, .int n), (3, .int s)]) rfl ?_
  exact r_ob_loop hlt G Z hr hsc hS he hE hcd ts.length 0 (by omega)
