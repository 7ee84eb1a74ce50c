theorem kf_lt {ts : List mT} {w : Bool} {g : Nat} {U : List Nat} (hok : ∀ t ∈ ts, mt_ok t) (hg : g < 2 ^ 64) : ∀ n, c_kf ts w g U n < 2 ^ 64
  | 0 => hg
  | n + 1 => by
    rw [c_kf]
    refine Nat.or_lt_two_pow (kf_lt hok hg n) ?_
    cases h : (U[n]?).bind (fun v => m_ty1 ts v) with
    | none => exact (show 0 < 2 ^ 64 by decide)
    | some t =>
      obtain ⟨v, -, hv⟩ := Option.bind_eq_some_iff.mp h
      exact ks_lt (ty1_ok hok t hv).2.2.2.2.2.2
theorem okf_lt (t : mT) (m : mM) : m_okf t m < 6 := by
  unfold m_okf
  repeat' first | decide | split
def c_mb (A B : List mT) (UA UB : Nat → List Nat) (g k0 : Nat) (t0 : mT) (w : Bool) (key : Nat) : Bool := g.testBit key && (match c_fd A UA k0 w (some key) with
  | none => false
  | some kh => match (A[kh]?).bind (fun th => m_om th w (some key)) with
    | none => false
    | some m => !mm_c m && !c_tf A B UA UB (m_okf t0 m) (nI (mt_n t0)) (nI (mt_n t0)) (some key) (some kh) (c_ho B UB (m_okf t0 m) (nI (mt_n t0)) (some key)))
def c_mf (A B : List mT) (UA UB : Nat → List Nat) (k0 : Nat) (t0 : mT) (w : Bool) : Bool := !m_any (c_mb A B UA UB (c_kf A w (m_ks w (mt_m t0)) (UA k0) (UA k0).length) k0 t0 w) 64
def c_nf (A B : List mT) (UA UB : Nat → List Nat) (t0 : mT) : Bool := c_tf A B UA UB 5 (nI (mt_n t0)) (-1) none none none
def c_ab (A B : List mT) (UA UB : Nat → List Nat) (i : Nat) : Bool := (A[i]?).any (fun t0 => !(c_nf A B UA UB t0 && c_mf A B UA UB i t0 false && c_mf A B UA UB i t0 true))
def c_af (A B : List mT) (UA UB : Nat → List Nat) : Bool := !m_any (c_ab A B UA UB) A.length
set_option maxHeartbeats 4000000 in
set_option maxRecDepth 100000 in
theorem k_newObjectsFit {lA : Launch} (hlt : lA.stackTraces = false) {D : jv_D} {base : Nat} {z : Nat → Nat → Nat} {T : Nat → Nat} {N : Nat → Nat → Nat} {h : jv_H} {a b : Nat} {A B : List mT} {UA UB : Nat → List Nat} (hA : cv_E z T N h a A) (hB : cv_E z T N h b B) (uA : cv_Us z T h a A UA) (uB : cv_Us z T h b B UB) (lp : cl_p z h) (ha8 : a < 8) {k0 : Nat} {t0 : mT} (ht0 : A[k0]? = some t0) : jv_Met lA D base yX4_newObjectsFit (.code yX4_newObjectsFit cX4_newObjectsFit 4 (some .boolean)) 6 0 0 [.ref (z 6 4), .ref (z 0 a), .ref (z 0 b), .ref (T (10 * a + k0))] h (fun y h' => y = some (.int (jv_bI (c_nf A B UA UB t0))) ∧ cF (SP z) h h') jv_no := by
  refine jv_ofV (lo := [(0, .ref (z 6 4)), (1, .ref (z 0 a)), (2, .ref (z 0 b)), (3, .ref (T (10 * a + k0)))]) hlt (by decide) (Nat.le_of_ble_eq_true rfl) rfl (fun E hEl hEd hEz Z G hr ht hnm => ?_)
  subst hEl; subst hEd; subst hEz
  have hF : cF (SP z) h h := cF.rf
  have hA1 := hA; have hB1 := hB; have uA1 := uA; have uB1 := uB; have lp1 := lp
  have lt0 := jv_ltGet ht0
  have k10t0 : k0 < 10 := by have := hA1.2.2.2.1; omega
  have Ot0 := (hA1.2.2.2.2.1 k0 t0 ht0).2
  have Vt0 := (hA1.2.2.2.2.1 k0 t0 ht0).1
  have Yt0 := hA1.2.1 k0 k10t0
  have bt0n := Ot0.1; have bt0k := Ot0.2.1
  refine jv_aload_n (q := 1) G 0 dX4_newObjectsFit_0 rfl rfl rfl ?_
  refine jv_getQ (q := 4) G dX4_newObjectsFit_1 fl_X4_21 rfl lp1.1 lp1.2.2.1 rfl ?_
  refine jv_iconst (q := 5) (v := nI 5) G dX4_newObjectsFit_4 (by decide) rfl ?_
  refine jv_aload_n (q := 6) G 3 dX4_newObjectsFit_5 rfl rfl rfl ?_
  refine jv_getI (q := 9) G dX4_newObjectsFit_6 fl_X4_43 rfl (hA1.2.1 k0 k10t0).1 (ct_0 (hA1.2.2.2.2.1 k0 t0 ht0).1) rfl ?_
  refine jv_iconst (q := 10) (v := (-1)) G dX4_newObjectsFit_9 (by decide) rfl ?_
  refine jv_iconst (q := 11) (v := (-1)) G dX4_newObjectsFit_10 (by decide) rfl ?_
  refine jv_callV (q := 14) (As := [.int (nI 5), .int (nI (mt_n t0)), .int (-1), .int (-1)]) (rest := []) G Z ml_X4_48 (k_uBegin (ko := none) hlt lp1.2.2.2.2) lp1.2.2.2.2 dX4_newObjectsFit_11 rfl (by decide) (by decide) (by decide) (by decide) (Nat.le_of_ble_eq_true rfl) rfl rfl (fun v2 h1 y3 => ?_) (fun _ _ hx => hx.elim)
  obtain ⟨rfl, hFu, hu1⟩ := y3
  show jv_V E 4 h1 0 0 (jv_Q E (fun y h' => y = some (.int (jv_bI (c_nf A B UA UB t0))) ∧ cF (SP z) h h') jv_no 0 0) 14 [(0, .ref (z 6 4)), (1, .ref (z 0 a)), (2, .ref (z 0 b)), (3, .ref (T (10 * a + k0)))] []
  have hF := hF.tr (hFu.mono (S' := SP z) (fun _ q => Or.inr q))
  have hA1 := s06_E (sp_S lp) hF hA; have hB1 := s06_E (sp_S lp) hF hB; have uA1 := s06_U (sp_S lp) hF hA uA; have uB1 := s06_U (sp_S lp) hF hB uB; have lp1 := sp_L hF lp
  refine jv_aload_n (q := 15) G 0 dX4_newObjectsFit_14 rfl rfl rfl ?_
  refine jv_aload_n (q := 16) G 1 dX4_newObjectsFit_15 rfl rfl rfl ?_
  refine jv_aload_n (q := 17) G 2 dX4_newObjectsFit_16 rfl rfl rfl ?_
  refine jv_null (q := 18) G dX4_newObjectsFit_17 rfl ?_
  refine jv_null (q := 19) G dX4_newObjectsFit_18 rfl ?_
  refine jv_callV (q := 22) (As := [.ref (z 0 a), .ref (z 0 b), .null, .null]) (rest := []) G Z ml_X4_52 (k_trialFits00 hlt hA1 hB1 uA1 uB1 lp1 ha8 hu1 (by decide) (fun K q => by cases q)) lp1.1 dX4_newObjectsFit_19 rfl (by decide) (by decide) (by decide) (by decide) (Nat.le_of_ble_eq_true rfl) rfl rfl (fun v5 h4 y6 => ?_) (fun _ _ hx => hx.elim)
  obtain ⟨rfl, hF5⟩ := y6
  show jv_V E 4 h4 0 0 (jv_Q E (fun y h' => y = some (.int (jv_bI (c_nf A B UA UB t0))) ∧ cF (SP z) h h') jv_no 0 0) 22 [(0, .ref (z 6 4)), (1, .ref (z 0 a)), (2, .ref (z 0 b)), (3, .ref (T (10 * a + k0)))] [.int (jv_bI (c_nf A B UA UB t0))]
  refine jv_zret G hr dX4_newObjectsFit_22 (Nat.le_of_ble_eq_true rfl) (Nat.le_of_ble_eq_true rfl) ?_
  exact ⟨rfl, hF.tr hF5⟩
set_option maxHeartbeats 4000000 in
set_option maxRecDepth 100000 in
theorem k_mf_loop {E : jv_E} {z : Nat → Nat → Nat} {T : Nat → Nat} {N : Nat → Nat → Nat} {h : jv_H} {a b : Nat} {A B : List mT} {UA UB : Nat → List Nat} (hA : cv_E z T N h a A) (hB : cv_E z T N h b B) (uA : cv_Us z T h a A UA) (uB : cv_Us z T h b B UB) (lp : cl_p z h) (ha8 : a < 8) {k0 : Nat} {t0 : mT} (ht0 : A[k0]? = some t0) {w : Bool} {g : Nat} (hg : g < 2 ^ 64) (hlt : (jv_l E).stackTraces = false) (G : jv_C E cX4_membersFit RX4 10) (Z : jv_rm E = jv_room 6 0 0) (hr : (jv_mt E).sig.returnType = some .boolean) : ∀ (n k : Nat) (h1 : jv_H), k + n = 64 → m_any (c_mb A B UA UB g k0 t0 w) k = false → cF (SP z) h h1 → jv_V E 10 h1 0 0 (jv_Q E (fun y h' => y = some (.int (jv_bI (!m_any (c_mb A B UA UB g k0 t0 w) 64))) ∧ cF (SP z) h h') jv_no 0 0) 12 [(7, .int (nI k)), (5, .long (lN g)), (0, .ref (z 6 4)), (1, .ref (z 0 a)), (2, .ref (z 0 b)), (3, .ref (T (10 * a + k0))), (4, .int (jv_bI w))] [] := by
  intro n
  induction n with
  | zero =>
    intro k h1 hn hm hF
    have hA1 := s06_E (sp_S lp) hF hA; have hB1 := s06_E (sp_S lp) hF hB; have uA1 := s06_U (sp_S lp) hF hA uA; have uB1 := s06_U (sp_S lp) hF hB uB; have lp1 := sp_L hF lp
    have lt0 := jv_ltGet ht0
    have k10t0 : k0 < 10 := by have := hA1.2.2.2.1; omega
    have Ot0 := (hA1.2.2.2.2.1 k0 t0 ht0).2
    have Vt0 := (hA1.2.2.2.2.1 k0 t0 ht0).1
    have Yt0 := hA1.2.1 k0 k10t0
    have bt0n := Ot0.1; have bt0k := Ot0.2.1
    refine jv_lload (q := 14) G 1 dX4_membersFit_12 rfl rfl ?_
    refine jv_lconst (q := 15) (v := 0) G dX4_membersFit_14 (by decide) rfl ?_
    refine jv_lcmp (q := 16) G dX4_membersFit_15 rfl rfl ?_
    refine jv_if_eq (q := 19) (tgt := 134) G dX4_membersFit_16 (by decide) rfl (fun c1 => ?_) (fun c1 => ?_)
    · refine jv_iconst (q := 135) (v := nI 1) G dX4_membersFit_134 (by decide) rfl ?_
      refine jv_topI (y := jv_bI true) rfl ?_
      refine jv_zret G hr dX4_membersFit_135 (Nat.le_of_ble_eq_true rfl) (Nat.le_of_ble_eq_true rfl) ?_
      have hg0 : g = 0 := (lN_0 hg).mp (lg_0.mp c1)
      refine ⟨?_, hF⟩
      have hno : m_any (c_mb A B UA UB g k0 t0 w) 64 = false := by
        cases hq : m_any (c_mb A B UA UB g k0 t0 w) 64 with
        | false => rfl
        | true =>
          obtain ⟨j, -, hj⟩ := any_i.mp hq
          unfold c_mb at hj
          rw [hg0, Nat.zero_testBit] at hj
          cases hj
      rw [hno]; rfl
    · refine jv_iload (q := 21) G 0 dX4_membersFit_19 rfl rfl ?_
      refine jv_bipush (q := 23) (v := nI 64) G dX4_membersFit_21 (by decide) rfl ?_
      refine jv_icmp_geN (q := 26) (tgt := 134) G dX4_membersFit_23 (by decide) rfl (by omega) (by omega) (fun c2 => ?_) (fun c2 => ?_)
      · refine jv_iconst (q := 135) (v := nI 1) G dX4_membersFit_134 (by decide) rfl ?_
        refine jv_topI (y := jv_bI true) rfl ?_
        refine jv_zret G hr dX4_membersFit_135 (Nat.le_of_ble_eq_true rfl) (Nat.le_of_ble_eq_true rfl) ?_
        refine ⟨?_, hF⟩; rw [show (64 : Nat) = k by omega, hm]; rfl
      · omega
  | succ n ih =>
    intro k h1 hn hm hF
    have hA1 := s06_E (sp_S lp) hF hA; have hB1 := s06_E (sp_S lp) hF hB; have uA1 := s06_U (sp_S lp) hF hA uA; have uB1 := s06_U (sp_S lp) hF hB uB; have lp1 := sp_L hF lp
    have lt0 := jv_ltGet ht0
    have k10t0 : k0 < 10 := by have := hA1.2.2.2.1; omega
    have Ot0 := (hA1.2.2.2.2.1 k0 t0 ht0).2
    have Vt0 := (hA1.2.2.2.2.1 k0 t0 ht0).1
    have Yt0 := hA1.2.1 k0 k10t0
    have bt0n := Ot0.1; have bt0k := Ot0.2.1
    have hK : ∀ K, some k = some K → K < 64 := fun K q => by cases q; omega
    refine jv_lload (q := 14) G 1 dX4_membersFit_12 rfl rfl ?_
    refine jv_lconst (q := 15) (v := 0) G dX4_membersFit_14 (by decide) rfl ?_
    refine jv_lcmp (q := 16) G dX4_membersFit_15 rfl rfl ?_
    refine jv_if_eq (q := 19) (tgt := 134) G dX4_membersFit_16 (by decide) rfl (fun c1 => ?_) (fun c1 => ?_)
    · refine jv_iconst (q := 135) (v := nI 1) G dX4_membersFit_134 (by decide) rfl ?_
      refine jv_topI (y := jv_bI true) rfl ?_
      refine jv_zret G hr dX4_membersFit_135 (Nat.le_of_ble_eq_true rfl) (Nat.le_of_ble_eq_true rfl) ?_
      have hg0 : g = 0 := (lN_0 hg).mp (lg_0.mp c1)
      refine ⟨?_, hF⟩
      have hno : m_any (c_mb A B UA UB g k0 t0 w) 64 = false := by
        cases hq : m_any (c_mb A B UA UB g k0 t0 w) 64 with
        | false => rfl
        | true =>
          obtain ⟨j, -, hj⟩ := any_i.mp hq
          unfold c_mb at hj
          rw [hg0, Nat.zero_testBit] at hj
          cases hj
      rw [hno]; rfl
    · refine jv_iload (q := 21) G 0 dX4_membersFit_19 rfl rfl ?_
      refine jv_bipush (q := 23) (v := nI 64) G dX4_membersFit_21 (by decide) rfl ?_
      refine jv_icmp_geN (q := 26) (tgt := 134) G dX4_membersFit_23 (by decide) rfl (by omega) (by omega) (fun c2 => ?_) (fun c2 => ?_)
      · omega
      · refine jv_lload (q := 28) G 1 dX4_membersFit_26 rfl rfl ?_
        refine jv_iload (q := 30) G 0 dX4_membersFit_28 rfl rfl ?_
        refine jv_callSN_I (q := 33) (h1 := h1) (As := [.long (lN g), .int (nI k)]) (rest := []) (ce' := 0) (sl' := 0) (r := jv_bI (g.testBit k)) G Z ml_X4_60 (jv_p1 746 (by decide +kernel) rfl) (k_hasBit hlt (by omega)) dX4_membersFit_30 rfl (by decide) (by decide) (by decide) (by decide) (Nat.le_of_ble_eq_true rfl) rfl rfl rfl rfl ?_
        refine jv_if_eqB (q := 36) (tgt := 48) G dX4_membersFit_33 (by decide) rfl (fun c3 => ?_) (fun c3 => ?_)
        · refine jv_null (q := 49) G dX4_membersFit_48 rfl ?_
          refine jv_astoreR (q := 51) (lo' := [(8, va_rf none), (7, .int (nI k)), (5, .long (lN g)), (0, .ref (z 6 4)), (1, .ref (z 0 a)), (2, .ref (z 0 b)), (3, .ref (T (10 * a + k0))), (4, .int (jv_bI w))]) (x := none) G dX4_membersFit_49 (by decide) rfl rfl ?_
          refine jv_aloadR (q := 53) G 0 dX4_membersFit_51 rfl rfl ?_
          refine jv_ifnonnull (q := 56) (tgt := 60) (x := none) G dX4_membersFit_53 (by decide) rfl (fun a5 c4 => ?_) (fun c4 => ?_)
          · cases c4
          · refine jv_null (q := 57) G dX4_membersFit_56 rfl ?_
            refine jv_goto (q := 69) G dX4_membersFit_57 (by decide) ?_
            refine jv_astoreR (q := 71) (lo' := [(9, va_rf none), (8, va_rf none), (7, .int (nI k)), (5, .long (lN g)), (0, .ref (z 6 4)), (1, .ref (z 0 a)), (2, .ref (z 0 b)), (3, .ref (T (10 * a + k0))), (4, .int (jv_bI w))]) (x := none) G dX4_membersFit_69 (by decide) rfl rfl ?_
            refine jv_aloadR (q := 73) G 0 dX4_membersFit_71 rfl rfl ?_
            refine jv_ifnull (q := 76) (tgt := 128) (x := none) G dX4_membersFit_73 (by decide) rfl (fun c6 => ?_) (fun a7 c6 => ?_)
            · refine jv_iinc (q := 131) (lo' := [(7, .int (nI (k + 1))), (9, va_rf none), (8, va_rf none), (5, .long (lN g)), (0, .ref (z 6 4)), (1, .ref (z 0 a)), (2, .ref (z 0 b)), (3, .ref (T (10 * a + k0))), (4, .int (jv_bI w))]) (v := nI (k + 1)) G 2 dX4_membersFit_128 rfl (nI_1 k) (by decide) rfl rfl ?_
              refine jv_goto (q := 12) G dX4_membersFit_131 (by decide) ?_
              refine jv_lo [0, 3, 4, 5, 6, 7, 8] (lo' := [(7, .int (nI (k + 1))), (5, .long (lN g)), (0, .ref (z 6 4)), (1, .ref (z 0 a)), (2, .ref (z 0 b)), (3, .ref (T (10 * a + k0))), (4, .int (jv_bI w))]) rfl ?_
              have hbi : (c_mb A B UA UB g k0 t0 w) k = false := by
                unfold c_mb; simp [c3]
              exact ih (k + 1) _ (by omega) (by rw [m_any, hm, hbi]; rfl) hF
            · cases c6
        · refine jv_aload_n (q := 37) G 3 dX4_membersFit_36 rfl rfl rfl ?_
          refine jv_aload_n (q := 38) G 5 dX4_membersFit_37 rfl rfl rfl ?_
          refine jv_iload (q := 40) G 6 dX4_membersFit_38 rfl rfl ?_
          refine jv_iload (q := 42) G 0 dX4_membersFit_40 rfl rfl ?_
          refine jv_callV_R (q := 45) (h1 := h1) (As := [.ref (T (10 * a + k0)), .int (jv_bI w), .int (nI k)]) (rest := []) (ce' := 0) (sl' := 0) (r := ((c_fd A UA k0 w (some k)).map (fun k => T (10 * a + k)))) G Z ml_X4_64 (k_found1 (ko := some k) (w := w) hlt hA1 uA1 ht0 hK) hA1.1.1 dX4_membersFit_42 rfl (by decide) (by decide) (by decide) (by decide) (Nat.le_of_ble_eq_true rfl) rfl rfl rfl rfl ?_
          rcases Option.eq_none_or_eq_some (c_fd A UA k0 w (some k)) with hk10 | ⟨k8, hk10⟩
          · refine jv_topR (y := none) (by rw [hk10]; rfl) ?_
            refine jv_goto (q := 49) G dX4_membersFit_45 (by decide) ?_
            refine jv_astoreR (q := 51) (lo' := [(8, va_rf none), (7, .int (nI k)), (5, .long (lN g)), (0, .ref (z 6 4)), (1, .ref (z 0 a)), (2, .ref (z 0 b)), (3, .ref (T (10 * a + k0))), (4, .int (jv_bI w))]) (x := none) G dX4_membersFit_49 (by decide) rfl rfl ?_
            refine jv_aloadR (q := 53) G 0 dX4_membersFit_51 rfl rfl ?_
            refine jv_ifnonnull (q := 56) (tgt := 60) (x := none) G dX4_membersFit_53 (by decide) rfl (fun a12 c11 => ?_) (fun c11 => ?_)
            · cases c11
            · refine jv_null (q := 57) G dX4_membersFit_56 rfl ?_
              refine jv_goto (q := 69) G dX4_membersFit_57 (by decide) ?_
              refine jv_astoreR (q := 71) (lo' := [(9, va_rf none), (8, va_rf none), (7, .int (nI k)), (5, .long (lN g)), (0, .ref (z 6 4)), (1, .ref (z 0 a)), (2, .ref (z 0 b)), (3, .ref (T (10 * a + k0))), (4, .int (jv_bI w))]) (x := none) G dX4_membersFit_69 (by decide) rfl rfl ?_
              refine jv_aloadR (q := 73) G 0 dX4_membersFit_71 rfl rfl ?_
              refine jv_ifnull (q := 76) (tgt := 128) (x := none) G dX4_membersFit_73 (by decide) rfl (fun c13 => ?_) (fun a14 c13 => ?_)
              · refine jv_iinc (q := 131) (lo' := [(7, .int (nI (k + 1))), (9, va_rf none), (8, va_rf none), (5, .long (lN g)), (0, .ref (z 6 4)), (1, .ref (z 0 a)), (2, .ref (z 0 b)), (3, .ref (T (10 * a + k0))), (4, .int (jv_bI w))]) (v := nI (k + 1)) G 2 dX4_membersFit_128 rfl (nI_1 k) (by decide) rfl rfl ?_
                refine jv_goto (q := 12) G dX4_membersFit_131 (by decide) ?_
                refine jv_lo [0, 3, 4, 5, 6, 7, 8] (lo' := [(7, .int (nI (k + 1))), (5, .long (lN g)), (0, .ref (z 6 4)), (1, .ref (z 0 a)), (2, .ref (z 0 b)), (3, .ref (T (10 * a + k0))), (4, .int (jv_bI w))]) rfl ?_
                have hbi : (c_mb A B UA UB g k0 t0 w) k = false := by
                  unfold c_mb; simp [c3, hk10]
                exact ih (k + 1) _ (by omega) (by rw [m_any, hm, hbi]; rfl) hF
              · cases c13
          · refine jv_topR (y := (some (T (10 * a + k8)))) (by rw [hk10]; rfl) ?_
            obtain ⟨t9, ht9, nt9⟩ := fd_get hk10
            have lt9 := jv_ltGet ht9
            have k10t9 : k8 < 10 := by have := hA1.2.2.2.1; omega
            have Ot9 := (hA1.2.2.2.2.1 k8 t9 ht9).2
            have Vt9 := (hA1.2.2.2.2.1 k8 t9 ht9).1
            have Yt9 := hA1.2.1 k8 k10t9
            have bt9n := Ot9.1; have bt9k := Ot9.2.1
            refine jv_goto (q := 49) G dX4_membersFit_45 (by decide) ?_
            refine jv_astore (q := 51) (lo' := [(8, .ref (T (10 * a + k8))), (7, .int (nI k)), (5, .long (lN g)), (0, .ref (z 6 4)), (1, .ref (z 0 a)), (2, .ref (z 0 b)), (3, .ref (T (10 * a + k0))), (4, .int (jv_bI w))]) G dX4_membersFit_49 (by decide) rfl rfl ?_
            refine jv_aload (q := 53) G 0 dX4_membersFit_51 rfl rfl ?_
            refine jv_ifnonnull (q := 56) (tgt := 60) (x := (some (T (10 * a + k8)))) G dX4_membersFit_53 (by decide) rfl (fun a16 c15 => ?_) (fun c15 => ?_)
            · refine jv_aload (q := 62) G 0 dX4_membersFit_60 rfl rfl ?_
              refine jv_iload (q := 64) G 7 dX4_membersFit_62 rfl rfl ?_
              refine jv_iload (q := 66) G 1 dX4_membersFit_64 rfl rfl ?_
              refine jv_callV_R (q := 69) (h1 := h1) (As := [.int (jv_bI w), .int (nI k)]) (rest := []) (ce' := 0) (sl' := 0) (r := ((m_oc t9 w (some k)).map (N (T (10 * a + k8))))) G Z ml_X4_68 (k_own (w := w) (ko := some k) hlt Yt9 Vt9 Ot9 hK) (hA1.2.1 k8 k10t9).1 dX4_membersFit_66 rfl (by decide) (by decide) (by decide) (by decide) (Nat.le_of_ble_eq_true rfl) rfl rfl rfl rfl ?_
              rcases Option.eq_none_or_eq_some (m_oc t9 w (some k)) with hj19 | ⟨j17, hj19⟩
              · refine jv_topR (y := none) (by rw [hj19]; rfl) ?_
                refine jv_astoreR (q := 71) (lo' := [(9, va_rf none), (8, .ref (T (10 * a + k8))), (7, .int (nI k)), (5, .long (lN g)), (0, .ref (z 6 4)), (1, .ref (z 0 a)), (2, .ref (z 0 b)), (3, .ref (T (10 * a + k0))), (4, .int (jv_bI w))]) (x := none) G dX4_membersFit_69 (by decide) rfl rfl ?_
                refine jv_aloadR (q := 73) G 0 dX4_membersFit_71 rfl rfl ?_
                refine jv_ifnull (q := 76) (tgt := 128) (x := none) G dX4_membersFit_73 (by decide) rfl (fun c20 => ?_) (fun a21 c20 => ?_)
                · refine jv_iinc (q := 131) (lo' := [(7, .int (nI (k + 1))), (9, va_rf none), (8, .ref (T (10 * a + k8))), (5, .long (lN g)), (0, .ref (z 6 4)), (1, .ref (z 0 a)), (2, .ref (z 0 b)), (3, .ref (T (10 * a + k0))), (4, .int (jv_bI w))]) (v := nI (k + 1)) G 2 dX4_membersFit_128 rfl (nI_1 k) (by decide) rfl rfl ?_
                  refine jv_goto (q := 12) G dX4_membersFit_131 (by decide) ?_
                  refine jv_lo [0, 3, 4, 5, 6, 7, 8] (lo' := [(7, .int (nI (k + 1))), (5, .long (lN g)), (0, .ref (z 6 4)), (1, .ref (z 0 a)), (2, .ref (z 0 b)), (3, .ref (T (10 * a + k0))), (4, .int (jv_bI w))]) rfl ?_
                  have hom : m_om t9 w (some k) = none := by unfold m_om; rw [hj19]; rfl
                  have hbi : (c_mb A B UA UB g k0 t0 w) k = false := by
                    unfold c_mb; simp [c3, hk10, ht9, hom]
                  exact ih (k + 1) _ (by omega) (by rw [m_any, hm, hbi]; rfl) hF
                · cases c20
              · refine jv_topR (y := (some (N (T (10 * a + k8)) j17))) (by rw [hj19]; rfl) ?_
                obtain ⟨m18, hm18, wm18, km18⟩ := oc_some hj19
                have lm18 := jv_ltGet hm18
                have Om18 := Ot9.2.2.2.2.2.2 m18 (List.mem_of_getElem? hm18)
                have Vm18 := ct_m Vt9 hm18
                have j6m18 : j17 < 6 := by have := Ot9.2.2.2.2.2.1; omega
                have bm18a := Om18.2.2.1
                refine jv_astore (q := 71) (lo' := [(9, .ref (N (T (10 * a + k8)) j17)), (8, .ref (T (10 * a + k8))), (7, .int (nI k)), (5, .long (lN g)), (0, .ref (z 6 4)), (1, .ref (z 0 a)), (2, .ref (z 0 b)), (3, .ref (T (10 * a + k0))), (4, .int (jv_bI w))]) G dX4_membersFit_69 (by decide) rfl rfl ?_
                refine jv_aload (q := 73) G 0 dX4_membersFit_71 rfl rfl ?_
                refine jv_ifnull (q := 76) (tgt := 128) (x := (some (N (T (10 * a + k8)) j17))) G dX4_membersFit_73 (by decide) rfl (fun c22 => ?_) (fun a23 c22 => ?_)
                · cases c22
                · refine jv_aload (q := 78) G 0 dX4_membersFit_76 rfl rfl ?_
                  refine jv_getZ (q := 81) G dX4_membersFit_78 fl_X4_72 rfl (Yt9.2.2.2.2.2.2.2 j17 j6m18).2 Vm18.2.1 rfl ?_
                  refine jv_if_neB (q := 84) (tgt := 128) G dX4_membersFit_81 (by decide) rfl (fun c24 => ?_) (fun c24 => ?_)
                  · refine jv_iinc (q := 131) (lo' := [(7, .int (nI (k + 1))), (9, .ref (N (T (10 * a + k8)) j17)), (8, .ref (T (10 * a + k8))), (5, .long (lN g)), (0, .ref (z 6 4)), (1, .ref (z 0 a)), (2, .ref (z 0 b)), (3, .ref (T (10 * a + k0))), (4, .int (jv_bI w))]) (v := nI (k + 1)) G 2 dX4_membersFit_128 rfl (nI_1 k) (by decide) rfl rfl ?_
                    refine jv_goto (q := 12) G dX4_membersFit_131 (by decide) ?_
                    refine jv_lo [0, 3, 4, 5, 6, 7, 8] (lo' := [(7, .int (nI (k + 1))), (5, .long (lN g)), (0, .ref (z 6 4)), (1, .ref (z 0 a)), (2, .ref (z 0 b)), (3, .ref (T (10 * a + k0))), (4, .int (jv_bI w))]) rfl ?_
                    have hom : m_om t9 w (some k) = some m18 := by unfold m_om; rw [hj19, Option.bind_some, hm18]
                    have hbi : (c_mb A B UA UB g k0 t0 w) k = false := by
                      unfold c_mb; simp [c3, c24, hk10, ht9, hom]
                    exact ih (k + 1) _ (by omega) (by rw [m_any, hm, hbi]; rfl) hF
                  · refine jv_aload_n (q := 85) G 4 dX4_membersFit_84 rfl rfl rfl ?_
                    refine jv_getQ (q := 88) G dX4_membersFit_85 fl_X4_21 rfl lp1.1 lp1.2.2.1 rfl ?_
                    refine jv_aload_n (q := 89) G 7 dX4_membersFit_88 rfl rfl rfl ?_
                    refine jv_aload (q := 91) G 0 dX4_membersFit_89 rfl rfl ?_
                    refine jv_callS_I (q := 94) (h1 := h1) (As := [.ref (T (10 * a + k0)), .ref (N (T (10 * a + k8)) j17)]) (rest := [.ref (z 5 260)]) (ce' := 0) (sl' := 0) (r := nI (m_okf t0 m18)) G Z ml_X4_78 (k_onlyKindFor hlt Yt0 Vt0 (Yt9.2.2.2.2.2.2.2 j17 j6m18).2 Vm18) dX4_membersFit_91 rfl (by decide) (by decide) (by decide) (by decide) (Nat.le_of_ble_eq_true rfl) rfl rfl rfl rfl ?_
                    refine jv_aload_n (q := 95) G 7 dX4_membersFit_94 rfl rfl rfl ?_
                    refine jv_getI (q := 98) G dX4_membersFit_95 fl_X4_43 rfl (hA1.2.1 k0 k10t0).1 (ct_0 (hA1.2.2.2.2.1 k0 t0 ht0).1) rfl ?_
                    refine jv_iload (q := 100) G 2 dX4_membersFit_98 rfl rfl ?_
                    refine jv_aload_n (q := 101) G 7 dX4_membersFit_100 rfl rfl rfl ?_
                    refine jv_getI (q := 104) G dX4_membersFit_101 fl_X4_43 rfl (hA1.2.1 k0 k10t0).1 (ct_0 (hA1.2.2.2.2.1 k0 t0 ht0).1) rfl ?_
                    refine jv_callV (q := 107) (As := [.int (nI (m_okf t0 m18)), .int (nI (mt_n t0)), .int (nI k), .int (nI (mt_n t0))]) (rest := []) G Z ml_X4_48 (k_uBegin (ko := some k) hlt lp1.2.2.2.2) lp1.2.2.2.2 dX4_membersFit_104 rfl (by decide) (by decide) (by decide) (by decide) (Nat.le_of_ble_eq_true rfl) rfl rfl (fun v26 h25 y27 => ?_) (fun _ _ hx => hx.elim)
                    obtain ⟨rfl, hFu, hu1⟩ := y27
                    show jv_V E 10 h25 0 0 (jv_Q E (fun y h' => y = some (.int (jv_bI (!m_any (c_mb A B UA UB g k0 t0 w) 64))) ∧ cF (SP z) h h') jv_no 0 0) 107 [(9, .ref (N (T (10 * a + k8)) j17)), (8, .ref (T (10 * a + k8))), (7, .int (nI k)), (5, .long (lN g)), (0, .ref (z 6 4)), (1, .ref (z 0 a)), (2, .ref (z 0 b)), (3, .ref (T (10 * a + k0))), (4, .int (jv_bI w))] []
                    have hF := hF.tr (hFu.mono (S' := SP z) (fun _ q => Or.inr q))
                    have hA1 := s06_E (sp_S lp) hF hA; have hB1 := s06_E (sp_S lp) hF hB; have uA1 := s06_U (sp_S lp) hF hA uA; have uB1 := s06_U (sp_S lp) hF hB uB; have lp1 := sp_L hF lp
                    refine jv_aload_n (q := 108) G 4 dX4_membersFit_107 rfl rfl rfl ?_
                    refine jv_aload_n (q := 109) G 5 dX4_membersFit_108 rfl rfl rfl ?_
                    refine jv_aload_n (q := 110) G 6 dX4_membersFit_109 rfl rfl rfl ?_
                    refine jv_aload (q := 112) G 1 dX4_membersFit_110 rfl rfl ?_
                    refine jv_aload_n (q := 113) G 4 dX4_membersFit_112 rfl rfl rfl ?_
                    refine jv_getQ (q := 116) G dX4_membersFit_113 fl_X4_21 rfl lp1.1 lp1.2.2.1 rfl ?_
                    refine jv_aload_n (q := 117) G 6 dX4_membersFit_116 rfl rfl rfl ?_
                    refine jv_callV_R (q := 120) (h1 := h25) (As := [.ref (z 0 b)]) (rest := [.ref (T (10 * a + k8)), .ref (z 0 b), .ref (z 0 a), .ref (z 6 4)]) (ce' := 0) (sl' := 0) (r := ((c_ho B UB (m_okf t0 m18) (nI (mt_n t0)) (some k)).map (fun k => T (10 * b + k)))) G Z ml_X4_82 (k_holder hlt hB1 uB1 hu1 (okf_lt t0 m18) hK) lp1.2.2.2.2 dX4_membersFit_117 rfl (by decide) (by decide) (by decide) (by decide) (Nat.le_of_ble_eq_true rfl) rfl rfl rfl rfl ?_
                    rcases Option.eq_none_or_eq_some (c_ho B UB (m_okf t0 m18) (nI (mt_n t0)) (some k)) with hk30 | ⟨k28, hk30⟩
                    · refine jv_topR (y := none) (by rw [hk30]; rfl) ?_
                      refine jv_callV (q := 123) (As := [.ref (z 0 a), .ref (z 0 b), .ref (T (10 * a + k8)), va_rf none]) (rest := []) G Z ml_X4_52 (k_trialFits10 hlt hA1 hB1 uA1 uB1 lp1 ha8 hu1 (okf_lt t0 m18) hK ht9) lp1.1 dX4_membersFit_120 rfl (by decide) (by decide) (by decide) (by decide) (Nat.le_of_ble_eq_true rfl) rfl rfl (fun v32 h31 y33 => ?_) (fun _ _ hx => hx.elim)
                      obtain ⟨rfl, hF5⟩ := y33
                      show jv_V E 10 h31 0 0 (jv_Q E (fun y h' => y = some (.int (jv_bI (!m_any (c_mb A B UA UB g k0 t0 w) 64))) ∧ cF (SP z) h h') jv_no 0 0) 123 [(9, .ref (N (T (10 * a + k8)) j17)), (8, .ref (T (10 * a + k8))), (7, .int (nI k)), (5, .long (lN g)), (0, .ref (z 6 4)), (1, .ref (z 0 a)), (2, .ref (z 0 b)), (3, .ref (T (10 * a + k0))), (4, .int (jv_bI w))] [.int (jv_bI (c_tf A B UA UB (m_okf t0 m18) (nI (mt_n t0)) (nI (mt_n t0)) (some k) (some k8) none))]
                      have hF := hF.tr hF5
                      refine jv_if_neB (q := 126) (tgt := 128) G dX4_membersFit_123 (by decide) rfl (fun c34 => ?_) (fun c34 => ?_)
                      · refine jv_iinc (q := 131) (lo' := [(7, .int (nI (k + 1))), (9, .ref (N (T (10 * a + k8)) j17)), (8, .ref (T (10 * a + k8))), (5, .long (lN g)), (0, .ref (z 6 4)), (1, .ref (z 0 a)), (2, .ref (z 0 b)), (3, .ref (T (10 * a + k0))), (4, .int (jv_bI w))]) (v := nI (k + 1)) G 2 dX4_membersFit_128 rfl (nI_1 k) (by decide) rfl rfl ?_
                        refine jv_goto (q := 12) G dX4_membersFit_131 (by decide) ?_
                        refine jv_lo [0, 3, 4, 5, 6, 7, 8] (lo' := [(7, .int (nI (k + 1))), (5, .long (lN g)), (0, .ref (z 6 4)), (1, .ref (z 0 a)), (2, .ref (z 0 b)), (3, .ref (T (10 * a + k0))), (4, .int (jv_bI w))]) rfl ?_
                        have hom : m_om t9 w (some k) = some m18 := by unfold m_om; rw [hj19, Option.bind_some, hm18]
                        have hbi : (c_mb A B UA UB g k0 t0 w) k = false := by
                          unfold c_mb; simp [c3, c24, c34, hk10, ht9, hom, hk30]
                        exact ih (k + 1) _ (by omega) (by rw [m_any, hm, hbi]; rfl) hF
                      · refine jv_iconst (q := 127) (v := nI 0) G dX4_membersFit_126 (by decide) rfl ?_
                        refine jv_topI (y := jv_bI false) rfl ?_
                        refine jv_zret G hr dX4_membersFit_127 (Nat.le_of_ble_eq_true rfl) (Nat.le_of_ble_eq_true rfl) ?_
                        have hom : m_om t9 w (some k) = some m18 := by unfold m_om; rw [hj19, Option.bind_some, hm18]
                        have hbi : (c_mb A B UA UB g k0 t0 w) k = true := by
                          unfold c_mb; simp [c3, c24, c34, hk10, ht9, hom, hk30]
                        refine ⟨?_, hF⟩; rw [any_i.mpr ⟨k, by omega, hbi⟩]; rfl
                    · refine jv_topR (y := (some (T (10 * b + k28)))) (by rw [hk30]; rfl) ?_
                      obtain ⟨t29, ht29, nt29⟩ := ho_get hk30
                      have lt29 := jv_ltGet ht29
                      have k10t29 : k28 < 10 := by have := hB1.2.2.2.1; omega
                      have Ot29 := (hB1.2.2.2.2.1 k28 t29 ht29).2
                      have Vt29 := (hB1.2.2.2.2.1 k28 t29 ht29).1
                      have Yt29 := hB1.2.1 k28 k10t29
                      have bt29n := Ot29.1; have bt29k := Ot29.2.1
                      refine jv_callV (q := 123) (As := [.ref (z 0 a), .ref (z 0 b), .ref (T (10 * a + k8)), .ref (T (10 * b + k28))]) (rest := []) G Z ml_X4_52 (k_trialFits11 hlt hA1 hB1 uA1 uB1 lp1 ha8 hu1 (okf_lt t0 m18) hK ht9 ht29) lp1.1 dX4_membersFit_120 rfl (by decide) (by decide) (by decide) (by decide) (Nat.le_of_ble_eq_true rfl) rfl rfl (fun v36 h35 y37 => ?_) (fun _ _ hx => hx.elim)
                      obtain ⟨rfl, hF5⟩ := y37
                      show jv_V E 10 h35 0 0 (jv_Q E (fun y h' => y = some (.int (jv_bI (!m_any (c_mb A B UA UB g k0 t0 w) 64))) ∧ cF (SP z) h h') jv_no 0 0) 123 [(9, .ref (N (T (10 * a + k8)) j17)), (8, .ref (T (10 * a + k8))), (7, .int (nI k)), (5, .long (lN g)), (0, .ref (z 6 4)), (1, .ref (z 0 a)), (2, .ref (z 0 b)), (3, .ref (T (10 * a + k0))), (4, .int (jv_bI w))] [.int (jv_bI (c_tf A B UA UB (m_okf t0 m18) (nI (mt_n t0)) (nI (mt_n t0)) (some k) (some k8) (some k28)))]
                      have hF := hF.tr hF5
                      refine jv_if_neB (q := 126) (tgt := 128) G dX4_membersFit_123 (by decide) rfl (fun c38 => ?_) (fun c38 => ?_)
                      · refine jv_iinc (q := 131) (lo' := [(7, .int (nI (k + 1))), (9, .ref (N (T (10 * a + k8)) j17)), (8, .ref (T (10 * a + k8))), (5, .long (lN g)), (0, .ref (z 6 4)), (1, .ref (z 0 a)), (2, .ref (z 0 b)), (3, .ref (T (10 * a + k0))), (4, .int (jv_bI w))]) (v := nI (k + 1)) G 2 dX4_membersFit_128 rfl (nI_1 k) (by decide) rfl rfl ?_
                        refine jv_goto (q := 12) G dX4_membersFit_131 (by decide) ?_
                        refine jv_lo [0, 3, 4, 5, 6, 7, 8] (lo' := [(7, .int (nI (k + 1))), (5, .long (lN g)), (0, .ref (z 6 4)), (1, .ref (z 0 a)), (2, .ref (z 0 b)), (3, .ref (T (10 * a + k0))), (4, .int (jv_bI w))]) rfl ?_
                        have hom : m_om t9 w (some k) = some m18 := by unfold m_om; rw [hj19, Option.bind_some, hm18]
                        have hbi : (c_mb A B UA UB g k0 t0 w) k = false := by
                          unfold c_mb; simp [c3, c24, c38, hk10, ht9, hom, hk30]
                        exact ih (k + 1) _ (by omega) (by rw [m_any, hm, hbi]; rfl) hF
                      · refine jv_iconst (q := 127) (v := nI 0) G dX4_membersFit_126 (by decide) rfl ?_
                        refine jv_topI (y := jv_bI false) rfl ?_
                        refine jv_zret G hr dX4_membersFit_127 (Nat.le_of_ble_eq_true rfl) (Nat.le_of_ble_eq_true rfl) ?_
                        have hom : m_om t9 w (some k) = some m18 := by unfold m_om; rw [hj19, Option.bind_some, hm18]
                        have hbi : (c_mb A B UA UB g k0 t0 w) k = true := by
                          unfold c_mb; simp [c3, c24, c38, hk10, ht9, hom, hk30]
                        refine ⟨?_, hF⟩; rw [any_i.mpr ⟨k, by omega, hbi⟩]; rfl
            · cases c15
set_option maxHeartbeats 4000000 in
set_option maxRecDepth 100000 in
theorem k_membersFit {lA : Launch} (hlt : lA.stackTraces = false) {D : jv_D} {base : Nat} {z : Nat → Nat → Nat} {T : Nat → Nat} {N : Nat → Nat → Nat} {h : jv_H} {a b : Nat} {A B : List mT} {UA UB : Nat → List Nat} (hA : cv_E z T N h a A) (hB : cv_E z T N h b B) (uA : cv_Us z T h a A UA) (uB : cv_Us z T h b B UB) (lp : cl_p z h) (ha8 : a < 8) {k0 : Nat} {t0 : mT} (ht0 : A[k0]? = some t0) {w : Bool} : jv_Met lA D base yX4_membersFit (.code yX4_membersFit cX4_membersFit 10 (some .boolean)) 6 0 0 [.ref (z 6 4), .ref (z 0 a), .ref (z 0 b), .ref (T (10 * a + k0)), .int (jv_bI w)] h (fun y h' => y = some (.int (jv_bI (c_mf A B UA UB k0 t0 w))) ∧ cF (SP z) h h') jv_no := by
  refine jv_ofV (lo := [(0, .ref (z 6 4)), (1, .ref (z 0 a)), (2, .ref (z 0 b)), (3, .ref (T (10 * a + k0))), (4, .int (jv_bI w))]) hlt (by decide) (Nat.le_of_ble_eq_true rfl) rfl (fun E hEl hEd hEz Z G hr ht hnm => ?_)
  subst hEl; subst hEd; subst hEz
  have hF : cF (SP z) h h := cF.rf
  have hA1 := hA; have hB1 := hB; have uA1 := uA; have uB1 := uB; have lp1 := lp
  have lt0 := jv_ltGet ht0
  have k10t0 : k0 < 10 := by have := hA1.2.2.2.1; omega
  have Ot0 := (hA1.2.2.2.2.1 k0 t0 ht0).2
  have Vt0 := (hA1.2.2.2.2.1 k0 t0 ht0).1
  have Yt0 := hA1.2.1 k0 k10t0
  have bt0n := Ot0.1; have bt0k := Ot0.2.1
  refine jv_aload_n (q := 1) G 1 dX4_membersFit_0 rfl rfl rfl ?_
  refine jv_aload_n (q := 2) G 3 dX4_membersFit_1 rfl rfl rfl ?_
  refine jv_iload (q := 4) G 4 dX4_membersFit_2 rfl rfl ?_
  refine jv_callS_L (q := 7) (h1 := h) (As := [.ref (z 0 a), .ref (T (10 * a + k0)), .int (jv_bI w)]) (rest := []) (ce' := 0) (sl' := 0) G Z ml_X4_56 (k_keysFrom (w := w) hlt hA uA ht0) dX4_membersFit_4 rfl (by decide) (by decide) (by decide) (by decide) (Nat.le_of_ble_eq_true rfl) rfl rfl rfl rfl ?_
  refine jv_lstore (q := 9) (lo' := [(5, .long (lN (c_kf A w (m_ks w (mt_m t0)) (UA k0) (UA k0).length))), (0, .ref (z 6 4)), (1, .ref (z 0 a)), (2, .ref (z 0 b)), (3, .ref (T (10 * a + k0))), (4, .int (jv_bI w))]) G dX4_membersFit_7 (by decide) rfl rfl ?_
  refine jv_iconst (q := 10) (v := nI 0) G dX4_membersFit_9 (by decide) rfl ?_
  refine jv_istore (q := 12) (lo' := [(7, .int (nI 0)), (5, .long (lN (c_kf A w (m_ks w (mt_m t0)) (UA k0) (UA k0).length))), (0, .ref (z 6 4)), (1, .ref (z 0 a)), (2, .ref (z 0 b)), (3, .ref (T (10 * a + k0))), (4, .int (jv_bI w))]) G dX4_membersFit_10 (by decide) rfl rfl ?_
  refine jv_lo [0, 1, 2, 3, 4, 5, 6] (lo' := [(7, .int (nI 0)), (5, .long (lN (c_kf A w (m_ks w (mt_m t0)) (UA k0) (UA k0).length))), (0, .ref (z 6 4)), (1, .ref (z 0 a)), (2, .ref (z 0 b)), (3, .ref (T (10 * a + k0))), (4, .int (jv_bI w))]) rfl ?_
  have okA : ∀ t ∈ A, mt_ok t := fun t ht => by obtain ⟨i, hi⟩ := List.getElem?_of_mem ht; exact (hA.2.2.2.2.1 i t hi).2
  exact k_mf_loop hA hB uA uB lp ha8 ht0 (g := (c_kf A w (m_ks w (mt_m t0)) (UA k0) (UA k0).length)) (kf_lt okA (ks_lt Ot0.2.2.2.2.2.2) _) hlt G Z hr 64 0 _ (by omega) rfl cF.rf
set_option maxHeartbeats 4000000 in
set_option maxRecDepth 100000 in
theorem k_af_loop {E : jv_E} {z : Nat → Nat → Nat} {T : Nat → Nat} {N : Nat → Nat → Nat} {h : jv_H} {a b : Nat} {A B : List mT} {UA UB : Nat → List Nat} (hA : cv_E z T N h a A) (hB : cv_E z T N h b B) (uA : cv_Us z T h a A UA) (uB : cv_Us z T h b B UB) (lp : cl_p z h) (ha8 : a < 8) (hlt : (jv_l E).stackTraces = false) (G : jv_C E cX4_allFit RX4 5) (Z : jv_rm E = jv_room 7 0 0) (hr : (jv_mt E).sig.returnType = some .boolean) : ∀ (n i : Nat) (h1 : jv_H), i + n = A.length → m_any (c_ab A B UA UB) i = false → cF (SP z) h h1 → jv_V E 5 h1 0 0 (jv_Q E (fun y h' => y = some (.int (jv_bI (c_af A B UA UB))) ∧ cF (SP z) h h') jv_no 0 0) 2 [(3, .int (nI i)), (0, .ref (z 6 4)), (1, .ref (z 0 a)), (2, .ref (z 0 b))] [] := by
  intro n
  induction n with
  | zero =>
    intro i h1 hn hm hF
    have hl10 := hA.2.2.2.1
    have hA1 := s06_E (sp_S lp) hF hA; have hB1 := s06_E (sp_S lp) hF hB; have uA1 := s06_U (sp_S lp) hF hA uA; have uB1 := s06_U (sp_S lp) hF hB uB; have lp1 := sp_L hF lp
    refine jv_iload_n (q := 3) G 0 dX4_allFit_2 rfl rfl rfl ?_
    refine jv_aload_n (q := 4) G 2 dX4_allFit_3 rfl rfl rfl ?_
    refine jv_getI (q := 7) G dX4_allFit_4 fl_X4_25 rfl hA1.1.1 hA1.2.2.1 rfl ?_
    refine jv_icmp_geN (q := 10) (tgt := 61) G dX4_allFit_7 (by decide) rfl (by omega) (by omega) (fun c1 => ?_) (fun c1 => ?_)
    · refine jv_iconst (q := 62) (v := nI 1) G dX4_allFit_61 (by decide) rfl ?_
      refine jv_topI (y := jv_bI true) rfl ?_
      refine jv_zret G hr dX4_allFit_62 (Nat.le_of_ble_eq_true rfl) (Nat.le_of_ble_eq_true rfl) ?_
      refine ⟨?_, hF⟩; unfold c_af; rw [show A.length = i by omega, hm]; rfl
    · omega
  | succ n ih =>
    intro i h1 hn hm hF
    have hl10 := hA.2.2.2.1
    have hA1 := s06_E (sp_S lp) hF hA; have hB1 := s06_E (sp_S lp) hF hB; have uA1 := s06_U (sp_S lp) hF hA uA; have uB1 := s06_U (sp_S lp) hF hB uB; have lp1 := sp_L hF lp
    obtain ⟨ti, hti⟩ := jv_getLt (l := A) (k := i) (by omega)
    have lti := jv_ltGet hti
    have k10ti : i < 10 := by have := hA1.2.2.2.1; omega
    have Oti := (hA1.2.2.2.2.1 i ti hti).2
    have Vti := (hA1.2.2.2.2.1 i ti hti).1
    have Yti := hA1.2.1 i k10ti
    have btin := Oti.1; have btik := Oti.2.1
    refine jv_iload_n (q := 3) G 0 dX4_allFit_2 rfl rfl rfl ?_
    refine jv_aload_n (q := 4) G 2 dX4_allFit_3 rfl rfl rfl ?_
    refine jv_getI (q := 7) G dX4_allFit_4 fl_X4_25 rfl hA1.1.1 hA1.2.2.1 rfl ?_
    refine jv_icmp_geN (q := 10) (tgt := 61) G dX4_allFit_7 (by decide) rfl (by omega) (by omega) (fun c1 => ?_) (fun c1 => ?_)
    · omega
    · refine jv_aload_n (q := 11) G 2 dX4_allFit_10 rfl rfl rfl ?_
      refine jv_getQ (q := 14) G dX4_allFit_11 fl_X4_31 rfl hA1.1.1 hA1.1.2.1 rfl ?_
      refine jv_iload_n (q := 15) G 0 dX4_allFit_14 rfl rfl rfl ?_
      refine jv_aaldQ (q := 16) G dX4_allFit_15 hA1.1.2.2.1 rfl (by omega) (by decide) (hA1.1.2.2.2.2.2.2 i k10ti) rfl ?_
      refine jv_astore (q := 18) (lo' := [(4, .ref (T (10 * a + i))), (3, .int (nI i)), (0, .ref (z 6 4)), (1, .ref (z 0 a)), (2, .ref (z 0 b))]) G dX4_allFit_16 (by decide) rfl rfl ?_
      refine jv_aload_n (q := 19) G 2 dX4_allFit_18 rfl rfl rfl ?_
      refine jv_aload_n (q := 20) G 3 dX4_allFit_19 rfl rfl rfl ?_
      refine jv_aload_n (q := 21) G 4 dX4_allFit_20 rfl rfl rfl ?_
      refine jv_aload (q := 23) G 0 dX4_allFit_21 rfl rfl ?_
      refine jv_callV (q := 26) (As := [.ref (z 0 a), .ref (z 0 b), .ref (T (10 * a + i))]) (rest := []) G Z ml_X4_35 (k_newObjectsFit hlt hA1 hB1 uA1 uB1 lp1 ha8 hti) lp1.1 dX4_allFit_23 rfl (by decide) (by decide) (by decide) (by decide) (Nat.le_of_ble_eq_true rfl) rfl rfl (fun v3 h2 y4 => ?_) (fun _ _ hx => hx.elim)
      obtain ⟨rfl, hF5⟩ := y4
      show jv_V E 5 h2 0 0 (jv_Q E (fun y h' => y = some (.int (jv_bI (c_af A B UA UB))) ∧ cF (SP z) h h') jv_no 0 0) 26 [(4, .ref (T (10 * a + i))), (3, .int (nI i)), (0, .ref (z 6 4)), (1, .ref (z 0 a)), (2, .ref (z 0 b))] [.int (jv_bI (c_nf A B UA UB ti))]
      have hF := hF.tr hF5
      have hA1 := s06_E (sp_S lp) hF hA; have hB1 := s06_E (sp_S lp) hF hB; have uA1 := s06_U (sp_S lp) hF hA uA; have uB1 := s06_U (sp_S lp) hF hB uB; have lp1 := sp_L hF lp
      refine jv_if_eqB (q := 29) (tgt := 53) G dX4_allFit_26 (by decide) rfl (fun c5 => ?_) (fun c5 => ?_)
      · refine jv_iconst (q := 54) (v := nI 0) G dX4_allFit_53 (by decide) rfl ?_
        refine jv_topI (y := jv_bI false) rfl ?_
        refine jv_zret G hr dX4_allFit_54 (Nat.le_of_ble_eq_true rfl) (Nat.le_of_ble_eq_true rfl) ?_
        have hbi : (c_ab A B UA UB) i = true := by
          unfold c_ab; rw [hti]; simp [c5]
        refine ⟨?_, hF⟩; unfold c_af; rw [any_i.mpr ⟨i, by omega, hbi⟩]; rfl
      · refine jv_aload_n (q := 30) G 2 dX4_allFit_29 rfl rfl rfl ?_
        refine jv_aload_n (q := 31) G 3 dX4_allFit_30 rfl rfl rfl ?_
        refine jv_aload_n (q := 32) G 4 dX4_allFit_31 rfl rfl rfl ?_
        refine jv_aload (q := 34) G 0 dX4_allFit_32 rfl rfl ?_
        refine jv_iconst (q := 35) (v := nI 0) G dX4_allFit_34 (by decide) rfl ?_
        refine jv_callV (q := 38) (As := [.ref (z 0 a), .ref (z 0 b), .ref (T (10 * a + i)), .int (nI 0)]) (rest := []) G Z ml_X4_39 (k_membersFit (w := false) hlt hA1 hB1 uA1 uB1 lp1 ha8 hti) lp1.1 dX4_allFit_35 rfl (by decide) (by decide) (by decide) (by decide) (Nat.le_of_ble_eq_true rfl) rfl rfl (fun v7 h6 y8 => ?_) (fun _ _ hx => hx.elim)
        obtain ⟨rfl, hF5⟩ := y8
        show jv_V E 5 h6 0 0 (jv_Q E (fun y h' => y = some (.int (jv_bI (c_af A B UA UB))) ∧ cF (SP z) h h') jv_no 0 0) 38 [(4, .ref (T (10 * a + i))), (3, .int (nI i)), (0, .ref (z 6 4)), (1, .ref (z 0 a)), (2, .ref (z 0 b))] [.int (jv_bI (c_mf A B UA UB i ti false))]
        have hF := hF.tr hF5
        have hA1 := s06_E (sp_S lp) hF hA; have hB1 := s06_E (sp_S lp) hF hB; have uA1 := s06_U (sp_S lp) hF hA uA; have uB1 := s06_U (sp_S lp) hF hB uB; have lp1 := sp_L hF lp
        refine jv_if_eqB (q := 41) (tgt := 53) G dX4_allFit_38 (by decide) rfl (fun c9 => ?_) (fun c9 => ?_)
        · refine jv_iconst (q := 54) (v := nI 0) G dX4_allFit_53 (by decide) rfl ?_
          refine jv_topI (y := jv_bI false) rfl ?_
          refine jv_zret G hr dX4_allFit_54 (Nat.le_of_ble_eq_true rfl) (Nat.le_of_ble_eq_true rfl) ?_
          have hbi : (c_ab A B UA UB) i = true := by
            unfold c_ab; rw [hti]; simp [c5, c9]
          refine ⟨?_, hF⟩; unfold c_af; rw [any_i.mpr ⟨i, by omega, hbi⟩]; rfl
        · refine jv_aload_n (q := 42) G 2 dX4_allFit_41 rfl rfl rfl ?_
          refine jv_aload_n (q := 43) G 3 dX4_allFit_42 rfl rfl rfl ?_
          refine jv_aload_n (q := 44) G 4 dX4_allFit_43 rfl rfl rfl ?_
          refine jv_aload (q := 46) G 0 dX4_allFit_44 rfl rfl ?_
          refine jv_iconst (q := 47) (v := nI 1) G dX4_allFit_46 (by decide) rfl ?_
          refine jv_callV (q := 50) (As := [.ref (z 0 a), .ref (z 0 b), .ref (T (10 * a + i)), .int (nI 1)]) (rest := []) G Z ml_X4_39 (k_membersFit (w := true) hlt hA1 hB1 uA1 uB1 lp1 ha8 hti) lp1.1 dX4_allFit_47 rfl (by decide) (by decide) (by decide) (by decide) (Nat.le_of_ble_eq_true rfl) rfl rfl (fun v11 h10 y12 => ?_) (fun _ _ hx => hx.elim)
          obtain ⟨rfl, hF5⟩ := y12
          show jv_V E 5 h10 0 0 (jv_Q E (fun y h' => y = some (.int (jv_bI (c_af A B UA UB))) ∧ cF (SP z) h h') jv_no 0 0) 50 [(4, .ref (T (10 * a + i))), (3, .int (nI i)), (0, .ref (z 6 4)), (1, .ref (z 0 a)), (2, .ref (z 0 b))] [.int (jv_bI (c_mf A B UA UB i ti true))]
          have hF := hF.tr hF5
          have hA1 := s06_E (sp_S lp) hF hA; have hB1 := s06_E (sp_S lp) hF hB; have uA1 := s06_U (sp_S lp) hF hA uA; have uB1 := s06_U (sp_S lp) hF hB uB; have lp1 := sp_L hF lp
          refine jv_if_neB (q := 53) (tgt := 55) G dX4_allFit_50 (by decide) rfl (fun c13 => ?_) (fun c13 => ?_)
          · refine jv_iinc (q := 58) (lo' := [(3, .int (nI (i + 1))), (4, .ref (T (10 * a + i))), (0, .ref (z 6 4)), (1, .ref (z 0 a)), (2, .ref (z 0 b))]) (v := nI (i + 1)) G 1 dX4_allFit_55 rfl (nI_1 i) (by decide) rfl rfl ?_
            refine jv_goto (q := 2) G dX4_allFit_58 (by decide) ?_
            refine jv_lo [0, 2, 3, 4] (lo' := [(3, .int (nI (i + 1))), (0, .ref (z 6 4)), (1, .ref (z 0 a)), (2, .ref (z 0 b))]) rfl ?_
            have hbi : (c_ab A B UA UB) i = false := by
              unfold c_ab; rw [hti]; simp [c5, c9, c13]
            exact ih (i + 1) _ (by omega) (by rw [m_any, hm, hbi]; rfl) hF
          · refine jv_iconst (q := 54) (v := nI 0) G dX4_allFit_53 (by decide) rfl ?_
            refine jv_topI (y := jv_bI false) rfl ?_
            refine jv_zret G hr dX4_allFit_54 (Nat.le_of_ble_eq_true rfl) (Nat.le_of_ble_eq_true rfl) ?_
            have hbi : (c_ab A B UA UB) i = true := by
              unfold c_ab; rw [hti]; simp [c5, c9, c13]
            refine ⟨?_, hF⟩; unfold c_af; rw [any_i.mpr ⟨i, by omega, hbi⟩]; rfl
set_option maxHeartbeats 4000000 in
set_option maxRecDepth 100000 in
theorem k_allFit {lA : Launch} (hlt : lA.stackTraces = false) {D : jv_D} {base : Nat} {z : Nat → Nat → Nat} {T : Nat → Nat} {N : Nat → Nat → Nat} {h : jv_H} {a b : Nat} {A B : List mT} {UA UB : Nat → List Nat} (hA : cv_E z T N h a A) (hB : cv_E z T N h b B) (uA : cv_Us z T h a A UA) (uB : cv_Us z T h b B UB) (lp : cl_p z h) (ha8 : a < 8) : jv_Met lA D base yX4_allFit (.code yX4_allFit cX4_allFit 5 (some .boolean)) 7 0 0 [.ref (z 6 4), .ref (z 0 a), .ref (z 0 b)] h (fun y h' => y = some (.int (jv_bI (c_af A B UA UB))) ∧ cF (SP z) h h') jv_no := by
  refine jv_ofV (lo := [(0, .ref (z 6 4)), (1, .ref (z 0 a)), (2, .ref (z 0 b))]) hlt (by decide) (Nat.le_of_ble_eq_true rfl) rfl (fun E hEl hEd hEz Z G hr ht hnm => ?_)
  subst hEl; subst hEd; subst hEz
  refine jv_iconst (q := 1) (v := nI 0) G dX4_allFit_0 (by decide) rfl ?_
  refine jv_istore_n (q := 2) (lo' := [(3, .int (nI 0)), (0, .ref (z 6 4)), (1, .ref (z 0 a)), (2, .ref (z 0 b))]) G dX4_allFit_1 rfl (by decide) rfl rfl ?_
  refine jv_lo [0, 1, 2, 3] (lo' := [(3, .int (nI 0)), (0, .ref (z 6 4)), (1, .ref (z 0 a)), (2, .ref (z 0 b))]) rfl ?_
  exact k_af_loop hA hB uA uB lp ha8 hlt G Z hr A.length 0 _ (by omega) rfl cF.rf
