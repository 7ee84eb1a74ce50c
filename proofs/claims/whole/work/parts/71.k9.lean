theorem rv_4 : m_rv 4 = true := rfl
theorem rv_5 : m_rv 5 = false := rfl
theorem mt_4 : m_mt 4 = true := rfl
theorem ws_4 : m_ws 4 = false := rfl
set_option maxHeartbeats 4000000 in
set_option maxRecDepth 100000 in
theorem k_reach0 {lA : Launch} (hlt : lA.stackTraces = false) {D : jv_D} {base : Nat} {z : Nat → Nat → Nat} {T : Nat → Nat} {N : Nat → Nat → Nat} {h : jv_H} {e : Nat} {ts : List mT} (hE : cv_E z T N h e ts) {Us : Nat → List Nat} (hU : cv_Us z T h e ts Us) {u kd : Nat} {ty rc cv ow : Int32} {ko : Option Nat} (hu : cv_use h u kd ty ko rc cv ow) (hkd : kd < 6) (hK : ∀ K, ko = some K → K < 64) {c ec p : Nat} {su : Option Nat} (hc : cv_ca h c ec p su) (hp : p < 5) : jv_Met lA D base yX6_hindranceToReach (.code yX6_hindranceToReach cX6_hindranceToReach 6 (some .int)) 3 0 0 [.ref u, .ref (z 0 e), .ref c, va_rf none] h (jv_rI (nI (c_hr ts Us p su kd ty rc ko none)) h) jv_no := by
  refine jv_ofV (lo := [(0, .ref u), (1, .ref (z 0 e)), (2, .ref c), (3, va_rf none)]) hlt (by decide) (Nat.le_of_ble_eq_true rfl) rfl (fun E hEl hEd hEz Z G hr ht hnm => ?_)
  subst hEl; subst hEd; subst hEz
  refine jv_aload_n (q := 1) G 1 dX6_hindranceToReach_0 rfl rfl rfl ?_
  refine jv_aload_n (q := 2) G 0 dX6_hindranceToReach_1 rfl rfl rfl ?_
  refine jv_getI (q := 5) G dX6_hindranceToReach_2 fl_X6_15 rfl hu.1 hu.2.2.1 rfl ?_
  refine jv_callV_R (q := 8) (h1 := h) (As := [.int ty]) (rest := []) (ce' := 0) (sl' := 0) (r := ((m_at ts ty).map (fun k => T (10 * e + k)))) G Z ml_X6_30 (k_named hlt hE) hE.1.1 dX6_hindranceToReach_5 rfl (by decide) (by decide) (by decide) (by decide) (Nat.le_of_ble_eq_true rfl) rfl rfl rfl rfl ?_
  rcases Option.eq_none_or_eq_some (m_at ts ty) with hk3 | ⟨k1, hk3⟩
  · refine jv_topR (y := none) (by rw [hk3]; rfl) ?_
    refine jv_astoreR (q := 10) (lo' := [(4, va_rf none), (0, .ref u), (1, .ref (z 0 e)), (2, .ref c), (3, va_rf none)]) (x := none) G dX6_hindranceToReach_8 (by decide) rfl rfl ?_
    refine jv_aloadR (q := 12) G 0 dX6_hindranceToReach_10 rfl rfl ?_
    refine jv_ifnull (q := 15) (tgt := 33) (x := none) G dX6_hindranceToReach_12 (by decide) rfl (fun c4 => ?_) (fun a5 c4 => ?_)
    · refine jv_iconst (q := 34) (v := nI 1) G dX6_hindranceToReach_33 (by decide) rfl ?_
      refine jv_iret G hr dX6_hindranceToReach_34 (Nat.le_of_ble_eq_true rfl) (Nat.le_of_ble_eq_true rfl) ?_
      first | (refine ⟨?_, rfl⟩; unfold c_hr; simp [hk3, rv_4, rv_5, mt_4, ws_4]; done) | (refine ⟨?_, rfl⟩; unfold c_hr; simp only [hk3, rv_4, rv_5, mt_4, ws_4, Option.bind_some, Option.bind_none, Option.isNone_none, Option.isNone_some, Bool.and_true, Bool.and_false, Bool.true_and, Bool.false_and, Bool.not_true, Bool.not_false, decide_true, decide_false, if_true, if_false, Bool.false_eq_true, reduceIte]; done)
    · cases c4
  · refine jv_topR (y := (some (T (10 * e + k1)))) (by rw [hk3]; rfl) ?_
    obtain ⟨t2, ht2, nt2⟩ := m_at_get hk3
    have lt2 := jv_ltGet ht2
    have k10t2 : k1 < 10 := by have := hE.2.2.2.1; omega
    have Ot2 := (hE.2.2.2.2.1 k1 t2 ht2).2
    have Vt2 := (hE.2.2.2.2.1 k1 t2 ht2).1
    have Yt2 := hE.2.1 k1 k10t2
    have bt2n := Ot2.1; have bt2k := Ot2.2.1
    refine jv_astore (q := 10) (lo' := [(4, .ref (T (10 * e + k1))), (0, .ref u), (1, .ref (z 0 e)), (2, .ref c), (3, va_rf none)]) G dX6_hindranceToReach_8 (by decide) rfl rfl ?_
    refine jv_aload (q := 12) G 0 dX6_hindranceToReach_10 rfl rfl ?_
    refine jv_ifnull (q := 15) (tgt := 33) (x := (some (T (10 * e + k1)))) G dX6_hindranceToReach_12 (by decide) rfl (fun c6 => ?_) (fun a7 c6 => ?_)
    · cases c6
    · refine jv_aload_n (q := 16) G 1 dX6_hindranceToReach_15 rfl rfl rfl ?_
      refine jv_callV_I (q := 19) (h1 := h) (As := []) (rest := []) (ce' := 0) (sl' := 0) (r := jv_bI (m_rv kd)) G Z ml_X6_59 (k_hasReceiver hlt hu hkd) hu.1 dX6_hindranceToReach_16 rfl (by decide) (by decide) (by decide) (by decide) (Nat.le_of_ble_eq_true rfl) rfl rfl rfl rfl ?_
      refine jv_if_eqB (q := 22) (tgt := 35) G dX6_hindranceToReach_19 (by decide) rfl (fun c8 => ?_) (fun c8 => ?_)
      · refine jv_aload (q := 37) G 0 dX6_hindranceToReach_35 rfl rfl ?_
        refine jv_getZ (q := 40) G dX6_hindranceToReach_37 fl_X6_84 rfl (hE.2.1 k1 k10t2).1 (ct_4 (hE.2.2.2.2.1 k1 t2 ht2).1) rfl ?_
        refine jv_if_neB (q := 43) (tgt := 57) G dX6_hindranceToReach_40 (by decide) rfl (fun c9 => ?_) (fun c9 => ?_)
        · refine jv_aload_n (q := 58) G 1 dX6_hindranceToReach_57 rfl rfl rfl ?_
          refine jv_callV_I (q := 61) (h1 := h) (As := []) (rest := []) (ce' := 0) (sl' := 0) (r := jv_bI (m_rv kd)) G Z ml_X6_59 (k_hasReceiver hlt hu hkd) hu.1 dX6_hindranceToReach_58 rfl (by decide) (by decide) (by decide) (by decide) (Nat.le_of_ble_eq_true rfl) rfl rfl rfl rfl ?_
          refine jv_if_eqB (q := 64) (tgt := 88) G dX6_hindranceToReach_61 (by decide) rfl (fun c10 => ?_) (fun c10 => ?_)
          · refine jv_aload_n (q := 89) G 1 dX6_hindranceToReach_88 rfl rfl rfl ?_
            refine jv_getI (q := 92) G dX6_hindranceToReach_89 fl_X6_9 rfl hu.1 hu.2.1 rfl ?_
            refine jv_iconst (q := 93) (v := nI 5) G dX6_hindranceToReach_92 (by decide) rfl ?_
            refine jv_icmp_neN (q := 96) (tgt := 110) G dX6_hindranceToReach_93 (by decide) rfl (by omega) (by omega) (fun c11 => ?_) (fun c11 => ?_)
            · refine jv_aload_nR (q := 111) G 4 dX6_hindranceToReach_110 rfl rfl rfl ?_
              refine jv_ifnonnull (q := 114) (tgt := 118) (x := none) G dX6_hindranceToReach_111 (by decide) rfl (fun a13 c12 => ?_) (fun c12 => ?_)
              · cases c12
              · refine jv_null (q := 115) G dX6_hindranceToReach_114 rfl ?_
                refine jv_goto (q := 130) G dX6_hindranceToReach_115 (by decide) ?_
                refine jv_astoreR (q := 132) (lo' := [(5, va_rf none), (4, .ref (T (10 * e + k1))), (0, .ref u), (1, .ref (z 0 e)), (2, .ref c), (3, va_rf none)]) (x := none) G dX6_hindranceToReach_130 (by decide) rfl rfl ?_
                refine jv_aloadR (q := 134) G 0 dX6_hindranceToReach_132 rfl rfl ?_
                refine jv_ifnonnull (q := 137) (tgt := 139) (x := none) G dX6_hindranceToReach_134 (by decide) rfl (fun a15 c14 => ?_) (fun c14 => ?_)
                · cases c14
                · refine jv_iconst (q := 138) (v := nI 2) G dX6_hindranceToReach_137 (by decide) rfl ?_
                  refine jv_iret G hr dX6_hindranceToReach_138 (Nat.le_of_ble_eq_true rfl) (Nat.le_of_ble_eq_true rfl) ?_
                  first | (refine ⟨?_, rfl⟩; unfold c_hr; simp [c8, c9, c11, hk3, ht2, rv_4, rv_5, mt_4, ws_4]; done) | (refine ⟨?_, rfl⟩; unfold c_hr; simp only [c8, c9, c11, hk3, ht2, rv_4, rv_5, mt_4, ws_4, Option.bind_some, Option.bind_none, Option.isNone_none, Option.isNone_some, Bool.and_true, Bool.and_false, Bool.true_and, Bool.false_and, Bool.not_true, Bool.not_false, decide_true, decide_false, if_true, if_false, Bool.false_eq_true, reduceIte]; done)
            · subst c11
              refine jv_aload (q := 98) G 0 dX6_hindranceToReach_96 rfl rfl ?_
              refine jv_getZ (q := 101) G dX6_hindranceToReach_98 fl_X6_96 rfl (hE.2.1 k1 k10t2).1 (ct_2 (hE.2.2.2.2.1 k1 t2 ht2).1) rfl ?_
              refine jv_if_eqB (q := 104) (tgt := 108) G dX6_hindranceToReach_101 (by decide) rfl (fun c16 => ?_) (fun c16 => ?_)
              · refine jv_iconst (q := 109) (v := nI 0) G dX6_hindranceToReach_108 (by decide) rfl ?_
                refine jv_iret G hr dX6_hindranceToReach_109 (Nat.le_of_ble_eq_true rfl) (Nat.le_of_ble_eq_true rfl) ?_
                first | (refine ⟨?_, rfl⟩; unfold c_hr; simp [c8, c9, c16, hk3, ht2, rv_4, rv_5, mt_4, ws_4]; done) | (refine ⟨?_, rfl⟩; unfold c_hr; simp only [c8, c9, c16, hk3, ht2, rv_4, rv_5, mt_4, ws_4, Option.bind_some, Option.bind_none, Option.isNone_none, Option.isNone_some, Bool.and_true, Bool.and_false, Bool.true_and, Bool.false_and, Bool.not_true, Bool.not_false, decide_true, decide_false, if_true, if_false, Bool.false_eq_true, reduceIte]; done)
              · refine jv_iconst (q := 105) (v := nI 5) G dX6_hindranceToReach_104 (by decide) rfl ?_
                refine jv_goto (q := 109) G dX6_hindranceToReach_105 (by decide) ?_
                refine jv_iret G hr dX6_hindranceToReach_109 (Nat.le_of_ble_eq_true rfl) (Nat.le_of_ble_eq_true rfl) ?_
                first | (refine ⟨?_, rfl⟩; unfold c_hr; simp [c8, c9, c16, hk3, ht2, rv_4, rv_5, mt_4, ws_4]; done) | (refine ⟨?_, rfl⟩; unfold c_hr; simp only [c8, c9, c16, hk3, ht2, rv_4, rv_5, mt_4, ws_4, Option.bind_some, Option.bind_none, Option.isNone_none, Option.isNone_some, Bool.and_true, Bool.and_false, Bool.true_and, Bool.false_and, Bool.not_true, Bool.not_false, decide_true, decide_false, if_true, if_false, Bool.false_eq_true, reduceIte]; done)
          · rw [c8] at c10; cases c10
        · refine jv_aload (q := 45) G 0 dX6_hindranceToReach_43 rfl rfl ?_
          refine jv_getI (q := 48) G dX6_hindranceToReach_45 fl_X6_87 rfl (hE.2.1 k1 k10t2).1 (ct_3 (hE.2.2.2.2.1 k1 t2 ht2).1) rfl ?_
          refine jv_aload_n (q := 49) G 3 dX6_hindranceToReach_48 rfl rfl rfl ?_
          refine jv_getI (q := 52) G dX6_hindranceToReach_49 fl_X6_90 rfl hc.1 hc.2.2.1 rfl ?_
          refine jv_icmp_eqN (q := 55) (tgt := 57) G dX6_hindranceToReach_52 (by decide) rfl (by omega) (by omega) (fun c17 => ?_) (fun c17 => ?_)
          · refine jv_aload_n (q := 58) G 1 dX6_hindranceToReach_57 rfl rfl rfl ?_
            refine jv_callV_I (q := 61) (h1 := h) (As := []) (rest := []) (ce' := 0) (sl' := 0) (r := jv_bI (m_rv kd)) G Z ml_X6_59 (k_hasReceiver hlt hu hkd) hu.1 dX6_hindranceToReach_58 rfl (by decide) (by decide) (by decide) (by decide) (Nat.le_of_ble_eq_true rfl) rfl rfl rfl rfl ?_
            refine jv_if_eqB (q := 64) (tgt := 88) G dX6_hindranceToReach_61 (by decide) rfl (fun c18 => ?_) (fun c18 => ?_)
            · refine jv_aload_n (q := 89) G 1 dX6_hindranceToReach_88 rfl rfl rfl ?_
              refine jv_getI (q := 92) G dX6_hindranceToReach_89 fl_X6_9 rfl hu.1 hu.2.1 rfl ?_
              refine jv_iconst (q := 93) (v := nI 5) G dX6_hindranceToReach_92 (by decide) rfl ?_
              refine jv_icmp_neN (q := 96) (tgt := 110) G dX6_hindranceToReach_93 (by decide) rfl (by omega) (by omega) (fun c19 => ?_) (fun c19 => ?_)
              · refine jv_aload_nR (q := 111) G 4 dX6_hindranceToReach_110 rfl rfl rfl ?_
                refine jv_ifnonnull (q := 114) (tgt := 118) (x := none) G dX6_hindranceToReach_111 (by decide) rfl (fun a21 c20 => ?_) (fun c20 => ?_)
                · cases c20
                · refine jv_null (q := 115) G dX6_hindranceToReach_114 rfl ?_
                  refine jv_goto (q := 130) G dX6_hindranceToReach_115 (by decide) ?_
                  refine jv_astoreR (q := 132) (lo' := [(5, va_rf none), (4, .ref (T (10 * e + k1))), (0, .ref u), (1, .ref (z 0 e)), (2, .ref c), (3, va_rf none)]) (x := none) G dX6_hindranceToReach_130 (by decide) rfl rfl ?_
                  refine jv_aloadR (q := 134) G 0 dX6_hindranceToReach_132 rfl rfl ?_
                  refine jv_ifnonnull (q := 137) (tgt := 139) (x := none) G dX6_hindranceToReach_134 (by decide) rfl (fun a23 c22 => ?_) (fun c22 => ?_)
                  · cases c22
                  · refine jv_iconst (q := 138) (v := nI 2) G dX6_hindranceToReach_137 (by decide) rfl ?_
                    refine jv_iret G hr dX6_hindranceToReach_138 (Nat.le_of_ble_eq_true rfl) (Nat.le_of_ble_eq_true rfl) ?_
                    first | (refine ⟨?_, rfl⟩; unfold c_hr; simp [c8, c9, c17, c19, hk3, ht2, rv_4, rv_5, mt_4, ws_4]; done) | (refine ⟨?_, rfl⟩; unfold c_hr; simp only [c8, c9, c17, c19, hk3, ht2, rv_4, rv_5, mt_4, ws_4, Option.bind_some, Option.bind_none, Option.isNone_none, Option.isNone_some, Bool.and_true, Bool.and_false, Bool.true_and, Bool.false_and, Bool.not_true, Bool.not_false, decide_true, decide_false, if_true, if_false, Bool.false_eq_true, reduceIte]; done)
              · subst c19
                refine jv_aload (q := 98) G 0 dX6_hindranceToReach_96 rfl rfl ?_
                refine jv_getZ (q := 101) G dX6_hindranceToReach_98 fl_X6_96 rfl (hE.2.1 k1 k10t2).1 (ct_2 (hE.2.2.2.2.1 k1 t2 ht2).1) rfl ?_
                refine jv_if_eqB (q := 104) (tgt := 108) G dX6_hindranceToReach_101 (by decide) rfl (fun c24 => ?_) (fun c24 => ?_)
                · refine jv_iconst (q := 109) (v := nI 0) G dX6_hindranceToReach_108 (by decide) rfl ?_
                  refine jv_iret G hr dX6_hindranceToReach_109 (Nat.le_of_ble_eq_true rfl) (Nat.le_of_ble_eq_true rfl) ?_
                  first | (refine ⟨?_, rfl⟩; unfold c_hr; simp [c8, c9, c17, c24, hk3, ht2, rv_4, rv_5, mt_4, ws_4]; done) | (refine ⟨?_, rfl⟩; unfold c_hr; simp only [c8, c9, c17, c24, hk3, ht2, rv_4, rv_5, mt_4, ws_4, Option.bind_some, Option.bind_none, Option.isNone_none, Option.isNone_some, Bool.and_true, Bool.and_false, Bool.true_and, Bool.false_and, Bool.not_true, Bool.not_false, decide_true, decide_false, if_true, if_false, Bool.false_eq_true, reduceIte]; done)
                · refine jv_iconst (q := 105) (v := nI 5) G dX6_hindranceToReach_104 (by decide) rfl ?_
                  refine jv_goto (q := 109) G dX6_hindranceToReach_105 (by decide) ?_
                  refine jv_iret G hr dX6_hindranceToReach_109 (Nat.le_of_ble_eq_true rfl) (Nat.le_of_ble_eq_true rfl) ?_
                  first | (refine ⟨?_, rfl⟩; unfold c_hr; simp [c8, c9, c17, c24, hk3, ht2, rv_4, rv_5, mt_4, ws_4]; done) | (refine ⟨?_, rfl⟩; unfold c_hr; simp only [c8, c9, c17, c24, hk3, ht2, rv_4, rv_5, mt_4, ws_4, Option.bind_some, Option.bind_none, Option.isNone_none, Option.isNone_some, Bool.and_true, Bool.and_false, Bool.true_and, Bool.false_and, Bool.not_true, Bool.not_false, decide_true, decide_false, if_true, if_false, Bool.false_eq_true, reduceIte]; done)
            · rw [c8] at c18; cases c18
          · refine jv_iconst (q := 56) (v := nI 3) G dX6_hindranceToReach_55 (by decide) rfl ?_
            refine jv_iret G hr dX6_hindranceToReach_56 (Nat.le_of_ble_eq_true rfl) (Nat.le_of_ble_eq_true rfl) ?_
            first | (refine ⟨?_, rfl⟩; unfold c_hr; simp [c8, c9, c17, hk3, ht2, rv_4, rv_5, mt_4, ws_4]; done) | (refine ⟨?_, rfl⟩; unfold c_hr; simp only [c8, c9, c17, hk3, ht2, rv_4, rv_5, mt_4, ws_4, Option.bind_some, Option.bind_none, Option.isNone_none, Option.isNone_some, Bool.and_true, Bool.and_false, Bool.true_and, Bool.false_and, Bool.not_true, Bool.not_false, decide_true, decide_false, if_true, if_false, Bool.false_eq_true, reduceIte]; done)
      · refine jv_aload_n (q := 23) G 2 dX6_hindranceToReach_22 rfl rfl rfl ?_
        refine jv_aload_n (q := 24) G 1 dX6_hindranceToReach_23 rfl rfl rfl ?_
        refine jv_getI (q := 27) G dX6_hindranceToReach_24 fl_X6_21 rfl hu.1 hu.2.2.2.2.1 rfl ?_
        refine jv_callV_R (q := 30) (h1 := h) (As := [.int rc]) (rest := []) (ce' := 0) (sl' := 0) (r := ((m_at ts rc).map (fun k => T (10 * e + k)))) G Z ml_X6_30 (k_named hlt hE) hE.1.1 dX6_hindranceToReach_27 rfl (by decide) (by decide) (by decide) (by decide) (Nat.le_of_ble_eq_true rfl) rfl rfl rfl rfl ?_
        rcases Option.eq_none_or_eq_some (m_at ts rc) with hk27 | ⟨k25, hk27⟩
        · refine jv_topR (y := none) (by rw [hk27]; rfl) ?_
          refine jv_ifnonnull (q := 33) (tgt := 35) (x := none) G dX6_hindranceToReach_30 (by decide) rfl (fun a29 c28 => ?_) (fun c28 => ?_)
          · cases c28
          · refine jv_iconst (q := 34) (v := nI 1) G dX6_hindranceToReach_33 (by decide) rfl ?_
            refine jv_iret G hr dX6_hindranceToReach_34 (Nat.le_of_ble_eq_true rfl) (Nat.le_of_ble_eq_true rfl) ?_
            first | (refine ⟨?_, rfl⟩; unfold c_hr; simp [c8, hk3, ht2, hk27, rv_4, rv_5, mt_4, ws_4]; done) | (refine ⟨?_, rfl⟩; unfold c_hr; simp only [c8, hk3, ht2, hk27, rv_4, rv_5, mt_4, ws_4, Option.bind_some, Option.bind_none, Option.isNone_none, Option.isNone_some, Bool.and_true, Bool.and_false, Bool.true_and, Bool.false_and, Bool.not_true, Bool.not_false, decide_true, decide_false, if_true, if_false, Bool.false_eq_true, reduceIte]; done)
        · refine jv_topR (y := (some (T (10 * e + k25)))) (by rw [hk27]; rfl) ?_
          obtain ⟨t26, ht26, nt26⟩ := m_at_get hk27
          have lt26 := jv_ltGet ht26
          have k10t26 : k25 < 10 := by have := hE.2.2.2.1; omega
          have Ot26 := (hE.2.2.2.2.1 k25 t26 ht26).2
          have Vt26 := (hE.2.2.2.2.1 k25 t26 ht26).1
          have Yt26 := hE.2.1 k25 k10t26
          have bt26n := Ot26.1; have bt26k := Ot26.2.1
          refine jv_ifnonnull (q := 33) (tgt := 35) (x := (some (T (10 * e + k25)))) G dX6_hindranceToReach_30 (by decide) rfl (fun a31 c30 => ?_) (fun c30 => ?_)
          · refine jv_aload (q := 37) G 0 dX6_hindranceToReach_35 rfl rfl ?_
            refine jv_getZ (q := 40) G dX6_hindranceToReach_37 fl_X6_84 rfl (hE.2.1 k1 k10t2).1 (ct_4 (hE.2.2.2.2.1 k1 t2 ht2).1) rfl ?_
            refine jv_if_neB (q := 43) (tgt := 57) G dX6_hindranceToReach_40 (by decide) rfl (fun c32 => ?_) (fun c32 => ?_)
            · refine jv_aload_n (q := 58) G 1 dX6_hindranceToReach_57 rfl rfl rfl ?_
              refine jv_callV_I (q := 61) (h1 := h) (As := []) (rest := []) (ce' := 0) (sl' := 0) (r := jv_bI (m_rv kd)) G Z ml_X6_59 (k_hasReceiver hlt hu hkd) hu.1 dX6_hindranceToReach_58 rfl (by decide) (by decide) (by decide) (by decide) (Nat.le_of_ble_eq_true rfl) rfl rfl rfl rfl ?_
              refine jv_if_eqB (q := 64) (tgt := 88) G dX6_hindranceToReach_61 (by decide) rfl (fun c33 => ?_) (fun c33 => ?_)
              · rw [c8] at c33; cases c33
              · refine jv_aload (q := 66) G 0 dX6_hindranceToReach_64 rfl rfl ?_
                refine jv_getZ (q := 69) G dX6_hindranceToReach_66 fl_X6_93 rfl (hE.2.1 k1 k10t2).1 (ct_1 (hE.2.2.2.2.1 k1 t2 ht2).1) rfl ?_
                refine jv_aload_n (q := 70) G 1 dX6_hindranceToReach_69 rfl rfl rfl ?_
                refine jv_getI (q := 73) G dX6_hindranceToReach_70 fl_X6_9 rfl hu.1 hu.2.1 rfl ?_
                refine jv_iconst (q := 74) (v := nI 4) G dX6_hindranceToReach_73 (by decide) rfl ?_
                refine jv_icmp_neN (q := 77) (tgt := 81) G dX6_hindranceToReach_74 (by decide) rfl (by omega) (by omega) (fun c34 => ?_) (fun c34 => ?_)
                · refine jv_iconst (q := 82) (v := nI 0) G dX6_hindranceToReach_81 (by decide) rfl ?_
                  refine jv_topI (y := jv_bI false) rfl ?_
                  refine jv_icmp_eqB (q := 85) (tgt := 88) G dX6_hindranceToReach_82 (by decide) rfl (fun c35 => ?_) (fun c35 => ?_)
                  · refine jv_aload_n (q := 89) G 1 dX6_hindranceToReach_88 rfl rfl rfl ?_
                    refine jv_getI (q := 92) G dX6_hindranceToReach_89 fl_X6_9 rfl hu.1 hu.2.1 rfl ?_
                    refine jv_iconst (q := 93) (v := nI 5) G dX6_hindranceToReach_92 (by decide) rfl ?_
                    refine jv_icmp_neN (q := 96) (tgt := 110) G dX6_hindranceToReach_93 (by decide) rfl (by omega) (by omega) (fun c36 => ?_) (fun c36 => ?_)
                    · refine jv_aload_nR (q := 111) G 4 dX6_hindranceToReach_110 rfl rfl rfl ?_
                      refine jv_ifnonnull (q := 114) (tgt := 118) (x := none) G dX6_hindranceToReach_111 (by decide) rfl (fun a38 c37 => ?_) (fun c37 => ?_)
                      · cases c37
                      · refine jv_null (q := 115) G dX6_hindranceToReach_114 rfl ?_
                        refine jv_goto (q := 130) G dX6_hindranceToReach_115 (by decide) ?_
                        refine jv_astoreR (q := 132) (lo' := [(5, va_rf none), (4, .ref (T (10 * e + k1))), (0, .ref u), (1, .ref (z 0 e)), (2, .ref c), (3, va_rf none)]) (x := none) G dX6_hindranceToReach_130 (by decide) rfl rfl ?_
                        refine jv_aloadR (q := 134) G 0 dX6_hindranceToReach_132 rfl rfl ?_
                        refine jv_ifnonnull (q := 137) (tgt := 139) (x := none) G dX6_hindranceToReach_134 (by decide) rfl (fun a40 c39 => ?_) (fun c39 => ?_)
                        · cases c39
                        · refine jv_iconst (q := 138) (v := nI 2) G dX6_hindranceToReach_137 (by decide) rfl ?_
                          refine jv_iret G hr dX6_hindranceToReach_138 (Nat.le_of_ble_eq_true rfl) (Nat.le_of_ble_eq_true rfl) ?_
                          first | (refine ⟨?_, rfl⟩; unfold c_hr; simp [c8, c32, c34, c35, c36, hk3, ht2, hk27, ht26, rv_4, rv_5, mt_4, ws_4]; done) | (refine ⟨?_, rfl⟩; unfold c_hr; simp only [c8, c32, c34, c35, c36, hk3, ht2, hk27, ht26, rv_4, rv_5, mt_4, ws_4, Option.bind_some, Option.bind_none, Option.isNone_none, Option.isNone_some, Bool.and_true, Bool.and_false, Bool.true_and, Bool.false_and, Bool.not_true, Bool.not_false, decide_true, decide_false, if_true, if_false, Bool.false_eq_true, reduceIte]; done)
                    · subst c36; exact absurd c8 (by decide)
                  · refine jv_bipush (q := 87) (v := nI 6) G dX6_hindranceToReach_85 (by decide) rfl ?_
                    refine jv_iret G hr dX6_hindranceToReach_87 (Nat.le_of_ble_eq_true rfl) (Nat.le_of_ble_eq_true rfl) ?_
                    first | (refine ⟨?_, rfl⟩; unfold c_hr; simp [c8, c32, c34, c35, hk3, ht2, hk27, ht26, rv_4, rv_5, mt_4, ws_4]; done) | (refine ⟨?_, rfl⟩; unfold c_hr; simp only [c8, c32, c34, c35, hk3, ht2, hk27, ht26, rv_4, rv_5, mt_4, ws_4, Option.bind_some, Option.bind_none, Option.isNone_none, Option.isNone_some, Bool.and_true, Bool.and_false, Bool.true_and, Bool.false_and, Bool.not_true, Bool.not_false, decide_true, decide_false, if_true, if_false, Bool.false_eq_true, reduceIte]; done)
                · subst c34
                  refine jv_iconst (q := 78) (v := nI 1) G dX6_hindranceToReach_77 (by decide) rfl ?_
                  refine jv_goto (q := 82) G dX6_hindranceToReach_78 (by decide) ?_
                  refine jv_topI (y := jv_bI true) rfl ?_
                  refine jv_icmp_eqB (q := 85) (tgt := 88) G dX6_hindranceToReach_82 (by decide) rfl (fun c41 => ?_) (fun c41 => ?_)
                  · refine jv_aload_n (q := 89) G 1 dX6_hindranceToReach_88 rfl rfl rfl ?_
                    refine jv_getI (q := 92) G dX6_hindranceToReach_89 fl_X6_9 rfl hu.1 hu.2.1 rfl ?_
                    refine jv_iconst (q := 93) (v := nI 5) G dX6_hindranceToReach_92 (by decide) rfl ?_
                    refine jv_icmp_neN (q := 96) (tgt := 110) G dX6_hindranceToReach_93 (by decide) rfl (by omega) (by omega) (fun c42 => ?_) (fun c42 => ?_)
                    · refine jv_aload_nR (q := 111) G 4 dX6_hindranceToReach_110 rfl rfl rfl ?_
                      refine jv_ifnonnull (q := 114) (tgt := 118) (x := none) G dX6_hindranceToReach_111 (by decide) rfl (fun a44 c43 => ?_) (fun c43 => ?_)
                      · cases c43
                      · refine jv_null (q := 115) G dX6_hindranceToReach_114 rfl ?_
                        refine jv_goto (q := 130) G dX6_hindranceToReach_115 (by decide) ?_
                        refine jv_astoreR (q := 132) (lo' := [(5, va_rf none), (4, .ref (T (10 * e + k1))), (0, .ref u), (1, .ref (z 0 e)), (2, .ref c), (3, va_rf none)]) (x := none) G dX6_hindranceToReach_130 (by decide) rfl rfl ?_
                        refine jv_aloadR (q := 134) G 0 dX6_hindranceToReach_132 rfl rfl ?_
                        refine jv_ifnonnull (q := 137) (tgt := 139) (x := none) G dX6_hindranceToReach_134 (by decide) rfl (fun a46 c45 => ?_) (fun c45 => ?_)
                        · cases c45
                        · refine jv_iconst (q := 138) (v := nI 2) G dX6_hindranceToReach_137 (by decide) rfl ?_
                          refine jv_iret G hr dX6_hindranceToReach_138 (Nat.le_of_ble_eq_true rfl) (Nat.le_of_ble_eq_true rfl) ?_
                          first | (refine ⟨?_, rfl⟩; unfold c_hr; simp [c8, c32, c41, c42, hk3, ht2, hk27, ht26, rv_4, rv_5, mt_4, ws_4]; done) | (refine ⟨?_, rfl⟩; unfold c_hr; simp only [c8, c32, c41, c42, hk3, ht2, hk27, ht26, rv_4, rv_5, mt_4, ws_4, Option.bind_some, Option.bind_none, Option.isNone_none, Option.isNone_some, Bool.and_true, Bool.and_false, Bool.true_and, Bool.false_and, Bool.not_true, Bool.not_false, decide_true, decide_false, if_true, if_false, Bool.false_eq_true, reduceIte]; done)
                    · omega
                  · refine jv_bipush (q := 87) (v := nI 6) G dX6_hindranceToReach_85 (by decide) rfl ?_
                    refine jv_iret G hr dX6_hindranceToReach_87 (Nat.le_of_ble_eq_true rfl) (Nat.le_of_ble_eq_true rfl) ?_
                    first | (refine ⟨?_, rfl⟩; unfold c_hr; simp [c8, c32, c41, hk3, ht2, hk27, ht26, rv_4, rv_5, mt_4, ws_4]; done) | (refine ⟨?_, rfl⟩; unfold c_hr; simp only [c8, c32, c41, hk3, ht2, hk27, ht26, rv_4, rv_5, mt_4, ws_4, Option.bind_some, Option.bind_none, Option.isNone_none, Option.isNone_some, Bool.and_true, Bool.and_false, Bool.true_and, Bool.false_and, Bool.not_true, Bool.not_false, decide_true, decide_false, if_true, if_false, Bool.false_eq_true, reduceIte]; done)
            · refine jv_aload (q := 45) G 0 dX6_hindranceToReach_43 rfl rfl ?_
              refine jv_getI (q := 48) G dX6_hindranceToReach_45 fl_X6_87 rfl (hE.2.1 k1 k10t2).1 (ct_3 (hE.2.2.2.2.1 k1 t2 ht2).1) rfl ?_
              refine jv_aload_n (q := 49) G 3 dX6_hindranceToReach_48 rfl rfl rfl ?_
              refine jv_getI (q := 52) G dX6_hindranceToReach_49 fl_X6_90 rfl hc.1 hc.2.2.1 rfl ?_
              refine jv_icmp_eqN (q := 55) (tgt := 57) G dX6_hindranceToReach_52 (by decide) rfl (by omega) (by omega) (fun c47 => ?_) (fun c47 => ?_)
              · refine jv_aload_n (q := 58) G 1 dX6_hindranceToReach_57 rfl rfl rfl ?_
                refine jv_callV_I (q := 61) (h1 := h) (As := []) (rest := []) (ce' := 0) (sl' := 0) (r := jv_bI (m_rv kd)) G Z ml_X6_59 (k_hasReceiver hlt hu hkd) hu.1 dX6_hindranceToReach_58 rfl (by decide) (by decide) (by decide) (by decide) (Nat.le_of_ble_eq_true rfl) rfl rfl rfl rfl ?_
                refine jv_if_eqB (q := 64) (tgt := 88) G dX6_hindranceToReach_61 (by decide) rfl (fun c48 => ?_) (fun c48 => ?_)
                · rw [c8] at c48; cases c48
                · refine jv_aload (q := 66) G 0 dX6_hindranceToReach_64 rfl rfl ?_
                  refine jv_getZ (q := 69) G dX6_hindranceToReach_66 fl_X6_93 rfl (hE.2.1 k1 k10t2).1 (ct_1 (hE.2.2.2.2.1 k1 t2 ht2).1) rfl ?_
                  refine jv_aload_n (q := 70) G 1 dX6_hindranceToReach_69 rfl rfl rfl ?_
                  refine jv_getI (q := 73) G dX6_hindranceToReach_70 fl_X6_9 rfl hu.1 hu.2.1 rfl ?_
                  refine jv_iconst (q := 74) (v := nI 4) G dX6_hindranceToReach_73 (by decide) rfl ?_
                  refine jv_icmp_neN (q := 77) (tgt := 81) G dX6_hindranceToReach_74 (by decide) rfl (by omega) (by omega) (fun c49 => ?_) (fun c49 => ?_)
                  · refine jv_iconst (q := 82) (v := nI 0) G dX6_hindranceToReach_81 (by decide) rfl ?_
                    refine jv_topI (y := jv_bI false) rfl ?_
                    refine jv_icmp_eqB (q := 85) (tgt := 88) G dX6_hindranceToReach_82 (by decide) rfl (fun c50 => ?_) (fun c50 => ?_)
                    · refine jv_aload_n (q := 89) G 1 dX6_hindranceToReach_88 rfl rfl rfl ?_
                      refine jv_getI (q := 92) G dX6_hindranceToReach_89 fl_X6_9 rfl hu.1 hu.2.1 rfl ?_
                      refine jv_iconst (q := 93) (v := nI 5) G dX6_hindranceToReach_92 (by decide) rfl ?_
                      refine jv_icmp_neN (q := 96) (tgt := 110) G dX6_hindranceToReach_93 (by decide) rfl (by omega) (by omega) (fun c51 => ?_) (fun c51 => ?_)
                      · refine jv_aload_nR (q := 111) G 4 dX6_hindranceToReach_110 rfl rfl rfl ?_
                        refine jv_ifnonnull (q := 114) (tgt := 118) (x := none) G dX6_hindranceToReach_111 (by decide) rfl (fun a53 c52 => ?_) (fun c52 => ?_)
                        · cases c52
                        · refine jv_null (q := 115) G dX6_hindranceToReach_114 rfl ?_
                          refine jv_goto (q := 130) G dX6_hindranceToReach_115 (by decide) ?_
                          refine jv_astoreR (q := 132) (lo' := [(5, va_rf none), (4, .ref (T (10 * e + k1))), (0, .ref u), (1, .ref (z 0 e)), (2, .ref c), (3, va_rf none)]) (x := none) G dX6_hindranceToReach_130 (by decide) rfl rfl ?_
                          refine jv_aloadR (q := 134) G 0 dX6_hindranceToReach_132 rfl rfl ?_
                          refine jv_ifnonnull (q := 137) (tgt := 139) (x := none) G dX6_hindranceToReach_134 (by decide) rfl (fun a55 c54 => ?_) (fun c54 => ?_)
                          · cases c54
                          · refine jv_iconst (q := 138) (v := nI 2) G dX6_hindranceToReach_137 (by decide) rfl ?_
                            refine jv_iret G hr dX6_hindranceToReach_138 (Nat.le_of_ble_eq_true rfl) (Nat.le_of_ble_eq_true rfl) ?_
                            first | (refine ⟨?_, rfl⟩; unfold c_hr; simp [c8, c32, c47, c49, c50, c51, hk3, ht2, hk27, ht26, rv_4, rv_5, mt_4, ws_4]; done) | (refine ⟨?_, rfl⟩; unfold c_hr; simp only [c8, c32, c47, c49, c50, c51, hk3, ht2, hk27, ht26, rv_4, rv_5, mt_4, ws_4, Option.bind_some, Option.bind_none, Option.isNone_none, Option.isNone_some, Bool.and_true, Bool.and_false, Bool.true_and, Bool.false_and, Bool.not_true, Bool.not_false, decide_true, decide_false, if_true, if_false, Bool.false_eq_true, reduceIte]; done)
                      · subst c51; exact absurd c8 (by decide)
                    · refine jv_bipush (q := 87) (v := nI 6) G dX6_hindranceToReach_85 (by decide) rfl ?_
                      refine jv_iret G hr dX6_hindranceToReach_87 (Nat.le_of_ble_eq_true rfl) (Nat.le_of_ble_eq_true rfl) ?_
                      first | (refine ⟨?_, rfl⟩; unfold c_hr; simp [c8, c32, c47, c49, c50, hk3, ht2, hk27, ht26, rv_4, rv_5, mt_4, ws_4]; done) | (refine ⟨?_, rfl⟩; unfold c_hr; simp only [c8, c32, c47, c49, c50, hk3, ht2, hk27, ht26, rv_4, rv_5, mt_4, ws_4, Option.bind_some, Option.bind_none, Option.isNone_none, Option.isNone_some, Bool.and_true, Bool.and_false, Bool.true_and, Bool.false_and, Bool.not_true, Bool.not_false, decide_true, decide_false, if_true, if_false, Bool.false_eq_true, reduceIte]; done)
                  · subst c49
                    refine jv_iconst (q := 78) (v := nI 1) G dX6_hindranceToReach_77 (by decide) rfl ?_
                    refine jv_goto (q := 82) G dX6_hindranceToReach_78 (by decide) ?_
                    refine jv_topI (y := jv_bI true) rfl ?_
                    refine jv_icmp_eqB (q := 85) (tgt := 88) G dX6_hindranceToReach_82 (by decide) rfl (fun c56 => ?_) (fun c56 => ?_)
                    · refine jv_aload_n (q := 89) G 1 dX6_hindranceToReach_88 rfl rfl rfl ?_
                      refine jv_getI (q := 92) G dX6_hindranceToReach_89 fl_X6_9 rfl hu.1 hu.2.1 rfl ?_
                      refine jv_iconst (q := 93) (v := nI 5) G dX6_hindranceToReach_92 (by decide) rfl ?_
                      refine jv_icmp_neN (q := 96) (tgt := 110) G dX6_hindranceToReach_93 (by decide) rfl (by omega) (by omega) (fun c57 => ?_) (fun c57 => ?_)
                      · refine jv_aload_nR (q := 111) G 4 dX6_hindranceToReach_110 rfl rfl rfl ?_
                        refine jv_ifnonnull (q := 114) (tgt := 118) (x := none) G dX6_hindranceToReach_111 (by decide) rfl (fun a59 c58 => ?_) (fun c58 => ?_)
                        · cases c58
                        · refine jv_null (q := 115) G dX6_hindranceToReach_114 rfl ?_
                          refine jv_goto (q := 130) G dX6_hindranceToReach_115 (by decide) ?_
                          refine jv_astoreR (q := 132) (lo' := [(5, va_rf none), (4, .ref (T (10 * e + k1))), (0, .ref u), (1, .ref (z 0 e)), (2, .ref c), (3, va_rf none)]) (x := none) G dX6_hindranceToReach_130 (by decide) rfl rfl ?_
                          refine jv_aloadR (q := 134) G 0 dX6_hindranceToReach_132 rfl rfl ?_
                          refine jv_ifnonnull (q := 137) (tgt := 139) (x := none) G dX6_hindranceToReach_134 (by decide) rfl (fun a61 c60 => ?_) (fun c60 => ?_)
                          · cases c60
                          · refine jv_iconst (q := 138) (v := nI 2) G dX6_hindranceToReach_137 (by decide) rfl ?_
                            refine jv_iret G hr dX6_hindranceToReach_138 (Nat.le_of_ble_eq_true rfl) (Nat.le_of_ble_eq_true rfl) ?_
                            first | (refine ⟨?_, rfl⟩; unfold c_hr; simp [c8, c32, c47, c56, c57, hk3, ht2, hk27, ht26, rv_4, rv_5, mt_4, ws_4]; done) | (refine ⟨?_, rfl⟩; unfold c_hr; simp only [c8, c32, c47, c56, c57, hk3, ht2, hk27, ht26, rv_4, rv_5, mt_4, ws_4, Option.bind_some, Option.bind_none, Option.isNone_none, Option.isNone_some, Bool.and_true, Bool.and_false, Bool.true_and, Bool.false_and, Bool.not_true, Bool.not_false, decide_true, decide_false, if_true, if_false, Bool.false_eq_true, reduceIte]; done)
                      · omega
                    · refine jv_bipush (q := 87) (v := nI 6) G dX6_hindranceToReach_85 (by decide) rfl ?_
                      refine jv_iret G hr dX6_hindranceToReach_87 (Nat.le_of_ble_eq_true rfl) (Nat.le_of_ble_eq_true rfl) ?_
                      first | (refine ⟨?_, rfl⟩; unfold c_hr; simp [c8, c32, c47, c56, hk3, ht2, hk27, ht26, rv_4, rv_5, mt_4, ws_4]; done) | (refine ⟨?_, rfl⟩; unfold c_hr; simp only [c8, c32, c47, c56, hk3, ht2, hk27, ht26, rv_4, rv_5, mt_4, ws_4, Option.bind_some, Option.bind_none, Option.isNone_none, Option.isNone_some, Bool.and_true, Bool.and_false, Bool.true_and, Bool.false_and, Bool.not_true, Bool.not_false, decide_true, decide_false, if_true, if_false, Bool.false_eq_true, reduceIte]; done)
              · refine jv_iconst (q := 56) (v := nI 3) G dX6_hindranceToReach_55 (by decide) rfl ?_
                refine jv_iret G hr dX6_hindranceToReach_56 (Nat.le_of_ble_eq_true rfl) (Nat.le_of_ble_eq_true rfl) ?_
                first | (refine ⟨?_, rfl⟩; unfold c_hr; simp [c8, c32, c47, hk3, ht2, hk27, ht26, rv_4, rv_5, mt_4, ws_4]; done) | (refine ⟨?_, rfl⟩; unfold c_hr; simp only [c8, c32, c47, hk3, ht2, hk27, ht26, rv_4, rv_5, mt_4, ws_4, Option.bind_some, Option.bind_none, Option.isNone_none, Option.isNone_some, Bool.and_true, Bool.and_false, Bool.true_and, Bool.false_and, Bool.not_true, Bool.not_false, decide_true, decide_false, if_true, if_false, Bool.false_eq_true, reduceIte]; done)
          · cases c30
set_option maxHeartbeats 4000000 in
set_option maxRecDepth 100000 in
theorem k_reach1 {lA : Launch} (hlt : lA.stackTraces = false) {D : jv_D} {base : Nat} {z : Nat → Nat → Nat} {T : Nat → Nat} {N : Nat → Nat → Nat} {h : jv_H} {e : Nat} {ts : List mT} (hE : cv_E z T N h e ts) {Us : Nat → List Nat} (hU : cv_Us z T h e ts Us) {u kd : Nat} {ty rc cv ow : Int32} {ko : Option Nat} (hu : cv_use h u kd ty ko rc cv ow) (hkd : kd < 6) (hK : ∀ K, ko = some K → K < 64) {c ec p : Nat} {su : Option Nat} (hc : cv_ca h c ec p su) (hp : p < 5) {k0 : Nat} {t0 : mT} (ht0 : ts[k0]? = some t0) : jv_Met lA D base yX6_hindranceToReach (.code yX6_hindranceToReach cX6_hindranceToReach 6 (some .int)) 3 0 0 [.ref u, .ref (z 0 e), .ref c, .ref (T (10 * e + k0))] h (jv_rI (nI (c_hr ts Us p su kd ty rc ko (some k0))) h) jv_no := by
  refine jv_ofV (lo := [(0, .ref u), (1, .ref (z 0 e)), (2, .ref c), (3, .ref (T (10 * e + k0)))]) hlt (by decide) (Nat.le_of_ble_eq_true rfl) rfl (fun E hEl hEd hEz Z G hr ht hnm => ?_)
  subst hEl; subst hEd; subst hEz
  have lt0 := jv_ltGet ht0
  have k10t0 : k0 < 10 := by have := hE.2.2.2.1; omega
  have Ot0 := (hE.2.2.2.2.1 k0 t0 ht0).2
  have Vt0 := (hE.2.2.2.2.1 k0 t0 ht0).1
  have Yt0 := hE.2.1 k0 k10t0
  have bt0n := Ot0.1; have bt0k := Ot0.2.1
  refine jv_aload_n (q := 1) G 1 dX6_hindranceToReach_0 rfl rfl rfl ?_
  refine jv_aload_n (q := 2) G 0 dX6_hindranceToReach_1 rfl rfl rfl ?_
  refine jv_getI (q := 5) G dX6_hindranceToReach_2 fl_X6_15 rfl hu.1 hu.2.2.1 rfl ?_
  refine jv_callV_R (q := 8) (h1 := h) (As := [.int ty]) (rest := []) (ce' := 0) (sl' := 0) (r := ((m_at ts ty).map (fun k => T (10 * e + k)))) G Z ml_X6_30 (k_named hlt hE) hE.1.1 dX6_hindranceToReach_5 rfl (by decide) (by decide) (by decide) (by decide) (Nat.le_of_ble_eq_true rfl) rfl rfl rfl rfl ?_
  rcases Option.eq_none_or_eq_some (m_at ts ty) with hk3 | ⟨k1, hk3⟩
  · refine jv_topR (y := none) (by rw [hk3]; rfl) ?_
    refine jv_astoreR (q := 10) (lo' := [(4, va_rf none), (0, .ref u), (1, .ref (z 0 e)), (2, .ref c), (3, .ref (T (10 * e + k0)))]) (x := none) G dX6_hindranceToReach_8 (by decide) rfl rfl ?_
    refine jv_aloadR (q := 12) G 0 dX6_hindranceToReach_10 rfl rfl ?_
    refine jv_ifnull (q := 15) (tgt := 33) (x := none) G dX6_hindranceToReach_12 (by decide) rfl (fun c4 => ?_) (fun a5 c4 => ?_)
    · refine jv_iconst (q := 34) (v := nI 1) G dX6_hindranceToReach_33 (by decide) rfl ?_
      refine jv_iret G hr dX6_hindranceToReach_34 (Nat.le_of_ble_eq_true rfl) (Nat.le_of_ble_eq_true rfl) ?_
      first | (refine ⟨?_, rfl⟩; unfold c_hr; simp [hk3, ht0, rv_4, rv_5, mt_4, ws_4]; done) | (refine ⟨?_, rfl⟩; unfold c_hr; simp only [hk3, ht0, rv_4, rv_5, mt_4, ws_4, Option.bind_some, Option.bind_none, Option.isNone_none, Option.isNone_some, Bool.and_true, Bool.and_false, Bool.true_and, Bool.false_and, Bool.not_true, Bool.not_false, decide_true, decide_false, if_true, if_false, Bool.false_eq_true, reduceIte]; done)
    · cases c4
  · refine jv_topR (y := (some (T (10 * e + k1)))) (by rw [hk3]; rfl) ?_
    obtain ⟨t2, ht2, nt2⟩ := m_at_get hk3
    have lt2 := jv_ltGet ht2
    have k10t2 : k1 < 10 := by have := hE.2.2.2.1; omega
    have Ot2 := (hE.2.2.2.2.1 k1 t2 ht2).2
    have Vt2 := (hE.2.2.2.2.1 k1 t2 ht2).1
    have Yt2 := hE.2.1 k1 k10t2
    have bt2n := Ot2.1; have bt2k := Ot2.2.1
    refine jv_astore (q := 10) (lo' := [(4, .ref (T (10 * e + k1))), (0, .ref u), (1, .ref (z 0 e)), (2, .ref c), (3, .ref (T (10 * e + k0)))]) G dX6_hindranceToReach_8 (by decide) rfl rfl ?_
    refine jv_aload (q := 12) G 0 dX6_hindranceToReach_10 rfl rfl ?_
    refine jv_ifnull (q := 15) (tgt := 33) (x := (some (T (10 * e + k1)))) G dX6_hindranceToReach_12 (by decide) rfl (fun c6 => ?_) (fun a7 c6 => ?_)
    · cases c6
    · refine jv_aload_n (q := 16) G 1 dX6_hindranceToReach_15 rfl rfl rfl ?_
      refine jv_callV_I (q := 19) (h1 := h) (As := []) (rest := []) (ce' := 0) (sl' := 0) (r := jv_bI (m_rv kd)) G Z ml_X6_59 (k_hasReceiver hlt hu hkd) hu.1 dX6_hindranceToReach_16 rfl (by decide) (by decide) (by decide) (by decide) (Nat.le_of_ble_eq_true rfl) rfl rfl rfl rfl ?_
      refine jv_if_eqB (q := 22) (tgt := 35) G dX6_hindranceToReach_19 (by decide) rfl (fun c8 => ?_) (fun c8 => ?_)
      · refine jv_aload (q := 37) G 0 dX6_hindranceToReach_35 rfl rfl ?_
        refine jv_getZ (q := 40) G dX6_hindranceToReach_37 fl_X6_84 rfl (hE.2.1 k1 k10t2).1 (ct_4 (hE.2.2.2.2.1 k1 t2 ht2).1) rfl ?_
        refine jv_if_neB (q := 43) (tgt := 57) G dX6_hindranceToReach_40 (by decide) rfl (fun c9 => ?_) (fun c9 => ?_)
        · refine jv_aload_n (q := 58) G 1 dX6_hindranceToReach_57 rfl rfl rfl ?_
          refine jv_callV_I (q := 61) (h1 := h) (As := []) (rest := []) (ce' := 0) (sl' := 0) (r := jv_bI (m_rv kd)) G Z ml_X6_59 (k_hasReceiver hlt hu hkd) hu.1 dX6_hindranceToReach_58 rfl (by decide) (by decide) (by decide) (by decide) (Nat.le_of_ble_eq_true rfl) rfl rfl rfl rfl ?_
          refine jv_if_eqB (q := 64) (tgt := 88) G dX6_hindranceToReach_61 (by decide) rfl (fun c10 => ?_) (fun c10 => ?_)
          · refine jv_aload_n (q := 89) G 1 dX6_hindranceToReach_88 rfl rfl rfl ?_
            refine jv_getI (q := 92) G dX6_hindranceToReach_89 fl_X6_9 rfl hu.1 hu.2.1 rfl ?_
            refine jv_iconst (q := 93) (v := nI 5) G dX6_hindranceToReach_92 (by decide) rfl ?_
            refine jv_icmp_neN (q := 96) (tgt := 110) G dX6_hindranceToReach_93 (by decide) rfl (by omega) (by omega) (fun c11 => ?_) (fun c11 => ?_)
            · refine jv_aload_n (q := 111) G 4 dX6_hindranceToReach_110 rfl rfl rfl ?_
              refine jv_ifnonnull (q := 114) (tgt := 118) (x := (some (T (10 * e + k0)))) G dX6_hindranceToReach_111 (by decide) rfl (fun a13 c12 => ?_) (fun c12 => ?_)
              · refine jv_aload_n (q := 119) G 4 dX6_hindranceToReach_118 rfl rfl rfl ?_
                refine jv_aload_n (q := 120) G 1 dX6_hindranceToReach_119 rfl rfl rfl ?_
                refine jv_callV_I (q := 123) (h1 := h) (As := []) (rest := [.ref (T (10 * e + k0))]) (ce' := 0) (sl' := 0) (r := jv_bI (m_mt kd)) G Z ml_X6_36 (k_isOfMethod hlt hu hkd) hu.1 dX6_hindranceToReach_120 rfl (by decide) (by decide) (by decide) (by decide) (Nat.le_of_ble_eq_true rfl) rfl rfl rfl rfl ?_
                refine jv_aload_n (q := 124) G 1 dX6_hindranceToReach_123 rfl rfl rfl ?_
                refine jv_getI (q := 127) G dX6_hindranceToReach_124 fl_X6_18 rfl hu.1 hu.2.2.2.1 rfl ?_
                refine jv_callV_R (q := 130) (h1 := h) (As := [.int (jv_bI (m_mt kd)), .int (jv_oN ko)]) (rest := []) (ce' := 0) (sl' := 0) (r := ((m_oc t0 (m_mt kd) ko).map (N (T (10 * e + k0))))) G Z ml_X6_69 (k_own (w := (m_mt kd)) (ko := ko) hlt Yt0 Vt0 Ot0 hK) (hE.2.1 k0 k10t0).1 dX6_hindranceToReach_127 rfl (by decide) (by decide) (by decide) (by decide) (Nat.le_of_ble_eq_true rfl) rfl rfl rfl rfl ?_
                rcases Option.eq_none_or_eq_some (m_oc t0 (m_mt kd) ko) with hj16 | ⟨j14, hj16⟩
                · refine jv_topR (y := none) (by rw [hj16]; rfl) ?_
                  refine jv_astoreR (q := 132) (lo' := [(5, va_rf none), (4, .ref (T (10 * e + k1))), (0, .ref u), (1, .ref (z 0 e)), (2, .ref c), (3, .ref (T (10 * e + k0)))]) (x := none) G dX6_hindranceToReach_130 (by decide) rfl rfl ?_
                  refine jv_aloadR (q := 134) G 0 dX6_hindranceToReach_132 rfl rfl ?_
                  refine jv_ifnonnull (q := 137) (tgt := 139) (x := none) G dX6_hindranceToReach_134 (by decide) rfl (fun a18 c17 => ?_) (fun c17 => ?_)
                  · cases c17
                  · refine jv_iconst (q := 138) (v := nI 2) G dX6_hindranceToReach_137 (by decide) rfl ?_
                    refine jv_iret G hr dX6_hindranceToReach_138 (Nat.le_of_ble_eq_true rfl) (Nat.le_of_ble_eq_true rfl) ?_
                    first | (refine ⟨?_, rfl⟩; unfold c_hr; simp [c8, c9, c11, hk3, ht2, om_n hj16, ht0, rv_4, rv_5, mt_4, ws_4]; done) | (refine ⟨?_, rfl⟩; unfold c_hr; simp only [c8, c9, c11, hk3, ht2, om_n hj16, ht0, rv_4, rv_5, mt_4, ws_4, Option.bind_some, Option.bind_none, Option.isNone_none, Option.isNone_some, Bool.and_true, Bool.and_false, Bool.true_and, Bool.false_and, Bool.not_true, Bool.not_false, decide_true, decide_false, if_true, if_false, Bool.false_eq_true, reduceIte]; done)
                · refine jv_topR (y := (some (N (T (10 * e + k0)) j14))) (by rw [hj16]; rfl) ?_
                  obtain ⟨m15, hm15, wm15, km15⟩ := oc_some hj16
                  have lm15 := jv_ltGet hm15
                  have Om15 := Ot0.2.2.2.2.2.2 m15 (List.mem_of_getElem? hm15)
                  have Vm15 := ct_m Vt0 hm15
                  have j6m15 : j14 < 6 := by have := Ot0.2.2.2.2.2.1; omega
                  have bm15a := Om15.2.2.1
                  refine jv_astore (q := 132) (lo' := [(5, .ref (N (T (10 * e + k0)) j14)), (4, .ref (T (10 * e + k1))), (0, .ref u), (1, .ref (z 0 e)), (2, .ref c), (3, .ref (T (10 * e + k0)))]) G dX6_hindranceToReach_130 (by decide) rfl rfl ?_
                  refine jv_aload (q := 134) G 0 dX6_hindranceToReach_132 rfl rfl ?_
                  refine jv_ifnonnull (q := 137) (tgt := 139) (x := (some (N (T (10 * e + k0)) j14))) G dX6_hindranceToReach_134 (by decide) rfl (fun a20 c19 => ?_) (fun c19 => ?_)
                  · refine jv_aload_n (q := 140) G 4 dX6_hindranceToReach_139 rfl rfl rfl ?_
                    refine jv_aload_n (q := 141) G 3 dX6_hindranceToReach_140 rfl rfl rfl ?_
                    refine jv_aload_n (q := 142) G 5 dX6_hindranceToReach_141 rfl rfl rfl ?_
                    refine jv_aload (q := 144) G 0 dX6_hindranceToReach_142 rfl rfl ?_
                    refine jv_callV_I (q := 147) (h1 := h) (As := [.ref (z 0 e), .ref (T (10 * e + k0)), .ref (N (T (10 * e + k0)) j14)]) (rest := []) (ce' := 0) (sl' := 0) (r := jv_bI (c_mt ts Us p su t0 m15)) G Z ml_X6_99 (k_mayTouch hlt hE hU hc hp ht0 (Yt0.2.2.2.2.2.2.2 j14 j6m15).2 Vm15 Om15) hc.1 dX6_hindranceToReach_144 rfl (by decide) (by decide) (by decide) (by decide) (Nat.le_of_ble_eq_true rfl) rfl rfl rfl rfl ?_
                    refine jv_if_neB (q := 150) (tgt := 152) G dX6_hindranceToReach_147 (by decide) rfl (fun c21 => ?_) (fun c21 => ?_)
                    · refine jv_aload (q := 154) G 0 dX6_hindranceToReach_152 rfl rfl ?_
                      refine jv_getZ (q := 157) G dX6_hindranceToReach_154 fl_X6_103 rfl (Yt0.2.2.2.2.2.2.2 j14 j6m15).2 Vm15.2.2.1 rfl ?_
                      refine jv_aload_n (q := 158) G 2 dX6_hindranceToReach_157 rfl rfl rfl ?_
                      refine jv_callV_I (q := 161) (h1 := h) (As := []) (rest := [.int (jv_bI (mm_t m15))]) (ce' := 0) (sl' := 0) (r := jv_bI (m_ws kd)) G Z ml_X6_106 (k_wantsStatic hlt hu hkd) hu.1 dX6_hindranceToReach_158 rfl (by decide) (by decide) (by decide) (by decide) (Nat.le_of_ble_eq_true rfl) rfl rfl rfl rfl ?_
                      refine jv_icmp_neB (q := 164) (tgt := 168) G dX6_hindranceToReach_161 (by decide) rfl (fun c22 => ?_) (fun c22 => ?_)
                      · refine jv_iconst (q := 169) (v := nI 4) G dX6_hindranceToReach_168 (by decide) rfl ?_
                        refine jv_iret G hr dX6_hindranceToReach_169 (Nat.le_of_ble_eq_true rfl) (Nat.le_of_ble_eq_true rfl) ?_
                        first | (refine ⟨?_, rfl⟩; unfold c_hr; simp [c8, c9, c11, c21, c22, hk3, ht2, om_s hj16 hm15, ht0, rv_4, rv_5, mt_4, ws_4]; done) | (refine ⟨?_, rfl⟩; unfold c_hr; simp only [c8, c9, c11, c21, c22, hk3, ht2, om_s hj16 hm15, ht0, rv_4, rv_5, mt_4, ws_4, Option.bind_some, Option.bind_none, Option.isNone_none, Option.isNone_some, Bool.and_true, Bool.and_false, Bool.true_and, Bool.false_and, Bool.not_true, Bool.not_false, decide_true, decide_false, if_true, if_false, Bool.false_eq_true, reduceIte]; done)
                      · refine jv_iconst (q := 165) (v := nI 0) G dX6_hindranceToReach_164 (by decide) rfl ?_
                        refine jv_goto (q := 169) G dX6_hindranceToReach_165 (by decide) ?_
                        refine jv_iret G hr dX6_hindranceToReach_169 (Nat.le_of_ble_eq_true rfl) (Nat.le_of_ble_eq_true rfl) ?_
                        first | (refine ⟨?_, rfl⟩; unfold c_hr; simp [c8, c9, c11, c21, c22, hk3, ht2, om_s hj16 hm15, ht0, rv_4, rv_5, mt_4, ws_4]; done) | (refine ⟨?_, rfl⟩; unfold c_hr; simp only [c8, c9, c11, c21, c22, hk3, ht2, om_s hj16 hm15, ht0, rv_4, rv_5, mt_4, ws_4, Option.bind_some, Option.bind_none, Option.isNone_none, Option.isNone_some, Bool.and_true, Bool.and_false, Bool.true_and, Bool.false_and, Bool.not_true, Bool.not_false, decide_true, decide_false, if_true, if_false, Bool.false_eq_true, reduceIte]; done)
                    · refine jv_iconst (q := 151) (v := nI 3) G dX6_hindranceToReach_150 (by decide) rfl ?_
                      refine jv_iret G hr dX6_hindranceToReach_151 (Nat.le_of_ble_eq_true rfl) (Nat.le_of_ble_eq_true rfl) ?_
                      first | (refine ⟨?_, rfl⟩; unfold c_hr; simp [c8, c9, c11, c21, hk3, ht2, om_s hj16 hm15, ht0, rv_4, rv_5, mt_4, ws_4]; done) | (refine ⟨?_, rfl⟩; unfold c_hr; simp only [c8, c9, c11, c21, hk3, ht2, om_s hj16 hm15, ht0, rv_4, rv_5, mt_4, ws_4, Option.bind_some, Option.bind_none, Option.isNone_none, Option.isNone_some, Bool.and_true, Bool.and_false, Bool.true_and, Bool.false_and, Bool.not_true, Bool.not_false, decide_true, decide_false, if_true, if_false, Bool.false_eq_true, reduceIte]; done)
                  · cases c19
              · cases c12
            · subst c11
              refine jv_aload (q := 98) G 0 dX6_hindranceToReach_96 rfl rfl ?_
              refine jv_getZ (q := 101) G dX6_hindranceToReach_98 fl_X6_96 rfl (hE.2.1 k1 k10t2).1 (ct_2 (hE.2.2.2.2.1 k1 t2 ht2).1) rfl ?_
              refine jv_if_eqB (q := 104) (tgt := 108) G dX6_hindranceToReach_101 (by decide) rfl (fun c23 => ?_) (fun c23 => ?_)
              · refine jv_iconst (q := 109) (v := nI 0) G dX6_hindranceToReach_108 (by decide) rfl ?_
                refine jv_iret G hr dX6_hindranceToReach_109 (Nat.le_of_ble_eq_true rfl) (Nat.le_of_ble_eq_true rfl) ?_
                first | (refine ⟨?_, rfl⟩; unfold c_hr; simp [c8, c9, c23, hk3, ht2, ht0, rv_4, rv_5, mt_4, ws_4]; done) | (refine ⟨?_, rfl⟩; unfold c_hr; simp only [c8, c9, c23, hk3, ht2, ht0, rv_4, rv_5, mt_4, ws_4, Option.bind_some, Option.bind_none, Option.isNone_none, Option.isNone_some, Bool.and_true, Bool.and_false, Bool.true_and, Bool.false_and, Bool.not_true, Bool.not_false, decide_true, decide_false, if_true, if_false, Bool.false_eq_true, reduceIte]; done)
              · refine jv_iconst (q := 105) (v := nI 5) G dX6_hindranceToReach_104 (by decide) rfl ?_
                refine jv_goto (q := 109) G dX6_hindranceToReach_105 (by decide) ?_
                refine jv_iret G hr dX6_hindranceToReach_109 (Nat.le_of_ble_eq_true rfl) (Nat.le_of_ble_eq_true rfl) ?_
                first | (refine ⟨?_, rfl⟩; unfold c_hr; simp [c8, c9, c23, hk3, ht2, ht0, rv_4, rv_5, mt_4, ws_4]; done) | (refine ⟨?_, rfl⟩; unfold c_hr; simp only [c8, c9, c23, hk3, ht2, ht0, rv_4, rv_5, mt_4, ws_4, Option.bind_some, Option.bind_none, Option.isNone_none, Option.isNone_some, Bool.and_true, Bool.and_false, Bool.true_and, Bool.false_and, Bool.not_true, Bool.not_false, decide_true, decide_false, if_true, if_false, Bool.false_eq_true, reduceIte]; done)
          · rw [c8] at c10; cases c10
        · refine jv_aload (q := 45) G 0 dX6_hindranceToReach_43 rfl rfl ?_
          refine jv_getI (q := 48) G dX6_hindranceToReach_45 fl_X6_87 rfl (hE.2.1 k1 k10t2).1 (ct_3 (hE.2.2.2.2.1 k1 t2 ht2).1) rfl ?_
          refine jv_aload_n (q := 49) G 3 dX6_hindranceToReach_48 rfl rfl rfl ?_
          refine jv_getI (q := 52) G dX6_hindranceToReach_49 fl_X6_90 rfl hc.1 hc.2.2.1 rfl ?_
          refine jv_icmp_eqN (q := 55) (tgt := 57) G dX6_hindranceToReach_52 (by decide) rfl (by omega) (by omega) (fun c24 => ?_) (fun c24 => ?_)
          · refine jv_aload_n (q := 58) G 1 dX6_hindranceToReach_57 rfl rfl rfl ?_
            refine jv_callV_I (q := 61) (h1 := h) (As := []) (rest := []) (ce' := 0) (sl' := 0) (r := jv_bI (m_rv kd)) G Z ml_X6_59 (k_hasReceiver hlt hu hkd) hu.1 dX6_hindranceToReach_58 rfl (by decide) (by decide) (by decide) (by decide) (Nat.le_of_ble_eq_true rfl) rfl rfl rfl rfl ?_
            refine jv_if_eqB (q := 64) (tgt := 88) G dX6_hindranceToReach_61 (by decide) rfl (fun c25 => ?_) (fun c25 => ?_)
            · refine jv_aload_n (q := 89) G 1 dX6_hindranceToReach_88 rfl rfl rfl ?_
              refine jv_getI (q := 92) G dX6_hindranceToReach_89 fl_X6_9 rfl hu.1 hu.2.1 rfl ?_
              refine jv_iconst (q := 93) (v := nI 5) G dX6_hindranceToReach_92 (by decide) rfl ?_
              refine jv_icmp_neN (q := 96) (tgt := 110) G dX6_hindranceToReach_93 (by decide) rfl (by omega) (by omega) (fun c26 => ?_) (fun c26 => ?_)
              · refine jv_aload_n (q := 111) G 4 dX6_hindranceToReach_110 rfl rfl rfl ?_
                refine jv_ifnonnull (q := 114) (tgt := 118) (x := (some (T (10 * e + k0)))) G dX6_hindranceToReach_111 (by decide) rfl (fun a28 c27 => ?_) (fun c27 => ?_)
                · refine jv_aload_n (q := 119) G 4 dX6_hindranceToReach_118 rfl rfl rfl ?_
                  refine jv_aload_n (q := 120) G 1 dX6_hindranceToReach_119 rfl rfl rfl ?_
                  refine jv_callV_I (q := 123) (h1 := h) (As := []) (rest := [.ref (T (10 * e + k0))]) (ce' := 0) (sl' := 0) (r := jv_bI (m_mt kd)) G Z ml_X6_36 (k_isOfMethod hlt hu hkd) hu.1 dX6_hindranceToReach_120 rfl (by decide) (by decide) (by decide) (by decide) (Nat.le_of_ble_eq_true rfl) rfl rfl rfl rfl ?_
                  refine jv_aload_n (q := 124) G 1 dX6_hindranceToReach_123 rfl rfl rfl ?_
                  refine jv_getI (q := 127) G dX6_hindranceToReach_124 fl_X6_18 rfl hu.1 hu.2.2.2.1 rfl ?_
                  refine jv_callV_R (q := 130) (h1 := h) (As := [.int (jv_bI (m_mt kd)), .int (jv_oN ko)]) (rest := []) (ce' := 0) (sl' := 0) (r := ((m_oc t0 (m_mt kd) ko).map (N (T (10 * e + k0))))) G Z ml_X6_69 (k_own (w := (m_mt kd)) (ko := ko) hlt Yt0 Vt0 Ot0 hK) (hE.2.1 k0 k10t0).1 dX6_hindranceToReach_127 rfl (by decide) (by decide) (by decide) (by decide) (Nat.le_of_ble_eq_true rfl) rfl rfl rfl rfl ?_
                  rcases Option.eq_none_or_eq_some (m_oc t0 (m_mt kd) ko) with hj31 | ⟨j29, hj31⟩
                  · refine jv_topR (y := none) (by rw [hj31]; rfl) ?_
                    refine jv_astoreR (q := 132) (lo' := [(5, va_rf none), (4, .ref (T (10 * e + k1))), (0, .ref u), (1, .ref (z 0 e)), (2, .ref c), (3, .ref (T (10 * e + k0)))]) (x := none) G dX6_hindranceToReach_130 (by decide) rfl rfl ?_
                    refine jv_aloadR (q := 134) G 0 dX6_hindranceToReach_132 rfl rfl ?_
                    refine jv_ifnonnull (q := 137) (tgt := 139) (x := none) G dX6_hindranceToReach_134 (by decide) rfl (fun a33 c32 => ?_) (fun c32 => ?_)
                    · cases c32
                    · refine jv_iconst (q := 138) (v := nI 2) G dX6_hindranceToReach_137 (by decide) rfl ?_
                      refine jv_iret G hr dX6_hindranceToReach_138 (Nat.le_of_ble_eq_true rfl) (Nat.le_of_ble_eq_true rfl) ?_
                      first | (refine ⟨?_, rfl⟩; unfold c_hr; simp [c8, c9, c24, c26, hk3, ht2, om_n hj31, ht0, rv_4, rv_5, mt_4, ws_4]; done) | (refine ⟨?_, rfl⟩; unfold c_hr; simp only [c8, c9, c24, c26, hk3, ht2, om_n hj31, ht0, rv_4, rv_5, mt_4, ws_4, Option.bind_some, Option.bind_none, Option.isNone_none, Option.isNone_some, Bool.and_true, Bool.and_false, Bool.true_and, Bool.false_and, Bool.not_true, Bool.not_false, decide_true, decide_false, if_true, if_false, Bool.false_eq_true, reduceIte]; done)
                  · refine jv_topR (y := (some (N (T (10 * e + k0)) j29))) (by rw [hj31]; rfl) ?_
                    obtain ⟨m30, hm30, wm30, km30⟩ := oc_some hj31
                    have lm30 := jv_ltGet hm30
                    have Om30 := Ot0.2.2.2.2.2.2 m30 (List.mem_of_getElem? hm30)
                    have Vm30 := ct_m Vt0 hm30
                    have j6m30 : j29 < 6 := by have := Ot0.2.2.2.2.2.1; omega
                    have bm30a := Om30.2.2.1
                    refine jv_astore (q := 132) (lo' := [(5, .ref (N (T (10 * e + k0)) j29)), (4, .ref (T (10 * e + k1))), (0, .ref u), (1, .ref (z 0 e)), (2, .ref c), (3, .ref (T (10 * e + k0)))]) G dX6_hindranceToReach_130 (by decide) rfl rfl ?_
                    refine jv_aload (q := 134) G 0 dX6_hindranceToReach_132 rfl rfl ?_
                    refine jv_ifnonnull (q := 137) (tgt := 139) (x := (some (N (T (10 * e + k0)) j29))) G dX6_hindranceToReach_134 (by decide) rfl (fun a35 c34 => ?_) (fun c34 => ?_)
                    · refine jv_aload_n (q := 140) G 4 dX6_hindranceToReach_139 rfl rfl rfl ?_
                      refine jv_aload_n (q := 141) G 3 dX6_hindranceToReach_140 rfl rfl rfl ?_
                      refine jv_aload_n (q := 142) G 5 dX6_hindranceToReach_141 rfl rfl rfl ?_
                      refine jv_aload (q := 144) G 0 dX6_hindranceToReach_142 rfl rfl ?_
                      refine jv_callV_I (q := 147) (h1 := h) (As := [.ref (z 0 e), .ref (T (10 * e + k0)), .ref (N (T (10 * e + k0)) j29)]) (rest := []) (ce' := 0) (sl' := 0) (r := jv_bI (c_mt ts Us p su t0 m30)) G Z ml_X6_99 (k_mayTouch hlt hE hU hc hp ht0 (Yt0.2.2.2.2.2.2.2 j29 j6m30).2 Vm30 Om30) hc.1 dX6_hindranceToReach_144 rfl (by decide) (by decide) (by decide) (by decide) (Nat.le_of_ble_eq_true rfl) rfl rfl rfl rfl ?_
                      refine jv_if_neB (q := 150) (tgt := 152) G dX6_hindranceToReach_147 (by decide) rfl (fun c36 => ?_) (fun c36 => ?_)
                      · refine jv_aload (q := 154) G 0 dX6_hindranceToReach_152 rfl rfl ?_
                        refine jv_getZ (q := 157) G dX6_hindranceToReach_154 fl_X6_103 rfl (Yt0.2.2.2.2.2.2.2 j29 j6m30).2 Vm30.2.2.1 rfl ?_
                        refine jv_aload_n (q := 158) G 2 dX6_hindranceToReach_157 rfl rfl rfl ?_
                        refine jv_callV_I (q := 161) (h1 := h) (As := []) (rest := [.int (jv_bI (mm_t m30))]) (ce' := 0) (sl' := 0) (r := jv_bI (m_ws kd)) G Z ml_X6_106 (k_wantsStatic hlt hu hkd) hu.1 dX6_hindranceToReach_158 rfl (by decide) (by decide) (by decide) (by decide) (Nat.le_of_ble_eq_true rfl) rfl rfl rfl rfl ?_
                        refine jv_icmp_neB (q := 164) (tgt := 168) G dX6_hindranceToReach_161 (by decide) rfl (fun c37 => ?_) (fun c37 => ?_)
                        · refine jv_iconst (q := 169) (v := nI 4) G dX6_hindranceToReach_168 (by decide) rfl ?_
                          refine jv_iret G hr dX6_hindranceToReach_169 (Nat.le_of_ble_eq_true rfl) (Nat.le_of_ble_eq_true rfl) ?_
                          first | (refine ⟨?_, rfl⟩; unfold c_hr; simp [c8, c9, c24, c26, c36, c37, hk3, ht2, om_s hj31 hm30, ht0, rv_4, rv_5, mt_4, ws_4]; done) | (refine ⟨?_, rfl⟩; unfold c_hr; simp only [c8, c9, c24, c26, c36, c37, hk3, ht2, om_s hj31 hm30, ht0, rv_4, rv_5, mt_4, ws_4, Option.bind_some, Option.bind_none, Option.isNone_none, Option.isNone_some, Bool.and_true, Bool.and_false, Bool.true_and, Bool.false_and, Bool.not_true, Bool.not_false, decide_true, decide_false, if_true, if_false, Bool.false_eq_true, reduceIte]; done)
                        · refine jv_iconst (q := 165) (v := nI 0) G dX6_hindranceToReach_164 (by decide) rfl ?_
                          refine jv_goto (q := 169) G dX6_hindranceToReach_165 (by decide) ?_
                          refine jv_iret G hr dX6_hindranceToReach_169 (Nat.le_of_ble_eq_true rfl) (Nat.le_of_ble_eq_true rfl) ?_
                          first | (refine ⟨?_, rfl⟩; unfold c_hr; simp [c8, c9, c24, c26, c36, c37, hk3, ht2, om_s hj31 hm30, ht0, rv_4, rv_5, mt_4, ws_4]; done) | (refine ⟨?_, rfl⟩; unfold c_hr; simp only [c8, c9, c24, c26, c36, c37, hk3, ht2, om_s hj31 hm30, ht0, rv_4, rv_5, mt_4, ws_4, Option.bind_some, Option.bind_none, Option.isNone_none, Option.isNone_some, Bool.and_true, Bool.and_false, Bool.true_and, Bool.false_and, Bool.not_true, Bool.not_false, decide_true, decide_false, if_true, if_false, Bool.false_eq_true, reduceIte]; done)
                      · refine jv_iconst (q := 151) (v := nI 3) G dX6_hindranceToReach_150 (by decide) rfl ?_
                        refine jv_iret G hr dX6_hindranceToReach_151 (Nat.le_of_ble_eq_true rfl) (Nat.le_of_ble_eq_true rfl) ?_
                        first | (refine ⟨?_, rfl⟩; unfold c_hr; simp [c8, c9, c24, c26, c36, hk3, ht2, om_s hj31 hm30, ht0, rv_4, rv_5, mt_4, ws_4]; done) | (refine ⟨?_, rfl⟩; unfold c_hr; simp only [c8, c9, c24, c26, c36, hk3, ht2, om_s hj31 hm30, ht0, rv_4, rv_5, mt_4, ws_4, Option.bind_some, Option.bind_none, Option.isNone_none, Option.isNone_some, Bool.and_true, Bool.and_false, Bool.true_and, Bool.false_and, Bool.not_true, Bool.not_false, decide_true, decide_false, if_true, if_false, Bool.false_eq_true, reduceIte]; done)
                    · cases c34
                · cases c27
              · subst c26
                refine jv_aload (q := 98) G 0 dX6_hindranceToReach_96 rfl rfl ?_
                refine jv_getZ (q := 101) G dX6_hindranceToReach_98 fl_X6_96 rfl (hE.2.1 k1 k10t2).1 (ct_2 (hE.2.2.2.2.1 k1 t2 ht2).1) rfl ?_
                refine jv_if_eqB (q := 104) (tgt := 108) G dX6_hindranceToReach_101 (by decide) rfl (fun c38 => ?_) (fun c38 => ?_)
                · refine jv_iconst (q := 109) (v := nI 0) G dX6_hindranceToReach_108 (by decide) rfl ?_
                  refine jv_iret G hr dX6_hindranceToReach_109 (Nat.le_of_ble_eq_true rfl) (Nat.le_of_ble_eq_true rfl) ?_
                  first | (refine ⟨?_, rfl⟩; unfold c_hr; simp [c8, c9, c24, c38, hk3, ht2, ht0, rv_4, rv_5, mt_4, ws_4]; done) | (refine ⟨?_, rfl⟩; unfold c_hr; simp only [c8, c9, c24, c38, hk3, ht2, ht0, rv_4, rv_5, mt_4, ws_4, Option.bind_some, Option.bind_none, Option.isNone_none, Option.isNone_some, Bool.and_true, Bool.and_false, Bool.true_and, Bool.false_and, Bool.not_true, Bool.not_false, decide_true, decide_false, if_true, if_false, Bool.false_eq_true, reduceIte]; done)
                · refine jv_iconst (q := 105) (v := nI 5) G dX6_hindranceToReach_104 (by decide) rfl ?_
                  refine jv_goto (q := 109) G dX6_hindranceToReach_105 (by decide) ?_
                  refine jv_iret G hr dX6_hindranceToReach_109 (Nat.le_of_ble_eq_true rfl) (Nat.le_of_ble_eq_true rfl) ?_
                  first | (refine ⟨?_, rfl⟩; unfold c_hr; simp [c8, c9, c24, c38, hk3, ht2, ht0, rv_4, rv_5, mt_4, ws_4]; done) | (refine ⟨?_, rfl⟩; unfold c_hr; simp only [c8, c9, c24, c38, hk3, ht2, ht0, rv_4, rv_5, mt_4, ws_4, Option.bind_some, Option.bind_none, Option.isNone_none, Option.isNone_some, Bool.and_true, Bool.and_false, Bool.true_and, Bool.false_and, Bool.not_true, Bool.not_false, decide_true, decide_false, if_true, if_false, Bool.false_eq_true, reduceIte]; done)
            · rw [c8] at c25; cases c25
          · refine jv_iconst (q := 56) (v := nI 3) G dX6_hindranceToReach_55 (by decide) rfl ?_
            refine jv_iret G hr dX6_hindranceToReach_56 (Nat.le_of_ble_eq_true rfl) (Nat.le_of_ble_eq_true rfl) ?_
            first | (refine ⟨?_, rfl⟩; unfold c_hr; simp [c8, c9, c24, hk3, ht2, ht0, rv_4, rv_5, mt_4, ws_4]; done) | (refine ⟨?_, rfl⟩; unfold c_hr; simp only [c8, c9, c24, hk3, ht2, ht0, rv_4, rv_5, mt_4, ws_4, Option.bind_some, Option.bind_none, Option.isNone_none, Option.isNone_some, Bool.and_true, Bool.and_false, Bool.true_and, Bool.false_and, Bool.not_true, Bool.not_false, decide_true, decide_false, if_true, if_false, Bool.false_eq_true, reduceIte]; done)
      · refine jv_aload_n (q := 23) G 2 dX6_hindranceToReach_22 rfl rfl rfl ?_
        refine jv_aload_n (q := 24) G 1 dX6_hindranceToReach_23 rfl rfl rfl ?_
        refine jv_getI (q := 27) G dX6_hindranceToReach_24 fl_X6_21 rfl hu.1 hu.2.2.2.2.1 rfl ?_
        refine jv_callV_R (q := 30) (h1 := h) (As := [.int rc]) (rest := []) (ce' := 0) (sl' := 0) (r := ((m_at ts rc).map (fun k => T (10 * e + k)))) G Z ml_X6_30 (k_named hlt hE) hE.1.1 dX6_hindranceToReach_27 rfl (by decide) (by decide) (by decide) (by decide) (Nat.le_of_ble_eq_true rfl) rfl rfl rfl rfl ?_
        rcases Option.eq_none_or_eq_some (m_at ts rc) with hk41 | ⟨k39, hk41⟩
        · refine jv_topR (y := none) (by rw [hk41]; rfl) ?_
          refine jv_ifnonnull (q := 33) (tgt := 35) (x := none) G dX6_hindranceToReach_30 (by decide) rfl (fun a43 c42 => ?_) (fun c42 => ?_)
          · cases c42
          · refine jv_iconst (q := 34) (v := nI 1) G dX6_hindranceToReach_33 (by decide) rfl ?_
            refine jv_iret G hr dX6_hindranceToReach_34 (Nat.le_of_ble_eq_true rfl) (Nat.le_of_ble_eq_true rfl) ?_
            first | (refine ⟨?_, rfl⟩; unfold c_hr; simp [c8, hk3, ht2, hk41, ht0, rv_4, rv_5, mt_4, ws_4]; done) | (refine ⟨?_, rfl⟩; unfold c_hr; simp only [c8, hk3, ht2, hk41, ht0, rv_4, rv_5, mt_4, ws_4, Option.bind_some, Option.bind_none, Option.isNone_none, Option.isNone_some, Bool.and_true, Bool.and_false, Bool.true_and, Bool.false_and, Bool.not_true, Bool.not_false, decide_true, decide_false, if_true, if_false, Bool.false_eq_true, reduceIte]; done)
        · refine jv_topR (y := (some (T (10 * e + k39)))) (by rw [hk41]; rfl) ?_
          obtain ⟨t40, ht40, nt40⟩ := m_at_get hk41
          have lt40 := jv_ltGet ht40
          have k10t40 : k39 < 10 := by have := hE.2.2.2.1; omega
          have Ot40 := (hE.2.2.2.2.1 k39 t40 ht40).2
          have Vt40 := (hE.2.2.2.2.1 k39 t40 ht40).1
          have Yt40 := hE.2.1 k39 k10t40
          have bt40n := Ot40.1; have bt40k := Ot40.2.1
          refine jv_ifnonnull (q := 33) (tgt := 35) (x := (some (T (10 * e + k39)))) G dX6_hindranceToReach_30 (by decide) rfl (fun a45 c44 => ?_) (fun c44 => ?_)
          · refine jv_aload (q := 37) G 0 dX6_hindranceToReach_35 rfl rfl ?_
            refine jv_getZ (q := 40) G dX6_hindranceToReach_37 fl_X6_84 rfl (hE.2.1 k1 k10t2).1 (ct_4 (hE.2.2.2.2.1 k1 t2 ht2).1) rfl ?_
            refine jv_if_neB (q := 43) (tgt := 57) G dX6_hindranceToReach_40 (by decide) rfl (fun c46 => ?_) (fun c46 => ?_)
            · refine jv_aload_n (q := 58) G 1 dX6_hindranceToReach_57 rfl rfl rfl ?_
              refine jv_callV_I (q := 61) (h1 := h) (As := []) (rest := []) (ce' := 0) (sl' := 0) (r := jv_bI (m_rv kd)) G Z ml_X6_59 (k_hasReceiver hlt hu hkd) hu.1 dX6_hindranceToReach_58 rfl (by decide) (by decide) (by decide) (by decide) (Nat.le_of_ble_eq_true rfl) rfl rfl rfl rfl ?_
              refine jv_if_eqB (q := 64) (tgt := 88) G dX6_hindranceToReach_61 (by decide) rfl (fun c47 => ?_) (fun c47 => ?_)
              · rw [c8] at c47; cases c47
              · refine jv_aload (q := 66) G 0 dX6_hindranceToReach_64 rfl rfl ?_
                refine jv_getZ (q := 69) G dX6_hindranceToReach_66 fl_X6_93 rfl (hE.2.1 k1 k10t2).1 (ct_1 (hE.2.2.2.2.1 k1 t2 ht2).1) rfl ?_
                refine jv_aload_n (q := 70) G 1 dX6_hindranceToReach_69 rfl rfl rfl ?_
                refine jv_getI (q := 73) G dX6_hindranceToReach_70 fl_X6_9 rfl hu.1 hu.2.1 rfl ?_
                refine jv_iconst (q := 74) (v := nI 4) G dX6_hindranceToReach_73 (by decide) rfl ?_
                refine jv_icmp_neN (q := 77) (tgt := 81) G dX6_hindranceToReach_74 (by decide) rfl (by omega) (by omega) (fun c48 => ?_) (fun c48 => ?_)
                · refine jv_iconst (q := 82) (v := nI 0) G dX6_hindranceToReach_81 (by decide) rfl ?_
                  refine jv_topI (y := jv_bI false) rfl ?_
                  refine jv_icmp_eqB (q := 85) (tgt := 88) G dX6_hindranceToReach_82 (by decide) rfl (fun c49 => ?_) (fun c49 => ?_)
                  · refine jv_aload_n (q := 89) G 1 dX6_hindranceToReach_88 rfl rfl rfl ?_
                    refine jv_getI (q := 92) G dX6_hindranceToReach_89 fl_X6_9 rfl hu.1 hu.2.1 rfl ?_
                    refine jv_iconst (q := 93) (v := nI 5) G dX6_hindranceToReach_92 (by decide) rfl ?_
                    refine jv_icmp_neN (q := 96) (tgt := 110) G dX6_hindranceToReach_93 (by decide) rfl (by omega) (by omega) (fun c50 => ?_) (fun c50 => ?_)
                    · refine jv_aload_n (q := 111) G 4 dX6_hindranceToReach_110 rfl rfl rfl ?_
                      refine jv_ifnonnull (q := 114) (tgt := 118) (x := (some (T (10 * e + k0)))) G dX6_hindranceToReach_111 (by decide) rfl (fun a52 c51 => ?_) (fun c51 => ?_)
                      · refine jv_aload_n (q := 119) G 4 dX6_hindranceToReach_118 rfl rfl rfl ?_
                        refine jv_aload_n (q := 120) G 1 dX6_hindranceToReach_119 rfl rfl rfl ?_
                        refine jv_callV_I (q := 123) (h1 := h) (As := []) (rest := [.ref (T (10 * e + k0))]) (ce' := 0) (sl' := 0) (r := jv_bI (m_mt kd)) G Z ml_X6_36 (k_isOfMethod hlt hu hkd) hu.1 dX6_hindranceToReach_120 rfl (by decide) (by decide) (by decide) (by decide) (Nat.le_of_ble_eq_true rfl) rfl rfl rfl rfl ?_
                        refine jv_aload_n (q := 124) G 1 dX6_hindranceToReach_123 rfl rfl rfl ?_
                        refine jv_getI (q := 127) G dX6_hindranceToReach_124 fl_X6_18 rfl hu.1 hu.2.2.2.1 rfl ?_
                        refine jv_callV_R (q := 130) (h1 := h) (As := [.int (jv_bI (m_mt kd)), .int (jv_oN ko)]) (rest := []) (ce' := 0) (sl' := 0) (r := ((m_oc t0 (m_mt kd) ko).map (N (T (10 * e + k0))))) G Z ml_X6_69 (k_own (w := (m_mt kd)) (ko := ko) hlt Yt0 Vt0 Ot0 hK) (hE.2.1 k0 k10t0).1 dX6_hindranceToReach_127 rfl (by decide) (by decide) (by decide) (by decide) (Nat.le_of_ble_eq_true rfl) rfl rfl rfl rfl ?_
                        rcases Option.eq_none_or_eq_some (m_oc t0 (m_mt kd) ko) with hj55 | ⟨j53, hj55⟩
                        · refine jv_topR (y := none) (by rw [hj55]; rfl) ?_
                          refine jv_astoreR (q := 132) (lo' := [(5, va_rf none), (4, .ref (T (10 * e + k1))), (0, .ref u), (1, .ref (z 0 e)), (2, .ref c), (3, .ref (T (10 * e + k0)))]) (x := none) G dX6_hindranceToReach_130 (by decide) rfl rfl ?_
                          refine jv_aloadR (q := 134) G 0 dX6_hindranceToReach_132 rfl rfl ?_
                          refine jv_ifnonnull (q := 137) (tgt := 139) (x := none) G dX6_hindranceToReach_134 (by decide) rfl (fun a57 c56 => ?_) (fun c56 => ?_)
                          · cases c56
                          · refine jv_iconst (q := 138) (v := nI 2) G dX6_hindranceToReach_137 (by decide) rfl ?_
                            refine jv_iret G hr dX6_hindranceToReach_138 (Nat.le_of_ble_eq_true rfl) (Nat.le_of_ble_eq_true rfl) ?_
                            first | (refine ⟨?_, rfl⟩; unfold c_hr; simp [c8, c46, c48, c49, c50, hk3, ht2, hk41, ht40, om_n hj55, ht0, rv_4, rv_5, mt_4, ws_4]; done) | (refine ⟨?_, rfl⟩; unfold c_hr; simp only [c8, c46, c48, c49, c50, hk3, ht2, hk41, ht40, om_n hj55, ht0, rv_4, rv_5, mt_4, ws_4, Option.bind_some, Option.bind_none, Option.isNone_none, Option.isNone_some, Bool.and_true, Bool.and_false, Bool.true_and, Bool.false_and, Bool.not_true, Bool.not_false, decide_true, decide_false, if_true, if_false, Bool.false_eq_true, reduceIte]; done)
                        · refine jv_topR (y := (some (N (T (10 * e + k0)) j53))) (by rw [hj55]; rfl) ?_
                          obtain ⟨m54, hm54, wm54, km54⟩ := oc_some hj55
                          have lm54 := jv_ltGet hm54
                          have Om54 := Ot0.2.2.2.2.2.2 m54 (List.mem_of_getElem? hm54)
                          have Vm54 := ct_m Vt0 hm54
                          have j6m54 : j53 < 6 := by have := Ot0.2.2.2.2.2.1; omega
                          have bm54a := Om54.2.2.1
                          refine jv_astore (q := 132) (lo' := [(5, .ref (N (T (10 * e + k0)) j53)), (4, .ref (T (10 * e + k1))), (0, .ref u), (1, .ref (z 0 e)), (2, .ref c), (3, .ref (T (10 * e + k0)))]) G dX6_hindranceToReach_130 (by decide) rfl rfl ?_
                          refine jv_aload (q := 134) G 0 dX6_hindranceToReach_132 rfl rfl ?_
                          refine jv_ifnonnull (q := 137) (tgt := 139) (x := (some (N (T (10 * e + k0)) j53))) G dX6_hindranceToReach_134 (by decide) rfl (fun a59 c58 => ?_) (fun c58 => ?_)
                          · refine jv_aload_n (q := 140) G 4 dX6_hindranceToReach_139 rfl rfl rfl ?_
                            refine jv_aload_n (q := 141) G 3 dX6_hindranceToReach_140 rfl rfl rfl ?_
                            refine jv_aload_n (q := 142) G 5 dX6_hindranceToReach_141 rfl rfl rfl ?_
                            refine jv_aload (q := 144) G 0 dX6_hindranceToReach_142 rfl rfl ?_
                            refine jv_callV_I (q := 147) (h1 := h) (As := [.ref (z 0 e), .ref (T (10 * e + k0)), .ref (N (T (10 * e + k0)) j53)]) (rest := []) (ce' := 0) (sl' := 0) (r := jv_bI (c_mt ts Us p su t0 m54)) G Z ml_X6_99 (k_mayTouch hlt hE hU hc hp ht0 (Yt0.2.2.2.2.2.2.2 j53 j6m54).2 Vm54 Om54) hc.1 dX6_hindranceToReach_144 rfl (by decide) (by decide) (by decide) (by decide) (Nat.le_of_ble_eq_true rfl) rfl rfl rfl rfl ?_
                            refine jv_if_neB (q := 150) (tgt := 152) G dX6_hindranceToReach_147 (by decide) rfl (fun c60 => ?_) (fun c60 => ?_)
                            · refine jv_aload (q := 154) G 0 dX6_hindranceToReach_152 rfl rfl ?_
                              refine jv_getZ (q := 157) G dX6_hindranceToReach_154 fl_X6_103 rfl (Yt0.2.2.2.2.2.2.2 j53 j6m54).2 Vm54.2.2.1 rfl ?_
                              refine jv_aload_n (q := 158) G 2 dX6_hindranceToReach_157 rfl rfl rfl ?_
                              refine jv_callV_I (q := 161) (h1 := h) (As := []) (rest := [.int (jv_bI (mm_t m54))]) (ce' := 0) (sl' := 0) (r := jv_bI (m_ws kd)) G Z ml_X6_106 (k_wantsStatic hlt hu hkd) hu.1 dX6_hindranceToReach_158 rfl (by decide) (by decide) (by decide) (by decide) (Nat.le_of_ble_eq_true rfl) rfl rfl rfl rfl ?_
                              refine jv_icmp_neB (q := 164) (tgt := 168) G dX6_hindranceToReach_161 (by decide) rfl (fun c61 => ?_) (fun c61 => ?_)
                              · refine jv_iconst (q := 169) (v := nI 4) G dX6_hindranceToReach_168 (by decide) rfl ?_
                                refine jv_iret G hr dX6_hindranceToReach_169 (Nat.le_of_ble_eq_true rfl) (Nat.le_of_ble_eq_true rfl) ?_
                                first | (refine ⟨?_, rfl⟩; unfold c_hr; simp [c8, c46, c48, c49, c50, c60, c61, hk3, ht2, hk41, ht40, om_s hj55 hm54, ht0, rv_4, rv_5, mt_4, ws_4]; done) | (refine ⟨?_, rfl⟩; unfold c_hr; simp only [c8, c46, c48, c49, c50, c60, c61, hk3, ht2, hk41, ht40, om_s hj55 hm54, ht0, rv_4, rv_5, mt_4, ws_4, Option.bind_some, Option.bind_none, Option.isNone_none, Option.isNone_some, Bool.and_true, Bool.and_false, Bool.true_and, Bool.false_and, Bool.not_true, Bool.not_false, decide_true, decide_false, if_true, if_false, Bool.false_eq_true, reduceIte]; done)
                              · refine jv_iconst (q := 165) (v := nI 0) G dX6_hindranceToReach_164 (by decide) rfl ?_
                                refine jv_goto (q := 169) G dX6_hindranceToReach_165 (by decide) ?_
                                refine jv_iret G hr dX6_hindranceToReach_169 (Nat.le_of_ble_eq_true rfl) (Nat.le_of_ble_eq_true rfl) ?_
                                first | (refine ⟨?_, rfl⟩; unfold c_hr; simp [c8, c46, c48, c49, c50, c60, c61, hk3, ht2, hk41, ht40, om_s hj55 hm54, ht0, rv_4, rv_5, mt_4, ws_4]; done) | (refine ⟨?_, rfl⟩; unfold c_hr; simp only [c8, c46, c48, c49, c50, c60, c61, hk3, ht2, hk41, ht40, om_s hj55 hm54, ht0, rv_4, rv_5, mt_4, ws_4, Option.bind_some, Option.bind_none, Option.isNone_none, Option.isNone_some, Bool.and_true, Bool.and_false, Bool.true_and, Bool.false_and, Bool.not_true, Bool.not_false, decide_true, decide_false, if_true, if_false, Bool.false_eq_true, reduceIte]; done)
                            · refine jv_iconst (q := 151) (v := nI 3) G dX6_hindranceToReach_150 (by decide) rfl ?_
                              refine jv_iret G hr dX6_hindranceToReach_151 (Nat.le_of_ble_eq_true rfl) (Nat.le_of_ble_eq_true rfl) ?_
                              first | (refine ⟨?_, rfl⟩; unfold c_hr; simp [c8, c46, c48, c49, c50, c60, hk3, ht2, hk41, ht40, om_s hj55 hm54, ht0, rv_4, rv_5, mt_4, ws_4]; done) | (refine ⟨?_, rfl⟩; unfold c_hr; simp only [c8, c46, c48, c49, c50, c60, hk3, ht2, hk41, ht40, om_s hj55 hm54, ht0, rv_4, rv_5, mt_4, ws_4, Option.bind_some, Option.bind_none, Option.isNone_none, Option.isNone_some, Bool.and_true, Bool.and_false, Bool.true_and, Bool.false_and, Bool.not_true, Bool.not_false, decide_true, decide_false, if_true, if_false, Bool.false_eq_true, reduceIte]; done)
                          · cases c58
                      · cases c51
                    · subst c50; exact absurd c8 (by decide)
                  · refine jv_bipush (q := 87) (v := nI 6) G dX6_hindranceToReach_85 (by decide) rfl ?_
                    refine jv_iret G hr dX6_hindranceToReach_87 (Nat.le_of_ble_eq_true rfl) (Nat.le_of_ble_eq_true rfl) ?_
                    first | (refine ⟨?_, rfl⟩; unfold c_hr; simp [c8, c46, c48, c49, hk3, ht2, hk41, ht40, ht0, rv_4, rv_5, mt_4, ws_4]; done) | (refine ⟨?_, rfl⟩; unfold c_hr; simp only [c8, c46, c48, c49, hk3, ht2, hk41, ht40, ht0, rv_4, rv_5, mt_4, ws_4, Option.bind_some, Option.bind_none, Option.isNone_none, Option.isNone_some, Bool.and_true, Bool.and_false, Bool.true_and, Bool.false_and, Bool.not_true, Bool.not_false, decide_true, decide_false, if_true, if_false, Bool.false_eq_true, reduceIte]; done)
                · subst c48
                  refine jv_iconst (q := 78) (v := nI 1) G dX6_hindranceToReach_77 (by decide) rfl ?_
                  refine jv_goto (q := 82) G dX6_hindranceToReach_78 (by decide) ?_
                  refine jv_topI (y := jv_bI true) rfl ?_
                  refine jv_icmp_eqB (q := 85) (tgt := 88) G dX6_hindranceToReach_82 (by decide) rfl (fun c62 => ?_) (fun c62 => ?_)
                  · refine jv_aload_n (q := 89) G 1 dX6_hindranceToReach_88 rfl rfl rfl ?_
                    refine jv_getI (q := 92) G dX6_hindranceToReach_89 fl_X6_9 rfl hu.1 hu.2.1 rfl ?_
                    refine jv_iconst (q := 93) (v := nI 5) G dX6_hindranceToReach_92 (by decide) rfl ?_
                    refine jv_icmp_neN (q := 96) (tgt := 110) G dX6_hindranceToReach_93 (by decide) rfl (by omega) (by omega) (fun c63 => ?_) (fun c63 => ?_)
                    · refine jv_aload_n (q := 111) G 4 dX6_hindranceToReach_110 rfl rfl rfl ?_
                      refine jv_ifnonnull (q := 114) (tgt := 118) (x := (some (T (10 * e + k0)))) G dX6_hindranceToReach_111 (by decide) rfl (fun a65 c64 => ?_) (fun c64 => ?_)
                      · refine jv_aload_n (q := 119) G 4 dX6_hindranceToReach_118 rfl rfl rfl ?_
                        refine jv_aload_n (q := 120) G 1 dX6_hindranceToReach_119 rfl rfl rfl ?_
                        refine jv_callV_I (q := 123) (h1 := h) (As := []) (rest := [.ref (T (10 * e + k0))]) (ce' := 0) (sl' := 0) (r := jv_bI (m_mt 4)) G Z ml_X6_36 (k_isOfMethod hlt hu hkd) hu.1 dX6_hindranceToReach_120 rfl (by decide) (by decide) (by decide) (by decide) (Nat.le_of_ble_eq_true rfl) rfl rfl rfl rfl ?_
                        refine jv_topI (y := jv_bI true) rfl ?_
                        refine jv_aload_n (q := 124) G 1 dX6_hindranceToReach_123 rfl rfl rfl ?_
                        refine jv_getI (q := 127) G dX6_hindranceToReach_124 fl_X6_18 rfl hu.1 hu.2.2.2.1 rfl ?_
                        refine jv_callV_R (q := 130) (h1 := h) (As := [.int (jv_bI true), .int (jv_oN ko)]) (rest := []) (ce' := 0) (sl' := 0) (r := ((m_oc t0 true ko).map (N (T (10 * e + k0))))) G Z ml_X6_69 (k_own (w := true) (ko := ko) hlt Yt0 Vt0 Ot0 hK) (hE.2.1 k0 k10t0).1 dX6_hindranceToReach_127 rfl (by decide) (by decide) (by decide) (by decide) (Nat.le_of_ble_eq_true rfl) rfl rfl rfl rfl ?_
                        rcases Option.eq_none_or_eq_some (m_oc t0 true ko) with hj68 | ⟨j66, hj68⟩
                        · refine jv_topR (y := none) (by rw [hj68]; rfl) ?_
                          refine jv_astoreR (q := 132) (lo' := [(5, va_rf none), (4, .ref (T (10 * e + k1))), (0, .ref u), (1, .ref (z 0 e)), (2, .ref c), (3, .ref (T (10 * e + k0)))]) (x := none) G dX6_hindranceToReach_130 (by decide) rfl rfl ?_
                          refine jv_aloadR (q := 134) G 0 dX6_hindranceToReach_132 rfl rfl ?_
                          refine jv_ifnonnull (q := 137) (tgt := 139) (x := none) G dX6_hindranceToReach_134 (by decide) rfl (fun a70 c69 => ?_) (fun c69 => ?_)
                          · cases c69
                          · refine jv_iconst (q := 138) (v := nI 2) G dX6_hindranceToReach_137 (by decide) rfl ?_
                            refine jv_iret G hr dX6_hindranceToReach_138 (Nat.le_of_ble_eq_true rfl) (Nat.le_of_ble_eq_true rfl) ?_
                            first | (refine ⟨?_, rfl⟩; unfold c_hr; simp [c8, c46, c62, c63, hk3, ht2, hk41, ht40, om_n hj68, ht0, rv_4, rv_5, mt_4, ws_4]; done) | (refine ⟨?_, rfl⟩; unfold c_hr; simp only [c8, c46, c62, c63, hk3, ht2, hk41, ht40, om_n hj68, ht0, rv_4, rv_5, mt_4, ws_4, Option.bind_some, Option.bind_none, Option.isNone_none, Option.isNone_some, Bool.and_true, Bool.and_false, Bool.true_and, Bool.false_and, Bool.not_true, Bool.not_false, decide_true, decide_false, if_true, if_false, Bool.false_eq_true, reduceIte]; done)
                        · refine jv_topR (y := (some (N (T (10 * e + k0)) j66))) (by rw [hj68]; rfl) ?_
                          obtain ⟨m67, hm67, wm67, km67⟩ := oc_some hj68
                          have lm67 := jv_ltGet hm67
                          have Om67 := Ot0.2.2.2.2.2.2 m67 (List.mem_of_getElem? hm67)
                          have Vm67 := ct_m Vt0 hm67
                          have j6m67 : j66 < 6 := by have := Ot0.2.2.2.2.2.1; omega
                          have bm67a := Om67.2.2.1
                          refine jv_astore (q := 132) (lo' := [(5, .ref (N (T (10 * e + k0)) j66)), (4, .ref (T (10 * e + k1))), (0, .ref u), (1, .ref (z 0 e)), (2, .ref c), (3, .ref (T (10 * e + k0)))]) G dX6_hindranceToReach_130 (by decide) rfl rfl ?_
                          refine jv_aload (q := 134) G 0 dX6_hindranceToReach_132 rfl rfl ?_
                          refine jv_ifnonnull (q := 137) (tgt := 139) (x := (some (N (T (10 * e + k0)) j66))) G dX6_hindranceToReach_134 (by decide) rfl (fun a72 c71 => ?_) (fun c71 => ?_)
                          · refine jv_aload_n (q := 140) G 4 dX6_hindranceToReach_139 rfl rfl rfl ?_
                            refine jv_aload_n (q := 141) G 3 dX6_hindranceToReach_140 rfl rfl rfl ?_
                            refine jv_aload_n (q := 142) G 5 dX6_hindranceToReach_141 rfl rfl rfl ?_
                            refine jv_aload (q := 144) G 0 dX6_hindranceToReach_142 rfl rfl ?_
                            refine jv_callV_I (q := 147) (h1 := h) (As := [.ref (z 0 e), .ref (T (10 * e + k0)), .ref (N (T (10 * e + k0)) j66)]) (rest := []) (ce' := 0) (sl' := 0) (r := jv_bI (c_mt ts Us p su t0 m67)) G Z ml_X6_99 (k_mayTouch hlt hE hU hc hp ht0 (Yt0.2.2.2.2.2.2.2 j66 j6m67).2 Vm67 Om67) hc.1 dX6_hindranceToReach_144 rfl (by decide) (by decide) (by decide) (by decide) (Nat.le_of_ble_eq_true rfl) rfl rfl rfl rfl ?_
                            refine jv_if_neB (q := 150) (tgt := 152) G dX6_hindranceToReach_147 (by decide) rfl (fun c73 => ?_) (fun c73 => ?_)
                            · refine jv_aload (q := 154) G 0 dX6_hindranceToReach_152 rfl rfl ?_
                              refine jv_getZ (q := 157) G dX6_hindranceToReach_154 fl_X6_103 rfl (Yt0.2.2.2.2.2.2.2 j66 j6m67).2 Vm67.2.2.1 rfl ?_
                              refine jv_aload_n (q := 158) G 2 dX6_hindranceToReach_157 rfl rfl rfl ?_
                              refine jv_callV_I (q := 161) (h1 := h) (As := []) (rest := [.int (jv_bI (mm_t m67))]) (ce' := 0) (sl' := 0) (r := jv_bI (m_ws 4)) G Z ml_X6_106 (k_wantsStatic hlt hu hkd) hu.1 dX6_hindranceToReach_158 rfl (by decide) (by decide) (by decide) (by decide) (Nat.le_of_ble_eq_true rfl) rfl rfl rfl rfl ?_
                              refine jv_topI (y := jv_bI false) rfl ?_
                              refine jv_icmp_neB (q := 164) (tgt := 168) G dX6_hindranceToReach_161 (by decide) rfl (fun c74 => ?_) (fun c74 => ?_)
                              · refine jv_iconst (q := 169) (v := nI 4) G dX6_hindranceToReach_168 (by decide) rfl ?_
                                refine jv_iret G hr dX6_hindranceToReach_169 (Nat.le_of_ble_eq_true rfl) (Nat.le_of_ble_eq_true rfl) ?_
                                first | (refine ⟨?_, rfl⟩; unfold c_hr; simp [c8, c46, c62, c63, c73, c74, hk3, ht2, hk41, ht40, om_s hj68 hm67, ht0, rv_4, rv_5, mt_4, ws_4]; done) | (refine ⟨?_, rfl⟩; unfold c_hr; simp only [c8, c46, c62, c63, c73, c74, hk3, ht2, hk41, ht40, om_s hj68 hm67, ht0, rv_4, rv_5, mt_4, ws_4, Option.bind_some, Option.bind_none, Option.isNone_none, Option.isNone_some, Bool.and_true, Bool.and_false, Bool.true_and, Bool.false_and, Bool.not_true, Bool.not_false, decide_true, decide_false, if_true, if_false, Bool.false_eq_true, reduceIte]; done)
                              · refine jv_iconst (q := 165) (v := nI 0) G dX6_hindranceToReach_164 (by decide) rfl ?_
                                refine jv_goto (q := 169) G dX6_hindranceToReach_165 (by decide) ?_
                                refine jv_iret G hr dX6_hindranceToReach_169 (Nat.le_of_ble_eq_true rfl) (Nat.le_of_ble_eq_true rfl) ?_
                                first | (refine ⟨?_, rfl⟩; unfold c_hr; simp [c8, c46, c62, c63, c73, c74, hk3, ht2, hk41, ht40, om_s hj68 hm67, ht0, rv_4, rv_5, mt_4, ws_4]; done) | (refine ⟨?_, rfl⟩; unfold c_hr; simp only [c8, c46, c62, c63, c73, c74, hk3, ht2, hk41, ht40, om_s hj68 hm67, ht0, rv_4, rv_5, mt_4, ws_4, Option.bind_some, Option.bind_none, Option.isNone_none, Option.isNone_some, Bool.and_true, Bool.and_false, Bool.true_and, Bool.false_and, Bool.not_true, Bool.not_false, decide_true, decide_false, if_true, if_false, Bool.false_eq_true, reduceIte]; done)
                            · refine jv_iconst (q := 151) (v := nI 3) G dX6_hindranceToReach_150 (by decide) rfl ?_
                              refine jv_iret G hr dX6_hindranceToReach_151 (Nat.le_of_ble_eq_true rfl) (Nat.le_of_ble_eq_true rfl) ?_
                              first | (refine ⟨?_, rfl⟩; unfold c_hr; simp [c8, c46, c62, c63, c73, hk3, ht2, hk41, ht40, om_s hj68 hm67, ht0, rv_4, rv_5, mt_4, ws_4]; done) | (refine ⟨?_, rfl⟩; unfold c_hr; simp only [c8, c46, c62, c63, c73, hk3, ht2, hk41, ht40, om_s hj68 hm67, ht0, rv_4, rv_5, mt_4, ws_4, Option.bind_some, Option.bind_none, Option.isNone_none, Option.isNone_some, Bool.and_true, Bool.and_false, Bool.true_and, Bool.false_and, Bool.not_true, Bool.not_false, decide_true, decide_false, if_true, if_false, Bool.false_eq_true, reduceIte]; done)
                          · cases c71
                      · cases c64
                    · omega
                  · refine jv_bipush (q := 87) (v := nI 6) G dX6_hindranceToReach_85 (by decide) rfl ?_
                    refine jv_iret G hr dX6_hindranceToReach_87 (Nat.le_of_ble_eq_true rfl) (Nat.le_of_ble_eq_true rfl) ?_
                    first | (refine ⟨?_, rfl⟩; unfold c_hr; simp [c8, c46, c62, hk3, ht2, hk41, ht40, ht0, rv_4, rv_5, mt_4, ws_4]; done) | (refine ⟨?_, rfl⟩; unfold c_hr; simp only [c8, c46, c62, hk3, ht2, hk41, ht40, ht0, rv_4, rv_5, mt_4, ws_4, Option.bind_some, Option.bind_none, Option.isNone_none, Option.isNone_some, Bool.and_true, Bool.and_false, Bool.true_and, Bool.false_and, Bool.not_true, Bool.not_false, decide_true, decide_false, if_true, if_false, Bool.false_eq_true, reduceIte]; done)
            · refine jv_aload (q := 45) G 0 dX6_hindranceToReach_43 rfl rfl ?_
              refine jv_getI (q := 48) G dX6_hindranceToReach_45 fl_X6_87 rfl (hE.2.1 k1 k10t2).1 (ct_3 (hE.2.2.2.2.1 k1 t2 ht2).1) rfl ?_
              refine jv_aload_n (q := 49) G 3 dX6_hindranceToReach_48 rfl rfl rfl ?_
              refine jv_getI (q := 52) G dX6_hindranceToReach_49 fl_X6_90 rfl hc.1 hc.2.2.1 rfl ?_
              refine jv_icmp_eqN (q := 55) (tgt := 57) G dX6_hindranceToReach_52 (by decide) rfl (by omega) (by omega) (fun c75 => ?_) (fun c75 => ?_)
              · refine jv_aload_n (q := 58) G 1 dX6_hindranceToReach_57 rfl rfl rfl ?_
                refine jv_callV_I (q := 61) (h1 := h) (As := []) (rest := []) (ce' := 0) (sl' := 0) (r := jv_bI (m_rv kd)) G Z ml_X6_59 (k_hasReceiver hlt hu hkd) hu.1 dX6_hindranceToReach_58 rfl (by decide) (by decide) (by decide) (by decide) (Nat.le_of_ble_eq_true rfl) rfl rfl rfl rfl ?_
                refine jv_if_eqB (q := 64) (tgt := 88) G dX6_hindranceToReach_61 (by decide) rfl (fun c76 => ?_) (fun c76 => ?_)
                · rw [c8] at c76; cases c76
                · refine jv_aload (q := 66) G 0 dX6_hindranceToReach_64 rfl rfl ?_
                  refine jv_getZ (q := 69) G dX6_hindranceToReach_66 fl_X6_93 rfl (hE.2.1 k1 k10t2).1 (ct_1 (hE.2.2.2.2.1 k1 t2 ht2).1) rfl ?_
                  refine jv_aload_n (q := 70) G 1 dX6_hindranceToReach_69 rfl rfl rfl ?_
                  refine jv_getI (q := 73) G dX6_hindranceToReach_70 fl_X6_9 rfl hu.1 hu.2.1 rfl ?_
                  refine jv_iconst (q := 74) (v := nI 4) G dX6_hindranceToReach_73 (by decide) rfl ?_
                  refine jv_icmp_neN (q := 77) (tgt := 81) G dX6_hindranceToReach_74 (by decide) rfl (by omega) (by omega) (fun c77 => ?_) (fun c77 => ?_)
                  · refine jv_iconst (q := 82) (v := nI 0) G dX6_hindranceToReach_81 (by decide) rfl ?_
                    refine jv_topI (y := jv_bI false) rfl ?_
                    refine jv_icmp_eqB (q := 85) (tgt := 88) G dX6_hindranceToReach_82 (by decide) rfl (fun c78 => ?_) (fun c78 => ?_)
                    · refine jv_aload_n (q := 89) G 1 dX6_hindranceToReach_88 rfl rfl rfl ?_
                      refine jv_getI (q := 92) G dX6_hindranceToReach_89 fl_X6_9 rfl hu.1 hu.2.1 rfl ?_
                      refine jv_iconst (q := 93) (v := nI 5) G dX6_hindranceToReach_92 (by decide) rfl ?_
                      refine jv_icmp_neN (q := 96) (tgt := 110) G dX6_hindranceToReach_93 (by decide) rfl (by omega) (by omega) (fun c79 => ?_) (fun c79 => ?_)
                      · refine jv_aload_n (q := 111) G 4 dX6_hindranceToReach_110 rfl rfl rfl ?_
                        refine jv_ifnonnull (q := 114) (tgt := 118) (x := (some (T (10 * e + k0)))) G dX6_hindranceToReach_111 (by decide) rfl (fun a81 c80 => ?_) (fun c80 => ?_)
                        · refine jv_aload_n (q := 119) G 4 dX6_hindranceToReach_118 rfl rfl rfl ?_
                          refine jv_aload_n (q := 120) G 1 dX6_hindranceToReach_119 rfl rfl rfl ?_
                          refine jv_callV_I (q := 123) (h1 := h) (As := []) (rest := [.ref (T (10 * e + k0))]) (ce' := 0) (sl' := 0) (r := jv_bI (m_mt kd)) G Z ml_X6_36 (k_isOfMethod hlt hu hkd) hu.1 dX6_hindranceToReach_120 rfl (by decide) (by decide) (by decide) (by decide) (Nat.le_of_ble_eq_true rfl) rfl rfl rfl rfl ?_
                          refine jv_aload_n (q := 124) G 1 dX6_hindranceToReach_123 rfl rfl rfl ?_
                          refine jv_getI (q := 127) G dX6_hindranceToReach_124 fl_X6_18 rfl hu.1 hu.2.2.2.1 rfl ?_
                          refine jv_callV_R (q := 130) (h1 := h) (As := [.int (jv_bI (m_mt kd)), .int (jv_oN ko)]) (rest := []) (ce' := 0) (sl' := 0) (r := ((m_oc t0 (m_mt kd) ko).map (N (T (10 * e + k0))))) G Z ml_X6_69 (k_own (w := (m_mt kd)) (ko := ko) hlt Yt0 Vt0 Ot0 hK) (hE.2.1 k0 k10t0).1 dX6_hindranceToReach_127 rfl (by decide) (by decide) (by decide) (by decide) (Nat.le_of_ble_eq_true rfl) rfl rfl rfl rfl ?_
                          rcases Option.eq_none_or_eq_some (m_oc t0 (m_mt kd) ko) with hj84 | ⟨j82, hj84⟩
                          · refine jv_topR (y := none) (by rw [hj84]; rfl) ?_
                            refine jv_astoreR (q := 132) (lo' := [(5, va_rf none), (4, .ref (T (10 * e + k1))), (0, .ref u), (1, .ref (z 0 e)), (2, .ref c), (3, .ref (T (10 * e + k0)))]) (x := none) G dX6_hindranceToReach_130 (by decide) rfl rfl ?_
                            refine jv_aloadR (q := 134) G 0 dX6_hindranceToReach_132 rfl rfl ?_
                            refine jv_ifnonnull (q := 137) (tgt := 139) (x := none) G dX6_hindranceToReach_134 (by decide) rfl (fun a86 c85 => ?_) (fun c85 => ?_)
                            · cases c85
                            · refine jv_iconst (q := 138) (v := nI 2) G dX6_hindranceToReach_137 (by decide) rfl ?_
                              refine jv_iret G hr dX6_hindranceToReach_138 (Nat.le_of_ble_eq_true rfl) (Nat.le_of_ble_eq_true rfl) ?_
                              first | (refine ⟨?_, rfl⟩; unfold c_hr; simp [c8, c46, c75, c77, c78, c79, hk3, ht2, hk41, ht40, om_n hj84, ht0, rv_4, rv_5, mt_4, ws_4]; done) | (refine ⟨?_, rfl⟩; unfold c_hr; simp only [c8, c46, c75, c77, c78, c79, hk3, ht2, hk41, ht40, om_n hj84, ht0, rv_4, rv_5, mt_4, ws_4, Option.bind_some, Option.bind_none, Option.isNone_none, Option.isNone_some, Bool.and_true, Bool.and_false, Bool.true_and, Bool.false_and, Bool.not_true, Bool.not_false, decide_true, decide_false, if_true, if_false, Bool.false_eq_true, reduceIte]; done)
                          · refine jv_topR (y := (some (N (T (10 * e + k0)) j82))) (by rw [hj84]; rfl) ?_
                            obtain ⟨m83, hm83, wm83, km83⟩ := oc_some hj84
                            have lm83 := jv_ltGet hm83
                            have Om83 := Ot0.2.2.2.2.2.2 m83 (List.mem_of_getElem? hm83)
                            have Vm83 := ct_m Vt0 hm83
                            have j6m83 : j82 < 6 := by have := Ot0.2.2.2.2.2.1; omega
                            have bm83a := Om83.2.2.1
                            refine jv_astore (q := 132) (lo' := [(5, .ref (N (T (10 * e + k0)) j82)), (4, .ref (T (10 * e + k1))), (0, .ref u), (1, .ref (z 0 e)), (2, .ref c), (3, .ref (T (10 * e + k0)))]) G dX6_hindranceToReach_130 (by decide) rfl rfl ?_
                            refine jv_aload (q := 134) G 0 dX6_hindranceToReach_132 rfl rfl ?_
                            refine jv_ifnonnull (q := 137) (tgt := 139) (x := (some (N (T (10 * e + k0)) j82))) G dX6_hindranceToReach_134 (by decide) rfl (fun a88 c87 => ?_) (fun c87 => ?_)
                            · refine jv_aload_n (q := 140) G 4 dX6_hindranceToReach_139 rfl rfl rfl ?_
                              refine jv_aload_n (q := 141) G 3 dX6_hindranceToReach_140 rfl rfl rfl ?_
                              refine jv_aload_n (q := 142) G 5 dX6_hindranceToReach_141 rfl rfl rfl ?_
                              refine jv_aload (q := 144) G 0 dX6_hindranceToReach_142 rfl rfl ?_
                              refine jv_callV_I (q := 147) (h1 := h) (As := [.ref (z 0 e), .ref (T (10 * e + k0)), .ref (N (T (10 * e + k0)) j82)]) (rest := []) (ce' := 0) (sl' := 0) (r := jv_bI (c_mt ts Us p su t0 m83)) G Z ml_X6_99 (k_mayTouch hlt hE hU hc hp ht0 (Yt0.2.2.2.2.2.2.2 j82 j6m83).2 Vm83 Om83) hc.1 dX6_hindranceToReach_144 rfl (by decide) (by decide) (by decide) (by decide) (Nat.le_of_ble_eq_true rfl) rfl rfl rfl rfl ?_
                              refine jv_if_neB (q := 150) (tgt := 152) G dX6_hindranceToReach_147 (by decide) rfl (fun c89 => ?_) (fun c89 => ?_)
                              · refine jv_aload (q := 154) G 0 dX6_hindranceToReach_152 rfl rfl ?_
                                refine jv_getZ (q := 157) G dX6_hindranceToReach_154 fl_X6_103 rfl (Yt0.2.2.2.2.2.2.2 j82 j6m83).2 Vm83.2.2.1 rfl ?_
                                refine jv_aload_n (q := 158) G 2 dX6_hindranceToReach_157 rfl rfl rfl ?_
                                refine jv_callV_I (q := 161) (h1 := h) (As := []) (rest := [.int (jv_bI (mm_t m83))]) (ce' := 0) (sl' := 0) (r := jv_bI (m_ws kd)) G Z ml_X6_106 (k_wantsStatic hlt hu hkd) hu.1 dX6_hindranceToReach_158 rfl (by decide) (by decide) (by decide) (by decide) (Nat.le_of_ble_eq_true rfl) rfl rfl rfl rfl ?_
                                refine jv_icmp_neB (q := 164) (tgt := 168) G dX6_hindranceToReach_161 (by decide) rfl (fun c90 => ?_) (fun c90 => ?_)
                                · refine jv_iconst (q := 169) (v := nI 4) G dX6_hindranceToReach_168 (by decide) rfl ?_
                                  refine jv_iret G hr dX6_hindranceToReach_169 (Nat.le_of_ble_eq_true rfl) (Nat.le_of_ble_eq_true rfl) ?_
                                  first | (refine ⟨?_, rfl⟩; unfold c_hr; simp [c8, c46, c75, c77, c78, c79, c89, c90, hk3, ht2, hk41, ht40, om_s hj84 hm83, ht0, rv_4, rv_5, mt_4, ws_4]; done) | (refine ⟨?_, rfl⟩; unfold c_hr; simp only [c8, c46, c75, c77, c78, c79, c89, c90, hk3, ht2, hk41, ht40, om_s hj84 hm83, ht0, rv_4, rv_5, mt_4, ws_4, Option.bind_some, Option.bind_none, Option.isNone_none, Option.isNone_some, Bool.and_true, Bool.and_false, Bool.true_and, Bool.false_and, Bool.not_true, Bool.not_false, decide_true, decide_false, if_true, if_false, Bool.false_eq_true, reduceIte]; done)
                                · refine jv_iconst (q := 165) (v := nI 0) G dX6_hindranceToReach_164 (by decide) rfl ?_
                                  refine jv_goto (q := 169) G dX6_hindranceToReach_165 (by decide) ?_
                                  refine jv_iret G hr dX6_hindranceToReach_169 (Nat.le_of_ble_eq_true rfl) (Nat.le_of_ble_eq_true rfl) ?_
                                  first | (refine ⟨?_, rfl⟩; unfold c_hr; simp [c8, c46, c75, c77, c78, c79, c89, c90, hk3, ht2, hk41, ht40, om_s hj84 hm83, ht0, rv_4, rv_5, mt_4, ws_4]; done) | (refine ⟨?_, rfl⟩; unfold c_hr; simp only [c8, c46, c75, c77, c78, c79, c89, c90, hk3, ht2, hk41, ht40, om_s hj84 hm83, ht0, rv_4, rv_5, mt_4, ws_4, Option.bind_some, Option.bind_none, Option.isNone_none, Option.isNone_some, Bool.and_true, Bool.and_false, Bool.true_and, Bool.false_and, Bool.not_true, Bool.not_false, decide_true, decide_false, if_true, if_false, Bool.false_eq_true, reduceIte]; done)
                              · refine jv_iconst (q := 151) (v := nI 3) G dX6_hindranceToReach_150 (by decide) rfl ?_
                                refine jv_iret G hr dX6_hindranceToReach_151 (Nat.le_of_ble_eq_true rfl) (Nat.le_of_ble_eq_true rfl) ?_
                                first | (refine ⟨?_, rfl⟩; unfold c_hr; simp [c8, c46, c75, c77, c78, c79, c89, hk3, ht2, hk41, ht40, om_s hj84 hm83, ht0, rv_4, rv_5, mt_4, ws_4]; done) | (refine ⟨?_, rfl⟩; unfold c_hr; simp only [c8, c46, c75, c77, c78, c79, c89, hk3, ht2, hk41, ht40, om_s hj84 hm83, ht0, rv_4, rv_5, mt_4, ws_4, Option.bind_some, Option.bind_none, Option.isNone_none, Option.isNone_some, Bool.and_true, Bool.and_false, Bool.true_and, Bool.false_and, Bool.not_true, Bool.not_false, decide_true, decide_false, if_true, if_false, Bool.false_eq_true, reduceIte]; done)
                            · cases c87
                        · cases c80
                      · subst c79; exact absurd c8 (by decide)
                    · refine jv_bipush (q := 87) (v := nI 6) G dX6_hindranceToReach_85 (by decide) rfl ?_
                      refine jv_iret G hr dX6_hindranceToReach_87 (Nat.le_of_ble_eq_true rfl) (Nat.le_of_ble_eq_true rfl) ?_
                      first | (refine ⟨?_, rfl⟩; unfold c_hr; simp [c8, c46, c75, c77, c78, hk3, ht2, hk41, ht40, ht0, rv_4, rv_5, mt_4, ws_4]; done) | (refine ⟨?_, rfl⟩; unfold c_hr; simp only [c8, c46, c75, c77, c78, hk3, ht2, hk41, ht40, ht0, rv_4, rv_5, mt_4, ws_4, Option.bind_some, Option.bind_none, Option.isNone_none, Option.isNone_some, Bool.and_true, Bool.and_false, Bool.true_and, Bool.false_and, Bool.not_true, Bool.not_false, decide_true, decide_false, if_true, if_false, Bool.false_eq_true, reduceIte]; done)
                  · subst c77
                    refine jv_iconst (q := 78) (v := nI 1) G dX6_hindranceToReach_77 (by decide) rfl ?_
                    refine jv_goto (q := 82) G dX6_hindranceToReach_78 (by decide) ?_
                    refine jv_topI (y := jv_bI true) rfl ?_
                    refine jv_icmp_eqB (q := 85) (tgt := 88) G dX6_hindranceToReach_82 (by decide) rfl (fun c91 => ?_) (fun c91 => ?_)
                    · refine jv_aload_n (q := 89) G 1 dX6_hindranceToReach_88 rfl rfl rfl ?_
                      refine jv_getI (q := 92) G dX6_hindranceToReach_89 fl_X6_9 rfl hu.1 hu.2.1 rfl ?_
                      refine jv_iconst (q := 93) (v := nI 5) G dX6_hindranceToReach_92 (by decide) rfl ?_
                      refine jv_icmp_neN (q := 96) (tgt := 110) G dX6_hindranceToReach_93 (by decide) rfl (by omega) (by omega) (fun c92 => ?_) (fun c92 => ?_)
                      · refine jv_aload_n (q := 111) G 4 dX6_hindranceToReach_110 rfl rfl rfl ?_
                        refine jv_ifnonnull (q := 114) (tgt := 118) (x := (some (T (10 * e + k0)))) G dX6_hindranceToReach_111 (by decide) rfl (fun a94 c93 => ?_) (fun c93 => ?_)
                        · refine jv_aload_n (q := 119) G 4 dX6_hindranceToReach_118 rfl rfl rfl ?_
                          refine jv_aload_n (q := 120) G 1 dX6_hindranceToReach_119 rfl rfl rfl ?_
                          refine jv_callV_I (q := 123) (h1 := h) (As := []) (rest := [.ref (T (10 * e + k0))]) (ce' := 0) (sl' := 0) (r := jv_bI (m_mt 4)) G Z ml_X6_36 (k_isOfMethod hlt hu hkd) hu.1 dX6_hindranceToReach_120 rfl (by decide) (by decide) (by decide) (by decide) (Nat.le_of_ble_eq_true rfl) rfl rfl rfl rfl ?_
                          refine jv_topI (y := jv_bI true) rfl ?_
                          refine jv_aload_n (q := 124) G 1 dX6_hindranceToReach_123 rfl rfl rfl ?_
                          refine jv_getI (q := 127) G dX6_hindranceToReach_124 fl_X6_18 rfl hu.1 hu.2.2.2.1 rfl ?_
                          refine jv_callV_R (q := 130) (h1 := h) (As := [.int (jv_bI true), .int (jv_oN ko)]) (rest := []) (ce' := 0) (sl' := 0) (r := ((m_oc t0 true ko).map (N (T (10 * e + k0))))) G Z ml_X6_69 (k_own (w := true) (ko := ko) hlt Yt0 Vt0 Ot0 hK) (hE.2.1 k0 k10t0).1 dX6_hindranceToReach_127 rfl (by decide) (by decide) (by decide) (by decide) (Nat.le_of_ble_eq_true rfl) rfl rfl rfl rfl ?_
                          rcases Option.eq_none_or_eq_some (m_oc t0 true ko) with hj97 | ⟨j95, hj97⟩
                          · refine jv_topR (y := none) (by rw [hj97]; rfl) ?_
                            refine jv_astoreR (q := 132) (lo' := [(5, va_rf none), (4, .ref (T (10 * e + k1))), (0, .ref u), (1, .ref (z 0 e)), (2, .ref c), (3, .ref (T (10 * e + k0)))]) (x := none) G dX6_hindranceToReach_130 (by decide) rfl rfl ?_
                            refine jv_aloadR (q := 134) G 0 dX6_hindranceToReach_132 rfl rfl ?_
                            refine jv_ifnonnull (q := 137) (tgt := 139) (x := none) G dX6_hindranceToReach_134 (by decide) rfl (fun a99 c98 => ?_) (fun c98 => ?_)
                            · cases c98
                            · refine jv_iconst (q := 138) (v := nI 2) G dX6_hindranceToReach_137 (by decide) rfl ?_
                              refine jv_iret G hr dX6_hindranceToReach_138 (Nat.le_of_ble_eq_true rfl) (Nat.le_of_ble_eq_true rfl) ?_
                              first | (refine ⟨?_, rfl⟩; unfold c_hr; simp [c8, c46, c75, c91, c92, hk3, ht2, hk41, ht40, om_n hj97, ht0, rv_4, rv_5, mt_4, ws_4]; done) | (refine ⟨?_, rfl⟩; unfold c_hr; simp only [c8, c46, c75, c91, c92, hk3, ht2, hk41, ht40, om_n hj97, ht0, rv_4, rv_5, mt_4, ws_4, Option.bind_some, Option.bind_none, Option.isNone_none, Option.isNone_some, Bool.and_true, Bool.and_false, Bool.true_and, Bool.false_and, Bool.not_true, Bool.not_false, decide_true, decide_false, if_true, if_false, Bool.false_eq_true, reduceIte]; done)
                          · refine jv_topR (y := (some (N (T (10 * e + k0)) j95))) (by rw [hj97]; rfl) ?_
                            obtain ⟨m96, hm96, wm96, km96⟩ := oc_some hj97
                            have lm96 := jv_ltGet hm96
                            have Om96 := Ot0.2.2.2.2.2.2 m96 (List.mem_of_getElem? hm96)
                            have Vm96 := ct_m Vt0 hm96
                            have j6m96 : j95 < 6 := by have := Ot0.2.2.2.2.2.1; omega
                            have bm96a := Om96.2.2.1
                            refine jv_astore (q := 132) (lo' := [(5, .ref (N (T (10 * e + k0)) j95)), (4, .ref (T (10 * e + k1))), (0, .ref u), (1, .ref (z 0 e)), (2, .ref c), (3, .ref (T (10 * e + k0)))]) G dX6_hindranceToReach_130 (by decide) rfl rfl ?_
                            refine jv_aload (q := 134) G 0 dX6_hindranceToReach_132 rfl rfl ?_
                            refine jv_ifnonnull (q := 137) (tgt := 139) (x := (some (N (T (10 * e + k0)) j95))) G dX6_hindranceToReach_134 (by decide) rfl (fun a101 c100 => ?_) (fun c100 => ?_)
                            · refine jv_aload_n (q := 140) G 4 dX6_hindranceToReach_139 rfl rfl rfl ?_
                              refine jv_aload_n (q := 141) G 3 dX6_hindranceToReach_140 rfl rfl rfl ?_
                              refine jv_aload_n (q := 142) G 5 dX6_hindranceToReach_141 rfl rfl rfl ?_
                              refine jv_aload (q := 144) G 0 dX6_hindranceToReach_142 rfl rfl ?_
                              refine jv_callV_I (q := 147) (h1 := h) (As := [.ref (z 0 e), .ref (T (10 * e + k0)), .ref (N (T (10 * e + k0)) j95)]) (rest := []) (ce' := 0) (sl' := 0) (r := jv_bI (c_mt ts Us p su t0 m96)) G Z ml_X6_99 (k_mayTouch hlt hE hU hc hp ht0 (Yt0.2.2.2.2.2.2.2 j95 j6m96).2 Vm96 Om96) hc.1 dX6_hindranceToReach_144 rfl (by decide) (by decide) (by decide) (by decide) (Nat.le_of_ble_eq_true rfl) rfl rfl rfl rfl ?_
                              refine jv_if_neB (q := 150) (tgt := 152) G dX6_hindranceToReach_147 (by decide) rfl (fun c102 => ?_) (fun c102 => ?_)
                              · refine jv_aload (q := 154) G 0 dX6_hindranceToReach_152 rfl rfl ?_
                                refine jv_getZ (q := 157) G dX6_hindranceToReach_154 fl_X6_103 rfl (Yt0.2.2.2.2.2.2.2 j95 j6m96).2 Vm96.2.2.1 rfl ?_
                                refine jv_aload_n (q := 158) G 2 dX6_hindranceToReach_157 rfl rfl rfl ?_
                                refine jv_callV_I (q := 161) (h1 := h) (As := []) (rest := [.int (jv_bI (mm_t m96))]) (ce' := 0) (sl' := 0) (r := jv_bI (m_ws 4)) G Z ml_X6_106 (k_wantsStatic hlt hu hkd) hu.1 dX6_hindranceToReach_158 rfl (by decide) (by decide) (by decide) (by decide) (Nat.le_of_ble_eq_true rfl) rfl rfl rfl rfl ?_
                                refine jv_topI (y := jv_bI false) rfl ?_
                                refine jv_icmp_neB (q := 164) (tgt := 168) G dX6_hindranceToReach_161 (by decide) rfl (fun c103 => ?_) (fun c103 => ?_)
                                · refine jv_iconst (q := 169) (v := nI 4) G dX6_hindranceToReach_168 (by decide) rfl ?_
                                  refine jv_iret G hr dX6_hindranceToReach_169 (Nat.le_of_ble_eq_true rfl) (Nat.le_of_ble_eq_true rfl) ?_
                                  first | (refine ⟨?_, rfl⟩; unfold c_hr; simp [c8, c46, c75, c91, c92, c102, c103, hk3, ht2, hk41, ht40, om_s hj97 hm96, ht0, rv_4, rv_5, mt_4, ws_4]; done) | (refine ⟨?_, rfl⟩; unfold c_hr; simp only [c8, c46, c75, c91, c92, c102, c103, hk3, ht2, hk41, ht40, om_s hj97 hm96, ht0, rv_4, rv_5, mt_4, ws_4, Option.bind_some, Option.bind_none, Option.isNone_none, Option.isNone_some, Bool.and_true, Bool.and_false, Bool.true_and, Bool.false_and, Bool.not_true, Bool.not_false, decide_true, decide_false, if_true, if_false, Bool.false_eq_true, reduceIte]; done)
                                · refine jv_iconst (q := 165) (v := nI 0) G dX6_hindranceToReach_164 (by decide) rfl ?_
                                  refine jv_goto (q := 169) G dX6_hindranceToReach_165 (by decide) ?_
                                  refine jv_iret G hr dX6_hindranceToReach_169 (Nat.le_of_ble_eq_true rfl) (Nat.le_of_ble_eq_true rfl) ?_
                                  first | (refine ⟨?_, rfl⟩; unfold c_hr; simp [c8, c46, c75, c91, c92, c102, c103, hk3, ht2, hk41, ht40, om_s hj97 hm96, ht0, rv_4, rv_5, mt_4, ws_4]; done) | (refine ⟨?_, rfl⟩; unfold c_hr; simp only [c8, c46, c75, c91, c92, c102, c103, hk3, ht2, hk41, ht40, om_s hj97 hm96, ht0, rv_4, rv_5, mt_4, ws_4, Option.bind_some, Option.bind_none, Option.isNone_none, Option.isNone_some, Bool.and_true, Bool.and_false, Bool.true_and, Bool.false_and, Bool.not_true, Bool.not_false, decide_true, decide_false, if_true, if_false, Bool.false_eq_true, reduceIte]; done)
                              · refine jv_iconst (q := 151) (v := nI 3) G dX6_hindranceToReach_150 (by decide) rfl ?_
                                refine jv_iret G hr dX6_hindranceToReach_151 (Nat.le_of_ble_eq_true rfl) (Nat.le_of_ble_eq_true rfl) ?_
                                first | (refine ⟨?_, rfl⟩; unfold c_hr; simp [c8, c46, c75, c91, c92, c102, hk3, ht2, hk41, ht40, om_s hj97 hm96, ht0, rv_4, rv_5, mt_4, ws_4]; done) | (refine ⟨?_, rfl⟩; unfold c_hr; simp only [c8, c46, c75, c91, c92, c102, hk3, ht2, hk41, ht40, om_s hj97 hm96, ht0, rv_4, rv_5, mt_4, ws_4, Option.bind_some, Option.bind_none, Option.isNone_none, Option.isNone_some, Bool.and_true, Bool.and_false, Bool.true_and, Bool.false_and, Bool.not_true, Bool.not_false, decide_true, decide_false, if_true, if_false, Bool.false_eq_true, reduceIte]; done)
                            · cases c100
                        · cases c93
                      · omega
                    · refine jv_bipush (q := 87) (v := nI 6) G dX6_hindranceToReach_85 (by decide) rfl ?_
                      refine jv_iret G hr dX6_hindranceToReach_87 (Nat.le_of_ble_eq_true rfl) (Nat.le_of_ble_eq_true rfl) ?_
                      first | (refine ⟨?_, rfl⟩; unfold c_hr; simp [c8, c46, c75, c91, hk3, ht2, hk41, ht40, ht0, rv_4, rv_5, mt_4, ws_4]; done) | (refine ⟨?_, rfl⟩; unfold c_hr; simp only [c8, c46, c75, c91, hk3, ht2, hk41, ht40, ht0, rv_4, rv_5, mt_4, ws_4, Option.bind_some, Option.bind_none, Option.isNone_none, Option.isNone_some, Bool.and_true, Bool.and_false, Bool.true_and, Bool.false_and, Bool.not_true, Bool.not_false, decide_true, decide_false, if_true, if_false, Bool.false_eq_true, reduceIte]; done)
              · refine jv_iconst (q := 56) (v := nI 3) G dX6_hindranceToReach_55 (by decide) rfl ?_
                refine jv_iret G hr dX6_hindranceToReach_56 (Nat.le_of_ble_eq_true rfl) (Nat.le_of_ble_eq_true rfl) ?_
                first | (refine ⟨?_, rfl⟩; unfold c_hr; simp [c8, c46, c75, hk3, ht2, hk41, ht40, ht0, rv_4, rv_5, mt_4, ws_4]; done) | (refine ⟨?_, rfl⟩; unfold c_hr; simp only [c8, c46, c75, hk3, ht2, hk41, ht40, ht0, rv_4, rv_5, mt_4, ws_4, Option.bind_some, Option.bind_none, Option.isNone_none, Option.isNone_some, Bool.and_true, Bool.and_false, Bool.true_and, Bool.false_and, Bool.not_true, Bool.not_false, decide_true, decide_false, if_true, if_false, Bool.false_eq_true, reduceIte]; done)
          · cases c44
set_option maxHeartbeats 4000000 in
set_option maxRecDepth 100000 in
theorem k_run0 {lA : Launch} (hlt : lA.stackTraces = false) {D : jv_D} {base : Nat} {z : Nat → Nat → Nat} {T : Nat → Nat} {N : Nat → Nat → Nat} {h : jv_H} {e : Nat} {ts : List mT} (hE : cv_E z T N h e ts) {Us : Nat → List Nat} (hU : cv_Us z T h e ts Us) {u kd : Nat} {ty rc cv ow : Int32} {ko : Option Nat} (hu : cv_use h u kd ty ko rc cv ow) (hkd : kd < 6) (hK : ∀ K, ko = some K → K < 64) : jv_Met lA D base yX6_hindranceToRun (.code yX6_hindranceToRun cX6_hindranceToRun 5 (some .int)) 3 0 0 [.ref u, .ref (z 0 e), va_rf none] h (jv_rI (nI (c_hn ts Us kd ty rc ko none)) h) jv_no := by
  refine jv_ofV (lo := [(0, .ref u), (1, .ref (z 0 e)), (2, va_rf none)]) hlt (by decide) (Nat.le_of_ble_eq_true rfl) rfl (fun E hEl hEd hEz Z G hr ht hnm => ?_)
  subst hEl; subst hEd; subst hEz
  refine jv_aload_n (q := 1) G 1 dX6_hindranceToRun_0 rfl rfl rfl ?_
  refine jv_aload_n (q := 2) G 0 dX6_hindranceToRun_1 rfl rfl rfl ?_
  refine jv_getI (q := 5) G dX6_hindranceToRun_2 fl_X6_21 rfl hu.1 hu.2.2.2.2.1 rfl ?_
  refine jv_callV_R (q := 8) (h1 := h) (As := [.int rc]) (rest := []) (ce' := 0) (sl' := 0) (r := ((m_at ts rc).map (fun k => T (10 * e + k)))) G Z ml_X6_30 (k_named hlt hE) hE.1.1 dX6_hindranceToRun_5 rfl (by decide) (by decide) (by decide) (by decide) (Nat.le_of_ble_eq_true rfl) rfl rfl rfl rfl ?_
  rcases Option.eq_none_or_eq_some (m_at ts rc) with hk3 | ⟨k1, hk3⟩
  · refine jv_topR (y := none) (by rw [hk3]; rfl) ?_
    refine jv_astore_nR (q := 9) (lo' := [(3, va_rf none), (0, .ref u), (1, .ref (z 0 e)), (2, va_rf none)]) (x := none) G dX6_hindranceToRun_8 rfl (by decide) rfl rfl ?_
    refine jv_aload_nR (q := 10) G 0 dX6_hindranceToRun_9 rfl rfl rfl ?_
    refine jv_ifnonnull (q := 13) (tgt := 15) (x := none) G dX6_hindranceToRun_10 (by decide) rfl (fun a5 c4 => ?_) (fun c4 => ?_)
    · cases c4
    · refine jv_iconst (q := 14) (v := nI 1) G dX6_hindranceToRun_13 (by decide) rfl ?_
      refine jv_iret G hr dX6_hindranceToRun_14 (Nat.le_of_ble_eq_true rfl) (Nat.le_of_ble_eq_true rfl) ?_
      refine ⟨?_, rfl⟩; unfold c_hn c_ob; first | (simp [hk3]; done) | (simp only [hk3, Option.bind_some, Option.bind_none, decide_true, decide_false, Bool.true_or, Bool.or_true, Bool.false_or, Bool.or_false, Bool.not_true, Bool.not_false, if_true, if_false, Bool.false_eq_true, reduceIte, not_true_eq_false, and_false, false_and, and_self, true_and, and_true]; done)
  · refine jv_topR (y := (some (T (10 * e + k1)))) (by rw [hk3]; rfl) ?_
    obtain ⟨t2, ht2, nt2⟩ := m_at_get hk3
    have lt2 := jv_ltGet ht2
    have k10t2 : k1 < 10 := by have := hE.2.2.2.1; omega
    have Ot2 := (hE.2.2.2.2.1 k1 t2 ht2).2
    have Vt2 := (hE.2.2.2.2.1 k1 t2 ht2).1
    have Yt2 := hE.2.1 k1 k10t2
    have bt2n := Ot2.1; have bt2k := Ot2.2.1
    refine jv_astore_n (q := 9) (lo' := [(3, .ref (T (10 * e + k1))), (0, .ref u), (1, .ref (z 0 e)), (2, va_rf none)]) G dX6_hindranceToRun_8 rfl (by decide) rfl rfl ?_
    refine jv_aload_n (q := 10) G 0 dX6_hindranceToRun_9 rfl rfl rfl ?_
    refine jv_ifnonnull (q := 13) (tgt := 15) (x := (some (T (10 * e + k1)))) G dX6_hindranceToRun_10 (by decide) rfl (fun a7 c6 => ?_) (fun c6 => ?_)
    · refine jv_aload_n (q := 16) G 0 dX6_hindranceToRun_15 rfl rfl rfl ?_
      refine jv_getZ (q := 19) G dX6_hindranceToRun_16 fl_X6_93 rfl (hE.2.1 k1 k10t2).1 (ct_1 (hE.2.2.2.2.1 k1 t2 ht2).1) rfl ?_
      refine jv_if_neB (q := 22) (tgt := 55) G dX6_hindranceToRun_19 (by decide) rfl (fun c8 => ?_) (fun c8 => ?_)
      · refine jv_bipush (q := 57) (v := nI 6) G dX6_hindranceToRun_55 (by decide) rfl ?_
        refine jv_iret G hr dX6_hindranceToRun_57 (Nat.le_of_ble_eq_true rfl) (Nat.le_of_ble_eq_true rfl) ?_
        refine ⟨?_, rfl⟩; unfold c_hn c_ob; first | (simp [c8, hk3, ht2]; done) | (simp only [c8, hk3, ht2, Option.bind_some, Option.bind_none, decide_true, decide_false, Bool.true_or, Bool.or_true, Bool.false_or, Bool.or_false, Bool.not_true, Bool.not_false, if_true, if_false, Bool.false_eq_true, reduceIte, not_true_eq_false, and_false, false_and, and_self, true_and, and_true]; done)
      · refine jv_aload_n (q := 23) G 0 dX6_hindranceToRun_22 rfl rfl rfl ?_
        refine jv_getZ (q := 26) G dX6_hindranceToRun_23 fl_X6_96 rfl (hE.2.1 k1 k10t2).1 (ct_2 (hE.2.2.2.2.1 k1 t2 ht2).1) rfl ?_
        refine jv_if_neB (q := 29) (tgt := 55) G dX6_hindranceToRun_26 (by decide) rfl (fun c9 => ?_) (fun c9 => ?_)
        · refine jv_bipush (q := 57) (v := nI 6) G dX6_hindranceToRun_55 (by decide) rfl ?_
          refine jv_iret G hr dX6_hindranceToRun_57 (Nat.le_of_ble_eq_true rfl) (Nat.le_of_ble_eq_true rfl) ?_
          refine ⟨?_, rfl⟩; unfold c_hn c_ob; first | (simp [c8, c9, hk3, ht2]; done) | (simp only [c8, c9, hk3, ht2, Option.bind_some, Option.bind_none, decide_true, decide_false, Bool.true_or, Bool.or_true, Bool.false_or, Bool.or_false, Bool.not_true, Bool.not_false, if_true, if_false, Bool.false_eq_true, reduceIte, not_true_eq_false, and_false, false_and, and_self, true_and, and_true]; done)
        · refine jv_aload_n (q := 30) G 1 dX6_hindranceToRun_29 rfl rfl rfl ?_
          refine jv_getI (q := 33) G dX6_hindranceToRun_30 fl_X6_21 rfl hu.1 hu.2.2.2.2.1 rfl ?_
          refine jv_aload_n (q := 34) G 1 dX6_hindranceToRun_33 rfl rfl rfl ?_
          refine jv_getI (q := 37) G dX6_hindranceToRun_34 fl_X6_15 rfl hu.1 hu.2.2.1 rfl ?_
          refine jv_icmp_eq (q := 40) (tgt := 58) G dX6_hindranceToRun_37 (by decide) rfl (fun c10 => ?_) (fun c10 => ?_)
          · have c10d : decide (rc = ty) = true := decide_eq_true c10
            refine jv_aload_nR (q := 59) G 3 dX6_hindranceToRun_58 rfl rfl rfl ?_
            refine jv_ifnonnull (q := 62) (tgt := 66) (x := none) G dX6_hindranceToRun_59 (by decide) rfl (fun a12 c11 => ?_) (fun c11 => ?_)
            · cases c11
            · refine jv_null (q := 63) G dX6_hindranceToRun_62 rfl ?_
              refine jv_goto (q := 75) G dX6_hindranceToRun_63 (by decide) ?_
              refine jv_astoreR (q := 77) (lo' := [(4, va_rf none), (3, .ref (T (10 * e + k1))), (0, .ref u), (1, .ref (z 0 e)), (2, va_rf none)]) (x := none) G dX6_hindranceToRun_75 (by decide) rfl rfl ?_
              refine jv_aloadR (q := 79) G 0 dX6_hindranceToRun_77 rfl rfl ?_
              refine jv_ifnull (q := 82) (tgt := 90) (x := none) G dX6_hindranceToRun_79 (by decide) rfl (fun c13 => ?_) (fun a14 c13 => ?_)
              · refine jv_iconst (q := 91) (v := nI 5) G dX6_hindranceToRun_90 (by decide) rfl ?_
                refine jv_iret G hr dX6_hindranceToRun_91 (Nat.le_of_ble_eq_true rfl) (Nat.le_of_ble_eq_true rfl) ?_
                refine ⟨?_, rfl⟩; unfold c_hn c_ob; first | (simp [c8, c9, c10d, hk3, ht2]; done) | (simp only [c8, c9, c10d, hk3, ht2, Option.bind_some, Option.bind_none, decide_true, decide_false, Bool.true_or, Bool.or_true, Bool.false_or, Bool.or_false, Bool.not_true, Bool.not_false, if_true, if_false, Bool.false_eq_true, reduceIte, not_true_eq_false, and_false, false_and, and_self, true_and, and_true]; done)
              · cases c13
          · have c10d : decide (rc = ty) = false := decide_eq_false c10
            refine jv_aload_n (q := 41) G 2 dX6_hindranceToRun_40 rfl rfl rfl ?_
            refine jv_aload_n (q := 42) G 1 dX6_hindranceToRun_41 rfl rfl rfl ?_
            refine jv_getI (q := 45) G dX6_hindranceToRun_42 fl_X6_15 rfl hu.1 hu.2.2.1 rfl ?_
            refine jv_aload_n (q := 46) G 1 dX6_hindranceToRun_45 rfl rfl rfl ?_
            refine jv_getI (q := 49) G dX6_hindranceToRun_46 fl_X6_21 rfl hu.1 hu.2.2.2.2.1 rfl ?_
            refine jv_callV_I (q := 52) (h1 := h) (As := [.int ty, .int rc]) (rest := []) (ce' := 0) (sl' := 0) (r := jv_bI (c_ha ts Us ty rc)) G Z ml_X6_109 (k_hasAbove hlt hE hU) hE.1.1 dX6_hindranceToRun_49 rfl (by decide) (by decide) (by decide) (by decide) (Nat.le_of_ble_eq_true rfl) rfl rfl rfl rfl ?_
            refine jv_if_neB (q := 55) (tgt := 58) G dX6_hindranceToRun_52 (by decide) rfl (fun c15 => ?_) (fun c15 => ?_)
            · refine jv_aload_nR (q := 59) G 3 dX6_hindranceToRun_58 rfl rfl rfl ?_
              refine jv_ifnonnull (q := 62) (tgt := 66) (x := none) G dX6_hindranceToRun_59 (by decide) rfl (fun a17 c16 => ?_) (fun c16 => ?_)
              · cases c16
              · refine jv_null (q := 63) G dX6_hindranceToRun_62 rfl ?_
                refine jv_goto (q := 75) G dX6_hindranceToRun_63 (by decide) ?_
                refine jv_astoreR (q := 77) (lo' := [(4, va_rf none), (3, .ref (T (10 * e + k1))), (0, .ref u), (1, .ref (z 0 e)), (2, va_rf none)]) (x := none) G dX6_hindranceToRun_75 (by decide) rfl rfl ?_
                refine jv_aloadR (q := 79) G 0 dX6_hindranceToRun_77 rfl rfl ?_
                refine jv_ifnull (q := 82) (tgt := 90) (x := none) G dX6_hindranceToRun_79 (by decide) rfl (fun c18 => ?_) (fun a19 c18 => ?_)
                · refine jv_iconst (q := 91) (v := nI 5) G dX6_hindranceToRun_90 (by decide) rfl ?_
                  refine jv_iret G hr dX6_hindranceToRun_91 (Nat.le_of_ble_eq_true rfl) (Nat.le_of_ble_eq_true rfl) ?_
                  refine ⟨?_, rfl⟩; unfold c_hn c_ob; first | (simp [c8, c9, c10d, c15, hk3, ht2]; done) | (simp only [c8, c9, c10d, c15, hk3, ht2, Option.bind_some, Option.bind_none, decide_true, decide_false, Bool.true_or, Bool.or_true, Bool.false_or, Bool.or_false, Bool.not_true, Bool.not_false, if_true, if_false, Bool.false_eq_true, reduceIte, not_true_eq_false, and_false, false_and, and_self, true_and, and_true]; done)
                · cases c18
            · refine jv_bipush (q := 57) (v := nI 6) G dX6_hindranceToRun_55 (by decide) rfl ?_
              refine jv_iret G hr dX6_hindranceToRun_57 (Nat.le_of_ble_eq_true rfl) (Nat.le_of_ble_eq_true rfl) ?_
              refine ⟨?_, rfl⟩; unfold c_hn c_ob; first | (simp [c8, c9, c10d, c15, hk3, ht2]; done) | (simp only [c8, c9, c10d, c15, hk3, ht2, Option.bind_some, Option.bind_none, decide_true, decide_false, Bool.true_or, Bool.or_true, Bool.false_or, Bool.or_false, Bool.not_true, Bool.not_false, if_true, if_false, Bool.false_eq_true, reduceIte, not_true_eq_false, and_false, false_and, and_self, true_and, and_true]; done)
    · cases c6
set_option maxHeartbeats 4000000 in
set_option maxRecDepth 100000 in
theorem k_run1 {lA : Launch} (hlt : lA.stackTraces = false) {D : jv_D} {base : Nat} {z : Nat → Nat → Nat} {T : Nat → Nat} {N : Nat → Nat → Nat} {h : jv_H} {e : Nat} {ts : List mT} (hE : cv_E z T N h e ts) {Us : Nat → List Nat} (hU : cv_Us z T h e ts Us) {u kd : Nat} {ty rc cv ow : Int32} {ko : Option Nat} (hu : cv_use h u kd ty ko rc cv ow) (hkd : kd < 6) (hK : ∀ K, ko = some K → K < 64) {k0 : Nat} {t0 : mT} (ht0 : ts[k0]? = some t0) : jv_Met lA D base yX6_hindranceToRun (.code yX6_hindranceToRun cX6_hindranceToRun 5 (some .int)) 3 0 0 [.ref u, .ref (z 0 e), .ref (T (10 * e + k0))] h (jv_rI (nI (c_hn ts Us kd ty rc ko (some k0))) h) jv_no := by
  refine jv_ofV (lo := [(0, .ref u), (1, .ref (z 0 e)), (2, .ref (T (10 * e + k0)))]) hlt (by decide) (Nat.le_of_ble_eq_true rfl) rfl (fun E hEl hEd hEz Z G hr ht hnm => ?_)
  subst hEl; subst hEd; subst hEz
  have lt0 := jv_ltGet ht0
  have k10t0 : k0 < 10 := by have := hE.2.2.2.1; omega
  have Ot0 := (hE.2.2.2.2.1 k0 t0 ht0).2
  have Vt0 := (hE.2.2.2.2.1 k0 t0 ht0).1
  have Yt0 := hE.2.1 k0 k10t0
  have bt0n := Ot0.1; have bt0k := Ot0.2.1
  refine jv_aload_n (q := 1) G 1 dX6_hindranceToRun_0 rfl rfl rfl ?_
  refine jv_aload_n (q := 2) G 0 dX6_hindranceToRun_1 rfl rfl rfl ?_
  refine jv_getI (q := 5) G dX6_hindranceToRun_2 fl_X6_21 rfl hu.1 hu.2.2.2.2.1 rfl ?_
  refine jv_callV_R (q := 8) (h1 := h) (As := [.int rc]) (rest := []) (ce' := 0) (sl' := 0) (r := ((m_at ts rc).map (fun k => T (10 * e + k)))) G Z ml_X6_30 (k_named hlt hE) hE.1.1 dX6_hindranceToRun_5 rfl (by decide) (by decide) (by decide) (by decide) (Nat.le_of_ble_eq_true rfl) rfl rfl rfl rfl ?_
  rcases Option.eq_none_or_eq_some (m_at ts rc) with hk3 | ⟨k1, hk3⟩
  · refine jv_topR (y := none) (by rw [hk3]; rfl) ?_
    refine jv_astore_nR (q := 9) (lo' := [(3, va_rf none), (0, .ref u), (1, .ref (z 0 e)), (2, .ref (T (10 * e + k0)))]) (x := none) G dX6_hindranceToRun_8 rfl (by decide) rfl rfl ?_
    refine jv_aload_nR (q := 10) G 0 dX6_hindranceToRun_9 rfl rfl rfl ?_
    refine jv_ifnonnull (q := 13) (tgt := 15) (x := none) G dX6_hindranceToRun_10 (by decide) rfl (fun a5 c4 => ?_) (fun c4 => ?_)
    · cases c4
    · refine jv_iconst (q := 14) (v := nI 1) G dX6_hindranceToRun_13 (by decide) rfl ?_
      refine jv_iret G hr dX6_hindranceToRun_14 (Nat.le_of_ble_eq_true rfl) (Nat.le_of_ble_eq_true rfl) ?_
      refine ⟨?_, rfl⟩; unfold c_hn c_ob; first | (simp [hk3, ht0]; done) | (simp only [hk3, ht0, Option.bind_some, Option.bind_none, decide_true, decide_false, Bool.true_or, Bool.or_true, Bool.false_or, Bool.or_false, Bool.not_true, Bool.not_false, if_true, if_false, Bool.false_eq_true, reduceIte, not_true_eq_false, and_false, false_and, and_self, true_and, and_true]; done)
  · refine jv_topR (y := (some (T (10 * e + k1)))) (by rw [hk3]; rfl) ?_
    obtain ⟨t2, ht2, nt2⟩ := m_at_get hk3
    have lt2 := jv_ltGet ht2
    have k10t2 : k1 < 10 := by have := hE.2.2.2.1; omega
    have Ot2 := (hE.2.2.2.2.1 k1 t2 ht2).2
    have Vt2 := (hE.2.2.2.2.1 k1 t2 ht2).1
    have Yt2 := hE.2.1 k1 k10t2
    have bt2n := Ot2.1; have bt2k := Ot2.2.1
    refine jv_astore_n (q := 9) (lo' := [(3, .ref (T (10 * e + k1))), (0, .ref u), (1, .ref (z 0 e)), (2, .ref (T (10 * e + k0)))]) G dX6_hindranceToRun_8 rfl (by decide) rfl rfl ?_
    refine jv_aload_n (q := 10) G 0 dX6_hindranceToRun_9 rfl rfl rfl ?_
    refine jv_ifnonnull (q := 13) (tgt := 15) (x := (some (T (10 * e + k1)))) G dX6_hindranceToRun_10 (by decide) rfl (fun a7 c6 => ?_) (fun c6 => ?_)
    · refine jv_aload_n (q := 16) G 0 dX6_hindranceToRun_15 rfl rfl rfl ?_
      refine jv_getZ (q := 19) G dX6_hindranceToRun_16 fl_X6_93 rfl (hE.2.1 k1 k10t2).1 (ct_1 (hE.2.2.2.2.1 k1 t2 ht2).1) rfl ?_
      refine jv_if_neB (q := 22) (tgt := 55) G dX6_hindranceToRun_19 (by decide) rfl (fun c8 => ?_) (fun c8 => ?_)
      · refine jv_bipush (q := 57) (v := nI 6) G dX6_hindranceToRun_55 (by decide) rfl ?_
        refine jv_iret G hr dX6_hindranceToRun_57 (Nat.le_of_ble_eq_true rfl) (Nat.le_of_ble_eq_true rfl) ?_
        refine ⟨?_, rfl⟩; unfold c_hn c_ob; first | (simp [c8, hk3, ht2, ht0]; done) | (simp only [c8, hk3, ht2, ht0, Option.bind_some, Option.bind_none, decide_true, decide_false, Bool.true_or, Bool.or_true, Bool.false_or, Bool.or_false, Bool.not_true, Bool.not_false, if_true, if_false, Bool.false_eq_true, reduceIte, not_true_eq_false, and_false, false_and, and_self, true_and, and_true]; done)
      · refine jv_aload_n (q := 23) G 0 dX6_hindranceToRun_22 rfl rfl rfl ?_
        refine jv_getZ (q := 26) G dX6_hindranceToRun_23 fl_X6_96 rfl (hE.2.1 k1 k10t2).1 (ct_2 (hE.2.2.2.2.1 k1 t2 ht2).1) rfl ?_
        refine jv_if_neB (q := 29) (tgt := 55) G dX6_hindranceToRun_26 (by decide) rfl (fun c9 => ?_) (fun c9 => ?_)
        · refine jv_bipush (q := 57) (v := nI 6) G dX6_hindranceToRun_55 (by decide) rfl ?_
          refine jv_iret G hr dX6_hindranceToRun_57 (Nat.le_of_ble_eq_true rfl) (Nat.le_of_ble_eq_true rfl) ?_
          refine ⟨?_, rfl⟩; unfold c_hn c_ob; first | (simp [c8, c9, hk3, ht2, ht0]; done) | (simp only [c8, c9, hk3, ht2, ht0, Option.bind_some, Option.bind_none, decide_true, decide_false, Bool.true_or, Bool.or_true, Bool.false_or, Bool.or_false, Bool.not_true, Bool.not_false, if_true, if_false, Bool.false_eq_true, reduceIte, not_true_eq_false, and_false, false_and, and_self, true_and, and_true]; done)
        · refine jv_aload_n (q := 30) G 1 dX6_hindranceToRun_29 rfl rfl rfl ?_
          refine jv_getI (q := 33) G dX6_hindranceToRun_30 fl_X6_21 rfl hu.1 hu.2.2.2.2.1 rfl ?_
          refine jv_aload_n (q := 34) G 1 dX6_hindranceToRun_33 rfl rfl rfl ?_
          refine jv_getI (q := 37) G dX6_hindranceToRun_34 fl_X6_15 rfl hu.1 hu.2.2.1 rfl ?_
          refine jv_icmp_eq (q := 40) (tgt := 58) G dX6_hindranceToRun_37 (by decide) rfl (fun c10 => ?_) (fun c10 => ?_)
          · have c10d : decide (rc = ty) = true := decide_eq_true c10
            refine jv_aload_n (q := 59) G 3 dX6_hindranceToRun_58 rfl rfl rfl ?_
            refine jv_ifnonnull (q := 62) (tgt := 66) (x := (some (T (10 * e + k0)))) G dX6_hindranceToRun_59 (by decide) rfl (fun a12 c11 => ?_) (fun c11 => ?_)
            · refine jv_aload_n (q := 67) G 3 dX6_hindranceToRun_66 rfl rfl rfl ?_
              refine jv_iconst (q := 68) (v := nI 1) G dX6_hindranceToRun_67 (by decide) rfl ?_
              refine jv_aload_n (q := 69) G 1 dX6_hindranceToRun_68 rfl rfl rfl ?_
              refine jv_getI (q := 72) G dX6_hindranceToRun_69 fl_X6_18 rfl hu.1 hu.2.2.2.1 rfl ?_
              refine jv_callV_R (q := 75) (h1 := h) (As := [.int (nI 1), .int (jv_oN ko)]) (rest := []) (ce' := 0) (sl' := 0) (r := ((m_oc t0 true ko).map (N (T (10 * e + k0))))) G Z ml_X6_69 (k_own (w := true) (ko := ko) hlt Yt0 Vt0 Ot0 hK) (hE.2.1 k0 k10t0).1 dX6_hindranceToRun_72 rfl (by decide) (by decide) (by decide) (by decide) (Nat.le_of_ble_eq_true rfl) rfl rfl rfl rfl ?_
              rcases Option.eq_none_or_eq_some (m_oc t0 true ko) with hj15 | ⟨j13, hj15⟩
              · refine jv_topR (y := none) (by rw [hj15]; rfl) ?_
                refine jv_astoreR (q := 77) (lo' := [(4, va_rf none), (3, .ref (T (10 * e + k1))), (0, .ref u), (1, .ref (z 0 e)), (2, .ref (T (10 * e + k0)))]) (x := none) G dX6_hindranceToRun_75 (by decide) rfl rfl ?_
                refine jv_aloadR (q := 79) G 0 dX6_hindranceToRun_77 rfl rfl ?_
                refine jv_ifnull (q := 82) (tgt := 90) (x := none) G dX6_hindranceToRun_79 (by decide) rfl (fun c16 => ?_) (fun a17 c16 => ?_)
                · refine jv_iconst (q := 91) (v := nI 5) G dX6_hindranceToRun_90 (by decide) rfl ?_
                  refine jv_iret G hr dX6_hindranceToRun_91 (Nat.le_of_ble_eq_true rfl) (Nat.le_of_ble_eq_true rfl) ?_
                  refine ⟨?_, rfl⟩; unfold c_hn c_ob; first | (simp [c8, c9, c10d, hk3, ht2, om_n hj15, ht0]; done) | (simp only [c8, c9, c10d, hk3, ht2, om_n hj15, ht0, Option.bind_some, Option.bind_none, decide_true, decide_false, Bool.true_or, Bool.or_true, Bool.false_or, Bool.or_false, Bool.not_true, Bool.not_false, if_true, if_false, Bool.false_eq_true, reduceIte, not_true_eq_false, and_false, false_and, and_self, true_and, and_true]; done)
                · cases c16
              · refine jv_topR (y := (some (N (T (10 * e + k0)) j13))) (by rw [hj15]; rfl) ?_
                obtain ⟨m14, hm14, wm14, km14⟩ := oc_some hj15
                have lm14 := jv_ltGet hm14
                have Om14 := Ot0.2.2.2.2.2.2 m14 (List.mem_of_getElem? hm14)
                have Vm14 := ct_m Vt0 hm14
                have j6m14 : j13 < 6 := by have := Ot0.2.2.2.2.2.1; omega
                have bm14a := Om14.2.2.1
                refine jv_astore (q := 77) (lo' := [(4, .ref (N (T (10 * e + k0)) j13)), (3, .ref (T (10 * e + k1))), (0, .ref u), (1, .ref (z 0 e)), (2, .ref (T (10 * e + k0)))]) G dX6_hindranceToRun_75 (by decide) rfl rfl ?_
                refine jv_aload (q := 79) G 0 dX6_hindranceToRun_77 rfl rfl ?_
                refine jv_ifnull (q := 82) (tgt := 90) (x := (some (N (T (10 * e + k0)) j13))) G dX6_hindranceToRun_79 (by decide) rfl (fun c18 => ?_) (fun a19 c18 => ?_)
                · cases c18
                · refine jv_aload (q := 84) G 0 dX6_hindranceToRun_82 rfl rfl ?_
                  refine jv_callV_I (q := 87) (h1 := h) (As := []) (rest := []) (ce' := 0) (sl' := 0) (r := jv_bI (m_abs m14)) G Z ml_X6_113 (k_isAbstract hlt (Yt0.2.2.2.2.2.2.2 j13 j6m14).2 Vm14) (Yt0.2.2.2.2.2.2.2 j13 j6m14).2 dX6_hindranceToRun_84 rfl (by decide) (by decide) (by decide) (by decide) (Nat.le_of_ble_eq_true rfl) rfl rfl rfl rfl ?_
                  refine jv_if_eqB (q := 90) (tgt := 92) G dX6_hindranceToRun_87 (by decide) rfl (fun c20 => ?_) (fun c20 => ?_)
                  · refine jv_aload_n (q := 93) G 2 dX6_hindranceToRun_92 rfl rfl rfl ?_
                    refine jv_getI (q := 96) G dX6_hindranceToRun_93 fl_X6_9 rfl hu.1 hu.2.1 rfl ?_
                    refine jv_iconst (q := 97) (v := nI 4) G dX6_hindranceToRun_96 (by decide) rfl ?_
                    refine jv_icmp_neN (q := 100) (tgt := 113) G dX6_hindranceToRun_97 (by decide) rfl (by omega) (by omega) (fun c21 => ?_) (fun c21 => ?_)
                    · refine jv_iconst (q := 114) (v := nI 0) G dX6_hindranceToRun_113 (by decide) rfl ?_
                      refine jv_iret G hr dX6_hindranceToRun_114 (Nat.le_of_ble_eq_true rfl) (Nat.le_of_ble_eq_true rfl) ?_
                      refine ⟨?_, rfl⟩; unfold c_hn c_ob; first | (simp [c8, c9, c10d, c20, c21, hk3, ht2, om_s hj15 hm14, ht0]; done) | (simp only [c8, c9, c10d, c20, c21, hk3, ht2, om_s hj15 hm14, ht0, Option.bind_some, Option.bind_none, decide_true, decide_false, Bool.true_or, Bool.or_true, Bool.false_or, Bool.or_false, Bool.not_true, Bool.not_false, if_true, if_false, Bool.false_eq_true, reduceIte, not_true_eq_false, and_false, false_and, and_self, true_and, and_true]; done)
                    · subst c21
                      refine jv_aload (q := 102) G 0 dX6_hindranceToRun_100 rfl rfl ?_
                      refine jv_getI (q := 105) G dX6_hindranceToRun_102 fl_X6_115 rfl (Yt0.2.2.2.2.2.2.2 j13 j6m14).2 Vm14.2.2.2.2.1 rfl ?_
                      refine jv_iconst (q := 106) (v := nI 3) G dX6_hindranceToRun_105 (by decide) rfl ?_
                      refine jv_icmp_eqN (q := 109) (tgt := 113) G dX6_hindranceToRun_106 (by decide) rfl (by omega) (by omega) (fun c22 => ?_) (fun c22 => ?_)
                      · refine jv_iconst (q := 114) (v := nI 0) G dX6_hindranceToRun_113 (by decide) rfl ?_
                        refine jv_iret G hr dX6_hindranceToRun_114 (Nat.le_of_ble_eq_true rfl) (Nat.le_of_ble_eq_true rfl) ?_
                        refine ⟨?_, rfl⟩; unfold c_hn c_ob; first | (simp [c8, c9, c10d, c20, c22, hk3, ht2, om_s hj15 hm14, ht0]; done) | (simp only [c8, c9, c10d, c20, c22, hk3, ht2, om_s hj15 hm14, ht0, Option.bind_some, Option.bind_none, decide_true, decide_false, Bool.true_or, Bool.or_true, Bool.false_or, Bool.or_false, Bool.not_true, Bool.not_false, if_true, if_false, Bool.false_eq_true, reduceIte, not_true_eq_false, and_false, false_and, and_self, true_and, and_true]; done)
                      · refine jv_iconst (q := 110) (v := nI 3) G dX6_hindranceToRun_109 (by decide) rfl ?_
                        refine jv_goto (q := 114) G dX6_hindranceToRun_110 (by decide) ?_
                        refine jv_iret G hr dX6_hindranceToRun_114 (Nat.le_of_ble_eq_true rfl) (Nat.le_of_ble_eq_true rfl) ?_
                        refine ⟨?_, rfl⟩; unfold c_hn c_ob; first | (simp [c8, c9, c10d, c20, c22, hk3, ht2, om_s hj15 hm14, ht0]; done) | (simp only [c8, c9, c10d, c20, c22, hk3, ht2, om_s hj15 hm14, ht0, Option.bind_some, Option.bind_none, decide_true, decide_false, Bool.true_or, Bool.or_true, Bool.false_or, Bool.or_false, Bool.not_true, Bool.not_false, if_true, if_false, Bool.false_eq_true, reduceIte, not_true_eq_false, and_false, false_and, and_self, true_and, and_true]; done)
                  · refine jv_iconst (q := 91) (v := nI 5) G dX6_hindranceToRun_90 (by decide) rfl ?_
                    refine jv_iret G hr dX6_hindranceToRun_91 (Nat.le_of_ble_eq_true rfl) (Nat.le_of_ble_eq_true rfl) ?_
                    refine ⟨?_, rfl⟩; unfold c_hn c_ob; first | (simp [c8, c9, c10d, c20, hk3, ht2, om_s hj15 hm14, ht0]; done) | (simp only [c8, c9, c10d, c20, hk3, ht2, om_s hj15 hm14, ht0, Option.bind_some, Option.bind_none, decide_true, decide_false, Bool.true_or, Bool.or_true, Bool.false_or, Bool.or_false, Bool.not_true, Bool.not_false, if_true, if_false, Bool.false_eq_true, reduceIte, not_true_eq_false, and_false, false_and, and_self, true_and, and_true]; done)
            · cases c11
          · have c10d : decide (rc = ty) = false := decide_eq_false c10
            refine jv_aload_n (q := 41) G 2 dX6_hindranceToRun_40 rfl rfl rfl ?_
            refine jv_aload_n (q := 42) G 1 dX6_hindranceToRun_41 rfl rfl rfl ?_
            refine jv_getI (q := 45) G dX6_hindranceToRun_42 fl_X6_15 rfl hu.1 hu.2.2.1 rfl ?_
            refine jv_aload_n (q := 46) G 1 dX6_hindranceToRun_45 rfl rfl rfl ?_
            refine jv_getI (q := 49) G dX6_hindranceToRun_46 fl_X6_21 rfl hu.1 hu.2.2.2.2.1 rfl ?_
            refine jv_callV_I (q := 52) (h1 := h) (As := [.int ty, .int rc]) (rest := []) (ce' := 0) (sl' := 0) (r := jv_bI (c_ha ts Us ty rc)) G Z ml_X6_109 (k_hasAbove hlt hE hU) hE.1.1 dX6_hindranceToRun_49 rfl (by decide) (by decide) (by decide) (by decide) (Nat.le_of_ble_eq_true rfl) rfl rfl rfl rfl ?_
            refine jv_if_neB (q := 55) (tgt := 58) G dX6_hindranceToRun_52 (by decide) rfl (fun c23 => ?_) (fun c23 => ?_)
            · refine jv_aload_n (q := 59) G 3 dX6_hindranceToRun_58 rfl rfl rfl ?_
              refine jv_ifnonnull (q := 62) (tgt := 66) (x := (some (T (10 * e + k0)))) G dX6_hindranceToRun_59 (by decide) rfl (fun a25 c24 => ?_) (fun c24 => ?_)
              · refine jv_aload_n (q := 67) G 3 dX6_hindranceToRun_66 rfl rfl rfl ?_
                refine jv_iconst (q := 68) (v := nI 1) G dX6_hindranceToRun_67 (by decide) rfl ?_
                refine jv_aload_n (q := 69) G 1 dX6_hindranceToRun_68 rfl rfl rfl ?_
                refine jv_getI (q := 72) G dX6_hindranceToRun_69 fl_X6_18 rfl hu.1 hu.2.2.2.1 rfl ?_
                refine jv_callV_R (q := 75) (h1 := h) (As := [.int (nI 1), .int (jv_oN ko)]) (rest := []) (ce' := 0) (sl' := 0) (r := ((m_oc t0 true ko).map (N (T (10 * e + k0))))) G Z ml_X6_69 (k_own (w := true) (ko := ko) hlt Yt0 Vt0 Ot0 hK) (hE.2.1 k0 k10t0).1 dX6_hindranceToRun_72 rfl (by decide) (by decide) (by decide) (by decide) (Nat.le_of_ble_eq_true rfl) rfl rfl rfl rfl ?_
                rcases Option.eq_none_or_eq_some (m_oc t0 true ko) with hj28 | ⟨j26, hj28⟩
                · refine jv_topR (y := none) (by rw [hj28]; rfl) ?_
                  refine jv_astoreR (q := 77) (lo' := [(4, va_rf none), (3, .ref (T (10 * e + k1))), (0, .ref u), (1, .ref (z 0 e)), (2, .ref (T (10 * e + k0)))]) (x := none) G dX6_hindranceToRun_75 (by decide) rfl rfl ?_
                  refine jv_aloadR (q := 79) G 0 dX6_hindranceToRun_77 rfl rfl ?_
                  refine jv_ifnull (q := 82) (tgt := 90) (x := none) G dX6_hindranceToRun_79 (by decide) rfl (fun c29 => ?_) (fun a30 c29 => ?_)
                  · refine jv_iconst (q := 91) (v := nI 5) G dX6_hindranceToRun_90 (by decide) rfl ?_
                    refine jv_iret G hr dX6_hindranceToRun_91 (Nat.le_of_ble_eq_true rfl) (Nat.le_of_ble_eq_true rfl) ?_
                    refine ⟨?_, rfl⟩; unfold c_hn c_ob; first | (simp [c8, c9, c10d, c23, hk3, ht2, om_n hj28, ht0]; done) | (simp only [c8, c9, c10d, c23, hk3, ht2, om_n hj28, ht0, Option.bind_some, Option.bind_none, decide_true, decide_false, Bool.true_or, Bool.or_true, Bool.false_or, Bool.or_false, Bool.not_true, Bool.not_false, if_true, if_false, Bool.false_eq_true, reduceIte, not_true_eq_false, and_false, false_and, and_self, true_and, and_true]; done)
                  · cases c29
                · refine jv_topR (y := (some (N (T (10 * e + k0)) j26))) (by rw [hj28]; rfl) ?_
                  obtain ⟨m27, hm27, wm27, km27⟩ := oc_some hj28
                  have lm27 := jv_ltGet hm27
                  have Om27 := Ot0.2.2.2.2.2.2 m27 (List.mem_of_getElem? hm27)
                  have Vm27 := ct_m Vt0 hm27
                  have j6m27 : j26 < 6 := by have := Ot0.2.2.2.2.2.1; omega
                  have bm27a := Om27.2.2.1
                  refine jv_astore (q := 77) (lo' := [(4, .ref (N (T (10 * e + k0)) j26)), (3, .ref (T (10 * e + k1))), (0, .ref u), (1, .ref (z 0 e)), (2, .ref (T (10 * e + k0)))]) G dX6_hindranceToRun_75 (by decide) rfl rfl ?_
                  refine jv_aload (q := 79) G 0 dX6_hindranceToRun_77 rfl rfl ?_
                  refine jv_ifnull (q := 82) (tgt := 90) (x := (some (N (T (10 * e + k0)) j26))) G dX6_hindranceToRun_79 (by decide) rfl (fun c31 => ?_) (fun a32 c31 => ?_)
                  · cases c31
                  · refine jv_aload (q := 84) G 0 dX6_hindranceToRun_82 rfl rfl ?_
                    refine jv_callV_I (q := 87) (h1 := h) (As := []) (rest := []) (ce' := 0) (sl' := 0) (r := jv_bI (m_abs m27)) G Z ml_X6_113 (k_isAbstract hlt (Yt0.2.2.2.2.2.2.2 j26 j6m27).2 Vm27) (Yt0.2.2.2.2.2.2.2 j26 j6m27).2 dX6_hindranceToRun_84 rfl (by decide) (by decide) (by decide) (by decide) (Nat.le_of_ble_eq_true rfl) rfl rfl rfl rfl ?_
                    refine jv_if_eqB (q := 90) (tgt := 92) G dX6_hindranceToRun_87 (by decide) rfl (fun c33 => ?_) (fun c33 => ?_)
                    · refine jv_aload_n (q := 93) G 2 dX6_hindranceToRun_92 rfl rfl rfl ?_
                      refine jv_getI (q := 96) G dX6_hindranceToRun_93 fl_X6_9 rfl hu.1 hu.2.1 rfl ?_
                      refine jv_iconst (q := 97) (v := nI 4) G dX6_hindranceToRun_96 (by decide) rfl ?_
                      refine jv_icmp_neN (q := 100) (tgt := 113) G dX6_hindranceToRun_97 (by decide) rfl (by omega) (by omega) (fun c34 => ?_) (fun c34 => ?_)
                      · refine jv_iconst (q := 114) (v := nI 0) G dX6_hindranceToRun_113 (by decide) rfl ?_
                        refine jv_iret G hr dX6_hindranceToRun_114 (Nat.le_of_ble_eq_true rfl) (Nat.le_of_ble_eq_true rfl) ?_
                        refine ⟨?_, rfl⟩; unfold c_hn c_ob; first | (simp [c8, c9, c10d, c23, c33, c34, hk3, ht2, om_s hj28 hm27, ht0]; done) | (simp only [c8, c9, c10d, c23, c33, c34, hk3, ht2, om_s hj28 hm27, ht0, Option.bind_some, Option.bind_none, decide_true, decide_false, Bool.true_or, Bool.or_true, Bool.false_or, Bool.or_false, Bool.not_true, Bool.not_false, if_true, if_false, Bool.false_eq_true, reduceIte, not_true_eq_false, and_false, false_and, and_self, true_and, and_true]; done)
                      · subst c34
                        refine jv_aload (q := 102) G 0 dX6_hindranceToRun_100 rfl rfl ?_
                        refine jv_getI (q := 105) G dX6_hindranceToRun_102 fl_X6_115 rfl (Yt0.2.2.2.2.2.2.2 j26 j6m27).2 Vm27.2.2.2.2.1 rfl ?_
                        refine jv_iconst (q := 106) (v := nI 3) G dX6_hindranceToRun_105 (by decide) rfl ?_
                        refine jv_icmp_eqN (q := 109) (tgt := 113) G dX6_hindranceToRun_106 (by decide) rfl (by omega) (by omega) (fun c35 => ?_) (fun c35 => ?_)
                        · refine jv_iconst (q := 114) (v := nI 0) G dX6_hindranceToRun_113 (by decide) rfl ?_
                          refine jv_iret G hr dX6_hindranceToRun_114 (Nat.le_of_ble_eq_true rfl) (Nat.le_of_ble_eq_true rfl) ?_
                          refine ⟨?_, rfl⟩; unfold c_hn c_ob; first | (simp [c8, c9, c10d, c23, c33, c35, hk3, ht2, om_s hj28 hm27, ht0]; done) | (simp only [c8, c9, c10d, c23, c33, c35, hk3, ht2, om_s hj28 hm27, ht0, Option.bind_some, Option.bind_none, decide_true, decide_false, Bool.true_or, Bool.or_true, Bool.false_or, Bool.or_false, Bool.not_true, Bool.not_false, if_true, if_false, Bool.false_eq_true, reduceIte, not_true_eq_false, and_false, false_and, and_self, true_and, and_true]; done)
                        · refine jv_iconst (q := 110) (v := nI 3) G dX6_hindranceToRun_109 (by decide) rfl ?_
                          refine jv_goto (q := 114) G dX6_hindranceToRun_110 (by decide) ?_
                          refine jv_iret G hr dX6_hindranceToRun_114 (Nat.le_of_ble_eq_true rfl) (Nat.le_of_ble_eq_true rfl) ?_
                          refine ⟨?_, rfl⟩; unfold c_hn c_ob; first | (simp [c8, c9, c10d, c23, c33, c35, hk3, ht2, om_s hj28 hm27, ht0]; done) | (simp only [c8, c9, c10d, c23, c33, c35, hk3, ht2, om_s hj28 hm27, ht0, Option.bind_some, Option.bind_none, decide_true, decide_false, Bool.true_or, Bool.or_true, Bool.false_or, Bool.or_false, Bool.not_true, Bool.not_false, if_true, if_false, Bool.false_eq_true, reduceIte, not_true_eq_false, and_false, false_and, and_self, true_and, and_true]; done)
                    · refine jv_iconst (q := 91) (v := nI 5) G dX6_hindranceToRun_90 (by decide) rfl ?_
                      refine jv_iret G hr dX6_hindranceToRun_91 (Nat.le_of_ble_eq_true rfl) (Nat.le_of_ble_eq_true rfl) ?_
                      refine ⟨?_, rfl⟩; unfold c_hn c_ob; first | (simp [c8, c9, c10d, c23, c33, hk3, ht2, om_s hj28 hm27, ht0]; done) | (simp only [c8, c9, c10d, c23, c33, hk3, ht2, om_s hj28 hm27, ht0, Option.bind_some, Option.bind_none, decide_true, decide_false, Bool.true_or, Bool.or_true, Bool.false_or, Bool.or_false, Bool.not_true, Bool.not_false, if_true, if_false, Bool.false_eq_true, reduceIte, not_true_eq_false, and_false, false_and, and_self, true_and, and_true]; done)
              · cases c24
            · refine jv_bipush (q := 57) (v := nI 6) G dX6_hindranceToRun_55 (by decide) rfl ?_
              refine jv_iret G hr dX6_hindranceToRun_57 (Nat.le_of_ble_eq_true rfl) (Nat.le_of_ble_eq_true rfl) ?_
              refine ⟨?_, rfl⟩; unfold c_hn c_ob; first | (simp [c8, c9, c10d, c23, hk3, ht2, ht0]; done) | (simp only [c8, c9, c10d, c23, hk3, ht2, ht0, Option.bind_some, Option.bind_none, decide_true, decide_false, Bool.true_or, Bool.or_true, Bool.false_or, Bool.or_false, Bool.not_true, Bool.not_false, if_true, if_false, Bool.false_eq_true, reduceIte, not_true_eq_false, and_false, false_and, and_self, true_and, and_true]; done)
    · cases c6
