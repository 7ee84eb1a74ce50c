set_option maxHeartbeats 4000000 in
set_option maxRecDepth 100000 in
theorem k_hof_loop {E : jv_E} {z : Nat → Nat → Nat} {T : Nat → Nat} {N : Nat → Nat → Nat} {h : jv_H} {e : Nat} {ts : List mT} (hE : cv_E z T N h e ts) {Us : Nat → List Nat} (hU : cv_Us z T h e ts Us) {k0 : Nat} {t0 : mT} (ht0 : ts[k0]? = some t0) {ko : Option Nat} (hK : ∀ K, ko = some K → K < 64) (hlt : (jv_l E).stackTraces = false) (G : jv_C E cX2_holderOfField RX2 5) (Z : jv_rm E = jv_room 2 0 0) (hr : (jv_mt E).sig.returnType = (some (.object "LinkArchive$Type"))) : ∀ (n i : Nat), i + n = (Us k0).length → c_hf ts Us k0 ko = ((Us k0).drop i).findSome? (c_hl ts ko) → jv_V E 5 h 0 0 (jv_Q E (jv_rR ((c_hf ts Us k0 ko).map (fun k => T (10 * e + k))) h) jv_no 0 0) 13 [(3, .int (nI i)), (0, .ref (z 0 e)), (1, .ref (T (10 * e + k0))), (2, .int (jv_oN ko))] [] := by
  intro n
  induction n with
  | zero =>
    intro i hn hc
    have lt0 := jv_ltGet ht0
    have k10t0 : k0 < 10 := by have := hE.2.2.2.1; omega
    have Ot0 := (hE.2.2.2.2.1 k0 t0 ht0).2
    have Vt0 := (hE.2.2.2.2.1 k0 t0 ht0).1
    have Yt0 := hE.2.1 k0 k10t0
    have bt0n := Ot0.1; have bt0k := Ot0.2.1
    have Ut0 := hU k0 lt0
    have umt0 := um_lt Ut0.2.2
    have ult0 := Ut0.2.1
    refine jv_iload_n (q := 14) G 0 dX2_holderOfField_13 rfl rfl rfl ?_
    refine jv_aload_n (q := 15) G 2 dX2_holderOfField_14 rfl rfl rfl ?_
    refine jv_getI (q := 18) G dX2_holderOfField_15 fl_X2_111 rfl (hE.2.1 k0 k10t0).1 Ut0.1.1 rfl ?_
    refine jv_icmp_geN (q := 21) (tgt := 57) G dX2_holderOfField_18 (by decide) rfl (by omega) (by omega) (fun c1 => ?_) (fun c1 => ?_)
    · refine jv_null (q := 58) G dX2_holderOfField_57 rfl ?_
      refine jv_aretN G hr dX2_holderOfField_58 (Nat.le_of_ble_eq_true rfl) (Nat.le_of_ble_eq_true rfl) ?_
      refine ⟨?_, rfl⟩; rw [hc, List.drop_eq_nil_of_le (by omega)]; rfl
    · omega
  | succ n ih =>
    intro i hn hc
    have lt0 := jv_ltGet ht0
    have k10t0 : k0 < 10 := by have := hE.2.2.2.1; omega
    have Ot0 := (hE.2.2.2.2.1 k0 t0 ht0).2
    have Vt0 := (hE.2.2.2.2.1 k0 t0 ht0).1
    have Yt0 := hE.2.1 k0 k10t0
    have bt0n := Ot0.1; have bt0k := Ot0.2.1
    have Ut0 := hU k0 lt0
    have umt0 := um_lt Ut0.2.2
    have ult0 := Ut0.2.1
    obtain ⟨v, hv⟩ := jv_getLt (l := Us k0) (k := i) (by omega)
    have hf := Ut0.1.2.2 i v hv
    rw [drop_get hv, List.findSome?_cons] at hc
    refine jv_iload_n (q := 14) G 0 dX2_holderOfField_13 rfl rfl rfl ?_
    refine jv_aload_n (q := 15) G 2 dX2_holderOfField_14 rfl rfl rfl ?_
    refine jv_getI (q := 18) G dX2_holderOfField_15 fl_X2_111 rfl (hE.2.1 k0 k10t0).1 Ut0.1.1 rfl ?_
    refine jv_icmp_geN (q := 21) (tgt := 57) G dX2_holderOfField_18 (by decide) rfl (by omega) (by omega) (fun c1 => ?_) (fun c1 => ?_)
    · omega
    · refine jv_aload_n (q := 22) G 1 dX2_holderOfField_21 rfl rfl rfl ?_
      refine jv_aload_n (q := 23) G 2 dX2_holderOfField_22 rfl rfl rfl ?_
      refine jv_getQ (q := 26) G dX2_holderOfField_23 fl_X2_114 rfl (hE.2.1 k0 k10t0).1 (hE.2.1 k0 k10t0).2.2.2.2.2.1 rfl ?_
      refine jv_iload_n (q := 27) G 0 dX2_holderOfField_26 rfl rfl rfl ?_
      refine jv_iald (q := 28) G dX2_holderOfField_27 (hE.2.1 k0 k10t0).2.2.2.2.2.2.1 rfl (by omega) (by decide) hf rfl ?_
      refine jv_callV_R (q := 31) (h1 := h) (As := [.int (nI v)]) (rest := []) (ce' := 0) (sl' := 0) (r := ((m_at ts (nI v)).map (fun k => T (10 * e + k)))) G Z ml_X2_25 (k_named hlt hE) hE.1.1 dX2_holderOfField_28 rfl (by decide) (by decide) (by decide) (by decide) (Nat.le_of_ble_eq_true rfl) rfl rfl rfl rfl ?_
      rcases Option.eq_none_or_eq_some (m_at ts (nI v)) with hk4 | ⟨k2, hk4⟩
      · refine jv_topR (y := none) (by rw [hk4]; rfl) ?_
        refine jv_astoreR (q := 33) (lo' := [(4, va_rf none), (3, .int (nI i)), (0, .ref (z 0 e)), (1, .ref (T (10 * e + k0))), (2, .int (jv_oN ko))]) (x := none) G dX2_holderOfField_31 (by decide) rfl rfl ?_
        refine jv_aloadR (q := 35) G 0 dX2_holderOfField_33 rfl rfl ?_
        refine jv_ifnull (q := 38) (tgt := 51) (x := none) G dX2_holderOfField_35 (by decide) rfl (fun c5 => ?_) (fun a6 c5 => ?_)
        · refine jv_iinc (q := 54) (lo' := [(3, .int (nI (i + 1))), (4, va_rf none), (0, .ref (z 0 e)), (1, .ref (T (10 * e + k0))), (2, .int (jv_oN ko))]) (v := nI (i + 1)) G 1 dX2_holderOfField_51 rfl (nI_1 i) (by decide) rfl rfl ?_
          refine jv_goto (q := 13) G dX2_holderOfField_54 (by decide) ?_
          refine jv_lo [0, 2, 3, 4] (lo' := [(3, .int (nI (i + 1))), (0, .ref (z 0 e)), (1, .ref (T (10 * e + k0))), (2, .int (jv_oN ko))]) rfl ?_
          rw [(show c_hl ts ko v = none by unfold c_hl; rw [hk4])] at hc
          exact ih (i + 1) (by omega) hc
        · cases c5
      · refine jv_topR (y := (some (T (10 * e + k2)))) (by rw [hk4]; rfl) ?_
        obtain ⟨t3, ht3, nt3⟩ := m_at_get hk4
        have lt3 := jv_ltGet ht3
        have k10t3 : k2 < 10 := by have := hE.2.2.2.1; omega
        have Ot3 := (hE.2.2.2.2.1 k2 t3 ht3).2
        have Vt3 := (hE.2.2.2.2.1 k2 t3 ht3).1
        have Yt3 := hE.2.1 k2 k10t3
        have bt3n := Ot3.1; have bt3k := Ot3.2.1
        refine jv_astore (q := 33) (lo' := [(4, .ref (T (10 * e + k2))), (3, .int (nI i)), (0, .ref (z 0 e)), (1, .ref (T (10 * e + k0))), (2, .int (jv_oN ko))]) G dX2_holderOfField_31 (by decide) rfl rfl ?_
        refine jv_aload (q := 35) G 0 dX2_holderOfField_33 rfl rfl ?_
        refine jv_ifnull (q := 38) (tgt := 51) (x := (some (T (10 * e + k2)))) G dX2_holderOfField_35 (by decide) rfl (fun c7 => ?_) (fun a8 c7 => ?_)
        · cases c7
        · refine jv_aload (q := 40) G 0 dX2_holderOfField_38 rfl rfl ?_
          refine jv_iconst (q := 41) (v := nI 0) G dX2_holderOfField_40 (by decide) rfl ?_
          refine jv_iload_n (q := 42) G 4 dX2_holderOfField_41 rfl rfl rfl ?_
          refine jv_callV_I (q := 45) (h1 := h) (As := [.int (nI 0), .int (jv_oN ko)]) (rest := []) (ce' := 0) (sl' := 0) (r := jv_bI (m_has t3 false ko)) G Z ml_X2_107 (k_has (w := false) (ko := ko) hlt Yt3 Vt3 Ot3 hK) (hE.2.1 k2 k10t3).1 dX2_holderOfField_42 rfl (by decide) (by decide) (by decide) (by decide) (Nat.le_of_ble_eq_true rfl) rfl rfl rfl rfl ?_
          refine jv_if_eqB (q := 48) (tgt := 51) G dX2_holderOfField_45 (by decide) rfl (fun c9 => ?_) (fun c9 => ?_)
          · refine jv_iinc (q := 54) (lo' := [(3, .int (nI (i + 1))), (4, .ref (T (10 * e + k2))), (0, .ref (z 0 e)), (1, .ref (T (10 * e + k0))), (2, .int (jv_oN ko))]) (v := nI (i + 1)) G 1 dX2_holderOfField_51 rfl (nI_1 i) (by decide) rfl rfl ?_
            refine jv_goto (q := 13) G dX2_holderOfField_54 (by decide) ?_
            refine jv_lo [0, 2, 3, 4] (lo' := [(3, .int (nI (i + 1))), (0, .ref (z 0 e)), (1, .ref (T (10 * e + k0))), (2, .int (jv_oN ko))]) rfl ?_
            rw [(show c_hl ts ko v = none by unfold c_hl; rw [hk4]; dsimp only; rw [ht3]; simp [c9])] at hc
            exact ih (i + 1) (by omega) hc
          · refine jv_aload (q := 50) G 0 dX2_holderOfField_48 rfl rfl ?_
            refine jv_aretQ G hr dX2_holderOfField_50 (Nat.le_of_ble_eq_true rfl) (Nat.le_of_ble_eq_true rfl) ?_
            rw [(show c_hl ts ko v = some k2 by unfold c_hl; rw [hk4]; dsimp only; rw [ht3]; simp [c9])] at hc
            refine ⟨?_, rfl⟩; rw [hc]; rfl
set_option maxHeartbeats 4000000 in
set_option maxRecDepth 100000 in
theorem k_holderOfField {lA : Launch} (hlt : lA.stackTraces = false) {D : jv_D} {base : Nat} {z : Nat → Nat → Nat} {T : Nat → Nat} {N : Nat → Nat → Nat} {h : jv_H} {e : Nat} {ts : List mT} (hE : cv_E z T N h e ts) {Us : Nat → List Nat} (hU : cv_Us z T h e ts Us) {k0 : Nat} {t0 : mT} (ht0 : ts[k0]? = some t0) {ko : Option Nat} (hK : ∀ K, ko = some K → K < 64) : jv_Met lA D base yX2_holderOfField (.code yX2_holderOfField cX2_holderOfField 5 (some (.object "LinkArchive$Type"))) 2 0 0 [.ref (z 0 e), .ref (T (10 * e + k0)), .int (jv_oN ko)] h (jv_rR ((c_hf ts Us k0 ko).map (fun k => T (10 * e + k))) h) jv_no := by
  refine jv_ofV (lo := [(0, .ref (z 0 e)), (1, .ref (T (10 * e + k0))), (2, .int (jv_oN ko))]) hlt (by decide) (Nat.le_of_ble_eq_true rfl) rfl (fun E hEl hEd hEz Z G hr ht hnm => ?_)
  subst hEl; subst hEd; subst hEz
  have lt0 := jv_ltGet ht0
  have k10t0 : k0 < 10 := by have := hE.2.2.2.1; omega
  have Ot0 := (hE.2.2.2.2.1 k0 t0 ht0).2
  have Vt0 := (hE.2.2.2.2.1 k0 t0 ht0).1
  have Yt0 := hE.2.1 k0 k10t0
  have bt0n := Ot0.1; have bt0k := Ot0.2.1
  refine jv_aload_n (q := 1) G 1 dX2_holderOfField_0 rfl rfl rfl ?_
  refine jv_iconst (q := 2) (v := nI 0) G dX2_holderOfField_1 (by decide) rfl ?_
  refine jv_iload_n (q := 3) G 2 dX2_holderOfField_2 rfl rfl rfl ?_
  refine jv_callV_I (q := 6) (h1 := h) (As := [.int (nI 0), .int (jv_oN ko)]) (rest := []) (ce' := 0) (sl' := 0) (r := jv_bI (m_has t0 false ko)) G Z ml_X2_107 (k_has (w := false) (ko := ko) hlt Yt0 Vt0 Ot0 hK) (hE.2.1 k0 k10t0).1 dX2_holderOfField_3 rfl (by decide) (by decide) (by decide) (by decide) (Nat.le_of_ble_eq_true rfl) rfl rfl rfl rfl ?_
  refine jv_if_eqB (q := 9) (tgt := 11) G dX2_holderOfField_6 (by decide) rfl (fun c1 => ?_) (fun c1 => ?_)
  · refine jv_iconst (q := 12) (v := nI 0) G dX2_holderOfField_11 (by decide) rfl ?_
    refine jv_istore_n (q := 13) (lo' := [(3, .int (nI 0)), (0, .ref (z 0 e)), (1, .ref (T (10 * e + k0))), (2, .int (jv_oN ko))]) G dX2_holderOfField_12 rfl (by decide) rfl rfl ?_
    refine jv_lo [0, 1, 2, 3] (lo' := [(3, .int (nI 0)), (0, .ref (z 0 e)), (1, .ref (T (10 * e + k0))), (2, .int (jv_oN ko))]) rfl ?_
    refine k_hof_loop hE hU ht0 hK hlt G Z hr (Us k0).length 0 (by omega) ?_
    unfold c_hf; rw [ht0, if_neg (by simp [c1]), List.drop_zero]
  · refine jv_aload_n (q := 10) G 1 dX2_holderOfField_9 rfl rfl rfl ?_
    refine jv_aretQ G hr dX2_holderOfField_10 (Nat.le_of_ble_eq_true rfl) (Nat.le_of_ble_eq_true rfl) ?_
    refine ⟨?_, rfl⟩; unfold c_hf; rw [ht0, if_pos (by simp [c1])]; rfl
set_option maxHeartbeats 4000000 in
set_option maxRecDepth 100000 in
theorem k_nwm_loop {E : jv_E} {z : Nat → Nat → Nat} {T : Nat → Nat} {N : Nat → Nat → Nat} {h : jv_H} {e : Nat} {ts : List mT} (hE : cv_E z T N h e ts) {k0 : Nat} (hk0 : k0 < ts.length) {ko : Option Nat} (hK : ∀ K, ko = some K → K < 64) (hlt : (jv_l E).stackTraces = false) (G : jv_C E cX2_nearestWithMethod RX2 5) (Z : jv_rm E = jv_room 2 0 0) (hr : (jv_mt E).sig.returnType = (some (.object "LinkArchive$Type"))) : ∀ (n i : Nat) (o : Option Nat), i + n = 10 → (∀ k, o = some k → k < ts.length) → c_nw ts ko n o = c_nw ts ko 10 (some k0) → jv_V E 5 h 0 0 (jv_Q E (jv_rR ((c_nw ts ko 10 (some k0)).map (fun k => T (10 * e + k))) h) jv_no 0 0) 5 [(4, .int (nI i)), (3, va_rf (o.map (fun k => T (10 * e + k)))), (0, .ref (z 0 e)), (2, .int (jv_oN ko))] [] := by
  intro n
  induction n with
  | zero =>
    intro i o hn hl hc
    cases o with
    | none =>
      show jv_V E 5 h 0 0 (jv_Q E (jv_rR ((c_nw ts ko 10 (some k0)).map (fun k => T (10 * e + k))) h) jv_no 0 0) 5 [(4, .int (nI i)), (3, va_rf none), (0, .ref (z 0 e)), (2, .int (jv_oN ko))] []
      refine jv_iload (q := 7) G 0 dX2_nearestWithMethod_5 rfl rfl ?_
      refine jv_bipush (q := 9) (v := nI 10) G dX2_nearestWithMethod_7 (by decide) rfl ?_
      refine jv_icmp_geN (q := 12) (tgt := 42) G dX2_nearestWithMethod_9 (by decide) rfl (by omega) (by omega) (fun c1 => ?_) (fun c1 => ?_)
      · refine jv_null (q := 43) G dX2_nearestWithMethod_42 rfl ?_
        refine jv_aretN G hr dX2_nearestWithMethod_43 (Nat.le_of_ble_eq_true rfl) (Nat.le_of_ble_eq_true rfl) ?_
        refine ⟨?_, rfl⟩; rw [← hc]; rfl
      · omega
    | some k =>
      show jv_V E 5 h 0 0 (jv_Q E (jv_rR ((c_nw ts ko 10 (some k0)).map (fun k => T (10 * e + k))) h) jv_no 0 0) 5 [(4, .int (nI i)), (3, .ref (T (10 * e + k))), (0, .ref (z 0 e)), (2, .int (jv_oN ko))] []
      obtain ⟨t, ht⟩ := jv_getLt (l := ts) (k := k) (hl k rfl)
      have lt := jv_ltGet ht
      have k10t : k < 10 := by have := hE.2.2.2.1; omega
      have Ot := (hE.2.2.2.2.1 k t ht).2
      have Vt := (hE.2.2.2.2.1 k t ht).1
      have Yt := hE.2.1 k k10t
      have btn := Ot.1; have btk := Ot.2.1
      refine jv_iload (q := 7) G 0 dX2_nearestWithMethod_5 rfl rfl ?_
      refine jv_bipush (q := 9) (v := nI 10) G dX2_nearestWithMethod_7 (by decide) rfl ?_
      refine jv_icmp_geN (q := 12) (tgt := 42) G dX2_nearestWithMethod_9 (by decide) rfl (by omega) (by omega) (fun c1 => ?_) (fun c1 => ?_)
      · refine jv_null (q := 43) G dX2_nearestWithMethod_42 rfl ?_
        refine jv_aretN G hr dX2_nearestWithMethod_43 (Nat.le_of_ble_eq_true rfl) (Nat.le_of_ble_eq_true rfl) ?_
        refine ⟨?_, rfl⟩; rw [← hc]; rfl
      · omega
  | succ n ih =>
    intro i o hn hl hc
    cases o with
    | none =>
      show jv_V E 5 h 0 0 (jv_Q E (jv_rR ((c_nw ts ko 10 (some k0)).map (fun k => T (10 * e + k))) h) jv_no 0 0) 5 [(4, .int (nI i)), (3, va_rf none), (0, .ref (z 0 e)), (2, .int (jv_oN ko))] []
      refine jv_iload (q := 7) G 0 dX2_nearestWithMethod_5 rfl rfl ?_
      refine jv_bipush (q := 9) (v := nI 10) G dX2_nearestWithMethod_7 (by decide) rfl ?_
      refine jv_icmp_geN (q := 12) (tgt := 42) G dX2_nearestWithMethod_9 (by decide) rfl (by omega) (by omega) (fun c1 => ?_) (fun c1 => ?_)
      · omega
      · refine jv_aload_nR (q := 13) G 1 dX2_nearestWithMethod_12 rfl rfl rfl ?_
        refine jv_ifnull (q := 16) (tgt := 42) (x := none) G dX2_nearestWithMethod_13 (by decide) rfl (fun c2 => ?_) (fun a3 c2 => ?_)
        · refine jv_null (q := 43) G dX2_nearestWithMethod_42 rfl ?_
          refine jv_aretN G hr dX2_nearestWithMethod_43 (Nat.le_of_ble_eq_true rfl) (Nat.le_of_ble_eq_true rfl) ?_
          refine ⟨?_, rfl⟩; rw [← hc]; rfl
        · cases c2
    | some k =>
      show jv_V E 5 h 0 0 (jv_Q E (jv_rR ((c_nw ts ko 10 (some k0)).map (fun k => T (10 * e + k))) h) jv_no 0 0) 5 [(4, .int (nI i)), (3, .ref (T (10 * e + k))), (0, .ref (z 0 e)), (2, .int (jv_oN ko))] []
      obtain ⟨t, ht⟩ := jv_getLt (l := ts) (k := k) (hl k rfl)
      have lt := jv_ltGet ht
      have k10t : k < 10 := by have := hE.2.2.2.1; omega
      have Ot := (hE.2.2.2.2.1 k t ht).2
      have Vt := (hE.2.2.2.2.1 k t ht).1
      have Yt := hE.2.1 k k10t
      have btn := Ot.1; have btk := Ot.2.1
      rw [c_nw, ht] at hc; dsimp only at hc
      refine jv_iload (q := 7) G 0 dX2_nearestWithMethod_5 rfl rfl ?_
      refine jv_bipush (q := 9) (v := nI 10) G dX2_nearestWithMethod_7 (by decide) rfl ?_
      refine jv_icmp_geN (q := 12) (tgt := 42) G dX2_nearestWithMethod_9 (by decide) rfl (by omega) (by omega) (fun c1 => ?_) (fun c1 => ?_)
      · omega
      · refine jv_aload_n (q := 13) G 1 dX2_nearestWithMethod_12 rfl rfl rfl ?_
        refine jv_ifnull (q := 16) (tgt := 42) (x := (some (T (10 * e + k)))) G dX2_nearestWithMethod_13 (by decide) rfl (fun c2 => ?_) (fun a3 c2 => ?_)
        · cases c2
        · refine jv_aload_n (q := 17) G 1 dX2_nearestWithMethod_16 rfl rfl rfl ?_
          refine jv_iconst (q := 18) (v := nI 1) G dX2_nearestWithMethod_17 (by decide) rfl ?_
          refine jv_iload_n (q := 19) G 3 dX2_nearestWithMethod_18 rfl rfl rfl ?_
          refine jv_callV_I (q := 22) (h1 := h) (As := [.int (nI 1), .int (jv_oN ko)]) (rest := []) (ce' := 0) (sl' := 0) (r := jv_bI (m_has t true ko)) G Z ml_X2_107 (k_has (w := true) (ko := ko) hlt Yt Vt Ot hK) (hE.2.1 k k10t).1 dX2_nearestWithMethod_19 rfl (by decide) (by decide) (by decide) (by decide) (Nat.le_of_ble_eq_true rfl) rfl rfl rfl rfl ?_
          refine jv_if_eqB (q := 25) (tgt := 27) G dX2_nearestWithMethod_22 (by decide) rfl (fun c4 => ?_) (fun c4 => ?_)
          · refine jv_aload_n (q := 28) G 2 dX2_nearestWithMethod_27 rfl rfl rfl ?_
            refine jv_aload_n (q := 29) G 1 dX2_nearestWithMethod_28 rfl rfl rfl ?_
            refine jv_getI (q := 32) G dX2_nearestWithMethod_29 fl_X2_54 rfl (hE.2.1 k k10t).1 (ct_5 (hE.2.2.2.2.1 k t ht).1) rfl ?_
            refine jv_callV_R (q := 35) (h1 := h) (As := [.int (jv_oN (mt_u t))]) (rest := []) (ce' := 0) (sl' := 0) (r := ((m_at ts (jv_oN (mt_u t))).map (fun k => T (10 * e + k)))) G Z ml_X2_25 (k_named hlt hE) hE.1.1 dX2_nearestWithMethod_32 rfl (by decide) (by decide) (by decide) (by decide) (Nat.le_of_ble_eq_true rfl) rfl rfl rfl rfl ?_
            rcases Option.eq_none_or_eq_some (m_at ts (jv_oN (mt_u t))) with hk7 | ⟨k5, hk7⟩
            · refine jv_topR (y := none) (by rw [hk7]; rfl) ?_
              refine jv_astore_nR (q := 36) (lo' := [(3, va_rf none), (4, .int (nI i)), (0, .ref (z 0 e)), (2, .int (jv_oN ko))]) (x := none) G dX2_nearestWithMethod_35 rfl (by decide) rfl rfl ?_
              refine jv_iinc (q := 39) (lo' := [(4, .int (nI (i + 1))), (3, va_rf none), (0, .ref (z 0 e)), (2, .int (jv_oN ko))]) (v := nI (i + 1)) G 1 dX2_nearestWithMethod_36 rfl (nI_1 i) (by decide) rfl rfl ?_
              refine jv_goto (q := 5) G dX2_nearestWithMethod_39 (by decide) ?_
              refine jv_lo [0, 1, 2, 3] (lo' := [(4, .int (nI (i + 1))), (3, va_rf none), (0, .ref (z 0 e)), (2, .int (jv_oN ko))]) rfl ?_
              rw [if_neg (by simp [c4]), hk7] at hc
              exact ih (i + 1) (none) (by omega) (fun k e => by cases e) hc
            · refine jv_topR (y := (some (T (10 * e + k5)))) (by rw [hk7]; rfl) ?_
              obtain ⟨t6, ht6, nt6⟩ := m_at_get hk7
              have lt6 := jv_ltGet ht6
              have k10t6 : k5 < 10 := by have := hE.2.2.2.1; omega
              have Ot6 := (hE.2.2.2.2.1 k5 t6 ht6).2
              have Vt6 := (hE.2.2.2.2.1 k5 t6 ht6).1
              have Yt6 := hE.2.1 k5 k10t6
              have bt6n := Ot6.1; have bt6k := Ot6.2.1
              refine jv_astore_n (q := 36) (lo' := [(3, .ref (T (10 * e + k5))), (4, .int (nI i)), (0, .ref (z 0 e)), (2, .int (jv_oN ko))]) G dX2_nearestWithMethod_35 rfl (by decide) rfl rfl ?_
              refine jv_iinc (q := 39) (lo' := [(4, .int (nI (i + 1))), (3, .ref (T (10 * e + k5))), (0, .ref (z 0 e)), (2, .int (jv_oN ko))]) (v := nI (i + 1)) G 1 dX2_nearestWithMethod_36 rfl (nI_1 i) (by decide) rfl rfl ?_
              refine jv_goto (q := 5) G dX2_nearestWithMethod_39 (by decide) ?_
              refine jv_lo [0, 1, 2, 3] (lo' := [(4, .int (nI (i + 1))), (3, .ref (T (10 * e + k5))), (0, .ref (z 0 e)), (2, .int (jv_oN ko))]) rfl ?_
              rw [if_neg (by simp [c4]), hk7] at hc
              exact ih (i + 1) (some k5) (by omega) (fun k e => by cases e; exact lt6) hc
          · refine jv_aload_n (q := 26) G 1 dX2_nearestWithMethod_25 rfl rfl rfl ?_
            refine jv_aretQ G hr dX2_nearestWithMethod_26 (Nat.le_of_ble_eq_true rfl) (Nat.le_of_ble_eq_true rfl) ?_
            rw [if_pos (by simp [c4])] at hc
            refine ⟨?_, rfl⟩; rw [← hc]; rfl
set_option maxHeartbeats 4000000 in
set_option maxRecDepth 100000 in
theorem k_nearest {lA : Launch} (hlt : lA.stackTraces = false) {D : jv_D} {base : Nat} {z : Nat → Nat → Nat} {T : Nat → Nat} {N : Nat → Nat → Nat} {h : jv_H} {e : Nat} {ts : List mT} (hE : cv_E z T N h e ts) {k0 : Nat} (hk0 : k0 < ts.length) {ko : Option Nat} (hK : ∀ K, ko = some K → K < 64) : jv_Met lA D base yX2_nearestWithMethod (.code yX2_nearestWithMethod cX2_nearestWithMethod 5 (some (.object "LinkArchive$Type"))) 2 0 0 [.ref (z 0 e), .ref (T (10 * e + k0)), .int (jv_oN ko)] h (jv_rR ((c_nw ts ko 10 (some k0)).map (fun k => T (10 * e + k))) h) jv_no := by
  refine jv_ofV (lo := [(0, .ref (z 0 e)), (1, .ref (T (10 * e + k0))), (2, .int (jv_oN ko))]) hlt (by decide) (Nat.le_of_ble_eq_true rfl) rfl (fun E hEl hEd hEz Z G hr ht hnm => ?_)
  subst hEl; subst hEd; subst hEz
  refine jv_aload_n (q := 1) G 1 dX2_nearestWithMethod_0 rfl rfl rfl ?_
  refine jv_astore_n (q := 2) (lo' := [(3, .ref (T (10 * e + k0))), (0, .ref (z 0 e)), (1, .ref (T (10 * e + k0))), (2, .int (jv_oN ko))]) G dX2_nearestWithMethod_1 rfl (by decide) rfl rfl ?_
  refine jv_iconst (q := 3) (v := nI 0) G dX2_nearestWithMethod_2 (by decide) rfl ?_
  refine jv_istore (q := 5) (lo' := [(4, .int (nI 0)), (3, .ref (T (10 * e + k0))), (0, .ref (z 0 e)), (1, .ref (T (10 * e + k0))), (2, .int (jv_oN ko))]) G dX2_nearestWithMethod_3 (by decide) rfl rfl ?_
  refine jv_lo [0, 1, 2, 4] (lo' := [(4, .int (nI 0)), (3, .ref (T (10 * e + k0))), (0, .ref (z 0 e)), (2, .int (jv_oN ko))]) rfl ?_
  exact k_nwm_loop hE hk0 hK hlt G Z hr 10 0 (some k0) (by omega) (fun k e => by cases e; exact hk0) rfl
def c_fo (ts : List mT) (n : Nat) : Option Nat := sf (fun k => (ts[k]?).any (fun t => n.testBit (mt_n t))) ts.length 0
def c_op (ts : List mT) (n : Nat) (ko : Option Nat) (k : Nat) : Bool := (ts[k]?).any (fun t => n.testBit (mt_n t) && ((m_oc t true ko).bind (fun j => (mt_m t)[j]?)).any (fun m => !m_abs m))
def nd (A O : Nat) : Nat := A ^^^ (A &&& O)
theorem nd_bit {A O i : Nat} : (nd A O).testBit i = (A.testBit i && !O.testBit i) := by
  unfold nd
  rw [Nat.testBit_xor, Nat.testBit_and]
  cases A.testBit i <;> cases O.testBit i <;> rfl
theorem nd_I {A O : Nat} (hA : A < 2 ^ 31) : nI A &&& (nI O ^^^ (-1)) = nI (nd A O) := by
  have h1 : (-1 : Int32) = nI (2 ^ 32 - 1) := by decide
  rw [h1, fb_xorI, fa_and]
  congr 1
  apply Nat.eq_of_testBit_eq
  intro i
  rw [nd_bit, Nat.testBit_and, Nat.testBit_xor, Nat.testBit_two_pow_sub_one]
  by_cases hi : i < 32
  · rw [decide_eq_true hi]
    cases O.testBit i <;> rfl
  · have : A.testBit i = false := Nat.testBit_lt_two_pow (Nat.lt_of_lt_of_le hA (Nat.pow_le_pow_right (by decide) (by omega)))
    rw [this]; rfl
theorem nd_lt {A O n : Nat} (h : A < 2 ^ n) : nd A O < 2 ^ n := Nat.xor_lt_two_pow h (Nat.lt_of_le_of_lt Nat.and_le_left h)
def c_cm (ts : List mT) (Us : Nat → List Nat) (ko : Option Nat) (U : List Nat) : Nat → Nat × Nat
  | 0 => (0, 0)
  | n + 1 => match U[n]? with
    | none => c_cm ts Us ko U n
    | some v => match m_at ts (nI v) with
      | none => c_cm ts Us ko U n
      | some j => match ts[j]? with
        | none => c_cm ts Us ko U n
        | some t => if mt_i t && ((m_oc t true ko).bind (fun i => (mt_m t)[i]?)).any m_hd then ((c_cm ts Us ko U n).1 ||| 2 ^ mt_n t, (c_cm ts Us ko U n).2 ||| m_um (Us j)) else c_cm ts Us ko U n
def c_cd (ts : List mT) (Us : Nat → List Nat) (k : Nat) (ko : Option Nat) : Nat := nd (c_cm ts Us ko (Us k) (Us k).length).1 (c_cm ts Us ko (Us k) (Us k).length).2
set_option maxHeartbeats 4000000 in
set_option maxRecDepth 100000 in
theorem k_fo_loop {E : jv_E} {z : Nat → Nat → Nat} {T : Nat → Nat} {N : Nat → Nat → Nat} {h : jv_H} {e : Nat} {ts : List mT} (hE : cv_E z T N h e ts) {n : Nat} (hn : n < 2 ^ 16) (hlt : (jv_l E).stackTraces = false) (G : jv_C E cX2_firstOf RX2 3) (Z : jv_rm E = jv_room 2 0 0) (hr : (jv_mt E).sig.returnType = (some (.object "LinkArchive$Type"))) : ∀ (m k : Nat), k + m = ts.length → (∀ v, v < k → (fun k => (ts[k]?).any (fun t => n.testBit (mt_n t))) v = false) → jv_V E 3 h 0 0 (jv_Q E (jv_rR ((c_fo ts n).map (fun k => T (10 * e + k))) h) jv_no 0 0) 2 [(2, .int (nI k)), (0, .ref (z 0 e)), (1, .int (nI n))] [] := by
  have hl10 := hE.2.2.2.1
  intro m
  induction m with
  | zero =>
    intro k hm hp
    refine jv_iload_n (q := 3) G 0 dX2_firstOf_2 rfl rfl rfl ?_
    refine jv_aload_n (q := 4) G 1 dX2_firstOf_3 rfl rfl rfl ?_
    refine jv_getI (q := 7) G dX2_firstOf_4 fl_X2_33 rfl hE.1.1 hE.2.2.1 rfl ?_
    refine jv_icmp_geN (q := 10) (tgt := 40) G dX2_firstOf_7 (by decide) rfl (by omega) (by omega) (fun c1 => ?_) (fun c1 => ?_)
    · refine jv_null (q := 41) G dX2_firstOf_40 rfl ?_
      refine jv_aretN G hr dX2_firstOf_41 (Nat.le_of_ble_eq_true rfl) (Nat.le_of_ble_eq_true rfl) ?_
      refine ⟨?_, rfl⟩
      rw [show c_fo ts n = none from sf_none.mpr (fun v _ hv => hp v (by omega))]; rfl
    · omega
  | succ m ih =>
    intro k hm hp
    obtain ⟨t, ht⟩ := jv_getLt (l := ts) (k := k) (by omega)
    have lt := jv_ltGet ht
    have k10t : k < 10 := by have := hE.2.2.2.1; omega
    have Ot := (hE.2.2.2.2.1 k t ht).2
    have Vt := (hE.2.2.2.2.1 k t ht).1
    have Yt := hE.2.1 k k10t
    have btn := Ot.1; have btk := Ot.2.1
    refine jv_iload_n (q := 3) G 0 dX2_firstOf_2 rfl rfl rfl ?_
    refine jv_aload_n (q := 4) G 1 dX2_firstOf_3 rfl rfl rfl ?_
    refine jv_getI (q := 7) G dX2_firstOf_4 fl_X2_33 rfl hE.1.1 hE.2.2.1 rfl ?_
    refine jv_icmp_geN (q := 10) (tgt := 40) G dX2_firstOf_7 (by decide) rfl (by omega) (by omega) (fun c1 => ?_) (fun c1 => ?_)
    · omega
    · refine jv_iload_n (q := 11) G 2 dX2_firstOf_10 rfl rfl rfl ?_
      refine jv_i2l (q := 12) (v := lN n) G dX2_firstOf_11 (nI_l (by omega)) rfl ?_
      refine jv_aload_n (q := 13) G 1 dX2_firstOf_12 rfl rfl rfl ?_
      refine jv_getQ (q := 16) G dX2_firstOf_13 fl_X2_11 rfl hE.1.1 hE.1.2.1 rfl ?_
      refine jv_iload_n (q := 17) G 0 dX2_firstOf_16 rfl rfl rfl ?_
      refine jv_aaldQ (q := 18) G dX2_firstOf_17 hE.1.2.2.1 rfl (by omega) (by decide) (hE.1.2.2.2.2.2.2 k k10t) rfl ?_
      refine jv_getI (q := 21) G dX2_firstOf_18 fl_X2_40 rfl (hE.2.1 k k10t).1 (ct_0 (hE.2.2.2.2.1 k t ht).1) rfl ?_
      refine jv_callSN_I (q := 24) (h1 := h) (As := [.long (lN n), .int (nI (mt_n t))]) (rest := []) (ce' := 0) (sl' := 0) (r := jv_bI (Nat.testBit n (mt_n t))) G Z ml_X2_130 (jv_p1 746 (by decide +kernel) rfl) (k_hasBit hlt (by omega)) dX2_firstOf_21 rfl (by decide) (by decide) (by decide) (by decide) (Nat.le_of_ble_eq_true rfl) rfl rfl rfl rfl ?_
      refine jv_if_eqB (q := 27) (tgt := 34) G dX2_firstOf_24 (by decide) rfl (fun c2 => ?_) (fun c2 => ?_)
      · refine jv_iinc (q := 37) (lo' := [(2, .int (nI (k + 1))), (0, .ref (z 0 e)), (1, .int (nI n))]) (v := nI (k + 1)) G 0 dX2_firstOf_34 rfl (nI_1 k) (by decide) rfl rfl ?_
        refine jv_goto (q := 2) G dX2_firstOf_37 (by decide) ?_
        refine jv_lo [0, 1, 2] (lo' := [(2, .int (nI (k + 1))), (0, .ref (z 0 e)), (1, .int (nI n))]) rfl ?_
        refine ih (k + 1) (by omega) (fun v hv => ?_)
        by_cases e1 : v = k
        · subst e1; show Option.any _ _ = false; rw [ht]; exact c2
        · exact hp v (by omega)
      · refine jv_aload_n (q := 28) G 1 dX2_firstOf_27 rfl rfl rfl ?_
        refine jv_getQ (q := 31) G dX2_firstOf_28 fl_X2_11 rfl hE.1.1 hE.1.2.1 rfl ?_
        refine jv_iload_n (q := 32) G 0 dX2_firstOf_31 rfl rfl rfl ?_
        refine jv_aaldQ (q := 33) G dX2_firstOf_32 hE.1.2.2.1 rfl (by omega) (by decide) (hE.1.2.2.2.2.2.2 k k10t) rfl ?_
        refine jv_aretQ G hr dX2_firstOf_33 (Nat.le_of_ble_eq_true rfl) (Nat.le_of_ble_eq_true rfl) ?_
        refine ⟨?_, rfl⟩
        rw [show c_fo ts n = some k from sf_first (by omega) (show Option.any _ _ = true by rw [ht]; exact c2) hp]; rfl
set_option maxHeartbeats 4000000 in
set_option maxRecDepth 100000 in
theorem k_firstOf {lA : Launch} (hlt : lA.stackTraces = false) {D : jv_D} {base : Nat} {z : Nat → Nat → Nat} {T : Nat → Nat} {N : Nat → Nat → Nat} {h : jv_H} {e : Nat} {ts : List mT} (hE : cv_E z T N h e ts) {n : Nat} (hn : n < 2 ^ 16) : jv_Met lA D base yX2_firstOf (.code yX2_firstOf cX2_firstOf 3 (some (.object "LinkArchive$Type"))) 2 0 0 [.ref (z 0 e), .int (nI n)] h (jv_rR ((c_fo ts n).map (fun k => T (10 * e + k))) h) jv_no := by
  refine jv_ofV (lo := [(0, .ref (z 0 e)), (1, .int (nI n))]) hlt (by decide) (Nat.le_of_ble_eq_true rfl) rfl (fun E hEl hEd hEz Z G hr ht hnm => ?_)
  subst hEl; subst hEd; subst hEz
  refine jv_iconst (q := 1) (v := nI 0) G dX2_firstOf_0 (by decide) rfl ?_
  refine jv_istore_n (q := 2) (lo' := [(2, .int (nI 0)), (0, .ref (z 0 e)), (1, .int (nI n))]) G dX2_firstOf_1 rfl (by decide) rfl rfl ?_
  refine jv_lo [0, 1, 2] (lo' := [(2, .int (nI 0)), (0, .ref (z 0 e)), (1, .int (nI n))]) rfl ?_
  exact k_fo_loop hE hn hlt G Z hr ts.length 0 (by omega) (fun v hv => by omega)
set_option maxHeartbeats 4000000 in
set_option maxRecDepth 100000 in
theorem k_oc_loop {E : jv_E} {z : Nat → Nat → Nat} {T : Nat → Nat} {N : Nat → Nat → Nat} {h : jv_H} {e : Nat} {ts : List mT} (hE : cv_E z T N h e ts) {n : Nat} (hn : n < 2 ^ 16) {ko : Option Nat} (hK : ∀ K, ko = some K → K < 64) (hlt : (jv_l E).stackTraces = false) (G : jv_C E cX2_onlyConcrete RX2 6) (Z : jv_rm E = jv_room 2 0 0) (hr : (jv_mt E).sig.returnType = (some (.object "LinkArchive$Type"))) : ∀ (m k : Nat) (o : Option Nat), k + m = ts.length → m_last (c_op ts n ko) k = o → fb_ct (c_op ts n ko) k = (if o.isSome then 1 else 0) → jv_V E 6 h 0 0 (jv_Q E (jv_rR ((m_only (c_op ts n ko) ts.length).map (fun k => T (10 * e + k))) h) jv_no 0 0) 5 [(4, .int (nI k)), (3, va_rf (o.map (fun k => T (10 * e + k)))), (0, .ref (z 0 e)), (1, .int (nI n)), (2, .int (jv_oN ko))] [] := by
  have hl10 := hE.2.2.2.1
  intro m
  induction m with
  | zero =>
    intro k o hm hla hct
    cases o with
    | none =>
      show jv_V E 6 h 0 0 (jv_Q E (jv_rR ((m_only (c_op ts n ko) ts.length).map (fun k => T (10 * e + k))) h) jv_no 0 0) 5 [(4, .int (nI k)), (3, va_rf none), (0, .ref (z 0 e)), (1, .int (nI n)), (2, .int (jv_oN ko))] []
      refine jv_iload (q := 7) G 0 dX2_onlyConcrete_5 rfl rfl ?_
      refine jv_aload_n (q := 8) G 2 dX2_onlyConcrete_7 rfl rfl rfl ?_
      refine jv_getI (q := 11) G dX2_onlyConcrete_8 fl_X2_33 rfl hE.1.1 hE.2.2.1 rfl ?_
      refine jv_icmp_geN (q := 14) (tgt := 83) G dX2_onlyConcrete_11 (by decide) rfl (by omega) (by omega) (fun c1 => ?_) (fun c1 => ?_)
      · refine jv_aload_nR (q := 84) G 1 dX2_onlyConcrete_83 rfl rfl rfl ?_
        refine jv_aret G hr dX2_onlyConcrete_84 (Nat.le_of_ble_eq_true rfl) (Nat.le_of_ble_eq_true rfl) ?_
        refine ⟨?_, rfl⟩
        have ek : k = ts.length := by omega
        subst ek
        unfold m_only
        rw [hct, hla]; rfl
      · omega
    | some k1 =>
      show jv_V E 6 h 0 0 (jv_Q E (jv_rR ((m_only (c_op ts n ko) ts.length).map (fun k => T (10 * e + k))) h) jv_no 0 0) 5 [(4, .int (nI k)), (3, .ref (T (10 * e + k1))), (0, .ref (z 0 e)), (1, .int (nI n)), (2, .int (jv_oN ko))] []
      refine jv_iload (q := 7) G 0 dX2_onlyConcrete_5 rfl rfl ?_
      refine jv_aload_n (q := 8) G 2 dX2_onlyConcrete_7 rfl rfl rfl ?_
      refine jv_getI (q := 11) G dX2_onlyConcrete_8 fl_X2_33 rfl hE.1.1 hE.2.2.1 rfl ?_
      refine jv_icmp_geN (q := 14) (tgt := 83) G dX2_onlyConcrete_11 (by decide) rfl (by omega) (by omega) (fun c1 => ?_) (fun c1 => ?_)
      · refine jv_aload_n (q := 84) G 1 dX2_onlyConcrete_83 rfl rfl rfl ?_
        refine jv_aretQ G hr dX2_onlyConcrete_84 (Nat.le_of_ble_eq_true rfl) (Nat.le_of_ble_eq_true rfl) ?_
        refine ⟨?_, rfl⟩
        have ek : k = ts.length := by omega
        subst ek
        unfold m_only
        rw [hct, hla]; rfl
      · omega
  | succ m ih =>
    intro k o hm hla hct
    cases o with
    | none =>
      show jv_V E 6 h 0 0 (jv_Q E (jv_rR ((m_only (c_op ts n ko) ts.length).map (fun k => T (10 * e + k))) h) jv_no 0 0) 5 [(4, .int (nI k)), (3, va_rf none), (0, .ref (z 0 e)), (1, .int (nI n)), (2, .int (jv_oN ko))] []
      obtain ⟨t, ht⟩ := jv_getLt (l := ts) (k := k) (by omega)
      have lt := jv_ltGet ht
      have k10t : k < 10 := by have := hE.2.2.2.1; omega
      have Ot := (hE.2.2.2.2.1 k t ht).2
      have Vt := (hE.2.2.2.2.1 k t ht).1
      have Yt := hE.2.1 k k10t
      have btn := Ot.1; have btk := Ot.2.1
      refine jv_iload (q := 7) G 0 dX2_onlyConcrete_5 rfl rfl ?_
      refine jv_aload_n (q := 8) G 2 dX2_onlyConcrete_7 rfl rfl rfl ?_
      refine jv_getI (q := 11) G dX2_onlyConcrete_8 fl_X2_33 rfl hE.1.1 hE.2.2.1 rfl ?_
      refine jv_icmp_geN (q := 14) (tgt := 83) G dX2_onlyConcrete_11 (by decide) rfl (by omega) (by omega) (fun c1 => ?_) (fun c1 => ?_)
      · omega
      · refine jv_iload_n (q := 15) G 3 dX2_onlyConcrete_14 rfl rfl rfl ?_
        refine jv_i2l (q := 16) (v := lN n) G dX2_onlyConcrete_15 (nI_l (by omega)) rfl ?_
        refine jv_aload_n (q := 17) G 2 dX2_onlyConcrete_16 rfl rfl rfl ?_
        refine jv_getQ (q := 20) G dX2_onlyConcrete_17 fl_X2_11 rfl hE.1.1 hE.1.2.1 rfl ?_
        refine jv_iload (q := 22) G 0 dX2_onlyConcrete_20 rfl rfl ?_
        refine jv_aaldQ (q := 23) G dX2_onlyConcrete_22 hE.1.2.2.1 rfl (by omega) (by decide) (hE.1.2.2.2.2.2.2 k k10t) rfl ?_
        refine jv_getI (q := 26) G dX2_onlyConcrete_23 fl_X2_40 rfl (hE.2.1 k k10t).1 (ct_0 (hE.2.2.2.2.1 k t ht).1) rfl ?_
        refine jv_callSN_I (q := 29) (h1 := h) (As := [.long (lN n), .int (nI (mt_n t))]) (rest := []) (ce' := 0) (sl' := 0) (r := jv_bI (Nat.testBit n (mt_n t))) G Z ml_X2_130 (jv_p1 746 (by decide +kernel) rfl) (k_hasBit hlt (by omega)) dX2_onlyConcrete_26 rfl (by decide) (by decide) (by decide) (by decide) (Nat.le_of_ble_eq_true rfl) rfl rfl rfl rfl ?_
        refine jv_if_eqB (q := 32) (tgt := 47) G dX2_onlyConcrete_29 (by decide) rfl (fun c2 => ?_) (fun c2 => ?_)
        · refine jv_null (q := 48) G dX2_onlyConcrete_47 rfl ?_
          refine jv_astoreR (q := 50) (lo' := [(5, va_rf none), (4, .int (nI k)), (3, va_rf none), (0, .ref (z 0 e)), (1, .int (nI n)), (2, .int (jv_oN ko))]) (x := none) G dX2_onlyConcrete_48 (by decide) rfl rfl ?_
          refine jv_aloadR (q := 52) G 0 dX2_onlyConcrete_50 rfl rfl ?_
          refine jv_ifnull (q := 55) (tgt := 77) (x := none) G dX2_onlyConcrete_52 (by decide) rfl (fun c3 => ?_) (fun a4 c3 => ?_)
          · refine jv_iinc (q := 80) (lo' := [(4, .int (nI (k + 1))), (5, va_rf none), (3, va_rf none), (0, .ref (z 0 e)), (1, .int (nI n)), (2, .int (jv_oN ko))]) (v := nI (k + 1)) G 1 dX2_onlyConcrete_77 rfl (nI_1 k) (by decide) rfl rfl ?_
            refine jv_goto (q := 5) G dX2_onlyConcrete_80 (by decide) ?_
            refine jv_lo [0, 2, 3, 4, 5] (lo' := [(4, .int (nI (k + 1))), (3, va_rf none), (0, .ref (z 0 e)), (1, .int (nI n)), (2, .int (jv_oN ko))]) rfl ?_
            have hp : (c_op ts n ko) k = false := by
              show Option.any _ _ = _; rw [ht]; dsimp only [Option.any_some]; simp [c2]
            refine ih (k + 1) (none) (by omega) (by rw [m_last, if_neg (by rw [hp]; decide)]; exact hla) (by rw [fb_ct_succ, hct, hp]; rfl)
          · cases c3
        · refine jv_aload_n (q := 33) G 2 dX2_onlyConcrete_32 rfl rfl rfl ?_
          refine jv_getQ (q := 36) G dX2_onlyConcrete_33 fl_X2_11 rfl hE.1.1 hE.1.2.1 rfl ?_
          refine jv_iload (q := 38) G 0 dX2_onlyConcrete_36 rfl rfl ?_
          refine jv_aaldQ (q := 39) G dX2_onlyConcrete_38 hE.1.2.2.1 rfl (by omega) (by decide) (hE.1.2.2.2.2.2.2 k k10t) rfl ?_
          refine jv_iconst (q := 40) (v := nI 1) G dX2_onlyConcrete_39 (by decide) rfl ?_
          refine jv_iload_n (q := 41) G 4 dX2_onlyConcrete_40 rfl rfl rfl ?_
          refine jv_callV_R (q := 44) (h1 := h) (As := [.int (nI 1), .int (jv_oN ko)]) (rest := []) (ce' := 0) (sl' := 0) (r := ((m_oc t true ko).map (N (T (10 * e + k))))) G Z ml_X2_117 (k_own (w := true) (ko := ko) hlt Yt Vt Ot hK) (hE.2.1 k k10t).1 dX2_onlyConcrete_41 rfl (by decide) (by decide) (by decide) (by decide) (Nat.le_of_ble_eq_true rfl) rfl rfl rfl rfl ?_
          rcases Option.eq_none_or_eq_some (m_oc t true ko) with hj7 | ⟨j5, hj7⟩
          · refine jv_topR (y := none) (by rw [hj7]; rfl) ?_
            refine jv_goto (q := 48) G dX2_onlyConcrete_44 (by decide) ?_
            refine jv_astoreR (q := 50) (lo' := [(5, va_rf none), (4, .int (nI k)), (3, va_rf none), (0, .ref (z 0 e)), (1, .int (nI n)), (2, .int (jv_oN ko))]) (x := none) G dX2_onlyConcrete_48 (by decide) rfl rfl ?_
            refine jv_aloadR (q := 52) G 0 dX2_onlyConcrete_50 rfl rfl ?_
            refine jv_ifnull (q := 55) (tgt := 77) (x := none) G dX2_onlyConcrete_52 (by decide) rfl (fun c8 => ?_) (fun a9 c8 => ?_)
            · refine jv_iinc (q := 80) (lo' := [(4, .int (nI (k + 1))), (5, va_rf none), (3, va_rf none), (0, .ref (z 0 e)), (1, .int (nI n)), (2, .int (jv_oN ko))]) (v := nI (k + 1)) G 1 dX2_onlyConcrete_77 rfl (nI_1 k) (by decide) rfl rfl ?_
              refine jv_goto (q := 5) G dX2_onlyConcrete_80 (by decide) ?_
              refine jv_lo [0, 2, 3, 4, 5] (lo' := [(4, .int (nI (k + 1))), (3, va_rf none), (0, .ref (z 0 e)), (1, .int (nI n)), (2, .int (jv_oN ko))]) rfl ?_
              have hp : (c_op ts n ko) k = false := by
                show Option.any _ _ = _; rw [ht]; dsimp only [Option.any_some]; rw [hj7]; simp [c2]
              refine ih (k + 1) (none) (by omega) (by rw [m_last, if_neg (by rw [hp]; decide)]; exact hla) (by rw [fb_ct_succ, hct, hp]; rfl)
            · cases c8
          · refine jv_topR (y := (some (N (T (10 * e + k)) j5))) (by rw [hj7]; rfl) ?_
            obtain ⟨m6, hm6, wm6, km6⟩ := oc_some hj7
            have lm6 := jv_ltGet hm6
            have Om6 := Ot.2.2.2.2.2.2 m6 (List.mem_of_getElem? hm6)
            have Vm6 := ct_m Vt hm6
            have j6m6 : j5 < 6 := by have := Ot.2.2.2.2.2.1; omega
            have bm6a := Om6.2.2.1
            refine jv_goto (q := 48) G dX2_onlyConcrete_44 (by decide) ?_
            refine jv_astore (q := 50) (lo' := [(5, .ref (N (T (10 * e + k)) j5)), (4, .int (nI k)), (3, va_rf none), (0, .ref (z 0 e)), (1, .int (nI n)), (2, .int (jv_oN ko))]) G dX2_onlyConcrete_48 (by decide) rfl rfl ?_
            refine jv_aload (q := 52) G 0 dX2_onlyConcrete_50 rfl rfl ?_
            refine jv_ifnull (q := 55) (tgt := 77) (x := (some (N (T (10 * e + k)) j5))) G dX2_onlyConcrete_52 (by decide) rfl (fun c10 => ?_) (fun a11 c10 => ?_)
            · cases c10
            · refine jv_aload (q := 57) G 0 dX2_onlyConcrete_55 rfl rfl ?_
              refine jv_callV_I (q := 60) (h1 := h) (As := []) (rest := []) (ce' := 0) (sl' := 0) (r := jv_bI (m_abs m6)) G Z ml_X2_134 (k_isAbstract hlt (Yt.2.2.2.2.2.2.2 j5 j6m6).2 Vm6) (Yt.2.2.2.2.2.2.2 j5 j6m6).2 dX2_onlyConcrete_57 rfl (by decide) (by decide) (by decide) (by decide) (Nat.le_of_ble_eq_true rfl) rfl rfl rfl rfl ?_
              refine jv_if_neB (q := 63) (tgt := 77) G dX2_onlyConcrete_60 (by decide) rfl (fun c12 => ?_) (fun c12 => ?_)
              · refine jv_iinc (q := 80) (lo' := [(4, .int (nI (k + 1))), (5, .ref (N (T (10 * e + k)) j5)), (3, va_rf none), (0, .ref (z 0 e)), (1, .int (nI n)), (2, .int (jv_oN ko))]) (v := nI (k + 1)) G 1 dX2_onlyConcrete_77 rfl (nI_1 k) (by decide) rfl rfl ?_
                refine jv_goto (q := 5) G dX2_onlyConcrete_80 (by decide) ?_
                refine jv_lo [0, 2, 3, 4, 5] (lo' := [(4, .int (nI (k + 1))), (3, va_rf none), (0, .ref (z 0 e)), (1, .int (nI n)), (2, .int (jv_oN ko))]) rfl ?_
                have hp : (c_op ts n ko) k = false := by
                  show Option.any _ _ = _; rw [ht]; dsimp only [Option.any_some]; rw [hj7]; dsimp only [Option.bind_some]; rw [hm6]; simp [c2, c12]
                refine ih (k + 1) (none) (by omega) (by rw [m_last, if_neg (by rw [hp]; decide)]; exact hla) (by rw [fb_ct_succ, hct, hp]; rfl)
              · refine jv_aload_nR (q := 64) G 2 dX2_onlyConcrete_63 rfl rfl rfl ?_
                refine jv_ifnull (q := 67) (tgt := 69) (x := none) G dX2_onlyConcrete_64 (by decide) rfl (fun c13 => ?_) (fun a14 c13 => ?_)
                · refine jv_aload_n (q := 70) G 3 dX2_onlyConcrete_69 rfl rfl rfl ?_
                  refine jv_getQ (q := 73) G dX2_onlyConcrete_70 fl_X2_11 rfl hE.1.1 hE.1.2.1 rfl ?_
                  refine jv_iload (q := 75) G 1 dX2_onlyConcrete_73 rfl rfl ?_
                  refine jv_aaldQ (q := 76) G dX2_onlyConcrete_75 hE.1.2.2.1 rfl (by omega) (by decide) (hE.1.2.2.2.2.2.2 k k10t) rfl ?_
                  refine jv_astore_n (q := 77) (lo' := [(3, .ref (T (10 * e + k))), (5, .ref (N (T (10 * e + k)) j5)), (4, .int (nI k)), (0, .ref (z 0 e)), (1, .int (nI n)), (2, .int (jv_oN ko))]) G dX2_onlyConcrete_76 rfl (by decide) rfl rfl ?_
                  refine jv_iinc (q := 80) (lo' := [(4, .int (nI (k + 1))), (3, .ref (T (10 * e + k))), (5, .ref (N (T (10 * e + k)) j5)), (0, .ref (z 0 e)), (1, .int (nI n)), (2, .int (jv_oN ko))]) (v := nI (k + 1)) G 2 dX2_onlyConcrete_77 rfl (nI_1 k) (by decide) rfl rfl ?_
                  refine jv_goto (q := 5) G dX2_onlyConcrete_80 (by decide) ?_
                  refine jv_lo [0, 1, 3, 4, 5] (lo' := [(4, .int (nI (k + 1))), (3, .ref (T (10 * e + k))), (0, .ref (z 0 e)), (1, .int (nI n)), (2, .int (jv_oN ko))]) rfl ?_
                  have hp : (c_op ts n ko) k = true := by
                    show Option.any _ _ = _; rw [ht]; dsimp only [Option.any_some]; rw [hj7]; dsimp only [Option.bind_some]; rw [hm6]; simp [c2, c12]
                  refine ih (k + 1) (some k) (by omega) (by rw [m_last, if_pos hp]) (by rw [fb_ct_succ, hct, hp]; rfl)
                · cases c13
    | some k1 =>
      show jv_V E 6 h 0 0 (jv_Q E (jv_rR ((m_only (c_op ts n ko) ts.length).map (fun k => T (10 * e + k))) h) jv_no 0 0) 5 [(4, .int (nI k)), (3, .ref (T (10 * e + k1))), (0, .ref (z 0 e)), (1, .int (nI n)), (2, .int (jv_oN ko))] []
      obtain ⟨t, ht⟩ := jv_getLt (l := ts) (k := k) (by omega)
      have lt := jv_ltGet ht
      have k10t : k < 10 := by have := hE.2.2.2.1; omega
      have Ot := (hE.2.2.2.2.1 k t ht).2
      have Vt := (hE.2.2.2.2.1 k t ht).1
      have Yt := hE.2.1 k k10t
      have btn := Ot.1; have btk := Ot.2.1
      refine jv_iload (q := 7) G 0 dX2_onlyConcrete_5 rfl rfl ?_
      refine jv_aload_n (q := 8) G 2 dX2_onlyConcrete_7 rfl rfl rfl ?_
      refine jv_getI (q := 11) G dX2_onlyConcrete_8 fl_X2_33 rfl hE.1.1 hE.2.2.1 rfl ?_
      refine jv_icmp_geN (q := 14) (tgt := 83) G dX2_onlyConcrete_11 (by decide) rfl (by omega) (by omega) (fun c1 => ?_) (fun c1 => ?_)
      · omega
      · refine jv_iload_n (q := 15) G 3 dX2_onlyConcrete_14 rfl rfl rfl ?_
        refine jv_i2l (q := 16) (v := lN n) G dX2_onlyConcrete_15 (nI_l (by omega)) rfl ?_
        refine jv_aload_n (q := 17) G 2 dX2_onlyConcrete_16 rfl rfl rfl ?_
        refine jv_getQ (q := 20) G dX2_onlyConcrete_17 fl_X2_11 rfl hE.1.1 hE.1.2.1 rfl ?_
        refine jv_iload (q := 22) G 0 dX2_onlyConcrete_20 rfl rfl ?_
        refine jv_aaldQ (q := 23) G dX2_onlyConcrete_22 hE.1.2.2.1 rfl (by omega) (by decide) (hE.1.2.2.2.2.2.2 k k10t) rfl ?_
        refine jv_getI (q := 26) G dX2_onlyConcrete_23 fl_X2_40 rfl (hE.2.1 k k10t).1 (ct_0 (hE.2.2.2.2.1 k t ht).1) rfl ?_
        refine jv_callSN_I (q := 29) (h1 := h) (As := [.long (lN n), .int (nI (mt_n t))]) (rest := []) (ce' := 0) (sl' := 0) (r := jv_bI (Nat.testBit n (mt_n t))) G Z ml_X2_130 (jv_p1 746 (by decide +kernel) rfl) (k_hasBit hlt (by omega)) dX2_onlyConcrete_26 rfl (by decide) (by decide) (by decide) (by decide) (Nat.le_of_ble_eq_true rfl) rfl rfl rfl rfl ?_
        refine jv_if_eqB (q := 32) (tgt := 47) G dX2_onlyConcrete_29 (by decide) rfl (fun c2 => ?_) (fun c2 => ?_)
        · refine jv_null (q := 48) G dX2_onlyConcrete_47 rfl ?_
          refine jv_astoreR (q := 50) (lo' := [(5, va_rf none), (4, .int (nI k)), (3, .ref (T (10 * e + k1))), (0, .ref (z 0 e)), (1, .int (nI n)), (2, .int (jv_oN ko))]) (x := none) G dX2_onlyConcrete_48 (by decide) rfl rfl ?_
          refine jv_aloadR (q := 52) G 0 dX2_onlyConcrete_50 rfl rfl ?_
          refine jv_ifnull (q := 55) (tgt := 77) (x := none) G dX2_onlyConcrete_52 (by decide) rfl (fun c3 => ?_) (fun a4 c3 => ?_)
          · refine jv_iinc (q := 80) (lo' := [(4, .int (nI (k + 1))), (5, va_rf none), (3, .ref (T (10 * e + k1))), (0, .ref (z 0 e)), (1, .int (nI n)), (2, .int (jv_oN ko))]) (v := nI (k + 1)) G 1 dX2_onlyConcrete_77 rfl (nI_1 k) (by decide) rfl rfl ?_
            refine jv_goto (q := 5) G dX2_onlyConcrete_80 (by decide) ?_
            refine jv_lo [0, 2, 3, 4, 5] (lo' := [(4, .int (nI (k + 1))), (3, .ref (T (10 * e + k1))), (0, .ref (z 0 e)), (1, .int (nI n)), (2, .int (jv_oN ko))]) rfl ?_
            have hp : (c_op ts n ko) k = false := by
              show Option.any _ _ = _; rw [ht]; dsimp only [Option.any_some]; simp [c2]
            refine ih (k + 1) (some k1) (by omega) (by rw [m_last, if_neg (by rw [hp]; decide)]; exact hla) (by rw [fb_ct_succ, hct, hp]; rfl)
          · cases c3
        · refine jv_aload_n (q := 33) G 2 dX2_onlyConcrete_32 rfl rfl rfl ?_
          refine jv_getQ (q := 36) G dX2_onlyConcrete_33 fl_X2_11 rfl hE.1.1 hE.1.2.1 rfl ?_
          refine jv_iload (q := 38) G 0 dX2_onlyConcrete_36 rfl rfl ?_
          refine jv_aaldQ (q := 39) G dX2_onlyConcrete_38 hE.1.2.2.1 rfl (by omega) (by decide) (hE.1.2.2.2.2.2.2 k k10t) rfl ?_
          refine jv_iconst (q := 40) (v := nI 1) G dX2_onlyConcrete_39 (by decide) rfl ?_
          refine jv_iload_n (q := 41) G 4 dX2_onlyConcrete_40 rfl rfl rfl ?_
          refine jv_callV_R (q := 44) (h1 := h) (As := [.int (nI 1), .int (jv_oN ko)]) (rest := []) (ce' := 0) (sl' := 0) (r := ((m_oc t true ko).map (N (T (10 * e + k))))) G Z ml_X2_117 (k_own (w := true) (ko := ko) hlt Yt Vt Ot hK) (hE.2.1 k k10t).1 dX2_onlyConcrete_41 rfl (by decide) (by decide) (by decide) (by decide) (Nat.le_of_ble_eq_true rfl) rfl rfl rfl rfl ?_
          rcases Option.eq_none_or_eq_some (m_oc t true ko) with hj7 | ⟨j5, hj7⟩
          · refine jv_topR (y := none) (by rw [hj7]; rfl) ?_
            refine jv_goto (q := 48) G dX2_onlyConcrete_44 (by decide) ?_
            refine jv_astoreR (q := 50) (lo' := [(5, va_rf none), (4, .int (nI k)), (3, .ref (T (10 * e + k1))), (0, .ref (z 0 e)), (1, .int (nI n)), (2, .int (jv_oN ko))]) (x := none) G dX2_onlyConcrete_48 (by decide) rfl rfl ?_
            refine jv_aloadR (q := 52) G 0 dX2_onlyConcrete_50 rfl rfl ?_
            refine jv_ifnull (q := 55) (tgt := 77) (x := none) G dX2_onlyConcrete_52 (by decide) rfl (fun c8 => ?_) (fun a9 c8 => ?_)
            · refine jv_iinc (q := 80) (lo' := [(4, .int (nI (k + 1))), (5, va_rf none), (3, .ref (T (10 * e + k1))), (0, .ref (z 0 e)), (1, .int (nI n)), (2, .int (jv_oN ko))]) (v := nI (k + 1)) G 1 dX2_onlyConcrete_77 rfl (nI_1 k) (by decide) rfl rfl ?_
              refine jv_goto (q := 5) G dX2_onlyConcrete_80 (by decide) ?_
              refine jv_lo [0, 2, 3, 4, 5] (lo' := [(4, .int (nI (k + 1))), (3, .ref (T (10 * e + k1))), (0, .ref (z 0 e)), (1, .int (nI n)), (2, .int (jv_oN ko))]) rfl ?_
              have hp : (c_op ts n ko) k = false := by
                show Option.any _ _ = _; rw [ht]; dsimp only [Option.any_some]; rw [hj7]; simp [c2]
              refine ih (k + 1) (some k1) (by omega) (by rw [m_last, if_neg (by rw [hp]; decide)]; exact hla) (by rw [fb_ct_succ, hct, hp]; rfl)
            · cases c8
          · refine jv_topR (y := (some (N (T (10 * e + k)) j5))) (by rw [hj7]; rfl) ?_
            obtain ⟨m6, hm6, wm6, km6⟩ := oc_some hj7
            have lm6 := jv_ltGet hm6
            have Om6 := Ot.2.2.2.2.2.2 m6 (List.mem_of_getElem? hm6)
            have Vm6 := ct_m Vt hm6
            have j6m6 : j5 < 6 := by have := Ot.2.2.2.2.2.1; omega
            have bm6a := Om6.2.2.1
            refine jv_goto (q := 48) G dX2_onlyConcrete_44 (by decide) ?_
            refine jv_astore (q := 50) (lo' := [(5, .ref (N (T (10 * e + k)) j5)), (4, .int (nI k)), (3, .ref (T (10 * e + k1))), (0, .ref (z 0 e)), (1, .int (nI n)), (2, .int (jv_oN ko))]) G dX2_onlyConcrete_48 (by decide) rfl rfl ?_
            refine jv_aload (q := 52) G 0 dX2_onlyConcrete_50 rfl rfl ?_
            refine jv_ifnull (q := 55) (tgt := 77) (x := (some (N (T (10 * e + k)) j5))) G dX2_onlyConcrete_52 (by decide) rfl (fun c10 => ?_) (fun a11 c10 => ?_)
            · cases c10
            · refine jv_aload (q := 57) G 0 dX2_onlyConcrete_55 rfl rfl ?_
              refine jv_callV_I (q := 60) (h1 := h) (As := []) (rest := []) (ce' := 0) (sl' := 0) (r := jv_bI (m_abs m6)) G Z ml_X2_134 (k_isAbstract hlt (Yt.2.2.2.2.2.2.2 j5 j6m6).2 Vm6) (Yt.2.2.2.2.2.2.2 j5 j6m6).2 dX2_onlyConcrete_57 rfl (by decide) (by decide) (by decide) (by decide) (Nat.le_of_ble_eq_true rfl) rfl rfl rfl rfl ?_
              refine jv_if_neB (q := 63) (tgt := 77) G dX2_onlyConcrete_60 (by decide) rfl (fun c12 => ?_) (fun c12 => ?_)
              · refine jv_iinc (q := 80) (lo' := [(4, .int (nI (k + 1))), (5, .ref (N (T (10 * e + k)) j5)), (3, .ref (T (10 * e + k1))), (0, .ref (z 0 e)), (1, .int (nI n)), (2, .int (jv_oN ko))]) (v := nI (k + 1)) G 1 dX2_onlyConcrete_77 rfl (nI_1 k) (by decide) rfl rfl ?_
                refine jv_goto (q := 5) G dX2_onlyConcrete_80 (by decide) ?_
                refine jv_lo [0, 2, 3, 4, 5] (lo' := [(4, .int (nI (k + 1))), (3, .ref (T (10 * e + k1))), (0, .ref (z 0 e)), (1, .int (nI n)), (2, .int (jv_oN ko))]) rfl ?_
                have hp : (c_op ts n ko) k = false := by
                  show Option.any _ _ = _; rw [ht]; dsimp only [Option.any_some]; rw [hj7]; dsimp only [Option.bind_some]; rw [hm6]; simp [c2, c12]
                refine ih (k + 1) (some k1) (by omega) (by rw [m_last, if_neg (by rw [hp]; decide)]; exact hla) (by rw [fb_ct_succ, hct, hp]; rfl)
              · refine jv_aload_n (q := 64) G 2 dX2_onlyConcrete_63 rfl rfl rfl ?_
                refine jv_ifnull (q := 67) (tgt := 69) (x := (some (T (10 * e + k1)))) G dX2_onlyConcrete_64 (by decide) rfl (fun c13 => ?_) (fun a14 c13 => ?_)
                · cases c13
                · refine jv_null (q := 68) G dX2_onlyConcrete_67 rfl ?_
                  refine jv_aretN G hr dX2_onlyConcrete_68 (Nat.le_of_ble_eq_true rfl) (Nat.le_of_ble_eq_true rfl) ?_
                  have hp : (c_op ts n ko) k = true := by
                    show Option.any _ _ = _; rw [ht]; dsimp only [Option.any_some]; rw [hj7]; dsimp only [Option.bind_some]; rw [hm6]; simp [c2, c12]
                  have h2 : 2 ≤ fb_ct (c_op ts n ko) ts.length := by
                    have h3 : fb_ct (c_op ts n ko) (k + 1) = 2 := by rw [fb_ct_succ, hct, hp]; rfl
                    have h4 := fb_ct_mono (c_op ts n ko) (show k + 1 ≤ ts.length by omega)
                    omega
                  refine ⟨?_, rfl⟩
                  unfold m_only
                  rw [if_neg (by omega)]; rfl
set_option maxHeartbeats 4000000 in
set_option maxRecDepth 100000 in
theorem k_onlyConcrete {lA : Launch} (hlt : lA.stackTraces = false) {D : jv_D} {base : Nat} {z : Nat → Nat → Nat} {T : Nat → Nat} {N : Nat → Nat → Nat} {h : jv_H} {e : Nat} {ts : List mT} (hE : cv_E z T N h e ts) {n : Nat} (hn : n < 2 ^ 16) {ko : Option Nat} (hK : ∀ K, ko = some K → K < 64) : jv_Met lA D base yX2_onlyConcrete (.code yX2_onlyConcrete cX2_onlyConcrete 6 (some (.object "LinkArchive$Type"))) 2 0 0 [.ref (z 0 e), .int (nI n), .int (jv_oN ko)] h (jv_rR ((m_only (c_op ts n ko) ts.length).map (fun k => T (10 * e + k))) h) jv_no := by
  refine jv_ofV (lo := [(0, .ref (z 0 e)), (1, .int (nI n)), (2, .int (jv_oN ko))]) hlt (by decide) (Nat.le_of_ble_eq_true rfl) rfl (fun E hEl hEd hEz Z G hr ht hnm => ?_)
  subst hEl; subst hEd; subst hEz
  refine jv_null (q := 1) G dX2_onlyConcrete_0 rfl ?_
  refine jv_astore_nR (q := 2) (lo' := [(3, va_rf none), (0, .ref (z 0 e)), (1, .int (nI n)), (2, .int (jv_oN ko))]) (x := none) G dX2_onlyConcrete_1 rfl (by decide) rfl rfl ?_
  refine jv_iconst (q := 3) (v := nI 0) G dX2_onlyConcrete_2 (by decide) rfl ?_
  refine jv_istore (q := 5) (lo' := [(4, .int (nI 0)), (3, va_rf none), (0, .ref (z 0 e)), (1, .int (nI n)), (2, .int (jv_oN ko))]) G dX2_onlyConcrete_3 (by decide) rfl rfl ?_
  refine jv_lo [0, 1, 2, 3, 4] (lo' := [(4, .int (nI 0)), (3, va_rf none), (0, .ref (z 0 e)), (1, .int (nI n)), (2, .int (jv_oN ko))]) rfl ?_
  exact k_oc_loop hE hn hK hlt G Z hr ts.length 0 none (by omega) rfl rfl
