def c_nm (ts : List mT) (rn : Option Nat) : Int32 := jv_oN ((rn.bind (fun k => ts[k]?)).map mt_n)
def c_me (same : Bool) (ts : List mT) (Us : Nat → List Nat) (p : Nat) (su : Option Nat) (kd : Nat) (ty rc : Int32) (ko : Option Nat) (cv ow : Int32) : Nat := if ¬ cv = -1 ∧ same = false then (if c_ci ts (c_ho ts Us kd ty ko) ko = cv then 0 else 9) else if ¬ c_hr ts Us p su kd ty rc ko (c_ho ts Us kd ty ko) = 0 ∨ m_rv kd = false then c_hr ts Us p su kd ty rc ko (c_ho ts Us kd ty ko) else if c_hn ts Us kd ty rc ko (c_rn ts Us (c_ho ts Us kd ty ko) ko rc) = 0 ∧ ¬ c_nm ts (c_rn ts Us (c_ho ts Us kd ty ko) ko rc) = ow then 8 else c_hn ts Us kd ty rc ko (c_rn ts Us (c_ho ts Us kd ty ko) ko rc)
theorem hr_lt (ts : List mT) (Us : Nat → List Nat) (p : Nat) (su : Option Nat) (kd : Nat) (ty rc : Int32) (ko ho : Option Nat) : c_hr ts Us p su kd ty rc ko ho < 10 := by
  unfold c_hr
  repeat' first | decide | split
theorem hn_lt (ts : List mT) (Us : Nat → List Nat) (kd : Nat) (ty rc : Int32) (ko rn : Option Nat) : c_hn ts Us kd ty rc ko rn < 10 := by
  unfold c_hn
  repeat' first | decide | split
theorem me_lt (same : Bool) (ts : List mT) (Us : Nat → List Nat) (p : Nat) (su : Option Nat) (kd : Nat) (ty rc : Int32) (ko : Option Nat) (cv ow : Int32) : c_me same ts Us p su kd ty rc ko cv ow < 10 := by
  unfold c_me
  repeat' first | decide | exact hr_lt _ _ _ _ _ _ _ _ _ | exact hn_lt _ _ _ _ _ _ _ | split
set_option maxHeartbeats 4000000 in
set_option maxRecDepth 100000 in
theorem k_meeting {lA : Launch} (hlt : lA.stackTraces = false) {D : jv_D} {base : Nat} {z : Nat → Nat → Nat} {T : Nat → Nat} {N : Nat → Nat → Nat} {h : jv_H} {e : Nat} {ts : List mT} (hE : cv_E z T N h e ts) {Us : Nat → List Nat} (hU : cv_Us z T h e ts Us) {u kd : Nat} {ty rc cv ow : Int32} {ko : Option Nat} (hu : cv_use h u kd ty ko rc cv ow) (hkd : kd < 6) (hK : ∀ K, ko = some K → K < 64) {c ec p : Nat} {su : Option Nat} (hc : cv_ca h c ec p su) (hp : p < 5) (he : e < 8) (hec : ec < 8) : jv_Met lA D base yX0_meeting (.code yX0_meeting cX0_meeting 6 (some .int)) 6 0 0 [.ref c, .ref u, .ref (z 0 e)] h (jv_rI (nI (c_me (decide (e = ec)) ts Us p su kd ty rc ko cv ow)) h) jv_no := by
  refine jv_ofV (lo := [(0, .ref c), (1, .ref u), (2, .ref (z 0 e))]) hlt (by decide) (Nat.le_of_ble_eq_true rfl) rfl (fun E hEl hEd hEz Z G hr ht hnm => ?_)
  subst hEl; subst hEd; subst hEz
  refine jv_aload_n (q := 1) G 1 dX0_meeting_0 rfl rfl rfl ?_
  refine jv_aload_n (q := 2) G 2 dX0_meeting_1 rfl rfl rfl ?_
  refine jv_callV_R (q := 5) (h1 := h) (As := [.ref (z 0 e)]) (rest := []) (ce' := 0) (sl' := 0) (r := ((c_ho ts Us kd ty ko).map (fun k => T (10 * e + k)))) G Z ml_X0_52 (k_holder hlt hE hU hu hkd hK) hu.1 dX0_meeting_2 rfl (by decide) (by decide) (by decide) (by decide) (Nat.le_of_ble_eq_true rfl) rfl rfl rfl rfl ?_
  rcases Option.eq_none_or_eq_some (c_ho ts Us kd ty ko) with hk3 | ⟨k1, hk3⟩
  · refine jv_topR (y := none) (by rw [hk3]; rfl) ?_
    refine jv_astore_nR (q := 6) (lo' := [(3, va_rf none), (0, .ref c), (1, .ref u), (2, .ref (z 0 e))]) (x := none) G dX0_meeting_5 rfl (by decide) rfl rfl ?_
    refine jv_aload_n (q := 7) G 2 dX0_meeting_6 rfl rfl rfl ?_
    refine jv_getI (q := 10) G dX0_meeting_7 fl_X0_56 rfl hu.1 hu.2.2.2.2.2.1 rfl ?_
    refine jv_iconst (q := 11) (v := (-1)) G dX0_meeting_10 (by decide) rfl ?_
    refine jv_icmp_eq (q := 14) (tgt := 44) G dX0_meeting_11 (by decide) rfl (fun c4 => ?_) (fun c4 => ?_)
    · have c4d : (cv = -1) = True := eq_true c4
      refine jv_aload_n (q := 45) G 2 dX0_meeting_44 rfl rfl rfl ?_
      refine jv_aload_n (q := 46) G 3 dX0_meeting_45 rfl rfl rfl ?_
      refine jv_aload_n (q := 47) G 1 dX0_meeting_46 rfl rfl rfl ?_
      refine jv_aload_nR (q := 48) G 0 dX0_meeting_47 rfl rfl rfl ?_
      refine jv_callV_I (q := 51) (h1 := h) (As := [.ref (z 0 e), .ref c, va_rf none]) (rest := []) (ce' := 0) (sl' := 0) (r := nI (c_hr ts Us p su kd ty rc ko none)) G Z ml_X0_66 (k_reach0 hlt hE hU hu hkd hK hc hp) hu.1 dX0_meeting_48 rfl (by decide) (by decide) (by decide) (by decide) (Nat.le_of_ble_eq_true rfl) rfl rfl rfl rfl ?_
      have hb1 := hr_lt ts Us p su kd ty rc ko none
      refine jv_istore (q := 53) (lo' := [(4, .int (nI (c_hr ts Us p su kd ty rc ko none))), (3, va_rf none), (0, .ref c), (1, .ref u), (2, .ref (z 0 e))]) G dX0_meeting_51 (by decide) rfl rfl ?_
      refine jv_iload (q := 55) G 0 dX0_meeting_53 rfl rfl ?_
      refine jv_if_neN (q := 58) (tgt := 65) G dX0_meeting_55 (by decide) rfl (by omega) (fun c5 => ?_) (fun c5 => ?_)
      · refine jv_iload (q := 67) G 0 dX0_meeting_65 rfl rfl ?_
        refine jv_iret G hr dX0_meeting_67 (Nat.le_of_ble_eq_true rfl) (Nat.le_of_ble_eq_true rfl) ?_
        refine ⟨?_, rfl⟩; unfold c_me; simp only [hk3, c4d, c5, not_true_eq_false, not_false_eq_true, false_and, and_false, and_true, true_and, and_self, if_true, if_false, reduceIte, Bool.true_eq_false, Bool.false_eq_true, or_true, true_or, or_false, false_or, or_self]
      · refine jv_aload_n (q := 59) G 3 dX0_meeting_58 rfl rfl rfl ?_
        refine jv_callV_I (q := 62) (h1 := h) (As := []) (rest := []) (ce' := 0) (sl' := 0) (r := jv_bI (m_rv kd)) G Z ml_X0_70 (k_hasReceiver hlt hu hkd) hu.1 dX0_meeting_59 rfl (by decide) (by decide) (by decide) (by decide) (Nat.le_of_ble_eq_true rfl) rfl rfl rfl rfl ?_
        refine jv_if_neB (q := 65) (tgt := 68) G dX0_meeting_62 (by decide) rfl (fun c6 => ?_) (fun c6 => ?_)
        · refine jv_aload_n (q := 69) G 3 dX0_meeting_68 rfl rfl rfl ?_
          refine jv_aload_n (q := 70) G 4 dX0_meeting_69 rfl rfl rfl ?_
          refine jv_aload_nR (q := 71) G 1 dX0_meeting_70 rfl rfl rfl ?_
          refine jv_callV_R (q := 74) (h1 := h) (As := [.ref (z 0 e), va_rf none]) (rest := []) (ce' := 0) (sl' := 0) (r := ((c_rn ts Us none ko rc).map (fun k => T (10 * e + k)))) G Z ml_X0_74 (k_runner0 hlt hE hU hu hkd hK) hu.1 dX0_meeting_71 rfl (by decide) (by decide) (by decide) (by decide) (Nat.le_of_ble_eq_true rfl) rfl rfl rfl rfl ?_
          rcases Option.eq_none_or_eq_some (c_rn ts Us none ko rc) with hk9 | ⟨k7, hk9⟩
          · refine jv_topR (y := none) (by rw [hk9]; rfl) ?_
            refine jv_astoreR (q := 76) (lo' := [(5, va_rf none), (4, .int (nI (c_hr ts Us p su kd ty rc ko none))), (3, va_rf none), (0, .ref c), (1, .ref u), (2, .ref (z 0 e))]) (x := none) G dX0_meeting_74 (by decide) rfl rfl ?_
            refine jv_aload_n (q := 77) G 4 dX0_meeting_76 rfl rfl rfl ?_
            refine jv_aload_n (q := 78) G 5 dX0_meeting_77 rfl rfl rfl ?_
            refine jv_aloadR (q := 80) G 0 dX0_meeting_78 rfl rfl ?_
            refine jv_callV_I (q := 83) (h1 := h) (As := [.ref (z 0 e), va_rf none]) (rest := []) (ce' := 0) (sl' := 0) (r := nI (c_hn ts Us kd ty rc ko none)) G Z ml_X0_78 (k_run0 hlt hE hU hu hkd hK) hu.1 dX0_meeting_80 rfl (by decide) (by decide) (by decide) (by decide) (Nat.le_of_ble_eq_true rfl) rfl rfl rfl rfl ?_
            have hb2 := hn_lt ts Us kd ty rc ko none
            refine jv_istore (q := 85) (lo' := [(4, .int (nI (c_hn ts Us kd ty rc ko none))), (5, va_rf none), (3, va_rf none), (0, .ref c), (1, .ref u), (2, .ref (z 0 e))]) G dX0_meeting_83 (by decide) rfl rfl ?_
            refine jv_iload (q := 87) G 0 dX0_meeting_85 rfl rfl ?_
            refine jv_if_neN (q := 90) (tgt := 107) G dX0_meeting_87 (by decide) rfl (by omega) (fun c10 => ?_) (fun c10 => ?_)
            · refine jv_iload (q := 109) G 0 dX0_meeting_107 rfl rfl ?_
              refine jv_iret G hr dX0_meeting_109 (Nat.le_of_ble_eq_true rfl) (Nat.le_of_ble_eq_true rfl) ?_
              have hnm9 : c_nm ts none = -1 := rfl
              refine ⟨?_, rfl⟩; unfold c_me; simp only [hk3, c4d, c5, c6, c10, hk9, hnm9, not_true_eq_false, not_false_eq_true, false_and, and_false, and_true, true_and, and_self, if_true, if_false, reduceIte, Bool.true_eq_false, Bool.false_eq_true, or_true, true_or, or_false, false_or, or_self]
            · refine jv_aloadR (q := 92) G 1 dX0_meeting_90 rfl rfl ?_
              refine jv_callSN_I (q := 95) (h1 := h) (As := [va_rf none]) (rest := []) (ce' := 0) (sl' := 0) (r := (-1)) G Z ml_X0_82 (jv_p1 757 (by decide +kernel) rfl) (k_nameOf0 hlt) dX0_meeting_92 rfl (by decide) (by decide) (by decide) (by decide) (Nat.le_of_ble_eq_true rfl) rfl rfl rfl rfl ?_
              refine jv_aload_n (q := 96) G 4 dX0_meeting_95 rfl rfl rfl ?_
              refine jv_getI (q := 99) G dX0_meeting_96 fl_X0_85 rfl hu.1 hu.2.2.2.2.2.2 rfl ?_
              refine jv_icmp_eq (q := 102) (tgt := 107) G dX0_meeting_99 (by decide) rfl (fun c11 => ?_) (fun c11 => ?_)
              · have c11d : ((-1) = ow) = True := eq_true c11
                refine jv_iload (q := 109) G 0 dX0_meeting_107 rfl rfl ?_
                refine jv_iret G hr dX0_meeting_109 (Nat.le_of_ble_eq_true rfl) (Nat.le_of_ble_eq_true rfl) ?_
                have hnm9 : c_nm ts none = -1 := rfl
                refine ⟨?_, rfl⟩; unfold c_me; simp only [hk3, c4d, c5, c6, c10, c11d, hk9, hnm9, not_true_eq_false, not_false_eq_true, false_and, and_false, and_true, true_and, and_self, if_true, if_false, reduceIte, Bool.true_eq_false, Bool.false_eq_true, or_true, true_or, or_false, false_or, or_self]
              · have c11d : ((-1) = ow) = False := eq_false c11
                refine jv_bipush (q := 104) (v := nI 8) G dX0_meeting_102 (by decide) rfl ?_
                refine jv_goto (q := 109) G dX0_meeting_104 (by decide) ?_
                refine jv_iret G hr dX0_meeting_109 (Nat.le_of_ble_eq_true rfl) (Nat.le_of_ble_eq_true rfl) ?_
                have hnm9 : c_nm ts none = -1 := rfl
                refine ⟨?_, rfl⟩; unfold c_me; simp only [hk3, c4d, c5, c6, c10, c11d, hk9, hnm9, not_true_eq_false, not_false_eq_true, false_and, and_false, and_true, true_and, and_self, if_true, if_false, reduceIte, Bool.true_eq_false, Bool.false_eq_true, or_true, true_or, or_false, false_or, or_self]
          · refine jv_topR (y := (some (T (10 * e + k7)))) (by rw [hk9]; rfl) ?_
            obtain ⟨t8, ht8, nt8⟩ := rn_get hk9
            have lt8 := jv_ltGet ht8
            have k10t8 : k7 < 10 := by have := hE.2.2.2.1; omega
            have Ot8 := (hE.2.2.2.2.1 k7 t8 ht8).2
            have Vt8 := (hE.2.2.2.2.1 k7 t8 ht8).1
            have Yt8 := hE.2.1 k7 k10t8
            have bt8n := Ot8.1; have bt8k := Ot8.2.1
            refine jv_astore (q := 76) (lo' := [(5, .ref (T (10 * e + k7))), (4, .int (nI (c_hr ts Us p su kd ty rc ko none))), (3, va_rf none), (0, .ref c), (1, .ref u), (2, .ref (z 0 e))]) G dX0_meeting_74 (by decide) rfl rfl ?_
            refine jv_aload_n (q := 77) G 4 dX0_meeting_76 rfl rfl rfl ?_
            refine jv_aload_n (q := 78) G 5 dX0_meeting_77 rfl rfl rfl ?_
            refine jv_aload (q := 80) G 0 dX0_meeting_78 rfl rfl ?_
            refine jv_callV_I (q := 83) (h1 := h) (As := [.ref (z 0 e), .ref (T (10 * e + k7))]) (rest := []) (ce' := 0) (sl' := 0) (r := nI (c_hn ts Us kd ty rc ko (some k7))) G Z ml_X0_78 (k_run1 hlt hE hU hu hkd hK ht8) hu.1 dX0_meeting_80 rfl (by decide) (by decide) (by decide) (by decide) (Nat.le_of_ble_eq_true rfl) rfl rfl rfl rfl ?_
            have hb2 := hn_lt ts Us kd ty rc ko (some k7)
            refine jv_istore (q := 85) (lo' := [(4, .int (nI (c_hn ts Us kd ty rc ko (some k7)))), (5, .ref (T (10 * e + k7))), (3, va_rf none), (0, .ref c), (1, .ref u), (2, .ref (z 0 e))]) G dX0_meeting_83 (by decide) rfl rfl ?_
            refine jv_iload (q := 87) G 0 dX0_meeting_85 rfl rfl ?_
            refine jv_if_neN (q := 90) (tgt := 107) G dX0_meeting_87 (by decide) rfl (by omega) (fun c12 => ?_) (fun c12 => ?_)
            · refine jv_iload (q := 109) G 0 dX0_meeting_107 rfl rfl ?_
              refine jv_iret G hr dX0_meeting_109 (Nat.le_of_ble_eq_true rfl) (Nat.le_of_ble_eq_true rfl) ?_
              have hnm9 : c_nm ts (some k7) = nI (mt_n t8) := by unfold c_nm; rw [Option.bind_some, ht8]; rfl
              refine ⟨?_, rfl⟩; unfold c_me; simp only [hk3, c4d, c5, c6, c12, hk9, hnm9, not_true_eq_false, not_false_eq_true, false_and, and_false, and_true, true_and, and_self, if_true, if_false, reduceIte, Bool.true_eq_false, Bool.false_eq_true, or_true, true_or, or_false, false_or, or_self]
            · refine jv_aload (q := 92) G 1 dX0_meeting_90 rfl rfl ?_
              refine jv_callSN_I (q := 95) (h1 := h) (As := [.ref (T (10 * e + k7))]) (rest := []) (ce' := 0) (sl' := 0) (r := nI (mt_n t8)) G Z ml_X0_82 (jv_p1 757 (by decide +kernel) rfl) (k_nameOf1 hlt Yt8.1 (ct_0 Vt8)) dX0_meeting_92 rfl (by decide) (by decide) (by decide) (by decide) (Nat.le_of_ble_eq_true rfl) rfl rfl rfl rfl ?_
              refine jv_aload_n (q := 96) G 4 dX0_meeting_95 rfl rfl rfl ?_
              refine jv_getI (q := 99) G dX0_meeting_96 fl_X0_85 rfl hu.1 hu.2.2.2.2.2.2 rfl ?_
              refine jv_icmp_eq (q := 102) (tgt := 107) G dX0_meeting_99 (by decide) rfl (fun c13 => ?_) (fun c13 => ?_)
              · have c13d : (nI (mt_n t8) = ow) = True := eq_true c13
                refine jv_iload (q := 109) G 0 dX0_meeting_107 rfl rfl ?_
                refine jv_iret G hr dX0_meeting_109 (Nat.le_of_ble_eq_true rfl) (Nat.le_of_ble_eq_true rfl) ?_
                have hnm9 : c_nm ts (some k7) = nI (mt_n t8) := by unfold c_nm; rw [Option.bind_some, ht8]; rfl
                refine ⟨?_, rfl⟩; unfold c_me; simp only [hk3, c4d, c5, c6, c12, c13d, hk9, hnm9, not_true_eq_false, not_false_eq_true, false_and, and_false, and_true, true_and, and_self, if_true, if_false, reduceIte, Bool.true_eq_false, Bool.false_eq_true, or_true, true_or, or_false, false_or, or_self]
              · have c13d : (nI (mt_n t8) = ow) = False := eq_false c13
                refine jv_bipush (q := 104) (v := nI 8) G dX0_meeting_102 (by decide) rfl ?_
                refine jv_goto (q := 109) G dX0_meeting_104 (by decide) ?_
                refine jv_iret G hr dX0_meeting_109 (Nat.le_of_ble_eq_true rfl) (Nat.le_of_ble_eq_true rfl) ?_
                have hnm9 : c_nm ts (some k7) = nI (mt_n t8) := by unfold c_nm; rw [Option.bind_some, ht8]; rfl
                refine ⟨?_, rfl⟩; unfold c_me; simp only [hk3, c4d, c5, c6, c12, c13d, hk9, hnm9, not_true_eq_false, not_false_eq_true, false_and, and_false, and_true, true_and, and_self, if_true, if_false, reduceIte, Bool.true_eq_false, Bool.false_eq_true, or_true, true_or, or_false, false_or, or_self]
        · refine jv_iload (q := 67) G 0 dX0_meeting_65 rfl rfl ?_
          refine jv_iret G hr dX0_meeting_67 (Nat.le_of_ble_eq_true rfl) (Nat.le_of_ble_eq_true rfl) ?_
          refine ⟨?_, rfl⟩; unfold c_me; simp only [hk3, c4d, c5, c6, not_true_eq_false, not_false_eq_true, false_and, and_false, and_true, true_and, and_self, if_true, if_false, reduceIte, Bool.true_eq_false, Bool.false_eq_true, or_true, true_or, or_false, false_or, or_self]
    · have c4d : (cv = -1) = False := eq_false c4
      refine jv_aload_n (q := 15) G 3 dX0_meeting_14 rfl rfl rfl ?_
      refine jv_getI (q := 18) G dX0_meeting_15 fl_X0_59 rfl hE.1.1 hE.1.2.2.2.2.2.1 rfl ?_
      refine jv_aload_n (q := 19) G 1 dX0_meeting_18 rfl rfl rfl ?_
      refine jv_getI (q := 22) G dX0_meeting_19 fl_X0_18 rfl hc.1 hc.2.1 rfl ?_
      refine jv_icmp_eqN (q := 25) (tgt := 44) G dX0_meeting_22 (by decide) rfl (by omega) (by omega) (fun c14 => ?_) (fun c14 => ?_)
      · have c14d : decide (e = ec) = true := decide_eq_true c14
        refine jv_aload_n (q := 45) G 2 dX0_meeting_44 rfl rfl rfl ?_
        refine jv_aload_n (q := 46) G 3 dX0_meeting_45 rfl rfl rfl ?_
        refine jv_aload_n (q := 47) G 1 dX0_meeting_46 rfl rfl rfl ?_
        refine jv_aload_nR (q := 48) G 0 dX0_meeting_47 rfl rfl rfl ?_
        refine jv_callV_I (q := 51) (h1 := h) (As := [.ref (z 0 e), .ref c, va_rf none]) (rest := []) (ce' := 0) (sl' := 0) (r := nI (c_hr ts Us p su kd ty rc ko none)) G Z ml_X0_66 (k_reach0 hlt hE hU hu hkd hK hc hp) hu.1 dX0_meeting_48 rfl (by decide) (by decide) (by decide) (by decide) (Nat.le_of_ble_eq_true rfl) rfl rfl rfl rfl ?_
        have hb1 := hr_lt ts Us p su kd ty rc ko none
        refine jv_istore (q := 53) (lo' := [(4, .int (nI (c_hr ts Us p su kd ty rc ko none))), (3, va_rf none), (0, .ref c), (1, .ref u), (2, .ref (z 0 e))]) G dX0_meeting_51 (by decide) rfl rfl ?_
        refine jv_iload (q := 55) G 0 dX0_meeting_53 rfl rfl ?_
        refine jv_if_neN (q := 58) (tgt := 65) G dX0_meeting_55 (by decide) rfl (by omega) (fun c15 => ?_) (fun c15 => ?_)
        · refine jv_iload (q := 67) G 0 dX0_meeting_65 rfl rfl ?_
          refine jv_iret G hr dX0_meeting_67 (Nat.le_of_ble_eq_true rfl) (Nat.le_of_ble_eq_true rfl) ?_
          refine ⟨?_, rfl⟩; unfold c_me; simp only [hk3, c4d, c14d, c15, not_true_eq_false, not_false_eq_true, false_and, and_false, and_true, true_and, and_self, if_true, if_false, reduceIte, Bool.true_eq_false, Bool.false_eq_true, or_true, true_or, or_false, false_or, or_self]
        · refine jv_aload_n (q := 59) G 3 dX0_meeting_58 rfl rfl rfl ?_
          refine jv_callV_I (q := 62) (h1 := h) (As := []) (rest := []) (ce' := 0) (sl' := 0) (r := jv_bI (m_rv kd)) G Z ml_X0_70 (k_hasReceiver hlt hu hkd) hu.1 dX0_meeting_59 rfl (by decide) (by decide) (by decide) (by decide) (Nat.le_of_ble_eq_true rfl) rfl rfl rfl rfl ?_
          refine jv_if_neB (q := 65) (tgt := 68) G dX0_meeting_62 (by decide) rfl (fun c16 => ?_) (fun c16 => ?_)
          · refine jv_aload_n (q := 69) G 3 dX0_meeting_68 rfl rfl rfl ?_
            refine jv_aload_n (q := 70) G 4 dX0_meeting_69 rfl rfl rfl ?_
            refine jv_aload_nR (q := 71) G 1 dX0_meeting_70 rfl rfl rfl ?_
            refine jv_callV_R (q := 74) (h1 := h) (As := [.ref (z 0 e), va_rf none]) (rest := []) (ce' := 0) (sl' := 0) (r := ((c_rn ts Us none ko rc).map (fun k => T (10 * e + k)))) G Z ml_X0_74 (k_runner0 hlt hE hU hu hkd hK) hu.1 dX0_meeting_71 rfl (by decide) (by decide) (by decide) (by decide) (Nat.le_of_ble_eq_true rfl) rfl rfl rfl rfl ?_
            rcases Option.eq_none_or_eq_some (c_rn ts Us none ko rc) with hk19 | ⟨k17, hk19⟩
            · refine jv_topR (y := none) (by rw [hk19]; rfl) ?_
              refine jv_astoreR (q := 76) (lo' := [(5, va_rf none), (4, .int (nI (c_hr ts Us p su kd ty rc ko none))), (3, va_rf none), (0, .ref c), (1, .ref u), (2, .ref (z 0 e))]) (x := none) G dX0_meeting_74 (by decide) rfl rfl ?_
              refine jv_aload_n (q := 77) G 4 dX0_meeting_76 rfl rfl rfl ?_
              refine jv_aload_n (q := 78) G 5 dX0_meeting_77 rfl rfl rfl ?_
              refine jv_aloadR (q := 80) G 0 dX0_meeting_78 rfl rfl ?_
              refine jv_callV_I (q := 83) (h1 := h) (As := [.ref (z 0 e), va_rf none]) (rest := []) (ce' := 0) (sl' := 0) (r := nI (c_hn ts Us kd ty rc ko none)) G Z ml_X0_78 (k_run0 hlt hE hU hu hkd hK) hu.1 dX0_meeting_80 rfl (by decide) (by decide) (by decide) (by decide) (Nat.le_of_ble_eq_true rfl) rfl rfl rfl rfl ?_
              have hb2 := hn_lt ts Us kd ty rc ko none
              refine jv_istore (q := 85) (lo' := [(4, .int (nI (c_hn ts Us kd ty rc ko none))), (5, va_rf none), (3, va_rf none), (0, .ref c), (1, .ref u), (2, .ref (z 0 e))]) G dX0_meeting_83 (by decide) rfl rfl ?_
              refine jv_iload (q := 87) G 0 dX0_meeting_85 rfl rfl ?_
              refine jv_if_neN (q := 90) (tgt := 107) G dX0_meeting_87 (by decide) rfl (by omega) (fun c20 => ?_) (fun c20 => ?_)
              · refine jv_iload (q := 109) G 0 dX0_meeting_107 rfl rfl ?_
                refine jv_iret G hr dX0_meeting_109 (Nat.le_of_ble_eq_true rfl) (Nat.le_of_ble_eq_true rfl) ?_
                have hnm9 : c_nm ts none = -1 := rfl
                refine ⟨?_, rfl⟩; unfold c_me; simp only [hk3, c4d, c14d, c15, c16, c20, hk19, hnm9, not_true_eq_false, not_false_eq_true, false_and, and_false, and_true, true_and, and_self, if_true, if_false, reduceIte, Bool.true_eq_false, Bool.false_eq_true, or_true, true_or, or_false, false_or, or_self]
              · refine jv_aloadR (q := 92) G 1 dX0_meeting_90 rfl rfl ?_
                refine jv_callSN_I (q := 95) (h1 := h) (As := [va_rf none]) (rest := []) (ce' := 0) (sl' := 0) (r := (-1)) G Z ml_X0_82 (jv_p1 757 (by decide +kernel) rfl) (k_nameOf0 hlt) dX0_meeting_92 rfl (by decide) (by decide) (by decide) (by decide) (Nat.le_of_ble_eq_true rfl) rfl rfl rfl rfl ?_
                refine jv_aload_n (q := 96) G 4 dX0_meeting_95 rfl rfl rfl ?_
                refine jv_getI (q := 99) G dX0_meeting_96 fl_X0_85 rfl hu.1 hu.2.2.2.2.2.2 rfl ?_
                refine jv_icmp_eq (q := 102) (tgt := 107) G dX0_meeting_99 (by decide) rfl (fun c21 => ?_) (fun c21 => ?_)
                · have c21d : ((-1) = ow) = True := eq_true c21
                  refine jv_iload (q := 109) G 0 dX0_meeting_107 rfl rfl ?_
                  refine jv_iret G hr dX0_meeting_109 (Nat.le_of_ble_eq_true rfl) (Nat.le_of_ble_eq_true rfl) ?_
                  have hnm9 : c_nm ts none = -1 := rfl
                  refine ⟨?_, rfl⟩; unfold c_me; simp only [hk3, c4d, c14d, c15, c16, c20, c21d, hk19, hnm9, not_true_eq_false, not_false_eq_true, false_and, and_false, and_true, true_and, and_self, if_true, if_false, reduceIte, Bool.true_eq_false, Bool.false_eq_true, or_true, true_or, or_false, false_or, or_self]
                · have c21d : ((-1) = ow) = False := eq_false c21
                  refine jv_bipush (q := 104) (v := nI 8) G dX0_meeting_102 (by decide) rfl ?_
                  refine jv_goto (q := 109) G dX0_meeting_104 (by decide) ?_
                  refine jv_iret G hr dX0_meeting_109 (Nat.le_of_ble_eq_true rfl) (Nat.le_of_ble_eq_true rfl) ?_
                  have hnm9 : c_nm ts none = -1 := rfl
                  refine ⟨?_, rfl⟩; unfold c_me; simp only [hk3, c4d, c14d, c15, c16, c20, c21d, hk19, hnm9, not_true_eq_false, not_false_eq_true, false_and, and_false, and_true, true_and, and_self, if_true, if_false, reduceIte, Bool.true_eq_false, Bool.false_eq_true, or_true, true_or, or_false, false_or, or_self]
            · refine jv_topR (y := (some (T (10 * e + k17)))) (by rw [hk19]; rfl) ?_
              obtain ⟨t18, ht18, nt18⟩ := rn_get hk19
              have lt18 := jv_ltGet ht18
              have k10t18 : k17 < 10 := by have := hE.2.2.2.1; omega
              have Ot18 := (hE.2.2.2.2.1 k17 t18 ht18).2
              have Vt18 := (hE.2.2.2.2.1 k17 t18 ht18).1
              have Yt18 := hE.2.1 k17 k10t18
              have bt18n := Ot18.1; have bt18k := Ot18.2.1
              refine jv_astore (q := 76) (lo' := [(5, .ref (T (10 * e + k17))), (4, .int (nI (c_hr ts Us p su kd ty rc ko none))), (3, va_rf none), (0, .ref c), (1, .ref u), (2, .ref (z 0 e))]) G dX0_meeting_74 (by decide) rfl rfl ?_
              refine jv_aload_n (q := 77) G 4 dX0_meeting_76 rfl rfl rfl ?_
              refine jv_aload_n (q := 78) G 5 dX0_meeting_77 rfl rfl rfl ?_
              refine jv_aload (q := 80) G 0 dX0_meeting_78 rfl rfl ?_
              refine jv_callV_I (q := 83) (h1 := h) (As := [.ref (z 0 e), .ref (T (10 * e + k17))]) (rest := []) (ce' := 0) (sl' := 0) (r := nI (c_hn ts Us kd ty rc ko (some k17))) G Z ml_X0_78 (k_run1 hlt hE hU hu hkd hK ht18) hu.1 dX0_meeting_80 rfl (by decide) (by decide) (by decide) (by decide) (Nat.le_of_ble_eq_true rfl) rfl rfl rfl rfl ?_
              have hb2 := hn_lt ts Us kd ty rc ko (some k17)
              refine jv_istore (q := 85) (lo' := [(4, .int (nI (c_hn ts Us kd ty rc ko (some k17)))), (5, .ref (T (10 * e + k17))), (3, va_rf none), (0, .ref c), (1, .ref u), (2, .ref (z 0 e))]) G dX0_meeting_83 (by decide) rfl rfl ?_
              refine jv_iload (q := 87) G 0 dX0_meeting_85 rfl rfl ?_
              refine jv_if_neN (q := 90) (tgt := 107) G dX0_meeting_87 (by decide) rfl (by omega) (fun c22 => ?_) (fun c22 => ?_)
              · refine jv_iload (q := 109) G 0 dX0_meeting_107 rfl rfl ?_
                refine jv_iret G hr dX0_meeting_109 (Nat.le_of_ble_eq_true rfl) (Nat.le_of_ble_eq_true rfl) ?_
                have hnm9 : c_nm ts (some k17) = nI (mt_n t18) := by unfold c_nm; rw [Option.bind_some, ht18]; rfl
                refine ⟨?_, rfl⟩; unfold c_me; simp only [hk3, c4d, c14d, c15, c16, c22, hk19, hnm9, not_true_eq_false, not_false_eq_true, false_and, and_false, and_true, true_and, and_self, if_true, if_false, reduceIte, Bool.true_eq_false, Bool.false_eq_true, or_true, true_or, or_false, false_or, or_self]
              · refine jv_aload (q := 92) G 1 dX0_meeting_90 rfl rfl ?_
                refine jv_callSN_I (q := 95) (h1 := h) (As := [.ref (T (10 * e + k17))]) (rest := []) (ce' := 0) (sl' := 0) (r := nI (mt_n t18)) G Z ml_X0_82 (jv_p1 757 (by decide +kernel) rfl) (k_nameOf1 hlt Yt18.1 (ct_0 Vt18)) dX0_meeting_92 rfl (by decide) (by decide) (by decide) (by decide) (Nat.le_of_ble_eq_true rfl) rfl rfl rfl rfl ?_
                refine jv_aload_n (q := 96) G 4 dX0_meeting_95 rfl rfl rfl ?_
                refine jv_getI (q := 99) G dX0_meeting_96 fl_X0_85 rfl hu.1 hu.2.2.2.2.2.2 rfl ?_
                refine jv_icmp_eq (q := 102) (tgt := 107) G dX0_meeting_99 (by decide) rfl (fun c23 => ?_) (fun c23 => ?_)
                · have c23d : (nI (mt_n t18) = ow) = True := eq_true c23
                  refine jv_iload (q := 109) G 0 dX0_meeting_107 rfl rfl ?_
                  refine jv_iret G hr dX0_meeting_109 (Nat.le_of_ble_eq_true rfl) (Nat.le_of_ble_eq_true rfl) ?_
                  have hnm9 : c_nm ts (some k17) = nI (mt_n t18) := by unfold c_nm; rw [Option.bind_some, ht18]; rfl
                  refine ⟨?_, rfl⟩; unfold c_me; simp only [hk3, c4d, c14d, c15, c16, c22, c23d, hk19, hnm9, not_true_eq_false, not_false_eq_true, false_and, and_false, and_true, true_and, and_self, if_true, if_false, reduceIte, Bool.true_eq_false, Bool.false_eq_true, or_true, true_or, or_false, false_or, or_self]
                · have c23d : (nI (mt_n t18) = ow) = False := eq_false c23
                  refine jv_bipush (q := 104) (v := nI 8) G dX0_meeting_102 (by decide) rfl ?_
                  refine jv_goto (q := 109) G dX0_meeting_104 (by decide) ?_
                  refine jv_iret G hr dX0_meeting_109 (Nat.le_of_ble_eq_true rfl) (Nat.le_of_ble_eq_true rfl) ?_
                  have hnm9 : c_nm ts (some k17) = nI (mt_n t18) := by unfold c_nm; rw [Option.bind_some, ht18]; rfl
                  refine ⟨?_, rfl⟩; unfold c_me; simp only [hk3, c4d, c14d, c15, c16, c22, c23d, hk19, hnm9, not_true_eq_false, not_false_eq_true, false_and, and_false, and_true, true_and, and_self, if_true, if_false, reduceIte, Bool.true_eq_false, Bool.false_eq_true, or_true, true_or, or_false, false_or, or_self]
          · refine jv_iload (q := 67) G 0 dX0_meeting_65 rfl rfl ?_
            refine jv_iret G hr dX0_meeting_67 (Nat.le_of_ble_eq_true rfl) (Nat.le_of_ble_eq_true rfl) ?_
            refine ⟨?_, rfl⟩; unfold c_me; simp only [hk3, c4d, c14d, c15, c16, not_true_eq_false, not_false_eq_true, false_and, and_false, and_true, true_and, and_self, if_true, if_false, reduceIte, Bool.true_eq_false, Bool.false_eq_true, or_true, true_or, or_false, false_or, or_self]
      · have c14d : decide (e = ec) = false := decide_eq_false c14
        refine jv_aload_n (q := 26) G 2 dX0_meeting_25 rfl rfl rfl ?_
        refine jv_aload_nR (q := 27) G 0 dX0_meeting_26 rfl rfl rfl ?_
        refine jv_callV_I (q := 30) (h1 := h) (As := [va_rf none]) (rest := []) (ce' := 0) (sl' := 0) (r := (c_ci ts none ko)) G Z ml_X0_62 (k_constantIn0 hlt hE hu hkd hK) hu.1 dX0_meeting_27 rfl (by decide) (by decide) (by decide) (by decide) (Nat.le_of_ble_eq_true rfl) rfl rfl rfl rfl ?_
        refine jv_aload_n (q := 31) G 2 dX0_meeting_30 rfl rfl rfl ?_
        refine jv_getI (q := 34) G dX0_meeting_31 fl_X0_56 rfl hu.1 hu.2.2.2.2.2.1 rfl ?_
        refine jv_icmp_ne (q := 37) (tgt := 41) G dX0_meeting_34 (by decide) rfl (fun c24 => ?_) (fun c24 => ?_)
        · refine jv_bipush (q := 43) (v := nI 9) G dX0_meeting_41 (by decide) rfl ?_
          refine jv_iret G hr dX0_meeting_43 (Nat.le_of_ble_eq_true rfl) (Nat.le_of_ble_eq_true rfl) ?_
          refine ⟨?_, rfl⟩; unfold c_me; simp only [hk3, c4d, c14d, c24, not_true_eq_false, not_false_eq_true, false_and, and_false, and_true, true_and, and_self, if_true, if_false, reduceIte, Bool.true_eq_false, Bool.false_eq_true, or_true, true_or, or_false, false_or, or_self]
        · refine jv_iconst (q := 38) (v := nI 0) G dX0_meeting_37 (by decide) rfl ?_
          refine jv_goto (q := 43) G dX0_meeting_38 (by decide) ?_
          refine jv_iret G hr dX0_meeting_43 (Nat.le_of_ble_eq_true rfl) (Nat.le_of_ble_eq_true rfl) ?_
          refine ⟨?_, rfl⟩; unfold c_me; simp only [hk3, c4d, c14d, c24, not_true_eq_false, not_false_eq_true, false_and, and_false, and_true, true_and, and_self, if_true, if_false, reduceIte, Bool.true_eq_false, Bool.false_eq_true, or_true, true_or, or_false, false_or, or_self]
  · refine jv_topR (y := (some (T (10 * e + k1)))) (by rw [hk3]; rfl) ?_
    obtain ⟨t2, ht2, nt2⟩ := ho_get hk3
    have lt2 := jv_ltGet ht2
    have k10t2 : k1 < 10 := by have := hE.2.2.2.1; omega
    have Ot2 := (hE.2.2.2.2.1 k1 t2 ht2).2
    have Vt2 := (hE.2.2.2.2.1 k1 t2 ht2).1
    have Yt2 := hE.2.1 k1 k10t2
    have bt2n := Ot2.1; have bt2k := Ot2.2.1
    refine jv_astore_n (q := 6) (lo' := [(3, .ref (T (10 * e + k1))), (0, .ref c), (1, .ref u), (2, .ref (z 0 e))]) G dX0_meeting_5 rfl (by decide) rfl rfl ?_
    refine jv_aload_n (q := 7) G 2 dX0_meeting_6 rfl rfl rfl ?_
    refine jv_getI (q := 10) G dX0_meeting_7 fl_X0_56 rfl hu.1 hu.2.2.2.2.2.1 rfl ?_
    refine jv_iconst (q := 11) (v := (-1)) G dX0_meeting_10 (by decide) rfl ?_
    refine jv_icmp_eq (q := 14) (tgt := 44) G dX0_meeting_11 (by decide) rfl (fun c25 => ?_) (fun c25 => ?_)
    · have c25d : (cv = -1) = True := eq_true c25
      refine jv_aload_n (q := 45) G 2 dX0_meeting_44 rfl rfl rfl ?_
      refine jv_aload_n (q := 46) G 3 dX0_meeting_45 rfl rfl rfl ?_
      refine jv_aload_n (q := 47) G 1 dX0_meeting_46 rfl rfl rfl ?_
      refine jv_aload_n (q := 48) G 0 dX0_meeting_47 rfl rfl rfl ?_
      refine jv_callV_I (q := 51) (h1 := h) (As := [.ref (z 0 e), .ref c, .ref (T (10 * e + k1))]) (rest := []) (ce' := 0) (sl' := 0) (r := nI (c_hr ts Us p su kd ty rc ko (some k1))) G Z ml_X0_66 (k_reach1 hlt hE hU hu hkd hK hc hp ht2) hu.1 dX0_meeting_48 rfl (by decide) (by decide) (by decide) (by decide) (Nat.le_of_ble_eq_true rfl) rfl rfl rfl rfl ?_
      have hb1 := hr_lt ts Us p su kd ty rc ko (some k1)
      refine jv_istore (q := 53) (lo' := [(4, .int (nI (c_hr ts Us p su kd ty rc ko (some k1)))), (3, .ref (T (10 * e + k1))), (0, .ref c), (1, .ref u), (2, .ref (z 0 e))]) G dX0_meeting_51 (by decide) rfl rfl ?_
      refine jv_iload (q := 55) G 0 dX0_meeting_53 rfl rfl ?_
      refine jv_if_neN (q := 58) (tgt := 65) G dX0_meeting_55 (by decide) rfl (by omega) (fun c26 => ?_) (fun c26 => ?_)
      · refine jv_iload (q := 67) G 0 dX0_meeting_65 rfl rfl ?_
        refine jv_iret G hr dX0_meeting_67 (Nat.le_of_ble_eq_true rfl) (Nat.le_of_ble_eq_true rfl) ?_
        refine ⟨?_, rfl⟩; unfold c_me; simp only [hk3, c25d, c26, not_true_eq_false, not_false_eq_true, false_and, and_false, and_true, true_and, and_self, if_true, if_false, reduceIte, Bool.true_eq_false, Bool.false_eq_true, or_true, true_or, or_false, false_or, or_self]
      · refine jv_aload_n (q := 59) G 3 dX0_meeting_58 rfl rfl rfl ?_
        refine jv_callV_I (q := 62) (h1 := h) (As := []) (rest := []) (ce' := 0) (sl' := 0) (r := jv_bI (m_rv kd)) G Z ml_X0_70 (k_hasReceiver hlt hu hkd) hu.1 dX0_meeting_59 rfl (by decide) (by decide) (by decide) (by decide) (Nat.le_of_ble_eq_true rfl) rfl rfl rfl rfl ?_
        refine jv_if_neB (q := 65) (tgt := 68) G dX0_meeting_62 (by decide) rfl (fun c27 => ?_) (fun c27 => ?_)
        · refine jv_aload_n (q := 69) G 3 dX0_meeting_68 rfl rfl rfl ?_
          refine jv_aload_n (q := 70) G 4 dX0_meeting_69 rfl rfl rfl ?_
          refine jv_aload_n (q := 71) G 1 dX0_meeting_70 rfl rfl rfl ?_
          refine jv_callV_R (q := 74) (h1 := h) (As := [.ref (z 0 e), .ref (T (10 * e + k1))]) (rest := []) (ce' := 0) (sl' := 0) (r := ((c_rn ts Us (some k1) ko rc).map (fun k => T (10 * e + k)))) G Z ml_X0_74 (k_runner1 hlt hE hU hu hkd hK ht2) hu.1 dX0_meeting_71 rfl (by decide) (by decide) (by decide) (by decide) (Nat.le_of_ble_eq_true rfl) rfl rfl rfl rfl ?_
          rcases Option.eq_none_or_eq_some (c_rn ts Us (some k1) ko rc) with hk30 | ⟨k28, hk30⟩
          · refine jv_topR (y := none) (by rw [hk30]; rfl) ?_
            refine jv_astoreR (q := 76) (lo' := [(5, va_rf none), (4, .int (nI (c_hr ts Us p su kd ty rc ko (some k1)))), (3, .ref (T (10 * e + k1))), (0, .ref c), (1, .ref u), (2, .ref (z 0 e))]) (x := none) G dX0_meeting_74 (by decide) rfl rfl ?_
            refine jv_aload_n (q := 77) G 4 dX0_meeting_76 rfl rfl rfl ?_
            refine jv_aload_n (q := 78) G 5 dX0_meeting_77 rfl rfl rfl ?_
            refine jv_aloadR (q := 80) G 0 dX0_meeting_78 rfl rfl ?_
            refine jv_callV_I (q := 83) (h1 := h) (As := [.ref (z 0 e), va_rf none]) (rest := []) (ce' := 0) (sl' := 0) (r := nI (c_hn ts Us kd ty rc ko none)) G Z ml_X0_78 (k_run0 hlt hE hU hu hkd hK) hu.1 dX0_meeting_80 rfl (by decide) (by decide) (by decide) (by decide) (Nat.le_of_ble_eq_true rfl) rfl rfl rfl rfl ?_
            have hb2 := hn_lt ts Us kd ty rc ko none
            refine jv_istore (q := 85) (lo' := [(4, .int (nI (c_hn ts Us kd ty rc ko none))), (5, va_rf none), (3, .ref (T (10 * e + k1))), (0, .ref c), (1, .ref u), (2, .ref (z 0 e))]) G dX0_meeting_83 (by decide) rfl rfl ?_
            refine jv_iload (q := 87) G 0 dX0_meeting_85 rfl rfl ?_
            refine jv_if_neN (q := 90) (tgt := 107) G dX0_meeting_87 (by decide) rfl (by omega) (fun c31 => ?_) (fun c31 => ?_)
            · refine jv_iload (q := 109) G 0 dX0_meeting_107 rfl rfl ?_
              refine jv_iret G hr dX0_meeting_109 (Nat.le_of_ble_eq_true rfl) (Nat.le_of_ble_eq_true rfl) ?_
              have hnm9 : c_nm ts none = -1 := rfl
              refine ⟨?_, rfl⟩; unfold c_me; simp only [hk3, c25d, c26, c27, c31, hk30, hnm9, not_true_eq_false, not_false_eq_true, false_and, and_false, and_true, true_and, and_self, if_true, if_false, reduceIte, Bool.true_eq_false, Bool.false_eq_true, or_true, true_or, or_false, false_or, or_self]
            · refine jv_aloadR (q := 92) G 1 dX0_meeting_90 rfl rfl ?_
              refine jv_callSN_I (q := 95) (h1 := h) (As := [va_rf none]) (rest := []) (ce' := 0) (sl' := 0) (r := (-1)) G Z ml_X0_82 (jv_p1 757 (by decide +kernel) rfl) (k_nameOf0 hlt) dX0_meeting_92 rfl (by decide) (by decide) (by decide) (by decide) (Nat.le_of_ble_eq_true rfl) rfl rfl rfl rfl ?_
              refine jv_aload_n (q := 96) G 4 dX0_meeting_95 rfl rfl rfl ?_
              refine jv_getI (q := 99) G dX0_meeting_96 fl_X0_85 rfl hu.1 hu.2.2.2.2.2.2 rfl ?_
              refine jv_icmp_eq (q := 102) (tgt := 107) G dX0_meeting_99 (by decide) rfl (fun c32 => ?_) (fun c32 => ?_)
              · have c32d : ((-1) = ow) = True := eq_true c32
                refine jv_iload (q := 109) G 0 dX0_meeting_107 rfl rfl ?_
                refine jv_iret G hr dX0_meeting_109 (Nat.le_of_ble_eq_true rfl) (Nat.le_of_ble_eq_true rfl) ?_
                have hnm9 : c_nm ts none = -1 := rfl
                refine ⟨?_, rfl⟩; unfold c_me; simp only [hk3, c25d, c26, c27, c31, c32d, hk30, hnm9, not_true_eq_false, not_false_eq_true, false_and, and_false, and_true, true_and, and_self, if_true, if_false, reduceIte, Bool.true_eq_false, Bool.false_eq_true, or_true, true_or, or_false, false_or, or_self]
              · have c32d : ((-1) = ow) = False := eq_false c32
                refine jv_bipush (q := 104) (v := nI 8) G dX0_meeting_102 (by decide) rfl ?_
                refine jv_goto (q := 109) G dX0_meeting_104 (by decide) ?_
                refine jv_iret G hr dX0_meeting_109 (Nat.le_of_ble_eq_true rfl) (Nat.le_of_ble_eq_true rfl) ?_
                have hnm9 : c_nm ts none = -1 := rfl
                refine ⟨?_, rfl⟩; unfold c_me; simp only [hk3, c25d, c26, c27, c31, c32d, hk30, hnm9, not_true_eq_false, not_false_eq_true, false_and, and_false, and_true, true_and, and_self, if_true, if_false, reduceIte, Bool.true_eq_false, Bool.false_eq_true, or_true, true_or, or_false, false_or, or_self]
          · refine jv_topR (y := (some (T (10 * e + k28)))) (by rw [hk30]; rfl) ?_
            obtain ⟨t29, ht29, nt29⟩ := rn_get hk30
            have lt29 := jv_ltGet ht29
            have k10t29 : k28 < 10 := by have := hE.2.2.2.1; omega
            have Ot29 := (hE.2.2.2.2.1 k28 t29 ht29).2
            have Vt29 := (hE.2.2.2.2.1 k28 t29 ht29).1
            have Yt29 := hE.2.1 k28 k10t29
            have bt29n := Ot29.1; have bt29k := Ot29.2.1
            refine jv_astore (q := 76) (lo' := [(5, .ref (T (10 * e + k28))), (4, .int (nI (c_hr ts Us p su kd ty rc ko (some k1)))), (3, .ref (T (10 * e + k1))), (0, .ref c), (1, .ref u), (2, .ref (z 0 e))]) G dX0_meeting_74 (by decide) rfl rfl ?_
            refine jv_aload_n (q := 77) G 4 dX0_meeting_76 rfl rfl rfl ?_
            refine jv_aload_n (q := 78) G 5 dX0_meeting_77 rfl rfl rfl ?_
            refine jv_aload (q := 80) G 0 dX0_meeting_78 rfl rfl ?_
            refine jv_callV_I (q := 83) (h1 := h) (As := [.ref (z 0 e), .ref (T (10 * e + k28))]) (rest := []) (ce' := 0) (sl' := 0) (r := nI (c_hn ts Us kd ty rc ko (some k28))) G Z ml_X0_78 (k_run1 hlt hE hU hu hkd hK ht29) hu.1 dX0_meeting_80 rfl (by decide) (by decide) (by decide) (by decide) (Nat.le_of_ble_eq_true rfl) rfl rfl rfl rfl ?_
            have hb2 := hn_lt ts Us kd ty rc ko (some k28)
            refine jv_istore (q := 85) (lo' := [(4, .int (nI (c_hn ts Us kd ty rc ko (some k28)))), (5, .ref (T (10 * e + k28))), (3, .ref (T (10 * e + k1))), (0, .ref c), (1, .ref u), (2, .ref (z 0 e))]) G dX0_meeting_83 (by decide) rfl rfl ?_
            refine jv_iload (q := 87) G 0 dX0_meeting_85 rfl rfl ?_
            refine jv_if_neN (q := 90) (tgt := 107) G dX0_meeting_87 (by decide) rfl (by omega) (fun c33 => ?_) (fun c33 => ?_)
            · refine jv_iload (q := 109) G 0 dX0_meeting_107 rfl rfl ?_
              refine jv_iret G hr dX0_meeting_109 (Nat.le_of_ble_eq_true rfl) (Nat.le_of_ble_eq_true rfl) ?_
              have hnm9 : c_nm ts (some k28) = nI (mt_n t29) := by unfold c_nm; rw [Option.bind_some, ht29]; rfl
              refine ⟨?_, rfl⟩; unfold c_me; simp only [hk3, c25d, c26, c27, c33, hk30, hnm9, not_true_eq_false, not_false_eq_true, false_and, and_false, and_true, true_and, and_self, if_true, if_false, reduceIte, Bool.true_eq_false, Bool.false_eq_true, or_true, true_or, or_false, false_or, or_self]
            · refine jv_aload (q := 92) G 1 dX0_meeting_90 rfl rfl ?_
              refine jv_callSN_I (q := 95) (h1 := h) (As := [.ref (T (10 * e + k28))]) (rest := []) (ce' := 0) (sl' := 0) (r := nI (mt_n t29)) G Z ml_X0_82 (jv_p1 757 (by decide +kernel) rfl) (k_nameOf1 hlt Yt29.1 (ct_0 Vt29)) dX0_meeting_92 rfl (by decide) (by decide) (by decide) (by decide) (Nat.le_of_ble_eq_true rfl) rfl rfl rfl rfl ?_
              refine jv_aload_n (q := 96) G 4 dX0_meeting_95 rfl rfl rfl ?_
              refine jv_getI (q := 99) G dX0_meeting_96 fl_X0_85 rfl hu.1 hu.2.2.2.2.2.2 rfl ?_
              refine jv_icmp_eq (q := 102) (tgt := 107) G dX0_meeting_99 (by decide) rfl (fun c34 => ?_) (fun c34 => ?_)
              · have c34d : (nI (mt_n t29) = ow) = True := eq_true c34
                refine jv_iload (q := 109) G 0 dX0_meeting_107 rfl rfl ?_
                refine jv_iret G hr dX0_meeting_109 (Nat.le_of_ble_eq_true rfl) (Nat.le_of_ble_eq_true rfl) ?_
                have hnm9 : c_nm ts (some k28) = nI (mt_n t29) := by unfold c_nm; rw [Option.bind_some, ht29]; rfl
                refine ⟨?_, rfl⟩; unfold c_me; simp only [hk3, c25d, c26, c27, c33, c34d, hk30, hnm9, not_true_eq_false, not_false_eq_true, false_and, and_false, and_true, true_and, and_self, if_true, if_false, reduceIte, Bool.true_eq_false, Bool.false_eq_true, or_true, true_or, or_false, false_or, or_self]
              · have c34d : (nI (mt_n t29) = ow) = False := eq_false c34
                refine jv_bipush (q := 104) (v := nI 8) G dX0_meeting_102 (by decide) rfl ?_
                refine jv_goto (q := 109) G dX0_meeting_104 (by decide) ?_
                refine jv_iret G hr dX0_meeting_109 (Nat.le_of_ble_eq_true rfl) (Nat.le_of_ble_eq_true rfl) ?_
                have hnm9 : c_nm ts (some k28) = nI (mt_n t29) := by unfold c_nm; rw [Option.bind_some, ht29]; rfl
                refine ⟨?_, rfl⟩; unfold c_me; simp only [hk3, c25d, c26, c27, c33, c34d, hk30, hnm9, not_true_eq_false, not_false_eq_true, false_and, and_false, and_true, true_and, and_self, if_true, if_false, reduceIte, Bool.true_eq_false, Bool.false_eq_true, or_true, true_or, or_false, false_or, or_self]
        · refine jv_iload (q := 67) G 0 dX0_meeting_65 rfl rfl ?_
          refine jv_iret G hr dX0_meeting_67 (Nat.le_of_ble_eq_true rfl) (Nat.le_of_ble_eq_true rfl) ?_
          refine ⟨?_, rfl⟩; unfold c_me; simp only [hk3, c25d, c26, c27, not_true_eq_false, not_false_eq_true, false_and, and_false, and_true, true_and, and_self, if_true, if_false, reduceIte, Bool.true_eq_false, Bool.false_eq_true, or_true, true_or, or_false, false_or, or_self]
    · have c25d : (cv = -1) = False := eq_false c25
      refine jv_aload_n (q := 15) G 3 dX0_meeting_14 rfl rfl rfl ?_
      refine jv_getI (q := 18) G dX0_meeting_15 fl_X0_59 rfl hE.1.1 hE.1.2.2.2.2.2.1 rfl ?_
      refine jv_aload_n (q := 19) G 1 dX0_meeting_18 rfl rfl rfl ?_
      refine jv_getI (q := 22) G dX0_meeting_19 fl_X0_18 rfl hc.1 hc.2.1 rfl ?_
      refine jv_icmp_eqN (q := 25) (tgt := 44) G dX0_meeting_22 (by decide) rfl (by omega) (by omega) (fun c35 => ?_) (fun c35 => ?_)
      · have c35d : decide (e = ec) = true := decide_eq_true c35
        refine jv_aload_n (q := 45) G 2 dX0_meeting_44 rfl rfl rfl ?_
        refine jv_aload_n (q := 46) G 3 dX0_meeting_45 rfl rfl rfl ?_
        refine jv_aload_n (q := 47) G 1 dX0_meeting_46 rfl rfl rfl ?_
        refine jv_aload_n (q := 48) G 0 dX0_meeting_47 rfl rfl rfl ?_
        refine jv_callV_I (q := 51) (h1 := h) (As := [.ref (z 0 e), .ref c, .ref (T (10 * e + k1))]) (rest := []) (ce' := 0) (sl' := 0) (r := nI (c_hr ts Us p su kd ty rc ko (some k1))) G Z ml_X0_66 (k_reach1 hlt hE hU hu hkd hK hc hp ht2) hu.1 dX0_meeting_48 rfl (by decide) (by decide) (by decide) (by decide) (Nat.le_of_ble_eq_true rfl) rfl rfl rfl rfl ?_
        have hb1 := hr_lt ts Us p su kd ty rc ko (some k1)
        refine jv_istore (q := 53) (lo' := [(4, .int (nI (c_hr ts Us p su kd ty rc ko (some k1)))), (3, .ref (T (10 * e + k1))), (0, .ref c), (1, .ref u), (2, .ref (z 0 e))]) G dX0_meeting_51 (by decide) rfl rfl ?_
        refine jv_iload (q := 55) G 0 dX0_meeting_53 rfl rfl ?_
        refine jv_if_neN (q := 58) (tgt := 65) G dX0_meeting_55 (by decide) rfl (by omega) (fun c36 => ?_) (fun c36 => ?_)
        · refine jv_iload (q := 67) G 0 dX0_meeting_65 rfl rfl ?_
          refine jv_iret G hr dX0_meeting_67 (Nat.le_of_ble_eq_true rfl) (Nat.le_of_ble_eq_true rfl) ?_
          refine ⟨?_, rfl⟩; unfold c_me; simp only [hk3, c25d, c35d, c36, not_true_eq_false, not_false_eq_true, false_and, and_false, and_true, true_and, and_self, if_true, if_false, reduceIte, Bool.true_eq_false, Bool.false_eq_true, or_true, true_or, or_false, false_or, or_self]
        · refine jv_aload_n (q := 59) G 3 dX0_meeting_58 rfl rfl rfl ?_
          refine jv_callV_I (q := 62) (h1 := h) (As := []) (rest := []) (ce' := 0) (sl' := 0) (r := jv_bI (m_rv kd)) G Z ml_X0_70 (k_hasReceiver hlt hu hkd) hu.1 dX0_meeting_59 rfl (by decide) (by decide) (by decide) (by decide) (Nat.le_of_ble_eq_true rfl) rfl rfl rfl rfl ?_
          refine jv_if_neB (q := 65) (tgt := 68) G dX0_meeting_62 (by decide) rfl (fun c37 => ?_) (fun c37 => ?_)
          · refine jv_aload_n (q := 69) G 3 dX0_meeting_68 rfl rfl rfl ?_
            refine jv_aload_n (q := 70) G 4 dX0_meeting_69 rfl rfl rfl ?_
            refine jv_aload_n (q := 71) G 1 dX0_meeting_70 rfl rfl rfl ?_
            refine jv_callV_R (q := 74) (h1 := h) (As := [.ref (z 0 e), .ref (T (10 * e + k1))]) (rest := []) (ce' := 0) (sl' := 0) (r := ((c_rn ts Us (some k1) ko rc).map (fun k => T (10 * e + k)))) G Z ml_X0_74 (k_runner1 hlt hE hU hu hkd hK ht2) hu.1 dX0_meeting_71 rfl (by decide) (by decide) (by decide) (by decide) (Nat.le_of_ble_eq_true rfl) rfl rfl rfl rfl ?_
            rcases Option.eq_none_or_eq_some (c_rn ts Us (some k1) ko rc) with hk40 | ⟨k38, hk40⟩
            · refine jv_topR (y := none) (by rw [hk40]; rfl) ?_
              refine jv_astoreR (q := 76) (lo' := [(5, va_rf none), (4, .int (nI (c_hr ts Us p su kd ty rc ko (some k1)))), (3, .ref (T (10 * e + k1))), (0, .ref c), (1, .ref u), (2, .ref (z 0 e))]) (x := none) G dX0_meeting_74 (by decide) rfl rfl ?_
              refine jv_aload_n (q := 77) G 4 dX0_meeting_76 rfl rfl rfl ?_
              refine jv_aload_n (q := 78) G 5 dX0_meeting_77 rfl rfl rfl ?_
              refine jv_aloadR (q := 80) G 0 dX0_meeting_78 rfl rfl ?_
              refine jv_callV_I (q := 83) (h1 := h) (As := [.ref (z 0 e), va_rf none]) (rest := []) (ce' := 0) (sl' := 0) (r := nI (c_hn ts Us kd ty rc ko none)) G Z ml_X0_78 (k_run0 hlt hE hU hu hkd hK) hu.1 dX0_meeting_80 rfl (by decide) (by decide) (by decide) (by decide) (Nat.le_of_ble_eq_true rfl) rfl rfl rfl rfl ?_
              have hb2 := hn_lt ts Us kd ty rc ko none
              refine jv_istore (q := 85) (lo' := [(4, .int (nI (c_hn ts Us kd ty rc ko none))), (5, va_rf none), (3, .ref (T (10 * e + k1))), (0, .ref c), (1, .ref u), (2, .ref (z 0 e))]) G dX0_meeting_83 (by decide) rfl rfl ?_
              refine jv_iload (q := 87) G 0 dX0_meeting_85 rfl rfl ?_
              refine jv_if_neN (q := 90) (tgt := 107) G dX0_meeting_87 (by decide) rfl (by omega) (fun c41 => ?_) (fun c41 => ?_)
              · refine jv_iload (q := 109) G 0 dX0_meeting_107 rfl rfl ?_
                refine jv_iret G hr dX0_meeting_109 (Nat.le_of_ble_eq_true rfl) (Nat.le_of_ble_eq_true rfl) ?_
                have hnm9 : c_nm ts none = -1 := rfl
                refine ⟨?_, rfl⟩; unfold c_me; simp only [hk3, c25d, c35d, c36, c37, c41, hk40, hnm9, not_true_eq_false, not_false_eq_true, false_and, and_false, and_true, true_and, and_self, if_true, if_false, reduceIte, Bool.true_eq_false, Bool.false_eq_true, or_true, true_or, or_false, false_or, or_self]
              · refine jv_aloadR (q := 92) G 1 dX0_meeting_90 rfl rfl ?_
                refine jv_callSN_I (q := 95) (h1 := h) (As := [va_rf none]) (rest := []) (ce' := 0) (sl' := 0) (r := (-1)) G Z ml_X0_82 (jv_p1 757 (by decide +kernel) rfl) (k_nameOf0 hlt) dX0_meeting_92 rfl (by decide) (by decide) (by decide) (by decide) (Nat.le_of_ble_eq_true rfl) rfl rfl rfl rfl ?_
                refine jv_aload_n (q := 96) G 4 dX0_meeting_95 rfl rfl rfl ?_
                refine jv_getI (q := 99) G dX0_meeting_96 fl_X0_85 rfl hu.1 hu.2.2.2.2.2.2 rfl ?_
                refine jv_icmp_eq (q := 102) (tgt := 107) G dX0_meeting_99 (by decide) rfl (fun c42 => ?_) (fun c42 => ?_)
                · have c42d : ((-1) = ow) = True := eq_true c42
                  refine jv_iload (q := 109) G 0 dX0_meeting_107 rfl rfl ?_
                  refine jv_iret G hr dX0_meeting_109 (Nat.le_of_ble_eq_true rfl) (Nat.le_of_ble_eq_true rfl) ?_
                  have hnm9 : c_nm ts none = -1 := rfl
                  refine ⟨?_, rfl⟩; unfold c_me; simp only [hk3, c25d, c35d, c36, c37, c41, c42d, hk40, hnm9, not_true_eq_false, not_false_eq_true, false_and, and_false, and_true, true_and, and_self, if_true, if_false, reduceIte, Bool.true_eq_false, Bool.false_eq_true, or_true, true_or, or_false, false_or, or_self]
                · have c42d : ((-1) = ow) = False := eq_false c42
                  refine jv_bipush (q := 104) (v := nI 8) G dX0_meeting_102 (by decide) rfl ?_
                  refine jv_goto (q := 109) G dX0_meeting_104 (by decide) ?_
                  refine jv_iret G hr dX0_meeting_109 (Nat.le_of_ble_eq_true rfl) (Nat.le_of_ble_eq_true rfl) ?_
                  have hnm9 : c_nm ts none = -1 := rfl
                  refine ⟨?_, rfl⟩; unfold c_me; simp only [hk3, c25d, c35d, c36, c37, c41, c42d, hk40, hnm9, not_true_eq_false, not_false_eq_true, false_and, and_false, and_true, true_and, and_self, if_true, if_false, reduceIte, Bool.true_eq_false, Bool.false_eq_true, or_true, true_or, or_false, false_or, or_self]
            · refine jv_topR (y := (some (T (10 * e + k38)))) (by rw [hk40]; rfl) ?_
              obtain ⟨t39, ht39, nt39⟩ := rn_get hk40
              have lt39 := jv_ltGet ht39
              have k10t39 : k38 < 10 := by have := hE.2.2.2.1; omega
              have Ot39 := (hE.2.2.2.2.1 k38 t39 ht39).2
              have Vt39 := (hE.2.2.2.2.1 k38 t39 ht39).1
              have Yt39 := hE.2.1 k38 k10t39
              have bt39n := Ot39.1; have bt39k := Ot39.2.1
              refine jv_astore (q := 76) (lo' := [(5, .ref (T (10 * e + k38))), (4, .int (nI (c_hr ts Us p su kd ty rc ko (some k1)))), (3, .ref (T (10 * e + k1))), (0, .ref c), (1, .ref u), (2, .ref (z 0 e))]) G dX0_meeting_74 (by decide) rfl rfl ?_
              refine jv_aload_n (q := 77) G 4 dX0_meeting_76 rfl rfl rfl ?_
              refine jv_aload_n (q := 78) G 5 dX0_meeting_77 rfl rfl rfl ?_
              refine jv_aload (q := 80) G 0 dX0_meeting_78 rfl rfl ?_
              refine jv_callV_I (q := 83) (h1 := h) (As := [.ref (z 0 e), .ref (T (10 * e + k38))]) (rest := []) (ce' := 0) (sl' := 0) (r := nI (c_hn ts Us kd ty rc ko (some k38))) G Z ml_X0_78 (k_run1 hlt hE hU hu hkd hK ht39) hu.1 dX0_meeting_80 rfl (by decide) (by decide) (by decide) (by decide) (Nat.le_of_ble_eq_true rfl) rfl rfl rfl rfl ?_
              have hb2 := hn_lt ts Us kd ty rc ko (some k38)
              refine jv_istore (q := 85) (lo' := [(4, .int (nI (c_hn ts Us kd ty rc ko (some k38)))), (5, .ref (T (10 * e + k38))), (3, .ref (T (10 * e + k1))), (0, .ref c), (1, .ref u), (2, .ref (z 0 e))]) G dX0_meeting_83 (by decide) rfl rfl ?_
              refine jv_iload (q := 87) G 0 dX0_meeting_85 rfl rfl ?_
              refine jv_if_neN (q := 90) (tgt := 107) G dX0_meeting_87 (by decide) rfl (by omega) (fun c43 => ?_) (fun c43 => ?_)
              · refine jv_iload (q := 109) G 0 dX0_meeting_107 rfl rfl ?_
                refine jv_iret G hr dX0_meeting_109 (Nat.le_of_ble_eq_true rfl) (Nat.le_of_ble_eq_true rfl) ?_
                have hnm9 : c_nm ts (some k38) = nI (mt_n t39) := by unfold c_nm; rw [Option.bind_some, ht39]; rfl
                refine ⟨?_, rfl⟩; unfold c_me; simp only [hk3, c25d, c35d, c36, c37, c43, hk40, hnm9, not_true_eq_false, not_false_eq_true, false_and, and_false, and_true, true_and, and_self, if_true, if_false, reduceIte, Bool.true_eq_false, Bool.false_eq_true, or_true, true_or, or_false, false_or, or_self]
              · refine jv_aload (q := 92) G 1 dX0_meeting_90 rfl rfl ?_
                refine jv_callSN_I (q := 95) (h1 := h) (As := [.ref (T (10 * e + k38))]) (rest := []) (ce' := 0) (sl' := 0) (r := nI (mt_n t39)) G Z ml_X0_82 (jv_p1 757 (by decide +kernel) rfl) (k_nameOf1 hlt Yt39.1 (ct_0 Vt39)) dX0_meeting_92 rfl (by decide) (by decide) (by decide) (by decide) (Nat.le_of_ble_eq_true rfl) rfl rfl rfl rfl ?_
                refine jv_aload_n (q := 96) G 4 dX0_meeting_95 rfl rfl rfl ?_
                refine jv_getI (q := 99) G dX0_meeting_96 fl_X0_85 rfl hu.1 hu.2.2.2.2.2.2 rfl ?_
                refine jv_icmp_eq (q := 102) (tgt := 107) G dX0_meeting_99 (by decide) rfl (fun c44 => ?_) (fun c44 => ?_)
                · have c44d : (nI (mt_n t39) = ow) = True := eq_true c44
                  refine jv_iload (q := 109) G 0 dX0_meeting_107 rfl rfl ?_
                  refine jv_iret G hr dX0_meeting_109 (Nat.le_of_ble_eq_true rfl) (Nat.le_of_ble_eq_true rfl) ?_
                  have hnm9 : c_nm ts (some k38) = nI (mt_n t39) := by unfold c_nm; rw [Option.bind_some, ht39]; rfl
                  refine ⟨?_, rfl⟩; unfold c_me; simp only [hk3, c25d, c35d, c36, c37, c43, c44d, hk40, hnm9, not_true_eq_false, not_false_eq_true, false_and, and_false, and_true, true_and, and_self, if_true, if_false, reduceIte, Bool.true_eq_false, Bool.false_eq_true, or_true, true_or, or_false, false_or, or_self]
                · have c44d : (nI (mt_n t39) = ow) = False := eq_false c44
                  refine jv_bipush (q := 104) (v := nI 8) G dX0_meeting_102 (by decide) rfl ?_
                  refine jv_goto (q := 109) G dX0_meeting_104 (by decide) ?_
                  refine jv_iret G hr dX0_meeting_109 (Nat.le_of_ble_eq_true rfl) (Nat.le_of_ble_eq_true rfl) ?_
                  have hnm9 : c_nm ts (some k38) = nI (mt_n t39) := by unfold c_nm; rw [Option.bind_some, ht39]; rfl
                  refine ⟨?_, rfl⟩; unfold c_me; simp only [hk3, c25d, c35d, c36, c37, c43, c44d, hk40, hnm9, not_true_eq_false, not_false_eq_true, false_and, and_false, and_true, true_and, and_self, if_true, if_false, reduceIte, Bool.true_eq_false, Bool.false_eq_true, or_true, true_or, or_false, false_or, or_self]
          · refine jv_iload (q := 67) G 0 dX0_meeting_65 rfl rfl ?_
            refine jv_iret G hr dX0_meeting_67 (Nat.le_of_ble_eq_true rfl) (Nat.le_of_ble_eq_true rfl) ?_
            refine ⟨?_, rfl⟩; unfold c_me; simp only [hk3, c25d, c35d, c36, c37, not_true_eq_false, not_false_eq_true, false_and, and_false, and_true, true_and, and_self, if_true, if_false, reduceIte, Bool.true_eq_false, Bool.false_eq_true, or_true, true_or, or_false, false_or, or_self]
      · have c35d : decide (e = ec) = false := decide_eq_false c35
        refine jv_aload_n (q := 26) G 2 dX0_meeting_25 rfl rfl rfl ?_
        refine jv_aload_n (q := 27) G 0 dX0_meeting_26 rfl rfl rfl ?_
        refine jv_callV_I (q := 30) (h1 := h) (As := [.ref (T (10 * e + k1))]) (rest := []) (ce' := 0) (sl' := 0) (r := (c_ci ts (some k1) ko)) G Z ml_X0_62 (k_constantIn1 hlt hE hu hkd hK ht2) hu.1 dX0_meeting_27 rfl (by decide) (by decide) (by decide) (by decide) (Nat.le_of_ble_eq_true rfl) rfl rfl rfl rfl ?_
        refine jv_aload_n (q := 31) G 2 dX0_meeting_30 rfl rfl rfl ?_
        refine jv_getI (q := 34) G dX0_meeting_31 fl_X0_56 rfl hu.1 hu.2.2.2.2.2.1 rfl ?_
        refine jv_icmp_ne (q := 37) (tgt := 41) G dX0_meeting_34 (by decide) rfl (fun c45 => ?_) (fun c45 => ?_)
        · refine jv_bipush (q := 43) (v := nI 9) G dX0_meeting_41 (by decide) rfl ?_
          refine jv_iret G hr dX0_meeting_43 (Nat.le_of_ble_eq_true rfl) (Nat.le_of_ble_eq_true rfl) ?_
          refine ⟨?_, rfl⟩; unfold c_me; simp only [hk3, c25d, c35d, c45, not_true_eq_false, not_false_eq_true, false_and, and_false, and_true, true_and, and_self, if_true, if_false, reduceIte, Bool.true_eq_false, Bool.false_eq_true, or_true, true_or, or_false, false_or, or_self]
        · refine jv_iconst (q := 38) (v := nI 0) G dX0_meeting_37 (by decide) rfl ?_
          refine jv_goto (q := 43) G dX0_meeting_38 (by decide) ?_
          refine jv_iret G hr dX0_meeting_43 (Nat.le_of_ble_eq_true rfl) (Nat.le_of_ble_eq_true rfl) ?_
          refine ⟨?_, rfl⟩; unfold c_me; simp only [hk3, c25d, c35d, c45, not_true_eq_false, not_false_eq_true, false_and, and_false, and_true, true_and, and_self, if_true, if_false, reduceIte, Bool.true_eq_false, Bool.false_eq_true, or_true, true_or, or_false, false_or, or_self]
