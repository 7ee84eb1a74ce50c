set_option maxHeartbeats 4000000 in
set_option maxRecDepth 100000 in
theorem k_tf_l100 {E : jv_E} {Q : State → Prop} {z : Nat → Nat → Nat} {T : Nat → Nat} {N : Nat → Nat → Nat} {h : jv_H} {a b : Nat} {A B : List mT} {UA UB : Nat → List Nat} (hA : cv_E z T N h a A) (hB : cv_E z T N h b B) (uA : cv_Us z T h a A UA) (uB : cv_Us z T h b B UB) (lp : cl_p z h) (ha8 : a < 8) {kd : Nat} {ty rc cv ow : Int32} {ko : Option Nat} (hu : cv_use h (z 5 260) kd ty ko rc cv ow) (hkd : kd < 6) (hK : ∀ K, ko = some K → K < 64) (hlt : (jv_l E).stackTraces = false) (G : jv_C E cX4_trialFits RX4 10) (Z : jv_rm E = jv_room 5 0 0) (hk : ∀ h2, cF (SP z) h h2 → cv_use h2 (z 5 260) kd ty ko rc cv ow → jv_V E 10 h2 0 0 Q 83 [(5, .int (jv_bI ((c_t1 A B UA UB kd ty rc ko none none 5).1))), (6, .int (jv_bI ((c_t1 A B UA UB kd ty rc ko none none 5).2))), (0, .ref (z 6 4)), (1, .ref (z 0 a)), (2, .ref (z 0 b)), (3, va_rf none), (4, va_rf none)] []) : ∀ (n p : Nat) (h1 : jv_H), p + n = 5 → cF (SP z) h h1 → cv_use h1 (z 5 260) kd ty ko rc cv ow → jv_V E 10 h1 0 0 Q 9 [(7, .int (nI p)), (5, .int (jv_bI ((c_t1 A B UA UB kd ty rc ko none none p).1))), (6, .int (jv_bI ((c_t1 A B UA UB kd ty rc ko none none p).2))), (0, .ref (z 6 4)), (1, .ref (z 0 a)), (2, .ref (z 0 b)), (3, va_rf none), (4, va_rf none)] [] := by
  intro n
  induction n with
  | zero =>
    intro p h1 hn hF hu1
    have hA1 := s06_E (sp_S lp) hF hA; have hB1 := s06_E (sp_S lp) hF hB; have uA1 := s06_U (sp_S lp) hF hA uA; have uB1 := s06_U (sp_S lp) hF hB uB; have lp1 := sp_L hF lp
    refine jv_iload (q := 11) G 0 dX4_trialFits_9 rfl rfl ?_
    refine jv_iconst (q := 12) (v := nI 5) G dX4_trialFits_11 (by decide) rfl ?_
    refine jv_icmp_geN (q := 15) (tgt := 83) G dX4_trialFits_12 (by decide) rfl (by omega) (by omega) (fun c1 => ?_) (fun c1 => ?_)
    · refine jv_lo [1, 2, 3, 4, 5, 6, 7] (lo' := [(5, .int (jv_bI ((c_t1 A B UA UB kd ty rc ko none none p).1))), (6, .int (jv_bI ((c_t1 A B UA UB kd ty rc ko none none p).2))), (0, .ref (z 6 4)), (1, .ref (z 0 a)), (2, .ref (z 0 b)), (3, va_rf none), (4, va_rf none)]) rfl ?_
      rw [show p = 5 by omega]; exact hk _ hF hu1
    · omega
  | succ n ih =>
    intro p h1 hn hF hu1
    have hA1 := s06_E (sp_S lp) hF hA; have hB1 := s06_E (sp_S lp) hF hB; have uA1 := s06_U (sp_S lp) hF hA uA; have uB1 := s06_U (sp_S lp) hF hB uB; have lp1 := sp_L hF lp
    refine jv_iload (q := 11) G 0 dX4_trialFits_9 rfl rfl ?_
    refine jv_iconst (q := 12) (v := nI 5) G dX4_trialFits_11 (by decide) rfl ?_
    refine jv_icmp_geN (q := 15) (tgt := 83) G dX4_trialFits_12 (by decide) rfl (by omega) (by omega) (fun c1 => ?_) (fun c1 => ?_)
    · omega
    · refine jv_aload_n (q := 16) G 3 dX4_trialFits_15 rfl rfl rfl ?_
      refine jv_getQ (q := 19) G dX4_trialFits_16 fl_X4_12 rfl lp1.1 lp1.2.1 rfl ?_
      refine jv_aload_n (q := 20) G 4 dX4_trialFits_19 rfl rfl rfl ?_
      refine jv_getI (q := 23) G dX4_trialFits_20 fl_X4_110 rfl hA1.1.1 hA1.1.2.2.2.2.2.1 rfl ?_
      refine jv_iload (q := 25) G 0 dX4_trialFits_23 rfl rfl ?_
      refine jv_iconst (q := 26) (v := (-1)) G dX4_trialFits_25 (by decide) rfl ?_
      refine jv_callV (q := 29) (As := [.int (nI a), .int (nI p), .int (-1)]) (rest := []) G Z ml_X4_113 (k_cBegin (su := none) hlt lp1.2.2.2.1) lp1.2.2.2.1 dX4_trialFits_26 rfl (by decide) (by decide) (by decide) (by decide) (Nat.le_of_ble_eq_true rfl) rfl rfl (fun v3 h2 y4 => ?_) (fun _ _ hx => hx.elim)
      obtain ⟨rfl, hFb, hc1, h4b⟩ := y4
      show jv_V E 10 h2 0 0 Q 29 [(7, .int (nI p)), (5, .int (jv_bI ((c_t1 A B UA UB kd ty rc ko none none p).1))), (6, .int (jv_bI ((c_t1 A B UA UB kd ty rc ko none none p).2))), (0, .ref (z 6 4)), (1, .ref (z 0 a)), (2, .ref (z 0 b)), (3, va_rf none), (4, va_rf none)] []
      have hF := hF.tr (hFb.mono (S' := SP z) (fun _ q => Or.inl q))
      have hu1 := hu1.fr hFb (fun q => sp_n lp q)
      have hA1 := s06_E (sp_S lp) hF hA; have hB1 := s06_E (sp_S lp) hF hB; have uA1 := s06_U (sp_S lp) hF hA uA; have uB1 := s06_U (sp_S lp) hF hB uB; have lp1 := sp_L hF lp
      refine jv_aload_n (q := 30) G 3 dX4_trialFits_29 rfl rfl rfl ?_
      refine jv_getQ (q := 33) G dX4_trialFits_30 fl_X4_21 rfl lp1.1 lp1.2.2.1 rfl ?_
      refine jv_aload_n (q := 34) G 4 dX4_trialFits_33 rfl rfl rfl ?_
      refine jv_aload_n (q := 35) G 3 dX4_trialFits_34 rfl rfl rfl ?_
      refine jv_getQ (q := 38) G dX4_trialFits_35 fl_X4_12 rfl lp1.1 lp1.2.1 rfl ?_
      refine jv_aload_nR (q := 39) G 6 dX4_trialFits_38 rfl rfl rfl ?_
      refine jv_callV_I (q := 42) (h1 := h2) (As := [.ref (z 0 a), .ref (z 3 12), va_rf none]) (rest := []) (ce' := 0) (sl' := 0) (r := nI (c_hr A UA p none kd ty rc ko none)) G Z ml_X4_116 (k_reachO (ho := none) hlt hA1 uA1 hu1 hkd hK hc1 (by omega) (fun K q => by cases q)) lp1.2.2.2.2 dX4_trialFits_39 rfl (by decide) (by decide) (by decide) (by decide) (Nat.le_of_ble_eq_true rfl) rfl rfl rfl rfl ?_
      have hbA := hr_lt A UA p none kd ty rc ko none
      refine jv_if_neN (q := 45) (tgt := 77) G dX4_trialFits_42 (by decide) rfl (by omega) (fun c5 => ?_) (fun c5 => ?_)
      · refine jv_iinc (q := 80) (lo' := [(7, .int (nI (p + 1))), (5, .int (jv_bI ((c_t1 A B UA UB kd ty rc ko none none p).1))), (6, .int (jv_bI ((c_t1 A B UA UB kd ty rc ko none none p).2))), (0, .ref (z 6 4)), (1, .ref (z 0 a)), (2, .ref (z 0 b)), (3, va_rf none), (4, va_rf none)]) (v := nI (p + 1)) G 0 dX4_trialFits_77 rfl (nI_1 p) (by decide) rfl rfl ?_
        refine jv_goto (q := 9) G dX4_trialFits_80 (by decide) ?_
        refine jv_lo [0, 1, 2, 3, 4, 5, 6, 7] (lo' := [(7, .int (nI (p + 1))), (5, .int (jv_bI ((c_t1 A B UA UB kd ty rc ko none none p).1))), (6, .int (jv_bI ((c_t1 A B UA UB kd ty rc ko none none p).2))), (0, .ref (z 6 4)), (1, .ref (z 0 a)), (2, .ref (z 0 b)), (3, va_rf none), (4, va_rf none)]) rfl ?_
        have et : (c_t1 A B UA UB kd ty rc ko none none (p + 1)) = (c_t1 A B UA UB kd ty rc ko none none p) := by rw [c_t1, if_neg c5]
        rw [← et]; exact ih (p + 1) _ (by omega) hF hu1
      · refine jv_iconst (q := 46) (v := nI 1) G dX4_trialFits_45 (by decide) rfl ?_
        refine jv_topI (y := jv_bI true) rfl ?_
        refine jv_istore (q := 48) (lo' := [(5, .int (jv_bI true)), (7, .int (nI p)), (6, .int (jv_bI ((c_t1 A B UA UB kd ty rc ko none none p).2))), (0, .ref (z 6 4)), (1, .ref (z 0 a)), (2, .ref (z 0 b)), (3, va_rf none), (4, va_rf none)]) G dX4_trialFits_46 (by decide) rfl rfl ?_
        refine jv_iload (q := 50) G 2 dX4_trialFits_48 rfl rfl ?_
        refine jv_if_eqB (q := 53) (tgt := 74) G dX4_trialFits_50 (by decide) rfl (fun c6 => ?_) (fun c6 => ?_)
        · refine jv_iconst (q := 75) (v := nI 0) G dX4_trialFits_74 (by decide) rfl ?_
          refine jv_topI (y := jv_bI false) rfl ?_
          refine jv_istore (q := 77) (lo' := [(6, .int (jv_bI false)), (5, .int (jv_bI true)), (7, .int (nI p)), (0, .ref (z 6 4)), (1, .ref (z 0 a)), (2, .ref (z 0 b)), (3, va_rf none), (4, va_rf none)]) G dX4_trialFits_75 (by decide) rfl rfl ?_
          refine jv_iinc (q := 80) (lo' := [(7, .int (nI (p + 1))), (6, .int (jv_bI false)), (5, .int (jv_bI true)), (0, .ref (z 6 4)), (1, .ref (z 0 a)), (2, .ref (z 0 b)), (3, va_rf none), (4, va_rf none)]) (v := nI (p + 1)) G 2 dX4_trialFits_77 rfl (nI_1 p) (by decide) rfl rfl ?_
          refine jv_goto (q := 9) G dX4_trialFits_80 (by decide) ?_
          refine jv_lo [0, 2, 1, 3, 4, 5, 6, 7] (lo' := [(7, .int (nI (p + 1))), (5, .int (jv_bI true)), (6, .int (jv_bI false)), (0, .ref (z 6 4)), (1, .ref (z 0 a)), (2, .ref (z 0 b)), (3, va_rf none), (4, va_rf none)]) rfl ?_
          have et : (c_t1 A B UA UB kd ty rc ko none none (p + 1)) = (true, false) := by rw [c_t1, if_pos c5]; simp [c6]
          have q := ih (p + 1) _ (by omega) hF hu1
          rw [et] at q; exact q
        · refine jv_aload_n (q := 54) G 3 dX4_trialFits_53 rfl rfl rfl ?_
          refine jv_getQ (q := 57) G dX4_trialFits_54 fl_X4_21 rfl lp1.1 lp1.2.2.1 rfl ?_
          refine jv_aload_n (q := 58) G 5 dX4_trialFits_57 rfl rfl rfl ?_
          refine jv_aload_n (q := 59) G 3 dX4_trialFits_58 rfl rfl rfl ?_
          refine jv_getQ (q := 62) G dX4_trialFits_59 fl_X4_12 rfl lp1.1 lp1.2.1 rfl ?_
          refine jv_aloadR (q := 64) G 7 dX4_trialFits_62 rfl rfl ?_
          refine jv_callV_I (q := 67) (h1 := h2) (As := [.ref (z 0 b), .ref (z 3 12), va_rf none]) (rest := []) (ce' := 0) (sl' := 0) (r := nI (c_hr B UB p none kd ty rc ko none)) G Z ml_X4_116 (k_reachO (ho := none) hlt hB1 uB1 hu1 hkd hK hc1 (by omega) (fun K q => by cases q)) lp1.2.2.2.2 dX4_trialFits_64 rfl (by decide) (by decide) (by decide) (by decide) (Nat.le_of_ble_eq_true rfl) rfl rfl rfl rfl ?_
          have hbB := hr_lt B UB p none kd ty rc ko none
          refine jv_if_neN (q := 70) (tgt := 74) G dX4_trialFits_67 (by decide) rfl (by omega) (fun c7 => ?_) (fun c7 => ?_)
          · refine jv_iconst (q := 75) (v := nI 0) G dX4_trialFits_74 (by decide) rfl ?_
            refine jv_topI (y := jv_bI false) rfl ?_
            refine jv_istore (q := 77) (lo' := [(6, .int (jv_bI false)), (5, .int (jv_bI true)), (7, .int (nI p)), (0, .ref (z 6 4)), (1, .ref (z 0 a)), (2, .ref (z 0 b)), (3, va_rf none), (4, va_rf none)]) G dX4_trialFits_75 (by decide) rfl rfl ?_
            refine jv_iinc (q := 80) (lo' := [(7, .int (nI (p + 1))), (6, .int (jv_bI false)), (5, .int (jv_bI true)), (0, .ref (z 6 4)), (1, .ref (z 0 a)), (2, .ref (z 0 b)), (3, va_rf none), (4, va_rf none)]) (v := nI (p + 1)) G 2 dX4_trialFits_77 rfl (nI_1 p) (by decide) rfl rfl ?_
            refine jv_goto (q := 9) G dX4_trialFits_80 (by decide) ?_
            refine jv_lo [0, 2, 1, 3, 4, 5, 6, 7] (lo' := [(7, .int (nI (p + 1))), (5, .int (jv_bI true)), (6, .int (jv_bI false)), (0, .ref (z 6 4)), (1, .ref (z 0 a)), (2, .ref (z 0 b)), (3, va_rf none), (4, va_rf none)]) rfl ?_
            have et : (c_t1 A B UA UB kd ty rc ko none none (p + 1)) = (true, false) := by rw [c_t1, if_pos c5]; simp [c6, c7]
            have q := ih (p + 1) _ (by omega) hF hu1
            rw [et] at q; exact q
          · refine jv_iconst (q := 71) (v := nI 1) G dX4_trialFits_70 (by decide) rfl ?_
            refine jv_goto (q := 75) G dX4_trialFits_71 (by decide) ?_
            refine jv_topI (y := jv_bI true) rfl ?_
            refine jv_istore (q := 77) (lo' := [(6, .int (jv_bI true)), (5, .int (jv_bI true)), (7, .int (nI p)), (0, .ref (z 6 4)), (1, .ref (z 0 a)), (2, .ref (z 0 b)), (3, va_rf none), (4, va_rf none)]) G dX4_trialFits_75 (by decide) rfl rfl ?_
            refine jv_iinc (q := 80) (lo' := [(7, .int (nI (p + 1))), (6, .int (jv_bI true)), (5, .int (jv_bI true)), (0, .ref (z 6 4)), (1, .ref (z 0 a)), (2, .ref (z 0 b)), (3, va_rf none), (4, va_rf none)]) (v := nI (p + 1)) G 2 dX4_trialFits_77 rfl (nI_1 p) (by decide) rfl rfl ?_
            refine jv_goto (q := 9) G dX4_trialFits_80 (by decide) ?_
            refine jv_lo [0, 2, 1, 3, 4, 5, 6, 7] (lo' := [(7, .int (nI (p + 1))), (5, .int (jv_bI true)), (6, .int (jv_bI true)), (0, .ref (z 6 4)), (1, .ref (z 0 a)), (2, .ref (z 0 b)), (3, va_rf none), (4, va_rf none)]) rfl ?_
            have et : (c_t1 A B UA UB kd ty rc ko none none (p + 1)) = (true, true) := by rw [c_t1, if_pos c5]; simp [c6, c7]
            have q := ih (p + 1) _ (by omega) hF hu1
            rw [et] at q; exact q
set_option maxHeartbeats 4000000 in
set_option maxRecDepth 100000 in
theorem k_tf_l200 {E : jv_E} {z : Nat → Nat → Nat} {T : Nat → Nat} {N : Nat → Nat → Nat} {h : jv_H} {a b : Nat} {A B : List mT} {UA UB : Nat → List Nat} (hA : cv_E z T N h a A) (hB : cv_E z T N h b B) (uA : cv_Us z T h a A UA) (uB : cv_Us z T h b B UB) (lp : cl_p z h) (ha8 : a < 8) {kd : Nat} {ty rc cv ow : Int32} {ko : Option Nat} (hu : cv_use h (z 5 260) kd ty ko rc cv ow) (hkd : kd < 6) (hK : ∀ K, ko = some K → K < 64) {al : Bool} (hlt : (jv_l E).stackTraces = false) (G : jv_C E cX4_trialFits RX4 10) (Z : jv_rm E = jv_room 5 0 0) (hr : (jv_mt E).sig.returnType = some .boolean) : ∀ (n i : Nat) (h1 : jv_H) (rc1 : Int32), i + n = A.length → m_any (c_tb A B UA UB kd ty ko none none al) i = false → cF (SP z) h h1 → cv_use h1 (z 5 260) kd ty ko rc1 cv ow → jv_V E 10 h1 0 0 (jv_Q E (fun y h' => y = some (.int (jv_bI (!m_any (c_tb A B UA UB kd ty ko none none al) A.length))) ∧ cF (SP z) h h') jv_no 0 0) 104 [(7, .int (nI i)), (6, .int (jv_bI al)), (0, .ref (z 6 4)), (1, .ref (z 0 a)), (2, .ref (z 0 b)), (3, va_rf none), (4, va_rf none)] [] := by
  intro n
  induction n with
  | zero =>
    intro i h1 rc1 hn hm hF hu1
    have hl10 := hA.2.2.2.1
    have hA1 := s06_E (sp_S lp) hF hA; have hB1 := s06_E (sp_S lp) hF hB; have uA1 := s06_U (sp_S lp) hF hA uA; have uB1 := s06_U (sp_S lp) hF hB uB; have lp1 := sp_L hF lp
    refine jv_iload (q := 106) G 0 dX4_trialFits_104 rfl rfl ?_
    refine jv_aload_n (q := 107) G 3 dX4_trialFits_106 rfl rfl rfl ?_
    refine jv_getI (q := 110) G dX4_trialFits_107 fl_X4_25 rfl hA1.1.1 hA1.2.2.1 rfl ?_
    refine jv_icmp_geN (q := 113) (tgt := 220) G dX4_trialFits_110 (by decide) rfl (by omega) (by omega) (fun c1 => ?_) (fun c1 => ?_)
    · refine jv_iconst (q := 221) (v := nI 1) G dX4_trialFits_220 (by decide) rfl ?_
      refine jv_topI (y := jv_bI true) rfl ?_
      refine jv_zret G hr dX4_trialFits_221 (Nat.le_of_ble_eq_true rfl) (Nat.le_of_ble_eq_true rfl) ?_
      refine ⟨?_, hF⟩; rw [show A.length = i by omega, hm]; rfl
    · omega
  | succ n ih =>
    intro i h1 rc1 hn hm hF hu1
    have hl10 := hA.2.2.2.1
    have hA1 := s06_E (sp_S lp) hF hA; have hB1 := s06_E (sp_S lp) hF hB; have uA1 := s06_U (sp_S lp) hF hA uA; have uB1 := s06_U (sp_S lp) hF hB uB; have lp1 := sp_L hF lp
    obtain ⟨ti, hti⟩ := jv_getLt (l := A) (k := i) (by omega)
    have lti := jv_ltGet hti
    have k10ti : i < 10 := by have := hA1.2.2.2.1; omega
    have Oti := (hA1.2.2.2.2.1 i ti hti).2
    have Vti := (hA1.2.2.2.2.1 i ti hti).1
    have Yti := hA1.2.1 i k10ti
    have btin := Oti.1; have btik := Oti.2.1
    refine jv_iload (q := 106) G 0 dX4_trialFits_104 rfl rfl ?_
    refine jv_aload_n (q := 107) G 3 dX4_trialFits_106 rfl rfl rfl ?_
    refine jv_getI (q := 110) G dX4_trialFits_107 fl_X4_25 rfl hA1.1.1 hA1.2.2.1 rfl ?_
    refine jv_icmp_geN (q := 113) (tgt := 220) G dX4_trialFits_110 (by decide) rfl (by omega) (by omega) (fun c1 => ?_) (fun c1 => ?_)
    · omega
    · refine jv_aload_n (q := 114) G 2 dX4_trialFits_113 rfl rfl rfl ?_
      refine jv_getQ (q := 117) G dX4_trialFits_114 fl_X4_21 rfl lp1.1 lp1.2.2.1 rfl ?_
      refine jv_aload_n (q := 118) G 3 dX4_trialFits_117 rfl rfl rfl ?_
      refine jv_getQ (q := 121) G dX4_trialFits_118 fl_X4_31 rfl hA1.1.1 hA1.1.2.1 rfl ?_
      refine jv_iload (q := 123) G 0 dX4_trialFits_121 rfl rfl ?_
      refine jv_aaldQ (q := 124) G dX4_trialFits_123 hA1.1.2.2.1 rfl (by omega) (by decide) (hA1.1.2.2.2.2.2.2 i k10ti) rfl ?_
      refine jv_getI (q := 127) G dX4_trialFits_124 fl_X4_43 rfl (hA1.2.1 i k10ti).1 (ct_0 (hA1.2.2.2.2.1 i ti hti).1) rfl ?_
      refine jv_putI (q := 130) G dX4_trialFits_127 fl_X4_124 rfl lp1.2.2.2.2 rfl ?_
      have hF := hF.wI (b := (z 5 260)) (Or.inr rfl) 3 (nI (mt_n ti))
      have hu1 := hu1.rc (rc' := nI (mt_n ti))
      generalize jv_wI h1 (z 5 260) 3 (nI (mt_n ti)) = h3 at hF hu1 ⊢
      have hA1 := s06_E (sp_S lp) hF hA; have hB1 := s06_E (sp_S lp) hF hB; have uA1 := s06_U (sp_S lp) hF hA uA; have uB1 := s06_U (sp_S lp) hF hB uB; have lp1 := sp_L hF lp
      refine jv_aload_n (q := 131) G 3 dX4_trialFits_130 rfl rfl rfl ?_
      refine jv_aload_nR (q := 132) G 5 dX4_trialFits_131 rfl rfl rfl ?_
      refine jv_aload_n (q := 133) G 2 dX4_trialFits_132 rfl rfl rfl ?_
      refine jv_getQ (q := 136) G dX4_trialFits_133 fl_X4_21 rfl lp1.1 lp1.2.2.1 rfl ?_
      refine jv_getI (q := 139) G dX4_trialFits_136 fl_X4_127 rfl lp1.2.2.2.2 hu1.2.2.2.1 rfl ?_
      refine jv_aload_n (q := 140) G 3 dX4_trialFits_139 rfl rfl rfl ?_
      refine jv_aload_n (q := 141) G 2 dX4_trialFits_140 rfl rfl rfl ?_
      refine jv_getQ (q := 144) G dX4_trialFits_141 fl_X4_21 rfl lp1.1 lp1.2.2.1 rfl ?_
      refine jv_getI (q := 147) G dX4_trialFits_144 fl_X4_124 rfl lp1.2.2.2.2 hu1.2.2.2.2.1 rfl ?_
      refine jv_callV_R (q := 150) (h1 := h3) (As := [.int (nI (mt_n ti))]) (rest := [.int (jv_oN ko), va_rf none, .ref (z 0 a)]) (ce' := 0) (sl' := 0) (r := ((m_cn A (nI (mt_n ti)) false).map (fun k => T (10 * a + k)))) G Z ml_X4_130 (k_classNamed hlt hA1) hA1.1.1 dX4_trialFits_147 rfl (by decide) (by decide) (by decide) (by decide) (Nat.le_of_ble_eq_true rfl) rfl rfl rfl rfl ?_
      rcases Option.eq_none_or_eq_some (m_cn A (nI (mt_n ti)) false) with hk4 | ⟨k2, hk4⟩
      · refine jv_topR (y := none) (by rw [hk4]; rfl) ?_
        refine jv_callV_R (q := 153) (h1 := h3) (As := [va_rf none, .int (jv_oN ko), va_rf none]) (rest := []) (ce' := 0) (sl' := 0) (r := ((c_rn A UA none ko (nI (mt_n ti))).map (fun k => T (10 * a + k)))) G Z ml_X4_133 (k_selO (rc := nI (mt_n ti)) (ho := none) (ro := none) hlt hA1 uA1 hK (fun K q => by cases q) hk4) hA1.1.1 dX4_trialFits_150 rfl (by decide) (by decide) (by decide) (by decide) (Nat.le_of_ble_eq_true rfl) rfl rfl rfl rfl ?_
        rcases Option.eq_none_or_eq_some (c_rn A UA none ko (nI (mt_n ti))) with hk7 | ⟨k5, hk7⟩
        · refine jv_topR (y := none) (by rw [hk7]; rfl) ?_
          refine jv_astoreR (q := 155) (lo' := [(8, va_rf none), (7, .int (nI i)), (6, .int (jv_bI al)), (0, .ref (z 6 4)), (1, .ref (z 0 a)), (2, .ref (z 0 b)), (3, va_rf none), (4, va_rf none)]) (x := none) G dX4_trialFits_153 (by decide) rfl rfl ?_
          refine jv_aload_n (q := 156) G 3 dX4_trialFits_155 rfl rfl rfl ?_
          refine jv_getQ (q := 159) G dX4_trialFits_156 fl_X4_21 rfl lp1.1 lp1.2.2.1 rfl ?_
          refine jv_aload_n (q := 160) G 4 dX4_trialFits_159 rfl rfl rfl ?_
          refine jv_aloadR (q := 162) G 0 dX4_trialFits_160 rfl rfl ?_
          refine jv_callV_I (q := 165) (h1 := h3) (As := [.ref (z 0 a), va_rf none]) (rest := []) (ce' := 0) (sl' := 0) (r := nI (c_hn A UA kd ty (nI (mt_n ti)) ko none)) G Z ml_X4_137 (k_runO (rn := none) hlt hA1 uA1 hu1 hkd hK (fun K q => by cases q)) lp1.2.2.2.2 dX4_trialFits_162 rfl (by decide) (by decide) (by decide) (by decide) (Nat.le_of_ble_eq_true rfl) rfl rfl rfl rfl ?_
          have hnA := hn_lt A UA kd ty (nI (mt_n ti)) ko none
          refine jv_if_neN (q := 168) (tgt := 214) G dX4_trialFits_165 (by decide) rfl (by omega) (fun c8 => ?_) (fun c8 => ?_)
          · refine jv_iinc (q := 217) (lo' := [(7, .int (nI (i + 1))), (8, va_rf none), (6, .int (jv_bI al)), (0, .ref (z 6 4)), (1, .ref (z 0 a)), (2, .ref (z 0 b)), (3, va_rf none), (4, va_rf none)]) (v := nI (i + 1)) G 1 dX4_trialFits_214 rfl (nI_1 i) (by decide) rfl rfl ?_
            refine jv_goto (q := 104) G dX4_trialFits_217 (by decide) ?_
            refine jv_lo [0, 2, 3, 4, 5, 6, 7] (lo' := [(7, .int (nI (i + 1))), (6, .int (jv_bI al)), (0, .ref (z 6 4)), (1, .ref (z 0 a)), (2, .ref (z 0 b)), (3, va_rf none), (4, va_rf none)]) rfl ?_
            have hbi : (c_tb A B UA UB kd ty ko none none al) i = false := by
              unfold c_tb; rw [hti]; simp [c8, hk7]
            exact ih (i + 1) _ _ (by omega) (by rw [m_any, hm, hbi]; rfl) hF hu1
          · refine jv_aload_n (q := 169) G 5 dX4_trialFits_168 rfl rfl rfl ?_
            refine jv_aloadR (q := 171) G 7 dX4_trialFits_169 rfl rfl ?_
            refine jv_aload_n (q := 172) G 3 dX4_trialFits_171 rfl rfl rfl ?_
            refine jv_getQ (q := 175) G dX4_trialFits_172 fl_X4_21 rfl lp1.1 lp1.2.2.1 rfl ?_
            refine jv_getI (q := 178) G dX4_trialFits_175 fl_X4_127 rfl lp1.2.2.2.2 hu1.2.2.2.1 rfl ?_
            refine jv_aload_n (q := 179) G 5 dX4_trialFits_178 rfl rfl rfl ?_
            refine jv_aload_n (q := 180) G 3 dX4_trialFits_179 rfl rfl rfl ?_
            refine jv_getQ (q := 183) G dX4_trialFits_180 fl_X4_21 rfl lp1.1 lp1.2.2.1 rfl ?_
            refine jv_getI (q := 186) G dX4_trialFits_183 fl_X4_124 rfl lp1.2.2.2.2 hu1.2.2.2.2.1 rfl ?_
            refine jv_callV_R (q := 189) (h1 := h3) (As := [.int (nI (mt_n ti))]) (rest := [.int (jv_oN ko), va_rf none, .ref (z 0 b)]) (ce' := 0) (sl' := 0) (r := ((m_cn B (nI (mt_n ti)) false).map (fun k => T (10 * b + k)))) G Z ml_X4_130 (k_classNamed hlt hB1) hB1.1.1 dX4_trialFits_186 rfl (by decide) (by decide) (by decide) (by decide) (Nat.le_of_ble_eq_true rfl) rfl rfl rfl rfl ?_
            rcases Option.eq_none_or_eq_some (m_cn B (nI (mt_n ti)) false) with hk11 | ⟨k9, hk11⟩
            · refine jv_topR (y := none) (by rw [hk11]; rfl) ?_
              refine jv_callV_R (q := 192) (h1 := h3) (As := [va_rf none, .int (jv_oN ko), va_rf none]) (rest := []) (ce' := 0) (sl' := 0) (r := ((c_rn B UB none ko (nI (mt_n ti))).map (fun k => T (10 * b + k)))) G Z ml_X4_133 (k_selO (rc := nI (mt_n ti)) (ho := none) (ro := none) hlt hB1 uB1 hK (fun K q => by cases q) hk11) hB1.1.1 dX4_trialFits_189 rfl (by decide) (by decide) (by decide) (by decide) (Nat.le_of_ble_eq_true rfl) rfl rfl rfl rfl ?_
              rcases Option.eq_none_or_eq_some (c_rn B UB none ko (nI (mt_n ti))) with hk14 | ⟨k12, hk14⟩
              · refine jv_topR (y := none) (by rw [hk14]; rfl) ?_
                refine jv_astoreR (q := 194) (lo' := [(9, va_rf none), (8, va_rf none), (7, .int (nI i)), (6, .int (jv_bI al)), (0, .ref (z 6 4)), (1, .ref (z 0 a)), (2, .ref (z 0 b)), (3, va_rf none), (4, va_rf none)]) (x := none) G dX4_trialFits_192 (by decide) rfl rfl ?_
                refine jv_iload (q := 196) G 3 dX4_trialFits_194 rfl rfl ?_
                refine jv_if_eqB (q := 199) (tgt := 212) G dX4_trialFits_196 (by decide) rfl (fun c15 => ?_) (fun c15 => ?_)
                · refine jv_iconst (q := 213) (v := nI 0) G dX4_trialFits_212 (by decide) rfl ?_
                  refine jv_topI (y := jv_bI false) rfl ?_
                  refine jv_zret G hr dX4_trialFits_213 (Nat.le_of_ble_eq_true rfl) (Nat.le_of_ble_eq_true rfl) ?_
                  have hbi : (c_tb A B UA UB kd ty ko none none al) i = true := by
                    unfold c_tb; rw [hti]; simp [c8, c15, hk7, hk14]
                  refine ⟨?_, hF⟩; rw [any_i.mpr ⟨i, by omega, hbi⟩]; rfl
                · refine jv_aload_n (q := 200) G 4 dX4_trialFits_199 rfl rfl rfl ?_
                  refine jv_getQ (q := 203) G dX4_trialFits_200 fl_X4_21 rfl lp1.1 lp1.2.2.1 rfl ?_
                  refine jv_aload_n (q := 204) G 6 dX4_trialFits_203 rfl rfl rfl ?_
                  refine jv_aloadR (q := 206) G 0 dX4_trialFits_204 rfl rfl ?_
                  refine jv_callV_I (q := 209) (h1 := h3) (As := [.ref (z 0 b), va_rf none]) (rest := []) (ce' := 0) (sl' := 0) (r := nI (c_hn B UB kd ty (nI (mt_n ti)) ko none)) G Z ml_X4_137 (k_runO (rn := none) hlt hB1 uB1 hu1 hkd hK (fun K q => by cases q)) lp1.2.2.2.2 dX4_trialFits_206 rfl (by decide) (by decide) (by decide) (by decide) (Nat.le_of_ble_eq_true rfl) rfl rfl rfl rfl ?_
                  have hnB := hn_lt B UB kd ty (nI (mt_n ti)) ko none
                  refine jv_if_eqN (q := 212) (tgt := 214) G dX4_trialFits_209 (by decide) rfl (by omega) (fun c16 => ?_) (fun c16 => ?_)
                  · refine jv_iinc (q := 217) (lo' := [(7, .int (nI (i + 1))), (9, va_rf none), (8, va_rf none), (6, .int (jv_bI al)), (0, .ref (z 6 4)), (1, .ref (z 0 a)), (2, .ref (z 0 b)), (3, va_rf none), (4, va_rf none)]) (v := nI (i + 1)) G 2 dX4_trialFits_214 rfl (nI_1 i) (by decide) rfl rfl ?_
                    refine jv_goto (q := 104) G dX4_trialFits_217 (by decide) ?_
                    refine jv_lo [0, 3, 4, 5, 6, 7, 8] (lo' := [(7, .int (nI (i + 1))), (6, .int (jv_bI al)), (0, .ref (z 6 4)), (1, .ref (z 0 a)), (2, .ref (z 0 b)), (3, va_rf none), (4, va_rf none)]) rfl ?_
                    have hbi : (c_tb A B UA UB kd ty ko none none al) i = false := by
                      unfold c_tb; rw [hti]; simp [c8, c15, c16, hk7, hk14]
                    exact ih (i + 1) _ _ (by omega) (by rw [m_any, hm, hbi]; rfl) hF hu1
                  · refine jv_iconst (q := 213) (v := nI 0) G dX4_trialFits_212 (by decide) rfl ?_
                    refine jv_topI (y := jv_bI false) rfl ?_
                    refine jv_zret G hr dX4_trialFits_213 (Nat.le_of_ble_eq_true rfl) (Nat.le_of_ble_eq_true rfl) ?_
                    have hbi : (c_tb A B UA UB kd ty ko none none al) i = true := by
                      unfold c_tb; rw [hti]; simp [c8, c15, c16, hk7, hk14]
                    refine ⟨?_, hF⟩; rw [any_i.mpr ⟨i, by omega, hbi⟩]; rfl
              · refine jv_topR (y := (some (T (10 * b + k12)))) (by rw [hk14]; rfl) ?_
                obtain ⟨t13, ht13, nt13⟩ := rn_get hk14
                have lt13 := jv_ltGet ht13
                have k10t13 : k12 < 10 := by have := hB1.2.2.2.1; omega
                have Ot13 := (hB1.2.2.2.2.1 k12 t13 ht13).2
                have Vt13 := (hB1.2.2.2.2.1 k12 t13 ht13).1
                have Yt13 := hB1.2.1 k12 k10t13
                have bt13n := Ot13.1; have bt13k := Ot13.2.1
                refine jv_astore (q := 194) (lo' := [(9, .ref (T (10 * b + k12))), (8, va_rf none), (7, .int (nI i)), (6, .int (jv_bI al)), (0, .ref (z 6 4)), (1, .ref (z 0 a)), (2, .ref (z 0 b)), (3, va_rf none), (4, va_rf none)]) G dX4_trialFits_192 (by decide) rfl rfl ?_
                refine jv_iload (q := 196) G 3 dX4_trialFits_194 rfl rfl ?_
                refine jv_if_eqB (q := 199) (tgt := 212) G dX4_trialFits_196 (by decide) rfl (fun c17 => ?_) (fun c17 => ?_)
                · refine jv_iconst (q := 213) (v := nI 0) G dX4_trialFits_212 (by decide) rfl ?_
                  refine jv_topI (y := jv_bI false) rfl ?_
                  refine jv_zret G hr dX4_trialFits_213 (Nat.le_of_ble_eq_true rfl) (Nat.le_of_ble_eq_true rfl) ?_
                  have hbi : (c_tb A B UA UB kd ty ko none none al) i = true := by
                    unfold c_tb; rw [hti]; simp [c8, c17, hk7, hk14]
                  refine ⟨?_, hF⟩; rw [any_i.mpr ⟨i, by omega, hbi⟩]; rfl
                · refine jv_aload_n (q := 200) G 4 dX4_trialFits_199 rfl rfl rfl ?_
                  refine jv_getQ (q := 203) G dX4_trialFits_200 fl_X4_21 rfl lp1.1 lp1.2.2.1 rfl ?_
                  refine jv_aload_n (q := 204) G 6 dX4_trialFits_203 rfl rfl rfl ?_
                  refine jv_aload (q := 206) G 0 dX4_trialFits_204 rfl rfl ?_
                  refine jv_callV_I (q := 209) (h1 := h3) (As := [.ref (z 0 b), .ref (T (10 * b + k12))]) (rest := []) (ce' := 0) (sl' := 0) (r := nI (c_hn B UB kd ty (nI (mt_n ti)) ko (some k12))) G Z ml_X4_137 (k_runO (rn := (some k12)) hlt hB1 uB1 hu1 hkd hK (fun K q => by cases q; exact jv_ltGet ht13)) lp1.2.2.2.2 dX4_trialFits_206 rfl (by decide) (by decide) (by decide) (by decide) (Nat.le_of_ble_eq_true rfl) rfl rfl rfl rfl ?_
                  have hnB := hn_lt B UB kd ty (nI (mt_n ti)) ko (some k12)
                  refine jv_if_eqN (q := 212) (tgt := 214) G dX4_trialFits_209 (by decide) rfl (by omega) (fun c18 => ?_) (fun c18 => ?_)
                  · refine jv_iinc (q := 217) (lo' := [(7, .int (nI (i + 1))), (9, .ref (T (10 * b + k12))), (8, va_rf none), (6, .int (jv_bI al)), (0, .ref (z 6 4)), (1, .ref (z 0 a)), (2, .ref (z 0 b)), (3, va_rf none), (4, va_rf none)]) (v := nI (i + 1)) G 2 dX4_trialFits_214 rfl (nI_1 i) (by decide) rfl rfl ?_
                    refine jv_goto (q := 104) G dX4_trialFits_217 (by decide) ?_
                    refine jv_lo [0, 3, 4, 5, 6, 7, 8] (lo' := [(7, .int (nI (i + 1))), (6, .int (jv_bI al)), (0, .ref (z 6 4)), (1, .ref (z 0 a)), (2, .ref (z 0 b)), (3, va_rf none), (4, va_rf none)]) rfl ?_
                    have hbi : (c_tb A B UA UB kd ty ko none none al) i = false := by
                      unfold c_tb; rw [hti]; simp [c8, c17, c18, hk7, hk14]
                    exact ih (i + 1) _ _ (by omega) (by rw [m_any, hm, hbi]; rfl) hF hu1
                  · refine jv_iconst (q := 213) (v := nI 0) G dX4_trialFits_212 (by decide) rfl ?_
                    refine jv_topI (y := jv_bI false) rfl ?_
                    refine jv_zret G hr dX4_trialFits_213 (Nat.le_of_ble_eq_true rfl) (Nat.le_of_ble_eq_true rfl) ?_
                    have hbi : (c_tb A B UA UB kd ty ko none none al) i = true := by
                      unfold c_tb; rw [hti]; simp [c8, c17, c18, hk7, hk14]
                    refine ⟨?_, hF⟩; rw [any_i.mpr ⟨i, by omega, hbi⟩]; rfl
            · refine jv_topR (y := (some (T (10 * b + k9)))) (by rw [hk11]; rfl) ?_
              obtain ⟨t10, ht10, nt10⟩ := m_cn_get hk11
              have lt10 := jv_ltGet ht10
              have k10t10 : k9 < 10 := by have := hB1.2.2.2.1; omega
              have Ot10 := (hB1.2.2.2.2.1 k9 t10 ht10).2
              have Vt10 := (hB1.2.2.2.2.1 k9 t10 ht10).1
              have Yt10 := hB1.2.1 k9 k10t10
              have bt10n := Ot10.1; have bt10k := Ot10.2.1
              refine jv_callV_R (q := 192) (h1 := h3) (As := [va_rf none, .int (jv_oN ko), .ref (T (10 * b + k9))]) (rest := []) (ce' := 0) (sl' := 0) (r := ((c_rn B UB none ko (nI (mt_n ti))).map (fun k => T (10 * b + k)))) G Z ml_X4_133 (k_selO (rc := nI (mt_n ti)) (ho := none) (ro := (some k9)) hlt hB1 uB1 hK (fun K q => by cases q) hk11) hB1.1.1 dX4_trialFits_189 rfl (by decide) (by decide) (by decide) (by decide) (Nat.le_of_ble_eq_true rfl) rfl rfl rfl rfl ?_
              rcases Option.eq_none_or_eq_some (c_rn B UB none ko (nI (mt_n ti))) with hk21 | ⟨k19, hk21⟩
              · refine jv_topR (y := none) (by rw [hk21]; rfl) ?_
                refine jv_astoreR (q := 194) (lo' := [(9, va_rf none), (8, va_rf none), (7, .int (nI i)), (6, .int (jv_bI al)), (0, .ref (z 6 4)), (1, .ref (z 0 a)), (2, .ref (z 0 b)), (3, va_rf none), (4, va_rf none)]) (x := none) G dX4_trialFits_192 (by decide) rfl rfl ?_
                refine jv_iload (q := 196) G 3 dX4_trialFits_194 rfl rfl ?_
                refine jv_if_eqB (q := 199) (tgt := 212) G dX4_trialFits_196 (by decide) rfl (fun c22 => ?_) (fun c22 => ?_)
                · refine jv_iconst (q := 213) (v := nI 0) G dX4_trialFits_212 (by decide) rfl ?_
                  refine jv_topI (y := jv_bI false) rfl ?_
                  refine jv_zret G hr dX4_trialFits_213 (Nat.le_of_ble_eq_true rfl) (Nat.le_of_ble_eq_true rfl) ?_
                  have hbi : (c_tb A B UA UB kd ty ko none none al) i = true := by
                    unfold c_tb; rw [hti]; simp [c8, c22, hk7, hk21]
                  refine ⟨?_, hF⟩; rw [any_i.mpr ⟨i, by omega, hbi⟩]; rfl
                · refine jv_aload_n (q := 200) G 4 dX4_trialFits_199 rfl rfl rfl ?_
                  refine jv_getQ (q := 203) G dX4_trialFits_200 fl_X4_21 rfl lp1.1 lp1.2.2.1 rfl ?_
                  refine jv_aload_n (q := 204) G 6 dX4_trialFits_203 rfl rfl rfl ?_
                  refine jv_aloadR (q := 206) G 0 dX4_trialFits_204 rfl rfl ?_
                  refine jv_callV_I (q := 209) (h1 := h3) (As := [.ref (z 0 b), va_rf none]) (rest := []) (ce' := 0) (sl' := 0) (r := nI (c_hn B UB kd ty (nI (mt_n ti)) ko none)) G Z ml_X4_137 (k_runO (rn := none) hlt hB1 uB1 hu1 hkd hK (fun K q => by cases q)) lp1.2.2.2.2 dX4_trialFits_206 rfl (by decide) (by decide) (by decide) (by decide) (Nat.le_of_ble_eq_true rfl) rfl rfl rfl rfl ?_
                  have hnB := hn_lt B UB kd ty (nI (mt_n ti)) ko none
                  refine jv_if_eqN (q := 212) (tgt := 214) G dX4_trialFits_209 (by decide) rfl (by omega) (fun c23 => ?_) (fun c23 => ?_)
                  · refine jv_iinc (q := 217) (lo' := [(7, .int (nI (i + 1))), (9, va_rf none), (8, va_rf none), (6, .int (jv_bI al)), (0, .ref (z 6 4)), (1, .ref (z 0 a)), (2, .ref (z 0 b)), (3, va_rf none), (4, va_rf none)]) (v := nI (i + 1)) G 2 dX4_trialFits_214 rfl (nI_1 i) (by decide) rfl rfl ?_
                    refine jv_goto (q := 104) G dX4_trialFits_217 (by decide) ?_
                    refine jv_lo [0, 3, 4, 5, 6, 7, 8] (lo' := [(7, .int (nI (i + 1))), (6, .int (jv_bI al)), (0, .ref (z 6 4)), (1, .ref (z 0 a)), (2, .ref (z 0 b)), (3, va_rf none), (4, va_rf none)]) rfl ?_
                    have hbi : (c_tb A B UA UB kd ty ko none none al) i = false := by
                      unfold c_tb; rw [hti]; simp [c8, c22, c23, hk7, hk21]
                    exact ih (i + 1) _ _ (by omega) (by rw [m_any, hm, hbi]; rfl) hF hu1
                  · refine jv_iconst (q := 213) (v := nI 0) G dX4_trialFits_212 (by decide) rfl ?_
                    refine jv_topI (y := jv_bI false) rfl ?_
                    refine jv_zret G hr dX4_trialFits_213 (Nat.le_of_ble_eq_true rfl) (Nat.le_of_ble_eq_true rfl) ?_
                    have hbi : (c_tb A B UA UB kd ty ko none none al) i = true := by
                      unfold c_tb; rw [hti]; simp [c8, c22, c23, hk7, hk21]
                    refine ⟨?_, hF⟩; rw [any_i.mpr ⟨i, by omega, hbi⟩]; rfl
              · refine jv_topR (y := (some (T (10 * b + k19)))) (by rw [hk21]; rfl) ?_
                obtain ⟨t20, ht20, nt20⟩ := rn_get hk21
                have lt20 := jv_ltGet ht20
                have k10t20 : k19 < 10 := by have := hB1.2.2.2.1; omega
                have Ot20 := (hB1.2.2.2.2.1 k19 t20 ht20).2
                have Vt20 := (hB1.2.2.2.2.1 k19 t20 ht20).1
                have Yt20 := hB1.2.1 k19 k10t20
                have bt20n := Ot20.1; have bt20k := Ot20.2.1
                refine jv_astore (q := 194) (lo' := [(9, .ref (T (10 * b + k19))), (8, va_rf none), (7, .int (nI i)), (6, .int (jv_bI al)), (0, .ref (z 6 4)), (1, .ref (z 0 a)), (2, .ref (z 0 b)), (3, va_rf none), (4, va_rf none)]) G dX4_trialFits_192 (by decide) rfl rfl ?_
                refine jv_iload (q := 196) G 3 dX4_trialFits_194 rfl rfl ?_
                refine jv_if_eqB (q := 199) (tgt := 212) G dX4_trialFits_196 (by decide) rfl (fun c24 => ?_) (fun c24 => ?_)
                · refine jv_iconst (q := 213) (v := nI 0) G dX4_trialFits_212 (by decide) rfl ?_
                  refine jv_topI (y := jv_bI false) rfl ?_
                  refine jv_zret G hr dX4_trialFits_213 (Nat.le_of_ble_eq_true rfl) (Nat.le_of_ble_eq_true rfl) ?_
                  have hbi : (c_tb A B UA UB kd ty ko none none al) i = true := by
                    unfold c_tb; rw [hti]; simp [c8, c24, hk7, hk21]
                  refine ⟨?_, hF⟩; rw [any_i.mpr ⟨i, by omega, hbi⟩]; rfl
                · refine jv_aload_n (q := 200) G 4 dX4_trialFits_199 rfl rfl rfl ?_
                  refine jv_getQ (q := 203) G dX4_trialFits_200 fl_X4_21 rfl lp1.1 lp1.2.2.1 rfl ?_
                  refine jv_aload_n (q := 204) G 6 dX4_trialFits_203 rfl rfl rfl ?_
                  refine jv_aload (q := 206) G 0 dX4_trialFits_204 rfl rfl ?_
                  refine jv_callV_I (q := 209) (h1 := h3) (As := [.ref (z 0 b), .ref (T (10 * b + k19))]) (rest := []) (ce' := 0) (sl' := 0) (r := nI (c_hn B UB kd ty (nI (mt_n ti)) ko (some k19))) G Z ml_X4_137 (k_runO (rn := (some k19)) hlt hB1 uB1 hu1 hkd hK (fun K q => by cases q; exact jv_ltGet ht20)) lp1.2.2.2.2 dX4_trialFits_206 rfl (by decide) (by decide) (by decide) (by decide) (Nat.le_of_ble_eq_true rfl) rfl rfl rfl rfl ?_
                  have hnB := hn_lt B UB kd ty (nI (mt_n ti)) ko (some k19)
                  refine jv_if_eqN (q := 212) (tgt := 214) G dX4_trialFits_209 (by decide) rfl (by omega) (fun c25 => ?_) (fun c25 => ?_)
                  · refine jv_iinc (q := 217) (lo' := [(7, .int (nI (i + 1))), (9, .ref (T (10 * b + k19))), (8, va_rf none), (6, .int (jv_bI al)), (0, .ref (z 6 4)), (1, .ref (z 0 a)), (2, .ref (z 0 b)), (3, va_rf none), (4, va_rf none)]) (v := nI (i + 1)) G 2 dX4_trialFits_214 rfl (nI_1 i) (by decide) rfl rfl ?_
                    refine jv_goto (q := 104) G dX4_trialFits_217 (by decide) ?_
                    refine jv_lo [0, 3, 4, 5, 6, 7, 8] (lo' := [(7, .int (nI (i + 1))), (6, .int (jv_bI al)), (0, .ref (z 6 4)), (1, .ref (z 0 a)), (2, .ref (z 0 b)), (3, va_rf none), (4, va_rf none)]) rfl ?_
                    have hbi : (c_tb A B UA UB kd ty ko none none al) i = false := by
                      unfold c_tb; rw [hti]; simp [c8, c24, c25, hk7, hk21]
                    exact ih (i + 1) _ _ (by omega) (by rw [m_any, hm, hbi]; rfl) hF hu1
                  · refine jv_iconst (q := 213) (v := nI 0) G dX4_trialFits_212 (by decide) rfl ?_
                    refine jv_topI (y := jv_bI false) rfl ?_
                    refine jv_zret G hr dX4_trialFits_213 (Nat.le_of_ble_eq_true rfl) (Nat.le_of_ble_eq_true rfl) ?_
                    have hbi : (c_tb A B UA UB kd ty ko none none al) i = true := by
                      unfold c_tb; rw [hti]; simp [c8, c24, c25, hk7, hk21]
                    refine ⟨?_, hF⟩; rw [any_i.mpr ⟨i, by omega, hbi⟩]; rfl
        · refine jv_topR (y := (some (T (10 * a + k5)))) (by rw [hk7]; rfl) ?_
          obtain ⟨t6, ht6, nt6⟩ := rn_get hk7
          have lt6 := jv_ltGet ht6
          have k10t6 : k5 < 10 := by have := hA1.2.2.2.1; omega
          have Ot6 := (hA1.2.2.2.2.1 k5 t6 ht6).2
          have Vt6 := (hA1.2.2.2.2.1 k5 t6 ht6).1
          have Yt6 := hA1.2.1 k5 k10t6
          have bt6n := Ot6.1; have bt6k := Ot6.2.1
          refine jv_astore (q := 155) (lo' := [(8, .ref (T (10 * a + k5))), (7, .int (nI i)), (6, .int (jv_bI al)), (0, .ref (z 6 4)), (1, .ref (z 0 a)), (2, .ref (z 0 b)), (3, va_rf none), (4, va_rf none)]) G dX4_trialFits_153 (by decide) rfl rfl ?_
          refine jv_aload_n (q := 156) G 3 dX4_trialFits_155 rfl rfl rfl ?_
          refine jv_getQ (q := 159) G dX4_trialFits_156 fl_X4_21 rfl lp1.1 lp1.2.2.1 rfl ?_
          refine jv_aload_n (q := 160) G 4 dX4_trialFits_159 rfl rfl rfl ?_
          refine jv_aload (q := 162) G 0 dX4_trialFits_160 rfl rfl ?_
          refine jv_callV_I (q := 165) (h1 := h3) (As := [.ref (z 0 a), .ref (T (10 * a + k5))]) (rest := []) (ce' := 0) (sl' := 0) (r := nI (c_hn A UA kd ty (nI (mt_n ti)) ko (some k5))) G Z ml_X4_137 (k_runO (rn := (some k5)) hlt hA1 uA1 hu1 hkd hK (fun K q => by cases q; exact jv_ltGet ht6)) lp1.2.2.2.2 dX4_trialFits_162 rfl (by decide) (by decide) (by decide) (by decide) (Nat.le_of_ble_eq_true rfl) rfl rfl rfl rfl ?_
          have hnA := hn_lt A UA kd ty (nI (mt_n ti)) ko (some k5)
          refine jv_if_neN (q := 168) (tgt := 214) G dX4_trialFits_165 (by decide) rfl (by omega) (fun c26 => ?_) (fun c26 => ?_)
          · refine jv_iinc (q := 217) (lo' := [(7, .int (nI (i + 1))), (8, .ref (T (10 * a + k5))), (6, .int (jv_bI al)), (0, .ref (z 6 4)), (1, .ref (z 0 a)), (2, .ref (z 0 b)), (3, va_rf none), (4, va_rf none)]) (v := nI (i + 1)) G 1 dX4_trialFits_214 rfl (nI_1 i) (by decide) rfl rfl ?_
            refine jv_goto (q := 104) G dX4_trialFits_217 (by decide) ?_
            refine jv_lo [0, 2, 3, 4, 5, 6, 7] (lo' := [(7, .int (nI (i + 1))), (6, .int (jv_bI al)), (0, .ref (z 6 4)), (1, .ref (z 0 a)), (2, .ref (z 0 b)), (3, va_rf none), (4, va_rf none)]) rfl ?_
            have hbi : (c_tb A B UA UB kd ty ko none none al) i = false := by
              unfold c_tb; rw [hti]; simp [c26, hk7]
            exact ih (i + 1) _ _ (by omega) (by rw [m_any, hm, hbi]; rfl) hF hu1
          · refine jv_aload_n (q := 169) G 5 dX4_trialFits_168 rfl rfl rfl ?_
            refine jv_aloadR (q := 171) G 7 dX4_trialFits_169 rfl rfl ?_
            refine jv_aload_n (q := 172) G 3 dX4_trialFits_171 rfl rfl rfl ?_
            refine jv_getQ (q := 175) G dX4_trialFits_172 fl_X4_21 rfl lp1.1 lp1.2.2.1 rfl ?_
            refine jv_getI (q := 178) G dX4_trialFits_175 fl_X4_127 rfl lp1.2.2.2.2 hu1.2.2.2.1 rfl ?_
            refine jv_aload_n (q := 179) G 5 dX4_trialFits_178 rfl rfl rfl ?_
            refine jv_aload_n (q := 180) G 3 dX4_trialFits_179 rfl rfl rfl ?_
            refine jv_getQ (q := 183) G dX4_trialFits_180 fl_X4_21 rfl lp1.1 lp1.2.2.1 rfl ?_
            refine jv_getI (q := 186) G dX4_trialFits_183 fl_X4_124 rfl lp1.2.2.2.2 hu1.2.2.2.2.1 rfl ?_
            refine jv_callV_R (q := 189) (h1 := h3) (As := [.int (nI (mt_n ti))]) (rest := [.int (jv_oN ko), va_rf none, .ref (z 0 b)]) (ce' := 0) (sl' := 0) (r := ((m_cn B (nI (mt_n ti)) false).map (fun k => T (10 * b + k)))) G Z ml_X4_130 (k_classNamed hlt hB1) hB1.1.1 dX4_trialFits_186 rfl (by decide) (by decide) (by decide) (by decide) (Nat.le_of_ble_eq_true rfl) rfl rfl rfl rfl ?_
            rcases Option.eq_none_or_eq_some (m_cn B (nI (mt_n ti)) false) with hk29 | ⟨k27, hk29⟩
            · refine jv_topR (y := none) (by rw [hk29]; rfl) ?_
              refine jv_callV_R (q := 192) (h1 := h3) (As := [va_rf none, .int (jv_oN ko), va_rf none]) (rest := []) (ce' := 0) (sl' := 0) (r := ((c_rn B UB none ko (nI (mt_n ti))).map (fun k => T (10 * b + k)))) G Z ml_X4_133 (k_selO (rc := nI (mt_n ti)) (ho := none) (ro := none) hlt hB1 uB1 hK (fun K q => by cases q) hk29) hB1.1.1 dX4_trialFits_189 rfl (by decide) (by decide) (by decide) (by decide) (Nat.le_of_ble_eq_true rfl) rfl rfl rfl rfl ?_
              rcases Option.eq_none_or_eq_some (c_rn B UB none ko (nI (mt_n ti))) with hk32 | ⟨k30, hk32⟩
              · refine jv_topR (y := none) (by rw [hk32]; rfl) ?_
                refine jv_astoreR (q := 194) (lo' := [(9, va_rf none), (8, .ref (T (10 * a + k5))), (7, .int (nI i)), (6, .int (jv_bI al)), (0, .ref (z 6 4)), (1, .ref (z 0 a)), (2, .ref (z 0 b)), (3, va_rf none), (4, va_rf none)]) (x := none) G dX4_trialFits_192 (by decide) rfl rfl ?_
                refine jv_iload (q := 196) G 3 dX4_trialFits_194 rfl rfl ?_
                refine jv_if_eqB (q := 199) (tgt := 212) G dX4_trialFits_196 (by decide) rfl (fun c33 => ?_) (fun c33 => ?_)
                · refine jv_iconst (q := 213) (v := nI 0) G dX4_trialFits_212 (by decide) rfl ?_
                  refine jv_topI (y := jv_bI false) rfl ?_
                  refine jv_zret G hr dX4_trialFits_213 (Nat.le_of_ble_eq_true rfl) (Nat.le_of_ble_eq_true rfl) ?_
                  have hbi : (c_tb A B UA UB kd ty ko none none al) i = true := by
                    unfold c_tb; rw [hti]; simp [c26, c33, hk7, hk32]
                  refine ⟨?_, hF⟩; rw [any_i.mpr ⟨i, by omega, hbi⟩]; rfl
                · refine jv_aload_n (q := 200) G 4 dX4_trialFits_199 rfl rfl rfl ?_
                  refine jv_getQ (q := 203) G dX4_trialFits_200 fl_X4_21 rfl lp1.1 lp1.2.2.1 rfl ?_
                  refine jv_aload_n (q := 204) G 6 dX4_trialFits_203 rfl rfl rfl ?_
                  refine jv_aloadR (q := 206) G 0 dX4_trialFits_204 rfl rfl ?_
                  refine jv_callV_I (q := 209) (h1 := h3) (As := [.ref (z 0 b), va_rf none]) (rest := []) (ce' := 0) (sl' := 0) (r := nI (c_hn B UB kd ty (nI (mt_n ti)) ko none)) G Z ml_X4_137 (k_runO (rn := none) hlt hB1 uB1 hu1 hkd hK (fun K q => by cases q)) lp1.2.2.2.2 dX4_trialFits_206 rfl (by decide) (by decide) (by decide) (by decide) (Nat.le_of_ble_eq_true rfl) rfl rfl rfl rfl ?_
                  have hnB := hn_lt B UB kd ty (nI (mt_n ti)) ko none
                  refine jv_if_eqN (q := 212) (tgt := 214) G dX4_trialFits_209 (by decide) rfl (by omega) (fun c34 => ?_) (fun c34 => ?_)
                  · refine jv_iinc (q := 217) (lo' := [(7, .int (nI (i + 1))), (9, va_rf none), (8, .ref (T (10 * a + k5))), (6, .int (jv_bI al)), (0, .ref (z 6 4)), (1, .ref (z 0 a)), (2, .ref (z 0 b)), (3, va_rf none), (4, va_rf none)]) (v := nI (i + 1)) G 2 dX4_trialFits_214 rfl (nI_1 i) (by decide) rfl rfl ?_
                    refine jv_goto (q := 104) G dX4_trialFits_217 (by decide) ?_
                    refine jv_lo [0, 3, 4, 5, 6, 7, 8] (lo' := [(7, .int (nI (i + 1))), (6, .int (jv_bI al)), (0, .ref (z 6 4)), (1, .ref (z 0 a)), (2, .ref (z 0 b)), (3, va_rf none), (4, va_rf none)]) rfl ?_
                    have hbi : (c_tb A B UA UB kd ty ko none none al) i = false := by
                      unfold c_tb; rw [hti]; simp [c26, c33, c34, hk7, hk32]
                    exact ih (i + 1) _ _ (by omega) (by rw [m_any, hm, hbi]; rfl) hF hu1
                  · refine jv_iconst (q := 213) (v := nI 0) G dX4_trialFits_212 (by decide) rfl ?_
                    refine jv_topI (y := jv_bI false) rfl ?_
                    refine jv_zret G hr dX4_trialFits_213 (Nat.le_of_ble_eq_true rfl) (Nat.le_of_ble_eq_true rfl) ?_
                    have hbi : (c_tb A B UA UB kd ty ko none none al) i = true := by
                      unfold c_tb; rw [hti]; simp [c26, c33, c34, hk7, hk32]
                    refine ⟨?_, hF⟩; rw [any_i.mpr ⟨i, by omega, hbi⟩]; rfl
              · refine jv_topR (y := (some (T (10 * b + k30)))) (by rw [hk32]; rfl) ?_
                obtain ⟨t31, ht31, nt31⟩ := rn_get hk32
                have lt31 := jv_ltGet ht31
                have k10t31 : k30 < 10 := by have := hB1.2.2.2.1; omega
                have Ot31 := (hB1.2.2.2.2.1 k30 t31 ht31).2
                have Vt31 := (hB1.2.2.2.2.1 k30 t31 ht31).1
                have Yt31 := hB1.2.1 k30 k10t31
                have bt31n := Ot31.1; have bt31k := Ot31.2.1
                refine jv_astore (q := 194) (lo' := [(9, .ref (T (10 * b + k30))), (8, .ref (T (10 * a + k5))), (7, .int (nI i)), (6, .int (jv_bI al)), (0, .ref (z 6 4)), (1, .ref (z 0 a)), (2, .ref (z 0 b)), (3, va_rf none), (4, va_rf none)]) G dX4_trialFits_192 (by decide) rfl rfl ?_
                refine jv_iload (q := 196) G 3 dX4_trialFits_194 rfl rfl ?_
                refine jv_if_eqB (q := 199) (tgt := 212) G dX4_trialFits_196 (by decide) rfl (fun c35 => ?_) (fun c35 => ?_)
                · refine jv_iconst (q := 213) (v := nI 0) G dX4_trialFits_212 (by decide) rfl ?_
                  refine jv_topI (y := jv_bI false) rfl ?_
                  refine jv_zret G hr dX4_trialFits_213 (Nat.le_of_ble_eq_true rfl) (Nat.le_of_ble_eq_true rfl) ?_
                  have hbi : (c_tb A B UA UB kd ty ko none none al) i = true := by
                    unfold c_tb; rw [hti]; simp [c26, c35, hk7, hk32]
                  refine ⟨?_, hF⟩; rw [any_i.mpr ⟨i, by omega, hbi⟩]; rfl
                · refine jv_aload_n (q := 200) G 4 dX4_trialFits_199 rfl rfl rfl ?_
                  refine jv_getQ (q := 203) G dX4_trialFits_200 fl_X4_21 rfl lp1.1 lp1.2.2.1 rfl ?_
                  refine jv_aload_n (q := 204) G 6 dX4_trialFits_203 rfl rfl rfl ?_
                  refine jv_aload (q := 206) G 0 dX4_trialFits_204 rfl rfl ?_
                  refine jv_callV_I (q := 209) (h1 := h3) (As := [.ref (z 0 b), .ref (T (10 * b + k30))]) (rest := []) (ce' := 0) (sl' := 0) (r := nI (c_hn B UB kd ty (nI (mt_n ti)) ko (some k30))) G Z ml_X4_137 (k_runO (rn := (some k30)) hlt hB1 uB1 hu1 hkd hK (fun K q => by cases q; exact jv_ltGet ht31)) lp1.2.2.2.2 dX4_trialFits_206 rfl (by decide) (by decide) (by decide) (by decide) (Nat.le_of_ble_eq_true rfl) rfl rfl rfl rfl ?_
                  have hnB := hn_lt B UB kd ty (nI (mt_n ti)) ko (some k30)
                  refine jv_if_eqN (q := 212) (tgt := 214) G dX4_trialFits_209 (by decide) rfl (by omega) (fun c36 => ?_) (fun c36 => ?_)
                  · refine jv_iinc (q := 217) (lo' := [(7, .int (nI (i + 1))), (9, .ref (T (10 * b + k30))), (8, .ref (T (10 * a + k5))), (6, .int (jv_bI al)), (0, .ref (z 6 4)), (1, .ref (z 0 a)), (2, .ref (z 0 b)), (3, va_rf none), (4, va_rf none)]) (v := nI (i + 1)) G 2 dX4_trialFits_214 rfl (nI_1 i) (by decide) rfl rfl ?_
                    refine jv_goto (q := 104) G dX4_trialFits_217 (by decide) ?_
                    refine jv_lo [0, 3, 4, 5, 6, 7, 8] (lo' := [(7, .int (nI (i + 1))), (6, .int (jv_bI al)), (0, .ref (z 6 4)), (1, .ref (z 0 a)), (2, .ref (z 0 b)), (3, va_rf none), (4, va_rf none)]) rfl ?_
                    have hbi : (c_tb A B UA UB kd ty ko none none al) i = false := by
                      unfold c_tb; rw [hti]; simp [c26, c35, c36, hk7, hk32]
                    exact ih (i + 1) _ _ (by omega) (by rw [m_any, hm, hbi]; rfl) hF hu1
                  · refine jv_iconst (q := 213) (v := nI 0) G dX4_trialFits_212 (by decide) rfl ?_
                    refine jv_topI (y := jv_bI false) rfl ?_
                    refine jv_zret G hr dX4_trialFits_213 (Nat.le_of_ble_eq_true rfl) (Nat.le_of_ble_eq_true rfl) ?_
                    have hbi : (c_tb A B UA UB kd ty ko none none al) i = true := by
                      unfold c_tb; rw [hti]; simp [c26, c35, c36, hk7, hk32]
                    refine ⟨?_, hF⟩; rw [any_i.mpr ⟨i, by omega, hbi⟩]; rfl
            · refine jv_topR (y := (some (T (10 * b + k27)))) (by rw [hk29]; rfl) ?_
              obtain ⟨t28, ht28, nt28⟩ := m_cn_get hk29
              have lt28 := jv_ltGet ht28
              have k10t28 : k27 < 10 := by have := hB1.2.2.2.1; omega
              have Ot28 := (hB1.2.2.2.2.1 k27 t28 ht28).2
              have Vt28 := (hB1.2.2.2.2.1 k27 t28 ht28).1
              have Yt28 := hB1.2.1 k27 k10t28
              have bt28n := Ot28.1; have bt28k := Ot28.2.1
              refine jv_callV_R (q := 192) (h1 := h3) (As := [va_rf none, .int (jv_oN ko), .ref (T (10 * b + k27))]) (rest := []) (ce' := 0) (sl' := 0) (r := ((c_rn B UB none ko (nI (mt_n ti))).map (fun k => T (10 * b + k)))) G Z ml_X4_133 (k_selO (rc := nI (mt_n ti)) (ho := none) (ro := (some k27)) hlt hB1 uB1 hK (fun K q => by cases q) hk29) hB1.1.1 dX4_trialFits_189 rfl (by decide) (by decide) (by decide) (by decide) (Nat.le_of_ble_eq_true rfl) rfl rfl rfl rfl ?_
              rcases Option.eq_none_or_eq_some (c_rn B UB none ko (nI (mt_n ti))) with hk39 | ⟨k37, hk39⟩
              · refine jv_topR (y := none) (by rw [hk39]; rfl) ?_
                refine jv_astoreR (q := 194) (lo' := [(9, va_rf none), (8, .ref (T (10 * a + k5))), (7, .int (nI i)), (6, .int (jv_bI al)), (0, .ref (z 6 4)), (1, .ref (z 0 a)), (2, .ref (z 0 b)), (3, va_rf none), (4, va_rf none)]) (x := none) G dX4_trialFits_192 (by decide) rfl rfl ?_
                refine jv_iload (q := 196) G 3 dX4_trialFits_194 rfl rfl ?_
                refine jv_if_eqB (q := 199) (tgt := 212) G dX4_trialFits_196 (by decide) rfl (fun c40 => ?_) (fun c40 => ?_)
                · refine jv_iconst (q := 213) (v := nI 0) G dX4_trialFits_212 (by decide) rfl ?_
                  refine jv_topI (y := jv_bI false) rfl ?_
                  refine jv_zret G hr dX4_trialFits_213 (Nat.le_of_ble_eq_true rfl) (Nat.le_of_ble_eq_true rfl) ?_
                  have hbi : (c_tb A B UA UB kd ty ko none none al) i = true := by
                    unfold c_tb; rw [hti]; simp [c26, c40, hk7, hk39]
                  refine ⟨?_, hF⟩; rw [any_i.mpr ⟨i, by omega, hbi⟩]; rfl
                · refine jv_aload_n (q := 200) G 4 dX4_trialFits_199 rfl rfl rfl ?_
                  refine jv_getQ (q := 203) G dX4_trialFits_200 fl_X4_21 rfl lp1.1 lp1.2.2.1 rfl ?_
                  refine jv_aload_n (q := 204) G 6 dX4_trialFits_203 rfl rfl rfl ?_
                  refine jv_aloadR (q := 206) G 0 dX4_trialFits_204 rfl rfl ?_
                  refine jv_callV_I (q := 209) (h1 := h3) (As := [.ref (z 0 b), va_rf none]) (rest := []) (ce' := 0) (sl' := 0) (r := nI (c_hn B UB kd ty (nI (mt_n ti)) ko none)) G Z ml_X4_137 (k_runO (rn := none) hlt hB1 uB1 hu1 hkd hK (fun K q => by cases q)) lp1.2.2.2.2 dX4_trialFits_206 rfl (by decide) (by decide) (by decide) (by decide) (Nat.le_of_ble_eq_true rfl) rfl rfl rfl rfl ?_
                  have hnB := hn_lt B UB kd ty (nI (mt_n ti)) ko none
                  refine jv_if_eqN (q := 212) (tgt := 214) G dX4_trialFits_209 (by decide) rfl (by omega) (fun c41 => ?_) (fun c41 => ?_)
                  · refine jv_iinc (q := 217) (lo' := [(7, .int (nI (i + 1))), (9, va_rf none), (8, .ref (T (10 * a + k5))), (6, .int (jv_bI al)), (0, .ref (z 6 4)), (1, .ref (z 0 a)), (2, .ref (z 0 b)), (3, va_rf none), (4, va_rf none)]) (v := nI (i + 1)) G 2 dX4_trialFits_214 rfl (nI_1 i) (by decide) rfl rfl ?_
                    refine jv_goto (q := 104) G dX4_trialFits_217 (by decide) ?_
                    refine jv_lo [0, 3, 4, 5, 6, 7, 8] (lo' := [(7, .int (nI (i + 1))), (6, .int (jv_bI al)), (0, .ref (z 6 4)), (1, .ref (z 0 a)), (2, .ref (z 0 b)), (3, va_rf none), (4, va_rf none)]) rfl ?_
                    have hbi : (c_tb A B UA UB kd ty ko none none al) i = false := by
                      unfold c_tb; rw [hti]; simp [c26, c40, c41, hk7, hk39]
                    exact ih (i + 1) _ _ (by omega) (by rw [m_any, hm, hbi]; rfl) hF hu1
                  · refine jv_iconst (q := 213) (v := nI 0) G dX4_trialFits_212 (by decide) rfl ?_
                    refine jv_topI (y := jv_bI false) rfl ?_
                    refine jv_zret G hr dX4_trialFits_213 (Nat.le_of_ble_eq_true rfl) (Nat.le_of_ble_eq_true rfl) ?_
                    have hbi : (c_tb A B UA UB kd ty ko none none al) i = true := by
                      unfold c_tb; rw [hti]; simp [c26, c40, c41, hk7, hk39]
                    refine ⟨?_, hF⟩; rw [any_i.mpr ⟨i, by omega, hbi⟩]; rfl
              · refine jv_topR (y := (some (T (10 * b + k37)))) (by rw [hk39]; rfl) ?_
                obtain ⟨t38, ht38, nt38⟩ := rn_get hk39
                have lt38 := jv_ltGet ht38
                have k10t38 : k37 < 10 := by have := hB1.2.2.2.1; omega
                have Ot38 := (hB1.2.2.2.2.1 k37 t38 ht38).2
                have Vt38 := (hB1.2.2.2.2.1 k37 t38 ht38).1
                have Yt38 := hB1.2.1 k37 k10t38
                have bt38n := Ot38.1; have bt38k := Ot38.2.1
                refine jv_astore (q := 194) (lo' := [(9, .ref (T (10 * b + k37))), (8, .ref (T (10 * a + k5))), (7, .int (nI i)), (6, .int (jv_bI al)), (0, .ref (z 6 4)), (1, .ref (z 0 a)), (2, .ref (z 0 b)), (3, va_rf none), (4, va_rf none)]) G dX4_trialFits_192 (by decide) rfl rfl ?_
                refine jv_iload (q := 196) G 3 dX4_trialFits_194 rfl rfl ?_
                refine jv_if_eqB (q := 199) (tgt := 212) G dX4_trialFits_196 (by decide) rfl (fun c42 => ?_) (fun c42 => ?_)
                · refine jv_iconst (q := 213) (v := nI 0) G dX4_trialFits_212 (by decide) rfl ?_
                  refine jv_topI (y := jv_bI false) rfl ?_
                  refine jv_zret G hr dX4_trialFits_213 (Nat.le_of_ble_eq_true rfl) (Nat.le_of_ble_eq_true rfl) ?_
                  have hbi : (c_tb A B UA UB kd ty ko none none al) i = true := by
                    unfold c_tb; rw [hti]; simp [c26, c42, hk7, hk39]
                  refine ⟨?_, hF⟩; rw [any_i.mpr ⟨i, by omega, hbi⟩]; rfl
                · refine jv_aload_n (q := 200) G 4 dX4_trialFits_199 rfl rfl rfl ?_
                  refine jv_getQ (q := 203) G dX4_trialFits_200 fl_X4_21 rfl lp1.1 lp1.2.2.1 rfl ?_
                  refine jv_aload_n (q := 204) G 6 dX4_trialFits_203 rfl rfl rfl ?_
                  refine jv_aload (q := 206) G 0 dX4_trialFits_204 rfl rfl ?_
                  refine jv_callV_I (q := 209) (h1 := h3) (As := [.ref (z 0 b), .ref (T (10 * b + k37))]) (rest := []) (ce' := 0) (sl' := 0) (r := nI (c_hn B UB kd ty (nI (mt_n ti)) ko (some k37))) G Z ml_X4_137 (k_runO (rn := (some k37)) hlt hB1 uB1 hu1 hkd hK (fun K q => by cases q; exact jv_ltGet ht38)) lp1.2.2.2.2 dX4_trialFits_206 rfl (by decide) (by decide) (by decide) (by decide) (Nat.le_of_ble_eq_true rfl) rfl rfl rfl rfl ?_
                  have hnB := hn_lt B UB kd ty (nI (mt_n ti)) ko (some k37)
                  refine jv_if_eqN (q := 212) (tgt := 214) G dX4_trialFits_209 (by decide) rfl (by omega) (fun c43 => ?_) (fun c43 => ?_)
                  · refine jv_iinc (q := 217) (lo' := [(7, .int (nI (i + 1))), (9, .ref (T (10 * b + k37))), (8, .ref (T (10 * a + k5))), (6, .int (jv_bI al)), (0, .ref (z 6 4)), (1, .ref (z 0 a)), (2, .ref (z 0 b)), (3, va_rf none), (4, va_rf none)]) (v := nI (i + 1)) G 2 dX4_trialFits_214 rfl (nI_1 i) (by decide) rfl rfl ?_
                    refine jv_goto (q := 104) G dX4_trialFits_217 (by decide) ?_
                    refine jv_lo [0, 3, 4, 5, 6, 7, 8] (lo' := [(7, .int (nI (i + 1))), (6, .int (jv_bI al)), (0, .ref (z 6 4)), (1, .ref (z 0 a)), (2, .ref (z 0 b)), (3, va_rf none), (4, va_rf none)]) rfl ?_
                    have hbi : (c_tb A B UA UB kd ty ko none none al) i = false := by
                      unfold c_tb; rw [hti]; simp [c26, c42, c43, hk7, hk39]
                    exact ih (i + 1) _ _ (by omega) (by rw [m_any, hm, hbi]; rfl) hF hu1
                  · refine jv_iconst (q := 213) (v := nI 0) G dX4_trialFits_212 (by decide) rfl ?_
                    refine jv_topI (y := jv_bI false) rfl ?_
                    refine jv_zret G hr dX4_trialFits_213 (Nat.le_of_ble_eq_true rfl) (Nat.le_of_ble_eq_true rfl) ?_
                    have hbi : (c_tb A B UA UB kd ty ko none none al) i = true := by
                      unfold c_tb; rw [hti]; simp [c26, c42, c43, hk7, hk39]
                    refine ⟨?_, hF⟩; rw [any_i.mpr ⟨i, by omega, hbi⟩]; rfl
      · refine jv_topR (y := (some (T (10 * a + k2)))) (by rw [hk4]; rfl) ?_
        obtain ⟨t3, ht3, nt3⟩ := m_cn_get hk4
        have lt3 := jv_ltGet ht3
        have k10t3 : k2 < 10 := by have := hA1.2.2.2.1; omega
        have Ot3 := (hA1.2.2.2.2.1 k2 t3 ht3).2
        have Vt3 := (hA1.2.2.2.2.1 k2 t3 ht3).1
        have Yt3 := hA1.2.1 k2 k10t3
        have bt3n := Ot3.1; have bt3k := Ot3.2.1
        refine jv_callV_R (q := 153) (h1 := h3) (As := [va_rf none, .int (jv_oN ko), .ref (T (10 * a + k2))]) (rest := []) (ce' := 0) (sl' := 0) (r := ((c_rn A UA none ko (nI (mt_n ti))).map (fun k => T (10 * a + k)))) G Z ml_X4_133 (k_selO (rc := nI (mt_n ti)) (ho := none) (ro := (some k2)) hlt hA1 uA1 hK (fun K q => by cases q) hk4) hA1.1.1 dX4_trialFits_150 rfl (by decide) (by decide) (by decide) (by decide) (Nat.le_of_ble_eq_true rfl) rfl rfl rfl rfl ?_
        rcases Option.eq_none_or_eq_some (c_rn A UA none ko (nI (mt_n ti))) with hk46 | ⟨k44, hk46⟩
        · refine jv_topR (y := none) (by rw [hk46]; rfl) ?_
          refine jv_astoreR (q := 155) (lo' := [(8, va_rf none), (7, .int (nI i)), (6, .int (jv_bI al)), (0, .ref (z 6 4)), (1, .ref (z 0 a)), (2, .ref (z 0 b)), (3, va_rf none), (4, va_rf none)]) (x := none) G dX4_trialFits_153 (by decide) rfl rfl ?_
          refine jv_aload_n (q := 156) G 3 dX4_trialFits_155 rfl rfl rfl ?_
          refine jv_getQ (q := 159) G dX4_trialFits_156 fl_X4_21 rfl lp1.1 lp1.2.2.1 rfl ?_
          refine jv_aload_n (q := 160) G 4 dX4_trialFits_159 rfl rfl rfl ?_
          refine jv_aloadR (q := 162) G 0 dX4_trialFits_160 rfl rfl ?_
          refine jv_callV_I (q := 165) (h1 := h3) (As := [.ref (z 0 a), va_rf none]) (rest := []) (ce' := 0) (sl' := 0) (r := nI (c_hn A UA kd ty (nI (mt_n ti)) ko none)) G Z ml_X4_137 (k_runO (rn := none) hlt hA1 uA1 hu1 hkd hK (fun K q => by cases q)) lp1.2.2.2.2 dX4_trialFits_162 rfl (by decide) (by decide) (by decide) (by decide) (Nat.le_of_ble_eq_true rfl) rfl rfl rfl rfl ?_
          have hnA := hn_lt A UA kd ty (nI (mt_n ti)) ko none
          refine jv_if_neN (q := 168) (tgt := 214) G dX4_trialFits_165 (by decide) rfl (by omega) (fun c47 => ?_) (fun c47 => ?_)
          · refine jv_iinc (q := 217) (lo' := [(7, .int (nI (i + 1))), (8, va_rf none), (6, .int (jv_bI al)), (0, .ref (z 6 4)), (1, .ref (z 0 a)), (2, .ref (z 0 b)), (3, va_rf none), (4, va_rf none)]) (v := nI (i + 1)) G 1 dX4_trialFits_214 rfl (nI_1 i) (by decide) rfl rfl ?_
            refine jv_goto (q := 104) G dX4_trialFits_217 (by decide) ?_
            refine jv_lo [0, 2, 3, 4, 5, 6, 7] (lo' := [(7, .int (nI (i + 1))), (6, .int (jv_bI al)), (0, .ref (z 6 4)), (1, .ref (z 0 a)), (2, .ref (z 0 b)), (3, va_rf none), (4, va_rf none)]) rfl ?_
            have hbi : (c_tb A B UA UB kd ty ko none none al) i = false := by
              unfold c_tb; rw [hti]; simp [c47, hk46]
            exact ih (i + 1) _ _ (by omega) (by rw [m_any, hm, hbi]; rfl) hF hu1
          · refine jv_aload_n (q := 169) G 5 dX4_trialFits_168 rfl rfl rfl ?_
            refine jv_aloadR (q := 171) G 7 dX4_trialFits_169 rfl rfl ?_
            refine jv_aload_n (q := 172) G 3 dX4_trialFits_171 rfl rfl rfl ?_
            refine jv_getQ (q := 175) G dX4_trialFits_172 fl_X4_21 rfl lp1.1 lp1.2.2.1 rfl ?_
            refine jv_getI (q := 178) G dX4_trialFits_175 fl_X4_127 rfl lp1.2.2.2.2 hu1.2.2.2.1 rfl ?_
            refine jv_aload_n (q := 179) G 5 dX4_trialFits_178 rfl rfl rfl ?_
            refine jv_aload_n (q := 180) G 3 dX4_trialFits_179 rfl rfl rfl ?_
            refine jv_getQ (q := 183) G dX4_trialFits_180 fl_X4_21 rfl lp1.1 lp1.2.2.1 rfl ?_
            refine jv_getI (q := 186) G dX4_trialFits_183 fl_X4_124 rfl lp1.2.2.2.2 hu1.2.2.2.2.1 rfl ?_
            refine jv_callV_R (q := 189) (h1 := h3) (As := [.int (nI (mt_n ti))]) (rest := [.int (jv_oN ko), va_rf none, .ref (z 0 b)]) (ce' := 0) (sl' := 0) (r := ((m_cn B (nI (mt_n ti)) false).map (fun k => T (10 * b + k)))) G Z ml_X4_130 (k_classNamed hlt hB1) hB1.1.1 dX4_trialFits_186 rfl (by decide) (by decide) (by decide) (by decide) (Nat.le_of_ble_eq_true rfl) rfl rfl rfl rfl ?_
            rcases Option.eq_none_or_eq_some (m_cn B (nI (mt_n ti)) false) with hk50 | ⟨k48, hk50⟩
            · refine jv_topR (y := none) (by rw [hk50]; rfl) ?_
              refine jv_callV_R (q := 192) (h1 := h3) (As := [va_rf none, .int (jv_oN ko), va_rf none]) (rest := []) (ce' := 0) (sl' := 0) (r := ((c_rn B UB none ko (nI (mt_n ti))).map (fun k => T (10 * b + k)))) G Z ml_X4_133 (k_selO (rc := nI (mt_n ti)) (ho := none) (ro := none) hlt hB1 uB1 hK (fun K q => by cases q) hk50) hB1.1.1 dX4_trialFits_189 rfl (by decide) (by decide) (by decide) (by decide) (Nat.le_of_ble_eq_true rfl) rfl rfl rfl rfl ?_
              rcases Option.eq_none_or_eq_some (c_rn B UB none ko (nI (mt_n ti))) with hk53 | ⟨k51, hk53⟩
              · refine jv_topR (y := none) (by rw [hk53]; rfl) ?_
                refine jv_astoreR (q := 194) (lo' := [(9, va_rf none), (8, va_rf none), (7, .int (nI i)), (6, .int (jv_bI al)), (0, .ref (z 6 4)), (1, .ref (z 0 a)), (2, .ref (z 0 b)), (3, va_rf none), (4, va_rf none)]) (x := none) G dX4_trialFits_192 (by decide) rfl rfl ?_
                refine jv_iload (q := 196) G 3 dX4_trialFits_194 rfl rfl ?_
                refine jv_if_eqB (q := 199) (tgt := 212) G dX4_trialFits_196 (by decide) rfl (fun c54 => ?_) (fun c54 => ?_)
                · refine jv_iconst (q := 213) (v := nI 0) G dX4_trialFits_212 (by decide) rfl ?_
                  refine jv_topI (y := jv_bI false) rfl ?_
                  refine jv_zret G hr dX4_trialFits_213 (Nat.le_of_ble_eq_true rfl) (Nat.le_of_ble_eq_true rfl) ?_
                  have hbi : (c_tb A B UA UB kd ty ko none none al) i = true := by
                    unfold c_tb; rw [hti]; simp [c47, c54, hk46, hk53]
                  refine ⟨?_, hF⟩; rw [any_i.mpr ⟨i, by omega, hbi⟩]; rfl
                · refine jv_aload_n (q := 200) G 4 dX4_trialFits_199 rfl rfl rfl ?_
                  refine jv_getQ (q := 203) G dX4_trialFits_200 fl_X4_21 rfl lp1.1 lp1.2.2.1 rfl ?_
                  refine jv_aload_n (q := 204) G 6 dX4_trialFits_203 rfl rfl rfl ?_
                  refine jv_aloadR (q := 206) G 0 dX4_trialFits_204 rfl rfl ?_
                  refine jv_callV_I (q := 209) (h1 := h3) (As := [.ref (z 0 b), va_rf none]) (rest := []) (ce' := 0) (sl' := 0) (r := nI (c_hn B UB kd ty (nI (mt_n ti)) ko none)) G Z ml_X4_137 (k_runO (rn := none) hlt hB1 uB1 hu1 hkd hK (fun K q => by cases q)) lp1.2.2.2.2 dX4_trialFits_206 rfl (by decide) (by decide) (by decide) (by decide) (Nat.le_of_ble_eq_true rfl) rfl rfl rfl rfl ?_
                  have hnB := hn_lt B UB kd ty (nI (mt_n ti)) ko none
                  refine jv_if_eqN (q := 212) (tgt := 214) G dX4_trialFits_209 (by decide) rfl (by omega) (fun c55 => ?_) (fun c55 => ?_)
                  · refine jv_iinc (q := 217) (lo' := [(7, .int (nI (i + 1))), (9, va_rf none), (8, va_rf none), (6, .int (jv_bI al)), (0, .ref (z 6 4)), (1, .ref (z 0 a)), (2, .ref (z 0 b)), (3, va_rf none), (4, va_rf none)]) (v := nI (i + 1)) G 2 dX4_trialFits_214 rfl (nI_1 i) (by decide) rfl rfl ?_
                    refine jv_goto (q := 104) G dX4_trialFits_217 (by decide) ?_
                    refine jv_lo [0, 3, 4, 5, 6, 7, 8] (lo' := [(7, .int (nI (i + 1))), (6, .int (jv_bI al)), (0, .ref (z 6 4)), (1, .ref (z 0 a)), (2, .ref (z 0 b)), (3, va_rf none), (4, va_rf none)]) rfl ?_
                    have hbi : (c_tb A B UA UB kd ty ko none none al) i = false := by
                      unfold c_tb; rw [hti]; simp [c47, c54, c55, hk46, hk53]
                    exact ih (i + 1) _ _ (by omega) (by rw [m_any, hm, hbi]; rfl) hF hu1
                  · refine jv_iconst (q := 213) (v := nI 0) G dX4_trialFits_212 (by decide) rfl ?_
                    refine jv_topI (y := jv_bI false) rfl ?_
                    refine jv_zret G hr dX4_trialFits_213 (Nat.le_of_ble_eq_true rfl) (Nat.le_of_ble_eq_true rfl) ?_
                    have hbi : (c_tb A B UA UB kd ty ko none none al) i = true := by
                      unfold c_tb; rw [hti]; simp [c47, c54, c55, hk46, hk53]
                    refine ⟨?_, hF⟩; rw [any_i.mpr ⟨i, by omega, hbi⟩]; rfl
              · refine jv_topR (y := (some (T (10 * b + k51)))) (by rw [hk53]; rfl) ?_
                obtain ⟨t52, ht52, nt52⟩ := rn_get hk53
                have lt52 := jv_ltGet ht52
                have k10t52 : k51 < 10 := by have := hB1.2.2.2.1; omega
                have Ot52 := (hB1.2.2.2.2.1 k51 t52 ht52).2
                have Vt52 := (hB1.2.2.2.2.1 k51 t52 ht52).1
                have Yt52 := hB1.2.1 k51 k10t52
                have bt52n := Ot52.1; have bt52k := Ot52.2.1
                refine jv_astore (q := 194) (lo' := [(9, .ref (T (10 * b + k51))), (8, va_rf none), (7, .int (nI i)), (6, .int (jv_bI al)), (0, .ref (z 6 4)), (1, .ref (z 0 a)), (2, .ref (z 0 b)), (3, va_rf none), (4, va_rf none)]) G dX4_trialFits_192 (by decide) rfl rfl ?_
                refine jv_iload (q := 196) G 3 dX4_trialFits_194 rfl rfl ?_
                refine jv_if_eqB (q := 199) (tgt := 212) G dX4_trialFits_196 (by decide) rfl (fun c56 => ?_) (fun c56 => ?_)
                · refine jv_iconst (q := 213) (v := nI 0) G dX4_trialFits_212 (by decide) rfl ?_
                  refine jv_topI (y := jv_bI false) rfl ?_
                  refine jv_zret G hr dX4_trialFits_213 (Nat.le_of_ble_eq_true rfl) (Nat.le_of_ble_eq_true rfl) ?_
                  have hbi : (c_tb A B UA UB kd ty ko none none al) i = true := by
                    unfold c_tb; rw [hti]; simp [c47, c56, hk46, hk53]
                  refine ⟨?_, hF⟩; rw [any_i.mpr ⟨i, by omega, hbi⟩]; rfl
                · refine jv_aload_n (q := 200) G 4 dX4_trialFits_199 rfl rfl rfl ?_
                  refine jv_getQ (q := 203) G dX4_trialFits_200 fl_X4_21 rfl lp1.1 lp1.2.2.1 rfl ?_
                  refine jv_aload_n (q := 204) G 6 dX4_trialFits_203 rfl rfl rfl ?_
                  refine jv_aload (q := 206) G 0 dX4_trialFits_204 rfl rfl ?_
                  refine jv_callV_I (q := 209) (h1 := h3) (As := [.ref (z 0 b), .ref (T (10 * b + k51))]) (rest := []) (ce' := 0) (sl' := 0) (r := nI (c_hn B UB kd ty (nI (mt_n ti)) ko (some k51))) G Z ml_X4_137 (k_runO (rn := (some k51)) hlt hB1 uB1 hu1 hkd hK (fun K q => by cases q; exact jv_ltGet ht52)) lp1.2.2.2.2 dX4_trialFits_206 rfl (by decide) (by decide) (by decide) (by decide) (Nat.le_of_ble_eq_true rfl) rfl rfl rfl rfl ?_
                  have hnB := hn_lt B UB kd ty (nI (mt_n ti)) ko (some k51)
                  refine jv_if_eqN (q := 212) (tgt := 214) G dX4_trialFits_209 (by decide) rfl (by omega) (fun c57 => ?_) (fun c57 => ?_)
                  · refine jv_iinc (q := 217) (lo' := [(7, .int (nI (i + 1))), (9, .ref (T (10 * b + k51))), (8, va_rf none), (6, .int (jv_bI al)), (0, .ref (z 6 4)), (1, .ref (z 0 a)), (2, .ref (z 0 b)), (3, va_rf none), (4, va_rf none)]) (v := nI (i + 1)) G 2 dX4_trialFits_214 rfl (nI_1 i) (by decide) rfl rfl ?_
                    refine jv_goto (q := 104) G dX4_trialFits_217 (by decide) ?_
                    refine jv_lo [0, 3, 4, 5, 6, 7, 8] (lo' := [(7, .int (nI (i + 1))), (6, .int (jv_bI al)), (0, .ref (z 6 4)), (1, .ref (z 0 a)), (2, .ref (z 0 b)), (3, va_rf none), (4, va_rf none)]) rfl ?_
                    have hbi : (c_tb A B UA UB kd ty ko none none al) i = false := by
                      unfold c_tb; rw [hti]; simp [c47, c56, c57, hk46, hk53]
                    exact ih (i + 1) _ _ (by omega) (by rw [m_any, hm, hbi]; rfl) hF hu1
                  · refine jv_iconst (q := 213) (v := nI 0) G dX4_trialFits_212 (by decide) rfl ?_
                    refine jv_topI (y := jv_bI false) rfl ?_
                    refine jv_zret G hr dX4_trialFits_213 (Nat.le_of_ble_eq_true rfl) (Nat.le_of_ble_eq_true rfl) ?_
                    have hbi : (c_tb A B UA UB kd ty ko none none al) i = true := by
                      unfold c_tb; rw [hti]; simp [c47, c56, c57, hk46, hk53]
                    refine ⟨?_, hF⟩; rw [any_i.mpr ⟨i, by omega, hbi⟩]; rfl
            · refine jv_topR (y := (some (T (10 * b + k48)))) (by rw [hk50]; rfl) ?_
              obtain ⟨t49, ht49, nt49⟩ := m_cn_get hk50
              have lt49 := jv_ltGet ht49
              have k10t49 : k48 < 10 := by have := hB1.2.2.2.1; omega
              have Ot49 := (hB1.2.2.2.2.1 k48 t49 ht49).2
              have Vt49 := (hB1.2.2.2.2.1 k48 t49 ht49).1
              have Yt49 := hB1.2.1 k48 k10t49
              have bt49n := Ot49.1; have bt49k := Ot49.2.1
              refine jv_callV_R (q := 192) (h1 := h3) (As := [va_rf none, .int (jv_oN ko), .ref (T (10 * b + k48))]) (rest := []) (ce' := 0) (sl' := 0) (r := ((c_rn B UB none ko (nI (mt_n ti))).map (fun k => T (10 * b + k)))) G Z ml_X4_133 (k_selO (rc := nI (mt_n ti)) (ho := none) (ro := (some k48)) hlt hB1 uB1 hK (fun K q => by cases q) hk50) hB1.1.1 dX4_trialFits_189 rfl (by decide) (by decide) (by decide) (by decide) (Nat.le_of_ble_eq_true rfl) rfl rfl rfl rfl ?_
              rcases Option.eq_none_or_eq_some (c_rn B UB none ko (nI (mt_n ti))) with hk60 | ⟨k58, hk60⟩
              · refine jv_topR (y := none) (by rw [hk60]; rfl) ?_
                refine jv_astoreR (q := 194) (lo' := [(9, va_rf none), (8, va_rf none), (7, .int (nI i)), (6, .int (jv_bI al)), (0, .ref (z 6 4)), (1, .ref (z 0 a)), (2, .ref (z 0 b)), (3, va_rf none), (4, va_rf none)]) (x := none) G dX4_trialFits_192 (by decide) rfl rfl ?_
                refine jv_iload (q := 196) G 3 dX4_trialFits_194 rfl rfl ?_
                refine jv_if_eqB (q := 199) (tgt := 212) G dX4_trialFits_196 (by decide) rfl (fun c61 => ?_) (fun c61 => ?_)
                · refine jv_iconst (q := 213) (v := nI 0) G dX4_trialFits_212 (by decide) rfl ?_
                  refine jv_topI (y := jv_bI false) rfl ?_
                  refine jv_zret G hr dX4_trialFits_213 (Nat.le_of_ble_eq_true rfl) (Nat.le_of_ble_eq_true rfl) ?_
                  have hbi : (c_tb A B UA UB kd ty ko none none al) i = true := by
                    unfold c_tb; rw [hti]; simp [c47, c61, hk46, hk60]
                  refine ⟨?_, hF⟩; rw [any_i.mpr ⟨i, by omega, hbi⟩]; rfl
                · refine jv_aload_n (q := 200) G 4 dX4_trialFits_199 rfl rfl rfl ?_
                  refine jv_getQ (q := 203) G dX4_trialFits_200 fl_X4_21 rfl lp1.1 lp1.2.2.1 rfl ?_
                  refine jv_aload_n (q := 204) G 6 dX4_trialFits_203 rfl rfl rfl ?_
                  refine jv_aloadR (q := 206) G 0 dX4_trialFits_204 rfl rfl ?_
                  refine jv_callV_I (q := 209) (h1 := h3) (As := [.ref (z 0 b), va_rf none]) (rest := []) (ce' := 0) (sl' := 0) (r := nI (c_hn B UB kd ty (nI (mt_n ti)) ko none)) G Z ml_X4_137 (k_runO (rn := none) hlt hB1 uB1 hu1 hkd hK (fun K q => by cases q)) lp1.2.2.2.2 dX4_trialFits_206 rfl (by decide) (by decide) (by decide) (by decide) (Nat.le_of_ble_eq_true rfl) rfl rfl rfl rfl ?_
                  have hnB := hn_lt B UB kd ty (nI (mt_n ti)) ko none
                  refine jv_if_eqN (q := 212) (tgt := 214) G dX4_trialFits_209 (by decide) rfl (by omega) (fun c62 => ?_) (fun c62 => ?_)
                  · refine jv_iinc (q := 217) (lo' := [(7, .int (nI (i + 1))), (9, va_rf none), (8, va_rf none), (6, .int (jv_bI al)), (0, .ref (z 6 4)), (1, .ref (z 0 a)), (2, .ref (z 0 b)), (3, va_rf none), (4, va_rf none)]) (v := nI (i + 1)) G 2 dX4_trialFits_214 rfl (nI_1 i) (by decide) rfl rfl ?_
                    refine jv_goto (q := 104) G dX4_trialFits_217 (by decide) ?_
                    refine jv_lo [0, 3, 4, 5, 6, 7, 8] (lo' := [(7, .int (nI (i + 1))), (6, .int (jv_bI al)), (0, .ref (z 6 4)), (1, .ref (z 0 a)), (2, .ref (z 0 b)), (3, va_rf none), (4, va_rf none)]) rfl ?_
                    have hbi : (c_tb A B UA UB kd ty ko none none al) i = false := by
                      unfold c_tb; rw [hti]; simp [c47, c61, c62, hk46, hk60]
                    exact ih (i + 1) _ _ (by omega) (by rw [m_any, hm, hbi]; rfl) hF hu1
                  · refine jv_iconst (q := 213) (v := nI 0) G dX4_trialFits_212 (by decide) rfl ?_
                    refine jv_topI (y := jv_bI false) rfl ?_
                    refine jv_zret G hr dX4_trialFits_213 (Nat.le_of_ble_eq_true rfl) (Nat.le_of_ble_eq_true rfl) ?_
                    have hbi : (c_tb A B UA UB kd ty ko none none al) i = true := by
                      unfold c_tb; rw [hti]; simp [c47, c61, c62, hk46, hk60]
                    refine ⟨?_, hF⟩; rw [any_i.mpr ⟨i, by omega, hbi⟩]; rfl
              · refine jv_topR (y := (some (T (10 * b + k58)))) (by rw [hk60]; rfl) ?_
                obtain ⟨t59, ht59, nt59⟩ := rn_get hk60
                have lt59 := jv_ltGet ht59
                have k10t59 : k58 < 10 := by have := hB1.2.2.2.1; omega
                have Ot59 := (hB1.2.2.2.2.1 k58 t59 ht59).2
                have Vt59 := (hB1.2.2.2.2.1 k58 t59 ht59).1
                have Yt59 := hB1.2.1 k58 k10t59
                have bt59n := Ot59.1; have bt59k := Ot59.2.1
                refine jv_astore (q := 194) (lo' := [(9, .ref (T (10 * b + k58))), (8, va_rf none), (7, .int (nI i)), (6, .int (jv_bI al)), (0, .ref (z 6 4)), (1, .ref (z 0 a)), (2, .ref (z 0 b)), (3, va_rf none), (4, va_rf none)]) G dX4_trialFits_192 (by decide) rfl rfl ?_
                refine jv_iload (q := 196) G 3 dX4_trialFits_194 rfl rfl ?_
                refine jv_if_eqB (q := 199) (tgt := 212) G dX4_trialFits_196 (by decide) rfl (fun c63 => ?_) (fun c63 => ?_)
                · refine jv_iconst (q := 213) (v := nI 0) G dX4_trialFits_212 (by decide) rfl ?_
                  refine jv_topI (y := jv_bI false) rfl ?_
                  refine jv_zret G hr dX4_trialFits_213 (Nat.le_of_ble_eq_true rfl) (Nat.le_of_ble_eq_true rfl) ?_
                  have hbi : (c_tb A B UA UB kd ty ko none none al) i = true := by
                    unfold c_tb; rw [hti]; simp [c47, c63, hk46, hk60]
                  refine ⟨?_, hF⟩; rw [any_i.mpr ⟨i, by omega, hbi⟩]; rfl
                · refine jv_aload_n (q := 200) G 4 dX4_trialFits_199 rfl rfl rfl ?_
                  refine jv_getQ (q := 203) G dX4_trialFits_200 fl_X4_21 rfl lp1.1 lp1.2.2.1 rfl ?_
                  refine jv_aload_n (q := 204) G 6 dX4_trialFits_203 rfl rfl rfl ?_
                  refine jv_aload (q := 206) G 0 dX4_trialFits_204 rfl rfl ?_
                  refine jv_callV_I (q := 209) (h1 := h3) (As := [.ref (z 0 b), .ref (T (10 * b + k58))]) (rest := []) (ce' := 0) (sl' := 0) (r := nI (c_hn B UB kd ty (nI (mt_n ti)) ko (some k58))) G Z ml_X4_137 (k_runO (rn := (some k58)) hlt hB1 uB1 hu1 hkd hK (fun K q => by cases q; exact jv_ltGet ht59)) lp1.2.2.2.2 dX4_trialFits_206 rfl (by decide) (by decide) (by decide) (by decide) (Nat.le_of_ble_eq_true rfl) rfl rfl rfl rfl ?_
                  have hnB := hn_lt B UB kd ty (nI (mt_n ti)) ko (some k58)
                  refine jv_if_eqN (q := 212) (tgt := 214) G dX4_trialFits_209 (by decide) rfl (by omega) (fun c64 => ?_) (fun c64 => ?_)
                  · refine jv_iinc (q := 217) (lo' := [(7, .int (nI (i + 1))), (9, .ref (T (10 * b + k58))), (8, va_rf none), (6, .int (jv_bI al)), (0, .ref (z 6 4)), (1, .ref (z 0 a)), (2, .ref (z 0 b)), (3, va_rf none), (4, va_rf none)]) (v := nI (i + 1)) G 2 dX4_trialFits_214 rfl (nI_1 i) (by decide) rfl rfl ?_
                    refine jv_goto (q := 104) G dX4_trialFits_217 (by decide) ?_
                    refine jv_lo [0, 3, 4, 5, 6, 7, 8] (lo' := [(7, .int (nI (i + 1))), (6, .int (jv_bI al)), (0, .ref (z 6 4)), (1, .ref (z 0 a)), (2, .ref (z 0 b)), (3, va_rf none), (4, va_rf none)]) rfl ?_
                    have hbi : (c_tb A B UA UB kd ty ko none none al) i = false := by
                      unfold c_tb; rw [hti]; simp [c47, c63, c64, hk46, hk60]
                    exact ih (i + 1) _ _ (by omega) (by rw [m_any, hm, hbi]; rfl) hF hu1
                  · refine jv_iconst (q := 213) (v := nI 0) G dX4_trialFits_212 (by decide) rfl ?_
                    refine jv_topI (y := jv_bI false) rfl ?_
                    refine jv_zret G hr dX4_trialFits_213 (Nat.le_of_ble_eq_true rfl) (Nat.le_of_ble_eq_true rfl) ?_
                    have hbi : (c_tb A B UA UB kd ty ko none none al) i = true := by
                      unfold c_tb; rw [hti]; simp [c47, c63, c64, hk46, hk60]
                    refine ⟨?_, hF⟩; rw [any_i.mpr ⟨i, by omega, hbi⟩]; rfl
        · refine jv_topR (y := (some (T (10 * a + k44)))) (by rw [hk46]; rfl) ?_
          obtain ⟨t45, ht45, nt45⟩ := rn_get hk46
          have lt45 := jv_ltGet ht45
          have k10t45 : k44 < 10 := by have := hA1.2.2.2.1; omega
          have Ot45 := (hA1.2.2.2.2.1 k44 t45 ht45).2
          have Vt45 := (hA1.2.2.2.2.1 k44 t45 ht45).1
          have Yt45 := hA1.2.1 k44 k10t45
          have bt45n := Ot45.1; have bt45k := Ot45.2.1
          refine jv_astore (q := 155) (lo' := [(8, .ref (T (10 * a + k44))), (7, .int (nI i)), (6, .int (jv_bI al)), (0, .ref (z 6 4)), (1, .ref (z 0 a)), (2, .ref (z 0 b)), (3, va_rf none), (4, va_rf none)]) G dX4_trialFits_153 (by decide) rfl rfl ?_
          refine jv_aload_n (q := 156) G 3 dX4_trialFits_155 rfl rfl rfl ?_
          refine jv_getQ (q := 159) G dX4_trialFits_156 fl_X4_21 rfl lp1.1 lp1.2.2.1 rfl ?_
          refine jv_aload_n (q := 160) G 4 dX4_trialFits_159 rfl rfl rfl ?_
          refine jv_aload (q := 162) G 0 dX4_trialFits_160 rfl rfl ?_
          refine jv_callV_I (q := 165) (h1 := h3) (As := [.ref (z 0 a), .ref (T (10 * a + k44))]) (rest := []) (ce' := 0) (sl' := 0) (r := nI (c_hn A UA kd ty (nI (mt_n ti)) ko (some k44))) G Z ml_X4_137 (k_runO (rn := (some k44)) hlt hA1 uA1 hu1 hkd hK (fun K q => by cases q; exact jv_ltGet ht45)) lp1.2.2.2.2 dX4_trialFits_162 rfl (by decide) (by decide) (by decide) (by decide) (Nat.le_of_ble_eq_true rfl) rfl rfl rfl rfl ?_
          have hnA := hn_lt A UA kd ty (nI (mt_n ti)) ko (some k44)
          refine jv_if_neN (q := 168) (tgt := 214) G dX4_trialFits_165 (by decide) rfl (by omega) (fun c65 => ?_) (fun c65 => ?_)
          · refine jv_iinc (q := 217) (lo' := [(7, .int (nI (i + 1))), (8, .ref (T (10 * a + k44))), (6, .int (jv_bI al)), (0, .ref (z 6 4)), (1, .ref (z 0 a)), (2, .ref (z 0 b)), (3, va_rf none), (4, va_rf none)]) (v := nI (i + 1)) G 1 dX4_trialFits_214 rfl (nI_1 i) (by decide) rfl rfl ?_
            refine jv_goto (q := 104) G dX4_trialFits_217 (by decide) ?_
            refine jv_lo [0, 2, 3, 4, 5, 6, 7] (lo' := [(7, .int (nI (i + 1))), (6, .int (jv_bI al)), (0, .ref (z 6 4)), (1, .ref (z 0 a)), (2, .ref (z 0 b)), (3, va_rf none), (4, va_rf none)]) rfl ?_
            have hbi : (c_tb A B UA UB kd ty ko none none al) i = false := by
              unfold c_tb; rw [hti]; simp [c65, hk46]
            exact ih (i + 1) _ _ (by omega) (by rw [m_any, hm, hbi]; rfl) hF hu1
          · refine jv_aload_n (q := 169) G 5 dX4_trialFits_168 rfl rfl rfl ?_
            refine jv_aloadR (q := 171) G 7 dX4_trialFits_169 rfl rfl ?_
            refine jv_aload_n (q := 172) G 3 dX4_trialFits_171 rfl rfl rfl ?_
            refine jv_getQ (q := 175) G dX4_trialFits_172 fl_X4_21 rfl lp1.1 lp1.2.2.1 rfl ?_
            refine jv_getI (q := 178) G dX4_trialFits_175 fl_X4_127 rfl lp1.2.2.2.2 hu1.2.2.2.1 rfl ?_
            refine jv_aload_n (q := 179) G 5 dX4_trialFits_178 rfl rfl rfl ?_
            refine jv_aload_n (q := 180) G 3 dX4_trialFits_179 rfl rfl rfl ?_
            refine jv_getQ (q := 183) G dX4_trialFits_180 fl_X4_21 rfl lp1.1 lp1.2.2.1 rfl ?_
            refine jv_getI (q := 186) G dX4_trialFits_183 fl_X4_124 rfl lp1.2.2.2.2 hu1.2.2.2.2.1 rfl ?_
            refine jv_callV_R (q := 189) (h1 := h3) (As := [.int (nI (mt_n ti))]) (rest := [.int (jv_oN ko), va_rf none, .ref (z 0 b)]) (ce' := 0) (sl' := 0) (r := ((m_cn B (nI (mt_n ti)) false).map (fun k => T (10 * b + k)))) G Z ml_X4_130 (k_classNamed hlt hB1) hB1.1.1 dX4_trialFits_186 rfl (by decide) (by decide) (by decide) (by decide) (Nat.le_of_ble_eq_true rfl) rfl rfl rfl rfl ?_
            rcases Option.eq_none_or_eq_some (m_cn B (nI (mt_n ti)) false) with hk68 | ⟨k66, hk68⟩
            · refine jv_topR (y := none) (by rw [hk68]; rfl) ?_
              refine jv_callV_R (q := 192) (h1 := h3) (As := [va_rf none, .int (jv_oN ko), va_rf none]) (rest := []) (ce' := 0) (sl' := 0) (r := ((c_rn B UB none ko (nI (mt_n ti))).map (fun k => T (10 * b + k)))) G Z ml_X4_133 (k_selO (rc := nI (mt_n ti)) (ho := none) (ro := none) hlt hB1 uB1 hK (fun K q => by cases q) hk68) hB1.1.1 dX4_trialFits_189 rfl (by decide) (by decide) (by decide) (by decide) (Nat.le_of_ble_eq_true rfl) rfl rfl rfl rfl ?_
              rcases Option.eq_none_or_eq_some (c_rn B UB none ko (nI (mt_n ti))) with hk71 | ⟨k69, hk71⟩
              · refine jv_topR (y := none) (by rw [hk71]; rfl) ?_
                refine jv_astoreR (q := 194) (lo' := [(9, va_rf none), (8, .ref (T (10 * a + k44))), (7, .int (nI i)), (6, .int (jv_bI al)), (0, .ref (z 6 4)), (1, .ref (z 0 a)), (2, .ref (z 0 b)), (3, va_rf none), (4, va_rf none)]) (x := none) G dX4_trialFits_192 (by decide) rfl rfl ?_
                refine jv_iload (q := 196) G 3 dX4_trialFits_194 rfl rfl ?_
                refine jv_if_eqB (q := 199) (tgt := 212) G dX4_trialFits_196 (by decide) rfl (fun c72 => ?_) (fun c72 => ?_)
                · refine jv_iconst (q := 213) (v := nI 0) G dX4_trialFits_212 (by decide) rfl ?_
                  refine jv_topI (y := jv_bI false) rfl ?_
                  refine jv_zret G hr dX4_trialFits_213 (Nat.le_of_ble_eq_true rfl) (Nat.le_of_ble_eq_true rfl) ?_
                  have hbi : (c_tb A B UA UB kd ty ko none none al) i = true := by
                    unfold c_tb; rw [hti]; simp [c65, c72, hk46, hk71]
                  refine ⟨?_, hF⟩; rw [any_i.mpr ⟨i, by omega, hbi⟩]; rfl
                · refine jv_aload_n (q := 200) G 4 dX4_trialFits_199 rfl rfl rfl ?_
                  refine jv_getQ (q := 203) G dX4_trialFits_200 fl_X4_21 rfl lp1.1 lp1.2.2.1 rfl ?_
                  refine jv_aload_n (q := 204) G 6 dX4_trialFits_203 rfl rfl rfl ?_
                  refine jv_aloadR (q := 206) G 0 dX4_trialFits_204 rfl rfl ?_
                  refine jv_callV_I (q := 209) (h1 := h3) (As := [.ref (z 0 b), va_rf none]) (rest := []) (ce' := 0) (sl' := 0) (r := nI (c_hn B UB kd ty (nI (mt_n ti)) ko none)) G Z ml_X4_137 (k_runO (rn := none) hlt hB1 uB1 hu1 hkd hK (fun K q => by cases q)) lp1.2.2.2.2 dX4_trialFits_206 rfl (by decide) (by decide) (by decide) (by decide) (Nat.le_of_ble_eq_true rfl) rfl rfl rfl rfl ?_
                  have hnB := hn_lt B UB kd ty (nI (mt_n ti)) ko none
                  refine jv_if_eqN (q := 212) (tgt := 214) G dX4_trialFits_209 (by decide) rfl (by omega) (fun c73 => ?_) (fun c73 => ?_)
                  · refine jv_iinc (q := 217) (lo' := [(7, .int (nI (i + 1))), (9, va_rf none), (8, .ref (T (10 * a + k44))), (6, .int (jv_bI al)), (0, .ref (z 6 4)), (1, .ref (z 0 a)), (2, .ref (z 0 b)), (3, va_rf none), (4, va_rf none)]) (v := nI (i + 1)) G 2 dX4_trialFits_214 rfl (nI_1 i) (by decide) rfl rfl ?_
                    refine jv_goto (q := 104) G dX4_trialFits_217 (by decide) ?_
                    refine jv_lo [0, 3, 4, 5, 6, 7, 8] (lo' := [(7, .int (nI (i + 1))), (6, .int (jv_bI al)), (0, .ref (z 6 4)), (1, .ref (z 0 a)), (2, .ref (z 0 b)), (3, va_rf none), (4, va_rf none)]) rfl ?_
                    have hbi : (c_tb A B UA UB kd ty ko none none al) i = false := by
                      unfold c_tb; rw [hti]; simp [c65, c72, c73, hk46, hk71]
                    exact ih (i + 1) _ _ (by omega) (by rw [m_any, hm, hbi]; rfl) hF hu1
                  · refine jv_iconst (q := 213) (v := nI 0) G dX4_trialFits_212 (by decide) rfl ?_
                    refine jv_topI (y := jv_bI false) rfl ?_
                    refine jv_zret G hr dX4_trialFits_213 (Nat.le_of_ble_eq_true rfl) (Nat.le_of_ble_eq_true rfl) ?_
                    have hbi : (c_tb A B UA UB kd ty ko none none al) i = true := by
                      unfold c_tb; rw [hti]; simp [c65, c72, c73, hk46, hk71]
                    refine ⟨?_, hF⟩; rw [any_i.mpr ⟨i, by omega, hbi⟩]; rfl
              · refine jv_topR (y := (some (T (10 * b + k69)))) (by rw [hk71]; rfl) ?_
                obtain ⟨t70, ht70, nt70⟩ := rn_get hk71
                have lt70 := jv_ltGet ht70
                have k10t70 : k69 < 10 := by have := hB1.2.2.2.1; omega
                have Ot70 := (hB1.2.2.2.2.1 k69 t70 ht70).2
                have Vt70 := (hB1.2.2.2.2.1 k69 t70 ht70).1
                have Yt70 := hB1.2.1 k69 k10t70
                have bt70n := Ot70.1; have bt70k := Ot70.2.1
                refine jv_astore (q := 194) (lo' := [(9, .ref (T (10 * b + k69))), (8, .ref (T (10 * a + k44))), (7, .int (nI i)), (6, .int (jv_bI al)), (0, .ref (z 6 4)), (1, .ref (z 0 a)), (2, .ref (z 0 b)), (3, va_rf none), (4, va_rf none)]) G dX4_trialFits_192 (by decide) rfl rfl ?_
                refine jv_iload (q := 196) G 3 dX4_trialFits_194 rfl rfl ?_
                refine jv_if_eqB (q := 199) (tgt := 212) G dX4_trialFits_196 (by decide) rfl (fun c74 => ?_) (fun c74 => ?_)
                · refine jv_iconst (q := 213) (v := nI 0) G dX4_trialFits_212 (by decide) rfl ?_
                  refine jv_topI (y := jv_bI false) rfl ?_
                  refine jv_zret G hr dX4_trialFits_213 (Nat.le_of_ble_eq_true rfl) (Nat.le_of_ble_eq_true rfl) ?_
                  have hbi : (c_tb A B UA UB kd ty ko none none al) i = true := by
                    unfold c_tb; rw [hti]; simp [c65, c74, hk46, hk71]
                  refine ⟨?_, hF⟩; rw [any_i.mpr ⟨i, by omega, hbi⟩]; rfl
                · refine jv_aload_n (q := 200) G 4 dX4_trialFits_199 rfl rfl rfl ?_
                  refine jv_getQ (q := 203) G dX4_trialFits_200 fl_X4_21 rfl lp1.1 lp1.2.2.1 rfl ?_
                  refine jv_aload_n (q := 204) G 6 dX4_trialFits_203 rfl rfl rfl ?_
                  refine jv_aload (q := 206) G 0 dX4_trialFits_204 rfl rfl ?_
                  refine jv_callV_I (q := 209) (h1 := h3) (As := [.ref (z 0 b), .ref (T (10 * b + k69))]) (rest := []) (ce' := 0) (sl' := 0) (r := nI (c_hn B UB kd ty (nI (mt_n ti)) ko (some k69))) G Z ml_X4_137 (k_runO (rn := (some k69)) hlt hB1 uB1 hu1 hkd hK (fun K q => by cases q; exact jv_ltGet ht70)) lp1.2.2.2.2 dX4_trialFits_206 rfl (by decide) (by decide) (by decide) (by decide) (Nat.le_of_ble_eq_true rfl) rfl rfl rfl rfl ?_
                  have hnB := hn_lt B UB kd ty (nI (mt_n ti)) ko (some k69)
                  refine jv_if_eqN (q := 212) (tgt := 214) G dX4_trialFits_209 (by decide) rfl (by omega) (fun c75 => ?_) (fun c75 => ?_)
                  · refine jv_iinc (q := 217) (lo' := [(7, .int (nI (i + 1))), (9, .ref (T (10 * b + k69))), (8, .ref (T (10 * a + k44))), (6, .int (jv_bI al)), (0, .ref (z 6 4)), (1, .ref (z 0 a)), (2, .ref (z 0 b)), (3, va_rf none), (4, va_rf none)]) (v := nI (i + 1)) G 2 dX4_trialFits_214 rfl (nI_1 i) (by decide) rfl rfl ?_
                    refine jv_goto (q := 104) G dX4_trialFits_217 (by decide) ?_
                    refine jv_lo [0, 3, 4, 5, 6, 7, 8] (lo' := [(7, .int (nI (i + 1))), (6, .int (jv_bI al)), (0, .ref (z 6 4)), (1, .ref (z 0 a)), (2, .ref (z 0 b)), (3, va_rf none), (4, va_rf none)]) rfl ?_
                    have hbi : (c_tb A B UA UB kd ty ko none none al) i = false := by
                      unfold c_tb; rw [hti]; simp [c65, c74, c75, hk46, hk71]
                    exact ih (i + 1) _ _ (by omega) (by rw [m_any, hm, hbi]; rfl) hF hu1
                  · refine jv_iconst (q := 213) (v := nI 0) G dX4_trialFits_212 (by decide) rfl ?_
                    refine jv_topI (y := jv_bI false) rfl ?_
                    refine jv_zret G hr dX4_trialFits_213 (Nat.le_of_ble_eq_true rfl) (Nat.le_of_ble_eq_true rfl) ?_
                    have hbi : (c_tb A B UA UB kd ty ko none none al) i = true := by
                      unfold c_tb; rw [hti]; simp [c65, c74, c75, hk46, hk71]
                    refine ⟨?_, hF⟩; rw [any_i.mpr ⟨i, by omega, hbi⟩]; rfl
            · refine jv_topR (y := (some (T (10 * b + k66)))) (by rw [hk68]; rfl) ?_
              obtain ⟨t67, ht67, nt67⟩ := m_cn_get hk68
              have lt67 := jv_ltGet ht67
              have k10t67 : k66 < 10 := by have := hB1.2.2.2.1; omega
              have Ot67 := (hB1.2.2.2.2.1 k66 t67 ht67).2
              have Vt67 := (hB1.2.2.2.2.1 k66 t67 ht67).1
              have Yt67 := hB1.2.1 k66 k10t67
              have bt67n := Ot67.1; have bt67k := Ot67.2.1
              refine jv_callV_R (q := 192) (h1 := h3) (As := [va_rf none, .int (jv_oN ko), .ref (T (10 * b + k66))]) (rest := []) (ce' := 0) (sl' := 0) (r := ((c_rn B UB none ko (nI (mt_n ti))).map (fun k => T (10 * b + k)))) G Z ml_X4_133 (k_selO (rc := nI (mt_n ti)) (ho := none) (ro := (some k66)) hlt hB1 uB1 hK (fun K q => by cases q) hk68) hB1.1.1 dX4_trialFits_189 rfl (by decide) (by decide) (by decide) (by decide) (Nat.le_of_ble_eq_true rfl) rfl rfl rfl rfl ?_
              rcases Option.eq_none_or_eq_some (c_rn B UB none ko (nI (mt_n ti))) with hk78 | ⟨k76, hk78⟩
              · refine jv_topR (y := none) (by rw [hk78]; rfl) ?_
                refine jv_astoreR (q := 194) (lo' := [(9, va_rf none), (8, .ref (T (10 * a + k44))), (7, .int (nI i)), (6, .int (jv_bI al)), (0, .ref (z 6 4)), (1, .ref (z 0 a)), (2, .ref (z 0 b)), (3, va_rf none), (4, va_rf none)]) (x := none) G dX4_trialFits_192 (by decide) rfl rfl ?_
                refine jv_iload (q := 196) G 3 dX4_trialFits_194 rfl rfl ?_
                refine jv_if_eqB (q := 199) (tgt := 212) G dX4_trialFits_196 (by decide) rfl (fun c79 => ?_) (fun c79 => ?_)
                · refine jv_iconst (q := 213) (v := nI 0) G dX4_trialFits_212 (by decide) rfl ?_
                  refine jv_topI (y := jv_bI false) rfl ?_
                  refine jv_zret G hr dX4_trialFits_213 (Nat.le_of_ble_eq_true rfl) (Nat.le_of_ble_eq_true rfl) ?_
                  have hbi : (c_tb A B UA UB kd ty ko none none al) i = true := by
                    unfold c_tb; rw [hti]; simp [c65, c79, hk46, hk78]
                  refine ⟨?_, hF⟩; rw [any_i.mpr ⟨i, by omega, hbi⟩]; rfl
                · refine jv_aload_n (q := 200) G 4 dX4_trialFits_199 rfl rfl rfl ?_
                  refine jv_getQ (q := 203) G dX4_trialFits_200 fl_X4_21 rfl lp1.1 lp1.2.2.1 rfl ?_
                  refine jv_aload_n (q := 204) G 6 dX4_trialFits_203 rfl rfl rfl ?_
                  refine jv_aloadR (q := 206) G 0 dX4_trialFits_204 rfl rfl ?_
                  refine jv_callV_I (q := 209) (h1 := h3) (As := [.ref (z 0 b), va_rf none]) (rest := []) (ce' := 0) (sl' := 0) (r := nI (c_hn B UB kd ty (nI (mt_n ti)) ko none)) G Z ml_X4_137 (k_runO (rn := none) hlt hB1 uB1 hu1 hkd hK (fun K q => by cases q)) lp1.2.2.2.2 dX4_trialFits_206 rfl (by decide) (by decide) (by decide) (by decide) (Nat.le_of_ble_eq_true rfl) rfl rfl rfl rfl ?_
                  have hnB := hn_lt B UB kd ty (nI (mt_n ti)) ko none
                  refine jv_if_eqN (q := 212) (tgt := 214) G dX4_trialFits_209 (by decide) rfl (by omega) (fun c80 => ?_) (fun c80 => ?_)
                  · refine jv_iinc (q := 217) (lo' := [(7, .int (nI (i + 1))), (9, va_rf none), (8, .ref (T (10 * a + k44))), (6, .int (jv_bI al)), (0, .ref (z 6 4)), (1, .ref (z 0 a)), (2, .ref (z 0 b)), (3, va_rf none), (4, va_rf none)]) (v := nI (i + 1)) G 2 dX4_trialFits_214 rfl (nI_1 i) (by decide) rfl rfl ?_
                    refine jv_goto (q := 104) G dX4_trialFits_217 (by decide) ?_
                    refine jv_lo [0, 3, 4, 5, 6, 7, 8] (lo' := [(7, .int (nI (i + 1))), (6, .int (jv_bI al)), (0, .ref (z 6 4)), (1, .ref (z 0 a)), (2, .ref (z 0 b)), (3, va_rf none), (4, va_rf none)]) rfl ?_
                    have hbi : (c_tb A B UA UB kd ty ko none none al) i = false := by
                      unfold c_tb; rw [hti]; simp [c65, c79, c80, hk46, hk78]
                    exact ih (i + 1) _ _ (by omega) (by rw [m_any, hm, hbi]; rfl) hF hu1
                  · refine jv_iconst (q := 213) (v := nI 0) G dX4_trialFits_212 (by decide) rfl ?_
                    refine jv_topI (y := jv_bI false) rfl ?_
                    refine jv_zret G hr dX4_trialFits_213 (Nat.le_of_ble_eq_true rfl) (Nat.le_of_ble_eq_true rfl) ?_
                    have hbi : (c_tb A B UA UB kd ty ko none none al) i = true := by
                      unfold c_tb; rw [hti]; simp [c65, c79, c80, hk46, hk78]
                    refine ⟨?_, hF⟩; rw [any_i.mpr ⟨i, by omega, hbi⟩]; rfl
              · refine jv_topR (y := (some (T (10 * b + k76)))) (by rw [hk78]; rfl) ?_
                obtain ⟨t77, ht77, nt77⟩ := rn_get hk78
                have lt77 := jv_ltGet ht77
                have k10t77 : k76 < 10 := by have := hB1.2.2.2.1; omega
                have Ot77 := (hB1.2.2.2.2.1 k76 t77 ht77).2
                have Vt77 := (hB1.2.2.2.2.1 k76 t77 ht77).1
                have Yt77 := hB1.2.1 k76 k10t77
                have bt77n := Ot77.1; have bt77k := Ot77.2.1
                refine jv_astore (q := 194) (lo' := [(9, .ref (T (10 * b + k76))), (8, .ref (T (10 * a + k44))), (7, .int (nI i)), (6, .int (jv_bI al)), (0, .ref (z 6 4)), (1, .ref (z 0 a)), (2, .ref (z 0 b)), (3, va_rf none), (4, va_rf none)]) G dX4_trialFits_192 (by decide) rfl rfl ?_
                refine jv_iload (q := 196) G 3 dX4_trialFits_194 rfl rfl ?_
                refine jv_if_eqB (q := 199) (tgt := 212) G dX4_trialFits_196 (by decide) rfl (fun c81 => ?_) (fun c81 => ?_)
                · refine jv_iconst (q := 213) (v := nI 0) G dX4_trialFits_212 (by decide) rfl ?_
                  refine jv_topI (y := jv_bI false) rfl ?_
                  refine jv_zret G hr dX4_trialFits_213 (Nat.le_of_ble_eq_true rfl) (Nat.le_of_ble_eq_true rfl) ?_
                  have hbi : (c_tb A B UA UB kd ty ko none none al) i = true := by
                    unfold c_tb; rw [hti]; simp [c65, c81, hk46, hk78]
                  refine ⟨?_, hF⟩; rw [any_i.mpr ⟨i, by omega, hbi⟩]; rfl
                · refine jv_aload_n (q := 200) G 4 dX4_trialFits_199 rfl rfl rfl ?_
                  refine jv_getQ (q := 203) G dX4_trialFits_200 fl_X4_21 rfl lp1.1 lp1.2.2.1 rfl ?_
                  refine jv_aload_n (q := 204) G 6 dX4_trialFits_203 rfl rfl rfl ?_
                  refine jv_aload (q := 206) G 0 dX4_trialFits_204 rfl rfl ?_
                  refine jv_callV_I (q := 209) (h1 := h3) (As := [.ref (z 0 b), .ref (T (10 * b + k76))]) (rest := []) (ce' := 0) (sl' := 0) (r := nI (c_hn B UB kd ty (nI (mt_n ti)) ko (some k76))) G Z ml_X4_137 (k_runO (rn := (some k76)) hlt hB1 uB1 hu1 hkd hK (fun K q => by cases q; exact jv_ltGet ht77)) lp1.2.2.2.2 dX4_trialFits_206 rfl (by decide) (by decide) (by decide) (by decide) (Nat.le_of_ble_eq_true rfl) rfl rfl rfl rfl ?_
                  have hnB := hn_lt B UB kd ty (nI (mt_n ti)) ko (some k76)
                  refine jv_if_eqN (q := 212) (tgt := 214) G dX4_trialFits_209 (by decide) rfl (by omega) (fun c82 => ?_) (fun c82 => ?_)
                  · refine jv_iinc (q := 217) (lo' := [(7, .int (nI (i + 1))), (9, .ref (T (10 * b + k76))), (8, .ref (T (10 * a + k44))), (6, .int (jv_bI al)), (0, .ref (z 6 4)), (1, .ref (z 0 a)), (2, .ref (z 0 b)), (3, va_rf none), (4, va_rf none)]) (v := nI (i + 1)) G 2 dX4_trialFits_214 rfl (nI_1 i) (by decide) rfl rfl ?_
                    refine jv_goto (q := 104) G dX4_trialFits_217 (by decide) ?_
                    refine jv_lo [0, 3, 4, 5, 6, 7, 8] (lo' := [(7, .int (nI (i + 1))), (6, .int (jv_bI al)), (0, .ref (z 6 4)), (1, .ref (z 0 a)), (2, .ref (z 0 b)), (3, va_rf none), (4, va_rf none)]) rfl ?_
                    have hbi : (c_tb A B UA UB kd ty ko none none al) i = false := by
                      unfold c_tb; rw [hti]; simp [c65, c81, c82, hk46, hk78]
                    exact ih (i + 1) _ _ (by omega) (by rw [m_any, hm, hbi]; rfl) hF hu1
                  · refine jv_iconst (q := 213) (v := nI 0) G dX4_trialFits_212 (by decide) rfl ?_
                    refine jv_topI (y := jv_bI false) rfl ?_
                    refine jv_zret G hr dX4_trialFits_213 (Nat.le_of_ble_eq_true rfl) (Nat.le_of_ble_eq_true rfl) ?_
                    have hbi : (c_tb A B UA UB kd ty ko none none al) i = true := by
                      unfold c_tb; rw [hti]; simp [c65, c81, c82, hk46, hk78]
                    refine ⟨?_, hF⟩; rw [any_i.mpr ⟨i, by omega, hbi⟩]; rfl
set_option maxHeartbeats 4000000 in
set_option maxRecDepth 100000 in
theorem k_trialFits00 {lA : Launch} (hlt : lA.stackTraces = false) {D : jv_D} {base : Nat} {z : Nat → Nat → Nat} {T : Nat → Nat} {N : Nat → Nat → Nat} {h : jv_H} {a b : Nat} {A B : List mT} {UA UB : Nat → List Nat} (hA : cv_E z T N h a A) (hB : cv_E z T N h b B) (uA : cv_Us z T h a A UA) (uB : cv_Us z T h b B UB) (lp : cl_p z h) (ha8 : a < 8) {kd : Nat} {ty rc cv ow : Int32} {ko : Option Nat} (hu : cv_use h (z 5 260) kd ty ko rc cv ow) (hkd : kd < 6) (hK : ∀ K, ko = some K → K < 64) : jv_Met lA D base yX4_trialFits (.code yX4_trialFits cX4_trialFits 10 (some .boolean)) 5 0 0 [.ref (z 6 4), .ref (z 0 a), .ref (z 0 b), va_rf none, va_rf none] h (fun y h' => y = some (.int (jv_bI (c_tf A B UA UB kd ty rc ko none none))) ∧ cF (SP z) h h') jv_no := by
  refine jv_ofV (lo := [(0, .ref (z 6 4)), (1, .ref (z 0 a)), (2, .ref (z 0 b)), (3, va_rf none), (4, va_rf none)]) hlt (by decide) (Nat.le_of_ble_eq_true rfl) rfl (fun E hEl hEd hEz Z G hr ht hnm => ?_)
  subst hEl; subst hEd; subst hEz
  have hF : cF (SP z) h h := cF.rf
  have hA1 := hA; have hB1 := hB; have uA1 := uA; have uB1 := uB; have lp1 := lp; have hu1 := hu
  refine jv_iconst (q := 1) (v := nI 0) G dX4_trialFits_0 (by decide) rfl ?_
  refine jv_topI (y := jv_bI false) rfl ?_
  refine jv_istore (q := 3) (lo' := [(5, .int (jv_bI false)), (0, .ref (z 6 4)), (1, .ref (z 0 a)), (2, .ref (z 0 b)), (3, va_rf none), (4, va_rf none)]) G dX4_trialFits_1 (by decide) rfl rfl ?_
  refine jv_iconst (q := 4) (v := nI 1) G dX4_trialFits_3 (by decide) rfl ?_
  refine jv_topI (y := jv_bI true) rfl ?_
  refine jv_istore (q := 6) (lo' := [(6, .int (jv_bI true)), (5, .int (jv_bI false)), (0, .ref (z 6 4)), (1, .ref (z 0 a)), (2, .ref (z 0 b)), (3, va_rf none), (4, va_rf none)]) G dX4_trialFits_4 (by decide) rfl rfl ?_
  refine jv_iconst (q := 7) (v := nI 0) G dX4_trialFits_6 (by decide) rfl ?_
  refine jv_istore (q := 9) (lo' := [(7, .int (nI 0)), (6, .int (jv_bI true)), (5, .int (jv_bI false)), (0, .ref (z 6 4)), (1, .ref (z 0 a)), (2, .ref (z 0 b)), (3, va_rf none), (4, va_rf none)]) G dX4_trialFits_7 (by decide) rfl rfl ?_
  refine jv_lo [0, 2, 1, 3, 4, 5, 6, 7] (lo' := [(7, .int (nI 0)), (5, .int (jv_bI false)), (6, .int (jv_bI true)), (0, .ref (z 6 4)), (1, .ref (z 0 a)), (2, .ref (z 0 b)), (3, va_rf none), (4, va_rf none)]) rfl ?_
  show jv_V E 10 h 0 0 (jv_Q E (fun y h' => y = some (.int (jv_bI (c_tf A B UA UB kd ty rc ko none none))) ∧ cF (SP z) h h') jv_no 0 0) 9 [(7, .int (nI 0)), (5, .int (jv_bI ((c_t1 A B UA UB kd ty rc ko none none 0).1))), (6, .int (jv_bI ((c_t1 A B UA UB kd ty rc ko none none 0).2))), (0, .ref (z 6 4)), (1, .ref (z 0 a)), (2, .ref (z 0 b)), (3, va_rf none), (4, va_rf none)] []
  refine k_tf_l100 hA hB uA uB lp ha8 hu hkd hK hlt G Z (fun h2 hF hu1 => ?_) 5 0 _ (by omega) cF.rf hu
  have hA1 := s06_E (sp_S lp) hF hA; have hB1 := s06_E (sp_S lp) hF hB; have uA1 := s06_U (sp_S lp) hF hA uA; have uB1 := s06_U (sp_S lp) hF hB uB; have lp1 := sp_L hF lp
  refine jv_iload (q := 85) G 0 dX4_trialFits_83 rfl rfl ?_
  refine jv_if_eqB (q := 88) (tgt := 98) G dX4_trialFits_85 (by decide) rfl (fun c1 => ?_) (fun c1 => ?_)
  · refine jv_iload (q := 100) G 1 dX4_trialFits_98 rfl rfl ?_
    refine jv_zret G hr dX4_trialFits_100 (Nat.le_of_ble_eq_true rfl) (Nat.le_of_ble_eq_true rfl) ?_
    refine ⟨?_, hF⟩; unfold c_tf; rw [if_neg (fun q => by simp [c1] at q)]
  · refine jv_aload_n (q := 89) G 2 dX4_trialFits_88 rfl rfl rfl ?_
    refine jv_getQ (q := 92) G dX4_trialFits_89 fl_X4_21 rfl lp1.1 lp1.2.2.1 rfl ?_
    refine jv_callV_I (q := 95) (h1 := h2) (As := []) (rest := []) (ce' := 0) (sl' := 0) (r := jv_bI (m_rv kd)) G Z ml_X4_120 (k_hasReceiver hlt hu1 hkd) lp1.2.2.2.2 dX4_trialFits_92 rfl (by decide) (by decide) (by decide) (by decide) (Nat.le_of_ble_eq_true rfl) rfl rfl rfl rfl ?_
    refine jv_if_neB (q := 98) (tgt := 101) G dX4_trialFits_95 (by decide) rfl (fun c2 => ?_) (fun c2 => ?_)
    · refine jv_iconst (q := 102) (v := nI 0) G dX4_trialFits_101 (by decide) rfl ?_
      refine jv_istore (q := 104) (lo' := [(7, .int (nI 0)), (5, .int (jv_bI ((c_t1 A B UA UB kd ty rc ko none none 5).1))), (6, .int (jv_bI ((c_t1 A B UA UB kd ty rc ko none none 5).2))), (0, .ref (z 6 4)), (1, .ref (z 0 a)), (2, .ref (z 0 b)), (3, va_rf none), (4, va_rf none)]) G dX4_trialFits_102 (by decide) rfl rfl ?_
      refine jv_lo [0, 2, 3, 4, 5, 6, 7] (lo' := [(7, .int (nI 0)), (6, .int (jv_bI ((c_t1 A B UA UB kd ty rc ko none none 5).2))), (0, .ref (z 6 4)), (1, .ref (z 0 a)), (2, .ref (z 0 b)), (3, va_rf none), (4, va_rf none)]) rfl ?_
      have et : (c_tf A B UA UB kd ty rc ko none none) = !m_any (c_tb A B UA UB kd ty ko none none (c_t1 A B UA UB kd ty rc ko none none 5).2) A.length := by unfold c_tf; rw [if_pos ⟨c1, c2⟩]
      rw [et]
      exact k_tf_l200 hA hB uA uB lp ha8 hu hkd hK (al := (c_t1 A B UA UB kd ty rc ko none none 5).2) hlt G Z hr A.length 0 _ _ (by omega) rfl hF hu1
    · refine jv_iload (q := 100) G 1 dX4_trialFits_98 rfl rfl ?_
      refine jv_zret G hr dX4_trialFits_100 (Nat.le_of_ble_eq_true rfl) (Nat.le_of_ble_eq_true rfl) ?_
      refine ⟨?_, hF⟩; unfold c_tf; rw [if_neg (fun q => by simp [c1, c2] at q)]
set_option maxHeartbeats 4000000 in
set_option maxRecDepth 100000 in
theorem k_tf_l110 {E : jv_E} {Q : State → Prop} {z : Nat → Nat → Nat} {T : Nat → Nat} {N : Nat → Nat → Nat} {h : jv_H} {a b : Nat} {A B : List mT} {UA UB : Nat → List Nat} (hA : cv_E z T N h a A) (hB : cv_E z T N h b B) (uA : cv_Us z T h a A UA) (uB : cv_Us z T h b B UB) (lp : cl_p z h) (ha8 : a < 8) {kd : Nat} {ty rc cv ow : Int32} {ko : Option Nat} (hu : cv_use h (z 5 260) kd ty ko rc cv ow) (hkd : kd < 6) (hK : ∀ K, ko = some K → K < 64) {kA : Nat} {tA : mT} (htA : A[kA]? = some tA) (hlt : (jv_l E).stackTraces = false) (G : jv_C E cX4_trialFits RX4 10) (Z : jv_rm E = jv_room 5 0 0) (hk : ∀ h2, cF (SP z) h h2 → cv_use h2 (z 5 260) kd ty ko rc cv ow → jv_V E 10 h2 0 0 Q 83 [(5, .int (jv_bI ((c_t1 A B UA UB kd ty rc ko (some kA) none 5).1))), (6, .int (jv_bI ((c_t1 A B UA UB kd ty rc ko (some kA) none 5).2))), (0, .ref (z 6 4)), (1, .ref (z 0 a)), (2, .ref (z 0 b)), (3, .ref (T (10 * a + kA))), (4, va_rf none)] []) : ∀ (n p : Nat) (h1 : jv_H), p + n = 5 → cF (SP z) h h1 → cv_use h1 (z 5 260) kd ty ko rc cv ow → jv_V E 10 h1 0 0 Q 9 [(7, .int (nI p)), (5, .int (jv_bI ((c_t1 A B UA UB kd ty rc ko (some kA) none p).1))), (6, .int (jv_bI ((c_t1 A B UA UB kd ty rc ko (some kA) none p).2))), (0, .ref (z 6 4)), (1, .ref (z 0 a)), (2, .ref (z 0 b)), (3, .ref (T (10 * a + kA))), (4, va_rf none)] [] := by
  intro n
  induction n with
  | zero =>
    intro p h1 hn hF hu1
    have hA1 := s06_E (sp_S lp) hF hA; have hB1 := s06_E (sp_S lp) hF hB; have uA1 := s06_U (sp_S lp) hF hA uA; have uB1 := s06_U (sp_S lp) hF hB uB; have lp1 := sp_L hF lp
    refine jv_iload (q := 11) G 0 dX4_trialFits_9 rfl rfl ?_
    refine jv_iconst (q := 12) (v := nI 5) G dX4_trialFits_11 (by decide) rfl ?_
    refine jv_icmp_geN (q := 15) (tgt := 83) G dX4_trialFits_12 (by decide) rfl (by omega) (by omega) (fun c1 => ?_) (fun c1 => ?_)
    · refine jv_lo [1, 2, 3, 4, 5, 6, 7] (lo' := [(5, .int (jv_bI ((c_t1 A B UA UB kd ty rc ko (some kA) none p).1))), (6, .int (jv_bI ((c_t1 A B UA UB kd ty rc ko (some kA) none p).2))), (0, .ref (z 6 4)), (1, .ref (z 0 a)), (2, .ref (z 0 b)), (3, .ref (T (10 * a + kA))), (4, va_rf none)]) rfl ?_
      rw [show p = 5 by omega]; exact hk _ hF hu1
    · omega
  | succ n ih =>
    intro p h1 hn hF hu1
    have hA1 := s06_E (sp_S lp) hF hA; have hB1 := s06_E (sp_S lp) hF hB; have uA1 := s06_U (sp_S lp) hF hA uA; have uB1 := s06_U (sp_S lp) hF hB uB; have lp1 := sp_L hF lp
    refine jv_iload (q := 11) G 0 dX4_trialFits_9 rfl rfl ?_
    refine jv_iconst (q := 12) (v := nI 5) G dX4_trialFits_11 (by decide) rfl ?_
    refine jv_icmp_geN (q := 15) (tgt := 83) G dX4_trialFits_12 (by decide) rfl (by omega) (by omega) (fun c1 => ?_) (fun c1 => ?_)
    · omega
    · refine jv_aload_n (q := 16) G 3 dX4_trialFits_15 rfl rfl rfl ?_
      refine jv_getQ (q := 19) G dX4_trialFits_16 fl_X4_12 rfl lp1.1 lp1.2.1 rfl ?_
      refine jv_aload_n (q := 20) G 4 dX4_trialFits_19 rfl rfl rfl ?_
      refine jv_getI (q := 23) G dX4_trialFits_20 fl_X4_110 rfl hA1.1.1 hA1.1.2.2.2.2.2.1 rfl ?_
      refine jv_iload (q := 25) G 0 dX4_trialFits_23 rfl rfl ?_
      refine jv_iconst (q := 26) (v := (-1)) G dX4_trialFits_25 (by decide) rfl ?_
      refine jv_callV (q := 29) (As := [.int (nI a), .int (nI p), .int (-1)]) (rest := []) G Z ml_X4_113 (k_cBegin (su := none) hlt lp1.2.2.2.1) lp1.2.2.2.1 dX4_trialFits_26 rfl (by decide) (by decide) (by decide) (by decide) (Nat.le_of_ble_eq_true rfl) rfl rfl (fun v3 h2 y4 => ?_) (fun _ _ hx => hx.elim)
      obtain ⟨rfl, hFb, hc1, h4b⟩ := y4
      show jv_V E 10 h2 0 0 Q 29 [(7, .int (nI p)), (5, .int (jv_bI ((c_t1 A B UA UB kd ty rc ko (some kA) none p).1))), (6, .int (jv_bI ((c_t1 A B UA UB kd ty rc ko (some kA) none p).2))), (0, .ref (z 6 4)), (1, .ref (z 0 a)), (2, .ref (z 0 b)), (3, .ref (T (10 * a + kA))), (4, va_rf none)] []
      have hF := hF.tr (hFb.mono (S' := SP z) (fun _ q => Or.inl q))
      have hu1 := hu1.fr hFb (fun q => sp_n lp q)
      have hA1 := s06_E (sp_S lp) hF hA; have hB1 := s06_E (sp_S lp) hF hB; have uA1 := s06_U (sp_S lp) hF hA uA; have uB1 := s06_U (sp_S lp) hF hB uB; have lp1 := sp_L hF lp
      refine jv_aload_n (q := 30) G 3 dX4_trialFits_29 rfl rfl rfl ?_
      refine jv_getQ (q := 33) G dX4_trialFits_30 fl_X4_21 rfl lp1.1 lp1.2.2.1 rfl ?_
      refine jv_aload_n (q := 34) G 4 dX4_trialFits_33 rfl rfl rfl ?_
      refine jv_aload_n (q := 35) G 3 dX4_trialFits_34 rfl rfl rfl ?_
      refine jv_getQ (q := 38) G dX4_trialFits_35 fl_X4_12 rfl lp1.1 lp1.2.1 rfl ?_
      refine jv_aload_n (q := 39) G 6 dX4_trialFits_38 rfl rfl rfl ?_
      refine jv_callV_I (q := 42) (h1 := h2) (As := [.ref (z 0 a), .ref (z 3 12), .ref (T (10 * a + kA))]) (rest := []) (ce' := 0) (sl' := 0) (r := nI (c_hr A UA p none kd ty rc ko (some kA))) G Z ml_X4_116 (k_reachO (ho := (some kA)) hlt hA1 uA1 hu1 hkd hK hc1 (by omega) (fun K q => by cases q; exact jv_ltGet htA)) lp1.2.2.2.2 dX4_trialFits_39 rfl (by decide) (by decide) (by decide) (by decide) (Nat.le_of_ble_eq_true rfl) rfl rfl rfl rfl ?_
      have hbA := hr_lt A UA p none kd ty rc ko (some kA)
      refine jv_if_neN (q := 45) (tgt := 77) G dX4_trialFits_42 (by decide) rfl (by omega) (fun c5 => ?_) (fun c5 => ?_)
      · refine jv_iinc (q := 80) (lo' := [(7, .int (nI (p + 1))), (5, .int (jv_bI ((c_t1 A B UA UB kd ty rc ko (some kA) none p).1))), (6, .int (jv_bI ((c_t1 A B UA UB kd ty rc ko (some kA) none p).2))), (0, .ref (z 6 4)), (1, .ref (z 0 a)), (2, .ref (z 0 b)), (3, .ref (T (10 * a + kA))), (4, va_rf none)]) (v := nI (p + 1)) G 0 dX4_trialFits_77 rfl (nI_1 p) (by decide) rfl rfl ?_
        refine jv_goto (q := 9) G dX4_trialFits_80 (by decide) ?_
        refine jv_lo [0, 1, 2, 3, 4, 5, 6, 7] (lo' := [(7, .int (nI (p + 1))), (5, .int (jv_bI ((c_t1 A B UA UB kd ty rc ko (some kA) none p).1))), (6, .int (jv_bI ((c_t1 A B UA UB kd ty rc ko (some kA) none p).2))), (0, .ref (z 6 4)), (1, .ref (z 0 a)), (2, .ref (z 0 b)), (3, .ref (T (10 * a + kA))), (4, va_rf none)]) rfl ?_
        have et : (c_t1 A B UA UB kd ty rc ko (some kA) none (p + 1)) = (c_t1 A B UA UB kd ty rc ko (some kA) none p) := by rw [c_t1, if_neg c5]
        rw [← et]; exact ih (p + 1) _ (by omega) hF hu1
      · refine jv_iconst (q := 46) (v := nI 1) G dX4_trialFits_45 (by decide) rfl ?_
        refine jv_topI (y := jv_bI true) rfl ?_
        refine jv_istore (q := 48) (lo' := [(5, .int (jv_bI true)), (7, .int (nI p)), (6, .int (jv_bI ((c_t1 A B UA UB kd ty rc ko (some kA) none p).2))), (0, .ref (z 6 4)), (1, .ref (z 0 a)), (2, .ref (z 0 b)), (3, .ref (T (10 * a + kA))), (4, va_rf none)]) G dX4_trialFits_46 (by decide) rfl rfl ?_
        refine jv_iload (q := 50) G 2 dX4_trialFits_48 rfl rfl ?_
        refine jv_if_eqB (q := 53) (tgt := 74) G dX4_trialFits_50 (by decide) rfl (fun c6 => ?_) (fun c6 => ?_)
        · refine jv_iconst (q := 75) (v := nI 0) G dX4_trialFits_74 (by decide) rfl ?_
          refine jv_topI (y := jv_bI false) rfl ?_
          refine jv_istore (q := 77) (lo' := [(6, .int (jv_bI false)), (5, .int (jv_bI true)), (7, .int (nI p)), (0, .ref (z 6 4)), (1, .ref (z 0 a)), (2, .ref (z 0 b)), (3, .ref (T (10 * a + kA))), (4, va_rf none)]) G dX4_trialFits_75 (by decide) rfl rfl ?_
          refine jv_iinc (q := 80) (lo' := [(7, .int (nI (p + 1))), (6, .int (jv_bI false)), (5, .int (jv_bI true)), (0, .ref (z 6 4)), (1, .ref (z 0 a)), (2, .ref (z 0 b)), (3, .ref (T (10 * a + kA))), (4, va_rf none)]) (v := nI (p + 1)) G 2 dX4_trialFits_77 rfl (nI_1 p) (by decide) rfl rfl ?_
          refine jv_goto (q := 9) G dX4_trialFits_80 (by decide) ?_
          refine jv_lo [0, 2, 1, 3, 4, 5, 6, 7] (lo' := [(7, .int (nI (p + 1))), (5, .int (jv_bI true)), (6, .int (jv_bI false)), (0, .ref (z 6 4)), (1, .ref (z 0 a)), (2, .ref (z 0 b)), (3, .ref (T (10 * a + kA))), (4, va_rf none)]) rfl ?_
          have et : (c_t1 A B UA UB kd ty rc ko (some kA) none (p + 1)) = (true, false) := by rw [c_t1, if_pos c5]; simp [c6]
          have q := ih (p + 1) _ (by omega) hF hu1
          rw [et] at q; exact q
        · refine jv_aload_n (q := 54) G 3 dX4_trialFits_53 rfl rfl rfl ?_
          refine jv_getQ (q := 57) G dX4_trialFits_54 fl_X4_21 rfl lp1.1 lp1.2.2.1 rfl ?_
          refine jv_aload_n (q := 58) G 5 dX4_trialFits_57 rfl rfl rfl ?_
          refine jv_aload_n (q := 59) G 3 dX4_trialFits_58 rfl rfl rfl ?_
          refine jv_getQ (q := 62) G dX4_trialFits_59 fl_X4_12 rfl lp1.1 lp1.2.1 rfl ?_
          refine jv_aloadR (q := 64) G 7 dX4_trialFits_62 rfl rfl ?_
          refine jv_callV_I (q := 67) (h1 := h2) (As := [.ref (z 0 b), .ref (z 3 12), va_rf none]) (rest := []) (ce' := 0) (sl' := 0) (r := nI (c_hr B UB p none kd ty rc ko none)) G Z ml_X4_116 (k_reachO (ho := none) hlt hB1 uB1 hu1 hkd hK hc1 (by omega) (fun K q => by cases q)) lp1.2.2.2.2 dX4_trialFits_64 rfl (by decide) (by decide) (by decide) (by decide) (Nat.le_of_ble_eq_true rfl) rfl rfl rfl rfl ?_
          have hbB := hr_lt B UB p none kd ty rc ko none
          refine jv_if_neN (q := 70) (tgt := 74) G dX4_trialFits_67 (by decide) rfl (by omega) (fun c7 => ?_) (fun c7 => ?_)
          · refine jv_iconst (q := 75) (v := nI 0) G dX4_trialFits_74 (by decide) rfl ?_
            refine jv_topI (y := jv_bI false) rfl ?_
            refine jv_istore (q := 77) (lo' := [(6, .int (jv_bI false)), (5, .int (jv_bI true)), (7, .int (nI p)), (0, .ref (z 6 4)), (1, .ref (z 0 a)), (2, .ref (z 0 b)), (3, .ref (T (10 * a + kA))), (4, va_rf none)]) G dX4_trialFits_75 (by decide) rfl rfl ?_
            refine jv_iinc (q := 80) (lo' := [(7, .int (nI (p + 1))), (6, .int (jv_bI false)), (5, .int (jv_bI true)), (0, .ref (z 6 4)), (1, .ref (z 0 a)), (2, .ref (z 0 b)), (3, .ref (T (10 * a + kA))), (4, va_rf none)]) (v := nI (p + 1)) G 2 dX4_trialFits_77 rfl (nI_1 p) (by decide) rfl rfl ?_
            refine jv_goto (q := 9) G dX4_trialFits_80 (by decide) ?_
            refine jv_lo [0, 2, 1, 3, 4, 5, 6, 7] (lo' := [(7, .int (nI (p + 1))), (5, .int (jv_bI true)), (6, .int (jv_bI false)), (0, .ref (z 6 4)), (1, .ref (z 0 a)), (2, .ref (z 0 b)), (3, .ref (T (10 * a + kA))), (4, va_rf none)]) rfl ?_
            have et : (c_t1 A B UA UB kd ty rc ko (some kA) none (p + 1)) = (true, false) := by rw [c_t1, if_pos c5]; simp [c6, c7]
            have q := ih (p + 1) _ (by omega) hF hu1
            rw [et] at q; exact q
          · refine jv_iconst (q := 71) (v := nI 1) G dX4_trialFits_70 (by decide) rfl ?_
            refine jv_goto (q := 75) G dX4_trialFits_71 (by decide) ?_
            refine jv_topI (y := jv_bI true) rfl ?_
            refine jv_istore (q := 77) (lo' := [(6, .int (jv_bI true)), (5, .int (jv_bI true)), (7, .int (nI p)), (0, .ref (z 6 4)), (1, .ref (z 0 a)), (2, .ref (z 0 b)), (3, .ref (T (10 * a + kA))), (4, va_rf none)]) G dX4_trialFits_75 (by decide) rfl rfl ?_
            refine jv_iinc (q := 80) (lo' := [(7, .int (nI (p + 1))), (6, .int (jv_bI true)), (5, .int (jv_bI true)), (0, .ref (z 6 4)), (1, .ref (z 0 a)), (2, .ref (z 0 b)), (3, .ref (T (10 * a + kA))), (4, va_rf none)]) (v := nI (p + 1)) G 2 dX4_trialFits_77 rfl (nI_1 p) (by decide) rfl rfl ?_
            refine jv_goto (q := 9) G dX4_trialFits_80 (by decide) ?_
            refine jv_lo [0, 2, 1, 3, 4, 5, 6, 7] (lo' := [(7, .int (nI (p + 1))), (5, .int (jv_bI true)), (6, .int (jv_bI true)), (0, .ref (z 6 4)), (1, .ref (z 0 a)), (2, .ref (z 0 b)), (3, .ref (T (10 * a + kA))), (4, va_rf none)]) rfl ?_
            have et : (c_t1 A B UA UB kd ty rc ko (some kA) none (p + 1)) = (true, true) := by rw [c_t1, if_pos c5]; simp [c6, c7]
            have q := ih (p + 1) _ (by omega) hF hu1
            rw [et] at q; exact q
set_option maxHeartbeats 4000000 in
set_option maxRecDepth 100000 in
theorem k_tf_l210 {E : jv_E} {z : Nat → Nat → Nat} {T : Nat → Nat} {N : Nat → Nat → Nat} {h : jv_H} {a b : Nat} {A B : List mT} {UA UB : Nat → List Nat} (hA : cv_E z T N h a A) (hB : cv_E z T N h b B) (uA : cv_Us z T h a A UA) (uB : cv_Us z T h b B UB) (lp : cl_p z h) (ha8 : a < 8) {kd : Nat} {ty rc cv ow : Int32} {ko : Option Nat} (hu : cv_use h (z 5 260) kd ty ko rc cv ow) (hkd : kd < 6) (hK : ∀ K, ko = some K → K < 64) {kA : Nat} {tA : mT} (htA : A[kA]? = some tA) {al : Bool} (hlt : (jv_l E).stackTraces = false) (G : jv_C E cX4_trialFits RX4 10) (Z : jv_rm E = jv_room 5 0 0) (hr : (jv_mt E).sig.returnType = some .boolean) : ∀ (n i : Nat) (h1 : jv_H) (rc1 : Int32), i + n = A.length → m_any (c_tb A B UA UB kd ty ko (some kA) none al) i = false → cF (SP z) h h1 → cv_use h1 (z 5 260) kd ty ko rc1 cv ow → jv_V E 10 h1 0 0 (jv_Q E (fun y h' => y = some (.int (jv_bI (!m_any (c_tb A B UA UB kd ty ko (some kA) none al) A.length))) ∧ cF (SP z) h h') jv_no 0 0) 104 [(7, .int (nI i)), (6, .int (jv_bI al)), (0, .ref (z 6 4)), (1, .ref (z 0 a)), (2, .ref (z 0 b)), (3, .ref (T (10 * a + kA))), (4, va_rf none)] [] := by
  intro n
  induction n with
  | zero =>
    intro i h1 rc1 hn hm hF hu1
    have hl10 := hA.2.2.2.1
    have hA1 := s06_E (sp_S lp) hF hA; have hB1 := s06_E (sp_S lp) hF hB; have uA1 := s06_U (sp_S lp) hF hA uA; have uB1 := s06_U (sp_S lp) hF hB uB; have lp1 := sp_L hF lp
    refine jv_iload (q := 106) G 0 dX4_trialFits_104 rfl rfl ?_
    refine jv_aload_n (q := 107) G 3 dX4_trialFits_106 rfl rfl rfl ?_
    refine jv_getI (q := 110) G dX4_trialFits_107 fl_X4_25 rfl hA1.1.1 hA1.2.2.1 rfl ?_
    refine jv_icmp_geN (q := 113) (tgt := 220) G dX4_trialFits_110 (by decide) rfl (by omega) (by omega) (fun c1 => ?_) (fun c1 => ?_)
    · refine jv_iconst (q := 221) (v := nI 1) G dX4_trialFits_220 (by decide) rfl ?_
      refine jv_topI (y := jv_bI true) rfl ?_
      refine jv_zret G hr dX4_trialFits_221 (Nat.le_of_ble_eq_true rfl) (Nat.le_of_ble_eq_true rfl) ?_
      refine ⟨?_, hF⟩; rw [show A.length = i by omega, hm]; rfl
    · omega
  | succ n ih =>
    intro i h1 rc1 hn hm hF hu1
    have hl10 := hA.2.2.2.1
    have hA1 := s06_E (sp_S lp) hF hA; have hB1 := s06_E (sp_S lp) hF hB; have uA1 := s06_U (sp_S lp) hF hA uA; have uB1 := s06_U (sp_S lp) hF hB uB; have lp1 := sp_L hF lp
    obtain ⟨ti, hti⟩ := jv_getLt (l := A) (k := i) (by omega)
    have lti := jv_ltGet hti
    have k10ti : i < 10 := by have := hA1.2.2.2.1; omega
    have Oti := (hA1.2.2.2.2.1 i ti hti).2
    have Vti := (hA1.2.2.2.2.1 i ti hti).1
    have Yti := hA1.2.1 i k10ti
    have btin := Oti.1; have btik := Oti.2.1
    refine jv_iload (q := 106) G 0 dX4_trialFits_104 rfl rfl ?_
    refine jv_aload_n (q := 107) G 3 dX4_trialFits_106 rfl rfl rfl ?_
    refine jv_getI (q := 110) G dX4_trialFits_107 fl_X4_25 rfl hA1.1.1 hA1.2.2.1 rfl ?_
    refine jv_icmp_geN (q := 113) (tgt := 220) G dX4_trialFits_110 (by decide) rfl (by omega) (by omega) (fun c1 => ?_) (fun c1 => ?_)
    · omega
    · refine jv_aload_n (q := 114) G 2 dX4_trialFits_113 rfl rfl rfl ?_
      refine jv_getQ (q := 117) G dX4_trialFits_114 fl_X4_21 rfl lp1.1 lp1.2.2.1 rfl ?_
      refine jv_aload_n (q := 118) G 3 dX4_trialFits_117 rfl rfl rfl ?_
      refine jv_getQ (q := 121) G dX4_trialFits_118 fl_X4_31 rfl hA1.1.1 hA1.1.2.1 rfl ?_
      refine jv_iload (q := 123) G 0 dX4_trialFits_121 rfl rfl ?_
      refine jv_aaldQ (q := 124) G dX4_trialFits_123 hA1.1.2.2.1 rfl (by omega) (by decide) (hA1.1.2.2.2.2.2.2 i k10ti) rfl ?_
      refine jv_getI (q := 127) G dX4_trialFits_124 fl_X4_43 rfl (hA1.2.1 i k10ti).1 (ct_0 (hA1.2.2.2.2.1 i ti hti).1) rfl ?_
      refine jv_putI (q := 130) G dX4_trialFits_127 fl_X4_124 rfl lp1.2.2.2.2 rfl ?_
      have hF := hF.wI (b := (z 5 260)) (Or.inr rfl) 3 (nI (mt_n ti))
      have hu1 := hu1.rc (rc' := nI (mt_n ti))
      generalize jv_wI h1 (z 5 260) 3 (nI (mt_n ti)) = h3 at hF hu1 ⊢
      have hA1 := s06_E (sp_S lp) hF hA; have hB1 := s06_E (sp_S lp) hF hB; have uA1 := s06_U (sp_S lp) hF hA uA; have uB1 := s06_U (sp_S lp) hF hB uB; have lp1 := sp_L hF lp
      refine jv_aload_n (q := 131) G 3 dX4_trialFits_130 rfl rfl rfl ?_
      refine jv_aload_n (q := 132) G 5 dX4_trialFits_131 rfl rfl rfl ?_
      refine jv_aload_n (q := 133) G 2 dX4_trialFits_132 rfl rfl rfl ?_
      refine jv_getQ (q := 136) G dX4_trialFits_133 fl_X4_21 rfl lp1.1 lp1.2.2.1 rfl ?_
      refine jv_getI (q := 139) G dX4_trialFits_136 fl_X4_127 rfl lp1.2.2.2.2 hu1.2.2.2.1 rfl ?_
      refine jv_aload_n (q := 140) G 3 dX4_trialFits_139 rfl rfl rfl ?_
      refine jv_aload_n (q := 141) G 2 dX4_trialFits_140 rfl rfl rfl ?_
      refine jv_getQ (q := 144) G dX4_trialFits_141 fl_X4_21 rfl lp1.1 lp1.2.2.1 rfl ?_
      refine jv_getI (q := 147) G dX4_trialFits_144 fl_X4_124 rfl lp1.2.2.2.2 hu1.2.2.2.2.1 rfl ?_
      refine jv_callV_R (q := 150) (h1 := h3) (As := [.int (nI (mt_n ti))]) (rest := [.int (jv_oN ko), .ref (T (10 * a + kA)), .ref (z 0 a)]) (ce' := 0) (sl' := 0) (r := ((m_cn A (nI (mt_n ti)) false).map (fun k => T (10 * a + k)))) G Z ml_X4_130 (k_classNamed hlt hA1) hA1.1.1 dX4_trialFits_147 rfl (by decide) (by decide) (by decide) (by decide) (Nat.le_of_ble_eq_true rfl) rfl rfl rfl rfl ?_
      rcases Option.eq_none_or_eq_some (m_cn A (nI (mt_n ti)) false) with hk4 | ⟨k2, hk4⟩
      · refine jv_topR (y := none) (by rw [hk4]; rfl) ?_
        refine jv_callV_R (q := 153) (h1 := h3) (As := [.ref (T (10 * a + kA)), .int (jv_oN ko), va_rf none]) (rest := []) (ce' := 0) (sl' := 0) (r := ((c_rn A UA (some kA) ko (nI (mt_n ti))).map (fun k => T (10 * a + k)))) G Z ml_X4_133 (k_selO (rc := nI (mt_n ti)) (ho := (some kA)) (ro := none) hlt hA1 uA1 hK (fun K q => by cases q; exact jv_ltGet htA) hk4) hA1.1.1 dX4_trialFits_150 rfl (by decide) (by decide) (by decide) (by decide) (Nat.le_of_ble_eq_true rfl) rfl rfl rfl rfl ?_
        rcases Option.eq_none_or_eq_some (c_rn A UA (some kA) ko (nI (mt_n ti))) with hk7 | ⟨k5, hk7⟩
        · refine jv_topR (y := none) (by rw [hk7]; rfl) ?_
          refine jv_astoreR (q := 155) (lo' := [(8, va_rf none), (7, .int (nI i)), (6, .int (jv_bI al)), (0, .ref (z 6 4)), (1, .ref (z 0 a)), (2, .ref (z 0 b)), (3, .ref (T (10 * a + kA))), (4, va_rf none)]) (x := none) G dX4_trialFits_153 (by decide) rfl rfl ?_
          refine jv_aload_n (q := 156) G 3 dX4_trialFits_155 rfl rfl rfl ?_
          refine jv_getQ (q := 159) G dX4_trialFits_156 fl_X4_21 rfl lp1.1 lp1.2.2.1 rfl ?_
          refine jv_aload_n (q := 160) G 4 dX4_trialFits_159 rfl rfl rfl ?_
          refine jv_aloadR (q := 162) G 0 dX4_trialFits_160 rfl rfl ?_
          refine jv_callV_I (q := 165) (h1 := h3) (As := [.ref (z 0 a), va_rf none]) (rest := []) (ce' := 0) (sl' := 0) (r := nI (c_hn A UA kd ty (nI (mt_n ti)) ko none)) G Z ml_X4_137 (k_runO (rn := none) hlt hA1 uA1 hu1 hkd hK (fun K q => by cases q)) lp1.2.2.2.2 dX4_trialFits_162 rfl (by decide) (by decide) (by decide) (by decide) (Nat.le_of_ble_eq_true rfl) rfl rfl rfl rfl ?_
          have hnA := hn_lt A UA kd ty (nI (mt_n ti)) ko none
          refine jv_if_neN (q := 168) (tgt := 214) G dX4_trialFits_165 (by decide) rfl (by omega) (fun c8 => ?_) (fun c8 => ?_)
          · refine jv_iinc (q := 217) (lo' := [(7, .int (nI (i + 1))), (8, va_rf none), (6, .int (jv_bI al)), (0, .ref (z 6 4)), (1, .ref (z 0 a)), (2, .ref (z 0 b)), (3, .ref (T (10 * a + kA))), (4, va_rf none)]) (v := nI (i + 1)) G 1 dX4_trialFits_214 rfl (nI_1 i) (by decide) rfl rfl ?_
            refine jv_goto (q := 104) G dX4_trialFits_217 (by decide) ?_
            refine jv_lo [0, 2, 3, 4, 5, 6, 7] (lo' := [(7, .int (nI (i + 1))), (6, .int (jv_bI al)), (0, .ref (z 6 4)), (1, .ref (z 0 a)), (2, .ref (z 0 b)), (3, .ref (T (10 * a + kA))), (4, va_rf none)]) rfl ?_
            have hbi : (c_tb A B UA UB kd ty ko (some kA) none al) i = false := by
              unfold c_tb; rw [hti]; simp [c8, hk7]
            exact ih (i + 1) _ _ (by omega) (by rw [m_any, hm, hbi]; rfl) hF hu1
          · refine jv_aload_n (q := 169) G 5 dX4_trialFits_168 rfl rfl rfl ?_
            refine jv_aloadR (q := 171) G 7 dX4_trialFits_169 rfl rfl ?_
            refine jv_aload_n (q := 172) G 3 dX4_trialFits_171 rfl rfl rfl ?_
            refine jv_getQ (q := 175) G dX4_trialFits_172 fl_X4_21 rfl lp1.1 lp1.2.2.1 rfl ?_
            refine jv_getI (q := 178) G dX4_trialFits_175 fl_X4_127 rfl lp1.2.2.2.2 hu1.2.2.2.1 rfl ?_
            refine jv_aload_n (q := 179) G 5 dX4_trialFits_178 rfl rfl rfl ?_
            refine jv_aload_n (q := 180) G 3 dX4_trialFits_179 rfl rfl rfl ?_
            refine jv_getQ (q := 183) G dX4_trialFits_180 fl_X4_21 rfl lp1.1 lp1.2.2.1 rfl ?_
            refine jv_getI (q := 186) G dX4_trialFits_183 fl_X4_124 rfl lp1.2.2.2.2 hu1.2.2.2.2.1 rfl ?_
            refine jv_callV_R (q := 189) (h1 := h3) (As := [.int (nI (mt_n ti))]) (rest := [.int (jv_oN ko), va_rf none, .ref (z 0 b)]) (ce' := 0) (sl' := 0) (r := ((m_cn B (nI (mt_n ti)) false).map (fun k => T (10 * b + k)))) G Z ml_X4_130 (k_classNamed hlt hB1) hB1.1.1 dX4_trialFits_186 rfl (by decide) (by decide) (by decide) (by decide) (Nat.le_of_ble_eq_true rfl) rfl rfl rfl rfl ?_
            rcases Option.eq_none_or_eq_some (m_cn B (nI (mt_n ti)) false) with hk11 | ⟨k9, hk11⟩
            · refine jv_topR (y := none) (by rw [hk11]; rfl) ?_
              refine jv_callV_R (q := 192) (h1 := h3) (As := [va_rf none, .int (jv_oN ko), va_rf none]) (rest := []) (ce' := 0) (sl' := 0) (r := ((c_rn B UB none ko (nI (mt_n ti))).map (fun k => T (10 * b + k)))) G Z ml_X4_133 (k_selO (rc := nI (mt_n ti)) (ho := none) (ro := none) hlt hB1 uB1 hK (fun K q => by cases q) hk11) hB1.1.1 dX4_trialFits_189 rfl (by decide) (by decide) (by decide) (by decide) (Nat.le_of_ble_eq_true rfl) rfl rfl rfl rfl ?_
              rcases Option.eq_none_or_eq_some (c_rn B UB none ko (nI (mt_n ti))) with hk14 | ⟨k12, hk14⟩
              · refine jv_topR (y := none) (by rw [hk14]; rfl) ?_
                refine jv_astoreR (q := 194) (lo' := [(9, va_rf none), (8, va_rf none), (7, .int (nI i)), (6, .int (jv_bI al)), (0, .ref (z 6 4)), (1, .ref (z 0 a)), (2, .ref (z 0 b)), (3, .ref (T (10 * a + kA))), (4, va_rf none)]) (x := none) G dX4_trialFits_192 (by decide) rfl rfl ?_
                refine jv_iload (q := 196) G 3 dX4_trialFits_194 rfl rfl ?_
                refine jv_if_eqB (q := 199) (tgt := 212) G dX4_trialFits_196 (by decide) rfl (fun c15 => ?_) (fun c15 => ?_)
                · refine jv_iconst (q := 213) (v := nI 0) G dX4_trialFits_212 (by decide) rfl ?_
                  refine jv_topI (y := jv_bI false) rfl ?_
                  refine jv_zret G hr dX4_trialFits_213 (Nat.le_of_ble_eq_true rfl) (Nat.le_of_ble_eq_true rfl) ?_
                  have hbi : (c_tb A B UA UB kd ty ko (some kA) none al) i = true := by
                    unfold c_tb; rw [hti]; simp [c8, c15, hk7, hk14]
                  refine ⟨?_, hF⟩; rw [any_i.mpr ⟨i, by omega, hbi⟩]; rfl
                · refine jv_aload_n (q := 200) G 4 dX4_trialFits_199 rfl rfl rfl ?_
                  refine jv_getQ (q := 203) G dX4_trialFits_200 fl_X4_21 rfl lp1.1 lp1.2.2.1 rfl ?_
                  refine jv_aload_n (q := 204) G 6 dX4_trialFits_203 rfl rfl rfl ?_
                  refine jv_aloadR (q := 206) G 0 dX4_trialFits_204 rfl rfl ?_
                  refine jv_callV_I (q := 209) (h1 := h3) (As := [.ref (z 0 b), va_rf none]) (rest := []) (ce' := 0) (sl' := 0) (r := nI (c_hn B UB kd ty (nI (mt_n ti)) ko none)) G Z ml_X4_137 (k_runO (rn := none) hlt hB1 uB1 hu1 hkd hK (fun K q => by cases q)) lp1.2.2.2.2 dX4_trialFits_206 rfl (by decide) (by decide) (by decide) (by decide) (Nat.le_of_ble_eq_true rfl) rfl rfl rfl rfl ?_
                  have hnB := hn_lt B UB kd ty (nI (mt_n ti)) ko none
                  refine jv_if_eqN (q := 212) (tgt := 214) G dX4_trialFits_209 (by decide) rfl (by omega) (fun c16 => ?_) (fun c16 => ?_)
                  · refine jv_iinc (q := 217) (lo' := [(7, .int (nI (i + 1))), (9, va_rf none), (8, va_rf none), (6, .int (jv_bI al)), (0, .ref (z 6 4)), (1, .ref (z 0 a)), (2, .ref (z 0 b)), (3, .ref (T (10 * a + kA))), (4, va_rf none)]) (v := nI (i + 1)) G 2 dX4_trialFits_214 rfl (nI_1 i) (by decide) rfl rfl ?_
                    refine jv_goto (q := 104) G dX4_trialFits_217 (by decide) ?_
                    refine jv_lo [0, 3, 4, 5, 6, 7, 8] (lo' := [(7, .int (nI (i + 1))), (6, .int (jv_bI al)), (0, .ref (z 6 4)), (1, .ref (z 0 a)), (2, .ref (z 0 b)), (3, .ref (T (10 * a + kA))), (4, va_rf none)]) rfl ?_
                    have hbi : (c_tb A B UA UB kd ty ko (some kA) none al) i = false := by
                      unfold c_tb; rw [hti]; simp [c8, c15, c16, hk7, hk14]
                    exact ih (i + 1) _ _ (by omega) (by rw [m_any, hm, hbi]; rfl) hF hu1
                  · refine jv_iconst (q := 213) (v := nI 0) G dX4_trialFits_212 (by decide) rfl ?_
                    refine jv_topI (y := jv_bI false) rfl ?_
                    refine jv_zret G hr dX4_trialFits_213 (Nat.le_of_ble_eq_true rfl) (Nat.le_of_ble_eq_true rfl) ?_
                    have hbi : (c_tb A B UA UB kd ty ko (some kA) none al) i = true := by
                      unfold c_tb; rw [hti]; simp [c8, c15, c16, hk7, hk14]
                    refine ⟨?_, hF⟩; rw [any_i.mpr ⟨i, by omega, hbi⟩]; rfl
              · refine jv_topR (y := (some (T (10 * b + k12)))) (by rw [hk14]; rfl) ?_
                obtain ⟨t13, ht13, nt13⟩ := rn_get hk14
                have lt13 := jv_ltGet ht13
                have k10t13 : k12 < 10 := by have := hB1.2.2.2.1; omega
                have Ot13 := (hB1.2.2.2.2.1 k12 t13 ht13).2
                have Vt13 := (hB1.2.2.2.2.1 k12 t13 ht13).1
                have Yt13 := hB1.2.1 k12 k10t13
                have bt13n := Ot13.1; have bt13k := Ot13.2.1
                refine jv_astore (q := 194) (lo' := [(9, .ref (T (10 * b + k12))), (8, va_rf none), (7, .int (nI i)), (6, .int (jv_bI al)), (0, .ref (z 6 4)), (1, .ref (z 0 a)), (2, .ref (z 0 b)), (3, .ref (T (10 * a + kA))), (4, va_rf none)]) G dX4_trialFits_192 (by decide) rfl rfl ?_
                refine jv_iload (q := 196) G 3 dX4_trialFits_194 rfl rfl ?_
                refine jv_if_eqB (q := 199) (tgt := 212) G dX4_trialFits_196 (by decide) rfl (fun c17 => ?_) (fun c17 => ?_)
                · refine jv_iconst (q := 213) (v := nI 0) G dX4_trialFits_212 (by decide) rfl ?_
                  refine jv_topI (y := jv_bI false) rfl ?_
                  refine jv_zret G hr dX4_trialFits_213 (Nat.le_of_ble_eq_true rfl) (Nat.le_of_ble_eq_true rfl) ?_
                  have hbi : (c_tb A B UA UB kd ty ko (some kA) none al) i = true := by
                    unfold c_tb; rw [hti]; simp [c8, c17, hk7, hk14]
                  refine ⟨?_, hF⟩; rw [any_i.mpr ⟨i, by omega, hbi⟩]; rfl
                · refine jv_aload_n (q := 200) G 4 dX4_trialFits_199 rfl rfl rfl ?_
                  refine jv_getQ (q := 203) G dX4_trialFits_200 fl_X4_21 rfl lp1.1 lp1.2.2.1 rfl ?_
                  refine jv_aload_n (q := 204) G 6 dX4_trialFits_203 rfl rfl rfl ?_
                  refine jv_aload (q := 206) G 0 dX4_trialFits_204 rfl rfl ?_
                  refine jv_callV_I (q := 209) (h1 := h3) (As := [.ref (z 0 b), .ref (T (10 * b + k12))]) (rest := []) (ce' := 0) (sl' := 0) (r := nI (c_hn B UB kd ty (nI (mt_n ti)) ko (some k12))) G Z ml_X4_137 (k_runO (rn := (some k12)) hlt hB1 uB1 hu1 hkd hK (fun K q => by cases q; exact jv_ltGet ht13)) lp1.2.2.2.2 dX4_trialFits_206 rfl (by decide) (by decide) (by decide) (by decide) (Nat.le_of_ble_eq_true rfl) rfl rfl rfl rfl ?_
                  have hnB := hn_lt B UB kd ty (nI (mt_n ti)) ko (some k12)
                  refine jv_if_eqN (q := 212) (tgt := 214) G dX4_trialFits_209 (by decide) rfl (by omega) (fun c18 => ?_) (fun c18 => ?_)
                  · refine jv_iinc (q := 217) (lo' := [(7, .int (nI (i + 1))), (9, .ref (T (10 * b + k12))), (8, va_rf none), (6, .int (jv_bI al)), (0, .ref (z 6 4)), (1, .ref (z 0 a)), (2, .ref (z 0 b)), (3, .ref (T (10 * a + kA))), (4, va_rf none)]) (v := nI (i + 1)) G 2 dX4_trialFits_214 rfl (nI_1 i) (by decide) rfl rfl ?_
                    refine jv_goto (q := 104) G dX4_trialFits_217 (by decide) ?_
                    refine jv_lo [0, 3, 4, 5, 6, 7, 8] (lo' := [(7, .int (nI (i + 1))), (6, .int (jv_bI al)), (0, .ref (z 6 4)), (1, .ref (z 0 a)), (2, .ref (z 0 b)), (3, .ref (T (10 * a + kA))), (4, va_rf none)]) rfl ?_
                    have hbi : (c_tb A B UA UB kd ty ko (some kA) none al) i = false := by
                      unfold c_tb; rw [hti]; simp [c8, c17, c18, hk7, hk14]
                    exact ih (i + 1) _ _ (by omega) (by rw [m_any, hm, hbi]; rfl) hF hu1
                  · refine jv_iconst (q := 213) (v := nI 0) G dX4_trialFits_212 (by decide) rfl ?_
                    refine jv_topI (y := jv_bI false) rfl ?_
                    refine jv_zret G hr dX4_trialFits_213 (Nat.le_of_ble_eq_true rfl) (Nat.le_of_ble_eq_true rfl) ?_
                    have hbi : (c_tb A B UA UB kd ty ko (some kA) none al) i = true := by
                      unfold c_tb; rw [hti]; simp [c8, c17, c18, hk7, hk14]
                    refine ⟨?_, hF⟩; rw [any_i.mpr ⟨i, by omega, hbi⟩]; rfl
            · refine jv_topR (y := (some (T (10 * b + k9)))) (by rw [hk11]; rfl) ?_
              obtain ⟨t10, ht10, nt10⟩ := m_cn_get hk11
              have lt10 := jv_ltGet ht10
              have k10t10 : k9 < 10 := by have := hB1.2.2.2.1; omega
              have Ot10 := (hB1.2.2.2.2.1 k9 t10 ht10).2
              have Vt10 := (hB1.2.2.2.2.1 k9 t10 ht10).1
              have Yt10 := hB1.2.1 k9 k10t10
              have bt10n := Ot10.1; have bt10k := Ot10.2.1
              refine jv_callV_R (q := 192) (h1 := h3) (As := [va_rf none, .int (jv_oN ko), .ref (T (10 * b + k9))]) (rest := []) (ce' := 0) (sl' := 0) (r := ((c_rn B UB none ko (nI (mt_n ti))).map (fun k => T (10 * b + k)))) G Z ml_X4_133 (k_selO (rc := nI (mt_n ti)) (ho := none) (ro := (some k9)) hlt hB1 uB1 hK (fun K q => by cases q) hk11) hB1.1.1 dX4_trialFits_189 rfl (by decide) (by decide) (by decide) (by decide) (Nat.le_of_ble_eq_true rfl) rfl rfl rfl rfl ?_
              rcases Option.eq_none_or_eq_some (c_rn B UB none ko (nI (mt_n ti))) with hk21 | ⟨k19, hk21⟩
              · refine jv_topR (y := none) (by rw [hk21]; rfl) ?_
                refine jv_astoreR (q := 194) (lo' := [(9, va_rf none), (8, va_rf none), (7, .int (nI i)), (6, .int (jv_bI al)), (0, .ref (z 6 4)), (1, .ref (z 0 a)), (2, .ref (z 0 b)), (3, .ref (T (10 * a + kA))), (4, va_rf none)]) (x := none) G dX4_trialFits_192 (by decide) rfl rfl ?_
                refine jv_iload (q := 196) G 3 dX4_trialFits_194 rfl rfl ?_
                refine jv_if_eqB (q := 199) (tgt := 212) G dX4_trialFits_196 (by decide) rfl (fun c22 => ?_) (fun c22 => ?_)
                · refine jv_iconst (q := 213) (v := nI 0) G dX4_trialFits_212 (by decide) rfl ?_
                  refine jv_topI (y := jv_bI false) rfl ?_
                  refine jv_zret G hr dX4_trialFits_213 (Nat.le_of_ble_eq_true rfl) (Nat.le_of_ble_eq_true rfl) ?_
                  have hbi : (c_tb A B UA UB kd ty ko (some kA) none al) i = true := by
                    unfold c_tb; rw [hti]; simp [c8, c22, hk7, hk21]
                  refine ⟨?_, hF⟩; rw [any_i.mpr ⟨i, by omega, hbi⟩]; rfl
                · refine jv_aload_n (q := 200) G 4 dX4_trialFits_199 rfl rfl rfl ?_
                  refine jv_getQ (q := 203) G dX4_trialFits_200 fl_X4_21 rfl lp1.1 lp1.2.2.1 rfl ?_
                  refine jv_aload_n (q := 204) G 6 dX4_trialFits_203 rfl rfl rfl ?_
                  refine jv_aloadR (q := 206) G 0 dX4_trialFits_204 rfl rfl ?_
                  refine jv_callV_I (q := 209) (h1 := h3) (As := [.ref (z 0 b), va_rf none]) (rest := []) (ce' := 0) (sl' := 0) (r := nI (c_hn B UB kd ty (nI (mt_n ti)) ko none)) G Z ml_X4_137 (k_runO (rn := none) hlt hB1 uB1 hu1 hkd hK (fun K q => by cases q)) lp1.2.2.2.2 dX4_trialFits_206 rfl (by decide) (by decide) (by decide) (by decide) (Nat.le_of_ble_eq_true rfl) rfl rfl rfl rfl ?_
                  have hnB := hn_lt B UB kd ty (nI (mt_n ti)) ko none
                  refine jv_if_eqN (q := 212) (tgt := 214) G dX4_trialFits_209 (by decide) rfl (by omega) (fun c23 => ?_) (fun c23 => ?_)
                  · refine jv_iinc (q := 217) (lo' := [(7, .int (nI (i + 1))), (9, va_rf none), (8, va_rf none), (6, .int (jv_bI al)), (0, .ref (z 6 4)), (1, .ref (z 0 a)), (2, .ref (z 0 b)), (3, .ref (T (10 * a + kA))), (4, va_rf none)]) (v := nI (i + 1)) G 2 dX4_trialFits_214 rfl (nI_1 i) (by decide) rfl rfl ?_
                    refine jv_goto (q := 104) G dX4_trialFits_217 (by decide) ?_
                    refine jv_lo [0, 3, 4, 5, 6, 7, 8] (lo' := [(7, .int (nI (i + 1))), (6, .int (jv_bI al)), (0, .ref (z 6 4)), (1, .ref (z 0 a)), (2, .ref (z 0 b)), (3, .ref (T (10 * a + kA))), (4, va_rf none)]) rfl ?_
                    have hbi : (c_tb A B UA UB kd ty ko (some kA) none al) i = false := by
                      unfold c_tb; rw [hti]; simp [c8, c22, c23, hk7, hk21]
                    exact ih (i + 1) _ _ (by omega) (by rw [m_any, hm, hbi]; rfl) hF hu1
                  · refine jv_iconst (q := 213) (v := nI 0) G dX4_trialFits_212 (by decide) rfl ?_
                    refine jv_topI (y := jv_bI false) rfl ?_
                    refine jv_zret G hr dX4_trialFits_213 (Nat.le_of_ble_eq_true rfl) (Nat.le_of_ble_eq_true rfl) ?_
                    have hbi : (c_tb A B UA UB kd ty ko (some kA) none al) i = true := by
                      unfold c_tb; rw [hti]; simp [c8, c22, c23, hk7, hk21]
                    refine ⟨?_, hF⟩; rw [any_i.mpr ⟨i, by omega, hbi⟩]; rfl
              · refine jv_topR (y := (some (T (10 * b + k19)))) (by rw [hk21]; rfl) ?_
                obtain ⟨t20, ht20, nt20⟩ := rn_get hk21
                have lt20 := jv_ltGet ht20
                have k10t20 : k19 < 10 := by have := hB1.2.2.2.1; omega
                have Ot20 := (hB1.2.2.2.2.1 k19 t20 ht20).2
                have Vt20 := (hB1.2.2.2.2.1 k19 t20 ht20).1
                have Yt20 := hB1.2.1 k19 k10t20
                have bt20n := Ot20.1; have bt20k := Ot20.2.1
                refine jv_astore (q := 194) (lo' := [(9, .ref (T (10 * b + k19))), (8, va_rf none), (7, .int (nI i)), (6, .int (jv_bI al)), (0, .ref (z 6 4)), (1, .ref (z 0 a)), (2, .ref (z 0 b)), (3, .ref (T (10 * a + kA))), (4, va_rf none)]) G dX4_trialFits_192 (by decide) rfl rfl ?_
                refine jv_iload (q := 196) G 3 dX4_trialFits_194 rfl rfl ?_
                refine jv_if_eqB (q := 199) (tgt := 212) G dX4_trialFits_196 (by decide) rfl (fun c24 => ?_) (fun c24 => ?_)
                · refine jv_iconst (q := 213) (v := nI 0) G dX4_trialFits_212 (by decide) rfl ?_
                  refine jv_topI (y := jv_bI false) rfl ?_
                  refine jv_zret G hr dX4_trialFits_213 (Nat.le_of_ble_eq_true rfl) (Nat.le_of_ble_eq_true rfl) ?_
                  have hbi : (c_tb A B UA UB kd ty ko (some kA) none al) i = true := by
                    unfold c_tb; rw [hti]; simp [c8, c24, hk7, hk21]
                  refine ⟨?_, hF⟩; rw [any_i.mpr ⟨i, by omega, hbi⟩]; rfl
                · refine jv_aload_n (q := 200) G 4 dX4_trialFits_199 rfl rfl rfl ?_
                  refine jv_getQ (q := 203) G dX4_trialFits_200 fl_X4_21 rfl lp1.1 lp1.2.2.1 rfl ?_
                  refine jv_aload_n (q := 204) G 6 dX4_trialFits_203 rfl rfl rfl ?_
                  refine jv_aload (q := 206) G 0 dX4_trialFits_204 rfl rfl ?_
                  refine jv_callV_I (q := 209) (h1 := h3) (As := [.ref (z 0 b), .ref (T (10 * b + k19))]) (rest := []) (ce' := 0) (sl' := 0) (r := nI (c_hn B UB kd ty (nI (mt_n ti)) ko (some k19))) G Z ml_X4_137 (k_runO (rn := (some k19)) hlt hB1 uB1 hu1 hkd hK (fun K q => by cases q; exact jv_ltGet ht20)) lp1.2.2.2.2 dX4_trialFits_206 rfl (by decide) (by decide) (by decide) (by decide) (Nat.le_of_ble_eq_true rfl) rfl rfl rfl rfl ?_
                  have hnB := hn_lt B UB kd ty (nI (mt_n ti)) ko (some k19)
                  refine jv_if_eqN (q := 212) (tgt := 214) G dX4_trialFits_209 (by decide) rfl (by omega) (fun c25 => ?_) (fun c25 => ?_)
                  · refine jv_iinc (q := 217) (lo' := [(7, .int (nI (i + 1))), (9, .ref (T (10 * b + k19))), (8, va_rf none), (6, .int (jv_bI al)), (0, .ref (z 6 4)), (1, .ref (z 0 a)), (2, .ref (z 0 b)), (3, .ref (T (10 * a + kA))), (4, va_rf none)]) (v := nI (i + 1)) G 2 dX4_trialFits_214 rfl (nI_1 i) (by decide) rfl rfl ?_
                    refine jv_goto (q := 104) G dX4_trialFits_217 (by decide) ?_
                    refine jv_lo [0, 3, 4, 5, 6, 7, 8] (lo' := [(7, .int (nI (i + 1))), (6, .int (jv_bI al)), (0, .ref (z 6 4)), (1, .ref (z 0 a)), (2, .ref (z 0 b)), (3, .ref (T (10 * a + kA))), (4, va_rf none)]) rfl ?_
                    have hbi : (c_tb A B UA UB kd ty ko (some kA) none al) i = false := by
                      unfold c_tb; rw [hti]; simp [c8, c24, c25, hk7, hk21]
                    exact ih (i + 1) _ _ (by omega) (by rw [m_any, hm, hbi]; rfl) hF hu1
                  · refine jv_iconst (q := 213) (v := nI 0) G dX4_trialFits_212 (by decide) rfl ?_
                    refine jv_topI (y := jv_bI false) rfl ?_
                    refine jv_zret G hr dX4_trialFits_213 (Nat.le_of_ble_eq_true rfl) (Nat.le_of_ble_eq_true rfl) ?_
                    have hbi : (c_tb A B UA UB kd ty ko (some kA) none al) i = true := by
                      unfold c_tb; rw [hti]; simp [c8, c24, c25, hk7, hk21]
                    refine ⟨?_, hF⟩; rw [any_i.mpr ⟨i, by omega, hbi⟩]; rfl
        · refine jv_topR (y := (some (T (10 * a + k5)))) (by rw [hk7]; rfl) ?_
          obtain ⟨t6, ht6, nt6⟩ := rn_get hk7
          have lt6 := jv_ltGet ht6
          have k10t6 : k5 < 10 := by have := hA1.2.2.2.1; omega
          have Ot6 := (hA1.2.2.2.2.1 k5 t6 ht6).2
          have Vt6 := (hA1.2.2.2.2.1 k5 t6 ht6).1
          have Yt6 := hA1.2.1 k5 k10t6
          have bt6n := Ot6.1; have bt6k := Ot6.2.1
          refine jv_astore (q := 155) (lo' := [(8, .ref (T (10 * a + k5))), (7, .int (nI i)), (6, .int (jv_bI al)), (0, .ref (z 6 4)), (1, .ref (z 0 a)), (2, .ref (z 0 b)), (3, .ref (T (10 * a + kA))), (4, va_rf none)]) G dX4_trialFits_153 (by decide) rfl rfl ?_
          refine jv_aload_n (q := 156) G 3 dX4_trialFits_155 rfl rfl rfl ?_
          refine jv_getQ (q := 159) G dX4_trialFits_156 fl_X4_21 rfl lp1.1 lp1.2.2.1 rfl ?_
          refine jv_aload_n (q := 160) G 4 dX4_trialFits_159 rfl rfl rfl ?_
          refine jv_aload (q := 162) G 0 dX4_trialFits_160 rfl rfl ?_
          refine jv_callV_I (q := 165) (h1 := h3) (As := [.ref (z 0 a), .ref (T (10 * a + k5))]) (rest := []) (ce' := 0) (sl' := 0) (r := nI (c_hn A UA kd ty (nI (mt_n ti)) ko (some k5))) G Z ml_X4_137 (k_runO (rn := (some k5)) hlt hA1 uA1 hu1 hkd hK (fun K q => by cases q; exact jv_ltGet ht6)) lp1.2.2.2.2 dX4_trialFits_162 rfl (by decide) (by decide) (by decide) (by decide) (Nat.le_of_ble_eq_true rfl) rfl rfl rfl rfl ?_
          have hnA := hn_lt A UA kd ty (nI (mt_n ti)) ko (some k5)
          refine jv_if_neN (q := 168) (tgt := 214) G dX4_trialFits_165 (by decide) rfl (by omega) (fun c26 => ?_) (fun c26 => ?_)
          · refine jv_iinc (q := 217) (lo' := [(7, .int (nI (i + 1))), (8, .ref (T (10 * a + k5))), (6, .int (jv_bI al)), (0, .ref (z 6 4)), (1, .ref (z 0 a)), (2, .ref (z 0 b)), (3, .ref (T (10 * a + kA))), (4, va_rf none)]) (v := nI (i + 1)) G 1 dX4_trialFits_214 rfl (nI_1 i) (by decide) rfl rfl ?_
            refine jv_goto (q := 104) G dX4_trialFits_217 (by decide) ?_
            refine jv_lo [0, 2, 3, 4, 5, 6, 7] (lo' := [(7, .int (nI (i + 1))), (6, .int (jv_bI al)), (0, .ref (z 6 4)), (1, .ref (z 0 a)), (2, .ref (z 0 b)), (3, .ref (T (10 * a + kA))), (4, va_rf none)]) rfl ?_
            have hbi : (c_tb A B UA UB kd ty ko (some kA) none al) i = false := by
              unfold c_tb; rw [hti]; simp [c26, hk7]
            exact ih (i + 1) _ _ (by omega) (by rw [m_any, hm, hbi]; rfl) hF hu1
          · refine jv_aload_n (q := 169) G 5 dX4_trialFits_168 rfl rfl rfl ?_
            refine jv_aloadR (q := 171) G 7 dX4_trialFits_169 rfl rfl ?_
            refine jv_aload_n (q := 172) G 3 dX4_trialFits_171 rfl rfl rfl ?_
            refine jv_getQ (q := 175) G dX4_trialFits_172 fl_X4_21 rfl lp1.1 lp1.2.2.1 rfl ?_
            refine jv_getI (q := 178) G dX4_trialFits_175 fl_X4_127 rfl lp1.2.2.2.2 hu1.2.2.2.1 rfl ?_
            refine jv_aload_n (q := 179) G 5 dX4_trialFits_178 rfl rfl rfl ?_
            refine jv_aload_n (q := 180) G 3 dX4_trialFits_179 rfl rfl rfl ?_
            refine jv_getQ (q := 183) G dX4_trialFits_180 fl_X4_21 rfl lp1.1 lp1.2.2.1 rfl ?_
            refine jv_getI (q := 186) G dX4_trialFits_183 fl_X4_124 rfl lp1.2.2.2.2 hu1.2.2.2.2.1 rfl ?_
            refine jv_callV_R (q := 189) (h1 := h3) (As := [.int (nI (mt_n ti))]) (rest := [.int (jv_oN ko), va_rf none, .ref (z 0 b)]) (ce' := 0) (sl' := 0) (r := ((m_cn B (nI (mt_n ti)) false).map (fun k => T (10 * b + k)))) G Z ml_X4_130 (k_classNamed hlt hB1) hB1.1.1 dX4_trialFits_186 rfl (by decide) (by decide) (by decide) (by decide) (Nat.le_of_ble_eq_true rfl) rfl rfl rfl rfl ?_
            rcases Option.eq_none_or_eq_some (m_cn B (nI (mt_n ti)) false) with hk29 | ⟨k27, hk29⟩
            · refine jv_topR (y := none) (by rw [hk29]; rfl) ?_
              refine jv_callV_R (q := 192) (h1 := h3) (As := [va_rf none, .int (jv_oN ko), va_rf none]) (rest := []) (ce' := 0) (sl' := 0) (r := ((c_rn B UB none ko (nI (mt_n ti))).map (fun k => T (10 * b + k)))) G Z ml_X4_133 (k_selO (rc := nI (mt_n ti)) (ho := none) (ro := none) hlt hB1 uB1 hK (fun K q => by cases q) hk29) hB1.1.1 dX4_trialFits_189 rfl (by decide) (by decide) (by decide) (by decide) (Nat.le_of_ble_eq_true rfl) rfl rfl rfl rfl ?_
              rcases Option.eq_none_or_eq_some (c_rn B UB none ko (nI (mt_n ti))) with hk32 | ⟨k30, hk32⟩
              · refine jv_topR (y := none) (by rw [hk32]; rfl) ?_
                refine jv_astoreR (q := 194) (lo' := [(9, va_rf none), (8, .ref (T (10 * a + k5))), (7, .int (nI i)), (6, .int (jv_bI al)), (0, .ref (z 6 4)), (1, .ref (z 0 a)), (2, .ref (z 0 b)), (3, .ref (T (10 * a + kA))), (4, va_rf none)]) (x := none) G dX4_trialFits_192 (by decide) rfl rfl ?_
                refine jv_iload (q := 196) G 3 dX4_trialFits_194 rfl rfl ?_
                refine jv_if_eqB (q := 199) (tgt := 212) G dX4_trialFits_196 (by decide) rfl (fun c33 => ?_) (fun c33 => ?_)
                · refine jv_iconst (q := 213) (v := nI 0) G dX4_trialFits_212 (by decide) rfl ?_
                  refine jv_topI (y := jv_bI false) rfl ?_
                  refine jv_zret G hr dX4_trialFits_213 (Nat.le_of_ble_eq_true rfl) (Nat.le_of_ble_eq_true rfl) ?_
                  have hbi : (c_tb A B UA UB kd ty ko (some kA) none al) i = true := by
                    unfold c_tb; rw [hti]; simp [c26, c33, hk7, hk32]
                  refine ⟨?_, hF⟩; rw [any_i.mpr ⟨i, by omega, hbi⟩]; rfl
                · refine jv_aload_n (q := 200) G 4 dX4_trialFits_199 rfl rfl rfl ?_
                  refine jv_getQ (q := 203) G dX4_trialFits_200 fl_X4_21 rfl lp1.1 lp1.2.2.1 rfl ?_
                  refine jv_aload_n (q := 204) G 6 dX4_trialFits_203 rfl rfl rfl ?_
                  refine jv_aloadR (q := 206) G 0 dX4_trialFits_204 rfl rfl ?_
                  refine jv_callV_I (q := 209) (h1 := h3) (As := [.ref (z 0 b), va_rf none]) (rest := []) (ce' := 0) (sl' := 0) (r := nI (c_hn B UB kd ty (nI (mt_n ti)) ko none)) G Z ml_X4_137 (k_runO (rn := none) hlt hB1 uB1 hu1 hkd hK (fun K q => by cases q)) lp1.2.2.2.2 dX4_trialFits_206 rfl (by decide) (by decide) (by decide) (by decide) (Nat.le_of_ble_eq_true rfl) rfl rfl rfl rfl ?_
                  have hnB := hn_lt B UB kd ty (nI (mt_n ti)) ko none
                  refine jv_if_eqN (q := 212) (tgt := 214) G dX4_trialFits_209 (by decide) rfl (by omega) (fun c34 => ?_) (fun c34 => ?_)
                  · refine jv_iinc (q := 217) (lo' := [(7, .int (nI (i + 1))), (9, va_rf none), (8, .ref (T (10 * a + k5))), (6, .int (jv_bI al)), (0, .ref (z 6 4)), (1, .ref (z 0 a)), (2, .ref (z 0 b)), (3, .ref (T (10 * a + kA))), (4, va_rf none)]) (v := nI (i + 1)) G 2 dX4_trialFits_214 rfl (nI_1 i) (by decide) rfl rfl ?_
                    refine jv_goto (q := 104) G dX4_trialFits_217 (by decide) ?_
                    refine jv_lo [0, 3, 4, 5, 6, 7, 8] (lo' := [(7, .int (nI (i + 1))), (6, .int (jv_bI al)), (0, .ref (z 6 4)), (1, .ref (z 0 a)), (2, .ref (z 0 b)), (3, .ref (T (10 * a + kA))), (4, va_rf none)]) rfl ?_
                    have hbi : (c_tb A B UA UB kd ty ko (some kA) none al) i = false := by
                      unfold c_tb; rw [hti]; simp [c26, c33, c34, hk7, hk32]
                    exact ih (i + 1) _ _ (by omega) (by rw [m_any, hm, hbi]; rfl) hF hu1
                  · refine jv_iconst (q := 213) (v := nI 0) G dX4_trialFits_212 (by decide) rfl ?_
                    refine jv_topI (y := jv_bI false) rfl ?_
                    refine jv_zret G hr dX4_trialFits_213 (Nat.le_of_ble_eq_true rfl) (Nat.le_of_ble_eq_true rfl) ?_
                    have hbi : (c_tb A B UA UB kd ty ko (some kA) none al) i = true := by
                      unfold c_tb; rw [hti]; simp [c26, c33, c34, hk7, hk32]
                    refine ⟨?_, hF⟩; rw [any_i.mpr ⟨i, by omega, hbi⟩]; rfl
              · refine jv_topR (y := (some (T (10 * b + k30)))) (by rw [hk32]; rfl) ?_
                obtain ⟨t31, ht31, nt31⟩ := rn_get hk32
                have lt31 := jv_ltGet ht31
                have k10t31 : k30 < 10 := by have := hB1.2.2.2.1; omega
                have Ot31 := (hB1.2.2.2.2.1 k30 t31 ht31).2
                have Vt31 := (hB1.2.2.2.2.1 k30 t31 ht31).1
                have Yt31 := hB1.2.1 k30 k10t31
                have bt31n := Ot31.1; have bt31k := Ot31.2.1
                refine jv_astore (q := 194) (lo' := [(9, .ref (T (10 * b + k30))), (8, .ref (T (10 * a + k5))), (7, .int (nI i)), (6, .int (jv_bI al)), (0, .ref (z 6 4)), (1, .ref (z 0 a)), (2, .ref (z 0 b)), (3, .ref (T (10 * a + kA))), (4, va_rf none)]) G dX4_trialFits_192 (by decide) rfl rfl ?_
                refine jv_iload (q := 196) G 3 dX4_trialFits_194 rfl rfl ?_
                refine jv_if_eqB (q := 199) (tgt := 212) G dX4_trialFits_196 (by decide) rfl (fun c35 => ?_) (fun c35 => ?_)
                · refine jv_iconst (q := 213) (v := nI 0) G dX4_trialFits_212 (by decide) rfl ?_
                  refine jv_topI (y := jv_bI false) rfl ?_
                  refine jv_zret G hr dX4_trialFits_213 (Nat.le_of_ble_eq_true rfl) (Nat.le_of_ble_eq_true rfl) ?_
                  have hbi : (c_tb A B UA UB kd ty ko (some kA) none al) i = true := by
                    unfold c_tb; rw [hti]; simp [c26, c35, hk7, hk32]
                  refine ⟨?_, hF⟩; rw [any_i.mpr ⟨i, by omega, hbi⟩]; rfl
                · refine jv_aload_n (q := 200) G 4 dX4_trialFits_199 rfl rfl rfl ?_
                  refine jv_getQ (q := 203) G dX4_trialFits_200 fl_X4_21 rfl lp1.1 lp1.2.2.1 rfl ?_
                  refine jv_aload_n (q := 204) G 6 dX4_trialFits_203 rfl rfl rfl ?_
                  refine jv_aload (q := 206) G 0 dX4_trialFits_204 rfl rfl ?_
                  refine jv_callV_I (q := 209) (h1 := h3) (As := [.ref (z 0 b), .ref (T (10 * b + k30))]) (rest := []) (ce' := 0) (sl' := 0) (r := nI (c_hn B UB kd ty (nI (mt_n ti)) ko (some k30))) G Z ml_X4_137 (k_runO (rn := (some k30)) hlt hB1 uB1 hu1 hkd hK (fun K q => by cases q; exact jv_ltGet ht31)) lp1.2.2.2.2 dX4_trialFits_206 rfl (by decide) (by decide) (by decide) (by decide) (Nat.le_of_ble_eq_true rfl) rfl rfl rfl rfl ?_
                  have hnB := hn_lt B UB kd ty (nI (mt_n ti)) ko (some k30)
                  refine jv_if_eqN (q := 212) (tgt := 214) G dX4_trialFits_209 (by decide) rfl (by omega) (fun c36 => ?_) (fun c36 => ?_)
                  · refine jv_iinc (q := 217) (lo' := [(7, .int (nI (i + 1))), (9, .ref (T (10 * b + k30))), (8, .ref (T (10 * a + k5))), (6, .int (jv_bI al)), (0, .ref (z 6 4)), (1, .ref (z 0 a)), (2, .ref (z 0 b)), (3, .ref (T (10 * a + kA))), (4, va_rf none)]) (v := nI (i + 1)) G 2 dX4_trialFits_214 rfl (nI_1 i) (by decide) rfl rfl ?_
                    refine jv_goto (q := 104) G dX4_trialFits_217 (by decide) ?_
                    refine jv_lo [0, 3, 4, 5, 6, 7, 8] (lo' := [(7, .int (nI (i + 1))), (6, .int (jv_bI al)), (0, .ref (z 6 4)), (1, .ref (z 0 a)), (2, .ref (z 0 b)), (3, .ref (T (10 * a + kA))), (4, va_rf none)]) rfl ?_
                    have hbi : (c_tb A B UA UB kd ty ko (some kA) none al) i = false := by
                      unfold c_tb; rw [hti]; simp [c26, c35, c36, hk7, hk32]
                    exact ih (i + 1) _ _ (by omega) (by rw [m_any, hm, hbi]; rfl) hF hu1
                  · refine jv_iconst (q := 213) (v := nI 0) G dX4_trialFits_212 (by decide) rfl ?_
                    refine jv_topI (y := jv_bI false) rfl ?_
                    refine jv_zret G hr dX4_trialFits_213 (Nat.le_of_ble_eq_true rfl) (Nat.le_of_ble_eq_true rfl) ?_
                    have hbi : (c_tb A B UA UB kd ty ko (some kA) none al) i = true := by
                      unfold c_tb; rw [hti]; simp [c26, c35, c36, hk7, hk32]
                    refine ⟨?_, hF⟩; rw [any_i.mpr ⟨i, by omega, hbi⟩]; rfl
            · refine jv_topR (y := (some (T (10 * b + k27)))) (by rw [hk29]; rfl) ?_
              obtain ⟨t28, ht28, nt28⟩ := m_cn_get hk29
              have lt28 := jv_ltGet ht28
              have k10t28 : k27 < 10 := by have := hB1.2.2.2.1; omega
              have Ot28 := (hB1.2.2.2.2.1 k27 t28 ht28).2
              have Vt28 := (hB1.2.2.2.2.1 k27 t28 ht28).1
              have Yt28 := hB1.2.1 k27 k10t28
              have bt28n := Ot28.1; have bt28k := Ot28.2.1
              refine jv_callV_R (q := 192) (h1 := h3) (As := [va_rf none, .int (jv_oN ko), .ref (T (10 * b + k27))]) (rest := []) (ce' := 0) (sl' := 0) (r := ((c_rn B UB none ko (nI (mt_n ti))).map (fun k => T (10 * b + k)))) G Z ml_X4_133 (k_selO (rc := nI (mt_n ti)) (ho := none) (ro := (some k27)) hlt hB1 uB1 hK (fun K q => by cases q) hk29) hB1.1.1 dX4_trialFits_189 rfl (by decide) (by decide) (by decide) (by decide) (Nat.le_of_ble_eq_true rfl) rfl rfl rfl rfl ?_
              rcases Option.eq_none_or_eq_some (c_rn B UB none ko (nI (mt_n ti))) with hk39 | ⟨k37, hk39⟩
              · refine jv_topR (y := none) (by rw [hk39]; rfl) ?_
                refine jv_astoreR (q := 194) (lo' := [(9, va_rf none), (8, .ref (T (10 * a + k5))), (7, .int (nI i)), (6, .int (jv_bI al)), (0, .ref (z 6 4)), (1, .ref (z 0 a)), (2, .ref (z 0 b)), (3, .ref (T (10 * a + kA))), (4, va_rf none)]) (x := none) G dX4_trialFits_192 (by decide) rfl rfl ?_
                refine jv_iload (q := 196) G 3 dX4_trialFits_194 rfl rfl ?_
                refine jv_if_eqB (q := 199) (tgt := 212) G dX4_trialFits_196 (by decide) rfl (fun c40 => ?_) (fun c40 => ?_)
                · refine jv_iconst (q := 213) (v := nI 0) G dX4_trialFits_212 (by decide) rfl ?_
                  refine jv_topI (y := jv_bI false) rfl ?_
                  refine jv_zret G hr dX4_trialFits_213 (Nat.le_of_ble_eq_true rfl) (Nat.le_of_ble_eq_true rfl) ?_
                  have hbi : (c_tb A B UA UB kd ty ko (some kA) none al) i = true := by
                    unfold c_tb; rw [hti]; simp [c26, c40, hk7, hk39]
                  refine ⟨?_, hF⟩; rw [any_i.mpr ⟨i, by omega, hbi⟩]; rfl
                · refine jv_aload_n (q := 200) G 4 dX4_trialFits_199 rfl rfl rfl ?_
                  refine jv_getQ (q := 203) G dX4_trialFits_200 fl_X4_21 rfl lp1.1 lp1.2.2.1 rfl ?_
                  refine jv_aload_n (q := 204) G 6 dX4_trialFits_203 rfl rfl rfl ?_
                  refine jv_aloadR (q := 206) G 0 dX4_trialFits_204 rfl rfl ?_
                  refine jv_callV_I (q := 209) (h1 := h3) (As := [.ref (z 0 b), va_rf none]) (rest := []) (ce' := 0) (sl' := 0) (r := nI (c_hn B UB kd ty (nI (mt_n ti)) ko none)) G Z ml_X4_137 (k_runO (rn := none) hlt hB1 uB1 hu1 hkd hK (fun K q => by cases q)) lp1.2.2.2.2 dX4_trialFits_206 rfl (by decide) (by decide) (by decide) (by decide) (Nat.le_of_ble_eq_true rfl) rfl rfl rfl rfl ?_
                  have hnB := hn_lt B UB kd ty (nI (mt_n ti)) ko none
                  refine jv_if_eqN (q := 212) (tgt := 214) G dX4_trialFits_209 (by decide) rfl (by omega) (fun c41 => ?_) (fun c41 => ?_)
                  · refine jv_iinc (q := 217) (lo' := [(7, .int (nI (i + 1))), (9, va_rf none), (8, .ref (T (10 * a + k5))), (6, .int (jv_bI al)), (0, .ref (z 6 4)), (1, .ref (z 0 a)), (2, .ref (z 0 b)), (3, .ref (T (10 * a + kA))), (4, va_rf none)]) (v := nI (i + 1)) G 2 dX4_trialFits_214 rfl (nI_1 i) (by decide) rfl rfl ?_
                    refine jv_goto (q := 104) G dX4_trialFits_217 (by decide) ?_
                    refine jv_lo [0, 3, 4, 5, 6, 7, 8] (lo' := [(7, .int (nI (i + 1))), (6, .int (jv_bI al)), (0, .ref (z 6 4)), (1, .ref (z 0 a)), (2, .ref (z 0 b)), (3, .ref (T (10 * a + kA))), (4, va_rf none)]) rfl ?_
                    have hbi : (c_tb A B UA UB kd ty ko (some kA) none al) i = false := by
                      unfold c_tb; rw [hti]; simp [c26, c40, c41, hk7, hk39]
                    exact ih (i + 1) _ _ (by omega) (by rw [m_any, hm, hbi]; rfl) hF hu1
                  · refine jv_iconst (q := 213) (v := nI 0) G dX4_trialFits_212 (by decide) rfl ?_
                    refine jv_topI (y := jv_bI false) rfl ?_
                    refine jv_zret G hr dX4_trialFits_213 (Nat.le_of_ble_eq_true rfl) (Nat.le_of_ble_eq_true rfl) ?_
                    have hbi : (c_tb A B UA UB kd ty ko (some kA) none al) i = true := by
                      unfold c_tb; rw [hti]; simp [c26, c40, c41, hk7, hk39]
                    refine ⟨?_, hF⟩; rw [any_i.mpr ⟨i, by omega, hbi⟩]; rfl
              · refine jv_topR (y := (some (T (10 * b + k37)))) (by rw [hk39]; rfl) ?_
                obtain ⟨t38, ht38, nt38⟩ := rn_get hk39
                have lt38 := jv_ltGet ht38
                have k10t38 : k37 < 10 := by have := hB1.2.2.2.1; omega
                have Ot38 := (hB1.2.2.2.2.1 k37 t38 ht38).2
                have Vt38 := (hB1.2.2.2.2.1 k37 t38 ht38).1
                have Yt38 := hB1.2.1 k37 k10t38
                have bt38n := Ot38.1; have bt38k := Ot38.2.1
                refine jv_astore (q := 194) (lo' := [(9, .ref (T (10 * b + k37))), (8, .ref (T (10 * a + k5))), (7, .int (nI i)), (6, .int (jv_bI al)), (0, .ref (z 6 4)), (1, .ref (z 0 a)), (2, .ref (z 0 b)), (3, .ref (T (10 * a + kA))), (4, va_rf none)]) G dX4_trialFits_192 (by decide) rfl rfl ?_
                refine jv_iload (q := 196) G 3 dX4_trialFits_194 rfl rfl ?_
                refine jv_if_eqB (q := 199) (tgt := 212) G dX4_trialFits_196 (by decide) rfl (fun c42 => ?_) (fun c42 => ?_)
                · refine jv_iconst (q := 213) (v := nI 0) G dX4_trialFits_212 (by decide) rfl ?_
                  refine jv_topI (y := jv_bI false) rfl ?_
                  refine jv_zret G hr dX4_trialFits_213 (Nat.le_of_ble_eq_true rfl) (Nat.le_of_ble_eq_true rfl) ?_
                  have hbi : (c_tb A B UA UB kd ty ko (some kA) none al) i = true := by
                    unfold c_tb; rw [hti]; simp [c26, c42, hk7, hk39]
                  refine ⟨?_, hF⟩; rw [any_i.mpr ⟨i, by omega, hbi⟩]; rfl
                · refine jv_aload_n (q := 200) G 4 dX4_trialFits_199 rfl rfl rfl ?_
                  refine jv_getQ (q := 203) G dX4_trialFits_200 fl_X4_21 rfl lp1.1 lp1.2.2.1 rfl ?_
                  refine jv_aload_n (q := 204) G 6 dX4_trialFits_203 rfl rfl rfl ?_
                  refine jv_aload (q := 206) G 0 dX4_trialFits_204 rfl rfl ?_
                  refine jv_callV_I (q := 209) (h1 := h3) (As := [.ref (z 0 b), .ref (T (10 * b + k37))]) (rest := []) (ce' := 0) (sl' := 0) (r := nI (c_hn B UB kd ty (nI (mt_n ti)) ko (some k37))) G Z ml_X4_137 (k_runO (rn := (some k37)) hlt hB1 uB1 hu1 hkd hK (fun K q => by cases q; exact jv_ltGet ht38)) lp1.2.2.2.2 dX4_trialFits_206 rfl (by decide) (by decide) (by decide) (by decide) (Nat.le_of_ble_eq_true rfl) rfl rfl rfl rfl ?_
                  have hnB := hn_lt B UB kd ty (nI (mt_n ti)) ko (some k37)
                  refine jv_if_eqN (q := 212) (tgt := 214) G dX4_trialFits_209 (by decide) rfl (by omega) (fun c43 => ?_) (fun c43 => ?_)
                  · refine jv_iinc (q := 217) (lo' := [(7, .int (nI (i + 1))), (9, .ref (T (10 * b + k37))), (8, .ref (T (10 * a + k5))), (6, .int (jv_bI al)), (0, .ref (z 6 4)), (1, .ref (z 0 a)), (2, .ref (z 0 b)), (3, .ref (T (10 * a + kA))), (4, va_rf none)]) (v := nI (i + 1)) G 2 dX4_trialFits_214 rfl (nI_1 i) (by decide) rfl rfl ?_
                    refine jv_goto (q := 104) G dX4_trialFits_217 (by decide) ?_
                    refine jv_lo [0, 3, 4, 5, 6, 7, 8] (lo' := [(7, .int (nI (i + 1))), (6, .int (jv_bI al)), (0, .ref (z 6 4)), (1, .ref (z 0 a)), (2, .ref (z 0 b)), (3, .ref (T (10 * a + kA))), (4, va_rf none)]) rfl ?_
                    have hbi : (c_tb A B UA UB kd ty ko (some kA) none al) i = false := by
                      unfold c_tb; rw [hti]; simp [c26, c42, c43, hk7, hk39]
                    exact ih (i + 1) _ _ (by omega) (by rw [m_any, hm, hbi]; rfl) hF hu1
                  · refine jv_iconst (q := 213) (v := nI 0) G dX4_trialFits_212 (by decide) rfl ?_
                    refine jv_topI (y := jv_bI false) rfl ?_
                    refine jv_zret G hr dX4_trialFits_213 (Nat.le_of_ble_eq_true rfl) (Nat.le_of_ble_eq_true rfl) ?_
                    have hbi : (c_tb A B UA UB kd ty ko (some kA) none al) i = true := by
                      unfold c_tb; rw [hti]; simp [c26, c42, c43, hk7, hk39]
                    refine ⟨?_, hF⟩; rw [any_i.mpr ⟨i, by omega, hbi⟩]; rfl
      · refine jv_topR (y := (some (T (10 * a + k2)))) (by rw [hk4]; rfl) ?_
        obtain ⟨t3, ht3, nt3⟩ := m_cn_get hk4
        have lt3 := jv_ltGet ht3
        have k10t3 : k2 < 10 := by have := hA1.2.2.2.1; omega
        have Ot3 := (hA1.2.2.2.2.1 k2 t3 ht3).2
        have Vt3 := (hA1.2.2.2.2.1 k2 t3 ht3).1
        have Yt3 := hA1.2.1 k2 k10t3
        have bt3n := Ot3.1; have bt3k := Ot3.2.1
        refine jv_callV_R (q := 153) (h1 := h3) (As := [.ref (T (10 * a + kA)), .int (jv_oN ko), .ref (T (10 * a + k2))]) (rest := []) (ce' := 0) (sl' := 0) (r := ((c_rn A UA (some kA) ko (nI (mt_n ti))).map (fun k => T (10 * a + k)))) G Z ml_X4_133 (k_selO (rc := nI (mt_n ti)) (ho := (some kA)) (ro := (some k2)) hlt hA1 uA1 hK (fun K q => by cases q; exact jv_ltGet htA) hk4) hA1.1.1 dX4_trialFits_150 rfl (by decide) (by decide) (by decide) (by decide) (Nat.le_of_ble_eq_true rfl) rfl rfl rfl rfl ?_
        rcases Option.eq_none_or_eq_some (c_rn A UA (some kA) ko (nI (mt_n ti))) with hk46 | ⟨k44, hk46⟩
        · refine jv_topR (y := none) (by rw [hk46]; rfl) ?_
          refine jv_astoreR (q := 155) (lo' := [(8, va_rf none), (7, .int (nI i)), (6, .int (jv_bI al)), (0, .ref (z 6 4)), (1, .ref (z 0 a)), (2, .ref (z 0 b)), (3, .ref (T (10 * a + kA))), (4, va_rf none)]) (x := none) G dX4_trialFits_153 (by decide) rfl rfl ?_
          refine jv_aload_n (q := 156) G 3 dX4_trialFits_155 rfl rfl rfl ?_
          refine jv_getQ (q := 159) G dX4_trialFits_156 fl_X4_21 rfl lp1.1 lp1.2.2.1 rfl ?_
          refine jv_aload_n (q := 160) G 4 dX4_trialFits_159 rfl rfl rfl ?_
          refine jv_aloadR (q := 162) G 0 dX4_trialFits_160 rfl rfl ?_
          refine jv_callV_I (q := 165) (h1 := h3) (As := [.ref (z 0 a), va_rf none]) (rest := []) (ce' := 0) (sl' := 0) (r := nI (c_hn A UA kd ty (nI (mt_n ti)) ko none)) G Z ml_X4_137 (k_runO (rn := none) hlt hA1 uA1 hu1 hkd hK (fun K q => by cases q)) lp1.2.2.2.2 dX4_trialFits_162 rfl (by decide) (by decide) (by decide) (by decide) (Nat.le_of_ble_eq_true rfl) rfl rfl rfl rfl ?_
          have hnA := hn_lt A UA kd ty (nI (mt_n ti)) ko none
          refine jv_if_neN (q := 168) (tgt := 214) G dX4_trialFits_165 (by decide) rfl (by omega) (fun c47 => ?_) (fun c47 => ?_)
          · refine jv_iinc (q := 217) (lo' := [(7, .int (nI (i + 1))), (8, va_rf none), (6, .int (jv_bI al)), (0, .ref (z 6 4)), (1, .ref (z 0 a)), (2, .ref (z 0 b)), (3, .ref (T (10 * a + kA))), (4, va_rf none)]) (v := nI (i + 1)) G 1 dX4_trialFits_214 rfl (nI_1 i) (by decide) rfl rfl ?_
            refine jv_goto (q := 104) G dX4_trialFits_217 (by decide) ?_
            refine jv_lo [0, 2, 3, 4, 5, 6, 7] (lo' := [(7, .int (nI (i + 1))), (6, .int (jv_bI al)), (0, .ref (z 6 4)), (1, .ref (z 0 a)), (2, .ref (z 0 b)), (3, .ref (T (10 * a + kA))), (4, va_rf none)]) rfl ?_
            have hbi : (c_tb A B UA UB kd ty ko (some kA) none al) i = false := by
              unfold c_tb; rw [hti]; simp [c47, hk46]
            exact ih (i + 1) _ _ (by omega) (by rw [m_any, hm, hbi]; rfl) hF hu1
          · refine jv_aload_n (q := 169) G 5 dX4_trialFits_168 rfl rfl rfl ?_
            refine jv_aloadR (q := 171) G 7 dX4_trialFits_169 rfl rfl ?_
            refine jv_aload_n (q := 172) G 3 dX4_trialFits_171 rfl rfl rfl ?_
            refine jv_getQ (q := 175) G dX4_trialFits_172 fl_X4_21 rfl lp1.1 lp1.2.2.1 rfl ?_
            refine jv_getI (q := 178) G dX4_trialFits_175 fl_X4_127 rfl lp1.2.2.2.2 hu1.2.2.2.1 rfl ?_
            refine jv_aload_n (q := 179) G 5 dX4_trialFits_178 rfl rfl rfl ?_
            refine jv_aload_n (q := 180) G 3 dX4_trialFits_179 rfl rfl rfl ?_
            refine jv_getQ (q := 183) G dX4_trialFits_180 fl_X4_21 rfl lp1.1 lp1.2.2.1 rfl ?_
            refine jv_getI (q := 186) G dX4_trialFits_183 fl_X4_124 rfl lp1.2.2.2.2 hu1.2.2.2.2.1 rfl ?_
            refine jv_callV_R (q := 189) (h1 := h3) (As := [.int (nI (mt_n ti))]) (rest := [.int (jv_oN ko), va_rf none, .ref (z 0 b)]) (ce' := 0) (sl' := 0) (r := ((m_cn B (nI (mt_n ti)) false).map (fun k => T (10 * b + k)))) G Z ml_X4_130 (k_classNamed hlt hB1) hB1.1.1 dX4_trialFits_186 rfl (by decide) (by decide) (by decide) (by decide) (Nat.le_of_ble_eq_true rfl) rfl rfl rfl rfl ?_
            rcases Option.eq_none_or_eq_some (m_cn B (nI (mt_n ti)) false) with hk50 | ⟨k48, hk50⟩
            · refine jv_topR (y := none) (by rw [hk50]; rfl) ?_
              refine jv_callV_R (q := 192) (h1 := h3) (As := [va_rf none, .int (jv_oN ko), va_rf none]) (rest := []) (ce' := 0) (sl' := 0) (r := ((c_rn B UB none ko (nI (mt_n ti))).map (fun k => T (10 * b + k)))) G Z ml_X4_133 (k_selO (rc := nI (mt_n ti)) (ho := none) (ro := none) hlt hB1 uB1 hK (fun K q => by cases q) hk50) hB1.1.1 dX4_trialFits_189 rfl (by decide) (by decide) (by decide) (by decide) (Nat.le_of_ble_eq_true rfl) rfl rfl rfl rfl ?_
              rcases Option.eq_none_or_eq_some (c_rn B UB none ko (nI (mt_n ti))) with hk53 | ⟨k51, hk53⟩
              · refine jv_topR (y := none) (by rw [hk53]; rfl) ?_
                refine jv_astoreR (q := 194) (lo' := [(9, va_rf none), (8, va_rf none), (7, .int (nI i)), (6, .int (jv_bI al)), (0, .ref (z 6 4)), (1, .ref (z 0 a)), (2, .ref (z 0 b)), (3, .ref (T (10 * a + kA))), (4, va_rf none)]) (x := none) G dX4_trialFits_192 (by decide) rfl rfl ?_
                refine jv_iload (q := 196) G 3 dX4_trialFits_194 rfl rfl ?_
                refine jv_if_eqB (q := 199) (tgt := 212) G dX4_trialFits_196 (by decide) rfl (fun c54 => ?_) (fun c54 => ?_)
                · refine jv_iconst (q := 213) (v := nI 0) G dX4_trialFits_212 (by decide) rfl ?_
                  refine jv_topI (y := jv_bI false) rfl ?_
                  refine jv_zret G hr dX4_trialFits_213 (Nat.le_of_ble_eq_true rfl) (Nat.le_of_ble_eq_true rfl) ?_
                  have hbi : (c_tb A B UA UB kd ty ko (some kA) none al) i = true := by
                    unfold c_tb; rw [hti]; simp [c47, c54, hk46, hk53]
                  refine ⟨?_, hF⟩; rw [any_i.mpr ⟨i, by omega, hbi⟩]; rfl
                · refine jv_aload_n (q := 200) G 4 dX4_trialFits_199 rfl rfl rfl ?_
                  refine jv_getQ (q := 203) G dX4_trialFits_200 fl_X4_21 rfl lp1.1 lp1.2.2.1 rfl ?_
                  refine jv_aload_n (q := 204) G 6 dX4_trialFits_203 rfl rfl rfl ?_
                  refine jv_aloadR (q := 206) G 0 dX4_trialFits_204 rfl rfl ?_
                  refine jv_callV_I (q := 209) (h1 := h3) (As := [.ref (z 0 b), va_rf none]) (rest := []) (ce' := 0) (sl' := 0) (r := nI (c_hn B UB kd ty (nI (mt_n ti)) ko none)) G Z ml_X4_137 (k_runO (rn := none) hlt hB1 uB1 hu1 hkd hK (fun K q => by cases q)) lp1.2.2.2.2 dX4_trialFits_206 rfl (by decide) (by decide) (by decide) (by decide) (Nat.le_of_ble_eq_true rfl) rfl rfl rfl rfl ?_
                  have hnB := hn_lt B UB kd ty (nI (mt_n ti)) ko none
                  refine jv_if_eqN (q := 212) (tgt := 214) G dX4_trialFits_209 (by decide) rfl (by omega) (fun c55 => ?_) (fun c55 => ?_)
                  · refine jv_iinc (q := 217) (lo' := [(7, .int (nI (i + 1))), (9, va_rf none), (8, va_rf none), (6, .int (jv_bI al)), (0, .ref (z 6 4)), (1, .ref (z 0 a)), (2, .ref (z 0 b)), (3, .ref (T (10 * a + kA))), (4, va_rf none)]) (v := nI (i + 1)) G 2 dX4_trialFits_214 rfl (nI_1 i) (by decide) rfl rfl ?_
                    refine jv_goto (q := 104) G dX4_trialFits_217 (by decide) ?_
                    refine jv_lo [0, 3, 4, 5, 6, 7, 8] (lo' := [(7, .int (nI (i + 1))), (6, .int (jv_bI al)), (0, .ref (z 6 4)), (1, .ref (z 0 a)), (2, .ref (z 0 b)), (3, .ref (T (10 * a + kA))), (4, va_rf none)]) rfl ?_
                    have hbi : (c_tb A B UA UB kd ty ko (some kA) none al) i = false := by
                      unfold c_tb; rw [hti]; simp [c47, c54, c55, hk46, hk53]
                    exact ih (i + 1) _ _ (by omega) (by rw [m_any, hm, hbi]; rfl) hF hu1
                  · refine jv_iconst (q := 213) (v := nI 0) G dX4_trialFits_212 (by decide) rfl ?_
                    refine jv_topI (y := jv_bI false) rfl ?_
                    refine jv_zret G hr dX4_trialFits_213 (Nat.le_of_ble_eq_true rfl) (Nat.le_of_ble_eq_true rfl) ?_
                    have hbi : (c_tb A B UA UB kd ty ko (some kA) none al) i = true := by
                      unfold c_tb; rw [hti]; simp [c47, c54, c55, hk46, hk53]
                    refine ⟨?_, hF⟩; rw [any_i.mpr ⟨i, by omega, hbi⟩]; rfl
              · refine jv_topR (y := (some (T (10 * b + k51)))) (by rw [hk53]; rfl) ?_
                obtain ⟨t52, ht52, nt52⟩ := rn_get hk53
                have lt52 := jv_ltGet ht52
                have k10t52 : k51 < 10 := by have := hB1.2.2.2.1; omega
                have Ot52 := (hB1.2.2.2.2.1 k51 t52 ht52).2
                have Vt52 := (hB1.2.2.2.2.1 k51 t52 ht52).1
                have Yt52 := hB1.2.1 k51 k10t52
                have bt52n := Ot52.1; have bt52k := Ot52.2.1
                refine jv_astore (q := 194) (lo' := [(9, .ref (T (10 * b + k51))), (8, va_rf none), (7, .int (nI i)), (6, .int (jv_bI al)), (0, .ref (z 6 4)), (1, .ref (z 0 a)), (2, .ref (z 0 b)), (3, .ref (T (10 * a + kA))), (4, va_rf none)]) G dX4_trialFits_192 (by decide) rfl rfl ?_
                refine jv_iload (q := 196) G 3 dX4_trialFits_194 rfl rfl ?_
                refine jv_if_eqB (q := 199) (tgt := 212) G dX4_trialFits_196 (by decide) rfl (fun c56 => ?_) (fun c56 => ?_)
                · refine jv_iconst (q := 213) (v := nI 0) G dX4_trialFits_212 (by decide) rfl ?_
                  refine jv_topI (y := jv_bI false) rfl ?_
                  refine jv_zret G hr dX4_trialFits_213 (Nat.le_of_ble_eq_true rfl) (Nat.le_of_ble_eq_true rfl) ?_
                  have hbi : (c_tb A B UA UB kd ty ko (some kA) none al) i = true := by
                    unfold c_tb; rw [hti]; simp [c47, c56, hk46, hk53]
                  refine ⟨?_, hF⟩; rw [any_i.mpr ⟨i, by omega, hbi⟩]; rfl
                · refine jv_aload_n (q := 200) G 4 dX4_trialFits_199 rfl rfl rfl ?_
                  refine jv_getQ (q := 203) G dX4_trialFits_200 fl_X4_21 rfl lp1.1 lp1.2.2.1 rfl ?_
                  refine jv_aload_n (q := 204) G 6 dX4_trialFits_203 rfl rfl rfl ?_
                  refine jv_aload (q := 206) G 0 dX4_trialFits_204 rfl rfl ?_
                  refine jv_callV_I (q := 209) (h1 := h3) (As := [.ref (z 0 b), .ref (T (10 * b + k51))]) (rest := []) (ce' := 0) (sl' := 0) (r := nI (c_hn B UB kd ty (nI (mt_n ti)) ko (some k51))) G Z ml_X4_137 (k_runO (rn := (some k51)) hlt hB1 uB1 hu1 hkd hK (fun K q => by cases q; exact jv_ltGet ht52)) lp1.2.2.2.2 dX4_trialFits_206 rfl (by decide) (by decide) (by decide) (by decide) (Nat.le_of_ble_eq_true rfl) rfl rfl rfl rfl ?_
                  have hnB := hn_lt B UB kd ty (nI (mt_n ti)) ko (some k51)
                  refine jv_if_eqN (q := 212) (tgt := 214) G dX4_trialFits_209 (by decide) rfl (by omega) (fun c57 => ?_) (fun c57 => ?_)
                  · refine jv_iinc (q := 217) (lo' := [(7, .int (nI (i + 1))), (9, .ref (T (10 * b + k51))), (8, va_rf none), (6, .int (jv_bI al)), (0, .ref (z 6 4)), (1, .ref (z 0 a)), (2, .ref (z 0 b)), (3, .ref (T (10 * a + kA))), (4, va_rf none)]) (v := nI (i + 1)) G 2 dX4_trialFits_214 rfl (nI_1 i) (by decide) rfl rfl ?_
                    refine jv_goto (q := 104) G dX4_trialFits_217 (by decide) ?_
                    refine jv_lo [0, 3, 4, 5, 6, 7, 8] (lo' := [(7, .int (nI (i + 1))), (6, .int (jv_bI al)), (0, .ref (z 6 4)), (1, .ref (z 0 a)), (2, .ref (z 0 b)), (3, .ref (T (10 * a + kA))), (4, va_rf none)]) rfl ?_
                    have hbi : (c_tb A B UA UB kd ty ko (some kA) none al) i = false := by
                      unfold c_tb; rw [hti]; simp [c47, c56, c57, hk46, hk53]
                    exact ih (i + 1) _ _ (by omega) (by rw [m_any, hm, hbi]; rfl) hF hu1
                  · refine jv_iconst (q := 213) (v := nI 0) G dX4_trialFits_212 (by decide) rfl ?_
                    refine jv_topI (y := jv_bI false) rfl ?_
                    refine jv_zret G hr dX4_trialFits_213 (Nat.le_of_ble_eq_true rfl) (Nat.le_of_ble_eq_true rfl) ?_
                    have hbi : (c_tb A B UA UB kd ty ko (some kA) none al) i = true := by
                      unfold c_tb; rw [hti]; simp [c47, c56, c57, hk46, hk53]
                    refine ⟨?_, hF⟩; rw [any_i.mpr ⟨i, by omega, hbi⟩]; rfl
            · refine jv_topR (y := (some (T (10 * b + k48)))) (by rw [hk50]; rfl) ?_
              obtain ⟨t49, ht49, nt49⟩ := m_cn_get hk50
              have lt49 := jv_ltGet ht49
              have k10t49 : k48 < 10 := by have := hB1.2.2.2.1; omega
              have Ot49 := (hB1.2.2.2.2.1 k48 t49 ht49).2
              have Vt49 := (hB1.2.2.2.2.1 k48 t49 ht49).1
              have Yt49 := hB1.2.1 k48 k10t49
              have bt49n := Ot49.1; have bt49k := Ot49.2.1
              refine jv_callV_R (q := 192) (h1 := h3) (As := [va_rf none, .int (jv_oN ko), .ref (T (10 * b + k48))]) (rest := []) (ce' := 0) (sl' := 0) (r := ((c_rn B UB none ko (nI (mt_n ti))).map (fun k => T (10 * b + k)))) G Z ml_X4_133 (k_selO (rc := nI (mt_n ti)) (ho := none) (ro := (some k48)) hlt hB1 uB1 hK (fun K q => by cases q) hk50) hB1.1.1 dX4_trialFits_189 rfl (by decide) (by decide) (by decide) (by decide) (Nat.le_of_ble_eq_true rfl) rfl rfl rfl rfl ?_
              rcases Option.eq_none_or_eq_some (c_rn B UB none ko (nI (mt_n ti))) with hk60 | ⟨k58, hk60⟩
              · refine jv_topR (y := none) (by rw [hk60]; rfl) ?_
                refine jv_astoreR (q := 194) (lo' := [(9, va_rf none), (8, va_rf none), (7, .int (nI i)), (6, .int (jv_bI al)), (0, .ref (z 6 4)), (1, .ref (z 0 a)), (2, .ref (z 0 b)), (3, .ref (T (10 * a + kA))), (4, va_rf none)]) (x := none) G dX4_trialFits_192 (by decide) rfl rfl ?_
                refine jv_iload (q := 196) G 3 dX4_trialFits_194 rfl rfl ?_
                refine jv_if_eqB (q := 199) (tgt := 212) G dX4_trialFits_196 (by decide) rfl (fun c61 => ?_) (fun c61 => ?_)
                · refine jv_iconst (q := 213) (v := nI 0) G dX4_trialFits_212 (by decide) rfl ?_
                  refine jv_topI (y := jv_bI false) rfl ?_
                  refine jv_zret G hr dX4_trialFits_213 (Nat.le_of_ble_eq_true rfl) (Nat.le_of_ble_eq_true rfl) ?_
                  have hbi : (c_tb A B UA UB kd ty ko (some kA) none al) i = true := by
                    unfold c_tb; rw [hti]; simp [c47, c61, hk46, hk60]
                  refine ⟨?_, hF⟩; rw [any_i.mpr ⟨i, by omega, hbi⟩]; rfl
                · refine jv_aload_n (q := 200) G 4 dX4_trialFits_199 rfl rfl rfl ?_
                  refine jv_getQ (q := 203) G dX4_trialFits_200 fl_X4_21 rfl lp1.1 lp1.2.2.1 rfl ?_
                  refine jv_aload_n (q := 204) G 6 dX4_trialFits_203 rfl rfl rfl ?_
                  refine jv_aloadR (q := 206) G 0 dX4_trialFits_204 rfl rfl ?_
                  refine jv_callV_I (q := 209) (h1 := h3) (As := [.ref (z 0 b), va_rf none]) (rest := []) (ce' := 0) (sl' := 0) (r := nI (c_hn B UB kd ty (nI (mt_n ti)) ko none)) G Z ml_X4_137 (k_runO (rn := none) hlt hB1 uB1 hu1 hkd hK (fun K q => by cases q)) lp1.2.2.2.2 dX4_trialFits_206 rfl (by decide) (by decide) (by decide) (by decide) (Nat.le_of_ble_eq_true rfl) rfl rfl rfl rfl ?_
                  have hnB := hn_lt B UB kd ty (nI (mt_n ti)) ko none
                  refine jv_if_eqN (q := 212) (tgt := 214) G dX4_trialFits_209 (by decide) rfl (by omega) (fun c62 => ?_) (fun c62 => ?_)
                  · refine jv_iinc (q := 217) (lo' := [(7, .int (nI (i + 1))), (9, va_rf none), (8, va_rf none), (6, .int (jv_bI al)), (0, .ref (z 6 4)), (1, .ref (z 0 a)), (2, .ref (z 0 b)), (3, .ref (T (10 * a + kA))), (4, va_rf none)]) (v := nI (i + 1)) G 2 dX4_trialFits_214 rfl (nI_1 i) (by decide) rfl rfl ?_
                    refine jv_goto (q := 104) G dX4_trialFits_217 (by decide) ?_
                    refine jv_lo [0, 3, 4, 5, 6, 7, 8] (lo' := [(7, .int (nI (i + 1))), (6, .int (jv_bI al)), (0, .ref (z 6 4)), (1, .ref (z 0 a)), (2, .ref (z 0 b)), (3, .ref (T (10 * a + kA))), (4, va_rf none)]) rfl ?_
                    have hbi : (c_tb A B UA UB kd ty ko (some kA) none al) i = false := by
                      unfold c_tb; rw [hti]; simp [c47, c61, c62, hk46, hk60]
                    exact ih (i + 1) _ _ (by omega) (by rw [m_any, hm, hbi]; rfl) hF hu1
                  · refine jv_iconst (q := 213) (v := nI 0) G dX4_trialFits_212 (by decide) rfl ?_
                    refine jv_topI (y := jv_bI false) rfl ?_
                    refine jv_zret G hr dX4_trialFits_213 (Nat.le_of_ble_eq_true rfl) (Nat.le_of_ble_eq_true rfl) ?_
                    have hbi : (c_tb A B UA UB kd ty ko (some kA) none al) i = true := by
                      unfold c_tb; rw [hti]; simp [c47, c61, c62, hk46, hk60]
                    refine ⟨?_, hF⟩; rw [any_i.mpr ⟨i, by omega, hbi⟩]; rfl
              · refine jv_topR (y := (some (T (10 * b + k58)))) (by rw [hk60]; rfl) ?_
                obtain ⟨t59, ht59, nt59⟩ := rn_get hk60
                have lt59 := jv_ltGet ht59
                have k10t59 : k58 < 10 := by have := hB1.2.2.2.1; omega
                have Ot59 := (hB1.2.2.2.2.1 k58 t59 ht59).2
                have Vt59 := (hB1.2.2.2.2.1 k58 t59 ht59).1
                have Yt59 := hB1.2.1 k58 k10t59
                have bt59n := Ot59.1; have bt59k := Ot59.2.1
                refine jv_astore (q := 194) (lo' := [(9, .ref (T (10 * b + k58))), (8, va_rf none), (7, .int (nI i)), (6, .int (jv_bI al)), (0, .ref (z 6 4)), (1, .ref (z 0 a)), (2, .ref (z 0 b)), (3, .ref (T (10 * a + kA))), (4, va_rf none)]) G dX4_trialFits_192 (by decide) rfl rfl ?_
                refine jv_iload (q := 196) G 3 dX4_trialFits_194 rfl rfl ?_
                refine jv_if_eqB (q := 199) (tgt := 212) G dX4_trialFits_196 (by decide) rfl (fun c63 => ?_) (fun c63 => ?_)
                · refine jv_iconst (q := 213) (v := nI 0) G dX4_trialFits_212 (by decide) rfl ?_
                  refine jv_topI (y := jv_bI false) rfl ?_
                  refine jv_zret G hr dX4_trialFits_213 (Nat.le_of_ble_eq_true rfl) (Nat.le_of_ble_eq_true rfl) ?_
                  have hbi : (c_tb A B UA UB kd ty ko (some kA) none al) i = true := by
                    unfold c_tb; rw [hti]; simp [c47, c63, hk46, hk60]
                  refine ⟨?_, hF⟩; rw [any_i.mpr ⟨i, by omega, hbi⟩]; rfl
                · refine jv_aload_n (q := 200) G 4 dX4_trialFits_199 rfl rfl rfl ?_
                  refine jv_getQ (q := 203) G dX4_trialFits_200 fl_X4_21 rfl lp1.1 lp1.2.2.1 rfl ?_
                  refine jv_aload_n (q := 204) G 6 dX4_trialFits_203 rfl rfl rfl ?_
                  refine jv_aload (q := 206) G 0 dX4_trialFits_204 rfl rfl ?_
                  refine jv_callV_I (q := 209) (h1 := h3) (As := [.ref (z 0 b), .ref (T (10 * b + k58))]) (rest := []) (ce' := 0) (sl' := 0) (r := nI (c_hn B UB kd ty (nI (mt_n ti)) ko (some k58))) G Z ml_X4_137 (k_runO (rn := (some k58)) hlt hB1 uB1 hu1 hkd hK (fun K q => by cases q; exact jv_ltGet ht59)) lp1.2.2.2.2 dX4_trialFits_206 rfl (by decide) (by decide) (by decide) (by decide) (Nat.le_of_ble_eq_true rfl) rfl rfl rfl rfl ?_
                  have hnB := hn_lt B UB kd ty (nI (mt_n ti)) ko (some k58)
                  refine jv_if_eqN (q := 212) (tgt := 214) G dX4_trialFits_209 (by decide) rfl (by omega) (fun c64 => ?_) (fun c64 => ?_)
                  · refine jv_iinc (q := 217) (lo' := [(7, .int (nI (i + 1))), (9, .ref (T (10 * b + k58))), (8, va_rf none), (6, .int (jv_bI al)), (0, .ref (z 6 4)), (1, .ref (z 0 a)), (2, .ref (z 0 b)), (3, .ref (T (10 * a + kA))), (4, va_rf none)]) (v := nI (i + 1)) G 2 dX4_trialFits_214 rfl (nI_1 i) (by decide) rfl rfl ?_
                    refine jv_goto (q := 104) G dX4_trialFits_217 (by decide) ?_
                    refine jv_lo [0, 3, 4, 5, 6, 7, 8] (lo' := [(7, .int (nI (i + 1))), (6, .int (jv_bI al)), (0, .ref (z 6 4)), (1, .ref (z 0 a)), (2, .ref (z 0 b)), (3, .ref (T (10 * a + kA))), (4, va_rf none)]) rfl ?_
                    have hbi : (c_tb A B UA UB kd ty ko (some kA) none al) i = false := by
                      unfold c_tb; rw [hti]; simp [c47, c63, c64, hk46, hk60]
                    exact ih (i + 1) _ _ (by omega) (by rw [m_any, hm, hbi]; rfl) hF hu1
                  · refine jv_iconst (q := 213) (v := nI 0) G dX4_trialFits_212 (by decide) rfl ?_
                    refine jv_topI (y := jv_bI false) rfl ?_
                    refine jv_zret G hr dX4_trialFits_213 (Nat.le_of_ble_eq_true rfl) (Nat.le_of_ble_eq_true rfl) ?_
                    have hbi : (c_tb A B UA UB kd ty ko (some kA) none al) i = true := by
                      unfold c_tb; rw [hti]; simp [c47, c63, c64, hk46, hk60]
                    refine ⟨?_, hF⟩; rw [any_i.mpr ⟨i, by omega, hbi⟩]; rfl
        · refine jv_topR (y := (some (T (10 * a + k44)))) (by rw [hk46]; rfl) ?_
          obtain ⟨t45, ht45, nt45⟩ := rn_get hk46
          have lt45 := jv_ltGet ht45
          have k10t45 : k44 < 10 := by have := hA1.2.2.2.1; omega
          have Ot45 := (hA1.2.2.2.2.1 k44 t45 ht45).2
          have Vt45 := (hA1.2.2.2.2.1 k44 t45 ht45).1
          have Yt45 := hA1.2.1 k44 k10t45
          have bt45n := Ot45.1; have bt45k := Ot45.2.1
          refine jv_astore (q := 155) (lo' := [(8, .ref (T (10 * a + k44))), (7, .int (nI i)), (6, .int (jv_bI al)), (0, .ref (z 6 4)), (1, .ref (z 0 a)), (2, .ref (z 0 b)), (3, .ref (T (10 * a + kA))), (4, va_rf none)]) G dX4_trialFits_153 (by decide) rfl rfl ?_
          refine jv_aload_n (q := 156) G 3 dX4_trialFits_155 rfl rfl rfl ?_
          refine jv_getQ (q := 159) G dX4_trialFits_156 fl_X4_21 rfl lp1.1 lp1.2.2.1 rfl ?_
          refine jv_aload_n (q := 160) G 4 dX4_trialFits_159 rfl rfl rfl ?_
          refine jv_aload (q := 162) G 0 dX4_trialFits_160 rfl rfl ?_
          refine jv_callV_I (q := 165) (h1 := h3) (As := [.ref (z 0 a), .ref (T (10 * a + k44))]) (rest := []) (ce' := 0) (sl' := 0) (r := nI (c_hn A UA kd ty (nI (mt_n ti)) ko (some k44))) G Z ml_X4_137 (k_runO (rn := (some k44)) hlt hA1 uA1 hu1 hkd hK (fun K q => by cases q; exact jv_ltGet ht45)) lp1.2.2.2.2 dX4_trialFits_162 rfl (by decide) (by decide) (by decide) (by decide) (Nat.le_of_ble_eq_true rfl) rfl rfl rfl rfl ?_
          have hnA := hn_lt A UA kd ty (nI (mt_n ti)) ko (some k44)
          refine jv_if_neN (q := 168) (tgt := 214) G dX4_trialFits_165 (by decide) rfl (by omega) (fun c65 => ?_) (fun c65 => ?_)
          · refine jv_iinc (q := 217) (lo' := [(7, .int (nI (i + 1))), (8, .ref (T (10 * a + k44))), (6, .int (jv_bI al)), (0, .ref (z 6 4)), (1, .ref (z 0 a)), (2, .ref (z 0 b)), (3, .ref (T (10 * a + kA))), (4, va_rf none)]) (v := nI (i + 1)) G 1 dX4_trialFits_214 rfl (nI_1 i) (by decide) rfl rfl ?_
            refine jv_goto (q := 104) G dX4_trialFits_217 (by decide) ?_
            refine jv_lo [0, 2, 3, 4, 5, 6, 7] (lo' := [(7, .int (nI (i + 1))), (6, .int (jv_bI al)), (0, .ref (z 6 4)), (1, .ref (z 0 a)), (2, .ref (z 0 b)), (3, .ref (T (10 * a + kA))), (4, va_rf none)]) rfl ?_
            have hbi : (c_tb A B UA UB kd ty ko (some kA) none al) i = false := by
              unfold c_tb; rw [hti]; simp [c65, hk46]
            exact ih (i + 1) _ _ (by omega) (by rw [m_any, hm, hbi]; rfl) hF hu1
          · refine jv_aload_n (q := 169) G 5 dX4_trialFits_168 rfl rfl rfl ?_
            refine jv_aloadR (q := 171) G 7 dX4_trialFits_169 rfl rfl ?_
            refine jv_aload_n (q := 172) G 3 dX4_trialFits_171 rfl rfl rfl ?_
            refine jv_getQ (q := 175) G dX4_trialFits_172 fl_X4_21 rfl lp1.1 lp1.2.2.1 rfl ?_
            refine jv_getI (q := 178) G dX4_trialFits_175 fl_X4_127 rfl lp1.2.2.2.2 hu1.2.2.2.1 rfl ?_
            refine jv_aload_n (q := 179) G 5 dX4_trialFits_178 rfl rfl rfl ?_
            refine jv_aload_n (q := 180) G 3 dX4_trialFits_179 rfl rfl rfl ?_
            refine jv_getQ (q := 183) G dX4_trialFits_180 fl_X4_21 rfl lp1.1 lp1.2.2.1 rfl ?_
            refine jv_getI (q := 186) G dX4_trialFits_183 fl_X4_124 rfl lp1.2.2.2.2 hu1.2.2.2.2.1 rfl ?_
            refine jv_callV_R (q := 189) (h1 := h3) (As := [.int (nI (mt_n ti))]) (rest := [.int (jv_oN ko), va_rf none, .ref (z 0 b)]) (ce' := 0) (sl' := 0) (r := ((m_cn B (nI (mt_n ti)) false).map (fun k => T (10 * b + k)))) G Z ml_X4_130 (k_classNamed hlt hB1) hB1.1.1 dX4_trialFits_186 rfl (by decide) (by decide) (by decide) (by decide) (Nat.le_of_ble_eq_true rfl) rfl rfl rfl rfl ?_
            rcases Option.eq_none_or_eq_some (m_cn B (nI (mt_n ti)) false) with hk68 | ⟨k66, hk68⟩
            · refine jv_topR (y := none) (by rw [hk68]; rfl) ?_
              refine jv_callV_R (q := 192) (h1 := h3) (As := [va_rf none, .int (jv_oN ko), va_rf none]) (rest := []) (ce' := 0) (sl' := 0) (r := ((c_rn B UB none ko (nI (mt_n ti))).map (fun k => T (10 * b + k)))) G Z ml_X4_133 (k_selO (rc := nI (mt_n ti)) (ho := none) (ro := none) hlt hB1 uB1 hK (fun K q => by cases q) hk68) hB1.1.1 dX4_trialFits_189 rfl (by decide) (by decide) (by decide) (by decide) (Nat.le_of_ble_eq_true rfl) rfl rfl rfl rfl ?_
              rcases Option.eq_none_or_eq_some (c_rn B UB none ko (nI (mt_n ti))) with hk71 | ⟨k69, hk71⟩
              · refine jv_topR (y := none) (by rw [hk71]; rfl) ?_
                refine jv_astoreR (q := 194) (lo' := [(9, va_rf none), (8, .ref (T (10 * a + k44))), (7, .int (nI i)), (6, .int (jv_bI al)), (0, .ref (z 6 4)), (1, .ref (z 0 a)), (2, .ref (z 0 b)), (3, .ref (T (10 * a + kA))), (4, va_rf none)]) (x := none) G dX4_trialFits_192 (by decide) rfl rfl ?_
                refine jv_iload (q := 196) G 3 dX4_trialFits_194 rfl rfl ?_
                refine jv_if_eqB (q := 199) (tgt := 212) G dX4_trialFits_196 (by decide) rfl (fun c72 => ?_) (fun c72 => ?_)
                · refine jv_iconst (q := 213) (v := nI 0) G dX4_trialFits_212 (by decide) rfl ?_
                  refine jv_topI (y := jv_bI false) rfl ?_
                  refine jv_zret G hr dX4_trialFits_213 (Nat.le_of_ble_eq_true rfl) (Nat.le_of_ble_eq_true rfl) ?_
                  have hbi : (c_tb A B UA UB kd ty ko (some kA) none al) i = true := by
                    unfold c_tb; rw [hti]; simp [c65, c72, hk46, hk71]
                  refine ⟨?_, hF⟩; rw [any_i.mpr ⟨i, by omega, hbi⟩]; rfl
                · refine jv_aload_n (q := 200) G 4 dX4_trialFits_199 rfl rfl rfl ?_
                  refine jv_getQ (q := 203) G dX4_trialFits_200 fl_X4_21 rfl lp1.1 lp1.2.2.1 rfl ?_
                  refine jv_aload_n (q := 204) G 6 dX4_trialFits_203 rfl rfl rfl ?_
                  refine jv_aloadR (q := 206) G 0 dX4_trialFits_204 rfl rfl ?_
                  refine jv_callV_I (q := 209) (h1 := h3) (As := [.ref (z 0 b), va_rf none]) (rest := []) (ce' := 0) (sl' := 0) (r := nI (c_hn B UB kd ty (nI (mt_n ti)) ko none)) G Z ml_X4_137 (k_runO (rn := none) hlt hB1 uB1 hu1 hkd hK (fun K q => by cases q)) lp1.2.2.2.2 dX4_trialFits_206 rfl (by decide) (by decide) (by decide) (by decide) (Nat.le_of_ble_eq_true rfl) rfl rfl rfl rfl ?_
                  have hnB := hn_lt B UB kd ty (nI (mt_n ti)) ko none
                  refine jv_if_eqN (q := 212) (tgt := 214) G dX4_trialFits_209 (by decide) rfl (by omega) (fun c73 => ?_) (fun c73 => ?_)
                  · refine jv_iinc (q := 217) (lo' := [(7, .int (nI (i + 1))), (9, va_rf none), (8, .ref (T (10 * a + k44))), (6, .int (jv_bI al)), (0, .ref (z 6 4)), (1, .ref (z 0 a)), (2, .ref (z 0 b)), (3, .ref (T (10 * a + kA))), (4, va_rf none)]) (v := nI (i + 1)) G 2 dX4_trialFits_214 rfl (nI_1 i) (by decide) rfl rfl ?_
                    refine jv_goto (q := 104) G dX4_trialFits_217 (by decide) ?_
                    refine jv_lo [0, 3, 4, 5, 6, 7, 8] (lo' := [(7, .int (nI (i + 1))), (6, .int (jv_bI al)), (0, .ref (z 6 4)), (1, .ref (z 0 a)), (2, .ref (z 0 b)), (3, .ref (T (10 * a + kA))), (4, va_rf none)]) rfl ?_
                    have hbi : (c_tb A B UA UB kd ty ko (some kA) none al) i = false := by
                      unfold c_tb; rw [hti]; simp [c65, c72, c73, hk46, hk71]
                    exact ih (i + 1) _ _ (by omega) (by rw [m_any, hm, hbi]; rfl) hF hu1
                  · refine jv_iconst (q := 213) (v := nI 0) G dX4_trialFits_212 (by decide) rfl ?_
                    refine jv_topI (y := jv_bI false) rfl ?_
                    refine jv_zret G hr dX4_trialFits_213 (Nat.le_of_ble_eq_true rfl) (Nat.le_of_ble_eq_true rfl) ?_
                    have hbi : (c_tb A B UA UB kd ty ko (some kA) none al) i = true := by
                      unfold c_tb; rw [hti]; simp [c65, c72, c73, hk46, hk71]
                    refine ⟨?_, hF⟩; rw [any_i.mpr ⟨i, by omega, hbi⟩]; rfl
              · refine jv_topR (y := (some (T (10 * b + k69)))) (by rw [hk71]; rfl) ?_
                obtain ⟨t70, ht70, nt70⟩ := rn_get hk71
                have lt70 := jv_ltGet ht70
                have k10t70 : k69 < 10 := by have := hB1.2.2.2.1; omega
                have Ot70 := (hB1.2.2.2.2.1 k69 t70 ht70).2
                have Vt70 := (hB1.2.2.2.2.1 k69 t70 ht70).1
                have Yt70 := hB1.2.1 k69 k10t70
                have bt70n := Ot70.1; have bt70k := Ot70.2.1
                refine jv_astore (q := 194) (lo' := [(9, .ref (T (10 * b + k69))), (8, .ref (T (10 * a + k44))), (7, .int (nI i)), (6, .int (jv_bI al)), (0, .ref (z 6 4)), (1, .ref (z 0 a)), (2, .ref (z 0 b)), (3, .ref (T (10 * a + kA))), (4, va_rf none)]) G dX4_trialFits_192 (by decide) rfl rfl ?_
                refine jv_iload (q := 196) G 3 dX4_trialFits_194 rfl rfl ?_
                refine jv_if_eqB (q := 199) (tgt := 212) G dX4_trialFits_196 (by decide) rfl (fun c74 => ?_) (fun c74 => ?_)
                · refine jv_iconst (q := 213) (v := nI 0) G dX4_trialFits_212 (by decide) rfl ?_
                  refine jv_topI (y := jv_bI false) rfl ?_
                  refine jv_zret G hr dX4_trialFits_213 (Nat.le_of_ble_eq_true rfl) (Nat.le_of_ble_eq_true rfl) ?_
                  have hbi : (c_tb A B UA UB kd ty ko (some kA) none al) i = true := by
                    unfold c_tb; rw [hti]; simp [c65, c74, hk46, hk71]
                  refine ⟨?_, hF⟩; rw [any_i.mpr ⟨i, by omega, hbi⟩]; rfl
                · refine jv_aload_n (q := 200) G 4 dX4_trialFits_199 rfl rfl rfl ?_
                  refine jv_getQ (q := 203) G dX4_trialFits_200 fl_X4_21 rfl lp1.1 lp1.2.2.1 rfl ?_
                  refine jv_aload_n (q := 204) G 6 dX4_trialFits_203 rfl rfl rfl ?_
                  refine jv_aload (q := 206) G 0 dX4_trialFits_204 rfl rfl ?_
                  refine jv_callV_I (q := 209) (h1 := h3) (As := [.ref (z 0 b), .ref (T (10 * b + k69))]) (rest := []) (ce' := 0) (sl' := 0) (r := nI (c_hn B UB kd ty (nI (mt_n ti)) ko (some k69))) G Z ml_X4_137 (k_runO (rn := (some k69)) hlt hB1 uB1 hu1 hkd hK (fun K q => by cases q; exact jv_ltGet ht70)) lp1.2.2.2.2 dX4_trialFits_206 rfl (by decide) (by decide) (by decide) (by decide) (Nat.le_of_ble_eq_true rfl) rfl rfl rfl rfl ?_
                  have hnB := hn_lt B UB kd ty (nI (mt_n ti)) ko (some k69)
                  refine jv_if_eqN (q := 212) (tgt := 214) G dX4_trialFits_209 (by decide) rfl (by omega) (fun c75 => ?_) (fun c75 => ?_)
                  · refine jv_iinc (q := 217) (lo' := [(7, .int (nI (i + 1))), (9, .ref (T (10 * b + k69))), (8, .ref (T (10 * a + k44))), (6, .int (jv_bI al)), (0, .ref (z 6 4)), (1, .ref (z 0 a)), (2, .ref (z 0 b)), (3, .ref (T (10 * a + kA))), (4, va_rf none)]) (v := nI (i + 1)) G 2 dX4_trialFits_214 rfl (nI_1 i) (by decide) rfl rfl ?_
                    refine jv_goto (q := 104) G dX4_trialFits_217 (by decide) ?_
                    refine jv_lo [0, 3, 4, 5, 6, 7, 8] (lo' := [(7, .int (nI (i + 1))), (6, .int (jv_bI al)), (0, .ref (z 6 4)), (1, .ref (z 0 a)), (2, .ref (z 0 b)), (3, .ref (T (10 * a + kA))), (4, va_rf none)]) rfl ?_
                    have hbi : (c_tb A B UA UB kd ty ko (some kA) none al) i = false := by
                      unfold c_tb; rw [hti]; simp [c65, c74, c75, hk46, hk71]
                    exact ih (i + 1) _ _ (by omega) (by rw [m_any, hm, hbi]; rfl) hF hu1
                  · refine jv_iconst (q := 213) (v := nI 0) G dX4_trialFits_212 (by decide) rfl ?_
                    refine jv_topI (y := jv_bI false) rfl ?_
                    refine jv_zret G hr dX4_trialFits_213 (Nat.le_of_ble_eq_true rfl) (Nat.le_of_ble_eq_true rfl) ?_
                    have hbi : (c_tb A B UA UB kd ty ko (some kA) none al) i = true := by
                      unfold c_tb; rw [hti]; simp [c65, c74, c75, hk46, hk71]
                    refine ⟨?_, hF⟩; rw [any_i.mpr ⟨i, by omega, hbi⟩]; rfl
            · refine jv_topR (y := (some (T (10 * b + k66)))) (by rw [hk68]; rfl) ?_
              obtain ⟨t67, ht67, nt67⟩ := m_cn_get hk68
              have lt67 := jv_ltGet ht67
              have k10t67 : k66 < 10 := by have := hB1.2.2.2.1; omega
              have Ot67 := (hB1.2.2.2.2.1 k66 t67 ht67).2
              have Vt67 := (hB1.2.2.2.2.1 k66 t67 ht67).1
              have Yt67 := hB1.2.1 k66 k10t67
              have bt67n := Ot67.1; have bt67k := Ot67.2.1
              refine jv_callV_R (q := 192) (h1 := h3) (As := [va_rf none, .int (jv_oN ko), .ref (T (10 * b + k66))]) (rest := []) (ce' := 0) (sl' := 0) (r := ((c_rn B UB none ko (nI (mt_n ti))).map (fun k => T (10 * b + k)))) G Z ml_X4_133 (k_selO (rc := nI (mt_n ti)) (ho := none) (ro := (some k66)) hlt hB1 uB1 hK (fun K q => by cases q) hk68) hB1.1.1 dX4_trialFits_189 rfl (by decide) (by decide) (by decide) (by decide) (Nat.le_of_ble_eq_true rfl) rfl rfl rfl rfl ?_
              rcases Option.eq_none_or_eq_some (c_rn B UB none ko (nI (mt_n ti))) with hk78 | ⟨k76, hk78⟩
              · refine jv_topR (y := none) (by rw [hk78]; rfl) ?_
                refine jv_astoreR (q := 194) (lo' := [(9, va_rf none), (8, .ref (T (10 * a + k44))), (7, .int (nI i)), (6, .int (jv_bI al)), (0, .ref (z 6 4)), (1, .ref (z 0 a)), (2, .ref (z 0 b)), (3, .ref (T (10 * a + kA))), (4, va_rf none)]) (x := none) G dX4_trialFits_192 (by decide) rfl rfl ?_
                refine jv_iload (q := 196) G 3 dX4_trialFits_194 rfl rfl ?_
                refine jv_if_eqB (q := 199) (tgt := 212) G dX4_trialFits_196 (by decide) rfl (fun c79 => ?_) (fun c79 => ?_)
                · refine jv_iconst (q := 213) (v := nI 0) G dX4_trialFits_212 (by decide) rfl ?_
                  refine jv_topI (y := jv_bI false) rfl ?_
                  refine jv_zret G hr dX4_trialFits_213 (Nat.le_of_ble_eq_true rfl) (Nat.le_of_ble_eq_true rfl) ?_
                  have hbi : (c_tb A B UA UB kd ty ko (some kA) none al) i = true := by
                    unfold c_tb; rw [hti]; simp [c65, c79, hk46, hk78]
                  refine ⟨?_, hF⟩; rw [any_i.mpr ⟨i, by omega, hbi⟩]; rfl
                · refine jv_aload_n (q := 200) G 4 dX4_trialFits_199 rfl rfl rfl ?_
                  refine jv_getQ (q := 203) G dX4_trialFits_200 fl_X4_21 rfl lp1.1 lp1.2.2.1 rfl ?_
                  refine jv_aload_n (q := 204) G 6 dX4_trialFits_203 rfl rfl rfl ?_
                  refine jv_aloadR (q := 206) G 0 dX4_trialFits_204 rfl rfl ?_
                  refine jv_callV_I (q := 209) (h1 := h3) (As := [.ref (z 0 b), va_rf none]) (rest := []) (ce' := 0) (sl' := 0) (r := nI (c_hn B UB kd ty (nI (mt_n ti)) ko none)) G Z ml_X4_137 (k_runO (rn := none) hlt hB1 uB1 hu1 hkd hK (fun K q => by cases q)) lp1.2.2.2.2 dX4_trialFits_206 rfl (by decide) (by decide) (by decide) (by decide) (Nat.le_of_ble_eq_true rfl) rfl rfl rfl rfl ?_
                  have hnB := hn_lt B UB kd ty (nI (mt_n ti)) ko none
                  refine jv_if_eqN (q := 212) (tgt := 214) G dX4_trialFits_209 (by decide) rfl (by omega) (fun c80 => ?_) (fun c80 => ?_)
                  · refine jv_iinc (q := 217) (lo' := [(7, .int (nI (i + 1))), (9, va_rf none), (8, .ref (T (10 * a + k44))), (6, .int (jv_bI al)), (0, .ref (z 6 4)), (1, .ref (z 0 a)), (2, .ref (z 0 b)), (3, .ref (T (10 * a + kA))), (4, va_rf none)]) (v := nI (i + 1)) G 2 dX4_trialFits_214 rfl (nI_1 i) (by decide) rfl rfl ?_
                    refine jv_goto (q := 104) G dX4_trialFits_217 (by decide) ?_
                    refine jv_lo [0, 3, 4, 5, 6, 7, 8] (lo' := [(7, .int (nI (i + 1))), (6, .int (jv_bI al)), (0, .ref (z 6 4)), (1, .ref (z 0 a)), (2, .ref (z 0 b)), (3, .ref (T (10 * a + kA))), (4, va_rf none)]) rfl ?_
                    have hbi : (c_tb A B UA UB kd ty ko (some kA) none al) i = false := by
                      unfold c_tb; rw [hti]; simp [c65, c79, c80, hk46, hk78]
                    exact ih (i + 1) _ _ (by omega) (by rw [m_any, hm, hbi]; rfl) hF hu1
                  · refine jv_iconst (q := 213) (v := nI 0) G dX4_trialFits_212 (by decide) rfl ?_
                    refine jv_topI (y := jv_bI false) rfl ?_
                    refine jv_zret G hr dX4_trialFits_213 (Nat.le_of_ble_eq_true rfl) (Nat.le_of_ble_eq_true rfl) ?_
                    have hbi : (c_tb A B UA UB kd ty ko (some kA) none al) i = true := by
                      unfold c_tb; rw [hti]; simp [c65, c79, c80, hk46, hk78]
                    refine ⟨?_, hF⟩; rw [any_i.mpr ⟨i, by omega, hbi⟩]; rfl
              · refine jv_topR (y := (some (T (10 * b + k76)))) (by rw [hk78]; rfl) ?_
                obtain ⟨t77, ht77, nt77⟩ := rn_get hk78
                have lt77 := jv_ltGet ht77
                have k10t77 : k76 < 10 := by have := hB1.2.2.2.1; omega
                have Ot77 := (hB1.2.2.2.2.1 k76 t77 ht77).2
                have Vt77 := (hB1.2.2.2.2.1 k76 t77 ht77).1
                have Yt77 := hB1.2.1 k76 k10t77
                have bt77n := Ot77.1; have bt77k := Ot77.2.1
                refine jv_astore (q := 194) (lo' := [(9, .ref (T (10 * b + k76))), (8, .ref (T (10 * a + k44))), (7, .int (nI i)), (6, .int (jv_bI al)), (0, .ref (z 6 4)), (1, .ref (z 0 a)), (2, .ref (z 0 b)), (3, .ref (T (10 * a + kA))), (4, va_rf none)]) G dX4_trialFits_192 (by decide) rfl rfl ?_
                refine jv_iload (q := 196) G 3 dX4_trialFits_194 rfl rfl ?_
                refine jv_if_eqB (q := 199) (tgt := 212) G dX4_trialFits_196 (by decide) rfl (fun c81 => ?_) (fun c81 => ?_)
                · refine jv_iconst (q := 213) (v := nI 0) G dX4_trialFits_212 (by decide) rfl ?_
                  refine jv_topI (y := jv_bI false) rfl ?_
                  refine jv_zret G hr dX4_trialFits_213 (Nat.le_of_ble_eq_true rfl) (Nat.le_of_ble_eq_true rfl) ?_
                  have hbi : (c_tb A B UA UB kd ty ko (some kA) none al) i = true := by
                    unfold c_tb; rw [hti]; simp [c65, c81, hk46, hk78]
                  refine ⟨?_, hF⟩; rw [any_i.mpr ⟨i, by omega, hbi⟩]; rfl
                · refine jv_aload_n (q := 200) G 4 dX4_trialFits_199 rfl rfl rfl ?_
                  refine jv_getQ (q := 203) G dX4_trialFits_200 fl_X4_21 rfl lp1.1 lp1.2.2.1 rfl ?_
                  refine jv_aload_n (q := 204) G 6 dX4_trialFits_203 rfl rfl rfl ?_
                  refine jv_aload (q := 206) G 0 dX4_trialFits_204 rfl rfl ?_
                  refine jv_callV_I (q := 209) (h1 := h3) (As := [.ref (z 0 b), .ref (T (10 * b + k76))]) (rest := []) (ce' := 0) (sl' := 0) (r := nI (c_hn B UB kd ty (nI (mt_n ti)) ko (some k76))) G Z ml_X4_137 (k_runO (rn := (some k76)) hlt hB1 uB1 hu1 hkd hK (fun K q => by cases q; exact jv_ltGet ht77)) lp1.2.2.2.2 dX4_trialFits_206 rfl (by decide) (by decide) (by decide) (by decide) (Nat.le_of_ble_eq_true rfl) rfl rfl rfl rfl ?_
                  have hnB := hn_lt B UB kd ty (nI (mt_n ti)) ko (some k76)
                  refine jv_if_eqN (q := 212) (tgt := 214) G dX4_trialFits_209 (by decide) rfl (by omega) (fun c82 => ?_) (fun c82 => ?_)
                  · refine jv_iinc (q := 217) (lo' := [(7, .int (nI (i + 1))), (9, .ref (T (10 * b + k76))), (8, .ref (T (10 * a + k44))), (6, .int (jv_bI al)), (0, .ref (z 6 4)), (1, .ref (z 0 a)), (2, .ref (z 0 b)), (3, .ref (T (10 * a + kA))), (4, va_rf none)]) (v := nI (i + 1)) G 2 dX4_trialFits_214 rfl (nI_1 i) (by decide) rfl rfl ?_
                    refine jv_goto (q := 104) G dX4_trialFits_217 (by decide) ?_
                    refine jv_lo [0, 3, 4, 5, 6, 7, 8] (lo' := [(7, .int (nI (i + 1))), (6, .int (jv_bI al)), (0, .ref (z 6 4)), (1, .ref (z 0 a)), (2, .ref (z 0 b)), (3, .ref (T (10 * a + kA))), (4, va_rf none)]) rfl ?_
                    have hbi : (c_tb A B UA UB kd ty ko (some kA) none al) i = false := by
                      unfold c_tb; rw [hti]; simp [c65, c81, c82, hk46, hk78]
                    exact ih (i + 1) _ _ (by omega) (by rw [m_any, hm, hbi]; rfl) hF hu1
                  · refine jv_iconst (q := 213) (v := nI 0) G dX4_trialFits_212 (by decide) rfl ?_
                    refine jv_topI (y := jv_bI false) rfl ?_
                    refine jv_zret G hr dX4_trialFits_213 (Nat.le_of_ble_eq_true rfl) (Nat.le_of_ble_eq_true rfl) ?_
                    have hbi : (c_tb A B UA UB kd ty ko (some kA) none al) i = true := by
                      unfold c_tb; rw [hti]; simp [c65, c81, c82, hk46, hk78]
                    refine ⟨?_, hF⟩; rw [any_i.mpr ⟨i, by omega, hbi⟩]; rfl
set_option maxHeartbeats 4000000 in
set_option maxRecDepth 100000 in
theorem k_trialFits10 {lA : Launch} (hlt : lA.stackTraces = false) {D : jv_D} {base : Nat} {z : Nat → Nat → Nat} {T : Nat → Nat} {N : Nat → Nat → Nat} {h : jv_H} {a b : Nat} {A B : List mT} {UA UB : Nat → List Nat} (hA : cv_E z T N h a A) (hB : cv_E z T N h b B) (uA : cv_Us z T h a A UA) (uB : cv_Us z T h b B UB) (lp : cl_p z h) (ha8 : a < 8) {kd : Nat} {ty rc cv ow : Int32} {ko : Option Nat} (hu : cv_use h (z 5 260) kd ty ko rc cv ow) (hkd : kd < 6) (hK : ∀ K, ko = some K → K < 64) {kA : Nat} {tA : mT} (htA : A[kA]? = some tA) : jv_Met lA D base yX4_trialFits (.code yX4_trialFits cX4_trialFits 10 (some .boolean)) 5 0 0 [.ref (z 6 4), .ref (z 0 a), .ref (z 0 b), .ref (T (10 * a + kA)), va_rf none] h (fun y h' => y = some (.int (jv_bI (c_tf A B UA UB kd ty rc ko (some kA) none))) ∧ cF (SP z) h h') jv_no := by
  refine jv_ofV (lo := [(0, .ref (z 6 4)), (1, .ref (z 0 a)), (2, .ref (z 0 b)), (3, .ref (T (10 * a + kA))), (4, va_rf none)]) hlt (by decide) (Nat.le_of_ble_eq_true rfl) rfl (fun E hEl hEd hEz Z G hr ht hnm => ?_)
  subst hEl; subst hEd; subst hEz
  have hF : cF (SP z) h h := cF.rf
  have hA1 := hA; have hB1 := hB; have uA1 := uA; have uB1 := uB; have lp1 := lp; have hu1 := hu
  refine jv_iconst (q := 1) (v := nI 0) G dX4_trialFits_0 (by decide) rfl ?_
  refine jv_topI (y := jv_bI false) rfl ?_
  refine jv_istore (q := 3) (lo' := [(5, .int (jv_bI false)), (0, .ref (z 6 4)), (1, .ref (z 0 a)), (2, .ref (z 0 b)), (3, .ref (T (10 * a + kA))), (4, va_rf none)]) G dX4_trialFits_1 (by decide) rfl rfl ?_
  refine jv_iconst (q := 4) (v := nI 1) G dX4_trialFits_3 (by decide) rfl ?_
  refine jv_topI (y := jv_bI true) rfl ?_
  refine jv_istore (q := 6) (lo' := [(6, .int (jv_bI true)), (5, .int (jv_bI false)), (0, .ref (z 6 4)), (1, .ref (z 0 a)), (2, .ref (z 0 b)), (3, .ref (T (10 * a + kA))), (4, va_rf none)]) G dX4_trialFits_4 (by decide) rfl rfl ?_
  refine jv_iconst (q := 7) (v := nI 0) G dX4_trialFits_6 (by decide) rfl ?_
  refine jv_istore (q := 9) (lo' := [(7, .int (nI 0)), (6, .int (jv_bI true)), (5, .int (jv_bI false)), (0, .ref (z 6 4)), (1, .ref (z 0 a)), (2, .ref (z 0 b)), (3, .ref (T (10 * a + kA))), (4, va_rf none)]) G dX4_trialFits_7 (by decide) rfl rfl ?_
  refine jv_lo [0, 2, 1, 3, 4, 5, 6, 7] (lo' := [(7, .int (nI 0)), (5, .int (jv_bI false)), (6, .int (jv_bI true)), (0, .ref (z 6 4)), (1, .ref (z 0 a)), (2, .ref (z 0 b)), (3, .ref (T (10 * a + kA))), (4, va_rf none)]) rfl ?_
  show jv_V E 10 h 0 0 (jv_Q E (fun y h' => y = some (.int (jv_bI (c_tf A B UA UB kd ty rc ko (some kA) none))) ∧ cF (SP z) h h') jv_no 0 0) 9 [(7, .int (nI 0)), (5, .int (jv_bI ((c_t1 A B UA UB kd ty rc ko (some kA) none 0).1))), (6, .int (jv_bI ((c_t1 A B UA UB kd ty rc ko (some kA) none 0).2))), (0, .ref (z 6 4)), (1, .ref (z 0 a)), (2, .ref (z 0 b)), (3, .ref (T (10 * a + kA))), (4, va_rf none)] []
  refine k_tf_l110 hA hB uA uB lp ha8 hu hkd hK htA hlt G Z (fun h2 hF hu1 => ?_) 5 0 _ (by omega) cF.rf hu
  have hA1 := s06_E (sp_S lp) hF hA; have hB1 := s06_E (sp_S lp) hF hB; have uA1 := s06_U (sp_S lp) hF hA uA; have uB1 := s06_U (sp_S lp) hF hB uB; have lp1 := sp_L hF lp
  refine jv_iload (q := 85) G 0 dX4_trialFits_83 rfl rfl ?_
  refine jv_if_eqB (q := 88) (tgt := 98) G dX4_trialFits_85 (by decide) rfl (fun c1 => ?_) (fun c1 => ?_)
  · refine jv_iload (q := 100) G 1 dX4_trialFits_98 rfl rfl ?_
    refine jv_zret G hr dX4_trialFits_100 (Nat.le_of_ble_eq_true rfl) (Nat.le_of_ble_eq_true rfl) ?_
    refine ⟨?_, hF⟩; unfold c_tf; rw [if_neg (fun q => by simp [c1] at q)]
  · refine jv_aload_n (q := 89) G 2 dX4_trialFits_88 rfl rfl rfl ?_
    refine jv_getQ (q := 92) G dX4_trialFits_89 fl_X4_21 rfl lp1.1 lp1.2.2.1 rfl ?_
    refine jv_callV_I (q := 95) (h1 := h2) (As := []) (rest := []) (ce' := 0) (sl' := 0) (r := jv_bI (m_rv kd)) G Z ml_X4_120 (k_hasReceiver hlt hu1 hkd) lp1.2.2.2.2 dX4_trialFits_92 rfl (by decide) (by decide) (by decide) (by decide) (Nat.le_of_ble_eq_true rfl) rfl rfl rfl rfl ?_
    refine jv_if_neB (q := 98) (tgt := 101) G dX4_trialFits_95 (by decide) rfl (fun c2 => ?_) (fun c2 => ?_)
    · refine jv_iconst (q := 102) (v := nI 0) G dX4_trialFits_101 (by decide) rfl ?_
      refine jv_istore (q := 104) (lo' := [(7, .int (nI 0)), (5, .int (jv_bI ((c_t1 A B UA UB kd ty rc ko (some kA) none 5).1))), (6, .int (jv_bI ((c_t1 A B UA UB kd ty rc ko (some kA) none 5).2))), (0, .ref (z 6 4)), (1, .ref (z 0 a)), (2, .ref (z 0 b)), (3, .ref (T (10 * a + kA))), (4, va_rf none)]) G dX4_trialFits_102 (by decide) rfl rfl ?_
      refine jv_lo [0, 2, 3, 4, 5, 6, 7] (lo' := [(7, .int (nI 0)), (6, .int (jv_bI ((c_t1 A B UA UB kd ty rc ko (some kA) none 5).2))), (0, .ref (z 6 4)), (1, .ref (z 0 a)), (2, .ref (z 0 b)), (3, .ref (T (10 * a + kA))), (4, va_rf none)]) rfl ?_
      have et : (c_tf A B UA UB kd ty rc ko (some kA) none) = !m_any (c_tb A B UA UB kd ty ko (some kA) none (c_t1 A B UA UB kd ty rc ko (some kA) none 5).2) A.length := by unfold c_tf; rw [if_pos ⟨c1, c2⟩]
      rw [et]
      exact k_tf_l210 hA hB uA uB lp ha8 hu hkd hK htA (al := (c_t1 A B UA UB kd ty rc ko (some kA) none 5).2) hlt G Z hr A.length 0 _ _ (by omega) rfl hF hu1
    · refine jv_iload (q := 100) G 1 dX4_trialFits_98 rfl rfl ?_
      refine jv_zret G hr dX4_trialFits_100 (Nat.le_of_ble_eq_true rfl) (Nat.le_of_ble_eq_true rfl) ?_
      refine ⟨?_, hF⟩; unfold c_tf; rw [if_neg (fun q => by simp [c1, c2] at q)]
set_option maxHeartbeats 4000000 in
set_option maxRecDepth 100000 in
theorem k_tf_l111 {E : jv_E} {Q : State → Prop} {z : Nat → Nat → Nat} {T : Nat → Nat} {N : Nat → Nat → Nat} {h : jv_H} {a b : Nat} {A B : List mT} {UA UB : Nat → List Nat} (hA : cv_E z T N h a A) (hB : cv_E z T N h b B) (uA : cv_Us z T h a A UA) (uB : cv_Us z T h b B UB) (lp : cl_p z h) (ha8 : a < 8) {kd : Nat} {ty rc cv ow : Int32} {ko : Option Nat} (hu : cv_use h (z 5 260) kd ty ko rc cv ow) (hkd : kd < 6) (hK : ∀ K, ko = some K → K < 64) {kA : Nat} {tA : mT} (htA : A[kA]? = some tA) {kB : Nat} {tB : mT} (htB : B[kB]? = some tB) (hlt : (jv_l E).stackTraces = false) (G : jv_C E cX4_trialFits RX4 10) (Z : jv_rm E = jv_room 5 0 0) (hk : ∀ h2, cF (SP z) h h2 → cv_use h2 (z 5 260) kd ty ko rc cv ow → jv_V E 10 h2 0 0 Q 83 [(5, .int (jv_bI ((c_t1 A B UA UB kd ty rc ko (some kA) (some kB) 5).1))), (6, .int (jv_bI ((c_t1 A B UA UB kd ty rc ko (some kA) (some kB) 5).2))), (0, .ref (z 6 4)), (1, .ref (z 0 a)), (2, .ref (z 0 b)), (3, .ref (T (10 * a + kA))), (4, .ref (T (10 * b + kB)))] []) : ∀ (n p : Nat) (h1 : jv_H), p + n = 5 → cF (SP z) h h1 → cv_use h1 (z 5 260) kd ty ko rc cv ow → jv_V E 10 h1 0 0 Q 9 [(7, .int (nI p)), (5, .int (jv_bI ((c_t1 A B UA UB kd ty rc ko (some kA) (some kB) p).1))), (6, .int (jv_bI ((c_t1 A B UA UB kd ty rc ko (some kA) (some kB) p).2))), (0, .ref (z 6 4)), (1, .ref (z 0 a)), (2, .ref (z 0 b)), (3, .ref (T (10 * a + kA))), (4, .ref (T (10 * b + kB)))] [] := by
  intro n
  induction n with
  | zero =>
    intro p h1 hn hF hu1
    have hA1 := s06_E (sp_S lp) hF hA; have hB1 := s06_E (sp_S lp) hF hB; have uA1 := s06_U (sp_S lp) hF hA uA; have uB1 := s06_U (sp_S lp) hF hB uB; have lp1 := sp_L hF lp
    refine jv_iload (q := 11) G 0 dX4_trialFits_9 rfl rfl ?_
    refine jv_iconst (q := 12) (v := nI 5) G dX4_trialFits_11 (by decide) rfl ?_
    refine jv_icmp_geN (q := 15) (tgt := 83) G dX4_trialFits_12 (by decide) rfl (by omega) (by omega) (fun c1 => ?_) (fun c1 => ?_)
    · refine jv_lo [1, 2, 3, 4, 5, 6, 7] (lo' := [(5, .int (jv_bI ((c_t1 A B UA UB kd ty rc ko (some kA) (some kB) p).1))), (6, .int (jv_bI ((c_t1 A B UA UB kd ty rc ko (some kA) (some kB) p).2))), (0, .ref (z 6 4)), (1, .ref (z 0 a)), (2, .ref (z 0 b)), (3, .ref (T (10 * a + kA))), (4, .ref (T (10 * b + kB)))]) rfl ?_
      rw [show p = 5 by omega]; exact hk _ hF hu1
    · omega
  | succ n ih =>
    intro p h1 hn hF hu1
    have hA1 := s06_E (sp_S lp) hF hA; have hB1 := s06_E (sp_S lp) hF hB; have uA1 := s06_U (sp_S lp) hF hA uA; have uB1 := s06_U (sp_S lp) hF hB uB; have lp1 := sp_L hF lp
    refine jv_iload (q := 11) G 0 dX4_trialFits_9 rfl rfl ?_
    refine jv_iconst (q := 12) (v := nI 5) G dX4_trialFits_11 (by decide) rfl ?_
    refine jv_icmp_geN (q := 15) (tgt := 83) G dX4_trialFits_12 (by decide) rfl (by omega) (by omega) (fun c1 => ?_) (fun c1 => ?_)
    · omega
    · refine jv_aload_n (q := 16) G 3 dX4_trialFits_15 rfl rfl rfl ?_
      refine jv_getQ (q := 19) G dX4_trialFits_16 fl_X4_12 rfl lp1.1 lp1.2.1 rfl ?_
      refine jv_aload_n (q := 20) G 4 dX4_trialFits_19 rfl rfl rfl ?_
      refine jv_getI (q := 23) G dX4_trialFits_20 fl_X4_110 rfl hA1.1.1 hA1.1.2.2.2.2.2.1 rfl ?_
      refine jv_iload (q := 25) G 0 dX4_trialFits_23 rfl rfl ?_
      refine jv_iconst (q := 26) (v := (-1)) G dX4_trialFits_25 (by decide) rfl ?_
      refine jv_callV (q := 29) (As := [.int (nI a), .int (nI p), .int (-1)]) (rest := []) G Z ml_X4_113 (k_cBegin (su := none) hlt lp1.2.2.2.1) lp1.2.2.2.1 dX4_trialFits_26 rfl (by decide) (by decide) (by decide) (by decide) (Nat.le_of_ble_eq_true rfl) rfl rfl (fun v3 h2 y4 => ?_) (fun _ _ hx => hx.elim)
      obtain ⟨rfl, hFb, hc1, h4b⟩ := y4
      show jv_V E 10 h2 0 0 Q 29 [(7, .int (nI p)), (5, .int (jv_bI ((c_t1 A B UA UB kd ty rc ko (some kA) (some kB) p).1))), (6, .int (jv_bI ((c_t1 A B UA UB kd ty rc ko (some kA) (some kB) p).2))), (0, .ref (z 6 4)), (1, .ref (z 0 a)), (2, .ref (z 0 b)), (3, .ref (T (10 * a + kA))), (4, .ref (T (10 * b + kB)))] []
      have hF := hF.tr (hFb.mono (S' := SP z) (fun _ q => Or.inl q))
      have hu1 := hu1.fr hFb (fun q => sp_n lp q)
      have hA1 := s06_E (sp_S lp) hF hA; have hB1 := s06_E (sp_S lp) hF hB; have uA1 := s06_U (sp_S lp) hF hA uA; have uB1 := s06_U (sp_S lp) hF hB uB; have lp1 := sp_L hF lp
      refine jv_aload_n (q := 30) G 3 dX4_trialFits_29 rfl rfl rfl ?_
      refine jv_getQ (q := 33) G dX4_trialFits_30 fl_X4_21 rfl lp1.1 lp1.2.2.1 rfl ?_
      refine jv_aload_n (q := 34) G 4 dX4_trialFits_33 rfl rfl rfl ?_
      refine jv_aload_n (q := 35) G 3 dX4_trialFits_34 rfl rfl rfl ?_
      refine jv_getQ (q := 38) G dX4_trialFits_35 fl_X4_12 rfl lp1.1 lp1.2.1 rfl ?_
      refine jv_aload_n (q := 39) G 6 dX4_trialFits_38 rfl rfl rfl ?_
      refine jv_callV_I (q := 42) (h1 := h2) (As := [.ref (z 0 a), .ref (z 3 12), .ref (T (10 * a + kA))]) (rest := []) (ce' := 0) (sl' := 0) (r := nI (c_hr A UA p none kd ty rc ko (some kA))) G Z ml_X4_116 (k_reachO (ho := (some kA)) hlt hA1 uA1 hu1 hkd hK hc1 (by omega) (fun K q => by cases q; exact jv_ltGet htA)) lp1.2.2.2.2 dX4_trialFits_39 rfl (by decide) (by decide) (by decide) (by decide) (Nat.le_of_ble_eq_true rfl) rfl rfl rfl rfl ?_
      have hbA := hr_lt A UA p none kd ty rc ko (some kA)
      refine jv_if_neN (q := 45) (tgt := 77) G dX4_trialFits_42 (by decide) rfl (by omega) (fun c5 => ?_) (fun c5 => ?_)
      · refine jv_iinc (q := 80) (lo' := [(7, .int (nI (p + 1))), (5, .int (jv_bI ((c_t1 A B UA UB kd ty rc ko (some kA) (some kB) p).1))), (6, .int (jv_bI ((c_t1 A B UA UB kd ty rc ko (some kA) (some kB) p).2))), (0, .ref (z 6 4)), (1, .ref (z 0 a)), (2, .ref (z 0 b)), (3, .ref (T (10 * a + kA))), (4, .ref (T (10 * b + kB)))]) (v := nI (p + 1)) G 0 dX4_trialFits_77 rfl (nI_1 p) (by decide) rfl rfl ?_
        refine jv_goto (q := 9) G dX4_trialFits_80 (by decide) ?_
        refine jv_lo [0, 1, 2, 3, 4, 5, 6, 7] (lo' := [(7, .int (nI (p + 1))), (5, .int (jv_bI ((c_t1 A B UA UB kd ty rc ko (some kA) (some kB) p).1))), (6, .int (jv_bI ((c_t1 A B UA UB kd ty rc ko (some kA) (some kB) p).2))), (0, .ref (z 6 4)), (1, .ref (z 0 a)), (2, .ref (z 0 b)), (3, .ref (T (10 * a + kA))), (4, .ref (T (10 * b + kB)))]) rfl ?_
        have et : (c_t1 A B UA UB kd ty rc ko (some kA) (some kB) (p + 1)) = (c_t1 A B UA UB kd ty rc ko (some kA) (some kB) p) := by rw [c_t1, if_neg c5]
        rw [← et]; exact ih (p + 1) _ (by omega) hF hu1
      · refine jv_iconst (q := 46) (v := nI 1) G dX4_trialFits_45 (by decide) rfl ?_
        refine jv_topI (y := jv_bI true) rfl ?_
        refine jv_istore (q := 48) (lo' := [(5, .int (jv_bI true)), (7, .int (nI p)), (6, .int (jv_bI ((c_t1 A B UA UB kd ty rc ko (some kA) (some kB) p).2))), (0, .ref (z 6 4)), (1, .ref (z 0 a)), (2, .ref (z 0 b)), (3, .ref (T (10 * a + kA))), (4, .ref (T (10 * b + kB)))]) G dX4_trialFits_46 (by decide) rfl rfl ?_
        refine jv_iload (q := 50) G 2 dX4_trialFits_48 rfl rfl ?_
        refine jv_if_eqB (q := 53) (tgt := 74) G dX4_trialFits_50 (by decide) rfl (fun c6 => ?_) (fun c6 => ?_)
        · refine jv_iconst (q := 75) (v := nI 0) G dX4_trialFits_74 (by decide) rfl ?_
          refine jv_topI (y := jv_bI false) rfl ?_
          refine jv_istore (q := 77) (lo' := [(6, .int (jv_bI false)), (5, .int (jv_bI true)), (7, .int (nI p)), (0, .ref (z 6 4)), (1, .ref (z 0 a)), (2, .ref (z 0 b)), (3, .ref (T (10 * a + kA))), (4, .ref (T (10 * b + kB)))]) G dX4_trialFits_75 (by decide) rfl rfl ?_
          refine jv_iinc (q := 80) (lo' := [(7, .int (nI (p + 1))), (6, .int (jv_bI false)), (5, .int (jv_bI true)), (0, .ref (z 6 4)), (1, .ref (z 0 a)), (2, .ref (z 0 b)), (3, .ref (T (10 * a + kA))), (4, .ref (T (10 * b + kB)))]) (v := nI (p + 1)) G 2 dX4_trialFits_77 rfl (nI_1 p) (by decide) rfl rfl ?_
          refine jv_goto (q := 9) G dX4_trialFits_80 (by decide) ?_
          refine jv_lo [0, 2, 1, 3, 4, 5, 6, 7] (lo' := [(7, .int (nI (p + 1))), (5, .int (jv_bI true)), (6, .int (jv_bI false)), (0, .ref (z 6 4)), (1, .ref (z 0 a)), (2, .ref (z 0 b)), (3, .ref (T (10 * a + kA))), (4, .ref (T (10 * b + kB)))]) rfl ?_
          have et : (c_t1 A B UA UB kd ty rc ko (some kA) (some kB) (p + 1)) = (true, false) := by rw [c_t1, if_pos c5]; simp [c6]
          have q := ih (p + 1) _ (by omega) hF hu1
          rw [et] at q; exact q
        · refine jv_aload_n (q := 54) G 3 dX4_trialFits_53 rfl rfl rfl ?_
          refine jv_getQ (q := 57) G dX4_trialFits_54 fl_X4_21 rfl lp1.1 lp1.2.2.1 rfl ?_
          refine jv_aload_n (q := 58) G 5 dX4_trialFits_57 rfl rfl rfl ?_
          refine jv_aload_n (q := 59) G 3 dX4_trialFits_58 rfl rfl rfl ?_
          refine jv_getQ (q := 62) G dX4_trialFits_59 fl_X4_12 rfl lp1.1 lp1.2.1 rfl ?_
          refine jv_aload (q := 64) G 7 dX4_trialFits_62 rfl rfl ?_
          refine jv_callV_I (q := 67) (h1 := h2) (As := [.ref (z 0 b), .ref (z 3 12), .ref (T (10 * b + kB))]) (rest := []) (ce' := 0) (sl' := 0) (r := nI (c_hr B UB p none kd ty rc ko (some kB))) G Z ml_X4_116 (k_reachO (ho := (some kB)) hlt hB1 uB1 hu1 hkd hK hc1 (by omega) (fun K q => by cases q; exact jv_ltGet htB)) lp1.2.2.2.2 dX4_trialFits_64 rfl (by decide) (by decide) (by decide) (by decide) (Nat.le_of_ble_eq_true rfl) rfl rfl rfl rfl ?_
          have hbB := hr_lt B UB p none kd ty rc ko (some kB)
          refine jv_if_neN (q := 70) (tgt := 74) G dX4_trialFits_67 (by decide) rfl (by omega) (fun c7 => ?_) (fun c7 => ?_)
          · refine jv_iconst (q := 75) (v := nI 0) G dX4_trialFits_74 (by decide) rfl ?_
            refine jv_topI (y := jv_bI false) rfl ?_
            refine jv_istore (q := 77) (lo' := [(6, .int (jv_bI false)), (5, .int (jv_bI true)), (7, .int (nI p)), (0, .ref (z 6 4)), (1, .ref (z 0 a)), (2, .ref (z 0 b)), (3, .ref (T (10 * a + kA))), (4, .ref (T (10 * b + kB)))]) G dX4_trialFits_75 (by decide) rfl rfl ?_
            refine jv_iinc (q := 80) (lo' := [(7, .int (nI (p + 1))), (6, .int (jv_bI false)), (5, .int (jv_bI true)), (0, .ref (z 6 4)), (1, .ref (z 0 a)), (2, .ref (z 0 b)), (3, .ref (T (10 * a + kA))), (4, .ref (T (10 * b + kB)))]) (v := nI (p + 1)) G 2 dX4_trialFits_77 rfl (nI_1 p) (by decide) rfl rfl ?_
            refine jv_goto (q := 9) G dX4_trialFits_80 (by decide) ?_
            refine jv_lo [0, 2, 1, 3, 4, 5, 6, 7] (lo' := [(7, .int (nI (p + 1))), (5, .int (jv_bI true)), (6, .int (jv_bI false)), (0, .ref (z 6 4)), (1, .ref (z 0 a)), (2, .ref (z 0 b)), (3, .ref (T (10 * a + kA))), (4, .ref (T (10 * b + kB)))]) rfl ?_
            have et : (c_t1 A B UA UB kd ty rc ko (some kA) (some kB) (p + 1)) = (true, false) := by rw [c_t1, if_pos c5]; simp [c6, c7]
            have q := ih (p + 1) _ (by omega) hF hu1
            rw [et] at q; exact q
          · refine jv_iconst (q := 71) (v := nI 1) G dX4_trialFits_70 (by decide) rfl ?_
            refine jv_goto (q := 75) G dX4_trialFits_71 (by decide) ?_
            refine jv_topI (y := jv_bI true) rfl ?_
            refine jv_istore (q := 77) (lo' := [(6, .int (jv_bI true)), (5, .int (jv_bI true)), (7, .int (nI p)), (0, .ref (z 6 4)), (1, .ref (z 0 a)), (2, .ref (z 0 b)), (3, .ref (T (10 * a + kA))), (4, .ref (T (10 * b + kB)))]) G dX4_trialFits_75 (by decide) rfl rfl ?_
            refine jv_iinc (q := 80) (lo' := [(7, .int (nI (p + 1))), (6, .int (jv_bI true)), (5, .int (jv_bI true)), (0, .ref (z 6 4)), (1, .ref (z 0 a)), (2, .ref (z 0 b)), (3, .ref (T (10 * a + kA))), (4, .ref (T (10 * b + kB)))]) (v := nI (p + 1)) G 2 dX4_trialFits_77 rfl (nI_1 p) (by decide) rfl rfl ?_
            refine jv_goto (q := 9) G dX4_trialFits_80 (by decide) ?_
            refine jv_lo [0, 2, 1, 3, 4, 5, 6, 7] (lo' := [(7, .int (nI (p + 1))), (5, .int (jv_bI true)), (6, .int (jv_bI true)), (0, .ref (z 6 4)), (1, .ref (z 0 a)), (2, .ref (z 0 b)), (3, .ref (T (10 * a + kA))), (4, .ref (T (10 * b + kB)))]) rfl ?_
            have et : (c_t1 A B UA UB kd ty rc ko (some kA) (some kB) (p + 1)) = (true, true) := by rw [c_t1, if_pos c5]; simp [c6, c7]
            have q := ih (p + 1) _ (by omega) hF hu1
            rw [et] at q; exact q
set_option maxHeartbeats 4000000 in
set_option maxRecDepth 100000 in
theorem k_tf_l211 {E : jv_E} {z : Nat → Nat → Nat} {T : Nat → Nat} {N : Nat → Nat → Nat} {h : jv_H} {a b : Nat} {A B : List mT} {UA UB : Nat → List Nat} (hA : cv_E z T N h a A) (hB : cv_E z T N h b B) (uA : cv_Us z T h a A UA) (uB : cv_Us z T h b B UB) (lp : cl_p z h) (ha8 : a < 8) {kd : Nat} {ty rc cv ow : Int32} {ko : Option Nat} (hu : cv_use h (z 5 260) kd ty ko rc cv ow) (hkd : kd < 6) (hK : ∀ K, ko = some K → K < 64) {kA : Nat} {tA : mT} (htA : A[kA]? = some tA) {kB : Nat} {tB : mT} (htB : B[kB]? = some tB) {al : Bool} (hlt : (jv_l E).stackTraces = false) (G : jv_C E cX4_trialFits RX4 10) (Z : jv_rm E = jv_room 5 0 0) (hr : (jv_mt E).sig.returnType = some .boolean) : ∀ (n i : Nat) (h1 : jv_H) (rc1 : Int32), i + n = A.length → m_any (c_tb A B UA UB kd ty ko (some kA) (some kB) al) i = false → cF (SP z) h h1 → cv_use h1 (z 5 260) kd ty ko rc1 cv ow → jv_V E 10 h1 0 0 (jv_Q E (fun y h' => y = some (.int (jv_bI (!m_any (c_tb A B UA UB kd ty ko (some kA) (some kB) al) A.length))) ∧ cF (SP z) h h') jv_no 0 0) 104 [(7, .int (nI i)), (6, .int (jv_bI al)), (0, .ref (z 6 4)), (1, .ref (z 0 a)), (2, .ref (z 0 b)), (3, .ref (T (10 * a + kA))), (4, .ref (T (10 * b + kB)))] [] := by
  intro n
  induction n with
  | zero =>
    intro i h1 rc1 hn hm hF hu1
    have hl10 := hA.2.2.2.1
    have hA1 := s06_E (sp_S lp) hF hA; have hB1 := s06_E (sp_S lp) hF hB; have uA1 := s06_U (sp_S lp) hF hA uA; have uB1 := s06_U (sp_S lp) hF hB uB; have lp1 := sp_L hF lp
    refine jv_iload (q := 106) G 0 dX4_trialFits_104 rfl rfl ?_
    refine jv_aload_n (q := 107) G 3 dX4_trialFits_106 rfl rfl rfl ?_
    refine jv_getI (q := 110) G dX4_trialFits_107 fl_X4_25 rfl hA1.1.1 hA1.2.2.1 rfl ?_
    refine jv_icmp_geN (q := 113) (tgt := 220) G dX4_trialFits_110 (by decide) rfl (by omega) (by omega) (fun c1 => ?_) (fun c1 => ?_)
    · refine jv_iconst (q := 221) (v := nI 1) G dX4_trialFits_220 (by decide) rfl ?_
      refine jv_topI (y := jv_bI true) rfl ?_
      refine jv_zret G hr dX4_trialFits_221 (Nat.le_of_ble_eq_true rfl) (Nat.le_of_ble_eq_true rfl) ?_
      refine ⟨?_, hF⟩; rw [show A.length = i by omega, hm]; rfl
    · omega
  | succ n ih =>
    intro i h1 rc1 hn hm hF hu1
    have hl10 := hA.2.2.2.1
    have hA1 := s06_E (sp_S lp) hF hA; have hB1 := s06_E (sp_S lp) hF hB; have uA1 := s06_U (sp_S lp) hF hA uA; have uB1 := s06_U (sp_S lp) hF hB uB; have lp1 := sp_L hF lp
    obtain ⟨ti, hti⟩ := jv_getLt (l := A) (k := i) (by omega)
    have lti := jv_ltGet hti
    have k10ti : i < 10 := by have := hA1.2.2.2.1; omega
    have Oti := (hA1.2.2.2.2.1 i ti hti).2
    have Vti := (hA1.2.2.2.2.1 i ti hti).1
    have Yti := hA1.2.1 i k10ti
    have btin := Oti.1; have btik := Oti.2.1
    refine jv_iload (q := 106) G 0 dX4_trialFits_104 rfl rfl ?_
    refine jv_aload_n (q := 107) G 3 dX4_trialFits_106 rfl rfl rfl ?_
    refine jv_getI (q := 110) G dX4_trialFits_107 fl_X4_25 rfl hA1.1.1 hA1.2.2.1 rfl ?_
    refine jv_icmp_geN (q := 113) (tgt := 220) G dX4_trialFits_110 (by decide) rfl (by omega) (by omega) (fun c1 => ?_) (fun c1 => ?_)
    · omega
    · refine jv_aload_n (q := 114) G 2 dX4_trialFits_113 rfl rfl rfl ?_
      refine jv_getQ (q := 117) G dX4_trialFits_114 fl_X4_21 rfl lp1.1 lp1.2.2.1 rfl ?_
      refine jv_aload_n (q := 118) G 3 dX4_trialFits_117 rfl rfl rfl ?_
      refine jv_getQ (q := 121) G dX4_trialFits_118 fl_X4_31 rfl hA1.1.1 hA1.1.2.1 rfl ?_
      refine jv_iload (q := 123) G 0 dX4_trialFits_121 rfl rfl ?_
      refine jv_aaldQ (q := 124) G dX4_trialFits_123 hA1.1.2.2.1 rfl (by omega) (by decide) (hA1.1.2.2.2.2.2.2 i k10ti) rfl ?_
      refine jv_getI (q := 127) G dX4_trialFits_124 fl_X4_43 rfl (hA1.2.1 i k10ti).1 (ct_0 (hA1.2.2.2.2.1 i ti hti).1) rfl ?_
      refine jv_putI (q := 130) G dX4_trialFits_127 fl_X4_124 rfl lp1.2.2.2.2 rfl ?_
      have hF := hF.wI (b := (z 5 260)) (Or.inr rfl) 3 (nI (mt_n ti))
      have hu1 := hu1.rc (rc' := nI (mt_n ti))
      generalize jv_wI h1 (z 5 260) 3 (nI (mt_n ti)) = h3 at hF hu1 ⊢
      have hA1 := s06_E (sp_S lp) hF hA; have hB1 := s06_E (sp_S lp) hF hB; have uA1 := s06_U (sp_S lp) hF hA uA; have uB1 := s06_U (sp_S lp) hF hB uB; have lp1 := sp_L hF lp
      refine jv_aload_n (q := 131) G 3 dX4_trialFits_130 rfl rfl rfl ?_
      refine jv_aload_n (q := 132) G 5 dX4_trialFits_131 rfl rfl rfl ?_
      refine jv_aload_n (q := 133) G 2 dX4_trialFits_132 rfl rfl rfl ?_
      refine jv_getQ (q := 136) G dX4_trialFits_133 fl_X4_21 rfl lp1.1 lp1.2.2.1 rfl ?_
      refine jv_getI (q := 139) G dX4_trialFits_136 fl_X4_127 rfl lp1.2.2.2.2 hu1.2.2.2.1 rfl ?_
      refine jv_aload_n (q := 140) G 3 dX4_trialFits_139 rfl rfl rfl ?_
      refine jv_aload_n (q := 141) G 2 dX4_trialFits_140 rfl rfl rfl ?_
      refine jv_getQ (q := 144) G dX4_trialFits_141 fl_X4_21 rfl lp1.1 lp1.2.2.1 rfl ?_
      refine jv_getI (q := 147) G dX4_trialFits_144 fl_X4_124 rfl lp1.2.2.2.2 hu1.2.2.2.2.1 rfl ?_
      refine jv_callV_R (q := 150) (h1 := h3) (As := [.int (nI (mt_n ti))]) (rest := [.int (jv_oN ko), .ref (T (10 * a + kA)), .ref (z 0 a)]) (ce' := 0) (sl' := 0) (r := ((m_cn A (nI (mt_n ti)) false).map (fun k => T (10 * a + k)))) G Z ml_X4_130 (k_classNamed hlt hA1) hA1.1.1 dX4_trialFits_147 rfl (by decide) (by decide) (by decide) (by decide) (Nat.le_of_ble_eq_true rfl) rfl rfl rfl rfl ?_
      rcases Option.eq_none_or_eq_some (m_cn A (nI (mt_n ti)) false) with hk4 | ⟨k2, hk4⟩
      · refine jv_topR (y := none) (by rw [hk4]; rfl) ?_
        refine jv_callV_R (q := 153) (h1 := h3) (As := [.ref (T (10 * a + kA)), .int (jv_oN ko), va_rf none]) (rest := []) (ce' := 0) (sl' := 0) (r := ((c_rn A UA (some kA) ko (nI (mt_n ti))).map (fun k => T (10 * a + k)))) G Z ml_X4_133 (k_selO (rc := nI (mt_n ti)) (ho := (some kA)) (ro := none) hlt hA1 uA1 hK (fun K q => by cases q; exact jv_ltGet htA) hk4) hA1.1.1 dX4_trialFits_150 rfl (by decide) (by decide) (by decide) (by decide) (Nat.le_of_ble_eq_true rfl) rfl rfl rfl rfl ?_
        rcases Option.eq_none_or_eq_some (c_rn A UA (some kA) ko (nI (mt_n ti))) with hk7 | ⟨k5, hk7⟩
        · refine jv_topR (y := none) (by rw [hk7]; rfl) ?_
          refine jv_astoreR (q := 155) (lo' := [(8, va_rf none), (7, .int (nI i)), (6, .int (jv_bI al)), (0, .ref (z 6 4)), (1, .ref (z 0 a)), (2, .ref (z 0 b)), (3, .ref (T (10 * a + kA))), (4, .ref (T (10 * b + kB)))]) (x := none) G dX4_trialFits_153 (by decide) rfl rfl ?_
          refine jv_aload_n (q := 156) G 3 dX4_trialFits_155 rfl rfl rfl ?_
          refine jv_getQ (q := 159) G dX4_trialFits_156 fl_X4_21 rfl lp1.1 lp1.2.2.1 rfl ?_
          refine jv_aload_n (q := 160) G 4 dX4_trialFits_159 rfl rfl rfl ?_
          refine jv_aloadR (q := 162) G 0 dX4_trialFits_160 rfl rfl ?_
          refine jv_callV_I (q := 165) (h1 := h3) (As := [.ref (z 0 a), va_rf none]) (rest := []) (ce' := 0) (sl' := 0) (r := nI (c_hn A UA kd ty (nI (mt_n ti)) ko none)) G Z ml_X4_137 (k_runO (rn := none) hlt hA1 uA1 hu1 hkd hK (fun K q => by cases q)) lp1.2.2.2.2 dX4_trialFits_162 rfl (by decide) (by decide) (by decide) (by decide) (Nat.le_of_ble_eq_true rfl) rfl rfl rfl rfl ?_
          have hnA := hn_lt A UA kd ty (nI (mt_n ti)) ko none
          refine jv_if_neN (q := 168) (tgt := 214) G dX4_trialFits_165 (by decide) rfl (by omega) (fun c8 => ?_) (fun c8 => ?_)
          · refine jv_iinc (q := 217) (lo' := [(7, .int (nI (i + 1))), (8, va_rf none), (6, .int (jv_bI al)), (0, .ref (z 6 4)), (1, .ref (z 0 a)), (2, .ref (z 0 b)), (3, .ref (T (10 * a + kA))), (4, .ref (T (10 * b + kB)))]) (v := nI (i + 1)) G 1 dX4_trialFits_214 rfl (nI_1 i) (by decide) rfl rfl ?_
            refine jv_goto (q := 104) G dX4_trialFits_217 (by decide) ?_
            refine jv_lo [0, 2, 3, 4, 5, 6, 7] (lo' := [(7, .int (nI (i + 1))), (6, .int (jv_bI al)), (0, .ref (z 6 4)), (1, .ref (z 0 a)), (2, .ref (z 0 b)), (3, .ref (T (10 * a + kA))), (4, .ref (T (10 * b + kB)))]) rfl ?_
            have hbi : (c_tb A B UA UB kd ty ko (some kA) (some kB) al) i = false := by
              unfold c_tb; rw [hti]; simp [c8, hk7]
            exact ih (i + 1) _ _ (by omega) (by rw [m_any, hm, hbi]; rfl) hF hu1
          · refine jv_aload_n (q := 169) G 5 dX4_trialFits_168 rfl rfl rfl ?_
            refine jv_aload (q := 171) G 7 dX4_trialFits_169 rfl rfl ?_
            refine jv_aload_n (q := 172) G 3 dX4_trialFits_171 rfl rfl rfl ?_
            refine jv_getQ (q := 175) G dX4_trialFits_172 fl_X4_21 rfl lp1.1 lp1.2.2.1 rfl ?_
            refine jv_getI (q := 178) G dX4_trialFits_175 fl_X4_127 rfl lp1.2.2.2.2 hu1.2.2.2.1 rfl ?_
            refine jv_aload_n (q := 179) G 5 dX4_trialFits_178 rfl rfl rfl ?_
            refine jv_aload_n (q := 180) G 3 dX4_trialFits_179 rfl rfl rfl ?_
            refine jv_getQ (q := 183) G dX4_trialFits_180 fl_X4_21 rfl lp1.1 lp1.2.2.1 rfl ?_
            refine jv_getI (q := 186) G dX4_trialFits_183 fl_X4_124 rfl lp1.2.2.2.2 hu1.2.2.2.2.1 rfl ?_
            refine jv_callV_R (q := 189) (h1 := h3) (As := [.int (nI (mt_n ti))]) (rest := [.int (jv_oN ko), .ref (T (10 * b + kB)), .ref (z 0 b)]) (ce' := 0) (sl' := 0) (r := ((m_cn B (nI (mt_n ti)) false).map (fun k => T (10 * b + k)))) G Z ml_X4_130 (k_classNamed hlt hB1) hB1.1.1 dX4_trialFits_186 rfl (by decide) (by decide) (by decide) (by decide) (Nat.le_of_ble_eq_true rfl) rfl rfl rfl rfl ?_
            rcases Option.eq_none_or_eq_some (m_cn B (nI (mt_n ti)) false) with hk11 | ⟨k9, hk11⟩
            · refine jv_topR (y := none) (by rw [hk11]; rfl) ?_
              refine jv_callV_R (q := 192) (h1 := h3) (As := [.ref (T (10 * b + kB)), .int (jv_oN ko), va_rf none]) (rest := []) (ce' := 0) (sl' := 0) (r := ((c_rn B UB (some kB) ko (nI (mt_n ti))).map (fun k => T (10 * b + k)))) G Z ml_X4_133 (k_selO (rc := nI (mt_n ti)) (ho := (some kB)) (ro := none) hlt hB1 uB1 hK (fun K q => by cases q; exact jv_ltGet htB) hk11) hB1.1.1 dX4_trialFits_189 rfl (by decide) (by decide) (by decide) (by decide) (Nat.le_of_ble_eq_true rfl) rfl rfl rfl rfl ?_
              rcases Option.eq_none_or_eq_some (c_rn B UB (some kB) ko (nI (mt_n ti))) with hk14 | ⟨k12, hk14⟩
              · refine jv_topR (y := none) (by rw [hk14]; rfl) ?_
                refine jv_astoreR (q := 194) (lo' := [(9, va_rf none), (8, va_rf none), (7, .int (nI i)), (6, .int (jv_bI al)), (0, .ref (z 6 4)), (1, .ref (z 0 a)), (2, .ref (z 0 b)), (3, .ref (T (10 * a + kA))), (4, .ref (T (10 * b + kB)))]) (x := none) G dX4_trialFits_192 (by decide) rfl rfl ?_
                refine jv_iload (q := 196) G 3 dX4_trialFits_194 rfl rfl ?_
                refine jv_if_eqB (q := 199) (tgt := 212) G dX4_trialFits_196 (by decide) rfl (fun c15 => ?_) (fun c15 => ?_)
                · refine jv_iconst (q := 213) (v := nI 0) G dX4_trialFits_212 (by decide) rfl ?_
                  refine jv_topI (y := jv_bI false) rfl ?_
                  refine jv_zret G hr dX4_trialFits_213 (Nat.le_of_ble_eq_true rfl) (Nat.le_of_ble_eq_true rfl) ?_
                  have hbi : (c_tb A B UA UB kd ty ko (some kA) (some kB) al) i = true := by
                    unfold c_tb; rw [hti]; simp [c8, c15, hk7, hk14]
                  refine ⟨?_, hF⟩; rw [any_i.mpr ⟨i, by omega, hbi⟩]; rfl
                · refine jv_aload_n (q := 200) G 4 dX4_trialFits_199 rfl rfl rfl ?_
                  refine jv_getQ (q := 203) G dX4_trialFits_200 fl_X4_21 rfl lp1.1 lp1.2.2.1 rfl ?_
                  refine jv_aload_n (q := 204) G 6 dX4_trialFits_203 rfl rfl rfl ?_
                  refine jv_aloadR (q := 206) G 0 dX4_trialFits_204 rfl rfl ?_
                  refine jv_callV_I (q := 209) (h1 := h3) (As := [.ref (z 0 b), va_rf none]) (rest := []) (ce' := 0) (sl' := 0) (r := nI (c_hn B UB kd ty (nI (mt_n ti)) ko none)) G Z ml_X4_137 (k_runO (rn := none) hlt hB1 uB1 hu1 hkd hK (fun K q => by cases q)) lp1.2.2.2.2 dX4_trialFits_206 rfl (by decide) (by decide) (by decide) (by decide) (Nat.le_of_ble_eq_true rfl) rfl rfl rfl rfl ?_
                  have hnB := hn_lt B UB kd ty (nI (mt_n ti)) ko none
                  refine jv_if_eqN (q := 212) (tgt := 214) G dX4_trialFits_209 (by decide) rfl (by omega) (fun c16 => ?_) (fun c16 => ?_)
                  · refine jv_iinc (q := 217) (lo' := [(7, .int (nI (i + 1))), (9, va_rf none), (8, va_rf none), (6, .int (jv_bI al)), (0, .ref (z 6 4)), (1, .ref (z 0 a)), (2, .ref (z 0 b)), (3, .ref (T (10 * a + kA))), (4, .ref (T (10 * b + kB)))]) (v := nI (i + 1)) G 2 dX4_trialFits_214 rfl (nI_1 i) (by decide) rfl rfl ?_
                    refine jv_goto (q := 104) G dX4_trialFits_217 (by decide) ?_
                    refine jv_lo [0, 3, 4, 5, 6, 7, 8] (lo' := [(7, .int (nI (i + 1))), (6, .int (jv_bI al)), (0, .ref (z 6 4)), (1, .ref (z 0 a)), (2, .ref (z 0 b)), (3, .ref (T (10 * a + kA))), (4, .ref (T (10 * b + kB)))]) rfl ?_
                    have hbi : (c_tb A B UA UB kd ty ko (some kA) (some kB) al) i = false := by
                      unfold c_tb; rw [hti]; simp [c8, c15, c16, hk7, hk14]
                    exact ih (i + 1) _ _ (by omega) (by rw [m_any, hm, hbi]; rfl) hF hu1
                  · refine jv_iconst (q := 213) (v := nI 0) G dX4_trialFits_212 (by decide) rfl ?_
                    refine jv_topI (y := jv_bI false) rfl ?_
                    refine jv_zret G hr dX4_trialFits_213 (Nat.le_of_ble_eq_true rfl) (Nat.le_of_ble_eq_true rfl) ?_
                    have hbi : (c_tb A B UA UB kd ty ko (some kA) (some kB) al) i = true := by
                      unfold c_tb; rw [hti]; simp [c8, c15, c16, hk7, hk14]
                    refine ⟨?_, hF⟩; rw [any_i.mpr ⟨i, by omega, hbi⟩]; rfl
              · refine jv_topR (y := (some (T (10 * b + k12)))) (by rw [hk14]; rfl) ?_
                obtain ⟨t13, ht13, nt13⟩ := rn_get hk14
                have lt13 := jv_ltGet ht13
                have k10t13 : k12 < 10 := by have := hB1.2.2.2.1; omega
                have Ot13 := (hB1.2.2.2.2.1 k12 t13 ht13).2
                have Vt13 := (hB1.2.2.2.2.1 k12 t13 ht13).1
                have Yt13 := hB1.2.1 k12 k10t13
                have bt13n := Ot13.1; have bt13k := Ot13.2.1
                refine jv_astore (q := 194) (lo' := [(9, .ref (T (10 * b + k12))), (8, va_rf none), (7, .int (nI i)), (6, .int (jv_bI al)), (0, .ref (z 6 4)), (1, .ref (z 0 a)), (2, .ref (z 0 b)), (3, .ref (T (10 * a + kA))), (4, .ref (T (10 * b + kB)))]) G dX4_trialFits_192 (by decide) rfl rfl ?_
                refine jv_iload (q := 196) G 3 dX4_trialFits_194 rfl rfl ?_
                refine jv_if_eqB (q := 199) (tgt := 212) G dX4_trialFits_196 (by decide) rfl (fun c17 => ?_) (fun c17 => ?_)
                · refine jv_iconst (q := 213) (v := nI 0) G dX4_trialFits_212 (by decide) rfl ?_
                  refine jv_topI (y := jv_bI false) rfl ?_
                  refine jv_zret G hr dX4_trialFits_213 (Nat.le_of_ble_eq_true rfl) (Nat.le_of_ble_eq_true rfl) ?_
                  have hbi : (c_tb A B UA UB kd ty ko (some kA) (some kB) al) i = true := by
                    unfold c_tb; rw [hti]; simp [c8, c17, hk7, hk14]
                  refine ⟨?_, hF⟩; rw [any_i.mpr ⟨i, by omega, hbi⟩]; rfl
                · refine jv_aload_n (q := 200) G 4 dX4_trialFits_199 rfl rfl rfl ?_
                  refine jv_getQ (q := 203) G dX4_trialFits_200 fl_X4_21 rfl lp1.1 lp1.2.2.1 rfl ?_
                  refine jv_aload_n (q := 204) G 6 dX4_trialFits_203 rfl rfl rfl ?_
                  refine jv_aload (q := 206) G 0 dX4_trialFits_204 rfl rfl ?_
                  refine jv_callV_I (q := 209) (h1 := h3) (As := [.ref (z 0 b), .ref (T (10 * b + k12))]) (rest := []) (ce' := 0) (sl' := 0) (r := nI (c_hn B UB kd ty (nI (mt_n ti)) ko (some k12))) G Z ml_X4_137 (k_runO (rn := (some k12)) hlt hB1 uB1 hu1 hkd hK (fun K q => by cases q; exact jv_ltGet ht13)) lp1.2.2.2.2 dX4_trialFits_206 rfl (by decide) (by decide) (by decide) (by decide) (Nat.le_of_ble_eq_true rfl) rfl rfl rfl rfl ?_
                  have hnB := hn_lt B UB kd ty (nI (mt_n ti)) ko (some k12)
                  refine jv_if_eqN (q := 212) (tgt := 214) G dX4_trialFits_209 (by decide) rfl (by omega) (fun c18 => ?_) (fun c18 => ?_)
                  · refine jv_iinc (q := 217) (lo' := [(7, .int (nI (i + 1))), (9, .ref (T (10 * b + k12))), (8, va_rf none), (6, .int (jv_bI al)), (0, .ref (z 6 4)), (1, .ref (z 0 a)), (2, .ref (z 0 b)), (3, .ref (T (10 * a + kA))), (4, .ref (T (10 * b + kB)))]) (v := nI (i + 1)) G 2 dX4_trialFits_214 rfl (nI_1 i) (by decide) rfl rfl ?_
                    refine jv_goto (q := 104) G dX4_trialFits_217 (by decide) ?_
                    refine jv_lo [0, 3, 4, 5, 6, 7, 8] (lo' := [(7, .int (nI (i + 1))), (6, .int (jv_bI al)), (0, .ref (z 6 4)), (1, .ref (z 0 a)), (2, .ref (z 0 b)), (3, .ref (T (10 * a + kA))), (4, .ref (T (10 * b + kB)))]) rfl ?_
                    have hbi : (c_tb A B UA UB kd ty ko (some kA) (some kB) al) i = false := by
                      unfold c_tb; rw [hti]; simp [c8, c17, c18, hk7, hk14]
                    exact ih (i + 1) _ _ (by omega) (by rw [m_any, hm, hbi]; rfl) hF hu1
                  · refine jv_iconst (q := 213) (v := nI 0) G dX4_trialFits_212 (by decide) rfl ?_
                    refine jv_topI (y := jv_bI false) rfl ?_
                    refine jv_zret G hr dX4_trialFits_213 (Nat.le_of_ble_eq_true rfl) (Nat.le_of_ble_eq_true rfl) ?_
                    have hbi : (c_tb A B UA UB kd ty ko (some kA) (some kB) al) i = true := by
                      unfold c_tb; rw [hti]; simp [c8, c17, c18, hk7, hk14]
                    refine ⟨?_, hF⟩; rw [any_i.mpr ⟨i, by omega, hbi⟩]; rfl
            · refine jv_topR (y := (some (T (10 * b + k9)))) (by rw [hk11]; rfl) ?_
              obtain ⟨t10, ht10, nt10⟩ := m_cn_get hk11
              have lt10 := jv_ltGet ht10
              have k10t10 : k9 < 10 := by have := hB1.2.2.2.1; omega
              have Ot10 := (hB1.2.2.2.2.1 k9 t10 ht10).2
              have Vt10 := (hB1.2.2.2.2.1 k9 t10 ht10).1
              have Yt10 := hB1.2.1 k9 k10t10
              have bt10n := Ot10.1; have bt10k := Ot10.2.1
              refine jv_callV_R (q := 192) (h1 := h3) (As := [.ref (T (10 * b + kB)), .int (jv_oN ko), .ref (T (10 * b + k9))]) (rest := []) (ce' := 0) (sl' := 0) (r := ((c_rn B UB (some kB) ko (nI (mt_n ti))).map (fun k => T (10 * b + k)))) G Z ml_X4_133 (k_selO (rc := nI (mt_n ti)) (ho := (some kB)) (ro := (some k9)) hlt hB1 uB1 hK (fun K q => by cases q; exact jv_ltGet htB) hk11) hB1.1.1 dX4_trialFits_189 rfl (by decide) (by decide) (by decide) (by decide) (Nat.le_of_ble_eq_true rfl) rfl rfl rfl rfl ?_
              rcases Option.eq_none_or_eq_some (c_rn B UB (some kB) ko (nI (mt_n ti))) with hk21 | ⟨k19, hk21⟩
              · refine jv_topR (y := none) (by rw [hk21]; rfl) ?_
                refine jv_astoreR (q := 194) (lo' := [(9, va_rf none), (8, va_rf none), (7, .int (nI i)), (6, .int (jv_bI al)), (0, .ref (z 6 4)), (1, .ref (z 0 a)), (2, .ref (z 0 b)), (3, .ref (T (10 * a + kA))), (4, .ref (T (10 * b + kB)))]) (x := none) G dX4_trialFits_192 (by decide) rfl rfl ?_
                refine jv_iload (q := 196) G 3 dX4_trialFits_194 rfl rfl ?_
                refine jv_if_eqB (q := 199) (tgt := 212) G dX4_trialFits_196 (by decide) rfl (fun c22 => ?_) (fun c22 => ?_)
                · refine jv_iconst (q := 213) (v := nI 0) G dX4_trialFits_212 (by decide) rfl ?_
                  refine jv_topI (y := jv_bI false) rfl ?_
                  refine jv_zret G hr dX4_trialFits_213 (Nat.le_of_ble_eq_true rfl) (Nat.le_of_ble_eq_true rfl) ?_
                  have hbi : (c_tb A B UA UB kd ty ko (some kA) (some kB) al) i = true := by
                    unfold c_tb; rw [hti]; simp [c8, c22, hk7, hk21]
                  refine ⟨?_, hF⟩; rw [any_i.mpr ⟨i, by omega, hbi⟩]; rfl
                · refine jv_aload_n (q := 200) G 4 dX4_trialFits_199 rfl rfl rfl ?_
                  refine jv_getQ (q := 203) G dX4_trialFits_200 fl_X4_21 rfl lp1.1 lp1.2.2.1 rfl ?_
                  refine jv_aload_n (q := 204) G 6 dX4_trialFits_203 rfl rfl rfl ?_
                  refine jv_aloadR (q := 206) G 0 dX4_trialFits_204 rfl rfl ?_
                  refine jv_callV_I (q := 209) (h1 := h3) (As := [.ref (z 0 b), va_rf none]) (rest := []) (ce' := 0) (sl' := 0) (r := nI (c_hn B UB kd ty (nI (mt_n ti)) ko none)) G Z ml_X4_137 (k_runO (rn := none) hlt hB1 uB1 hu1 hkd hK (fun K q => by cases q)) lp1.2.2.2.2 dX4_trialFits_206 rfl (by decide) (by decide) (by decide) (by decide) (Nat.le_of_ble_eq_true rfl) rfl rfl rfl rfl ?_
                  have hnB := hn_lt B UB kd ty (nI (mt_n ti)) ko none
                  refine jv_if_eqN (q := 212) (tgt := 214) G dX4_trialFits_209 (by decide) rfl (by omega) (fun c23 => ?_) (fun c23 => ?_)
                  · refine jv_iinc (q := 217) (lo' := [(7, .int (nI (i + 1))), (9, va_rf none), (8, va_rf none), (6, .int (jv_bI al)), (0, .ref (z 6 4)), (1, .ref (z 0 a)), (2, .ref (z 0 b)), (3, .ref (T (10 * a + kA))), (4, .ref (T (10 * b + kB)))]) (v := nI (i + 1)) G 2 dX4_trialFits_214 rfl (nI_1 i) (by decide) rfl rfl ?_
                    refine jv_goto (q := 104) G dX4_trialFits_217 (by decide) ?_
                    refine jv_lo [0, 3, 4, 5, 6, 7, 8] (lo' := [(7, .int (nI (i + 1))), (6, .int (jv_bI al)), (0, .ref (z 6 4)), (1, .ref (z 0 a)), (2, .ref (z 0 b)), (3, .ref (T (10 * a + kA))), (4, .ref (T (10 * b + kB)))]) rfl ?_
                    have hbi : (c_tb A B UA UB kd ty ko (some kA) (some kB) al) i = false := by
                      unfold c_tb; rw [hti]; simp [c8, c22, c23, hk7, hk21]
                    exact ih (i + 1) _ _ (by omega) (by rw [m_any, hm, hbi]; rfl) hF hu1
                  · refine jv_iconst (q := 213) (v := nI 0) G dX4_trialFits_212 (by decide) rfl ?_
                    refine jv_topI (y := jv_bI false) rfl ?_
                    refine jv_zret G hr dX4_trialFits_213 (Nat.le_of_ble_eq_true rfl) (Nat.le_of_ble_eq_true rfl) ?_
                    have hbi : (c_tb A B UA UB kd ty ko (some kA) (some kB) al) i = true := by
                      unfold c_tb; rw [hti]; simp [c8, c22, c23, hk7, hk21]
                    refine ⟨?_, hF⟩; rw [any_i.mpr ⟨i, by omega, hbi⟩]; rfl
              · refine jv_topR (y := (some (T (10 * b + k19)))) (by rw [hk21]; rfl) ?_
                obtain ⟨t20, ht20, nt20⟩ := rn_get hk21
                have lt20 := jv_ltGet ht20
                have k10t20 : k19 < 10 := by have := hB1.2.2.2.1; omega
                have Ot20 := (hB1.2.2.2.2.1 k19 t20 ht20).2
                have Vt20 := (hB1.2.2.2.2.1 k19 t20 ht20).1
                have Yt20 := hB1.2.1 k19 k10t20
                have bt20n := Ot20.1; have bt20k := Ot20.2.1
                refine jv_astore (q := 194) (lo' := [(9, .ref (T (10 * b + k19))), (8, va_rf none), (7, .int (nI i)), (6, .int (jv_bI al)), (0, .ref (z 6 4)), (1, .ref (z 0 a)), (2, .ref (z 0 b)), (3, .ref (T (10 * a + kA))), (4, .ref (T (10 * b + kB)))]) G dX4_trialFits_192 (by decide) rfl rfl ?_
                refine jv_iload (q := 196) G 3 dX4_trialFits_194 rfl rfl ?_
                refine jv_if_eqB (q := 199) (tgt := 212) G dX4_trialFits_196 (by decide) rfl (fun c24 => ?_) (fun c24 => ?_)
                · refine jv_iconst (q := 213) (v := nI 0) G dX4_trialFits_212 (by decide) rfl ?_
                  refine jv_topI (y := jv_bI false) rfl ?_
                  refine jv_zret G hr dX4_trialFits_213 (Nat.le_of_ble_eq_true rfl) (Nat.le_of_ble_eq_true rfl) ?_
                  have hbi : (c_tb A B UA UB kd ty ko (some kA) (some kB) al) i = true := by
                    unfold c_tb; rw [hti]; simp [c8, c24, hk7, hk21]
                  refine ⟨?_, hF⟩; rw [any_i.mpr ⟨i, by omega, hbi⟩]; rfl
                · refine jv_aload_n (q := 200) G 4 dX4_trialFits_199 rfl rfl rfl ?_
                  refine jv_getQ (q := 203) G dX4_trialFits_200 fl_X4_21 rfl lp1.1 lp1.2.2.1 rfl ?_
                  refine jv_aload_n (q := 204) G 6 dX4_trialFits_203 rfl rfl rfl ?_
                  refine jv_aload (q := 206) G 0 dX4_trialFits_204 rfl rfl ?_
                  refine jv_callV_I (q := 209) (h1 := h3) (As := [.ref (z 0 b), .ref (T (10 * b + k19))]) (rest := []) (ce' := 0) (sl' := 0) (r := nI (c_hn B UB kd ty (nI (mt_n ti)) ko (some k19))) G Z ml_X4_137 (k_runO (rn := (some k19)) hlt hB1 uB1 hu1 hkd hK (fun K q => by cases q; exact jv_ltGet ht20)) lp1.2.2.2.2 dX4_trialFits_206 rfl (by decide) (by decide) (by decide) (by decide) (Nat.le_of_ble_eq_true rfl) rfl rfl rfl rfl ?_
                  have hnB := hn_lt B UB kd ty (nI (mt_n ti)) ko (some k19)
                  refine jv_if_eqN (q := 212) (tgt := 214) G dX4_trialFits_209 (by decide) rfl (by omega) (fun c25 => ?_) (fun c25 => ?_)
                  · refine jv_iinc (q := 217) (lo' := [(7, .int (nI (i + 1))), (9, .ref (T (10 * b + k19))), (8, va_rf none), (6, .int (jv_bI al)), (0, .ref (z 6 4)), (1, .ref (z 0 a)), (2, .ref (z 0 b)), (3, .ref (T (10 * a + kA))), (4, .ref (T (10 * b + kB)))]) (v := nI (i + 1)) G 2 dX4_trialFits_214 rfl (nI_1 i) (by decide) rfl rfl ?_
                    refine jv_goto (q := 104) G dX4_trialFits_217 (by decide) ?_
                    refine jv_lo [0, 3, 4, 5, 6, 7, 8] (lo' := [(7, .int (nI (i + 1))), (6, .int (jv_bI al)), (0, .ref (z 6 4)), (1, .ref (z 0 a)), (2, .ref (z 0 b)), (3, .ref (T (10 * a + kA))), (4, .ref (T (10 * b + kB)))]) rfl ?_
                    have hbi : (c_tb A B UA UB kd ty ko (some kA) (some kB) al) i = false := by
                      unfold c_tb; rw [hti]; simp [c8, c24, c25, hk7, hk21]
                    exact ih (i + 1) _ _ (by omega) (by rw [m_any, hm, hbi]; rfl) hF hu1
                  · refine jv_iconst (q := 213) (v := nI 0) G dX4_trialFits_212 (by decide) rfl ?_
                    refine jv_topI (y := jv_bI false) rfl ?_
                    refine jv_zret G hr dX4_trialFits_213 (Nat.le_of_ble_eq_true rfl) (Nat.le_of_ble_eq_true rfl) ?_
                    have hbi : (c_tb A B UA UB kd ty ko (some kA) (some kB) al) i = true := by
                      unfold c_tb; rw [hti]; simp [c8, c24, c25, hk7, hk21]
                    refine ⟨?_, hF⟩; rw [any_i.mpr ⟨i, by omega, hbi⟩]; rfl
        · refine jv_topR (y := (some (T (10 * a + k5)))) (by rw [hk7]; rfl) ?_
          obtain ⟨t6, ht6, nt6⟩ := rn_get hk7
          have lt6 := jv_ltGet ht6
          have k10t6 : k5 < 10 := by have := hA1.2.2.2.1; omega
          have Ot6 := (hA1.2.2.2.2.1 k5 t6 ht6).2
          have Vt6 := (hA1.2.2.2.2.1 k5 t6 ht6).1
          have Yt6 := hA1.2.1 k5 k10t6
          have bt6n := Ot6.1; have bt6k := Ot6.2.1
          refine jv_astore (q := 155) (lo' := [(8, .ref (T (10 * a + k5))), (7, .int (nI i)), (6, .int (jv_bI al)), (0, .ref (z 6 4)), (1, .ref (z 0 a)), (2, .ref (z 0 b)), (3, .ref (T (10 * a + kA))), (4, .ref (T (10 * b + kB)))]) G dX4_trialFits_153 (by decide) rfl rfl ?_
          refine jv_aload_n (q := 156) G 3 dX4_trialFits_155 rfl rfl rfl ?_
          refine jv_getQ (q := 159) G dX4_trialFits_156 fl_X4_21 rfl lp1.1 lp1.2.2.1 rfl ?_
          refine jv_aload_n (q := 160) G 4 dX4_trialFits_159 rfl rfl rfl ?_
          refine jv_aload (q := 162) G 0 dX4_trialFits_160 rfl rfl ?_
          refine jv_callV_I (q := 165) (h1 := h3) (As := [.ref (z 0 a), .ref (T (10 * a + k5))]) (rest := []) (ce' := 0) (sl' := 0) (r := nI (c_hn A UA kd ty (nI (mt_n ti)) ko (some k5))) G Z ml_X4_137 (k_runO (rn := (some k5)) hlt hA1 uA1 hu1 hkd hK (fun K q => by cases q; exact jv_ltGet ht6)) lp1.2.2.2.2 dX4_trialFits_162 rfl (by decide) (by decide) (by decide) (by decide) (Nat.le_of_ble_eq_true rfl) rfl rfl rfl rfl ?_
          have hnA := hn_lt A UA kd ty (nI (mt_n ti)) ko (some k5)
          refine jv_if_neN (q := 168) (tgt := 214) G dX4_trialFits_165 (by decide) rfl (by omega) (fun c26 => ?_) (fun c26 => ?_)
          · refine jv_iinc (q := 217) (lo' := [(7, .int (nI (i + 1))), (8, .ref (T (10 * a + k5))), (6, .int (jv_bI al)), (0, .ref (z 6 4)), (1, .ref (z 0 a)), (2, .ref (z 0 b)), (3, .ref (T (10 * a + kA))), (4, .ref (T (10 * b + kB)))]) (v := nI (i + 1)) G 1 dX4_trialFits_214 rfl (nI_1 i) (by decide) rfl rfl ?_
            refine jv_goto (q := 104) G dX4_trialFits_217 (by decide) ?_
            refine jv_lo [0, 2, 3, 4, 5, 6, 7] (lo' := [(7, .int (nI (i + 1))), (6, .int (jv_bI al)), (0, .ref (z 6 4)), (1, .ref (z 0 a)), (2, .ref (z 0 b)), (3, .ref (T (10 * a + kA))), (4, .ref (T (10 * b + kB)))]) rfl ?_
            have hbi : (c_tb A B UA UB kd ty ko (some kA) (some kB) al) i = false := by
              unfold c_tb; rw [hti]; simp [c26, hk7]
            exact ih (i + 1) _ _ (by omega) (by rw [m_any, hm, hbi]; rfl) hF hu1
          · refine jv_aload_n (q := 169) G 5 dX4_trialFits_168 rfl rfl rfl ?_
            refine jv_aload (q := 171) G 7 dX4_trialFits_169 rfl rfl ?_
            refine jv_aload_n (q := 172) G 3 dX4_trialFits_171 rfl rfl rfl ?_
            refine jv_getQ (q := 175) G dX4_trialFits_172 fl_X4_21 rfl lp1.1 lp1.2.2.1 rfl ?_
            refine jv_getI (q := 178) G dX4_trialFits_175 fl_X4_127 rfl lp1.2.2.2.2 hu1.2.2.2.1 rfl ?_
            refine jv_aload_n (q := 179) G 5 dX4_trialFits_178 rfl rfl rfl ?_
            refine jv_aload_n (q := 180) G 3 dX4_trialFits_179 rfl rfl rfl ?_
            refine jv_getQ (q := 183) G dX4_trialFits_180 fl_X4_21 rfl lp1.1 lp1.2.2.1 rfl ?_
            refine jv_getI (q := 186) G dX4_trialFits_183 fl_X4_124 rfl lp1.2.2.2.2 hu1.2.2.2.2.1 rfl ?_
            refine jv_callV_R (q := 189) (h1 := h3) (As := [.int (nI (mt_n ti))]) (rest := [.int (jv_oN ko), .ref (T (10 * b + kB)), .ref (z 0 b)]) (ce' := 0) (sl' := 0) (r := ((m_cn B (nI (mt_n ti)) false).map (fun k => T (10 * b + k)))) G Z ml_X4_130 (k_classNamed hlt hB1) hB1.1.1 dX4_trialFits_186 rfl (by decide) (by decide) (by decide) (by decide) (Nat.le_of_ble_eq_true rfl) rfl rfl rfl rfl ?_
            rcases Option.eq_none_or_eq_some (m_cn B (nI (mt_n ti)) false) with hk29 | ⟨k27, hk29⟩
            · refine jv_topR (y := none) (by rw [hk29]; rfl) ?_
              refine jv_callV_R (q := 192) (h1 := h3) (As := [.ref (T (10 * b + kB)), .int (jv_oN ko), va_rf none]) (rest := []) (ce' := 0) (sl' := 0) (r := ((c_rn B UB (some kB) ko (nI (mt_n ti))).map (fun k => T (10 * b + k)))) G Z ml_X4_133 (k_selO (rc := nI (mt_n ti)) (ho := (some kB)) (ro := none) hlt hB1 uB1 hK (fun K q => by cases q; exact jv_ltGet htB) hk29) hB1.1.1 dX4_trialFits_189 rfl (by decide) (by decide) (by decide) (by decide) (Nat.le_of_ble_eq_true rfl) rfl rfl rfl rfl ?_
              rcases Option.eq_none_or_eq_some (c_rn B UB (some kB) ko (nI (mt_n ti))) with hk32 | ⟨k30, hk32⟩
              · refine jv_topR (y := none) (by rw [hk32]; rfl) ?_
                refine jv_astoreR (q := 194) (lo' := [(9, va_rf none), (8, .ref (T (10 * a + k5))), (7, .int (nI i)), (6, .int (jv_bI al)), (0, .ref (z 6 4)), (1, .ref (z 0 a)), (2, .ref (z 0 b)), (3, .ref (T (10 * a + kA))), (4, .ref (T (10 * b + kB)))]) (x := none) G dX4_trialFits_192 (by decide) rfl rfl ?_
                refine jv_iload (q := 196) G 3 dX4_trialFits_194 rfl rfl ?_
                refine jv_if_eqB (q := 199) (tgt := 212) G dX4_trialFits_196 (by decide) rfl (fun c33 => ?_) (fun c33 => ?_)
                · refine jv_iconst (q := 213) (v := nI 0) G dX4_trialFits_212 (by decide) rfl ?_
                  refine jv_topI (y := jv_bI false) rfl ?_
                  refine jv_zret G hr dX4_trialFits_213 (Nat.le_of_ble_eq_true rfl) (Nat.le_of_ble_eq_true rfl) ?_
                  have hbi : (c_tb A B UA UB kd ty ko (some kA) (some kB) al) i = true := by
                    unfold c_tb; rw [hti]; simp [c26, c33, hk7, hk32]
                  refine ⟨?_, hF⟩; rw [any_i.mpr ⟨i, by omega, hbi⟩]; rfl
                · refine jv_aload_n (q := 200) G 4 dX4_trialFits_199 rfl rfl rfl ?_
                  refine jv_getQ (q := 203) G dX4_trialFits_200 fl_X4_21 rfl lp1.1 lp1.2.2.1 rfl ?_
                  refine jv_aload_n (q := 204) G 6 dX4_trialFits_203 rfl rfl rfl ?_
                  refine jv_aloadR (q := 206) G 0 dX4_trialFits_204 rfl rfl ?_
                  refine jv_callV_I (q := 209) (h1 := h3) (As := [.ref (z 0 b), va_rf none]) (rest := []) (ce' := 0) (sl' := 0) (r := nI (c_hn B UB kd ty (nI (mt_n ti)) ko none)) G Z ml_X4_137 (k_runO (rn := none) hlt hB1 uB1 hu1 hkd hK (fun K q => by cases q)) lp1.2.2.2.2 dX4_trialFits_206 rfl (by decide) (by decide) (by decide) (by decide) (Nat.le_of_ble_eq_true rfl) rfl rfl rfl rfl ?_
                  have hnB := hn_lt B UB kd ty (nI (mt_n ti)) ko none
                  refine jv_if_eqN (q := 212) (tgt := 214) G dX4_trialFits_209 (by decide) rfl (by omega) (fun c34 => ?_) (fun c34 => ?_)
                  · refine jv_iinc (q := 217) (lo' := [(7, .int (nI (i + 1))), (9, va_rf none), (8, .ref (T (10 * a + k5))), (6, .int (jv_bI al)), (0, .ref (z 6 4)), (1, .ref (z 0 a)), (2, .ref (z 0 b)), (3, .ref (T (10 * a + kA))), (4, .ref (T (10 * b + kB)))]) (v := nI (i + 1)) G 2 dX4_trialFits_214 rfl (nI_1 i) (by decide) rfl rfl ?_
                    refine jv_goto (q := 104) G dX4_trialFits_217 (by decide) ?_
                    refine jv_lo [0, 3, 4, 5, 6, 7, 8] (lo' := [(7, .int (nI (i + 1))), (6, .int (jv_bI al)), (0, .ref (z 6 4)), (1, .ref (z 0 a)), (2, .ref (z 0 b)), (3, .ref (T (10 * a + kA))), (4, .ref (T (10 * b + kB)))]) rfl ?_
                    have hbi : (c_tb A B UA UB kd ty ko (some kA) (some kB) al) i = false := by
                      unfold c_tb; rw [hti]; simp [c26, c33, c34, hk7, hk32]
                    exact ih (i + 1) _ _ (by omega) (by rw [m_any, hm, hbi]; rfl) hF hu1
                  · refine jv_iconst (q := 213) (v := nI 0) G dX4_trialFits_212 (by decide) rfl ?_
                    refine jv_topI (y := jv_bI false) rfl ?_
                    refine jv_zret G hr dX4_trialFits_213 (Nat.le_of_ble_eq_true rfl) (Nat.le_of_ble_eq_true rfl) ?_
                    have hbi : (c_tb A B UA UB kd ty ko (some kA) (some kB) al) i = true := by
                      unfold c_tb; rw [hti]; simp [c26, c33, c34, hk7, hk32]
                    refine ⟨?_, hF⟩; rw [any_i.mpr ⟨i, by omega, hbi⟩]; rfl
              · refine jv_topR (y := (some (T (10 * b + k30)))) (by rw [hk32]; rfl) ?_
                obtain ⟨t31, ht31, nt31⟩ := rn_get hk32
                have lt31 := jv_ltGet ht31
                have k10t31 : k30 < 10 := by have := hB1.2.2.2.1; omega
                have Ot31 := (hB1.2.2.2.2.1 k30 t31 ht31).2
                have Vt31 := (hB1.2.2.2.2.1 k30 t31 ht31).1
                have Yt31 := hB1.2.1 k30 k10t31
                have bt31n := Ot31.1; have bt31k := Ot31.2.1
                refine jv_astore (q := 194) (lo' := [(9, .ref (T (10 * b + k30))), (8, .ref (T (10 * a + k5))), (7, .int (nI i)), (6, .int (jv_bI al)), (0, .ref (z 6 4)), (1, .ref (z 0 a)), (2, .ref (z 0 b)), (3, .ref (T (10 * a + kA))), (4, .ref (T (10 * b + kB)))]) G dX4_trialFits_192 (by decide) rfl rfl ?_
                refine jv_iload (q := 196) G 3 dX4_trialFits_194 rfl rfl ?_
                refine jv_if_eqB (q := 199) (tgt := 212) G dX4_trialFits_196 (by decide) rfl (fun c35 => ?_) (fun c35 => ?_)
                · refine jv_iconst (q := 213) (v := nI 0) G dX4_trialFits_212 (by decide) rfl ?_
                  refine jv_topI (y := jv_bI false) rfl ?_
                  refine jv_zret G hr dX4_trialFits_213 (Nat.le_of_ble_eq_true rfl) (Nat.le_of_ble_eq_true rfl) ?_
                  have hbi : (c_tb A B UA UB kd ty ko (some kA) (some kB) al) i = true := by
                    unfold c_tb; rw [hti]; simp [c26, c35, hk7, hk32]
                  refine ⟨?_, hF⟩; rw [any_i.mpr ⟨i, by omega, hbi⟩]; rfl
                · refine jv_aload_n (q := 200) G 4 dX4_trialFits_199 rfl rfl rfl ?_
                  refine jv_getQ (q := 203) G dX4_trialFits_200 fl_X4_21 rfl lp1.1 lp1.2.2.1 rfl ?_
                  refine jv_aload_n (q := 204) G 6 dX4_trialFits_203 rfl rfl rfl ?_
                  refine jv_aload (q := 206) G 0 dX4_trialFits_204 rfl rfl ?_
                  refine jv_callV_I (q := 209) (h1 := h3) (As := [.ref (z 0 b), .ref (T (10 * b + k30))]) (rest := []) (ce' := 0) (sl' := 0) (r := nI (c_hn B UB kd ty (nI (mt_n ti)) ko (some k30))) G Z ml_X4_137 (k_runO (rn := (some k30)) hlt hB1 uB1 hu1 hkd hK (fun K q => by cases q; exact jv_ltGet ht31)) lp1.2.2.2.2 dX4_trialFits_206 rfl (by decide) (by decide) (by decide) (by decide) (Nat.le_of_ble_eq_true rfl) rfl rfl rfl rfl ?_
                  have hnB := hn_lt B UB kd ty (nI (mt_n ti)) ko (some k30)
                  refine jv_if_eqN (q := 212) (tgt := 214) G dX4_trialFits_209 (by decide) rfl (by omega) (fun c36 => ?_) (fun c36 => ?_)
                  · refine jv_iinc (q := 217) (lo' := [(7, .int (nI (i + 1))), (9, .ref (T (10 * b + k30))), (8, .ref (T (10 * a + k5))), (6, .int (jv_bI al)), (0, .ref (z 6 4)), (1, .ref (z 0 a)), (2, .ref (z 0 b)), (3, .ref (T (10 * a + kA))), (4, .ref (T (10 * b + kB)))]) (v := nI (i + 1)) G 2 dX4_trialFits_214 rfl (nI_1 i) (by decide) rfl rfl ?_
                    refine jv_goto (q := 104) G dX4_trialFits_217 (by decide) ?_
                    refine jv_lo [0, 3, 4, 5, 6, 7, 8] (lo' := [(7, .int (nI (i + 1))), (6, .int (jv_bI al)), (0, .ref (z 6 4)), (1, .ref (z 0 a)), (2, .ref (z 0 b)), (3, .ref (T (10 * a + kA))), (4, .ref (T (10 * b + kB)))]) rfl ?_
                    have hbi : (c_tb A B UA UB kd ty ko (some kA) (some kB) al) i = false := by
                      unfold c_tb; rw [hti]; simp [c26, c35, c36, hk7, hk32]
                    exact ih (i + 1) _ _ (by omega) (by rw [m_any, hm, hbi]; rfl) hF hu1
                  · refine jv_iconst (q := 213) (v := nI 0) G dX4_trialFits_212 (by decide) rfl ?_
                    refine jv_topI (y := jv_bI false) rfl ?_
                    refine jv_zret G hr dX4_trialFits_213 (Nat.le_of_ble_eq_true rfl) (Nat.le_of_ble_eq_true rfl) ?_
                    have hbi : (c_tb A B UA UB kd ty ko (some kA) (some kB) al) i = true := by
                      unfold c_tb; rw [hti]; simp [c26, c35, c36, hk7, hk32]
                    refine ⟨?_, hF⟩; rw [any_i.mpr ⟨i, by omega, hbi⟩]; rfl
            · refine jv_topR (y := (some (T (10 * b + k27)))) (by rw [hk29]; rfl) ?_
              obtain ⟨t28, ht28, nt28⟩ := m_cn_get hk29
              have lt28 := jv_ltGet ht28
              have k10t28 : k27 < 10 := by have := hB1.2.2.2.1; omega
              have Ot28 := (hB1.2.2.2.2.1 k27 t28 ht28).2
              have Vt28 := (hB1.2.2.2.2.1 k27 t28 ht28).1
              have Yt28 := hB1.2.1 k27 k10t28
              have bt28n := Ot28.1; have bt28k := Ot28.2.1
              refine jv_callV_R (q := 192) (h1 := h3) (As := [.ref (T (10 * b + kB)), .int (jv_oN ko), .ref (T (10 * b + k27))]) (rest := []) (ce' := 0) (sl' := 0) (r := ((c_rn B UB (some kB) ko (nI (mt_n ti))).map (fun k => T (10 * b + k)))) G Z ml_X4_133 (k_selO (rc := nI (mt_n ti)) (ho := (some kB)) (ro := (some k27)) hlt hB1 uB1 hK (fun K q => by cases q; exact jv_ltGet htB) hk29) hB1.1.1 dX4_trialFits_189 rfl (by decide) (by decide) (by decide) (by decide) (Nat.le_of_ble_eq_true rfl) rfl rfl rfl rfl ?_
              rcases Option.eq_none_or_eq_some (c_rn B UB (some kB) ko (nI (mt_n ti))) with hk39 | ⟨k37, hk39⟩
              · refine jv_topR (y := none) (by rw [hk39]; rfl) ?_
                refine jv_astoreR (q := 194) (lo' := [(9, va_rf none), (8, .ref (T (10 * a + k5))), (7, .int (nI i)), (6, .int (jv_bI al)), (0, .ref (z 6 4)), (1, .ref (z 0 a)), (2, .ref (z 0 b)), (3, .ref (T (10 * a + kA))), (4, .ref (T (10 * b + kB)))]) (x := none) G dX4_trialFits_192 (by decide) rfl rfl ?_
                refine jv_iload (q := 196) G 3 dX4_trialFits_194 rfl rfl ?_
                refine jv_if_eqB (q := 199) (tgt := 212) G dX4_trialFits_196 (by decide) rfl (fun c40 => ?_) (fun c40 => ?_)
                · refine jv_iconst (q := 213) (v := nI 0) G dX4_trialFits_212 (by decide) rfl ?_
                  refine jv_topI (y := jv_bI false) rfl ?_
                  refine jv_zret G hr dX4_trialFits_213 (Nat.le_of_ble_eq_true rfl) (Nat.le_of_ble_eq_true rfl) ?_
                  have hbi : (c_tb A B UA UB kd ty ko (some kA) (some kB) al) i = true := by
                    unfold c_tb; rw [hti]; simp [c26, c40, hk7, hk39]
                  refine ⟨?_, hF⟩; rw [any_i.mpr ⟨i, by omega, hbi⟩]; rfl
                · refine jv_aload_n (q := 200) G 4 dX4_trialFits_199 rfl rfl rfl ?_
                  refine jv_getQ (q := 203) G dX4_trialFits_200 fl_X4_21 rfl lp1.1 lp1.2.2.1 rfl ?_
                  refine jv_aload_n (q := 204) G 6 dX4_trialFits_203 rfl rfl rfl ?_
                  refine jv_aloadR (q := 206) G 0 dX4_trialFits_204 rfl rfl ?_
                  refine jv_callV_I (q := 209) (h1 := h3) (As := [.ref (z 0 b), va_rf none]) (rest := []) (ce' := 0) (sl' := 0) (r := nI (c_hn B UB kd ty (nI (mt_n ti)) ko none)) G Z ml_X4_137 (k_runO (rn := none) hlt hB1 uB1 hu1 hkd hK (fun K q => by cases q)) lp1.2.2.2.2 dX4_trialFits_206 rfl (by decide) (by decide) (by decide) (by decide) (Nat.le_of_ble_eq_true rfl) rfl rfl rfl rfl ?_
                  have hnB := hn_lt B UB kd ty (nI (mt_n ti)) ko none
                  refine jv_if_eqN (q := 212) (tgt := 214) G dX4_trialFits_209 (by decide) rfl (by omega) (fun c41 => ?_) (fun c41 => ?_)
                  · refine jv_iinc (q := 217) (lo' := [(7, .int (nI (i + 1))), (9, va_rf none), (8, .ref (T (10 * a + k5))), (6, .int (jv_bI al)), (0, .ref (z 6 4)), (1, .ref (z 0 a)), (2, .ref (z 0 b)), (3, .ref (T (10 * a + kA))), (4, .ref (T (10 * b + kB)))]) (v := nI (i + 1)) G 2 dX4_trialFits_214 rfl (nI_1 i) (by decide) rfl rfl ?_
                    refine jv_goto (q := 104) G dX4_trialFits_217 (by decide) ?_
                    refine jv_lo [0, 3, 4, 5, 6, 7, 8] (lo' := [(7, .int (nI (i + 1))), (6, .int (jv_bI al)), (0, .ref (z 6 4)), (1, .ref (z 0 a)), (2, .ref (z 0 b)), (3, .ref (T (10 * a + kA))), (4, .ref (T (10 * b + kB)))]) rfl ?_
                    have hbi : (c_tb A B UA UB kd ty ko (some kA) (some kB) al) i = false := by
                      unfold c_tb; rw [hti]; simp [c26, c40, c41, hk7, hk39]
                    exact ih (i + 1) _ _ (by omega) (by rw [m_any, hm, hbi]; rfl) hF hu1
                  · refine jv_iconst (q := 213) (v := nI 0) G dX4_trialFits_212 (by decide) rfl ?_
                    refine jv_topI (y := jv_bI false) rfl ?_
                    refine jv_zret G hr dX4_trialFits_213 (Nat.le_of_ble_eq_true rfl) (Nat.le_of_ble_eq_true rfl) ?_
                    have hbi : (c_tb A B UA UB kd ty ko (some kA) (some kB) al) i = true := by
                      unfold c_tb; rw [hti]; simp [c26, c40, c41, hk7, hk39]
                    refine ⟨?_, hF⟩; rw [any_i.mpr ⟨i, by omega, hbi⟩]; rfl
              · refine jv_topR (y := (some (T (10 * b + k37)))) (by rw [hk39]; rfl) ?_
                obtain ⟨t38, ht38, nt38⟩ := rn_get hk39
                have lt38 := jv_ltGet ht38
                have k10t38 : k37 < 10 := by have := hB1.2.2.2.1; omega
                have Ot38 := (hB1.2.2.2.2.1 k37 t38 ht38).2
                have Vt38 := (hB1.2.2.2.2.1 k37 t38 ht38).1
                have Yt38 := hB1.2.1 k37 k10t38
                have bt38n := Ot38.1; have bt38k := Ot38.2.1
                refine jv_astore (q := 194) (lo' := [(9, .ref (T (10 * b + k37))), (8, .ref (T (10 * a + k5))), (7, .int (nI i)), (6, .int (jv_bI al)), (0, .ref (z 6 4)), (1, .ref (z 0 a)), (2, .ref (z 0 b)), (3, .ref (T (10 * a + kA))), (4, .ref (T (10 * b + kB)))]) G dX4_trialFits_192 (by decide) rfl rfl ?_
                refine jv_iload (q := 196) G 3 dX4_trialFits_194 rfl rfl ?_
                refine jv_if_eqB (q := 199) (tgt := 212) G dX4_trialFits_196 (by decide) rfl (fun c42 => ?_) (fun c42 => ?_)
                · refine jv_iconst (q := 213) (v := nI 0) G dX4_trialFits_212 (by decide) rfl ?_
                  refine jv_topI (y := jv_bI false) rfl ?_
                  refine jv_zret G hr dX4_trialFits_213 (Nat.le_of_ble_eq_true rfl) (Nat.le_of_ble_eq_true rfl) ?_
                  have hbi : (c_tb A B UA UB kd ty ko (some kA) (some kB) al) i = true := by
                    unfold c_tb; rw [hti]; simp [c26, c42, hk7, hk39]
                  refine ⟨?_, hF⟩; rw [any_i.mpr ⟨i, by omega, hbi⟩]; rfl
                · refine jv_aload_n (q := 200) G 4 dX4_trialFits_199 rfl rfl rfl ?_
                  refine jv_getQ (q := 203) G dX4_trialFits_200 fl_X4_21 rfl lp1.1 lp1.2.2.1 rfl ?_
                  refine jv_aload_n (q := 204) G 6 dX4_trialFits_203 rfl rfl rfl ?_
                  refine jv_aload (q := 206) G 0 dX4_trialFits_204 rfl rfl ?_
                  refine jv_callV_I (q := 209) (h1 := h3) (As := [.ref (z 0 b), .ref (T (10 * b + k37))]) (rest := []) (ce' := 0) (sl' := 0) (r := nI (c_hn B UB kd ty (nI (mt_n ti)) ko (some k37))) G Z ml_X4_137 (k_runO (rn := (some k37)) hlt hB1 uB1 hu1 hkd hK (fun K q => by cases q; exact jv_ltGet ht38)) lp1.2.2.2.2 dX4_trialFits_206 rfl (by decide) (by decide) (by decide) (by decide) (Nat.le_of_ble_eq_true rfl) rfl rfl rfl rfl ?_
                  have hnB := hn_lt B UB kd ty (nI (mt_n ti)) ko (some k37)
                  refine jv_if_eqN (q := 212) (tgt := 214) G dX4_trialFits_209 (by decide) rfl (by omega) (fun c43 => ?_) (fun c43 => ?_)
                  · refine jv_iinc (q := 217) (lo' := [(7, .int (nI (i + 1))), (9, .ref (T (10 * b + k37))), (8, .ref (T (10 * a + k5))), (6, .int (jv_bI al)), (0, .ref (z 6 4)), (1, .ref (z 0 a)), (2, .ref (z 0 b)), (3, .ref (T (10 * a + kA))), (4, .ref (T (10 * b + kB)))]) (v := nI (i + 1)) G 2 dX4_trialFits_214 rfl (nI_1 i) (by decide) rfl rfl ?_
                    refine jv_goto (q := 104) G dX4_trialFits_217 (by decide) ?_
                    refine jv_lo [0, 3, 4, 5, 6, 7, 8] (lo' := [(7, .int (nI (i + 1))), (6, .int (jv_bI al)), (0, .ref (z 6 4)), (1, .ref (z 0 a)), (2, .ref (z 0 b)), (3, .ref (T (10 * a + kA))), (4, .ref (T (10 * b + kB)))]) rfl ?_
                    have hbi : (c_tb A B UA UB kd ty ko (some kA) (some kB) al) i = false := by
                      unfold c_tb; rw [hti]; simp [c26, c42, c43, hk7, hk39]
                    exact ih (i + 1) _ _ (by omega) (by rw [m_any, hm, hbi]; rfl) hF hu1
                  · refine jv_iconst (q := 213) (v := nI 0) G dX4_trialFits_212 (by decide) rfl ?_
                    refine jv_topI (y := jv_bI false) rfl ?_
                    refine jv_zret G hr dX4_trialFits_213 (Nat.le_of_ble_eq_true rfl) (Nat.le_of_ble_eq_true rfl) ?_
                    have hbi : (c_tb A B UA UB kd ty ko (some kA) (some kB) al) i = true := by
                      unfold c_tb; rw [hti]; simp [c26, c42, c43, hk7, hk39]
                    refine ⟨?_, hF⟩; rw [any_i.mpr ⟨i, by omega, hbi⟩]; rfl
      · refine jv_topR (y := (some (T (10 * a + k2)))) (by rw [hk4]; rfl) ?_
        obtain ⟨t3, ht3, nt3⟩ := m_cn_get hk4
        have lt3 := jv_ltGet ht3
        have k10t3 : k2 < 10 := by have := hA1.2.2.2.1; omega
        have Ot3 := (hA1.2.2.2.2.1 k2 t3 ht3).2
        have Vt3 := (hA1.2.2.2.2.1 k2 t3 ht3).1
        have Yt3 := hA1.2.1 k2 k10t3
        have bt3n := Ot3.1; have bt3k := Ot3.2.1
        refine jv_callV_R (q := 153) (h1 := h3) (As := [.ref (T (10 * a + kA)), .int (jv_oN ko), .ref (T (10 * a + k2))]) (rest := []) (ce' := 0) (sl' := 0) (r := ((c_rn A UA (some kA) ko (nI (mt_n ti))).map (fun k => T (10 * a + k)))) G Z ml_X4_133 (k_selO (rc := nI (mt_n ti)) (ho := (some kA)) (ro := (some k2)) hlt hA1 uA1 hK (fun K q => by cases q; exact jv_ltGet htA) hk4) hA1.1.1 dX4_trialFits_150 rfl (by decide) (by decide) (by decide) (by decide) (Nat.le_of_ble_eq_true rfl) rfl rfl rfl rfl ?_
        rcases Option.eq_none_or_eq_some (c_rn A UA (some kA) ko (nI (mt_n ti))) with hk46 | ⟨k44, hk46⟩
        · refine jv_topR (y := none) (by rw [hk46]; rfl) ?_
          refine jv_astoreR (q := 155) (lo' := [(8, va_rf none), (7, .int (nI i)), (6, .int (jv_bI al)), (0, .ref (z 6 4)), (1, .ref (z 0 a)), (2, .ref (z 0 b)), (3, .ref (T (10 * a + kA))), (4, .ref (T (10 * b + kB)))]) (x := none) G dX4_trialFits_153 (by decide) rfl rfl ?_
          refine jv_aload_n (q := 156) G 3 dX4_trialFits_155 rfl rfl rfl ?_
          refine jv_getQ (q := 159) G dX4_trialFits_156 fl_X4_21 rfl lp1.1 lp1.2.2.1 rfl ?_
          refine jv_aload_n (q := 160) G 4 dX4_trialFits_159 rfl rfl rfl ?_
          refine jv_aloadR (q := 162) G 0 dX4_trialFits_160 rfl rfl ?_
          refine jv_callV_I (q := 165) (h1 := h3) (As := [.ref (z 0 a), va_rf none]) (rest := []) (ce' := 0) (sl' := 0) (r := nI (c_hn A UA kd ty (nI (mt_n ti)) ko none)) G Z ml_X4_137 (k_runO (rn := none) hlt hA1 uA1 hu1 hkd hK (fun K q => by cases q)) lp1.2.2.2.2 dX4_trialFits_162 rfl (by decide) (by decide) (by decide) (by decide) (Nat.le_of_ble_eq_true rfl) rfl rfl rfl rfl ?_
          have hnA := hn_lt A UA kd ty (nI (mt_n ti)) ko none
          refine jv_if_neN (q := 168) (tgt := 214) G dX4_trialFits_165 (by decide) rfl (by omega) (fun c47 => ?_) (fun c47 => ?_)
          · refine jv_iinc (q := 217) (lo' := [(7, .int (nI (i + 1))), (8, va_rf none), (6, .int (jv_bI al)), (0, .ref (z 6 4)), (1, .ref (z 0 a)), (2, .ref (z 0 b)), (3, .ref (T (10 * a + kA))), (4, .ref (T (10 * b + kB)))]) (v := nI (i + 1)) G 1 dX4_trialFits_214 rfl (nI_1 i) (by decide) rfl rfl ?_
            refine jv_goto (q := 104) G dX4_trialFits_217 (by decide) ?_
            refine jv_lo [0, 2, 3, 4, 5, 6, 7] (lo' := [(7, .int (nI (i + 1))), (6, .int (jv_bI al)), (0, .ref (z 6 4)), (1, .ref (z 0 a)), (2, .ref (z 0 b)), (3, .ref (T (10 * a + kA))), (4, .ref (T (10 * b + kB)))]) rfl ?_
            have hbi : (c_tb A B UA UB kd ty ko (some kA) (some kB) al) i = false := by
              unfold c_tb; rw [hti]; simp [c47, hk46]
            exact ih (i + 1) _ _ (by omega) (by rw [m_any, hm, hbi]; rfl) hF hu1
          · refine jv_aload_n (q := 169) G 5 dX4_trialFits_168 rfl rfl rfl ?_
            refine jv_aload (q := 171) G 7 dX4_trialFits_169 rfl rfl ?_
            refine jv_aload_n (q := 172) G 3 dX4_trialFits_171 rfl rfl rfl ?_
            refine jv_getQ (q := 175) G dX4_trialFits_172 fl_X4_21 rfl lp1.1 lp1.2.2.1 rfl ?_
            refine jv_getI (q := 178) G dX4_trialFits_175 fl_X4_127 rfl lp1.2.2.2.2 hu1.2.2.2.1 rfl ?_
            refine jv_aload_n (q := 179) G 5 dX4_trialFits_178 rfl rfl rfl ?_
            refine jv_aload_n (q := 180) G 3 dX4_trialFits_179 rfl rfl rfl ?_
            refine jv_getQ (q := 183) G dX4_trialFits_180 fl_X4_21 rfl lp1.1 lp1.2.2.1 rfl ?_
            refine jv_getI (q := 186) G dX4_trialFits_183 fl_X4_124 rfl lp1.2.2.2.2 hu1.2.2.2.2.1 rfl ?_
            refine jv_callV_R (q := 189) (h1 := h3) (As := [.int (nI (mt_n ti))]) (rest := [.int (jv_oN ko), .ref (T (10 * b + kB)), .ref (z 0 b)]) (ce' := 0) (sl' := 0) (r := ((m_cn B (nI (mt_n ti)) false).map (fun k => T (10 * b + k)))) G Z ml_X4_130 (k_classNamed hlt hB1) hB1.1.1 dX4_trialFits_186 rfl (by decide) (by decide) (by decide) (by decide) (Nat.le_of_ble_eq_true rfl) rfl rfl rfl rfl ?_
            rcases Option.eq_none_or_eq_some (m_cn B (nI (mt_n ti)) false) with hk50 | ⟨k48, hk50⟩
            · refine jv_topR (y := none) (by rw [hk50]; rfl) ?_
              refine jv_callV_R (q := 192) (h1 := h3) (As := [.ref (T (10 * b + kB)), .int (jv_oN ko), va_rf none]) (rest := []) (ce' := 0) (sl' := 0) (r := ((c_rn B UB (some kB) ko (nI (mt_n ti))).map (fun k => T (10 * b + k)))) G Z ml_X4_133 (k_selO (rc := nI (mt_n ti)) (ho := (some kB)) (ro := none) hlt hB1 uB1 hK (fun K q => by cases q; exact jv_ltGet htB) hk50) hB1.1.1 dX4_trialFits_189 rfl (by decide) (by decide) (by decide) (by decide) (Nat.le_of_ble_eq_true rfl) rfl rfl rfl rfl ?_
              rcases Option.eq_none_or_eq_some (c_rn B UB (some kB) ko (nI (mt_n ti))) with hk53 | ⟨k51, hk53⟩
              · refine jv_topR (y := none) (by rw [hk53]; rfl) ?_
                refine jv_astoreR (q := 194) (lo' := [(9, va_rf none), (8, va_rf none), (7, .int (nI i)), (6, .int (jv_bI al)), (0, .ref (z 6 4)), (1, .ref (z 0 a)), (2, .ref (z 0 b)), (3, .ref (T (10 * a + kA))), (4, .ref (T (10 * b + kB)))]) (x := none) G dX4_trialFits_192 (by decide) rfl rfl ?_
                refine jv_iload (q := 196) G 3 dX4_trialFits_194 rfl rfl ?_
                refine jv_if_eqB (q := 199) (tgt := 212) G dX4_trialFits_196 (by decide) rfl (fun c54 => ?_) (fun c54 => ?_)
                · refine jv_iconst (q := 213) (v := nI 0) G dX4_trialFits_212 (by decide) rfl ?_
                  refine jv_topI (y := jv_bI false) rfl ?_
                  refine jv_zret G hr dX4_trialFits_213 (Nat.le_of_ble_eq_true rfl) (Nat.le_of_ble_eq_true rfl) ?_
                  have hbi : (c_tb A B UA UB kd ty ko (some kA) (some kB) al) i = true := by
                    unfold c_tb; rw [hti]; simp [c47, c54, hk46, hk53]
                  refine ⟨?_, hF⟩; rw [any_i.mpr ⟨i, by omega, hbi⟩]; rfl
                · refine jv_aload_n (q := 200) G 4 dX4_trialFits_199 rfl rfl rfl ?_
                  refine jv_getQ (q := 203) G dX4_trialFits_200 fl_X4_21 rfl lp1.1 lp1.2.2.1 rfl ?_
                  refine jv_aload_n (q := 204) G 6 dX4_trialFits_203 rfl rfl rfl ?_
                  refine jv_aloadR (q := 206) G 0 dX4_trialFits_204 rfl rfl ?_
                  refine jv_callV_I (q := 209) (h1 := h3) (As := [.ref (z 0 b), va_rf none]) (rest := []) (ce' := 0) (sl' := 0) (r := nI (c_hn B UB kd ty (nI (mt_n ti)) ko none)) G Z ml_X4_137 (k_runO (rn := none) hlt hB1 uB1 hu1 hkd hK (fun K q => by cases q)) lp1.2.2.2.2 dX4_trialFits_206 rfl (by decide) (by decide) (by decide) (by decide) (Nat.le_of_ble_eq_true rfl) rfl rfl rfl rfl ?_
                  have hnB := hn_lt B UB kd ty (nI (mt_n ti)) ko none
                  refine jv_if_eqN (q := 212) (tgt := 214) G dX4_trialFits_209 (by decide) rfl (by omega) (fun c55 => ?_) (fun c55 => ?_)
                  · refine jv_iinc (q := 217) (lo' := [(7, .int (nI (i + 1))), (9, va_rf none), (8, va_rf none), (6, .int (jv_bI al)), (0, .ref (z 6 4)), (1, .ref (z 0 a)), (2, .ref (z 0 b)), (3, .ref (T (10 * a + kA))), (4, .ref (T (10 * b + kB)))]) (v := nI (i + 1)) G 2 dX4_trialFits_214 rfl (nI_1 i) (by decide) rfl rfl ?_
                    refine jv_goto (q := 104) G dX4_trialFits_217 (by decide) ?_
                    refine jv_lo [0, 3, 4, 5, 6, 7, 8] (lo' := [(7, .int (nI (i + 1))), (6, .int (jv_bI al)), (0, .ref (z 6 4)), (1, .ref (z 0 a)), (2, .ref (z 0 b)), (3, .ref (T (10 * a + kA))), (4, .ref (T (10 * b + kB)))]) rfl ?_
                    have hbi : (c_tb A B UA UB kd ty ko (some kA) (some kB) al) i = false := by
                      unfold c_tb; rw [hti]; simp [c47, c54, c55, hk46, hk53]
                    exact ih (i + 1) _ _ (by omega) (by rw [m_any, hm, hbi]; rfl) hF hu1
                  · refine jv_iconst (q := 213) (v := nI 0) G dX4_trialFits_212 (by decide) rfl ?_
                    refine jv_topI (y := jv_bI false) rfl ?_
                    refine jv_zret G hr dX4_trialFits_213 (Nat.le_of_ble_eq_true rfl) (Nat.le_of_ble_eq_true rfl) ?_
                    have hbi : (c_tb A B UA UB kd ty ko (some kA) (some kB) al) i = true := by
                      unfold c_tb; rw [hti]; simp [c47, c54, c55, hk46, hk53]
                    refine ⟨?_, hF⟩; rw [any_i.mpr ⟨i, by omega, hbi⟩]; rfl
              · refine jv_topR (y := (some (T (10 * b + k51)))) (by rw [hk53]; rfl) ?_
                obtain ⟨t52, ht52, nt52⟩ := rn_get hk53
                have lt52 := jv_ltGet ht52
                have k10t52 : k51 < 10 := by have := hB1.2.2.2.1; omega
                have Ot52 := (hB1.2.2.2.2.1 k51 t52 ht52).2
                have Vt52 := (hB1.2.2.2.2.1 k51 t52 ht52).1
                have Yt52 := hB1.2.1 k51 k10t52
                have bt52n := Ot52.1; have bt52k := Ot52.2.1
                refine jv_astore (q := 194) (lo' := [(9, .ref (T (10 * b + k51))), (8, va_rf none), (7, .int (nI i)), (6, .int (jv_bI al)), (0, .ref (z 6 4)), (1, .ref (z 0 a)), (2, .ref (z 0 b)), (3, .ref (T (10 * a + kA))), (4, .ref (T (10 * b + kB)))]) G dX4_trialFits_192 (by decide) rfl rfl ?_
                refine jv_iload (q := 196) G 3 dX4_trialFits_194 rfl rfl ?_
                refine jv_if_eqB (q := 199) (tgt := 212) G dX4_trialFits_196 (by decide) rfl (fun c56 => ?_) (fun c56 => ?_)
                · refine jv_iconst (q := 213) (v := nI 0) G dX4_trialFits_212 (by decide) rfl ?_
                  refine jv_topI (y := jv_bI false) rfl ?_
                  refine jv_zret G hr dX4_trialFits_213 (Nat.le_of_ble_eq_true rfl) (Nat.le_of_ble_eq_true rfl) ?_
                  have hbi : (c_tb A B UA UB kd ty ko (some kA) (some kB) al) i = true := by
                    unfold c_tb; rw [hti]; simp [c47, c56, hk46, hk53]
                  refine ⟨?_, hF⟩; rw [any_i.mpr ⟨i, by omega, hbi⟩]; rfl
                · refine jv_aload_n (q := 200) G 4 dX4_trialFits_199 rfl rfl rfl ?_
                  refine jv_getQ (q := 203) G dX4_trialFits_200 fl_X4_21 rfl lp1.1 lp1.2.2.1 rfl ?_
                  refine jv_aload_n (q := 204) G 6 dX4_trialFits_203 rfl rfl rfl ?_
                  refine jv_aload (q := 206) G 0 dX4_trialFits_204 rfl rfl ?_
                  refine jv_callV_I (q := 209) (h1 := h3) (As := [.ref (z 0 b), .ref (T (10 * b + k51))]) (rest := []) (ce' := 0) (sl' := 0) (r := nI (c_hn B UB kd ty (nI (mt_n ti)) ko (some k51))) G Z ml_X4_137 (k_runO (rn := (some k51)) hlt hB1 uB1 hu1 hkd hK (fun K q => by cases q; exact jv_ltGet ht52)) lp1.2.2.2.2 dX4_trialFits_206 rfl (by decide) (by decide) (by decide) (by decide) (Nat.le_of_ble_eq_true rfl) rfl rfl rfl rfl ?_
                  have hnB := hn_lt B UB kd ty (nI (mt_n ti)) ko (some k51)
                  refine jv_if_eqN (q := 212) (tgt := 214) G dX4_trialFits_209 (by decide) rfl (by omega) (fun c57 => ?_) (fun c57 => ?_)
                  · refine jv_iinc (q := 217) (lo' := [(7, .int (nI (i + 1))), (9, .ref (T (10 * b + k51))), (8, va_rf none), (6, .int (jv_bI al)), (0, .ref (z 6 4)), (1, .ref (z 0 a)), (2, .ref (z 0 b)), (3, .ref (T (10 * a + kA))), (4, .ref (T (10 * b + kB)))]) (v := nI (i + 1)) G 2 dX4_trialFits_214 rfl (nI_1 i) (by decide) rfl rfl ?_
                    refine jv_goto (q := 104) G dX4_trialFits_217 (by decide) ?_
                    refine jv_lo [0, 3, 4, 5, 6, 7, 8] (lo' := [(7, .int (nI (i + 1))), (6, .int (jv_bI al)), (0, .ref (z 6 4)), (1, .ref (z 0 a)), (2, .ref (z 0 b)), (3, .ref (T (10 * a + kA))), (4, .ref (T (10 * b + kB)))]) rfl ?_
                    have hbi : (c_tb A B UA UB kd ty ko (some kA) (some kB) al) i = false := by
                      unfold c_tb; rw [hti]; simp [c47, c56, c57, hk46, hk53]
                    exact ih (i + 1) _ _ (by omega) (by rw [m_any, hm, hbi]; rfl) hF hu1
                  · refine jv_iconst (q := 213) (v := nI 0) G dX4_trialFits_212 (by decide) rfl ?_
                    refine jv_topI (y := jv_bI false) rfl ?_
                    refine jv_zret G hr dX4_trialFits_213 (Nat.le_of_ble_eq_true rfl) (Nat.le_of_ble_eq_true rfl) ?_
                    have hbi : (c_tb A B UA UB kd ty ko (some kA) (some kB) al) i = true := by
                      unfold c_tb; rw [hti]; simp [c47, c56, c57, hk46, hk53]
                    refine ⟨?_, hF⟩; rw [any_i.mpr ⟨i, by omega, hbi⟩]; rfl
            · refine jv_topR (y := (some (T (10 * b + k48)))) (by rw [hk50]; rfl) ?_
              obtain ⟨t49, ht49, nt49⟩ := m_cn_get hk50
              have lt49 := jv_ltGet ht49
              have k10t49 : k48 < 10 := by have := hB1.2.2.2.1; omega
              have Ot49 := (hB1.2.2.2.2.1 k48 t49 ht49).2
              have Vt49 := (hB1.2.2.2.2.1 k48 t49 ht49).1
              have Yt49 := hB1.2.1 k48 k10t49
              have bt49n := Ot49.1; have bt49k := Ot49.2.1
              refine jv_callV_R (q := 192) (h1 := h3) (As := [.ref (T (10 * b + kB)), .int (jv_oN ko), .ref (T (10 * b + k48))]) (rest := []) (ce' := 0) (sl' := 0) (r := ((c_rn B UB (some kB) ko (nI (mt_n ti))).map (fun k => T (10 * b + k)))) G Z ml_X4_133 (k_selO (rc := nI (mt_n ti)) (ho := (some kB)) (ro := (some k48)) hlt hB1 uB1 hK (fun K q => by cases q; exact jv_ltGet htB) hk50) hB1.1.1 dX4_trialFits_189 rfl (by decide) (by decide) (by decide) (by decide) (Nat.le_of_ble_eq_true rfl) rfl rfl rfl rfl ?_
              rcases Option.eq_none_or_eq_some (c_rn B UB (some kB) ko (nI (mt_n ti))) with hk60 | ⟨k58, hk60⟩
              · refine jv_topR (y := none) (by rw [hk60]; rfl) ?_
                refine jv_astoreR (q := 194) (lo' := [(9, va_rf none), (8, va_rf none), (7, .int (nI i)), (6, .int (jv_bI al)), (0, .ref (z 6 4)), (1, .ref (z 0 a)), (2, .ref (z 0 b)), (3, .ref (T (10 * a + kA))), (4, .ref (T (10 * b + kB)))]) (x := none) G dX4_trialFits_192 (by decide) rfl rfl ?_
                refine jv_iload (q := 196) G 3 dX4_trialFits_194 rfl rfl ?_
                refine jv_if_eqB (q := 199) (tgt := 212) G dX4_trialFits_196 (by decide) rfl (fun c61 => ?_) (fun c61 => ?_)
                · refine jv_iconst (q := 213) (v := nI 0) G dX4_trialFits_212 (by decide) rfl ?_
                  refine jv_topI (y := jv_bI false) rfl ?_
                  refine jv_zret G hr dX4_trialFits_213 (Nat.le_of_ble_eq_true rfl) (Nat.le_of_ble_eq_true rfl) ?_
                  have hbi : (c_tb A B UA UB kd ty ko (some kA) (some kB) al) i = true := by
                    unfold c_tb; rw [hti]; simp [c47, c61, hk46, hk60]
                  refine ⟨?_, hF⟩; rw [any_i.mpr ⟨i, by omega, hbi⟩]; rfl
                · refine jv_aload_n (q := 200) G 4 dX4_trialFits_199 rfl rfl rfl ?_
                  refine jv_getQ (q := 203) G dX4_trialFits_200 fl_X4_21 rfl lp1.1 lp1.2.2.1 rfl ?_
                  refine jv_aload_n (q := 204) G 6 dX4_trialFits_203 rfl rfl rfl ?_
                  refine jv_aloadR (q := 206) G 0 dX4_trialFits_204 rfl rfl ?_
                  refine jv_callV_I (q := 209) (h1 := h3) (As := [.ref (z 0 b), va_rf none]) (rest := []) (ce' := 0) (sl' := 0) (r := nI (c_hn B UB kd ty (nI (mt_n ti)) ko none)) G Z ml_X4_137 (k_runO (rn := none) hlt hB1 uB1 hu1 hkd hK (fun K q => by cases q)) lp1.2.2.2.2 dX4_trialFits_206 rfl (by decide) (by decide) (by decide) (by decide) (Nat.le_of_ble_eq_true rfl) rfl rfl rfl rfl ?_
                  have hnB := hn_lt B UB kd ty (nI (mt_n ti)) ko none
                  refine jv_if_eqN (q := 212) (tgt := 214) G dX4_trialFits_209 (by decide) rfl (by omega) (fun c62 => ?_) (fun c62 => ?_)
                  · refine jv_iinc (q := 217) (lo' := [(7, .int (nI (i + 1))), (9, va_rf none), (8, va_rf none), (6, .int (jv_bI al)), (0, .ref (z 6 4)), (1, .ref (z 0 a)), (2, .ref (z 0 b)), (3, .ref (T (10 * a + kA))), (4, .ref (T (10 * b + kB)))]) (v := nI (i + 1)) G 2 dX4_trialFits_214 rfl (nI_1 i) (by decide) rfl rfl ?_
                    refine jv_goto (q := 104) G dX4_trialFits_217 (by decide) ?_
                    refine jv_lo [0, 3, 4, 5, 6, 7, 8] (lo' := [(7, .int (nI (i + 1))), (6, .int (jv_bI al)), (0, .ref (z 6 4)), (1, .ref (z 0 a)), (2, .ref (z 0 b)), (3, .ref (T (10 * a + kA))), (4, .ref (T (10 * b + kB)))]) rfl ?_
                    have hbi : (c_tb A B UA UB kd ty ko (some kA) (some kB) al) i = false := by
                      unfold c_tb; rw [hti]; simp [c47, c61, c62, hk46, hk60]
                    exact ih (i + 1) _ _ (by omega) (by rw [m_any, hm, hbi]; rfl) hF hu1
                  · refine jv_iconst (q := 213) (v := nI 0) G dX4_trialFits_212 (by decide) rfl ?_
                    refine jv_topI (y := jv_bI false) rfl ?_
                    refine jv_zret G hr dX4_trialFits_213 (Nat.le_of_ble_eq_true rfl) (Nat.le_of_ble_eq_true rfl) ?_
                    have hbi : (c_tb A B UA UB kd ty ko (some kA) (some kB) al) i = true := by
                      unfold c_tb; rw [hti]; simp [c47, c61, c62, hk46, hk60]
                    refine ⟨?_, hF⟩; rw [any_i.mpr ⟨i, by omega, hbi⟩]; rfl
              · refine jv_topR (y := (some (T (10 * b + k58)))) (by rw [hk60]; rfl) ?_
                obtain ⟨t59, ht59, nt59⟩ := rn_get hk60
                have lt59 := jv_ltGet ht59
                have k10t59 : k58 < 10 := by have := hB1.2.2.2.1; omega
                have Ot59 := (hB1.2.2.2.2.1 k58 t59 ht59).2
                have Vt59 := (hB1.2.2.2.2.1 k58 t59 ht59).1
                have Yt59 := hB1.2.1 k58 k10t59
                have bt59n := Ot59.1; have bt59k := Ot59.2.1
                refine jv_astore (q := 194) (lo' := [(9, .ref (T (10 * b + k58))), (8, va_rf none), (7, .int (nI i)), (6, .int (jv_bI al)), (0, .ref (z 6 4)), (1, .ref (z 0 a)), (2, .ref (z 0 b)), (3, .ref (T (10 * a + kA))), (4, .ref (T (10 * b + kB)))]) G dX4_trialFits_192 (by decide) rfl rfl ?_
                refine jv_iload (q := 196) G 3 dX4_trialFits_194 rfl rfl ?_
                refine jv_if_eqB (q := 199) (tgt := 212) G dX4_trialFits_196 (by decide) rfl (fun c63 => ?_) (fun c63 => ?_)
                · refine jv_iconst (q := 213) (v := nI 0) G dX4_trialFits_212 (by decide) rfl ?_
                  refine jv_topI (y := jv_bI false) rfl ?_
                  refine jv_zret G hr dX4_trialFits_213 (Nat.le_of_ble_eq_true rfl) (Nat.le_of_ble_eq_true rfl) ?_
                  have hbi : (c_tb A B UA UB kd ty ko (some kA) (some kB) al) i = true := by
                    unfold c_tb; rw [hti]; simp [c47, c63, hk46, hk60]
                  refine ⟨?_, hF⟩; rw [any_i.mpr ⟨i, by omega, hbi⟩]; rfl
                · refine jv_aload_n (q := 200) G 4 dX4_trialFits_199 rfl rfl rfl ?_
                  refine jv_getQ (q := 203) G dX4_trialFits_200 fl_X4_21 rfl lp1.1 lp1.2.2.1 rfl ?_
                  refine jv_aload_n (q := 204) G 6 dX4_trialFits_203 rfl rfl rfl ?_
                  refine jv_aload (q := 206) G 0 dX4_trialFits_204 rfl rfl ?_
                  refine jv_callV_I (q := 209) (h1 := h3) (As := [.ref (z 0 b), .ref (T (10 * b + k58))]) (rest := []) (ce' := 0) (sl' := 0) (r := nI (c_hn B UB kd ty (nI (mt_n ti)) ko (some k58))) G Z ml_X4_137 (k_runO (rn := (some k58)) hlt hB1 uB1 hu1 hkd hK (fun K q => by cases q; exact jv_ltGet ht59)) lp1.2.2.2.2 dX4_trialFits_206 rfl (by decide) (by decide) (by decide) (by decide) (Nat.le_of_ble_eq_true rfl) rfl rfl rfl rfl ?_
                  have hnB := hn_lt B UB kd ty (nI (mt_n ti)) ko (some k58)
                  refine jv_if_eqN (q := 212) (tgt := 214) G dX4_trialFits_209 (by decide) rfl (by omega) (fun c64 => ?_) (fun c64 => ?_)
                  · refine jv_iinc (q := 217) (lo' := [(7, .int (nI (i + 1))), (9, .ref (T (10 * b + k58))), (8, va_rf none), (6, .int (jv_bI al)), (0, .ref (z 6 4)), (1, .ref (z 0 a)), (2, .ref (z 0 b)), (3, .ref (T (10 * a + kA))), (4, .ref (T (10 * b + kB)))]) (v := nI (i + 1)) G 2 dX4_trialFits_214 rfl (nI_1 i) (by decide) rfl rfl ?_
                    refine jv_goto (q := 104) G dX4_trialFits_217 (by decide) ?_
                    refine jv_lo [0, 3, 4, 5, 6, 7, 8] (lo' := [(7, .int (nI (i + 1))), (6, .int (jv_bI al)), (0, .ref (z 6 4)), (1, .ref (z 0 a)), (2, .ref (z 0 b)), (3, .ref (T (10 * a + kA))), (4, .ref (T (10 * b + kB)))]) rfl ?_
                    have hbi : (c_tb A B UA UB kd ty ko (some kA) (some kB) al) i = false := by
                      unfold c_tb; rw [hti]; simp [c47, c63, c64, hk46, hk60]
                    exact ih (i + 1) _ _ (by omega) (by rw [m_any, hm, hbi]; rfl) hF hu1
                  · refine jv_iconst (q := 213) (v := nI 0) G dX4_trialFits_212 (by decide) rfl ?_
                    refine jv_topI (y := jv_bI false) rfl ?_
                    refine jv_zret G hr dX4_trialFits_213 (Nat.le_of_ble_eq_true rfl) (Nat.le_of_ble_eq_true rfl) ?_
                    have hbi : (c_tb A B UA UB kd ty ko (some kA) (some kB) al) i = true := by
                      unfold c_tb; rw [hti]; simp [c47, c63, c64, hk46, hk60]
                    refine ⟨?_, hF⟩; rw [any_i.mpr ⟨i, by omega, hbi⟩]; rfl
        · refine jv_topR (y := (some (T (10 * a + k44)))) (by rw [hk46]; rfl) ?_
          obtain ⟨t45, ht45, nt45⟩ := rn_get hk46
          have lt45 := jv_ltGet ht45
          have k10t45 : k44 < 10 := by have := hA1.2.2.2.1; omega
          have Ot45 := (hA1.2.2.2.2.1 k44 t45 ht45).2
          have Vt45 := (hA1.2.2.2.2.1 k44 t45 ht45).1
          have Yt45 := hA1.2.1 k44 k10t45
          have bt45n := Ot45.1; have bt45k := Ot45.2.1
          refine jv_astore (q := 155) (lo' := [(8, .ref (T (10 * a + k44))), (7, .int (nI i)), (6, .int (jv_bI al)), (0, .ref (z 6 4)), (1, .ref (z 0 a)), (2, .ref (z 0 b)), (3, .ref (T (10 * a + kA))), (4, .ref (T (10 * b + kB)))]) G dX4_trialFits_153 (by decide) rfl rfl ?_
          refine jv_aload_n (q := 156) G 3 dX4_trialFits_155 rfl rfl rfl ?_
          refine jv_getQ (q := 159) G dX4_trialFits_156 fl_X4_21 rfl lp1.1 lp1.2.2.1 rfl ?_
          refine jv_aload_n (q := 160) G 4 dX4_trialFits_159 rfl rfl rfl ?_
          refine jv_aload (q := 162) G 0 dX4_trialFits_160 rfl rfl ?_
          refine jv_callV_I (q := 165) (h1 := h3) (As := [.ref (z 0 a), .ref (T (10 * a + k44))]) (rest := []) (ce' := 0) (sl' := 0) (r := nI (c_hn A UA kd ty (nI (mt_n ti)) ko (some k44))) G Z ml_X4_137 (k_runO (rn := (some k44)) hlt hA1 uA1 hu1 hkd hK (fun K q => by cases q; exact jv_ltGet ht45)) lp1.2.2.2.2 dX4_trialFits_162 rfl (by decide) (by decide) (by decide) (by decide) (Nat.le_of_ble_eq_true rfl) rfl rfl rfl rfl ?_
          have hnA := hn_lt A UA kd ty (nI (mt_n ti)) ko (some k44)
          refine jv_if_neN (q := 168) (tgt := 214) G dX4_trialFits_165 (by decide) rfl (by omega) (fun c65 => ?_) (fun c65 => ?_)
          · refine jv_iinc (q := 217) (lo' := [(7, .int (nI (i + 1))), (8, .ref (T (10 * a + k44))), (6, .int (jv_bI al)), (0, .ref (z 6 4)), (1, .ref (z 0 a)), (2, .ref (z 0 b)), (3, .ref (T (10 * a + kA))), (4, .ref (T (10 * b + kB)))]) (v := nI (i + 1)) G 1 dX4_trialFits_214 rfl (nI_1 i) (by decide) rfl rfl ?_
            refine jv_goto (q := 104) G dX4_trialFits_217 (by decide) ?_
            refine jv_lo [0, 2, 3, 4, 5, 6, 7] (lo' := [(7, .int (nI (i + 1))), (6, .int (jv_bI al)), (0, .ref (z 6 4)), (1, .ref (z 0 a)), (2, .ref (z 0 b)), (3, .ref (T (10 * a + kA))), (4, .ref (T (10 * b + kB)))]) rfl ?_
            have hbi : (c_tb A B UA UB kd ty ko (some kA) (some kB) al) i = false := by
              unfold c_tb; rw [hti]; simp [c65, hk46]
            exact ih (i + 1) _ _ (by omega) (by rw [m_any, hm, hbi]; rfl) hF hu1
          · refine jv_aload_n (q := 169) G 5 dX4_trialFits_168 rfl rfl rfl ?_
            refine jv_aload (q := 171) G 7 dX4_trialFits_169 rfl rfl ?_
            refine jv_aload_n (q := 172) G 3 dX4_trialFits_171 rfl rfl rfl ?_
            refine jv_getQ (q := 175) G dX4_trialFits_172 fl_X4_21 rfl lp1.1 lp1.2.2.1 rfl ?_
            refine jv_getI (q := 178) G dX4_trialFits_175 fl_X4_127 rfl lp1.2.2.2.2 hu1.2.2.2.1 rfl ?_
            refine jv_aload_n (q := 179) G 5 dX4_trialFits_178 rfl rfl rfl ?_
            refine jv_aload_n (q := 180) G 3 dX4_trialFits_179 rfl rfl rfl ?_
            refine jv_getQ (q := 183) G dX4_trialFits_180 fl_X4_21 rfl lp1.1 lp1.2.2.1 rfl ?_
            refine jv_getI (q := 186) G dX4_trialFits_183 fl_X4_124 rfl lp1.2.2.2.2 hu1.2.2.2.2.1 rfl ?_
            refine jv_callV_R (q := 189) (h1 := h3) (As := [.int (nI (mt_n ti))]) (rest := [.int (jv_oN ko), .ref (T (10 * b + kB)), .ref (z 0 b)]) (ce' := 0) (sl' := 0) (r := ((m_cn B (nI (mt_n ti)) false).map (fun k => T (10 * b + k)))) G Z ml_X4_130 (k_classNamed hlt hB1) hB1.1.1 dX4_trialFits_186 rfl (by decide) (by decide) (by decide) (by decide) (Nat.le_of_ble_eq_true rfl) rfl rfl rfl rfl ?_
            rcases Option.eq_none_or_eq_some (m_cn B (nI (mt_n ti)) false) with hk68 | ⟨k66, hk68⟩
            · refine jv_topR (y := none) (by rw [hk68]; rfl) ?_
              refine jv_callV_R (q := 192) (h1 := h3) (As := [.ref (T (10 * b + kB)), .int (jv_oN ko), va_rf none]) (rest := []) (ce' := 0) (sl' := 0) (r := ((c_rn B UB (some kB) ko (nI (mt_n ti))).map (fun k => T (10 * b + k)))) G Z ml_X4_133 (k_selO (rc := nI (mt_n ti)) (ho := (some kB)) (ro := none) hlt hB1 uB1 hK (fun K q => by cases q; exact jv_ltGet htB) hk68) hB1.1.1 dX4_trialFits_189 rfl (by decide) (by decide) (by decide) (by decide) (Nat.le_of_ble_eq_true rfl) rfl rfl rfl rfl ?_
              rcases Option.eq_none_or_eq_some (c_rn B UB (some kB) ko (nI (mt_n ti))) with hk71 | ⟨k69, hk71⟩
              · refine jv_topR (y := none) (by rw [hk71]; rfl) ?_
                refine jv_astoreR (q := 194) (lo' := [(9, va_rf none), (8, .ref (T (10 * a + k44))), (7, .int (nI i)), (6, .int (jv_bI al)), (0, .ref (z 6 4)), (1, .ref (z 0 a)), (2, .ref (z 0 b)), (3, .ref (T (10 * a + kA))), (4, .ref (T (10 * b + kB)))]) (x := none) G dX4_trialFits_192 (by decide) rfl rfl ?_
                refine jv_iload (q := 196) G 3 dX4_trialFits_194 rfl rfl ?_
                refine jv_if_eqB (q := 199) (tgt := 212) G dX4_trialFits_196 (by decide) rfl (fun c72 => ?_) (fun c72 => ?_)
                · refine jv_iconst (q := 213) (v := nI 0) G dX4_trialFits_212 (by decide) rfl ?_
                  refine jv_topI (y := jv_bI false) rfl ?_
                  refine jv_zret G hr dX4_trialFits_213 (Nat.le_of_ble_eq_true rfl) (Nat.le_of_ble_eq_true rfl) ?_
                  have hbi : (c_tb A B UA UB kd ty ko (some kA) (some kB) al) i = true := by
                    unfold c_tb; rw [hti]; simp [c65, c72, hk46, hk71]
                  refine ⟨?_, hF⟩; rw [any_i.mpr ⟨i, by omega, hbi⟩]; rfl
                · refine jv_aload_n (q := 200) G 4 dX4_trialFits_199 rfl rfl rfl ?_
                  refine jv_getQ (q := 203) G dX4_trialFits_200 fl_X4_21 rfl lp1.1 lp1.2.2.1 rfl ?_
                  refine jv_aload_n (q := 204) G 6 dX4_trialFits_203 rfl rfl rfl ?_
                  refine jv_aloadR (q := 206) G 0 dX4_trialFits_204 rfl rfl ?_
                  refine jv_callV_I (q := 209) (h1 := h3) (As := [.ref (z 0 b), va_rf none]) (rest := []) (ce' := 0) (sl' := 0) (r := nI (c_hn B UB kd ty (nI (mt_n ti)) ko none)) G Z ml_X4_137 (k_runO (rn := none) hlt hB1 uB1 hu1 hkd hK (fun K q => by cases q)) lp1.2.2.2.2 dX4_trialFits_206 rfl (by decide) (by decide) (by decide) (by decide) (Nat.le_of_ble_eq_true rfl) rfl rfl rfl rfl ?_
                  have hnB := hn_lt B UB kd ty (nI (mt_n ti)) ko none
                  refine jv_if_eqN (q := 212) (tgt := 214) G dX4_trialFits_209 (by decide) rfl (by omega) (fun c73 => ?_) (fun c73 => ?_)
                  · refine jv_iinc (q := 217) (lo' := [(7, .int (nI (i + 1))), (9, va_rf none), (8, .ref (T (10 * a + k44))), (6, .int (jv_bI al)), (0, .ref (z 6 4)), (1, .ref (z 0 a)), (2, .ref (z 0 b)), (3, .ref (T (10 * a + kA))), (4, .ref (T (10 * b + kB)))]) (v := nI (i + 1)) G 2 dX4_trialFits_214 rfl (nI_1 i) (by decide) rfl rfl ?_
                    refine jv_goto (q := 104) G dX4_trialFits_217 (by decide) ?_
                    refine jv_lo [0, 3, 4, 5, 6, 7, 8] (lo' := [(7, .int (nI (i + 1))), (6, .int (jv_bI al)), (0, .ref (z 6 4)), (1, .ref (z 0 a)), (2, .ref (z 0 b)), (3, .ref (T (10 * a + kA))), (4, .ref (T (10 * b + kB)))]) rfl ?_
                    have hbi : (c_tb A B UA UB kd ty ko (some kA) (some kB) al) i = false := by
                      unfold c_tb; rw [hti]; simp [c65, c72, c73, hk46, hk71]
                    exact ih (i + 1) _ _ (by omega) (by rw [m_any, hm, hbi]; rfl) hF hu1
                  · refine jv_iconst (q := 213) (v := nI 0) G dX4_trialFits_212 (by decide) rfl ?_
                    refine jv_topI (y := jv_bI false) rfl ?_
                    refine jv_zret G hr dX4_trialFits_213 (Nat.le_of_ble_eq_true rfl) (Nat.le_of_ble_eq_true rfl) ?_
                    have hbi : (c_tb A B UA UB kd ty ko (some kA) (some kB) al) i = true := by
                      unfold c_tb; rw [hti]; simp [c65, c72, c73, hk46, hk71]
                    refine ⟨?_, hF⟩; rw [any_i.mpr ⟨i, by omega, hbi⟩]; rfl
              · refine jv_topR (y := (some (T (10 * b + k69)))) (by rw [hk71]; rfl) ?_
                obtain ⟨t70, ht70, nt70⟩ := rn_get hk71
                have lt70 := jv_ltGet ht70
                have k10t70 : k69 < 10 := by have := hB1.2.2.2.1; omega
                have Ot70 := (hB1.2.2.2.2.1 k69 t70 ht70).2
                have Vt70 := (hB1.2.2.2.2.1 k69 t70 ht70).1
                have Yt70 := hB1.2.1 k69 k10t70
                have bt70n := Ot70.1; have bt70k := Ot70.2.1
                refine jv_astore (q := 194) (lo' := [(9, .ref (T (10 * b + k69))), (8, .ref (T (10 * a + k44))), (7, .int (nI i)), (6, .int (jv_bI al)), (0, .ref (z 6 4)), (1, .ref (z 0 a)), (2, .ref (z 0 b)), (3, .ref (T (10 * a + kA))), (4, .ref (T (10 * b + kB)))]) G dX4_trialFits_192 (by decide) rfl rfl ?_
                refine jv_iload (q := 196) G 3 dX4_trialFits_194 rfl rfl ?_
                refine jv_if_eqB (q := 199) (tgt := 212) G dX4_trialFits_196 (by decide) rfl (fun c74 => ?_) (fun c74 => ?_)
                · refine jv_iconst (q := 213) (v := nI 0) G dX4_trialFits_212 (by decide) rfl ?_
                  refine jv_topI (y := jv_bI false) rfl ?_
                  refine jv_zret G hr dX4_trialFits_213 (Nat.le_of_ble_eq_true rfl) (Nat.le_of_ble_eq_true rfl) ?_
                  have hbi : (c_tb A B UA UB kd ty ko (some kA) (some kB) al) i = true := by
                    unfold c_tb; rw [hti]; simp [c65, c74, hk46, hk71]
                  refine ⟨?_, hF⟩; rw [any_i.mpr ⟨i, by omega, hbi⟩]; rfl
                · refine jv_aload_n (q := 200) G 4 dX4_trialFits_199 rfl rfl rfl ?_
                  refine jv_getQ (q := 203) G dX4_trialFits_200 fl_X4_21 rfl lp1.1 lp1.2.2.1 rfl ?_
                  refine jv_aload_n (q := 204) G 6 dX4_trialFits_203 rfl rfl rfl ?_
                  refine jv_aload (q := 206) G 0 dX4_trialFits_204 rfl rfl ?_
                  refine jv_callV_I (q := 209) (h1 := h3) (As := [.ref (z 0 b), .ref (T (10 * b + k69))]) (rest := []) (ce' := 0) (sl' := 0) (r := nI (c_hn B UB kd ty (nI (mt_n ti)) ko (some k69))) G Z ml_X4_137 (k_runO (rn := (some k69)) hlt hB1 uB1 hu1 hkd hK (fun K q => by cases q; exact jv_ltGet ht70)) lp1.2.2.2.2 dX4_trialFits_206 rfl (by decide) (by decide) (by decide) (by decide) (Nat.le_of_ble_eq_true rfl) rfl rfl rfl rfl ?_
                  have hnB := hn_lt B UB kd ty (nI (mt_n ti)) ko (some k69)
                  refine jv_if_eqN (q := 212) (tgt := 214) G dX4_trialFits_209 (by decide) rfl (by omega) (fun c75 => ?_) (fun c75 => ?_)
                  · refine jv_iinc (q := 217) (lo' := [(7, .int (nI (i + 1))), (9, .ref (T (10 * b + k69))), (8, .ref (T (10 * a + k44))), (6, .int (jv_bI al)), (0, .ref (z 6 4)), (1, .ref (z 0 a)), (2, .ref (z 0 b)), (3, .ref (T (10 * a + kA))), (4, .ref (T (10 * b + kB)))]) (v := nI (i + 1)) G 2 dX4_trialFits_214 rfl (nI_1 i) (by decide) rfl rfl ?_
                    refine jv_goto (q := 104) G dX4_trialFits_217 (by decide) ?_
                    refine jv_lo [0, 3, 4, 5, 6, 7, 8] (lo' := [(7, .int (nI (i + 1))), (6, .int (jv_bI al)), (0, .ref (z 6 4)), (1, .ref (z 0 a)), (2, .ref (z 0 b)), (3, .ref (T (10 * a + kA))), (4, .ref (T (10 * b + kB)))]) rfl ?_
                    have hbi : (c_tb A B UA UB kd ty ko (some kA) (some kB) al) i = false := by
                      unfold c_tb; rw [hti]; simp [c65, c74, c75, hk46, hk71]
                    exact ih (i + 1) _ _ (by omega) (by rw [m_any, hm, hbi]; rfl) hF hu1
                  · refine jv_iconst (q := 213) (v := nI 0) G dX4_trialFits_212 (by decide) rfl ?_
                    refine jv_topI (y := jv_bI false) rfl ?_
                    refine jv_zret G hr dX4_trialFits_213 (Nat.le_of_ble_eq_true rfl) (Nat.le_of_ble_eq_true rfl) ?_
                    have hbi : (c_tb A B UA UB kd ty ko (some kA) (some kB) al) i = true := by
                      unfold c_tb; rw [hti]; simp [c65, c74, c75, hk46, hk71]
                    refine ⟨?_, hF⟩; rw [any_i.mpr ⟨i, by omega, hbi⟩]; rfl
            · refine jv_topR (y := (some (T (10 * b + k66)))) (by rw [hk68]; rfl) ?_
              obtain ⟨t67, ht67, nt67⟩ := m_cn_get hk68
              have lt67 := jv_ltGet ht67
              have k10t67 : k66 < 10 := by have := hB1.2.2.2.1; omega
              have Ot67 := (hB1.2.2.2.2.1 k66 t67 ht67).2
              have Vt67 := (hB1.2.2.2.2.1 k66 t67 ht67).1
              have Yt67 := hB1.2.1 k66 k10t67
              have bt67n := Ot67.1; have bt67k := Ot67.2.1
              refine jv_callV_R (q := 192) (h1 := h3) (As := [.ref (T (10 * b + kB)), .int (jv_oN ko), .ref (T (10 * b + k66))]) (rest := []) (ce' := 0) (sl' := 0) (r := ((c_rn B UB (some kB) ko (nI (mt_n ti))).map (fun k => T (10 * b + k)))) G Z ml_X4_133 (k_selO (rc := nI (mt_n ti)) (ho := (some kB)) (ro := (some k66)) hlt hB1 uB1 hK (fun K q => by cases q; exact jv_ltGet htB) hk68) hB1.1.1 dX4_trialFits_189 rfl (by decide) (by decide) (by decide) (by decide) (Nat.le_of_ble_eq_true rfl) rfl rfl rfl rfl ?_
              rcases Option.eq_none_or_eq_some (c_rn B UB (some kB) ko (nI (mt_n ti))) with hk78 | ⟨k76, hk78⟩
              · refine jv_topR (y := none) (by rw [hk78]; rfl) ?_
                refine jv_astoreR (q := 194) (lo' := [(9, va_rf none), (8, .ref (T (10 * a + k44))), (7, .int (nI i)), (6, .int (jv_bI al)), (0, .ref (z 6 4)), (1, .ref (z 0 a)), (2, .ref (z 0 b)), (3, .ref (T (10 * a + kA))), (4, .ref (T (10 * b + kB)))]) (x := none) G dX4_trialFits_192 (by decide) rfl rfl ?_
                refine jv_iload (q := 196) G 3 dX4_trialFits_194 rfl rfl ?_
                refine jv_if_eqB (q := 199) (tgt := 212) G dX4_trialFits_196 (by decide) rfl (fun c79 => ?_) (fun c79 => ?_)
                · refine jv_iconst (q := 213) (v := nI 0) G dX4_trialFits_212 (by decide) rfl ?_
                  refine jv_topI (y := jv_bI false) rfl ?_
                  refine jv_zret G hr dX4_trialFits_213 (Nat.le_of_ble_eq_true rfl) (Nat.le_of_ble_eq_true rfl) ?_
                  have hbi : (c_tb A B UA UB kd ty ko (some kA) (some kB) al) i = true := by
                    unfold c_tb; rw [hti]; simp [c65, c79, hk46, hk78]
                  refine ⟨?_, hF⟩; rw [any_i.mpr ⟨i, by omega, hbi⟩]; rfl
                · refine jv_aload_n (q := 200) G 4 dX4_trialFits_199 rfl rfl rfl ?_
                  refine jv_getQ (q := 203) G dX4_trialFits_200 fl_X4_21 rfl lp1.1 lp1.2.2.1 rfl ?_
                  refine jv_aload_n (q := 204) G 6 dX4_trialFits_203 rfl rfl rfl ?_
                  refine jv_aloadR (q := 206) G 0 dX4_trialFits_204 rfl rfl ?_
                  refine jv_callV_I (q := 209) (h1 := h3) (As := [.ref (z 0 b), va_rf none]) (rest := []) (ce' := 0) (sl' := 0) (r := nI (c_hn B UB kd ty (nI (mt_n ti)) ko none)) G Z ml_X4_137 (k_runO (rn := none) hlt hB1 uB1 hu1 hkd hK (fun K q => by cases q)) lp1.2.2.2.2 dX4_trialFits_206 rfl (by decide) (by decide) (by decide) (by decide) (Nat.le_of_ble_eq_true rfl) rfl rfl rfl rfl ?_
                  have hnB := hn_lt B UB kd ty (nI (mt_n ti)) ko none
                  refine jv_if_eqN (q := 212) (tgt := 214) G dX4_trialFits_209 (by decide) rfl (by omega) (fun c80 => ?_) (fun c80 => ?_)
                  · refine jv_iinc (q := 217) (lo' := [(7, .int (nI (i + 1))), (9, va_rf none), (8, .ref (T (10 * a + k44))), (6, .int (jv_bI al)), (0, .ref (z 6 4)), (1, .ref (z 0 a)), (2, .ref (z 0 b)), (3, .ref (T (10 * a + kA))), (4, .ref (T (10 * b + kB)))]) (v := nI (i + 1)) G 2 dX4_trialFits_214 rfl (nI_1 i) (by decide) rfl rfl ?_
                    refine jv_goto (q := 104) G dX4_trialFits_217 (by decide) ?_
                    refine jv_lo [0, 3, 4, 5, 6, 7, 8] (lo' := [(7, .int (nI (i + 1))), (6, .int (jv_bI al)), (0, .ref (z 6 4)), (1, .ref (z 0 a)), (2, .ref (z 0 b)), (3, .ref (T (10 * a + kA))), (4, .ref (T (10 * b + kB)))]) rfl ?_
                    have hbi : (c_tb A B UA UB kd ty ko (some kA) (some kB) al) i = false := by
                      unfold c_tb; rw [hti]; simp [c65, c79, c80, hk46, hk78]
                    exact ih (i + 1) _ _ (by omega) (by rw [m_any, hm, hbi]; rfl) hF hu1
                  · refine jv_iconst (q := 213) (v := nI 0) G dX4_trialFits_212 (by decide) rfl ?_
                    refine jv_topI (y := jv_bI false) rfl ?_
                    refine jv_zret G hr dX4_trialFits_213 (Nat.le_of_ble_eq_true rfl) (Nat.le_of_ble_eq_true rfl) ?_
                    have hbi : (c_tb A B UA UB kd ty ko (some kA) (some kB) al) i = true := by
                      unfold c_tb; rw [hti]; simp [c65, c79, c80, hk46, hk78]
                    refine ⟨?_, hF⟩; rw [any_i.mpr ⟨i, by omega, hbi⟩]; rfl
              · refine jv_topR (y := (some (T (10 * b + k76)))) (by rw [hk78]; rfl) ?_
                obtain ⟨t77, ht77, nt77⟩ := rn_get hk78
                have lt77 := jv_ltGet ht77
                have k10t77 : k76 < 10 := by have := hB1.2.2.2.1; omega
                have Ot77 := (hB1.2.2.2.2.1 k76 t77 ht77).2
                have Vt77 := (hB1.2.2.2.2.1 k76 t77 ht77).1
                have Yt77 := hB1.2.1 k76 k10t77
                have bt77n := Ot77.1; have bt77k := Ot77.2.1
                refine jv_astore (q := 194) (lo' := [(9, .ref (T (10 * b + k76))), (8, .ref (T (10 * a + k44))), (7, .int (nI i)), (6, .int (jv_bI al)), (0, .ref (z 6 4)), (1, .ref (z 0 a)), (2, .ref (z 0 b)), (3, .ref (T (10 * a + kA))), (4, .ref (T (10 * b + kB)))]) G dX4_trialFits_192 (by decide) rfl rfl ?_
                refine jv_iload (q := 196) G 3 dX4_trialFits_194 rfl rfl ?_
                refine jv_if_eqB (q := 199) (tgt := 212) G dX4_trialFits_196 (by decide) rfl (fun c81 => ?_) (fun c81 => ?_)
                · refine jv_iconst (q := 213) (v := nI 0) G dX4_trialFits_212 (by decide) rfl ?_
                  refine jv_topI (y := jv_bI false) rfl ?_
                  refine jv_zret G hr dX4_trialFits_213 (Nat.le_of_ble_eq_true rfl) (Nat.le_of_ble_eq_true rfl) ?_
                  have hbi : (c_tb A B UA UB kd ty ko (some kA) (some kB) al) i = true := by
                    unfold c_tb; rw [hti]; simp [c65, c81, hk46, hk78]
                  refine ⟨?_, hF⟩; rw [any_i.mpr ⟨i, by omega, hbi⟩]; rfl
                · refine jv_aload_n (q := 200) G 4 dX4_trialFits_199 rfl rfl rfl ?_
                  refine jv_getQ (q := 203) G dX4_trialFits_200 fl_X4_21 rfl lp1.1 lp1.2.2.1 rfl ?_
                  refine jv_aload_n (q := 204) G 6 dX4_trialFits_203 rfl rfl rfl ?_
                  refine jv_aload (q := 206) G 0 dX4_trialFits_204 rfl rfl ?_
                  refine jv_callV_I (q := 209) (h1 := h3) (As := [.ref (z 0 b), .ref (T (10 * b + k76))]) (rest := []) (ce' := 0) (sl' := 0) (r := nI (c_hn B UB kd ty (nI (mt_n ti)) ko (some k76))) G Z ml_X4_137 (k_runO (rn := (some k76)) hlt hB1 uB1 hu1 hkd hK (fun K q => by cases q; exact jv_ltGet ht77)) lp1.2.2.2.2 dX4_trialFits_206 rfl (by decide) (by decide) (by decide) (by decide) (Nat.le_of_ble_eq_true rfl) rfl rfl rfl rfl ?_
                  have hnB := hn_lt B UB kd ty (nI (mt_n ti)) ko (some k76)
                  refine jv_if_eqN (q := 212) (tgt := 214) G dX4_trialFits_209 (by decide) rfl (by omega) (fun c82 => ?_) (fun c82 => ?_)
                  · refine jv_iinc (q := 217) (lo' := [(7, .int (nI (i + 1))), (9, .ref (T (10 * b + k76))), (8, .ref (T (10 * a + k44))), (6, .int (jv_bI al)), (0, .ref (z 6 4)), (1, .ref (z 0 a)), (2, .ref (z 0 b)), (3, .ref (T (10 * a + kA))), (4, .ref (T (10 * b + kB)))]) (v := nI (i + 1)) G 2 dX4_trialFits_214 rfl (nI_1 i) (by decide) rfl rfl ?_
                    refine jv_goto (q := 104) G dX4_trialFits_217 (by decide) ?_
                    refine jv_lo [0, 3, 4, 5, 6, 7, 8] (lo' := [(7, .int (nI (i + 1))), (6, .int (jv_bI al)), (0, .ref (z 6 4)), (1, .ref (z 0 a)), (2, .ref (z 0 b)), (3, .ref (T (10 * a + kA))), (4, .ref (T (10 * b + kB)))]) rfl ?_
                    have hbi : (c_tb A B UA UB kd ty ko (some kA) (some kB) al) i = false := by
                      unfold c_tb; rw [hti]; simp [c65, c81, c82, hk46, hk78]
                    exact ih (i + 1) _ _ (by omega) (by rw [m_any, hm, hbi]; rfl) hF hu1
                  · refine jv_iconst (q := 213) (v := nI 0) G dX4_trialFits_212 (by decide) rfl ?_
                    refine jv_topI (y := jv_bI false) rfl ?_
                    refine jv_zret G hr dX4_trialFits_213 (Nat.le_of_ble_eq_true rfl) (Nat.le_of_ble_eq_true rfl) ?_
                    have hbi : (c_tb A B UA UB kd ty ko (some kA) (some kB) al) i = true := by
                      unfold c_tb; rw [hti]; simp [c65, c81, c82, hk46, hk78]
                    refine ⟨?_, hF⟩; rw [any_i.mpr ⟨i, by omega, hbi⟩]; rfl
set_option maxHeartbeats 4000000 in
set_option maxRecDepth 100000 in
theorem k_trialFits11 {lA : Launch} (hlt : lA.stackTraces = false) {D : jv_D} {base : Nat} {z : Nat → Nat → Nat} {T : Nat → Nat} {N : Nat → Nat → Nat} {h : jv_H} {a b : Nat} {A B : List mT} {UA UB : Nat → List Nat} (hA : cv_E z T N h a A) (hB : cv_E z T N h b B) (uA : cv_Us z T h a A UA) (uB : cv_Us z T h b B UB) (lp : cl_p z h) (ha8 : a < 8) {kd : Nat} {ty rc cv ow : Int32} {ko : Option Nat} (hu : cv_use h (z 5 260) kd ty ko rc cv ow) (hkd : kd < 6) (hK : ∀ K, ko = some K → K < 64) {kA : Nat} {tA : mT} (htA : A[kA]? = some tA) {kB : Nat} {tB : mT} (htB : B[kB]? = some tB) : jv_Met lA D base yX4_trialFits (.code yX4_trialFits cX4_trialFits 10 (some .boolean)) 5 0 0 [.ref (z 6 4), .ref (z 0 a), .ref (z 0 b), .ref (T (10 * a + kA)), .ref (T (10 * b + kB))] h (fun y h' => y = some (.int (jv_bI (c_tf A B UA UB kd ty rc ko (some kA) (some kB)))) ∧ cF (SP z) h h') jv_no := by
  refine jv_ofV (lo := [(0, .ref (z 6 4)), (1, .ref (z 0 a)), (2, .ref (z 0 b)), (3, .ref (T (10 * a + kA))), (4, .ref (T (10 * b + kB)))]) hlt (by decide) (Nat.le_of_ble_eq_true rfl) rfl (fun E hEl hEd hEz Z G hr ht hnm => ?_)
  subst hEl; subst hEd; subst hEz
  have hF : cF (SP z) h h := cF.rf
  have hA1 := hA; have hB1 := hB; have uA1 := uA; have uB1 := uB; have lp1 := lp; have hu1 := hu
  refine jv_iconst (q := 1) (v := nI 0) G dX4_trialFits_0 (by decide) rfl ?_
  refine jv_topI (y := jv_bI false) rfl ?_
  refine jv_istore (q := 3) (lo' := [(5, .int (jv_bI false)), (0, .ref (z 6 4)), (1, .ref (z 0 a)), (2, .ref (z 0 b)), (3, .ref (T (10 * a + kA))), (4, .ref (T (10 * b + kB)))]) G dX4_trialFits_1 (by decide) rfl rfl ?_
  refine jv_iconst (q := 4) (v := nI 1) G dX4_trialFits_3 (by decide) rfl ?_
  refine jv_topI (y := jv_bI true) rfl ?_
  refine jv_istore (q := 6) (lo' := [(6, .int (jv_bI true)), (5, .int (jv_bI false)), (0, .ref (z 6 4)), (1, .ref (z 0 a)), (2, .ref (z 0 b)), (3, .ref (T (10 * a + kA))), (4, .ref (T (10 * b + kB)))]) G dX4_trialFits_4 (by decide) rfl rfl ?_
  refine jv_iconst (q := 7) (v := nI 0) G dX4_trialFits_6 (by decide) rfl ?_
  refine jv_istore (q := 9) (lo' := [(7, .int (nI 0)), (6, .int (jv_bI true)), (5, .int (jv_bI false)), (0, .ref (z 6 4)), (1, .ref (z 0 a)), (2, .ref (z 0 b)), (3, .ref (T (10 * a + kA))), (4, .ref (T (10 * b + kB)))]) G dX4_trialFits_7 (by decide) rfl rfl ?_
  refine jv_lo [0, 2, 1, 3, 4, 5, 6, 7] (lo' := [(7, .int (nI 0)), (5, .int (jv_bI false)), (6, .int (jv_bI true)), (0, .ref (z 6 4)), (1, .ref (z 0 a)), (2, .ref (z 0 b)), (3, .ref (T (10 * a + kA))), (4, .ref (T (10 * b + kB)))]) rfl ?_
  show jv_V E 10 h 0 0 (jv_Q E (fun y h' => y = some (.int (jv_bI (c_tf A B UA UB kd ty rc ko (some kA) (some kB)))) ∧ cF (SP z) h h') jv_no 0 0) 9 [(7, .int (nI 0)), (5, .int (jv_bI ((c_t1 A B UA UB kd ty rc ko (some kA) (some kB) 0).1))), (6, .int (jv_bI ((c_t1 A B UA UB kd ty rc ko (some kA) (some kB) 0).2))), (0, .ref (z 6 4)), (1, .ref (z 0 a)), (2, .ref (z 0 b)), (3, .ref (T (10 * a + kA))), (4, .ref (T (10 * b + kB)))] []
  refine k_tf_l111 hA hB uA uB lp ha8 hu hkd hK htA htB hlt G Z (fun h2 hF hu1 => ?_) 5 0 _ (by omega) cF.rf hu
  have hA1 := s06_E (sp_S lp) hF hA; have hB1 := s06_E (sp_S lp) hF hB; have uA1 := s06_U (sp_S lp) hF hA uA; have uB1 := s06_U (sp_S lp) hF hB uB; have lp1 := sp_L hF lp
  refine jv_iload (q := 85) G 0 dX4_trialFits_83 rfl rfl ?_
  refine jv_if_eqB (q := 88) (tgt := 98) G dX4_trialFits_85 (by decide) rfl (fun c1 => ?_) (fun c1 => ?_)
  · refine jv_iload (q := 100) G 1 dX4_trialFits_98 rfl rfl ?_
    refine jv_zret G hr dX4_trialFits_100 (Nat.le_of_ble_eq_true rfl) (Nat.le_of_ble_eq_true rfl) ?_
    refine ⟨?_, hF⟩; unfold c_tf; rw [if_neg (fun q => by simp [c1] at q)]
  · refine jv_aload_n (q := 89) G 2 dX4_trialFits_88 rfl rfl rfl ?_
    refine jv_getQ (q := 92) G dX4_trialFits_89 fl_X4_21 rfl lp1.1 lp1.2.2.1 rfl ?_
    refine jv_callV_I (q := 95) (h1 := h2) (As := []) (rest := []) (ce' := 0) (sl' := 0) (r := jv_bI (m_rv kd)) G Z ml_X4_120 (k_hasReceiver hlt hu1 hkd) lp1.2.2.2.2 dX4_trialFits_92 rfl (by decide) (by decide) (by decide) (by decide) (Nat.le_of_ble_eq_true rfl) rfl rfl rfl rfl ?_
    refine jv_if_neB (q := 98) (tgt := 101) G dX4_trialFits_95 (by decide) rfl (fun c2 => ?_) (fun c2 => ?_)
    · refine jv_iconst (q := 102) (v := nI 0) G dX4_trialFits_101 (by decide) rfl ?_
      refine jv_istore (q := 104) (lo' := [(7, .int (nI 0)), (5, .int (jv_bI ((c_t1 A B UA UB kd ty rc ko (some kA) (some kB) 5).1))), (6, .int (jv_bI ((c_t1 A B UA UB kd ty rc ko (some kA) (some kB) 5).2))), (0, .ref (z 6 4)), (1, .ref (z 0 a)), (2, .ref (z 0 b)), (3, .ref (T (10 * a + kA))), (4, .ref (T (10 * b + kB)))]) G dX4_trialFits_102 (by decide) rfl rfl ?_
      refine jv_lo [0, 2, 3, 4, 5, 6, 7] (lo' := [(7, .int (nI 0)), (6, .int (jv_bI ((c_t1 A B UA UB kd ty rc ko (some kA) (some kB) 5).2))), (0, .ref (z 6 4)), (1, .ref (z 0 a)), (2, .ref (z 0 b)), (3, .ref (T (10 * a + kA))), (4, .ref (T (10 * b + kB)))]) rfl ?_
      have et : (c_tf A B UA UB kd ty rc ko (some kA) (some kB)) = !m_any (c_tb A B UA UB kd ty ko (some kA) (some kB) (c_t1 A B UA UB kd ty rc ko (some kA) (some kB) 5).2) A.length := by unfold c_tf; rw [if_pos ⟨c1, c2⟩]
      rw [et]
      exact k_tf_l211 hA hB uA uB lp ha8 hu hkd hK htA htB (al := (c_t1 A B UA UB kd ty rc ko (some kA) (some kB) 5).2) hlt G Z hr A.length 0 _ _ (by omega) rfl hF hu1
    · refine jv_iload (q := 100) G 1 dX4_trialFits_98 rfl rfl ?_
      refine jv_zret G hr dX4_trialFits_100 (Nat.le_of_ble_eq_true rfl) (Nat.le_of_ble_eq_true rfl) ?_
      refine ⟨?_, hF⟩; unfold c_tf; rw [if_neg (fun q => by simp [c1, c2] at q)]
