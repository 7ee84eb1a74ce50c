def w_U (c n k j : Nat) : Prop := (k = 25 ∧ j = c) ∨ (26 ≤ k ∧ k ≤ 30 ∧ j = 20 * c + n)
theorem w_U_C {c n k j : Nat} (hn : n < 20) (w : w_U c n k j) : w_C c k j := by
  unfold w_U at w
  unfold w_C o_C
  omega
set_option maxHeartbeats 4000000 in
set_option maxRecDepth 100000 in
theorem r_use {lA : Launch} (hlt : lA.stackTraces = false) {D : jv_D} {base : Nat} {x : Nat} {q : Nat → Nat} {h : jv_H} {M : mA} {c kd t n s r : Int32} (hR : rf_R x q h M) : jv_Met lA D base yX8_use (.code yX8_use cX8_use 8 (some .int)) 16 0 0 [.ref x, .int c, .int kd, .int t, .int n, .int s, .int r] h (pO x q h (m_us M c kd t n s r)) jv_no := by
  refine jv_ofV (lo := [(0, .ref x), (1, .int c), (2, .int kd), (3, .int t), (4, .int n), (5, .int s), (6, .int r)]) hlt (by decide) (Nat.le_of_ble_eq_true rfl) rfl (fun E hEl hEd hEz Z G hr ht hnm => ?_)
  subst hEl; subst hEd; subst hEz
  obtain ⟨hS, ⟨hn8, hn⟩, ⟨hm12, hm⟩, hD, hV, hCs⟩ := id hR
  have hS0 := hS
  have hrs : rs x q h h := rs.rf
  have hsc : sc x q h h := sc.rf
  refine jv_aload_n (q := 1) G 0 dX8_use_0 rfl rfl rfl ?_
  refine jv_aload_n (q := 2) G 0 dX8_use_1 rfl rfl rfl ?_
  refine jv_iload_n (q := 3) G 1 dX8_use_2 rfl rfl rfl ?_
  refine jv_callV_I (q := 6) (h1 := h) (As := [.int c]) (rest := [.ref x]) (ce' := 0) (sl' := 0) (r := jv_bI (rr_lt c M.2.length)) G Z ml_X8_205 (r_isCaller hlt hS hm) hS.1 dX8_use_3 rfl (by decide) (by decide) (by decide) (by decide) (Nat.le_of_ble_eq_true rfl) rfl rfl rfl rfl ?_
  refine jv_if_neB (q := 9) (tgt := 13) G dX8_use_6 (by decide) rfl (fun c1 => ?_) (fun c1 => ?_)
  · obtain ⟨k_c, hk_c, ek_c, zc⟩ := rr_lt_t (by omega) c1
    subst ek_c
    obtain ⟨C, hC⟩ := jv_getLt (l := M.2) (k := k_c) (by omega)
    obtain ⟨hC1, hok⟩ := hCs k_c C hC
    have hl20 := hok.2.2.2.2.1
    have hec : mc_e C < 8 := by have := hok.1; omega
    refine jv_iload_n (q := 14) G 2 dX8_use_13 rfl rfl rfl ?_
    refine jv_iconst (q := 15) (v := nI 0) G dX8_use_14 (by decide) rfl ?_
    refine jv_iconst (q := 16) (v := nI 5) G dX8_use_15 (by decide) rfl ?_
    refine jv_callS_I (q := 19) (h1 := h) (As := [.int kd, .int (nI 0), .int (nI 5)]) (rest := [.ref x]) (ce' := 0) (sl' := 0) (r := jv_bI (rr_in kd (nI 0) (nI 5))) G Z ml_X8_147 (r_isIn hlt) dX8_use_16 rfl (by decide) (by decide) (by decide) (by decide) (Nat.le_of_ble_eq_true rfl) rfl rfl rfl rfl ?_
    refine jv_if_neB (q := 22) (tgt := 26) G dX8_use_19 (by decide) rfl (fun c2 => ?_) (fun c2 => ?_)
    · have hin := c2
      obtain ⟨h5, e5⟩ := in_N (by decide) c2
      generalize kd.toNatClampNeg = k_k at h5 e5
      subst e5
      have hcl : (nI k_k).toNatClampNeg = k_k := nI_clamp (by omega)
      refine jv_aload_n (q := 27) G 0 dX8_use_26 rfl rfl rfl ?_
      refine jv_getQ (q := 30) G dX8_use_27 fl_X8_77 rfl hS.1 (rf_p25 hS) rfl ?_
      refine jv_iload_n (q := 31) G 1 dX8_use_30 rfl rfl rfl ?_
      refine jv_iald (q := 32) G dX8_use_31 (rf_a25 hS) rfl (by omega) (by decide) hC1.2.2.2.1 rfl ?_
      refine jv_bipush (q := 34) (v := nI 20) G dX8_use_32 (by decide) rfl ?_
      refine jv_icmp_neN (q := 37) (tgt := 41) G dX8_use_34 (by decide) rfl (by omega) (by omega) (fun c3 => ?_) (fun c3 => ?_)
      · refine jv_iconst (q := 42) (v := nI 0) G dX8_use_41 (by decide) rfl ?_
        refine jv_putI (q := 45) G dX8_use_42 fl_X8_122 rfl hS.1 rfl ?_
        have hr1 : rs x q h (jv_wI h x 0 (nI 0)) := rs.rf.wI (nI 0) (Or.inl ⟨rfl, Or.inl rfl⟩)
        have hth : jv_I (jv_wI h x 0 (nI 0)) x 0 = (nI 0) := jv_I_self _ _ _ _
        have hR := hr1.R hR
        have hrs := hrs.tr hr1
        generalize jv_wI h x 0 (nI 0) = h4 at hth hR hrs ⊢
        obtain ⟨hS, ⟨hn8, hn⟩, ⟨hm12, hm⟩, hD, hV, hCs⟩ := id hR
        have hsc : sc x q h4 h4 := sc.rf
        obtain ⟨hC1, hok⟩ := hCs k_c C hC
        have hl20 := hok.2.2.2.2.1
        have hec : mc_e C < 8 := by have := hok.1; omega
        refine jv_aload_n (q := 46) G 0 dX8_use_45 rfl rfl rfl ?_
        refine jv_getI (q := 49) G dX8_use_46 fl_X8_122 rfl hS.1 hth rfl ?_
        refine jv_if_leN (q := 52) (tgt := 54) G dX8_use_49 (by decide) rfl (by omega) (fun c5 => ?_) (fun c5 => ?_)
        · refine jv_aload_n (q := 55) G 0 dX8_use_54 rfl rfl rfl ?_
          refine jv_iload_n (q := 56) G 1 dX8_use_55 rfl rfl rfl ?_
          refine jv_aload_n (q := 57) G 0 dX8_use_56 rfl rfl rfl ?_
          refine jv_getQ (q := 60) G dX8_use_57 fl_X8_68 rfl hS.1 (rf_p22 hS) rfl ?_
          refine jv_iload_n (q := 61) G 1 dX8_use_60 rfl rfl rfl ?_
          refine jv_iald (q := 62) G dX8_use_61 (rf_a22 hS) rfl (by omega) (by decide) hC1.1 rfl ?_
          refine jv_iload_n (q := 63) G 2 dX8_use_62 rfl rfl rfl ?_
          refine jv_iload_n (q := 64) G 3 dX8_use_63 rfl rfl rfl ?_
          refine jv_iload (q := 66) G 4 dX8_use_64 rfl rfl ?_
          refine jv_iload (q := 68) G 5 dX8_use_66 rfl rfl ?_
          refine jv_iload (q := 70) G 6 dX8_use_68 rfl rfl ?_
          refine jv_callV (q := 73) (As := [.int (nI k_c), .int (nI (mc_e C)), .int (nI k_k), .int t, .int n, .int s, .int r]) (rest := []) G Z ml_X8_208 (r_met hlt hS (by omega) hec hec (hD _ hec).2 (hV _ hec hok.2.1).1 (hD _ hec).2 (hV _ hec hok.2.1).1 hC1.1 hC1.2.1 hok.2.2.1 hC1.2.2.1 hok.2.2.2.1 (by omega) (hV _ hec hok.2.1).2 (hV _ hec hok.2.1).2) hS.1 dX8_use_70 rfl (by decide) (by decide) (by decide) (by decide) (Nat.le_of_ble_eq_true rfl) rfl rfl (fun v7 h6 y8 => ?_) (fun _ _ hx => hx.elim)
          obtain ⟨rfl, hr2, hran, hx0⟩ := y8
          show jv_V E 8 h6 0 0 (jv_Q E (pO x q h (m_us M (nI k_c) (nI k_k) t n s r)) jv_no 0 0) 73 [(0, .ref x), (1, .int (nI k_c)), (2, .int (nI k_k)), (3, .int t), (4, .int n), (5, .int s), (6, .int r)] [.int (nI ((m_mu M C (mc_e C) (k_k, t, n, s, r)).1))]
          have hmu := mu_lt M C (mc_e C) (k_k, t, n, s, r)
          have hR := hr2.R hR
          have hth := hx0.trans hth
          have hrs := hrs.tr hr2
          obtain ⟨hS, ⟨hn8, hn⟩, ⟨hm12, hm⟩, hD, hV, hCs⟩ := id hR
          obtain ⟨hC1, hok⟩ := hCs k_c C hC
          have hl20 := hok.2.2.2.2.1
          have hec : mc_e C < 8 := by have := hok.1; omega
          refine jv_if_eqN (q := 76) (tgt := 78) G dX8_use_73 (by decide) rfl (by omega) (fun c9 => ?_) (fun c9 => ?_)
          · have c22 := hC1.1; have c23 := hC1.2.1; have c24 := hC1.2.2.1; have c25 := hC1.2.2.2.1
            have hF : FW (w_U k_c (mc_l C).length) xcr x q h6 h6 := FW.rf
            have hSn := hS
            refine jv_bipush (q := 80) (v := nI 20) G dX8_use_78 (by decide) rfl ?_
            refine jv_iload_n (q := 81) G 1 dX8_use_80 rfl rfl rfl ?_
            refine jv_imulN (q := 82) G dX8_use_81 rfl ?_
            refine jv_aload_n (q := 83) G 0 dX8_use_82 rfl rfl rfl ?_
            refine jv_getQ (q := 86) G dX8_use_83 fl_X8_77 rfl hS.1 (rf_p25 hS) rfl ?_
            refine jv_iload_n (q := 87) G 1 dX8_use_86 rfl rfl rfl ?_
            refine jv_iald (q := 88) G dX8_use_87 (rf_a25 hS) rfl (by omega) (by decide) hC1.2.2.2.1 rfl ?_
            refine jv_iaddN (q := 89) G dX8_use_88 rfl ?_
            refine jv_istore (q := 91) (lo' := [(7, .int (nI ((20 * k_c) + ((mc_l C).length)))), (0, .ref x), (1, .int (nI k_c)), (2, .int (nI k_k)), (3, .int t), (4, .int n), (5, .int s), (6, .int r)]) G dX8_use_89 (by decide) rfl rfl ?_
            refine jv_aload_n (q := 92) G 1 dX8_use_91 rfl rfl rfl ?_
            refine jv_getQ (q := 95) G dX8_use_92 fl_X8_77 rfl hS.1 (rf_p25 hS) rfl ?_
            refine jv_iload_n (q := 96) G 2 dX8_use_95 rfl rfl rfl ?_
            refine jv_dup2 (q := 97) G dX8_use_96 rfl rfl rfl ?_
            refine jv_iald (q := 98) G dX8_use_97 (rf_a25 hS) rfl (by omega) (by decide) hC1.2.2.2.1 rfl ?_
            refine jv_iconst (q := 99) (v := nI 1) G dX8_use_98 (by decide) rfl ?_
            refine jv_iaddN (q := 100) G dX8_use_99 rfl ?_
            refine jv_iast (q := 101) G dX8_use_100 (rf_a25 hS) rfl (by omega) (by decide) rfl ?_
            have hF := hF.wq hS (k := 25) (j := k_c) (by decide) rfl (Or.inl ⟨rfl, rfl⟩) (nI (((mc_l C).length) + 1))
            have hSn2 := hF.S hS
            have c22 := (qI_q hSn (k := 22) (k' := 25) (h := h6) (by decide) rfl (by decide) rfl (k_c) (k_c) (nI (((mc_l C).length) + 1))).trans ((if_neg (fun e => absurd e.1 (by decide))).trans c22)
            have c23 := (qI_q hSn (k := 23) (k' := 25) (h := h6) (by decide) rfl (by decide) rfl (k_c) (k_c) (nI (((mc_l C).length) + 1))).trans ((if_neg (fun e => absurd e.1 (by decide))).trans c23)
            have c24 := (qI_q hSn (k := 24) (k' := 25) (h := h6) (by decide) rfl (by decide) rfl (k_c) (k_c) (nI (((mc_l C).length) + 1))).trans ((if_neg (fun e => absurd e.1 (by decide))).trans c24)
            have hth := (xI_q hSn (k := 25) (h := h6) (by decide) rfl 0 (k_c) (nI (((mc_l C).length) + 1))).trans hth
            have hm := (xI_q hSn (k := 25) (h := h6) (by decide) rfl 21 (k_c) (nI (((mc_l C).length) + 1))).trans hm
            have c_25_10 : jv_I (jv_wI h6 (q 25) k_c (nI (((mc_l C).length) + 1))) (q 25) (k_c) = nI (((mc_l C).length) + 1) := jv_I_self _ _ _ _
            generalize jv_wI h6 (q 25) k_c (nI (((mc_l C).length) + 1)) = h10 at hF hSn2 c22 c23 c24 hth hm c_25_10 ⊢
            clear hSn; have hSn := hSn2; clear hSn2
            refine jv_aload_n (q := 102) G 1 dX8_use_101 rfl rfl rfl ?_
            refine jv_getQ (q := 105) G dX8_use_102 fl_X8_80 rfl hSn.1 (rf_p26 hSn) rfl ?_
            refine jv_iload (q := 107) G 0 dX8_use_105 rfl rfl ?_
            refine jv_iload_n (q := 108) G 3 dX8_use_107 rfl rfl rfl ?_
            refine jv_iast (q := 109) G dX8_use_108 (rf_a26 hSn) rfl (by omega) (by decide) rfl ?_
            have hF := hF.wq hS (k := 26) (j := (20 * k_c) + ((mc_l C).length)) (by decide) rfl (Or.inr ⟨by decide, by decide, rfl⟩) (nI k_k)
            have hSn2 := hF.S hS
            have c22 := (qI_q hSn (k := 22) (k' := 26) (h := h10) (by decide) rfl (by decide) rfl (k_c) ((20 * k_c) + ((mc_l C).length)) (nI k_k)).trans ((if_neg (fun e => absurd e.1 (by decide))).trans c22)
            have c23 := (qI_q hSn (k := 23) (k' := 26) (h := h10) (by decide) rfl (by decide) rfl (k_c) ((20 * k_c) + ((mc_l C).length)) (nI k_k)).trans ((if_neg (fun e => absurd e.1 (by decide))).trans c23)
            have c24 := (qI_q hSn (k := 24) (k' := 26) (h := h10) (by decide) rfl (by decide) rfl (k_c) ((20 * k_c) + ((mc_l C).length)) (nI k_k)).trans ((if_neg (fun e => absurd e.1 (by decide))).trans c24)
            have c_25_10 := (qI_q hSn (k := 25) (k' := 26) (h := h10) (by decide) rfl (by decide) rfl (k_c) ((20 * k_c) + ((mc_l C).length)) (nI k_k)).trans ((if_neg (fun e => absurd e.1 (by decide))).trans c_25_10)
            have hth := (xI_q hSn (k := 26) (h := h10) (by decide) rfl 0 ((20 * k_c) + ((mc_l C).length)) (nI k_k)).trans hth
            have hm := (xI_q hSn (k := 26) (h := h10) (by decide) rfl 21 ((20 * k_c) + ((mc_l C).length)) (nI k_k)).trans hm
            have c_26_11 : jv_I (jv_wI h10 (q 26) ((20 * k_c) + ((mc_l C).length)) (nI k_k)) (q 26) ((20 * k_c) + ((mc_l C).length)) = nI k_k := jv_I_self _ _ _ _
            generalize jv_wI h10 (q 26) ((20 * k_c) + ((mc_l C).length)) (nI k_k) = h11 at hF hSn2 c22 c23 c24 c_25_10 hth hm c_26_11 ⊢
            clear hSn; have hSn := hSn2; clear hSn2
            refine jv_aload_n (q := 110) G 1 dX8_use_109 rfl rfl rfl ?_
            refine jv_getQ (q := 113) G dX8_use_110 fl_X8_83 rfl hSn.1 (rf_p27 hSn) rfl ?_
            refine jv_iload (q := 115) G 0 dX8_use_113 rfl rfl ?_
            refine jv_iload_n (q := 116) G 4 dX8_use_115 rfl rfl rfl ?_
            refine jv_iast (q := 117) G dX8_use_116 (rf_a27 hSn) rfl (by omega) (by decide) rfl ?_
            have hF := hF.wq hS (k := 27) (j := (20 * k_c) + ((mc_l C).length)) (by decide) rfl (Or.inr ⟨by decide, by decide, rfl⟩) (t)
            have hSn2 := hF.S hS
            have c22 := (qI_q hSn (k := 22) (k' := 27) (h := h11) (by decide) rfl (by decide) rfl (k_c) ((20 * k_c) + ((mc_l C).length)) (t)).trans ((if_neg (fun e => absurd e.1 (by decide))).trans c22)
            have c23 := (qI_q hSn (k := 23) (k' := 27) (h := h11) (by decide) rfl (by decide) rfl (k_c) ((20 * k_c) + ((mc_l C).length)) (t)).trans ((if_neg (fun e => absurd e.1 (by decide))).trans c23)
            have c24 := (qI_q hSn (k := 24) (k' := 27) (h := h11) (by decide) rfl (by decide) rfl (k_c) ((20 * k_c) + ((mc_l C).length)) (t)).trans ((if_neg (fun e => absurd e.1 (by decide))).trans c24)
            have c_25_10 := (qI_q hSn (k := 25) (k' := 27) (h := h11) (by decide) rfl (by decide) rfl (k_c) ((20 * k_c) + ((mc_l C).length)) (t)).trans ((if_neg (fun e => absurd e.1 (by decide))).trans c_25_10)
            have c_26_11 := (qI_q hSn (k := 26) (k' := 27) (h := h11) (by decide) rfl (by decide) rfl ((20 * k_c) + ((mc_l C).length)) ((20 * k_c) + ((mc_l C).length)) (t)).trans ((if_neg (fun e => absurd e.1 (by decide))).trans c_26_11)
            have hth := (xI_q hSn (k := 27) (h := h11) (by decide) rfl 0 ((20 * k_c) + ((mc_l C).length)) (t)).trans hth
            have hm := (xI_q hSn (k := 27) (h := h11) (by decide) rfl 21 ((20 * k_c) + ((mc_l C).length)) (t)).trans hm
            have c_27_12 : jv_I (jv_wI h11 (q 27) ((20 * k_c) + ((mc_l C).length)) t) (q 27) ((20 * k_c) + ((mc_l C).length)) = t := jv_I_self _ _ _ _
            generalize jv_wI h11 (q 27) ((20 * k_c) + ((mc_l C).length)) t = h12 at hF hSn2 c22 c23 c24 c_25_10 c_26_11 hth hm c_27_12 ⊢
            clear hSn; have hSn := hSn2; clear hSn2
            refine jv_aload_n (q := 118) G 1 dX8_use_117 rfl rfl rfl ?_
            refine jv_getQ (q := 121) G dX8_use_118 fl_X8_86 rfl hSn.1 (rf_p28 hSn) rfl ?_
            refine jv_iload (q := 123) G 0 dX8_use_121 rfl rfl ?_
            refine jv_iload (q := 125) G 5 dX8_use_123 rfl rfl ?_
            refine jv_iast (q := 126) G dX8_use_125 (rf_a28 hSn) rfl (by omega) (by decide) rfl ?_
            have hF := hF.wq hS (k := 28) (j := (20 * k_c) + ((mc_l C).length)) (by decide) rfl (Or.inr ⟨by decide, by decide, rfl⟩) (n)
            have hSn2 := hF.S hS
            have c22 := (qI_q hSn (k := 22) (k' := 28) (h := h12) (by decide) rfl (by decide) rfl (k_c) ((20 * k_c) + ((mc_l C).length)) (n)).trans ((if_neg (fun e => absurd e.1 (by decide))).trans c22)
            have c23 := (qI_q hSn (k := 23) (k' := 28) (h := h12) (by decide) rfl (by decide) rfl (k_c) ((20 * k_c) + ((mc_l C).length)) (n)).trans ((if_neg (fun e => absurd e.1 (by decide))).trans c23)
            have c24 := (qI_q hSn (k := 24) (k' := 28) (h := h12) (by decide) rfl (by decide) rfl (k_c) ((20 * k_c) + ((mc_l C).length)) (n)).trans ((if_neg (fun e => absurd e.1 (by decide))).trans c24)
            have c_25_10 := (qI_q hSn (k := 25) (k' := 28) (h := h12) (by decide) rfl (by decide) rfl (k_c) ((20 * k_c) + ((mc_l C).length)) (n)).trans ((if_neg (fun e => absurd e.1 (by decide))).trans c_25_10)
            have c_26_11 := (qI_q hSn (k := 26) (k' := 28) (h := h12) (by decide) rfl (by decide) rfl ((20 * k_c) + ((mc_l C).length)) ((20 * k_c) + ((mc_l C).length)) (n)).trans ((if_neg (fun e => absurd e.1 (by decide))).trans c_26_11)
            have c_27_12 := (qI_q hSn (k := 27) (k' := 28) (h := h12) (by decide) rfl (by decide) rfl ((20 * k_c) + ((mc_l C).length)) ((20 * k_c) + ((mc_l C).length)) (n)).trans ((if_neg (fun e => absurd e.1 (by decide))).trans c_27_12)
            have hth := (xI_q hSn (k := 28) (h := h12) (by decide) rfl 0 ((20 * k_c) + ((mc_l C).length)) (n)).trans hth
            have hm := (xI_q hSn (k := 28) (h := h12) (by decide) rfl 21 ((20 * k_c) + ((mc_l C).length)) (n)).trans hm
            have c_28_13 : jv_I (jv_wI h12 (q 28) ((20 * k_c) + ((mc_l C).length)) n) (q 28) ((20 * k_c) + ((mc_l C).length)) = n := jv_I_self _ _ _ _
            generalize jv_wI h12 (q 28) ((20 * k_c) + ((mc_l C).length)) n = h13 at hF hSn2 c22 c23 c24 c_25_10 c_26_11 c_27_12 hth hm c_28_13 ⊢
            clear hSn; have hSn := hSn2; clear hSn2
            refine jv_aload_n (q := 127) G 1 dX8_use_126 rfl rfl rfl ?_
            refine jv_getQ (q := 130) G dX8_use_127 fl_X8_89 rfl hSn.1 (rf_p29 hSn) rfl ?_
            refine jv_iload (q := 132) G 0 dX8_use_130 rfl rfl ?_
            refine jv_iload (q := 134) G 6 dX8_use_132 rfl rfl ?_
            refine jv_iast (q := 135) G dX8_use_134 (rf_a29 hSn) rfl (by omega) (by decide) rfl ?_
            have hF := hF.wq hS (k := 29) (j := (20 * k_c) + ((mc_l C).length)) (by decide) rfl (Or.inr ⟨by decide, by decide, rfl⟩) (s)
            have hSn2 := hF.S hS
            have c22 := (qI_q hSn (k := 22) (k' := 29) (h := h13) (by decide) rfl (by decide) rfl (k_c) ((20 * k_c) + ((mc_l C).length)) (s)).trans ((if_neg (fun e => absurd e.1 (by decide))).trans c22)
            have c23 := (qI_q hSn (k := 23) (k' := 29) (h := h13) (by decide) rfl (by decide) rfl (k_c) ((20 * k_c) + ((mc_l C).length)) (s)).trans ((if_neg (fun e => absurd e.1 (by decide))).trans c23)
            have c24 := (qI_q hSn (k := 24) (k' := 29) (h := h13) (by decide) rfl (by decide) rfl (k_c) ((20 * k_c) + ((mc_l C).length)) (s)).trans ((if_neg (fun e => absurd e.1 (by decide))).trans c24)
            have c_25_10 := (qI_q hSn (k := 25) (k' := 29) (h := h13) (by decide) rfl (by decide) rfl (k_c) ((20 * k_c) + ((mc_l C).length)) (s)).trans ((if_neg (fun e => absurd e.1 (by decide))).trans c_25_10)
            have c_26_11 := (qI_q hSn (k := 26) (k' := 29) (h := h13) (by decide) rfl (by decide) rfl ((20 * k_c) + ((mc_l C).length)) ((20 * k_c) + ((mc_l C).length)) (s)).trans ((if_neg (fun e => absurd e.1 (by decide))).trans c_26_11)
            have c_27_12 := (qI_q hSn (k := 27) (k' := 29) (h := h13) (by decide) rfl (by decide) rfl ((20 * k_c) + ((mc_l C).length)) ((20 * k_c) + ((mc_l C).length)) (s)).trans ((if_neg (fun e => absurd e.1 (by decide))).trans c_27_12)
            have c_28_13 := (qI_q hSn (k := 28) (k' := 29) (h := h13) (by decide) rfl (by decide) rfl ((20 * k_c) + ((mc_l C).length)) ((20 * k_c) + ((mc_l C).length)) (s)).trans ((if_neg (fun e => absurd e.1 (by decide))).trans c_28_13)
            have hth := (xI_q hSn (k := 29) (h := h13) (by decide) rfl 0 ((20 * k_c) + ((mc_l C).length)) (s)).trans hth
            have hm := (xI_q hSn (k := 29) (h := h13) (by decide) rfl 21 ((20 * k_c) + ((mc_l C).length)) (s)).trans hm
            have c_29_14 : jv_I (jv_wI h13 (q 29) ((20 * k_c) + ((mc_l C).length)) s) (q 29) ((20 * k_c) + ((mc_l C).length)) = s := jv_I_self _ _ _ _
            generalize jv_wI h13 (q 29) ((20 * k_c) + ((mc_l C).length)) s = h14 at hF hSn2 c22 c23 c24 c_25_10 c_26_11 c_27_12 c_28_13 hth hm c_29_14 ⊢
            clear hSn; have hSn := hSn2; clear hSn2
            refine jv_aload_n (q := 136) G 1 dX8_use_135 rfl rfl rfl ?_
            refine jv_getQ (q := 139) G dX8_use_136 fl_X8_92 rfl hSn.1 (rf_p30 hSn) rfl ?_
            refine jv_iload (q := 141) G 0 dX8_use_139 rfl rfl ?_
            refine jv_iload (q := 143) G 7 dX8_use_141 rfl rfl ?_
            refine jv_iast (q := 144) G dX8_use_143 (rf_a30 hSn) rfl (by omega) (by decide) rfl ?_
            have hF := hF.wq hS (k := 30) (j := (20 * k_c) + ((mc_l C).length)) (by decide) rfl (Or.inr ⟨by decide, by decide, rfl⟩) (r)
            have hSn2 := hF.S hS
            have c22 := (qI_q hSn (k := 22) (k' := 30) (h := h14) (by decide) rfl (by decide) rfl (k_c) ((20 * k_c) + ((mc_l C).length)) (r)).trans ((if_neg (fun e => absurd e.1 (by decide))).trans c22)
            have c23 := (qI_q hSn (k := 23) (k' := 30) (h := h14) (by decide) rfl (by decide) rfl (k_c) ((20 * k_c) + ((mc_l C).length)) (r)).trans ((if_neg (fun e => absurd e.1 (by decide))).trans c23)
            have c24 := (qI_q hSn (k := 24) (k' := 30) (h := h14) (by decide) rfl (by decide) rfl (k_c) ((20 * k_c) + ((mc_l C).length)) (r)).trans ((if_neg (fun e => absurd e.1 (by decide))).trans c24)
            have c_25_10 := (qI_q hSn (k := 25) (k' := 30) (h := h14) (by decide) rfl (by decide) rfl (k_c) ((20 * k_c) + ((mc_l C).length)) (r)).trans ((if_neg (fun e => absurd e.1 (by decide))).trans c_25_10)
            have c_26_11 := (qI_q hSn (k := 26) (k' := 30) (h := h14) (by decide) rfl (by decide) rfl ((20 * k_c) + ((mc_l C).length)) ((20 * k_c) + ((mc_l C).length)) (r)).trans ((if_neg (fun e => absurd e.1 (by decide))).trans c_26_11)
            have c_27_12 := (qI_q hSn (k := 27) (k' := 30) (h := h14) (by decide) rfl (by decide) rfl ((20 * k_c) + ((mc_l C).length)) ((20 * k_c) + ((mc_l C).length)) (r)).trans ((if_neg (fun e => absurd e.1 (by decide))).trans c_27_12)
            have c_28_13 := (qI_q hSn (k := 28) (k' := 30) (h := h14) (by decide) rfl (by decide) rfl ((20 * k_c) + ((mc_l C).length)) ((20 * k_c) + ((mc_l C).length)) (r)).trans ((if_neg (fun e => absurd e.1 (by decide))).trans c_28_13)
            have c_29_14 := (qI_q hSn (k := 29) (k' := 30) (h := h14) (by decide) rfl (by decide) rfl ((20 * k_c) + ((mc_l C).length)) ((20 * k_c) + ((mc_l C).length)) (r)).trans ((if_neg (fun e => absurd e.1 (by decide))).trans c_29_14)
            have hth := (xI_q hSn (k := 30) (h := h14) (by decide) rfl 0 ((20 * k_c) + ((mc_l C).length)) (r)).trans hth
            have hm := (xI_q hSn (k := 30) (h := h14) (by decide) rfl 21 ((20 * k_c) + ((mc_l C).length)) (r)).trans hm
            have c_30_15 : jv_I (jv_wI h14 (q 30) ((20 * k_c) + ((mc_l C).length)) r) (q 30) ((20 * k_c) + ((mc_l C).length)) = r := jv_I_self _ _ _ _
            generalize jv_wI h14 (q 30) ((20 * k_c) + ((mc_l C).length)) r = h15 at hF hSn2 c22 c23 c24 c_25_10 c_26_11 c_27_12 c_28_13 c_29_14 hth hm c_30_15 ⊢
            clear hSn; have hSn := hSn2; clear hSn2
            refine jv_aload_n (q := 145) G 1 dX8_use_144 rfl rfl rfl ?_
            refine jv_getQ (q := 148) G dX8_use_145 fl_X8_77 rfl hSn.1 (rf_p25 hSn) rfl ?_
            refine jv_iload_n (q := 149) G 2 dX8_use_148 rfl rfl rfl ?_
            refine jv_iald (q := 150) G dX8_use_149 (rf_a25 hSn) rfl (by omega) (by decide) c_25_10 rfl ?_
            refine jv_iconst (q := 151) (v := nI 1) G dX8_use_150 (by decide) rfl ?_
            refine jv_isubN (q := 152) G dX8_use_151 (by omega) rfl ?_
            refine jv_iret G hr dX8_use_152 (Nat.le_of_ble_eq_true rfl) (Nat.le_of_ble_eq_true rfl) ?_
            have hG := hF
            have hF2 := hF.mono (W' := w_C k_c) (X' := fun j => xcr j ∨ j = 21) (fun k j w => w_U_C (by omega) w) (fun _ z => Or.inl z)
            refine pO.mk (th := 0) (r := nI (mc_l C).length) (M' := (M.1, M.2.set k_c (mc_add C (k_k, t, n, s, r)))) ?_ (congrArg (fun z => some (Value.int (nI z))) (by omega)) hth (rf_R.cal hR (k := k_c) hF2 (hm.trans (by simp)) (by simp; omega) (fun c hc => List.getElem?_set_ne (Ne.symm hc)) (fun C' hC' => ?_)) ((hrs.FW hS0).fr.tr hF.fr)
            · unfold m_us
              rw [zc]; dsimp only
              rw [hC]; dsimp only
              rw [hcl, if_pos hin, if_neg (by omega), if_pos c9]
            · rw [List.getElem?_set_self (by omega)] at hC'
              cases hC'
              refine ⟨⟨c22, c23, c24, (c_25_10).trans (congrArg nI (by simp [mc_l, mc_add])), fun j u e => ?_⟩, hok.1, hok.2.1, hok.2.2.1, hok.2.2.2.1, ?_, fun u hu => ?_⟩
              · have e : (mc_l C ++ [(k_k, t, n, s, r)])[j]? = some u := e
                by_cases hj : j = (mc_l C).length
                · subst hj
                  rw [List.getElem?_append_right (Nat.le_refl _), Nat.sub_self] at e
                  cases e
                  exact ⟨c_26_11, c_27_12, c_28_13, c_29_14, c_30_15⟩
                · have h1 := jv_ltGet e
                  rw [List.length_append, List.length_singleton] at h1
                  rw [List.getElem?_append_left (by omega)] at e
                  obtain ⟨s1, s2, s3, s4, s5⟩ := hC1.2.2.2.2 j u e
                  have y : ∀ k, 26 ≤ k → k ≤ 30 → ¬ w_U k_c (mc_l C).length k (20 * k_c + j) := fun k h1 h2 => by unfold w_U; omega
                  exact ⟨(hG.aq 26 _ (y _ (by decide) (by decide))).trans s1, (hG.aq 27 _ (y _ (by decide) (by decide))).trans s2, (hG.aq 28 _ (y _ (by decide) (by decide))).trans s3, (hG.aq 29 _ (y _ (by decide) (by decide))).trans s4, (hG.aq 30 _ (y _ (by decide) (by decide))).trans s5⟩
              · show (mc_l C ++ [(k_k, t, n, s, r)]).length ≤ 20
                rw [List.length_append, List.length_singleton]; omega
              · have hu : u ∈ mc_l C ++ [(k_k, t, n, s, r)] := hu
                rw [List.mem_append, List.mem_singleton] at hu
                rcases hu with hu | hu
                · exact hok.2.2.2.2.2 u hu
                · subst hu; exact Nat.lt_succ_of_le h5
          · refine jv_iconst (q := 77) (v := (-1)) G dX8_use_76 (by decide) rfl ?_
            refine jv_iret G hr dX8_use_77 (Nat.le_of_ble_eq_true rfl) (Nat.le_of_ble_eq_true rfl) ?_
            refine pO.mk (th := 0) (r := -1) (M' := M) ?_ rfl hth hR (hrs.FW hS0).fr
            unfold m_us
            rw [zc]; dsimp only
            rw [hC]; dsimp only
            rw [hcl, if_pos hin, if_neg (by omega), if_neg c9]
        · omega
      · refine jv_iconst (q := 38) (v := nI 3) G dX8_use_37 (by decide) rfl ?_
        refine jv_goto (q := 42) G dX8_use_38 (by decide) ?_
        refine jv_putI (q := 45) G dX8_use_42 fl_X8_122 rfl hS.1 rfl ?_
        have hr1 : rs x q h (jv_wI h x 0 (nI 3)) := rs.rf.wI (nI 3) (Or.inl ⟨rfl, Or.inl rfl⟩)
        have hth : jv_I (jv_wI h x 0 (nI 3)) x 0 = (nI 3) := jv_I_self _ _ _ _
        have hR := hr1.R hR
        have hrs := hrs.tr hr1
        generalize jv_wI h x 0 (nI 3) = h16 at hth hR hrs ⊢
        obtain ⟨hS, ⟨hn8, hn⟩, ⟨hm12, hm⟩, hD, hV, hCs⟩ := id hR
        have hsc : sc x q h16 h16 := sc.rf
        obtain ⟨hC1, hok⟩ := hCs k_c C hC
        have hl20 := hok.2.2.2.2.1
        have hec : mc_e C < 8 := by have := hok.1; omega
        refine jv_aload_n (q := 46) G 0 dX8_use_45 rfl rfl rfl ?_
        refine jv_getI (q := 49) G dX8_use_46 fl_X8_122 rfl hS.1 hth rfl ?_
        refine jv_if_leN (q := 52) (tgt := 54) G dX8_use_49 (by decide) rfl (by omega) (fun c17 => ?_) (fun c17 => ?_)
        · omega
        · refine jv_iconst (q := 53) (v := nI 0) G dX8_use_52 (by decide) rfl ?_
          refine jv_iret G hr dX8_use_53 (Nat.le_of_ble_eq_true rfl) (Nat.le_of_ble_eq_true rfl) ?_
          refine pO.no (M := M) hS0 ?_ rfl hth hR hrs
          unfold m_us
          first
            | (simp only [*, if_true, if_false, Bool.false_eq_true, reduceIte]; done)
            | (rw [zc]; dsimp only; rw [hC]; dsimp only; rw [if_pos hin, if_pos (by assumption)])
    · refine jv_iconst (q := 23) (v := nI 2) G dX8_use_22 (by decide) rfl ?_
      refine jv_goto (q := 42) G dX8_use_23 (by decide) ?_
      refine jv_putI (q := 45) G dX8_use_42 fl_X8_122 rfl hS.1 rfl ?_
      have hr1 : rs x q h (jv_wI h x 0 (nI 2)) := rs.rf.wI (nI 2) (Or.inl ⟨rfl, Or.inl rfl⟩)
      have hth : jv_I (jv_wI h x 0 (nI 2)) x 0 = (nI 2) := jv_I_self _ _ _ _
      have hR := hr1.R hR
      have hrs := hrs.tr hr1
      generalize jv_wI h x 0 (nI 2) = h18 at hth hR hrs ⊢
      obtain ⟨hS, ⟨hn8, hn⟩, ⟨hm12, hm⟩, hD, hV, hCs⟩ := id hR
      have hsc : sc x q h18 h18 := sc.rf
      obtain ⟨hC1, hok⟩ := hCs k_c C hC
      have hl20 := hok.2.2.2.2.1
      have hec : mc_e C < 8 := by have := hok.1; omega
      refine jv_aload_n (q := 46) G 0 dX8_use_45 rfl rfl rfl ?_
      refine jv_getI (q := 49) G dX8_use_46 fl_X8_122 rfl hS.1 hth rfl ?_
      refine jv_if_leN (q := 52) (tgt := 54) G dX8_use_49 (by decide) rfl (by omega) (fun c19 => ?_) (fun c19 => ?_)
      · omega
      · refine jv_iconst (q := 53) (v := nI 0) G dX8_use_52 (by decide) rfl ?_
        refine jv_iret G hr dX8_use_53 (Nat.le_of_ble_eq_true rfl) (Nat.le_of_ble_eq_true rfl) ?_
        refine pO.no (M := M) hS0 ?_ rfl hth hR hrs
        unfold m_us
        first
          | (simp only [*, if_true, if_false, Bool.false_eq_true, reduceIte]; done)
          | (rw [zc]; dsimp only; rw [hC]; dsimp only; rw [if_pos hin, if_pos (by assumption)])
  · have zc := rr_lt_f c1
    refine jv_iconst (q := 10) (v := nI 1) G dX8_use_9 (by decide) rfl ?_
    refine jv_goto (q := 42) G dX8_use_10 (by decide) ?_
    refine jv_putI (q := 45) G dX8_use_42 fl_X8_122 rfl hS.1 rfl ?_
    have hr1 : rs x q h (jv_wI h x 0 (nI 1)) := rs.rf.wI (nI 1) (Or.inl ⟨rfl, Or.inl rfl⟩)
    have hth : jv_I (jv_wI h x 0 (nI 1)) x 0 = (nI 1) := jv_I_self _ _ _ _
    have hR := hr1.R hR
    have hrs := hrs.tr hr1
    generalize jv_wI h x 0 (nI 1) = h20 at hth hR hrs ⊢
    obtain ⟨hS, ⟨hn8, hn⟩, ⟨hm12, hm⟩, hD, hV, hCs⟩ := id hR
    have hsc : sc x q h20 h20 := sc.rf
    refine jv_aload_n (q := 46) G 0 dX8_use_45 rfl rfl rfl ?_
    refine jv_getI (q := 49) G dX8_use_46 fl_X8_122 rfl hS.1 hth rfl ?_
    refine jv_if_leN (q := 52) (tgt := 54) G dX8_use_49 (by decide) rfl (by omega) (fun c21 => ?_) (fun c21 => ?_)
    · omega
    · refine jv_iconst (q := 53) (v := nI 0) G dX8_use_52 (by decide) rfl ?_
      refine jv_iret G hr dX8_use_53 (Nat.le_of_ble_eq_true rfl) (Nat.le_of_ble_eq_true rfl) ?_
      refine pO.no (M := M) hS0 ?_ rfl hth hR hrs
      unfold m_us
      first
        | (simp only [*, if_true, if_false, Bool.false_eq_true, reduceIte]; done)
        | (rw [zc]; dsimp only; rw [hC]; dsimp only; rw [if_pos hin, if_pos (by assumption)])
