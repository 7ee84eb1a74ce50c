set_option maxHeartbeats 4000000 in
set_option maxRecDepth 100000 in
theorem r_met3 {lA : Launch} (hlt : lA.stackTraces = false) {D : jv_D} {base : Nat} {x : Nat} {q : Nat → Nat} {h : jv_H} {c e ec pk : Nat} {su : Option Nat} {ty n s rc : Int32} {tsC ts : List mT} (hS : rf_S x q h) (hc : c < 13) (he : e < 8) (hec : ec < 8) (hE : rf_E q h e ts) (hV : rf_V q h e ts) (hEC : rf_E q h ec tsC) (hVC : rf_V q h ec tsC) (hce : jv_I h (q 22) c = nI ec) (hpk : jv_I h (q 23) c = nI pk) (hpk5 : pk < 5) (hsu : jv_I h (q 24) c = jv_oN su) (hsu16 : ∀ u, su = some u → u < 16) (hg : ∀ k, k < ts.length → m_hg ts 11 k) (hgC : ∀ k, k < tsC.length → m_hg tsC 11 k) : jv_Met lA D base yX8_met (.code yX8_met cX8_met 14 (some .int)) 15 0 0 [.ref x, .int (nI c), .int (nI e), .int (nI 3), .int ty, .int n, .int s, .int rc] h (fun v h' => v = some (.int (nI (m_met (decide (e = ec)) tsC ts pk su 3 ty n s rc).1)) ∧ rs x q h h' ∧ jv_I h' x 32 = jv_oN (m_met (decide (e = ec)) tsC ts pk su 3 ty n s rc).2 ∧ jv_I h' x 0 = jv_I h x 0 ∧ jv_I h' (q 22) c = nI ec ∧ jv_I h' (q 23) c = nI pk ∧ jv_I h' (q 24) c = jv_oN su) jv_no := by
  refine jv_ofV (lo := [(0, .ref x), (1, .int (nI c)), (2, .int (nI e)), (3, .int (nI 3)), (4, .int ty), (5, .int n), (6, .int s), (7, .int rc)]) hlt (by decide) (Nat.le_of_ble_eq_true rfl) rfl (fun E hEl hEd hEz Z G hr ht hnm => ?_)
  subst hEl; subst hEd; subst hEz
  have hlen := hE.2.1
  have hlenC := hEC.2.1
  have hrs : rs x q h h := rs.rf
  have hx0 : jv_I h x 0 = jv_I h x 0 := rfl
  have hsc : sc x q h h := sc.rf
  have hco : m_co tsC 3 ty n s = none := rfl
  refine jv_aload_n (q := 1) G 0 dX8_met_0 rfl rfl rfl ?_
  refine jv_iconst (q := 2) (v := (-1)) G dX8_met_1 (by decide) rfl ?_
  refine jv_putI (q := 5) G dX8_met_2 fl_X8_192 rfl (hsc.S hS).1 rfl ?_
  have hr1 : rs x q h (jv_wI h x 32 (-1)) := rs.rf.wI (-1) (Or.inl ⟨rfl, Or.inr (Or.inl rfl)⟩)
  have hran : jv_I (jv_wI h x 32 (-1)) x 32 = (-1) := jv_I_self _ _ _ _
  have hSb := hsc.S hS
  have hE := hr1.E hSb (hsc.E hS hE)
  have hV := hr1.V hSb (hsc.V hS hV)
  have hEC := hr1.E hSb (hsc.E hS hEC)
  have hVC := hr1.V hSb (hsc.V hS hVC)
  have hce := (wx_I hSb 22 (by decide) rfl 32 c (-1)).trans ((hsc.I2 hS 22 (by decide) rfl (by decide) c).trans hce)
  have hpk := (wx_I hSb 23 (by decide) rfl 32 c (-1)).trans ((hsc.I2 hS 23 (by decide) rfl (by decide) c).trans hpk)
  have hsu := (wx_I hSb 24 (by decide) rfl 32 c (-1)).trans ((hsc.I2 hS 24 (by decide) rfl (by decide) c).trans hsu)
  have hrs := (hrs.tr hsc.rs).tr hr1
  have hx0 : jv_I (jv_wI h x 32 (-1)) x 0 = jv_I h x 0 := by rw [jv_I_wI, if_neg (fun z => by cases z.2)] <;> exact (hsc.x hS 0).trans hx0
  have hS := hr1.S hSb
  generalize jv_wI h x 32 (-1) = h1 at hran hx0 hE hV hEC hVC hce hpk hsu hrs hS ⊢
  have hsc : sc x q h1 h1 := sc.rf
  refine jv_aload_n (q := 6) G 0 dX8_met_5 rfl rfl rfl ?_
  refine jv_iload_n (q := 7) G 2 dX8_met_6 rfl rfl rfl ?_
  refine jv_iload (q := 9) G 4 dX8_met_7 rfl rfl ?_
  refine jv_callV_I (q := 12) (h1 := h1) (As := [.int (nI e), .int ty]) (rest := []) (ce' := 0) (sl' := 0) (r := jv_oN ((m_at ts ty).map (fun k => 10 * e + k))) G Z ml_X8_151 (r_at hlt (hsc.S hS) he (hsc.E hS hE)) (hsc.S hS).1 dX8_met_9 rfl (by decide) (by decide) (by decide) (by decide) (Nat.le_of_ble_eq_true rfl) rfl rfl rfl rfl ?_
  rcases Option.eq_none_or_eq_some (m_at ts ty) with hk4 | ⟨k2, hk4⟩
  · refine jv_topI (y := (-1)) (by rw [hk4]; rfl) ?_
    refine jv_istore (q := 14) (lo' := [(8, .int (-1)), (0, .ref x), (1, .int (nI c)), (2, .int (nI e)), (3, .int (nI 3)), (4, .int ty), (5, .int n), (6, .int s), (7, .int rc)]) G dX8_met_12 (by decide) rfl rfl ?_
    refine jv_iload_n (q := 15) G 3 dX8_met_14 rfl rfl rfl ?_
    refine jv_aload_n (q := 16) G 1 dX8_met_15 rfl rfl rfl ?_
    refine jv_getQ (q := 19) G dX8_met_16 fl_X8_68 rfl (hsc.S hS).1 (rf_p22 (hsc.S hS)) rfl ?_
    refine jv_iload_n (q := 20) G 2 dX8_met_19 rfl rfl rfl ?_
    refine jv_iald (q := 21) G dX8_met_20 (rf_a22 (hsc.S hS)) rfl (by omega) (by decide) ((hsc.I2 hS 22 (by decide) rfl (by decide) c).trans hce) rfl ?_
    refine jv_icmp_eqN (q := 24) (tgt := 39) G dX8_met_21 (by decide) rfl (by omega) (by omega) (fun c5 => ?_) (fun c5 => ?_)
    · refine jv_iconst (q := 40) (v := (-1)) G dX8_met_39 (by decide) rfl ?_
      refine jv_istore (q := 42) (lo' := [(9, .int (-1)), (8, .int (-1)), (0, .ref x), (1, .int (nI c)), (2, .int (nI e)), (3, .int (nI 3)), (4, .int ty), (5, .int n), (6, .int s), (7, .int rc)]) G dX8_met_40 (by decide) rfl rfl ?_
      refine jv_iload (q := 44) G 0 dX8_met_42 rfl rfl ?_
      refine jv_iconst (q := 45) (v := (-1)) G dX8_met_44 (by decide) rfl ?_
      refine jv_icmp_eq (q := 48) (tgt := 111) G dX8_met_45 (by decide) rfl (fun c6 => ?_) (fun c6 => ?_)
      · refine jv_iload_n (q := 112) G 5 dX8_met_111 rfl rfl rfl ?_
        refine jv_iconst (q := 113) (v := nI 2) G dX8_met_112 (by decide) rfl ?_
        refine jv_icmp_eqN (q := 116) (tgt := 121) G dX8_met_113 (by decide) rfl (by omega) (by omega) (fun c7 => ?_) (fun c7 => ?_)
        · omega
        · refine jv_iload_n (q := 117) G 5 dX8_met_116 rfl rfl rfl ?_
          refine jv_iconst (q := 118) (v := nI 4) G dX8_met_117 (by decide) rfl ?_
          refine jv_icmp_neN (q := 121) (tgt := 125) G dX8_met_118 (by decide) rfl (by omega) (by omega) (fun c8 => ?_) (fun c8 => ?_)
          · refine jv_iconst (q := 126) (v := nI 0) G dX8_met_125 (by decide) rfl ?_
            refine jv_istore (q := 128) (lo' := [(10, .int (nI 0)), (9, .int (-1)), (8, .int (-1)), (0, .ref x), (1, .int (nI c)), (2, .int (nI e)), (3, .int (nI 3)), (4, .int ty), (5, .int n), (6, .int s), (7, .int rc)]) G dX8_met_126 (by decide) rfl rfl ?_
            refine jv_iload (q := 130) G 0 dX8_met_128 rfl rfl ?_
            refine jv_if_eqN (q := 133) (tgt := 143) G dX8_met_130 (by decide) rfl (by omega) (fun c9 => ?_) (fun c9 => ?_)
            · refine jv_iconst (q := 144) (v := (-1)) G dX8_met_143 (by decide) rfl ?_
              refine jv_istore (q := 146) (lo' := [(11, .int (-1)), (10, .int (nI 0)), (9, .int (-1)), (8, .int (-1)), (0, .ref x), (1, .int (nI c)), (2, .int (nI e)), (3, .int (nI 3)), (4, .int ty), (5, .int n), (6, .int s), (7, .int rc)]) G dX8_met_144 (by decide) rfl rfl ?_
              refine jv_iload (q := 148) G 3 dX8_met_146 rfl rfl ?_
              refine jv_iconst (q := 149) (v := (-1)) G dX8_met_148 (by decide) rfl ?_
              refine jv_icmp_eq (q := 152) (tgt := 163) G dX8_met_149 (by decide) rfl (fun c10 => ?_) (fun c10 => ?_)
              · refine jv_iconst (q := 164) (v := nI 1) G dX8_met_163 (by decide) rfl ?_
                refine jv_iret G hr dX8_met_164 (Nat.le_of_ble_eq_true rfl) (Nat.le_of_ble_eq_true rfl) ?_
                have hz : (m_met (decide (e = ec)) tsC ts pk su 3 ty n s rc) = (1, none) := by
                  unfold m_met m_isC m_bd
                  simp only [*, if_true, if_false, Bool.false_eq_true, reduceIte, Option.map_some, decide_true, decide_false, not_true_eq_false, not_false_eq_true, eq_self, ne_eq, Nat.reduceLT, Nat.lt_irrefl, Nat.reduceEqDiff, and_true, true_and, and_false, false_and, or_true, true_or, or_false, false_or, Bool.or_true, Bool.or_false, Bool.true_or, Bool.false_or, reduceCtorEq] <;> rfl
                exact ⟨by rw [hz], hrs.tr hsc.rs, by rw [hz]; exact (hsc.x hS 32).trans hran, (hsc.x hS 0).trans hx0, (hsc.I2 hS 22 (by decide) rfl (by decide) c).trans hce, (hsc.I2 hS 23 (by decide) rfl (by decide) c).trans hpk, (hsc.I2 hS 24 (by decide) rfl (by decide) c).trans hsu⟩
              · exact absurd rfl c10
            · omega
          · omega
      · exact absurd rfl c6
    · refine jv_aload_n (q := 25) G 1 dX8_met_24 rfl rfl rfl ?_
      refine jv_iload_n (q := 26) G 2 dX8_met_25 rfl rfl rfl ?_
      refine jv_iload_n (q := 27) G 4 dX8_met_26 rfl rfl rfl ?_
      refine jv_iload (q := 29) G 5 dX8_met_27 rfl rfl ?_
      refine jv_iload (q := 31) G 6 dX8_met_29 rfl rfl ?_
      refine jv_iload (q := 33) G 7 dX8_met_31 rfl rfl ?_
      refine jv_callV_I (q := 36) (h1 := h1) (As := [.int (nI c), .int (nI 3), .int ty, .int n, .int s]) (rest := []) (ce' := 0) (sl' := 0) (r := (ffE ec (m_co tsC 3 ty n s))) G Z ml_X8_195 (r_constantOf hlt hsc hS hc hec hEC hce (by decide) hgC) (hsc.S hS).1 dX8_met_33 rfl (by decide) (by decide) (by decide) (by decide) (Nat.le_of_ble_eq_true rfl) rfl rfl rfl rfl ?_
      refine jv_topI (y := (-1)) rfl ?_
      refine jv_goto (q := 40) G dX8_met_36 (by decide) ?_
      refine jv_istore (q := 42) (lo' := [(9, .int (-1)), (8, .int (-1)), (0, .ref x), (1, .int (nI c)), (2, .int (nI e)), (3, .int (nI 3)), (4, .int ty), (5, .int n), (6, .int s), (7, .int rc)]) G dX8_met_40 (by decide) rfl rfl ?_
      refine jv_iload (q := 44) G 0 dX8_met_42 rfl rfl ?_
      refine jv_iconst (q := 45) (v := (-1)) G dX8_met_44 (by decide) rfl ?_
      refine jv_icmp_eq (q := 48) (tgt := 111) G dX8_met_45 (by decide) rfl (fun c11 => ?_) (fun c11 => ?_)
      · refine jv_iload_n (q := 112) G 5 dX8_met_111 rfl rfl rfl ?_
        refine jv_iconst (q := 113) (v := nI 2) G dX8_met_112 (by decide) rfl ?_
        refine jv_icmp_eqN (q := 116) (tgt := 121) G dX8_met_113 (by decide) rfl (by omega) (by omega) (fun c12 => ?_) (fun c12 => ?_)
        · omega
        · refine jv_iload_n (q := 117) G 5 dX8_met_116 rfl rfl rfl ?_
          refine jv_iconst (q := 118) (v := nI 4) G dX8_met_117 (by decide) rfl ?_
          refine jv_icmp_neN (q := 121) (tgt := 125) G dX8_met_118 (by decide) rfl (by omega) (by omega) (fun c13 => ?_) (fun c13 => ?_)
          · refine jv_iconst (q := 126) (v := nI 0) G dX8_met_125 (by decide) rfl ?_
            refine jv_istore (q := 128) (lo' := [(10, .int (nI 0)), (9, .int (-1)), (8, .int (-1)), (0, .ref x), (1, .int (nI c)), (2, .int (nI e)), (3, .int (nI 3)), (4, .int ty), (5, .int n), (6, .int s), (7, .int rc)]) G dX8_met_126 (by decide) rfl rfl ?_
            refine jv_iload (q := 130) G 0 dX8_met_128 rfl rfl ?_
            refine jv_if_eqN (q := 133) (tgt := 143) G dX8_met_130 (by decide) rfl (by omega) (fun c14 => ?_) (fun c14 => ?_)
            · refine jv_iconst (q := 144) (v := (-1)) G dX8_met_143 (by decide) rfl ?_
              refine jv_istore (q := 146) (lo' := [(11, .int (-1)), (10, .int (nI 0)), (9, .int (-1)), (8, .int (-1)), (0, .ref x), (1, .int (nI c)), (2, .int (nI e)), (3, .int (nI 3)), (4, .int ty), (5, .int n), (6, .int s), (7, .int rc)]) G dX8_met_144 (by decide) rfl rfl ?_
              refine jv_iload (q := 148) G 3 dX8_met_146 rfl rfl ?_
              refine jv_iconst (q := 149) (v := (-1)) G dX8_met_148 (by decide) rfl ?_
              refine jv_icmp_eq (q := 152) (tgt := 163) G dX8_met_149 (by decide) rfl (fun c15 => ?_) (fun c15 => ?_)
              · refine jv_iconst (q := 164) (v := nI 1) G dX8_met_163 (by decide) rfl ?_
                refine jv_iret G hr dX8_met_164 (Nat.le_of_ble_eq_true rfl) (Nat.le_of_ble_eq_true rfl) ?_
                have hz : (m_met (decide (e = ec)) tsC ts pk su 3 ty n s rc) = (1, none) := by
                  unfold m_met m_isC m_bd
                  simp only [*, if_true, if_false, Bool.false_eq_true, reduceIte, Option.map_some, decide_true, decide_false, not_true_eq_false, not_false_eq_true, eq_self, ne_eq, Nat.reduceLT, Nat.lt_irrefl, Nat.reduceEqDiff, and_true, true_and, and_false, false_and, or_true, true_or, or_false, false_or, Bool.or_true, Bool.or_false, Bool.true_or, Bool.false_or, reduceCtorEq] <;> rfl
                exact ⟨by rw [hz], hrs.tr hsc.rs, by rw [hz]; exact (hsc.x hS 32).trans hran, (hsc.x hS 0).trans hx0, (hsc.I2 hS 22 (by decide) rfl (by decide) c).trans hce, (hsc.I2 hS 23 (by decide) rfl (by decide) c).trans hpk, (hsc.I2 hS 24 (by decide) rfl (by decide) c).trans hsu⟩
              · exact absurd rfl c15
            · omega
          · omega
      · exact absurd rfl c11
  · refine jv_topI (y := nI (10 * e + k2)) (by rw [hk4]; rfl) ?_
    obtain ⟨t3, ht3, nt3, lt3⟩ := m_at_some hk4
    have Tt3 := (hE.2.2 k2 t3 ht3).1
    have Ot3 := (hE.2.2 k2 t3 ht3).2
    have Lt3 := hE.2.1
    have Bt3n := Ot3.1; have Bt3k := Ot3.2.1
    refine jv_istore (q := 14) (lo' := [(8, .int (nI (10 * e + k2))), (0, .ref x), (1, .int (nI c)), (2, .int (nI e)), (3, .int (nI 3)), (4, .int ty), (5, .int n), (6, .int s), (7, .int rc)]) G dX8_met_12 (by decide) rfl rfl ?_
    refine jv_iload_n (q := 15) G 3 dX8_met_14 rfl rfl rfl ?_
    refine jv_aload_n (q := 16) G 1 dX8_met_15 rfl rfl rfl ?_
    refine jv_getQ (q := 19) G dX8_met_16 fl_X8_68 rfl (hsc.S hS).1 (rf_p22 (hsc.S hS)) rfl ?_
    refine jv_iload_n (q := 20) G 2 dX8_met_19 rfl rfl rfl ?_
    refine jv_iald (q := 21) G dX8_met_20 (rf_a22 (hsc.S hS)) rfl (by omega) (by decide) ((hsc.I2 hS 22 (by decide) rfl (by decide) c).trans hce) rfl ?_
    refine jv_icmp_eqN (q := 24) (tgt := 39) G dX8_met_21 (by decide) rfl (by omega) (by omega) (fun c16 => ?_) (fun c16 => ?_)
    · refine jv_iconst (q := 40) (v := (-1)) G dX8_met_39 (by decide) rfl ?_
      refine jv_istore (q := 42) (lo' := [(9, .int (-1)), (8, .int (nI (10 * e + k2))), (0, .ref x), (1, .int (nI c)), (2, .int (nI e)), (3, .int (nI 3)), (4, .int ty), (5, .int n), (6, .int s), (7, .int rc)]) G dX8_met_40 (by decide) rfl rfl ?_
      refine jv_iload (q := 44) G 0 dX8_met_42 rfl rfl ?_
      refine jv_iconst (q := 45) (v := (-1)) G dX8_met_44 (by decide) rfl ?_
      refine jv_icmp_eq (q := 48) (tgt := 111) G dX8_met_45 (by decide) rfl (fun c17 => ?_) (fun c17 => ?_)
      · refine jv_iload_n (q := 112) G 5 dX8_met_111 rfl rfl rfl ?_
        refine jv_iconst (q := 113) (v := nI 2) G dX8_met_112 (by decide) rfl ?_
        refine jv_icmp_eqN (q := 116) (tgt := 121) G dX8_met_113 (by decide) rfl (by omega) (by omega) (fun c18 => ?_) (fun c18 => ?_)
        · omega
        · refine jv_iload_n (q := 117) G 5 dX8_met_116 rfl rfl rfl ?_
          refine jv_iconst (q := 118) (v := nI 4) G dX8_met_117 (by decide) rfl ?_
          refine jv_icmp_neN (q := 121) (tgt := 125) G dX8_met_118 (by decide) rfl (by omega) (by omega) (fun c19 => ?_) (fun c19 => ?_)
          · refine jv_iconst (q := 126) (v := nI 0) G dX8_met_125 (by decide) rfl ?_
            refine jv_istore (q := 128) (lo' := [(10, .int (nI 0)), (9, .int (-1)), (8, .int (nI (10 * e + k2))), (0, .ref x), (1, .int (nI c)), (2, .int (nI e)), (3, .int (nI 3)), (4, .int ty), (5, .int n), (6, .int s), (7, .int rc)]) G dX8_met_126 (by decide) rfl rfl ?_
            refine jv_iload (q := 130) G 0 dX8_met_128 rfl rfl ?_
            refine jv_if_eqN (q := 133) (tgt := 143) G dX8_met_130 (by decide) rfl (by omega) (fun c20 => ?_) (fun c20 => ?_)
            · refine jv_iconst (q := 144) (v := (-1)) G dX8_met_143 (by decide) rfl ?_
              refine jv_istore (q := 146) (lo' := [(11, .int (-1)), (10, .int (nI 0)), (9, .int (-1)), (8, .int (nI (10 * e + k2))), (0, .ref x), (1, .int (nI c)), (2, .int (nI e)), (3, .int (nI 3)), (4, .int ty), (5, .int n), (6, .int s), (7, .int rc)]) G dX8_met_144 (by decide) rfl rfl ?_
              refine jv_iload (q := 148) G 3 dX8_met_146 rfl rfl ?_
              refine jv_iconst (q := 149) (v := (-1)) G dX8_met_148 (by decide) rfl ?_
              refine jv_icmp_eq (q := 152) (tgt := 163) G dX8_met_149 (by decide) rfl (fun c21 => ?_) (fun c21 => ?_)
              · exact absurd c21 (jv_nI_m1 (by omega))
              · refine jv_iload (q := 154) G 1 dX8_met_152 rfl rfl ?_
                refine jv_if_eqN (q := 157) (tgt := 165) G dX8_met_154 (by decide) rfl (by omega) (fun c22 => ?_) (fun c22 => ?_)
                · refine jv_aload_n (q := 166) G 4 dX8_met_165 rfl rfl rfl ?_
                  refine jv_getQ (q := 169) G dX8_met_166 fl_X8_29 rfl (hsc.S hS).1 (rf_p8 (hsc.S hS)) rfl ?_
                  refine jv_iload (q := 171) G 3 dX8_met_169 rfl rfl ?_
                  refine jv_zald (q := 172) G dX8_met_171 (rf_a8 (hsc.S hS)) rfl (by omega) (by decide) (rt_8 (hsc.T hS Tt3)) rfl ?_
                  refine jv_if_neB (q := 175) (tgt := 193) G dX8_met_172 (by decide) rfl (fun c23 => ?_) (fun c23 => ?_)
                  · refine jv_iload_n (q := 194) G 7 dX8_met_193 rfl rfl rfl ?_
                    refine jv_iconst (q := 195) (v := nI 2) G dX8_met_194 (by decide) rfl ?_
                    refine jv_icmp_neN (q := 198) (tgt := 208) G dX8_met_195 (by decide) rfl (by omega) (by omega) (fun c24 => ?_) (fun c24 => ?_)
                    · refine jv_iload_n (q := 209) G 7 dX8_met_208 rfl rfl rfl ?_
                      refine jv_iconst (q := 210) (v := nI 4) G dX8_met_209 (by decide) rfl ?_
                      refine jv_icmp_neN (q := 213) (tgt := 226) G dX8_met_210 (by decide) rfl (by omega) (by omega) (fun c25 => ?_) (fun c25 => ?_)
                      · refine jv_iload_n (q := 227) G 7 dX8_met_226 rfl rfl rfl ?_
                        refine jv_iconst (q := 228) (v := nI 5) G dX8_met_227 (by decide) rfl ?_
                        refine jv_icmp_neN (q := 231) (tgt := 247) G dX8_met_228 (by decide) rfl (by omega) (by omega) (fun c26 => ?_) (fun c26 => ?_)
                        · refine jv_iload_n (q := 248) G 7 dX8_met_247 rfl rfl rfl ?_
                          refine jv_iconst (q := 249) (v := nI 2) G dX8_met_248 (by decide) rfl ?_
                          refine jv_icmp_geN (q := 252) (tgt := 266) G dX8_met_249 (by decide) rfl (by omega) (by omega) (fun c27 => ?_) (fun c27 => ?_)
                          · refine jv_aload_n (q := 267) G 4 dX8_met_266 rfl rfl rfl ?_
                            refine jv_iload_n (q := 268) G 6 dX8_met_267 rfl rfl rfl ?_
                            refine jv_iload (q := 270) G 3 dX8_met_268 rfl rfl ?_
                            refine jv_iload (q := 272) G 9 dX8_met_270 rfl rfl ?_
                            refine jv_iload (q := 274) G 10 dX8_met_272 rfl rfl ?_
                            refine jv_callV (q := 277) (As := [.int (nI e), .int (nI (10 * e + k2)), .int n, .int s]) (rest := []) G Z ml_X8_186 (r_findMethod (d := 11) hlt hsc hS he hE hV ht3 (hg k2 (by omega))) (hsc.S hS).1 dX8_met_274 rfl (by decide) (by decide) (by decide) (by decide) (Nat.le_of_ble_eq_true rfl) rfl rfl (fun v29 h28 y30 => ?_) (fun _ _ hx => hx.elim)
                            obtain ⟨rfl, hsc⟩ := y30
                            show jv_V E 14 h28 0 0 (jv_Q E (fun v h' => v = some (.int (nI (m_met (decide (e = ec)) tsC ts pk su 3 ty n s rc).1)) ∧ rs x q h h' ∧ jv_I h' x 32 = jv_oN (m_met (decide (e = ec)) tsC ts pk su 3 ty n s rc).2 ∧ jv_I h' x 0 = jv_I h x 0 ∧ jv_I h' (q 22) c = nI ec ∧ jv_I h' (q 23) c = nI pk ∧ jv_I h' (q 24) c = jv_oN su) jv_no 0 0) 277 [(11, .int (-1)), (10, .int (nI 0)), (9, .int (-1)), (8, .int (nI (10 * e + k2))), (0, .ref x), (1, .int (nI c)), (2, .int (nI e)), (3, .int (nI 3)), (4, .int ty), (5, .int n), (6, .int s), (7, .int rc)] [.int (ffE e (m_fm ts 11 k2 n s))]
                            rcases Option.eq_none_or_eq_some (m_fm ts 11 k2 n s) with hp34 | ⟨p31, hp34⟩
                            · refine jv_topI (y := (-1)) (by rw [hp34]; rfl) ?_
                              refine jv_istore (q := 279) (lo' := [(12, .int (-1)), (11, .int (-1)), (10, .int (nI 0)), (9, .int (-1)), (8, .int (nI (10 * e + k2))), (0, .ref x), (1, .int (nI c)), (2, .int (nI e)), (3, .int (nI 3)), (4, .int ty), (5, .int n), (6, .int s), (7, .int rc)]) G dX8_met_277 (by decide) rfl rfl ?_
                              refine jv_iload (q := 281) G 0 dX8_met_279 rfl rfl ?_
                              refine jv_iconst (q := 282) (v := (-1)) G dX8_met_281 (by decide) rfl ?_
                              refine jv_icmp_ne (q := 285) (tgt := 287) G dX8_met_282 (by decide) rfl (fun c35 => ?_) (fun c35 => ?_)
                              · exact absurd rfl c35
                              · refine jv_iconst (q := 286) (v := nI 2) G dX8_met_285 (by decide) rfl ?_
                                refine jv_iret G hr dX8_met_286 (Nat.le_of_ble_eq_true rfl) (Nat.le_of_ble_eq_true rfl) ?_
                                have hz : (m_met (decide (e = ec)) tsC ts pk su 3 ty n s rc) = (2, none) := by
                                  unfold m_met m_isC m_bd
                                  simp only [*, if_true, if_false, Bool.false_eq_true, reduceIte, Option.map_some, decide_true, decide_false, not_true_eq_false, not_false_eq_true, eq_self, ne_eq, Nat.reduceLT, Nat.lt_irrefl, Nat.reduceEqDiff, and_true, true_and, and_false, false_and, or_true, true_or, or_false, false_or, Bool.or_true, Bool.or_false, Bool.true_or, Bool.false_or, reduceCtorEq] <;> rfl
                                exact ⟨by rw [hz], hrs.tr hsc.rs, by rw [hz]; exact (hsc.x hS 32).trans hran, (hsc.x hS 0).trans hx0, (hsc.I2 hS 22 (by decide) rfl (by decide) c).trans hce, (hsc.I2 hS 23 (by decide) rfl (by decide) c).trans hpk, (hsc.I2 hS 24 (by decide) rfl (by decide) c).trans hsu⟩
                            · refine jv_topI (y := nI (6 * (10 * e + p31.1) + p31.2)) (by rw [hp34]; rfl) ?_
                              obtain ⟨t32, ht32, m33, hm33⟩ := m_fm_mem hp34
                              have Tt32 := (hE.2.2 p31.1 t32 ht32).1
                              have Ot32 := (hE.2.2 p31.1 t32 ht32).2
                              have Lt32 := hE.2.1
                              have lt32 := jv_ltGet ht32
                              have Mm33 := rt_m Tt32 hm33
                              have Om33 := Ot32.2.2.2.2.2.2 m33 (List.mem_of_getElem? hm33)
                              have Lm33 := Ot32.2.2.2.2.2.1
                              have lm33 := jv_ltGet hm33
                              have Bm33n := Om33.1; have Bm33s := Om33.2.1; have Bm33a := Om33.2.2.1; have Bt32n := Ot32.1; have Bt32k := Ot32.2.1
                              refine jv_istore (q := 279) (lo' := [(12, .int (nI (6 * (10 * e + p31.1) + p31.2))), (11, .int (-1)), (10, .int (nI 0)), (9, .int (-1)), (8, .int (nI (10 * e + k2))), (0, .ref x), (1, .int (nI c)), (2, .int (nI e)), (3, .int (nI 3)), (4, .int ty), (5, .int n), (6, .int s), (7, .int rc)]) G dX8_met_277 (by decide) rfl rfl ?_
                              refine jv_iload (q := 281) G 0 dX8_met_279 rfl rfl ?_
                              refine jv_iconst (q := 282) (v := (-1)) G dX8_met_281 (by decide) rfl ?_
                              refine jv_icmp_ne (q := 285) (tgt := 287) G dX8_met_282 (by decide) rfl (fun c36 => ?_) (fun c36 => ?_)
                              · refine jv_aload_n (q := 288) G 5 dX8_met_287 rfl rfl rfl ?_
                                refine jv_iload_n (q := 289) G 6 dX8_met_288 rfl rfl rfl ?_
                                refine jv_iload_n (q := 290) G 7 dX8_met_289 rfl rfl rfl ?_
                                refine jv_iload (q := 292) G 0 dX8_met_290 rfl rfl ?_
                                refine jv_callV_I (q := 295) (h1 := h28) (As := [.int (nI c), .int (nI e), .int (nI (6 * (10 * e + p31.1) + p31.2))]) (rest := []) (ce' := 0) (sl' := 0) (r := jv_bI (m_mr ts pk su t32 m33)) G Z ml_X8_199 (r_mayReach hlt hsc hS hc he hE hV ht32 hm33 hpk hpk5 hsu hsu16) (hsc.S hS).1 dX8_met_292 rfl (by decide) (by decide) (by decide) (by decide) (Nat.le_of_ble_eq_true rfl) rfl rfl rfl rfl ?_
                                refine jv_if_neB (q := 298) (tgt := 300) G dX8_met_295 (by decide) rfl (fun c37 => ?_) (fun c37 => ?_)
                                · refine jv_aload_n (q := 301) G 5 dX8_met_300 rfl rfl rfl ?_
                                  refine jv_getQ (q := 304) G dX8_met_301 fl_X8_56 rfl (hsc.S hS).1 (rf_p17 (hsc.S hS)) rfl ?_
                                  refine jv_iload (q := 306) G 0 dX8_met_304 rfl rfl ?_
                                  refine jv_zald (q := 307) G dX8_met_306 (rf_a17 (hsc.S hS)) rfl (by omega) (by decide) (hsc.M hS Mm33).2.2.2.2.1 rfl ?_
                                  refine jv_iload_n (q := 308) G 8 dX8_met_307 rfl rfl rfl ?_
                                  refine jv_iconst (q := 309) (v := nI 1) G dX8_met_308 (by decide) rfl ?_
                                  refine jv_icmp_eqN (q := 312) (tgt := 317) G dX8_met_309 (by decide) rfl (by omega) (by omega) (fun c38 => ?_) (fun c38 => ?_)
                                  · omega
                                  · refine jv_iload_n (q := 313) G 8 dX8_met_312 rfl rfl rfl ?_
                                    refine jv_iconst (q := 314) (v := nI 3) G dX8_met_313 (by decide) rfl ?_
                                    refine jv_icmp_neN (q := 317) (tgt := 321) G dX8_met_314 (by decide) rfl (by omega) (by omega) (fun c39 => ?_) (fun c39 => ?_)
                                    · omega
                                    · refine jv_iconst (q := 318) (v := nI 1) G dX8_met_317 (by decide) rfl ?_
                                      refine jv_goto (q := 322) G dX8_met_318 (by decide) ?_
                                      refine jv_topI (y := jv_bI true) rfl ?_
                                      refine jv_icmp_eqB (q := 325) (tgt := 327) G dX8_met_322 (by decide) rfl (fun c40 => ?_) (fun c40 => ?_)
                                      · refine jv_iload (q := 329) G 2 dX8_met_327 rfl rfl ?_
                                        refine jv_if_neN (q := 332) (tgt := 357) G dX8_met_329 (by decide) rfl (by omega) (fun c41 => ?_) (fun c41 => ?_)
                                        · omega
                                        · refine jv_aload_n (q := 333) G 5 dX8_met_332 rfl rfl rfl ?_
                                          refine jv_iload_n (q := 334) G 8 dX8_met_333 rfl rfl rfl ?_
                                          refine jv_iconst (q := 335) (v := nI 3) G dX8_met_334 (by decide) rfl ?_
                                          refine jv_icmp_neN (q := 338) (tgt := 351) G dX8_met_335 (by decide) rfl (by omega) (by omega) (fun c42 => ?_) (fun c42 => ?_)
                                          · omega
                                          · refine jv_aload_n (q := 339) G 5 dX8_met_338 rfl rfl rfl ?_
                                            refine jv_getQ (q := 342) G dX8_met_339 fl_X8_17 rfl (hsc.S hS).1 (rf_p4 (hsc.S hS)) rfl ?_
                                            refine jv_iload (q := 344) G 0 dX8_met_342 rfl rfl ?_
                                            refine jv_callS_I (q := 347) (h1 := h28) (As := [.int (nI (6 * (10 * e + p31.1) + p31.2))]) (rest := [.ref (q 4), .ref x]) (ce' := 0) (sl' := 0) (r := nI ((6 * (10 * e + p31.1) + p31.2) / 6)) G Z ml_X8_183 (r_typeOf hlt (by omega)) dX8_met_344 rfl (by decide) (by decide) (by decide) (by decide) (Nat.le_of_ble_eq_true rfl) rfl rfl rfl rfl ?_
                                            refine jv_topI (y := nI (10 * e + p31.1)) (congrArg nI (by omega)) ?_
                                            refine jv_iald (q := 348) G dX8_met_347 (rf_a4 (hsc.S hS)) rfl (by omega) (by decide) (rt_4 (hsc.T hS Tt32)) rfl ?_
                                            refine jv_goto (q := 352) G dX8_met_348 (by decide) ?_
                                            refine jv_putI (q := 355) G dX8_met_352 fl_X8_192 rfl (hsc.S hS).1 rfl ?_
                                            have hr1 : rs x q h28 (jv_wI h28 x 32 (nI (mt_n t32))) := rs.rf.wI (nI (mt_n t32)) (Or.inl ⟨rfl, Or.inr (Or.inl rfl)⟩)
                                            have hran : jv_I (jv_wI h28 x 32 (nI (mt_n t32))) x 32 = (nI (mt_n t32)) := jv_I_self _ _ _ _
                                            have hSb := hsc.S hS
                                            have hE := hr1.E hSb (hsc.E hS hE)
                                            have hV := hr1.V hSb (hsc.V hS hV)
                                            have hEC := hr1.E hSb (hsc.E hS hEC)
                                            have hVC := hr1.V hSb (hsc.V hS hVC)
                                            have hce := (wx_I hSb 22 (by decide) rfl 32 c (nI (mt_n t32))).trans ((hsc.I2 hS 22 (by decide) rfl (by decide) c).trans hce)
                                            have hpk := (wx_I hSb 23 (by decide) rfl 32 c (nI (mt_n t32))).trans ((hsc.I2 hS 23 (by decide) rfl (by decide) c).trans hpk)
                                            have hsu := (wx_I hSb 24 (by decide) rfl 32 c (nI (mt_n t32))).trans ((hsc.I2 hS 24 (by decide) rfl (by decide) c).trans hsu)
                                            have hrs := (hrs.tr hsc.rs).tr hr1
                                            have hx0 : jv_I (jv_wI h28 x 32 (nI (mt_n t32))) x 0 = jv_I h x 0 := by rw [jv_I_wI, if_neg (fun z => by cases z.2)] <;> exact (hsc.x hS 0).trans hx0
                                            have hS := hr1.S hSb
                                            generalize jv_wI h28 x 32 (nI (mt_n t32)) = h43 at hran hx0 hE hV hEC hVC hce hpk hsu hrs hS ⊢
                                            have hsc : sc x q h43 h43 := sc.rf
                                            refine jv_iconst (q := 356) (v := nI 0) G dX8_met_355 (by decide) rfl ?_
                                            refine jv_iret G hr dX8_met_356 (Nat.le_of_ble_eq_true rfl) (Nat.le_of_ble_eq_true rfl) ?_
                                            have hz : (m_met (decide (e = ec)) tsC ts pk su 3 ty n s rc) = (0, some (mt_n t32)) := by
                                              unfold m_met m_isC m_bd
                                              simp only [*, if_true, if_false, Bool.false_eq_true, reduceIte, Option.map_some, decide_true, decide_false, not_true_eq_false, not_false_eq_true, eq_self, ne_eq, Nat.reduceLT, Nat.lt_irrefl, Nat.reduceEqDiff, and_true, true_and, and_false, false_and, or_true, true_or, or_false, false_or, Bool.or_true, Bool.or_false, Bool.true_or, Bool.false_or, reduceCtorEq] <;> rfl
                                            exact ⟨by rw [hz], hrs.tr hsc.rs, by rw [hz]; exact (hsc.x hS 32).trans hran, (hsc.x hS 0).trans hx0, (hsc.I2 hS 22 (by decide) rfl (by decide) c).trans hce, (hsc.I2 hS 23 (by decide) rfl (by decide) c).trans hpk, (hsc.I2 hS 24 (by decide) rfl (by decide) c).trans hsu⟩
                                      · refine jv_iconst (q := 326) (v := nI 4) G dX8_met_325 (by decide) rfl ?_
                                        refine jv_iret G hr dX8_met_326 (Nat.le_of_ble_eq_true rfl) (Nat.le_of_ble_eq_true rfl) ?_
                                        have hz : (m_met (decide (e = ec)) tsC ts pk su 3 ty n s rc) = (4, none) := by
                                          unfold m_met m_isC m_bd
                                          simp only [*, if_true, if_false, Bool.false_eq_true, reduceIte, Option.map_some, decide_true, decide_false, not_true_eq_false, not_false_eq_true, eq_self, ne_eq, Nat.reduceLT, Nat.lt_irrefl, Nat.reduceEqDiff, and_true, true_and, and_false, false_and, or_true, true_or, or_false, false_or, Bool.or_true, Bool.or_false, Bool.true_or, Bool.false_or, reduceCtorEq] <;> rfl
                                        exact ⟨by rw [hz], hrs.tr hsc.rs, by rw [hz]; exact (hsc.x hS 32).trans hran, (hsc.x hS 0).trans hx0, (hsc.I2 hS 22 (by decide) rfl (by decide) c).trans hce, (hsc.I2 hS 23 (by decide) rfl (by decide) c).trans hpk, (hsc.I2 hS 24 (by decide) rfl (by decide) c).trans hsu⟩
                                · refine jv_iconst (q := 299) (v := nI 3) G dX8_met_298 (by decide) rfl ?_
                                  refine jv_iret G hr dX8_met_299 (Nat.le_of_ble_eq_true rfl) (Nat.le_of_ble_eq_true rfl) ?_
                                  have hz : (m_met (decide (e = ec)) tsC ts pk su 3 ty n s rc) = (3, none) := by
                                    unfold m_met m_isC m_bd
                                    simp only [*, if_true, if_false, Bool.false_eq_true, reduceIte, Option.map_some, decide_true, decide_false, not_true_eq_false, not_false_eq_true, eq_self, ne_eq, Nat.reduceLT, Nat.lt_irrefl, Nat.reduceEqDiff, and_true, true_and, and_false, false_and, or_true, true_or, or_false, false_or, Bool.or_true, Bool.or_false, Bool.true_or, Bool.false_or, reduceCtorEq] <;> rfl
                                  exact ⟨by rw [hz], hrs.tr hsc.rs, by rw [hz]; exact (hsc.x hS 32).trans hran, (hsc.x hS 0).trans hx0, (hsc.I2 hS 22 (by decide) rfl (by decide) c).trans hce, (hsc.I2 hS 23 (by decide) rfl (by decide) c).trans hpk, (hsc.I2 hS 24 (by decide) rfl (by decide) c).trans hsu⟩
                              · exact absurd c36 (jv_nI_m1 (by omega))
                          · omega
                        · omega
                      · omega
                    · omega
                  · refine jv_aload_n (q := 176) G 4 dX8_met_175 rfl rfl rfl ?_
                    refine jv_getQ (q := 179) G dX8_met_176 fl_X8_26 rfl (hsc.S hS).1 (rf_p7 (hsc.S hS)) rfl ?_
                    refine jv_iload (q := 181) G 3 dX8_met_179 rfl rfl ?_
                    refine jv_iald (q := 182) G dX8_met_181 (rf_a7 (hsc.S hS)) rfl (by omega) (by decide) (rt_7 (hsc.T hS Tt3)) rfl ?_
                    refine jv_aload_n (q := 183) G 4 dX8_met_182 rfl rfl rfl ?_
                    refine jv_getQ (q := 186) G dX8_met_183 fl_X8_71 rfl (hsc.S hS).1 (rf_p23 (hsc.S hS)) rfl ?_
                    refine jv_iload_n (q := 187) G 5 dX8_met_186 rfl rfl rfl ?_
                    refine jv_iald (q := 188) G dX8_met_187 (rf_a23 (hsc.S hS)) rfl (by omega) (by decide) ((hsc.I2 hS 23 (by decide) rfl (by decide) c).trans hpk) rfl ?_
                    refine jv_icmp_eqN (q := 191) (tgt := 193) G dX8_met_188 (by decide) rfl (by omega) (by omega) (fun c44 => ?_) (fun c44 => ?_)
                    · refine jv_iload_n (q := 194) G 7 dX8_met_193 rfl rfl rfl ?_
                      refine jv_iconst (q := 195) (v := nI 2) G dX8_met_194 (by decide) rfl ?_
                      refine jv_icmp_neN (q := 198) (tgt := 208) G dX8_met_195 (by decide) rfl (by omega) (by omega) (fun c45 => ?_) (fun c45 => ?_)
                      · refine jv_iload_n (q := 209) G 7 dX8_met_208 rfl rfl rfl ?_
                        refine jv_iconst (q := 210) (v := nI 4) G dX8_met_209 (by decide) rfl ?_
                        refine jv_icmp_neN (q := 213) (tgt := 226) G dX8_met_210 (by decide) rfl (by omega) (by omega) (fun c46 => ?_) (fun c46 => ?_)
                        · refine jv_iload_n (q := 227) G 7 dX8_met_226 rfl rfl rfl ?_
                          refine jv_iconst (q := 228) (v := nI 5) G dX8_met_227 (by decide) rfl ?_
                          refine jv_icmp_neN (q := 231) (tgt := 247) G dX8_met_228 (by decide) rfl (by omega) (by omega) (fun c47 => ?_) (fun c47 => ?_)
                          · refine jv_iload_n (q := 248) G 7 dX8_met_247 rfl rfl rfl ?_
                            refine jv_iconst (q := 249) (v := nI 2) G dX8_met_248 (by decide) rfl ?_
                            refine jv_icmp_geN (q := 252) (tgt := 266) G dX8_met_249 (by decide) rfl (by omega) (by omega) (fun c48 => ?_) (fun c48 => ?_)
                            · refine jv_aload_n (q := 267) G 4 dX8_met_266 rfl rfl rfl ?_
                              refine jv_iload_n (q := 268) G 6 dX8_met_267 rfl rfl rfl ?_
                              refine jv_iload (q := 270) G 3 dX8_met_268 rfl rfl ?_
                              refine jv_iload (q := 272) G 9 dX8_met_270 rfl rfl ?_
                              refine jv_iload (q := 274) G 10 dX8_met_272 rfl rfl ?_
                              refine jv_callV (q := 277) (As := [.int (nI e), .int (nI (10 * e + k2)), .int n, .int s]) (rest := []) G Z ml_X8_186 (r_findMethod (d := 11) hlt hsc hS he hE hV ht3 (hg k2 (by omega))) (hsc.S hS).1 dX8_met_274 rfl (by decide) (by decide) (by decide) (by decide) (Nat.le_of_ble_eq_true rfl) rfl rfl (fun v50 h49 y51 => ?_) (fun _ _ hx => hx.elim)
                              obtain ⟨rfl, hsc⟩ := y51
                              show jv_V E 14 h49 0 0 (jv_Q E (fun v h' => v = some (.int (nI (m_met (decide (e = ec)) tsC ts pk su 3 ty n s rc).1)) ∧ rs x q h h' ∧ jv_I h' x 32 = jv_oN (m_met (decide (e = ec)) tsC ts pk su 3 ty n s rc).2 ∧ jv_I h' x 0 = jv_I h x 0 ∧ jv_I h' (q 22) c = nI ec ∧ jv_I h' (q 23) c = nI pk ∧ jv_I h' (q 24) c = jv_oN su) jv_no 0 0) 277 [(11, .int (-1)), (10, .int (nI 0)), (9, .int (-1)), (8, .int (nI (10 * e + k2))), (0, .ref x), (1, .int (nI c)), (2, .int (nI e)), (3, .int (nI 3)), (4, .int ty), (5, .int n), (6, .int s), (7, .int rc)] [.int (ffE e (m_fm ts 11 k2 n s))]
                              rcases Option.eq_none_or_eq_some (m_fm ts 11 k2 n s) with hp55 | ⟨p52, hp55⟩
                              · refine jv_topI (y := (-1)) (by rw [hp55]; rfl) ?_
                                refine jv_istore (q := 279) (lo' := [(12, .int (-1)), (11, .int (-1)), (10, .int (nI 0)), (9, .int (-1)), (8, .int (nI (10 * e + k2))), (0, .ref x), (1, .int (nI c)), (2, .int (nI e)), (3, .int (nI 3)), (4, .int ty), (5, .int n), (6, .int s), (7, .int rc)]) G dX8_met_277 (by decide) rfl rfl ?_
                                refine jv_iload (q := 281) G 0 dX8_met_279 rfl rfl ?_
                                refine jv_iconst (q := 282) (v := (-1)) G dX8_met_281 (by decide) rfl ?_
                                refine jv_icmp_ne (q := 285) (tgt := 287) G dX8_met_282 (by decide) rfl (fun c56 => ?_) (fun c56 => ?_)
                                · exact absurd rfl c56
                                · refine jv_iconst (q := 286) (v := nI 2) G dX8_met_285 (by decide) rfl ?_
                                  refine jv_iret G hr dX8_met_286 (Nat.le_of_ble_eq_true rfl) (Nat.le_of_ble_eq_true rfl) ?_
                                  have hz : (m_met (decide (e = ec)) tsC ts pk su 3 ty n s rc) = (2, none) := by
                                    unfold m_met m_isC m_bd
                                    simp only [*, if_true, if_false, Bool.false_eq_true, reduceIte, Option.map_some, decide_true, decide_false, not_true_eq_false, not_false_eq_true, eq_self, ne_eq, Nat.reduceLT, Nat.lt_irrefl, Nat.reduceEqDiff, and_true, true_and, and_false, false_and, or_true, true_or, or_false, false_or, Bool.or_true, Bool.or_false, Bool.true_or, Bool.false_or, reduceCtorEq] <;> rfl
                                  exact ⟨by rw [hz], hrs.tr hsc.rs, by rw [hz]; exact (hsc.x hS 32).trans hran, (hsc.x hS 0).trans hx0, (hsc.I2 hS 22 (by decide) rfl (by decide) c).trans hce, (hsc.I2 hS 23 (by decide) rfl (by decide) c).trans hpk, (hsc.I2 hS 24 (by decide) rfl (by decide) c).trans hsu⟩
                              · refine jv_topI (y := nI (6 * (10 * e + p52.1) + p52.2)) (by rw [hp55]; rfl) ?_
                                obtain ⟨t53, ht53, m54, hm54⟩ := m_fm_mem hp55
                                have Tt53 := (hE.2.2 p52.1 t53 ht53).1
                                have Ot53 := (hE.2.2 p52.1 t53 ht53).2
                                have Lt53 := hE.2.1
                                have lt53 := jv_ltGet ht53
                                have Mm54 := rt_m Tt53 hm54
                                have Om54 := Ot53.2.2.2.2.2.2 m54 (List.mem_of_getElem? hm54)
                                have Lm54 := Ot53.2.2.2.2.2.1
                                have lm54 := jv_ltGet hm54
                                have Bm54n := Om54.1; have Bm54s := Om54.2.1; have Bm54a := Om54.2.2.1; have Bt53n := Ot53.1; have Bt53k := Ot53.2.1
                                refine jv_istore (q := 279) (lo' := [(12, .int (nI (6 * (10 * e + p52.1) + p52.2))), (11, .int (-1)), (10, .int (nI 0)), (9, .int (-1)), (8, .int (nI (10 * e + k2))), (0, .ref x), (1, .int (nI c)), (2, .int (nI e)), (3, .int (nI 3)), (4, .int ty), (5, .int n), (6, .int s), (7, .int rc)]) G dX8_met_277 (by decide) rfl rfl ?_
                                refine jv_iload (q := 281) G 0 dX8_met_279 rfl rfl ?_
                                refine jv_iconst (q := 282) (v := (-1)) G dX8_met_281 (by decide) rfl ?_
                                refine jv_icmp_ne (q := 285) (tgt := 287) G dX8_met_282 (by decide) rfl (fun c57 => ?_) (fun c57 => ?_)
                                · refine jv_aload_n (q := 288) G 5 dX8_met_287 rfl rfl rfl ?_
                                  refine jv_iload_n (q := 289) G 6 dX8_met_288 rfl rfl rfl ?_
                                  refine jv_iload_n (q := 290) G 7 dX8_met_289 rfl rfl rfl ?_
                                  refine jv_iload (q := 292) G 0 dX8_met_290 rfl rfl ?_
                                  refine jv_callV_I (q := 295) (h1 := h49) (As := [.int (nI c), .int (nI e), .int (nI (6 * (10 * e + p52.1) + p52.2))]) (rest := []) (ce' := 0) (sl' := 0) (r := jv_bI (m_mr ts pk su t53 m54)) G Z ml_X8_199 (r_mayReach hlt hsc hS hc he hE hV ht53 hm54 hpk hpk5 hsu hsu16) (hsc.S hS).1 dX8_met_292 rfl (by decide) (by decide) (by decide) (by decide) (Nat.le_of_ble_eq_true rfl) rfl rfl rfl rfl ?_
                                  refine jv_if_neB (q := 298) (tgt := 300) G dX8_met_295 (by decide) rfl (fun c58 => ?_) (fun c58 => ?_)
                                  · refine jv_aload_n (q := 301) G 5 dX8_met_300 rfl rfl rfl ?_
                                    refine jv_getQ (q := 304) G dX8_met_301 fl_X8_56 rfl (hsc.S hS).1 (rf_p17 (hsc.S hS)) rfl ?_
                                    refine jv_iload (q := 306) G 0 dX8_met_304 rfl rfl ?_
                                    refine jv_zald (q := 307) G dX8_met_306 (rf_a17 (hsc.S hS)) rfl (by omega) (by decide) (hsc.M hS Mm54).2.2.2.2.1 rfl ?_
                                    refine jv_iload_n (q := 308) G 8 dX8_met_307 rfl rfl rfl ?_
                                    refine jv_iconst (q := 309) (v := nI 1) G dX8_met_308 (by decide) rfl ?_
                                    refine jv_icmp_eqN (q := 312) (tgt := 317) G dX8_met_309 (by decide) rfl (by omega) (by omega) (fun c59 => ?_) (fun c59 => ?_)
                                    · omega
                                    · refine jv_iload_n (q := 313) G 8 dX8_met_312 rfl rfl rfl ?_
                                      refine jv_iconst (q := 314) (v := nI 3) G dX8_met_313 (by decide) rfl ?_
                                      refine jv_icmp_neN (q := 317) (tgt := 321) G dX8_met_314 (by decide) rfl (by omega) (by omega) (fun c60 => ?_) (fun c60 => ?_)
                                      · omega
                                      · refine jv_iconst (q := 318) (v := nI 1) G dX8_met_317 (by decide) rfl ?_
                                        refine jv_goto (q := 322) G dX8_met_318 (by decide) ?_
                                        refine jv_topI (y := jv_bI true) rfl ?_
                                        refine jv_icmp_eqB (q := 325) (tgt := 327) G dX8_met_322 (by decide) rfl (fun c61 => ?_) (fun c61 => ?_)
                                        · refine jv_iload (q := 329) G 2 dX8_met_327 rfl rfl ?_
                                          refine jv_if_neN (q := 332) (tgt := 357) G dX8_met_329 (by decide) rfl (by omega) (fun c62 => ?_) (fun c62 => ?_)
                                          · omega
                                          · refine jv_aload_n (q := 333) G 5 dX8_met_332 rfl rfl rfl ?_
                                            refine jv_iload_n (q := 334) G 8 dX8_met_333 rfl rfl rfl ?_
                                            refine jv_iconst (q := 335) (v := nI 3) G dX8_met_334 (by decide) rfl ?_
                                            refine jv_icmp_neN (q := 338) (tgt := 351) G dX8_met_335 (by decide) rfl (by omega) (by omega) (fun c63 => ?_) (fun c63 => ?_)
                                            · omega
                                            · refine jv_aload_n (q := 339) G 5 dX8_met_338 rfl rfl rfl ?_
                                              refine jv_getQ (q := 342) G dX8_met_339 fl_X8_17 rfl (hsc.S hS).1 (rf_p4 (hsc.S hS)) rfl ?_
                                              refine jv_iload (q := 344) G 0 dX8_met_342 rfl rfl ?_
                                              refine jv_callS_I (q := 347) (h1 := h49) (As := [.int (nI (6 * (10 * e + p52.1) + p52.2))]) (rest := [.ref (q 4), .ref x]) (ce' := 0) (sl' := 0) (r := nI ((6 * (10 * e + p52.1) + p52.2) / 6)) G Z ml_X8_183 (r_typeOf hlt (by omega)) dX8_met_344 rfl (by decide) (by decide) (by decide) (by decide) (Nat.le_of_ble_eq_true rfl) rfl rfl rfl rfl ?_
                                              refine jv_topI (y := nI (10 * e + p52.1)) (congrArg nI (by omega)) ?_
                                              refine jv_iald (q := 348) G dX8_met_347 (rf_a4 (hsc.S hS)) rfl (by omega) (by decide) (rt_4 (hsc.T hS Tt53)) rfl ?_
                                              refine jv_goto (q := 352) G dX8_met_348 (by decide) ?_
                                              refine jv_putI (q := 355) G dX8_met_352 fl_X8_192 rfl (hsc.S hS).1 rfl ?_
                                              have hr1 : rs x q h49 (jv_wI h49 x 32 (nI (mt_n t53))) := rs.rf.wI (nI (mt_n t53)) (Or.inl ⟨rfl, Or.inr (Or.inl rfl)⟩)
                                              have hran : jv_I (jv_wI h49 x 32 (nI (mt_n t53))) x 32 = (nI (mt_n t53)) := jv_I_self _ _ _ _
                                              have hSb := hsc.S hS
                                              have hE := hr1.E hSb (hsc.E hS hE)
                                              have hV := hr1.V hSb (hsc.V hS hV)
                                              have hEC := hr1.E hSb (hsc.E hS hEC)
                                              have hVC := hr1.V hSb (hsc.V hS hVC)
                                              have hce := (wx_I hSb 22 (by decide) rfl 32 c (nI (mt_n t53))).trans ((hsc.I2 hS 22 (by decide) rfl (by decide) c).trans hce)
                                              have hpk := (wx_I hSb 23 (by decide) rfl 32 c (nI (mt_n t53))).trans ((hsc.I2 hS 23 (by decide) rfl (by decide) c).trans hpk)
                                              have hsu := (wx_I hSb 24 (by decide) rfl 32 c (nI (mt_n t53))).trans ((hsc.I2 hS 24 (by decide) rfl (by decide) c).trans hsu)
                                              have hrs := (hrs.tr hsc.rs).tr hr1
                                              have hx0 : jv_I (jv_wI h49 x 32 (nI (mt_n t53))) x 0 = jv_I h x 0 := by rw [jv_I_wI, if_neg (fun z => by cases z.2)] <;> exact (hsc.x hS 0).trans hx0
                                              have hS := hr1.S hSb
                                              generalize jv_wI h49 x 32 (nI (mt_n t53)) = h64 at hran hx0 hE hV hEC hVC hce hpk hsu hrs hS ⊢
                                              have hsc : sc x q h64 h64 := sc.rf
                                              refine jv_iconst (q := 356) (v := nI 0) G dX8_met_355 (by decide) rfl ?_
                                              refine jv_iret G hr dX8_met_356 (Nat.le_of_ble_eq_true rfl) (Nat.le_of_ble_eq_true rfl) ?_
                                              have hz : (m_met (decide (e = ec)) tsC ts pk su 3 ty n s rc) = (0, some (mt_n t53)) := by
                                                unfold m_met m_isC m_bd
                                                simp only [*, if_true, if_false, Bool.false_eq_true, reduceIte, Option.map_some, decide_true, decide_false, not_true_eq_false, not_false_eq_true, eq_self, ne_eq, Nat.reduceLT, Nat.lt_irrefl, Nat.reduceEqDiff, and_true, true_and, and_false, false_and, or_true, true_or, or_false, false_or, Bool.or_true, Bool.or_false, Bool.true_or, Bool.false_or, reduceCtorEq] <;> rfl
                                              exact ⟨by rw [hz], hrs.tr hsc.rs, by rw [hz]; exact (hsc.x hS 32).trans hran, (hsc.x hS 0).trans hx0, (hsc.I2 hS 22 (by decide) rfl (by decide) c).trans hce, (hsc.I2 hS 23 (by decide) rfl (by decide) c).trans hpk, (hsc.I2 hS 24 (by decide) rfl (by decide) c).trans hsu⟩
                                        · refine jv_iconst (q := 326) (v := nI 4) G dX8_met_325 (by decide) rfl ?_
                                          refine jv_iret G hr dX8_met_326 (Nat.le_of_ble_eq_true rfl) (Nat.le_of_ble_eq_true rfl) ?_
                                          have hz : (m_met (decide (e = ec)) tsC ts pk su 3 ty n s rc) = (4, none) := by
                                            unfold m_met m_isC m_bd
                                            simp only [*, if_true, if_false, Bool.false_eq_true, reduceIte, Option.map_some, decide_true, decide_false, not_true_eq_false, not_false_eq_true, eq_self, ne_eq, Nat.reduceLT, Nat.lt_irrefl, Nat.reduceEqDiff, and_true, true_and, and_false, false_and, or_true, true_or, or_false, false_or, Bool.or_true, Bool.or_false, Bool.true_or, Bool.false_or, reduceCtorEq] <;> rfl
                                          exact ⟨by rw [hz], hrs.tr hsc.rs, by rw [hz]; exact (hsc.x hS 32).trans hran, (hsc.x hS 0).trans hx0, (hsc.I2 hS 22 (by decide) rfl (by decide) c).trans hce, (hsc.I2 hS 23 (by decide) rfl (by decide) c).trans hpk, (hsc.I2 hS 24 (by decide) rfl (by decide) c).trans hsu⟩
                                  · refine jv_iconst (q := 299) (v := nI 3) G dX8_met_298 (by decide) rfl ?_
                                    refine jv_iret G hr dX8_met_299 (Nat.le_of_ble_eq_true rfl) (Nat.le_of_ble_eq_true rfl) ?_
                                    have hz : (m_met (decide (e = ec)) tsC ts pk su 3 ty n s rc) = (3, none) := by
                                      unfold m_met m_isC m_bd
                                      simp only [*, if_true, if_false, Bool.false_eq_true, reduceIte, Option.map_some, decide_true, decide_false, not_true_eq_false, not_false_eq_true, eq_self, ne_eq, Nat.reduceLT, Nat.lt_irrefl, Nat.reduceEqDiff, and_true, true_and, and_false, false_and, or_true, true_or, or_false, false_or, Bool.or_true, Bool.or_false, Bool.true_or, Bool.false_or, reduceCtorEq] <;> rfl
                                    exact ⟨by rw [hz], hrs.tr hsc.rs, by rw [hz]; exact (hsc.x hS 32).trans hran, (hsc.x hS 0).trans hx0, (hsc.I2 hS 22 (by decide) rfl (by decide) c).trans hce, (hsc.I2 hS 23 (by decide) rfl (by decide) c).trans hpk, (hsc.I2 hS 24 (by decide) rfl (by decide) c).trans hsu⟩
                                · exact absurd c57 (jv_nI_m1 (by omega))
                            · omega
                          · omega
                        · omega
                      · omega
                    · refine jv_iconst (q := 192) (v := nI 3) G dX8_met_191 (by decide) rfl ?_
                      refine jv_iret G hr dX8_met_192 (Nat.le_of_ble_eq_true rfl) (Nat.le_of_ble_eq_true rfl) ?_
                      have hz : (m_met (decide (e = ec)) tsC ts pk su 3 ty n s rc) = (3, none) := by
                        unfold m_met m_isC m_bd
                        simp only [*, if_true, if_false, Bool.false_eq_true, reduceIte, Option.map_some, decide_true, decide_false, not_true_eq_false, not_false_eq_true, eq_self, ne_eq, Nat.reduceLT, Nat.lt_irrefl, Nat.reduceEqDiff, and_true, true_and, and_false, false_and, or_true, true_or, or_false, false_or, Bool.or_true, Bool.or_false, Bool.true_or, Bool.false_or, reduceCtorEq] <;> rfl
                      exact ⟨by rw [hz], hrs.tr hsc.rs, by rw [hz]; exact (hsc.x hS 32).trans hran, (hsc.x hS 0).trans hx0, (hsc.I2 hS 22 (by decide) rfl (by decide) c).trans hce, (hsc.I2 hS 23 (by decide) rfl (by decide) c).trans hpk, (hsc.I2 hS 24 (by decide) rfl (by decide) c).trans hsu⟩
                · omega
            · omega
          · omega
      · exact absurd rfl c17
    · refine jv_aload_n (q := 25) G 1 dX8_met_24 rfl rfl rfl ?_
      refine jv_iload_n (q := 26) G 2 dX8_met_25 rfl rfl rfl ?_
      refine jv_iload_n (q := 27) G 4 dX8_met_26 rfl rfl rfl ?_
      refine jv_iload (q := 29) G 5 dX8_met_27 rfl rfl ?_
      refine jv_iload (q := 31) G 6 dX8_met_29 rfl rfl ?_
      refine jv_iload (q := 33) G 7 dX8_met_31 rfl rfl ?_
      refine jv_callV_I (q := 36) (h1 := h1) (As := [.int (nI c), .int (nI 3), .int ty, .int n, .int s]) (rest := []) (ce' := 0) (sl' := 0) (r := (ffE ec (m_co tsC 3 ty n s))) G Z ml_X8_195 (r_constantOf hlt hsc hS hc hec hEC hce (by decide) hgC) (hsc.S hS).1 dX8_met_33 rfl (by decide) (by decide) (by decide) (by decide) (Nat.le_of_ble_eq_true rfl) rfl rfl rfl rfl ?_
      refine jv_topI (y := (-1)) rfl ?_
      refine jv_goto (q := 40) G dX8_met_36 (by decide) ?_
      refine jv_istore (q := 42) (lo' := [(9, .int (-1)), (8, .int (nI (10 * e + k2))), (0, .ref x), (1, .int (nI c)), (2, .int (nI e)), (3, .int (nI 3)), (4, .int ty), (5, .int n), (6, .int s), (7, .int rc)]) G dX8_met_40 (by decide) rfl rfl ?_
      refine jv_iload (q := 44) G 0 dX8_met_42 rfl rfl ?_
      refine jv_iconst (q := 45) (v := (-1)) G dX8_met_44 (by decide) rfl ?_
      refine jv_icmp_eq (q := 48) (tgt := 111) G dX8_met_45 (by decide) rfl (fun c65 => ?_) (fun c65 => ?_)
      · refine jv_iload_n (q := 112) G 5 dX8_met_111 rfl rfl rfl ?_
        refine jv_iconst (q := 113) (v := nI 2) G dX8_met_112 (by decide) rfl ?_
        refine jv_icmp_eqN (q := 116) (tgt := 121) G dX8_met_113 (by decide) rfl (by omega) (by omega) (fun c66 => ?_) (fun c66 => ?_)
        · omega
        · refine jv_iload_n (q := 117) G 5 dX8_met_116 rfl rfl rfl ?_
          refine jv_iconst (q := 118) (v := nI 4) G dX8_met_117 (by decide) rfl ?_
          refine jv_icmp_neN (q := 121) (tgt := 125) G dX8_met_118 (by decide) rfl (by omega) (by omega) (fun c67 => ?_) (fun c67 => ?_)
          · refine jv_iconst (q := 126) (v := nI 0) G dX8_met_125 (by decide) rfl ?_
            refine jv_istore (q := 128) (lo' := [(10, .int (nI 0)), (9, .int (-1)), (8, .int (nI (10 * e + k2))), (0, .ref x), (1, .int (nI c)), (2, .int (nI e)), (3, .int (nI 3)), (4, .int ty), (5, .int n), (6, .int s), (7, .int rc)]) G dX8_met_126 (by decide) rfl rfl ?_
            refine jv_iload (q := 130) G 0 dX8_met_128 rfl rfl ?_
            refine jv_if_eqN (q := 133) (tgt := 143) G dX8_met_130 (by decide) rfl (by omega) (fun c68 => ?_) (fun c68 => ?_)
            · refine jv_iconst (q := 144) (v := (-1)) G dX8_met_143 (by decide) rfl ?_
              refine jv_istore (q := 146) (lo' := [(11, .int (-1)), (10, .int (nI 0)), (9, .int (-1)), (8, .int (nI (10 * e + k2))), (0, .ref x), (1, .int (nI c)), (2, .int (nI e)), (3, .int (nI 3)), (4, .int ty), (5, .int n), (6, .int s), (7, .int rc)]) G dX8_met_144 (by decide) rfl rfl ?_
              refine jv_iload (q := 148) G 3 dX8_met_146 rfl rfl ?_
              refine jv_iconst (q := 149) (v := (-1)) G dX8_met_148 (by decide) rfl ?_
              refine jv_icmp_eq (q := 152) (tgt := 163) G dX8_met_149 (by decide) rfl (fun c69 => ?_) (fun c69 => ?_)
              · exact absurd c69 (jv_nI_m1 (by omega))
              · refine jv_iload (q := 154) G 1 dX8_met_152 rfl rfl ?_
                refine jv_if_eqN (q := 157) (tgt := 165) G dX8_met_154 (by decide) rfl (by omega) (fun c70 => ?_) (fun c70 => ?_)
                · refine jv_aload_n (q := 166) G 4 dX8_met_165 rfl rfl rfl ?_
                  refine jv_getQ (q := 169) G dX8_met_166 fl_X8_29 rfl (hsc.S hS).1 (rf_p8 (hsc.S hS)) rfl ?_
                  refine jv_iload (q := 171) G 3 dX8_met_169 rfl rfl ?_
                  refine jv_zald (q := 172) G dX8_met_171 (rf_a8 (hsc.S hS)) rfl (by omega) (by decide) (rt_8 (hsc.T hS Tt3)) rfl ?_
                  refine jv_if_neB (q := 175) (tgt := 193) G dX8_met_172 (by decide) rfl (fun c71 => ?_) (fun c71 => ?_)
                  · refine jv_iload_n (q := 194) G 7 dX8_met_193 rfl rfl rfl ?_
                    refine jv_iconst (q := 195) (v := nI 2) G dX8_met_194 (by decide) rfl ?_
                    refine jv_icmp_neN (q := 198) (tgt := 208) G dX8_met_195 (by decide) rfl (by omega) (by omega) (fun c72 => ?_) (fun c72 => ?_)
                    · refine jv_iload_n (q := 209) G 7 dX8_met_208 rfl rfl rfl ?_
                      refine jv_iconst (q := 210) (v := nI 4) G dX8_met_209 (by decide) rfl ?_
                      refine jv_icmp_neN (q := 213) (tgt := 226) G dX8_met_210 (by decide) rfl (by omega) (by omega) (fun c73 => ?_) (fun c73 => ?_)
                      · refine jv_iload_n (q := 227) G 7 dX8_met_226 rfl rfl rfl ?_
                        refine jv_iconst (q := 228) (v := nI 5) G dX8_met_227 (by decide) rfl ?_
                        refine jv_icmp_neN (q := 231) (tgt := 247) G dX8_met_228 (by decide) rfl (by omega) (by omega) (fun c74 => ?_) (fun c74 => ?_)
                        · refine jv_iload_n (q := 248) G 7 dX8_met_247 rfl rfl rfl ?_
                          refine jv_iconst (q := 249) (v := nI 2) G dX8_met_248 (by decide) rfl ?_
                          refine jv_icmp_geN (q := 252) (tgt := 266) G dX8_met_249 (by decide) rfl (by omega) (by omega) (fun c75 => ?_) (fun c75 => ?_)
                          · refine jv_aload_n (q := 267) G 4 dX8_met_266 rfl rfl rfl ?_
                            refine jv_iload_n (q := 268) G 6 dX8_met_267 rfl rfl rfl ?_
                            refine jv_iload (q := 270) G 3 dX8_met_268 rfl rfl ?_
                            refine jv_iload (q := 272) G 9 dX8_met_270 rfl rfl ?_
                            refine jv_iload (q := 274) G 10 dX8_met_272 rfl rfl ?_
                            refine jv_callV (q := 277) (As := [.int (nI e), .int (nI (10 * e + k2)), .int n, .int s]) (rest := []) G Z ml_X8_186 (r_findMethod (d := 11) hlt hsc hS he hE hV ht3 (hg k2 (by omega))) (hsc.S hS).1 dX8_met_274 rfl (by decide) (by decide) (by decide) (by decide) (Nat.le_of_ble_eq_true rfl) rfl rfl (fun v77 h76 y78 => ?_) (fun _ _ hx => hx.elim)
                            obtain ⟨rfl, hsc⟩ := y78
                            show jv_V E 14 h76 0 0 (jv_Q E (fun v h' => v = some (.int (nI (m_met (decide (e = ec)) tsC ts pk su 3 ty n s rc).1)) ∧ rs x q h h' ∧ jv_I h' x 32 = jv_oN (m_met (decide (e = ec)) tsC ts pk su 3 ty n s rc).2 ∧ jv_I h' x 0 = jv_I h x 0 ∧ jv_I h' (q 22) c = nI ec ∧ jv_I h' (q 23) c = nI pk ∧ jv_I h' (q 24) c = jv_oN su) jv_no 0 0) 277 [(11, .int (-1)), (10, .int (nI 0)), (9, .int (-1)), (8, .int (nI (10 * e + k2))), (0, .ref x), (1, .int (nI c)), (2, .int (nI e)), (3, .int (nI 3)), (4, .int ty), (5, .int n), (6, .int s), (7, .int rc)] [.int (ffE e (m_fm ts 11 k2 n s))]
                            rcases Option.eq_none_or_eq_some (m_fm ts 11 k2 n s) with hp82 | ⟨p79, hp82⟩
                            · refine jv_topI (y := (-1)) (by rw [hp82]; rfl) ?_
                              refine jv_istore (q := 279) (lo' := [(12, .int (-1)), (11, .int (-1)), (10, .int (nI 0)), (9, .int (-1)), (8, .int (nI (10 * e + k2))), (0, .ref x), (1, .int (nI c)), (2, .int (nI e)), (3, .int (nI 3)), (4, .int ty), (5, .int n), (6, .int s), (7, .int rc)]) G dX8_met_277 (by decide) rfl rfl ?_
                              refine jv_iload (q := 281) G 0 dX8_met_279 rfl rfl ?_
                              refine jv_iconst (q := 282) (v := (-1)) G dX8_met_281 (by decide) rfl ?_
                              refine jv_icmp_ne (q := 285) (tgt := 287) G dX8_met_282 (by decide) rfl (fun c83 => ?_) (fun c83 => ?_)
                              · exact absurd rfl c83
                              · refine jv_iconst (q := 286) (v := nI 2) G dX8_met_285 (by decide) rfl ?_
                                refine jv_iret G hr dX8_met_286 (Nat.le_of_ble_eq_true rfl) (Nat.le_of_ble_eq_true rfl) ?_
                                have hz : (m_met (decide (e = ec)) tsC ts pk su 3 ty n s rc) = (2, none) := by
                                  unfold m_met m_isC m_bd
                                  simp only [*, if_true, if_false, Bool.false_eq_true, reduceIte, Option.map_some, decide_true, decide_false, not_true_eq_false, not_false_eq_true, eq_self, ne_eq, Nat.reduceLT, Nat.lt_irrefl, Nat.reduceEqDiff, and_true, true_and, and_false, false_and, or_true, true_or, or_false, false_or, Bool.or_true, Bool.or_false, Bool.true_or, Bool.false_or, reduceCtorEq] <;> rfl
                                exact ⟨by rw [hz], hrs.tr hsc.rs, by rw [hz]; exact (hsc.x hS 32).trans hran, (hsc.x hS 0).trans hx0, (hsc.I2 hS 22 (by decide) rfl (by decide) c).trans hce, (hsc.I2 hS 23 (by decide) rfl (by decide) c).trans hpk, (hsc.I2 hS 24 (by decide) rfl (by decide) c).trans hsu⟩
                            · refine jv_topI (y := nI (6 * (10 * e + p79.1) + p79.2)) (by rw [hp82]; rfl) ?_
                              obtain ⟨t80, ht80, m81, hm81⟩ := m_fm_mem hp82
                              have Tt80 := (hE.2.2 p79.1 t80 ht80).1
                              have Ot80 := (hE.2.2 p79.1 t80 ht80).2
                              have Lt80 := hE.2.1
                              have lt80 := jv_ltGet ht80
                              have Mm81 := rt_m Tt80 hm81
                              have Om81 := Ot80.2.2.2.2.2.2 m81 (List.mem_of_getElem? hm81)
                              have Lm81 := Ot80.2.2.2.2.2.1
                              have lm81 := jv_ltGet hm81
                              have Bm81n := Om81.1; have Bm81s := Om81.2.1; have Bm81a := Om81.2.2.1; have Bt80n := Ot80.1; have Bt80k := Ot80.2.1
                              refine jv_istore (q := 279) (lo' := [(12, .int (nI (6 * (10 * e + p79.1) + p79.2))), (11, .int (-1)), (10, .int (nI 0)), (9, .int (-1)), (8, .int (nI (10 * e + k2))), (0, .ref x), (1, .int (nI c)), (2, .int (nI e)), (3, .int (nI 3)), (4, .int ty), (5, .int n), (6, .int s), (7, .int rc)]) G dX8_met_277 (by decide) rfl rfl ?_
                              refine jv_iload (q := 281) G 0 dX8_met_279 rfl rfl ?_
                              refine jv_iconst (q := 282) (v := (-1)) G dX8_met_281 (by decide) rfl ?_
                              refine jv_icmp_ne (q := 285) (tgt := 287) G dX8_met_282 (by decide) rfl (fun c84 => ?_) (fun c84 => ?_)
                              · refine jv_aload_n (q := 288) G 5 dX8_met_287 rfl rfl rfl ?_
                                refine jv_iload_n (q := 289) G 6 dX8_met_288 rfl rfl rfl ?_
                                refine jv_iload_n (q := 290) G 7 dX8_met_289 rfl rfl rfl ?_
                                refine jv_iload (q := 292) G 0 dX8_met_290 rfl rfl ?_
                                refine jv_callV_I (q := 295) (h1 := h76) (As := [.int (nI c), .int (nI e), .int (nI (6 * (10 * e + p79.1) + p79.2))]) (rest := []) (ce' := 0) (sl' := 0) (r := jv_bI (m_mr ts pk su t80 m81)) G Z ml_X8_199 (r_mayReach hlt hsc hS hc he hE hV ht80 hm81 hpk hpk5 hsu hsu16) (hsc.S hS).1 dX8_met_292 rfl (by decide) (by decide) (by decide) (by decide) (Nat.le_of_ble_eq_true rfl) rfl rfl rfl rfl ?_
                                refine jv_if_neB (q := 298) (tgt := 300) G dX8_met_295 (by decide) rfl (fun c85 => ?_) (fun c85 => ?_)
                                · refine jv_aload_n (q := 301) G 5 dX8_met_300 rfl rfl rfl ?_
                                  refine jv_getQ (q := 304) G dX8_met_301 fl_X8_56 rfl (hsc.S hS).1 (rf_p17 (hsc.S hS)) rfl ?_
                                  refine jv_iload (q := 306) G 0 dX8_met_304 rfl rfl ?_
                                  refine jv_zald (q := 307) G dX8_met_306 (rf_a17 (hsc.S hS)) rfl (by omega) (by decide) (hsc.M hS Mm81).2.2.2.2.1 rfl ?_
                                  refine jv_iload_n (q := 308) G 8 dX8_met_307 rfl rfl rfl ?_
                                  refine jv_iconst (q := 309) (v := nI 1) G dX8_met_308 (by decide) rfl ?_
                                  refine jv_icmp_eqN (q := 312) (tgt := 317) G dX8_met_309 (by decide) rfl (by omega) (by omega) (fun c86 => ?_) (fun c86 => ?_)
                                  · omega
                                  · refine jv_iload_n (q := 313) G 8 dX8_met_312 rfl rfl rfl ?_
                                    refine jv_iconst (q := 314) (v := nI 3) G dX8_met_313 (by decide) rfl ?_
                                    refine jv_icmp_neN (q := 317) (tgt := 321) G dX8_met_314 (by decide) rfl (by omega) (by omega) (fun c87 => ?_) (fun c87 => ?_)
                                    · omega
                                    · refine jv_iconst (q := 318) (v := nI 1) G dX8_met_317 (by decide) rfl ?_
                                      refine jv_goto (q := 322) G dX8_met_318 (by decide) ?_
                                      refine jv_topI (y := jv_bI true) rfl ?_
                                      refine jv_icmp_eqB (q := 325) (tgt := 327) G dX8_met_322 (by decide) rfl (fun c88 => ?_) (fun c88 => ?_)
                                      · refine jv_iload (q := 329) G 2 dX8_met_327 rfl rfl ?_
                                        refine jv_if_neN (q := 332) (tgt := 357) G dX8_met_329 (by decide) rfl (by omega) (fun c89 => ?_) (fun c89 => ?_)
                                        · omega
                                        · refine jv_aload_n (q := 333) G 5 dX8_met_332 rfl rfl rfl ?_
                                          refine jv_iload_n (q := 334) G 8 dX8_met_333 rfl rfl rfl ?_
                                          refine jv_iconst (q := 335) (v := nI 3) G dX8_met_334 (by decide) rfl ?_
                                          refine jv_icmp_neN (q := 338) (tgt := 351) G dX8_met_335 (by decide) rfl (by omega) (by omega) (fun c90 => ?_) (fun c90 => ?_)
                                          · omega
                                          · refine jv_aload_n (q := 339) G 5 dX8_met_338 rfl rfl rfl ?_
                                            refine jv_getQ (q := 342) G dX8_met_339 fl_X8_17 rfl (hsc.S hS).1 (rf_p4 (hsc.S hS)) rfl ?_
                                            refine jv_iload (q := 344) G 0 dX8_met_342 rfl rfl ?_
                                            refine jv_callS_I (q := 347) (h1 := h76) (As := [.int (nI (6 * (10 * e + p79.1) + p79.2))]) (rest := [.ref (q 4), .ref x]) (ce' := 0) (sl' := 0) (r := nI ((6 * (10 * e + p79.1) + p79.2) / 6)) G Z ml_X8_183 (r_typeOf hlt (by omega)) dX8_met_344 rfl (by decide) (by decide) (by decide) (by decide) (Nat.le_of_ble_eq_true rfl) rfl rfl rfl rfl ?_
                                            refine jv_topI (y := nI (10 * e + p79.1)) (congrArg nI (by omega)) ?_
                                            refine jv_iald (q := 348) G dX8_met_347 (rf_a4 (hsc.S hS)) rfl (by omega) (by decide) (rt_4 (hsc.T hS Tt80)) rfl ?_
                                            refine jv_goto (q := 352) G dX8_met_348 (by decide) ?_
                                            refine jv_putI (q := 355) G dX8_met_352 fl_X8_192 rfl (hsc.S hS).1 rfl ?_
                                            have hr1 : rs x q h76 (jv_wI h76 x 32 (nI (mt_n t80))) := rs.rf.wI (nI (mt_n t80)) (Or.inl ⟨rfl, Or.inr (Or.inl rfl)⟩)
                                            have hran : jv_I (jv_wI h76 x 32 (nI (mt_n t80))) x 32 = (nI (mt_n t80)) := jv_I_self _ _ _ _
                                            have hSb := hsc.S hS
                                            have hE := hr1.E hSb (hsc.E hS hE)
                                            have hV := hr1.V hSb (hsc.V hS hV)
                                            have hEC := hr1.E hSb (hsc.E hS hEC)
                                            have hVC := hr1.V hSb (hsc.V hS hVC)
                                            have hce := (wx_I hSb 22 (by decide) rfl 32 c (nI (mt_n t80))).trans ((hsc.I2 hS 22 (by decide) rfl (by decide) c).trans hce)
                                            have hpk := (wx_I hSb 23 (by decide) rfl 32 c (nI (mt_n t80))).trans ((hsc.I2 hS 23 (by decide) rfl (by decide) c).trans hpk)
                                            have hsu := (wx_I hSb 24 (by decide) rfl 32 c (nI (mt_n t80))).trans ((hsc.I2 hS 24 (by decide) rfl (by decide) c).trans hsu)
                                            have hrs := (hrs.tr hsc.rs).tr hr1
                                            have hx0 : jv_I (jv_wI h76 x 32 (nI (mt_n t80))) x 0 = jv_I h x 0 := by rw [jv_I_wI, if_neg (fun z => by cases z.2)] <;> exact (hsc.x hS 0).trans hx0
                                            have hS := hr1.S hSb
                                            generalize jv_wI h76 x 32 (nI (mt_n t80)) = h91 at hran hx0 hE hV hEC hVC hce hpk hsu hrs hS ⊢
                                            have hsc : sc x q h91 h91 := sc.rf
                                            refine jv_iconst (q := 356) (v := nI 0) G dX8_met_355 (by decide) rfl ?_
                                            refine jv_iret G hr dX8_met_356 (Nat.le_of_ble_eq_true rfl) (Nat.le_of_ble_eq_true rfl) ?_
                                            have hz : (m_met (decide (e = ec)) tsC ts pk su 3 ty n s rc) = (0, some (mt_n t80)) := by
                                              unfold m_met m_isC m_bd
                                              simp only [*, if_true, if_false, Bool.false_eq_true, reduceIte, Option.map_some, decide_true, decide_false, not_true_eq_false, not_false_eq_true, eq_self, ne_eq, Nat.reduceLT, Nat.lt_irrefl, Nat.reduceEqDiff, and_true, true_and, and_false, false_and, or_true, true_or, or_false, false_or, Bool.or_true, Bool.or_false, Bool.true_or, Bool.false_or, reduceCtorEq] <;> rfl
                                            exact ⟨by rw [hz], hrs.tr hsc.rs, by rw [hz]; exact (hsc.x hS 32).trans hran, (hsc.x hS 0).trans hx0, (hsc.I2 hS 22 (by decide) rfl (by decide) c).trans hce, (hsc.I2 hS 23 (by decide) rfl (by decide) c).trans hpk, (hsc.I2 hS 24 (by decide) rfl (by decide) c).trans hsu⟩
                                      · refine jv_iconst (q := 326) (v := nI 4) G dX8_met_325 (by decide) rfl ?_
                                        refine jv_iret G hr dX8_met_326 (Nat.le_of_ble_eq_true rfl) (Nat.le_of_ble_eq_true rfl) ?_
                                        have hz : (m_met (decide (e = ec)) tsC ts pk su 3 ty n s rc) = (4, none) := by
                                          unfold m_met m_isC m_bd
                                          simp only [*, if_true, if_false, Bool.false_eq_true, reduceIte, Option.map_some, decide_true, decide_false, not_true_eq_false, not_false_eq_true, eq_self, ne_eq, Nat.reduceLT, Nat.lt_irrefl, Nat.reduceEqDiff, and_true, true_and, and_false, false_and, or_true, true_or, or_false, false_or, Bool.or_true, Bool.or_false, Bool.true_or, Bool.false_or, reduceCtorEq] <;> rfl
                                        exact ⟨by rw [hz], hrs.tr hsc.rs, by rw [hz]; exact (hsc.x hS 32).trans hran, (hsc.x hS 0).trans hx0, (hsc.I2 hS 22 (by decide) rfl (by decide) c).trans hce, (hsc.I2 hS 23 (by decide) rfl (by decide) c).trans hpk, (hsc.I2 hS 24 (by decide) rfl (by decide) c).trans hsu⟩
                                · refine jv_iconst (q := 299) (v := nI 3) G dX8_met_298 (by decide) rfl ?_
                                  refine jv_iret G hr dX8_met_299 (Nat.le_of_ble_eq_true rfl) (Nat.le_of_ble_eq_true rfl) ?_
                                  have hz : (m_met (decide (e = ec)) tsC ts pk su 3 ty n s rc) = (3, none) := by
                                    unfold m_met m_isC m_bd
                                    simp only [*, if_true, if_false, Bool.false_eq_true, reduceIte, Option.map_some, decide_true, decide_false, not_true_eq_false, not_false_eq_true, eq_self, ne_eq, Nat.reduceLT, Nat.lt_irrefl, Nat.reduceEqDiff, and_true, true_and, and_false, false_and, or_true, true_or, or_false, false_or, Bool.or_true, Bool.or_false, Bool.true_or, Bool.false_or, reduceCtorEq] <;> rfl
                                  exact ⟨by rw [hz], hrs.tr hsc.rs, by rw [hz]; exact (hsc.x hS 32).trans hran, (hsc.x hS 0).trans hx0, (hsc.I2 hS 22 (by decide) rfl (by decide) c).trans hce, (hsc.I2 hS 23 (by decide) rfl (by decide) c).trans hpk, (hsc.I2 hS 24 (by decide) rfl (by decide) c).trans hsu⟩
                              · exact absurd c84 (jv_nI_m1 (by omega))
                          · omega
                        · omega
                      · omega
                    · omega
                  · refine jv_aload_n (q := 176) G 4 dX8_met_175 rfl rfl rfl ?_
                    refine jv_getQ (q := 179) G dX8_met_176 fl_X8_26 rfl (hsc.S hS).1 (rf_p7 (hsc.S hS)) rfl ?_
                    refine jv_iload (q := 181) G 3 dX8_met_179 rfl rfl ?_
                    refine jv_iald (q := 182) G dX8_met_181 (rf_a7 (hsc.S hS)) rfl (by omega) (by decide) (rt_7 (hsc.T hS Tt3)) rfl ?_
                    refine jv_aload_n (q := 183) G 4 dX8_met_182 rfl rfl rfl ?_
                    refine jv_getQ (q := 186) G dX8_met_183 fl_X8_71 rfl (hsc.S hS).1 (rf_p23 (hsc.S hS)) rfl ?_
                    refine jv_iload_n (q := 187) G 5 dX8_met_186 rfl rfl rfl ?_
                    refine jv_iald (q := 188) G dX8_met_187 (rf_a23 (hsc.S hS)) rfl (by omega) (by decide) ((hsc.I2 hS 23 (by decide) rfl (by decide) c).trans hpk) rfl ?_
                    refine jv_icmp_eqN (q := 191) (tgt := 193) G dX8_met_188 (by decide) rfl (by omega) (by omega) (fun c92 => ?_) (fun c92 => ?_)
                    · refine jv_iload_n (q := 194) G 7 dX8_met_193 rfl rfl rfl ?_
                      refine jv_iconst (q := 195) (v := nI 2) G dX8_met_194 (by decide) rfl ?_
                      refine jv_icmp_neN (q := 198) (tgt := 208) G dX8_met_195 (by decide) rfl (by omega) (by omega) (fun c93 => ?_) (fun c93 => ?_)
                      · refine jv_iload_n (q := 209) G 7 dX8_met_208 rfl rfl rfl ?_
                        refine jv_iconst (q := 210) (v := nI 4) G dX8_met_209 (by decide) rfl ?_
                        refine jv_icmp_neN (q := 213) (tgt := 226) G dX8_met_210 (by decide) rfl (by omega) (by omega) (fun c94 => ?_) (fun c94 => ?_)
                        · refine jv_iload_n (q := 227) G 7 dX8_met_226 rfl rfl rfl ?_
                          refine jv_iconst (q := 228) (v := nI 5) G dX8_met_227 (by decide) rfl ?_
                          refine jv_icmp_neN (q := 231) (tgt := 247) G dX8_met_228 (by decide) rfl (by omega) (by omega) (fun c95 => ?_) (fun c95 => ?_)
                          · refine jv_iload_n (q := 248) G 7 dX8_met_247 rfl rfl rfl ?_
                            refine jv_iconst (q := 249) (v := nI 2) G dX8_met_248 (by decide) rfl ?_
                            refine jv_icmp_geN (q := 252) (tgt := 266) G dX8_met_249 (by decide) rfl (by omega) (by omega) (fun c96 => ?_) (fun c96 => ?_)
                            · refine jv_aload_n (q := 267) G 4 dX8_met_266 rfl rfl rfl ?_
                              refine jv_iload_n (q := 268) G 6 dX8_met_267 rfl rfl rfl ?_
                              refine jv_iload (q := 270) G 3 dX8_met_268 rfl rfl ?_
                              refine jv_iload (q := 272) G 9 dX8_met_270 rfl rfl ?_
                              refine jv_iload (q := 274) G 10 dX8_met_272 rfl rfl ?_
                              refine jv_callV (q := 277) (As := [.int (nI e), .int (nI (10 * e + k2)), .int n, .int s]) (rest := []) G Z ml_X8_186 (r_findMethod (d := 11) hlt hsc hS he hE hV ht3 (hg k2 (by omega))) (hsc.S hS).1 dX8_met_274 rfl (by decide) (by decide) (by decide) (by decide) (Nat.le_of_ble_eq_true rfl) rfl rfl (fun v98 h97 y99 => ?_) (fun _ _ hx => hx.elim)
                              obtain ⟨rfl, hsc⟩ := y99
                              show jv_V E 14 h97 0 0 (jv_Q E (fun v h' => v = some (.int (nI (m_met (decide (e = ec)) tsC ts pk su 3 ty n s rc).1)) ∧ rs x q h h' ∧ jv_I h' x 32 = jv_oN (m_met (decide (e = ec)) tsC ts pk su 3 ty n s rc).2 ∧ jv_I h' x 0 = jv_I h x 0 ∧ jv_I h' (q 22) c = nI ec ∧ jv_I h' (q 23) c = nI pk ∧ jv_I h' (q 24) c = jv_oN su) jv_no 0 0) 277 [(11, .int (-1)), (10, .int (nI 0)), (9, .int (-1)), (8, .int (nI (10 * e + k2))), (0, .ref x), (1, .int (nI c)), (2, .int (nI e)), (3, .int (nI 3)), (4, .int ty), (5, .int n), (6, .int s), (7, .int rc)] [.int (ffE e (m_fm ts 11 k2 n s))]
                              rcases Option.eq_none_or_eq_some (m_fm ts 11 k2 n s) with hp103 | ⟨p100, hp103⟩
                              · refine jv_topI (y := (-1)) (by rw [hp103]; rfl) ?_
                                refine jv_istore (q := 279) (lo' := [(12, .int (-1)), (11, .int (-1)), (10, .int (nI 0)), (9, .int (-1)), (8, .int (nI (10 * e + k2))), (0, .ref x), (1, .int (nI c)), (2, .int (nI e)), (3, .int (nI 3)), (4, .int ty), (5, .int n), (6, .int s), (7, .int rc)]) G dX8_met_277 (by decide) rfl rfl ?_
                                refine jv_iload (q := 281) G 0 dX8_met_279 rfl rfl ?_
                                refine jv_iconst (q := 282) (v := (-1)) G dX8_met_281 (by decide) rfl ?_
                                refine jv_icmp_ne (q := 285) (tgt := 287) G dX8_met_282 (by decide) rfl (fun c104 => ?_) (fun c104 => ?_)
                                · exact absurd rfl c104
                                · refine jv_iconst (q := 286) (v := nI 2) G dX8_met_285 (by decide) rfl ?_
                                  refine jv_iret G hr dX8_met_286 (Nat.le_of_ble_eq_true rfl) (Nat.le_of_ble_eq_true rfl) ?_
                                  have hz : (m_met (decide (e = ec)) tsC ts pk su 3 ty n s rc) = (2, none) := by
                                    unfold m_met m_isC m_bd
                                    simp only [*, if_true, if_false, Bool.false_eq_true, reduceIte, Option.map_some, decide_true, decide_false, not_true_eq_false, not_false_eq_true, eq_self, ne_eq, Nat.reduceLT, Nat.lt_irrefl, Nat.reduceEqDiff, and_true, true_and, and_false, false_and, or_true, true_or, or_false, false_or, Bool.or_true, Bool.or_false, Bool.true_or, Bool.false_or, reduceCtorEq] <;> rfl
                                  exact ⟨by rw [hz], hrs.tr hsc.rs, by rw [hz]; exact (hsc.x hS 32).trans hran, (hsc.x hS 0).trans hx0, (hsc.I2 hS 22 (by decide) rfl (by decide) c).trans hce, (hsc.I2 hS 23 (by decide) rfl (by decide) c).trans hpk, (hsc.I2 hS 24 (by decide) rfl (by decide) c).trans hsu⟩
                              · refine jv_topI (y := nI (6 * (10 * e + p100.1) + p100.2)) (by rw [hp103]; rfl) ?_
                                obtain ⟨t101, ht101, m102, hm102⟩ := m_fm_mem hp103
                                have Tt101 := (hE.2.2 p100.1 t101 ht101).1
                                have Ot101 := (hE.2.2 p100.1 t101 ht101).2
                                have Lt101 := hE.2.1
                                have lt101 := jv_ltGet ht101
                                have Mm102 := rt_m Tt101 hm102
                                have Om102 := Ot101.2.2.2.2.2.2 m102 (List.mem_of_getElem? hm102)
                                have Lm102 := Ot101.2.2.2.2.2.1
                                have lm102 := jv_ltGet hm102
                                have Bm102n := Om102.1; have Bm102s := Om102.2.1; have Bm102a := Om102.2.2.1; have Bt101n := Ot101.1; have Bt101k := Ot101.2.1
                                refine jv_istore (q := 279) (lo' := [(12, .int (nI (6 * (10 * e + p100.1) + p100.2))), (11, .int (-1)), (10, .int (nI 0)), (9, .int (-1)), (8, .int (nI (10 * e + k2))), (0, .ref x), (1, .int (nI c)), (2, .int (nI e)), (3, .int (nI 3)), (4, .int ty), (5, .int n), (6, .int s), (7, .int rc)]) G dX8_met_277 (by decide) rfl rfl ?_
                                refine jv_iload (q := 281) G 0 dX8_met_279 rfl rfl ?_
                                refine jv_iconst (q := 282) (v := (-1)) G dX8_met_281 (by decide) rfl ?_
                                refine jv_icmp_ne (q := 285) (tgt := 287) G dX8_met_282 (by decide) rfl (fun c105 => ?_) (fun c105 => ?_)
                                · refine jv_aload_n (q := 288) G 5 dX8_met_287 rfl rfl rfl ?_
                                  refine jv_iload_n (q := 289) G 6 dX8_met_288 rfl rfl rfl ?_
                                  refine jv_iload_n (q := 290) G 7 dX8_met_289 rfl rfl rfl ?_
                                  refine jv_iload (q := 292) G 0 dX8_met_290 rfl rfl ?_
                                  refine jv_callV_I (q := 295) (h1 := h97) (As := [.int (nI c), .int (nI e), .int (nI (6 * (10 * e + p100.1) + p100.2))]) (rest := []) (ce' := 0) (sl' := 0) (r := jv_bI (m_mr ts pk su t101 m102)) G Z ml_X8_199 (r_mayReach hlt hsc hS hc he hE hV ht101 hm102 hpk hpk5 hsu hsu16) (hsc.S hS).1 dX8_met_292 rfl (by decide) (by decide) (by decide) (by decide) (Nat.le_of_ble_eq_true rfl) rfl rfl rfl rfl ?_
                                  refine jv_if_neB (q := 298) (tgt := 300) G dX8_met_295 (by decide) rfl (fun c106 => ?_) (fun c106 => ?_)
                                  · refine jv_aload_n (q := 301) G 5 dX8_met_300 rfl rfl rfl ?_
                                    refine jv_getQ (q := 304) G dX8_met_301 fl_X8_56 rfl (hsc.S hS).1 (rf_p17 (hsc.S hS)) rfl ?_
                                    refine jv_iload (q := 306) G 0 dX8_met_304 rfl rfl ?_
                                    refine jv_zald (q := 307) G dX8_met_306 (rf_a17 (hsc.S hS)) rfl (by omega) (by decide) (hsc.M hS Mm102).2.2.2.2.1 rfl ?_
                                    refine jv_iload_n (q := 308) G 8 dX8_met_307 rfl rfl rfl ?_
                                    refine jv_iconst (q := 309) (v := nI 1) G dX8_met_308 (by decide) rfl ?_
                                    refine jv_icmp_eqN (q := 312) (tgt := 317) G dX8_met_309 (by decide) rfl (by omega) (by omega) (fun c107 => ?_) (fun c107 => ?_)
                                    · omega
                                    · refine jv_iload_n (q := 313) G 8 dX8_met_312 rfl rfl rfl ?_
                                      refine jv_iconst (q := 314) (v := nI 3) G dX8_met_313 (by decide) rfl ?_
                                      refine jv_icmp_neN (q := 317) (tgt := 321) G dX8_met_314 (by decide) rfl (by omega) (by omega) (fun c108 => ?_) (fun c108 => ?_)
                                      · omega
                                      · refine jv_iconst (q := 318) (v := nI 1) G dX8_met_317 (by decide) rfl ?_
                                        refine jv_goto (q := 322) G dX8_met_318 (by decide) ?_
                                        refine jv_topI (y := jv_bI true) rfl ?_
                                        refine jv_icmp_eqB (q := 325) (tgt := 327) G dX8_met_322 (by decide) rfl (fun c109 => ?_) (fun c109 => ?_)
                                        · refine jv_iload (q := 329) G 2 dX8_met_327 rfl rfl ?_
                                          refine jv_if_neN (q := 332) (tgt := 357) G dX8_met_329 (by decide) rfl (by omega) (fun c110 => ?_) (fun c110 => ?_)
                                          · omega
                                          · refine jv_aload_n (q := 333) G 5 dX8_met_332 rfl rfl rfl ?_
                                            refine jv_iload_n (q := 334) G 8 dX8_met_333 rfl rfl rfl ?_
                                            refine jv_iconst (q := 335) (v := nI 3) G dX8_met_334 (by decide) rfl ?_
                                            refine jv_icmp_neN (q := 338) (tgt := 351) G dX8_met_335 (by decide) rfl (by omega) (by omega) (fun c111 => ?_) (fun c111 => ?_)
                                            · omega
                                            · refine jv_aload_n (q := 339) G 5 dX8_met_338 rfl rfl rfl ?_
                                              refine jv_getQ (q := 342) G dX8_met_339 fl_X8_17 rfl (hsc.S hS).1 (rf_p4 (hsc.S hS)) rfl ?_
                                              refine jv_iload (q := 344) G 0 dX8_met_342 rfl rfl ?_
                                              refine jv_callS_I (q := 347) (h1 := h97) (As := [.int (nI (6 * (10 * e + p100.1) + p100.2))]) (rest := [.ref (q 4), .ref x]) (ce' := 0) (sl' := 0) (r := nI ((6 * (10 * e + p100.1) + p100.2) / 6)) G Z ml_X8_183 (r_typeOf hlt (by omega)) dX8_met_344 rfl (by decide) (by decide) (by decide) (by decide) (Nat.le_of_ble_eq_true rfl) rfl rfl rfl rfl ?_
                                              refine jv_topI (y := nI (10 * e + p100.1)) (congrArg nI (by omega)) ?_
                                              refine jv_iald (q := 348) G dX8_met_347 (rf_a4 (hsc.S hS)) rfl (by omega) (by decide) (rt_4 (hsc.T hS Tt101)) rfl ?_
                                              refine jv_goto (q := 352) G dX8_met_348 (by decide) ?_
                                              refine jv_putI (q := 355) G dX8_met_352 fl_X8_192 rfl (hsc.S hS).1 rfl ?_
                                              have hr1 : rs x q h97 (jv_wI h97 x 32 (nI (mt_n t101))) := rs.rf.wI (nI (mt_n t101)) (Or.inl ⟨rfl, Or.inr (Or.inl rfl)⟩)
                                              have hran : jv_I (jv_wI h97 x 32 (nI (mt_n t101))) x 32 = (nI (mt_n t101)) := jv_I_self _ _ _ _
                                              have hSb := hsc.S hS
                                              have hE := hr1.E hSb (hsc.E hS hE)
                                              have hV := hr1.V hSb (hsc.V hS hV)
                                              have hEC := hr1.E hSb (hsc.E hS hEC)
                                              have hVC := hr1.V hSb (hsc.V hS hVC)
                                              have hce := (wx_I hSb 22 (by decide) rfl 32 c (nI (mt_n t101))).trans ((hsc.I2 hS 22 (by decide) rfl (by decide) c).trans hce)
                                              have hpk := (wx_I hSb 23 (by decide) rfl 32 c (nI (mt_n t101))).trans ((hsc.I2 hS 23 (by decide) rfl (by decide) c).trans hpk)
                                              have hsu := (wx_I hSb 24 (by decide) rfl 32 c (nI (mt_n t101))).trans ((hsc.I2 hS 24 (by decide) rfl (by decide) c).trans hsu)
                                              have hrs := (hrs.tr hsc.rs).tr hr1
                                              have hx0 : jv_I (jv_wI h97 x 32 (nI (mt_n t101))) x 0 = jv_I h x 0 := by rw [jv_I_wI, if_neg (fun z => by cases z.2)] <;> exact (hsc.x hS 0).trans hx0
                                              have hS := hr1.S hSb
                                              generalize jv_wI h97 x 32 (nI (mt_n t101)) = h112 at hran hx0 hE hV hEC hVC hce hpk hsu hrs hS ⊢
                                              have hsc : sc x q h112 h112 := sc.rf
                                              refine jv_iconst (q := 356) (v := nI 0) G dX8_met_355 (by decide) rfl ?_
                                              refine jv_iret G hr dX8_met_356 (Nat.le_of_ble_eq_true rfl) (Nat.le_of_ble_eq_true rfl) ?_
                                              have hz : (m_met (decide (e = ec)) tsC ts pk su 3 ty n s rc) = (0, some (mt_n t101)) := by
                                                unfold m_met m_isC m_bd
                                                simp only [*, if_true, if_false, Bool.false_eq_true, reduceIte, Option.map_some, decide_true, decide_false, not_true_eq_false, not_false_eq_true, eq_self, ne_eq, Nat.reduceLT, Nat.lt_irrefl, Nat.reduceEqDiff, and_true, true_and, and_false, false_and, or_true, true_or, or_false, false_or, Bool.or_true, Bool.or_false, Bool.true_or, Bool.false_or, reduceCtorEq] <;> rfl
                                              exact ⟨by rw [hz], hrs.tr hsc.rs, by rw [hz]; exact (hsc.x hS 32).trans hran, (hsc.x hS 0).trans hx0, (hsc.I2 hS 22 (by decide) rfl (by decide) c).trans hce, (hsc.I2 hS 23 (by decide) rfl (by decide) c).trans hpk, (hsc.I2 hS 24 (by decide) rfl (by decide) c).trans hsu⟩
                                        · refine jv_iconst (q := 326) (v := nI 4) G dX8_met_325 (by decide) rfl ?_
                                          refine jv_iret G hr dX8_met_326 (Nat.le_of_ble_eq_true rfl) (Nat.le_of_ble_eq_true rfl) ?_
                                          have hz : (m_met (decide (e = ec)) tsC ts pk su 3 ty n s rc) = (4, none) := by
                                            unfold m_met m_isC m_bd
                                            simp only [*, if_true, if_false, Bool.false_eq_true, reduceIte, Option.map_some, decide_true, decide_false, not_true_eq_false, not_false_eq_true, eq_self, ne_eq, Nat.reduceLT, Nat.lt_irrefl, Nat.reduceEqDiff, and_true, true_and, and_false, false_and, or_true, true_or, or_false, false_or, Bool.or_true, Bool.or_false, Bool.true_or, Bool.false_or, reduceCtorEq] <;> rfl
                                          exact ⟨by rw [hz], hrs.tr hsc.rs, by rw [hz]; exact (hsc.x hS 32).trans hran, (hsc.x hS 0).trans hx0, (hsc.I2 hS 22 (by decide) rfl (by decide) c).trans hce, (hsc.I2 hS 23 (by decide) rfl (by decide) c).trans hpk, (hsc.I2 hS 24 (by decide) rfl (by decide) c).trans hsu⟩
                                  · refine jv_iconst (q := 299) (v := nI 3) G dX8_met_298 (by decide) rfl ?_
                                    refine jv_iret G hr dX8_met_299 (Nat.le_of_ble_eq_true rfl) (Nat.le_of_ble_eq_true rfl) ?_
                                    have hz : (m_met (decide (e = ec)) tsC ts pk su 3 ty n s rc) = (3, none) := by
                                      unfold m_met m_isC m_bd
                                      simp only [*, if_true, if_false, Bool.false_eq_true, reduceIte, Option.map_some, decide_true, decide_false, not_true_eq_false, not_false_eq_true, eq_self, ne_eq, Nat.reduceLT, Nat.lt_irrefl, Nat.reduceEqDiff, and_true, true_and, and_false, false_and, or_true, true_or, or_false, false_or, Bool.or_true, Bool.or_false, Bool.true_or, Bool.false_or, reduceCtorEq] <;> rfl
                                    exact ⟨by rw [hz], hrs.tr hsc.rs, by rw [hz]; exact (hsc.x hS 32).trans hran, (hsc.x hS 0).trans hx0, (hsc.I2 hS 22 (by decide) rfl (by decide) c).trans hce, (hsc.I2 hS 23 (by decide) rfl (by decide) c).trans hpk, (hsc.I2 hS 24 (by decide) rfl (by decide) c).trans hsu⟩
                                · exact absurd c105 (jv_nI_m1 (by omega))
                            · omega
                          · omega
                        · omega
                      · omega
                    · refine jv_iconst (q := 192) (v := nI 3) G dX8_met_191 (by decide) rfl ?_
                      refine jv_iret G hr dX8_met_192 (Nat.le_of_ble_eq_true rfl) (Nat.le_of_ble_eq_true rfl) ?_
                      have hz : (m_met (decide (e = ec)) tsC ts pk su 3 ty n s rc) = (3, none) := by
                        unfold m_met m_isC m_bd
                        simp only [*, if_true, if_false, Bool.false_eq_true, reduceIte, Option.map_some, decide_true, decide_false, not_true_eq_false, not_false_eq_true, eq_self, ne_eq, Nat.reduceLT, Nat.lt_irrefl, Nat.reduceEqDiff, and_true, true_and, and_false, false_and, or_true, true_or, or_false, false_or, Bool.or_true, Bool.or_false, Bool.true_or, Bool.false_or, reduceCtorEq] <;> rfl
                      exact ⟨by rw [hz], hrs.tr hsc.rs, by rw [hz]; exact (hsc.x hS 32).trans hran, (hsc.x hS 0).trans hx0, (hsc.I2 hS 22 (by decide) rfl (by decide) c).trans hce, (hsc.I2 hS 23 (by decide) rfl (by decide) c).trans hpk, (hsc.I2 hS 24 (by decide) rfl (by decide) c).trans hsu⟩
                · omega
            · omega
          · omega
      · exact absurd rfl c65
