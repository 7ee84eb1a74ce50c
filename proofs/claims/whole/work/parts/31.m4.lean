set_option maxHeartbeats 4000000 in
set_option maxRecDepth 100000 in
theorem r_met4 {lA : Launch} (hlt : lA.stackTraces = false) {D : jv_D} {base : Nat} {x : Nat} {q : Nat → Nat} {h : jv_H} {c e ec pk : Nat} {su : Option Nat} {ty n s rc : Int32} {tsC ts : List mT} (hS : rf_S x q h) (hc : c < 13) (he : e < 8) (hec : ec < 8) (hE : rf_E q h e ts) (hV : rf_V q h e ts) (hEC : rf_E q h ec tsC) (hVC : rf_V q h ec tsC) (hce : jv_I h (q 22) c = nI ec) (hpk : jv_I h (q 23) c = nI pk) (hpk5 : pk < 5) (hsu : jv_I h (q 24) c = jv_oN su) (hsu16 : ∀ u, su = some u → u < 16) (hg : ∀ k, k < ts.length → m_hg ts 11 k) (hgC : ∀ k, k < tsC.length → m_hg tsC 11 k) : jv_Met lA D base yX8_met (.code yX8_met cX8_met 14 (some .int)) 15 0 0 [.ref x, .int (nI c), .int (nI e), .int (nI 4), .int ty, .int n, .int s, .int rc] h (fun v h' => v = some (.int (nI (m_met (decide (e = ec)) tsC ts pk su 4 ty n s rc).1)) ∧ rs x q h h' ∧ jv_I h' x 32 = jv_oN (m_met (decide (e = ec)) tsC ts pk su 4 ty n s rc).2 ∧ jv_I h' x 0 = jv_I h x 0 ∧ jv_I h' (q 22) c = nI ec ∧ jv_I h' (q 23) c = nI pk ∧ jv_I h' (q 24) c = jv_oN su) jv_no := by
  refine jv_ofV (lo := [(0, .ref x), (1, .int (nI c)), (2, .int (nI e)), (3, .int (nI 4)), (4, .int ty), (5, .int n), (6, .int s), (7, .int rc)]) hlt (by decide) (Nat.le_of_ble_eq_true rfl) rfl (fun E hEl hEd hEz Z G hr ht hnm => ?_)
  subst hEl; subst hEd; subst hEz
  have hlen := hE.2.1
  have hlenC := hEC.2.1
  have hrs : rs x q h h := rs.rf
  have hx0 : jv_I h x 0 = jv_I h x 0 := rfl
  have hsc : sc x q h h := sc.rf
  have hco : m_co tsC 4 ty n s = none := rfl
  refine jv_aload_n (q := 1) G 0 dX8_met_0 rfl rfl rfl ?_
  refine jv_iconst (q := 2) (v := (-1)) G dX8_met_1 (by decide) rfl ?_
  refine jv_putI (q := 5) G dX8_met_2 fl_X8_192 rfl (hsc.S hS).1 rfl ?_
  have hr1 : rs x q h (jv_wI h x 32 (-1)) := rs.rf.wI (-1) (Or.inl ⟨rfl, Or.inr (Or.inl rfl)⟩)
  have hran : jv_I (jv_wI h x 32 (-1)) x 32 = (-1) := jv_I_self _ _ _ _
  have hSb := hsc.S hS
  have hE := hr1.E hSb (hsc.E hS hE)
  have hV := hr1.V hSb (hsc.V hS hV)
  have hEC := hr1.E hSb (hsc.E hS hEC)
  have hVC := hr1.V hSb (hsc.V hS hVC)
  have hce := (wx_I hSb 22 (by decide) rfl 32 c (-1)).trans ((hsc.I2 hS 22 (by decide) rfl (by decide) c).trans hce)
  have hpk := (wx_I hSb 23 (by decide) rfl 32 c (-1)).trans ((hsc.I2 hS 23 (by decide) rfl (by decide) c).trans hpk)
  have hsu := (wx_I hSb 24 (by decide) rfl 32 c (-1)).trans ((hsc.I2 hS 24 (by decide) rfl (by decide) c).trans hsu)
  have hrs := (hrs.tr hsc.rs).tr hr1
  have hx0 : jv_I (jv_wI h x 32 (-1)) x 0 = jv_I h x 0 := by rw [jv_I_wI, if_neg (fun z => by cases z.2)] <;> exact (hsc.x hS 0).trans hx0
  have hS := hr1.S hSb
  generalize jv_wI h x 32 (-1) = h1 at hran hx0 hE hV hEC hVC hce hpk hsu hrs hS ⊢
  have hsc : sc x q h1 h1 := sc.rf
  refine jv_aload_n (q := 6) G 0 dX8_met_5 rfl rfl rfl ?_
  refine jv_iload_n (q := 7) G 2 dX8_met_6 rfl rfl rfl ?_
  refine jv_iload (q := 9) G 4 dX8_met_7 rfl rfl ?_
  refine jv_callV_I (q := 12) (h1 := h1) (As := [.int (nI e), .int ty]) (rest := []) (ce' := 0) (sl' := 0) (r := jv_oN ((m_at ts ty).map (fun k => 10 * e + k))) G Z ml_X8_151 (r_at hlt (hsc.S hS) he (hsc.E hS hE)) (hsc.S hS).1 dX8_met_9 rfl (by decide) (by decide) (by decide) (by decide) (Nat.le_of_ble_eq_true rfl) rfl rfl rfl rfl ?_
  rcases Option.eq_none_or_eq_some (m_at ts ty) with hk4 | ⟨k2, hk4⟩
  · refine jv_topI (y := (-1)) (by rw [hk4]; rfl) ?_
    refine jv_istore (q := 14) (lo' := [(8, .int (-1)), (0, .ref x), (1, .int (nI c)), (2, .int (nI e)), (3, .int (nI 4)), (4, .int ty), (5, .int n), (6, .int s), (7, .int rc)]) G dX8_met_12 (by decide) rfl rfl ?_
    refine jv_iload_n (q := 15) G 3 dX8_met_14 rfl rfl rfl ?_
    refine jv_aload_n (q := 16) G 1 dX8_met_15 rfl rfl rfl ?_
    refine jv_getQ (q := 19) G dX8_met_16 fl_X8_68 rfl (hsc.S hS).1 (rf_p22 (hsc.S hS)) rfl ?_
    refine jv_iload_n (q := 20) G 2 dX8_met_19 rfl rfl rfl ?_
    refine jv_iald (q := 21) G dX8_met_20 (rf_a22 (hsc.S hS)) rfl (by omega) (by decide) ((hsc.I2 hS 22 (by decide) rfl (by decide) c).trans hce) rfl ?_
    refine jv_icmp_eqN (q := 24) (tgt := 39) G dX8_met_21 (by decide) rfl (by omega) (by omega) (fun c5 => ?_) (fun c5 => ?_)
    · refine jv_iconst (q := 40) (v := (-1)) G dX8_met_39 (by decide) rfl ?_
      refine jv_istore (q := 42) (lo' := [(9, .int (-1)), (8, .int (-1)), (0, .ref x), (1, .int (nI c)), (2, .int (nI e)), (3, .int (nI 4)), (4, .int ty), (5, .int n), (6, .int s), (7, .int rc)]) G dX8_met_40 (by decide) rfl rfl ?_
      refine jv_iload (q := 44) G 0 dX8_met_42 rfl rfl ?_
      refine jv_iconst (q := 45) (v := (-1)) G dX8_met_44 (by decide) rfl ?_
      refine jv_icmp_eq (q := 48) (tgt := 111) G dX8_met_45 (by decide) rfl (fun c6 => ?_) (fun c6 => ?_)
      · refine jv_iload_n (q := 112) G 5 dX8_met_111 rfl rfl rfl ?_
        refine jv_iconst (q := 113) (v := nI 2) G dX8_met_112 (by decide) rfl ?_
        refine jv_icmp_eqN (q := 116) (tgt := 121) G dX8_met_113 (by decide) rfl (by omega) (by omega) (fun c7 => ?_) (fun c7 => ?_)
        · omega
        · refine jv_iload_n (q := 117) G 5 dX8_met_116 rfl rfl rfl ?_
          refine jv_iconst (q := 118) (v := nI 4) G dX8_met_117 (by decide) rfl ?_
          refine jv_icmp_neN (q := 121) (tgt := 125) G dX8_met_118 (by decide) rfl (by omega) (by omega) (fun c8 => ?_) (fun c8 => ?_)
          · omega
          · refine jv_iconst (q := 122) (v := nI 1) G dX8_met_121 (by decide) rfl ?_
            refine jv_goto (q := 126) G dX8_met_122 (by decide) ?_
            refine jv_istore (q := 128) (lo' := [(10, .int (nI 1)), (9, .int (-1)), (8, .int (-1)), (0, .ref x), (1, .int (nI c)), (2, .int (nI e)), (3, .int (nI 4)), (4, .int ty), (5, .int n), (6, .int s), (7, .int rc)]) G dX8_met_126 (by decide) rfl rfl ?_
            refine jv_iload (q := 130) G 0 dX8_met_128 rfl rfl ?_
            refine jv_if_eqN (q := 133) (tgt := 143) G dX8_met_130 (by decide) rfl (by omega) (fun c9 => ?_) (fun c9 => ?_)
            · omega
            · refine jv_aload_n (q := 134) G 3 dX8_met_133 rfl rfl rfl ?_
              refine jv_iload_n (q := 135) G 5 dX8_met_134 rfl rfl rfl ?_
              refine jv_iload (q := 137) G 10 dX8_met_135 rfl rfl ?_
              refine jv_callV_I (q := 140) (h1 := h1) (As := [.int (nI e), .int rc]) (rest := []) (ce' := 0) (sl' := 0) (r := jv_oN ((m_at ts rc).map (fun k => 10 * e + k))) G Z ml_X8_151 (r_at hlt (hsc.S hS) he (hsc.E hS hE)) (hsc.S hS).1 dX8_met_137 rfl (by decide) (by decide) (by decide) (by decide) (Nat.le_of_ble_eq_true rfl) rfl rfl rfl rfl ?_
              rcases Option.eq_none_or_eq_some (m_at ts rc) with hk12 | ⟨k10, hk12⟩
              · refine jv_topI (y := (-1)) (by rw [hk12]; rfl) ?_
                refine jv_goto (q := 144) G dX8_met_140 (by decide) ?_
                refine jv_istore (q := 146) (lo' := [(11, .int (-1)), (10, .int (nI 1)), (9, .int (-1)), (8, .int (-1)), (0, .ref x), (1, .int (nI c)), (2, .int (nI e)), (3, .int (nI 4)), (4, .int ty), (5, .int n), (6, .int s), (7, .int rc)]) G dX8_met_144 (by decide) rfl rfl ?_
                refine jv_iload (q := 148) G 3 dX8_met_146 rfl rfl ?_
                refine jv_iconst (q := 149) (v := (-1)) G dX8_met_148 (by decide) rfl ?_
                refine jv_icmp_eq (q := 152) (tgt := 163) G dX8_met_149 (by decide) rfl (fun c13 => ?_) (fun c13 => ?_)
                · refine jv_iconst (q := 164) (v := nI 1) G dX8_met_163 (by decide) rfl ?_
                  refine jv_iret G hr dX8_met_164 (Nat.le_of_ble_eq_true rfl) (Nat.le_of_ble_eq_true rfl) ?_
                  have hz : (m_met (decide (e = ec)) tsC ts pk su 4 ty n s rc) = (1, none) := by
                    unfold m_met m_isC m_bd
                    simp only [*, if_true, if_false, Bool.false_eq_true, reduceIte, Option.map_some, decide_true, decide_false, not_true_eq_false, not_false_eq_true, eq_self, ne_eq, Nat.reduceLT, Nat.lt_irrefl, Nat.reduceEqDiff, and_true, true_and, and_false, false_and, or_true, true_or, or_false, false_or, Bool.or_true, Bool.or_false, Bool.true_or, Bool.false_or, reduceCtorEq] <;> rfl
                  exact ⟨by rw [hz], hrs.tr hsc.rs, by rw [hz]; exact (hsc.x hS 32).trans hran, (hsc.x hS 0).trans hx0, (hsc.I2 hS 22 (by decide) rfl (by decide) c).trans hce, (hsc.I2 hS 23 (by decide) rfl (by decide) c).trans hpk, (hsc.I2 hS 24 (by decide) rfl (by decide) c).trans hsu⟩
                · exact absurd rfl c13
              · refine jv_topI (y := nI (10 * e + k10)) (by rw [hk12]; rfl) ?_
                obtain ⟨t11, ht11, nt11, lt11⟩ := m_at_some hk12
                have Tt11 := (hE.2.2 k10 t11 ht11).1
                have Ot11 := (hE.2.2 k10 t11 ht11).2
                have Lt11 := hE.2.1
                have Bt11n := Ot11.1; have Bt11k := Ot11.2.1
                refine jv_goto (q := 144) G dX8_met_140 (by decide) ?_
                refine jv_istore (q := 146) (lo' := [(11, .int (nI (10 * e + k10))), (10, .int (nI 1)), (9, .int (-1)), (8, .int (-1)), (0, .ref x), (1, .int (nI c)), (2, .int (nI e)), (3, .int (nI 4)), (4, .int ty), (5, .int n), (6, .int s), (7, .int rc)]) G dX8_met_144 (by decide) rfl rfl ?_
                refine jv_iload (q := 148) G 3 dX8_met_146 rfl rfl ?_
                refine jv_iconst (q := 149) (v := (-1)) G dX8_met_148 (by decide) rfl ?_
                refine jv_icmp_eq (q := 152) (tgt := 163) G dX8_met_149 (by decide) rfl (fun c14 => ?_) (fun c14 => ?_)
                · refine jv_iconst (q := 164) (v := nI 1) G dX8_met_163 (by decide) rfl ?_
                  refine jv_iret G hr dX8_met_164 (Nat.le_of_ble_eq_true rfl) (Nat.le_of_ble_eq_true rfl) ?_
                  have hz : (m_met (decide (e = ec)) tsC ts pk su 4 ty n s rc) = (1, none) := by
                    unfold m_met m_isC m_bd
                    simp only [*, if_true, if_false, Bool.false_eq_true, reduceIte, Option.map_some, decide_true, decide_false, not_true_eq_false, not_false_eq_true, eq_self, ne_eq, Nat.reduceLT, Nat.lt_irrefl, Nat.reduceEqDiff, and_true, true_and, and_false, false_and, or_true, true_or, or_false, false_or, Bool.or_true, Bool.or_false, Bool.true_or, Bool.false_or, reduceCtorEq] <;> rfl
                  exact ⟨by rw [hz], hrs.tr hsc.rs, by rw [hz]; exact (hsc.x hS 32).trans hran, (hsc.x hS 0).trans hx0, (hsc.I2 hS 22 (by decide) rfl (by decide) c).trans hce, (hsc.I2 hS 23 (by decide) rfl (by decide) c).trans hpk, (hsc.I2 hS 24 (by decide) rfl (by decide) c).trans hsu⟩
                · exact absurd rfl c14
      · exact absurd rfl c6
    · refine jv_aload_n (q := 25) G 1 dX8_met_24 rfl rfl rfl ?_
      refine jv_iload_n (q := 26) G 2 dX8_met_25 rfl rfl rfl ?_
      refine jv_iload_n (q := 27) G 4 dX8_met_26 rfl rfl rfl ?_
      refine jv_iload (q := 29) G 5 dX8_met_27 rfl rfl ?_
      refine jv_iload (q := 31) G 6 dX8_met_29 rfl rfl ?_
      refine jv_iload (q := 33) G 7 dX8_met_31 rfl rfl ?_
      refine jv_callV_I (q := 36) (h1 := h1) (As := [.int (nI c), .int (nI 4), .int ty, .int n, .int s]) (rest := []) (ce' := 0) (sl' := 0) (r := (ffE ec (m_co tsC 4 ty n s))) G Z ml_X8_195 (r_constantOf hlt hsc hS hc hec hEC hce (by decide) hgC) (hsc.S hS).1 dX8_met_33 rfl (by decide) (by decide) (by decide) (by decide) (Nat.le_of_ble_eq_true rfl) rfl rfl rfl rfl ?_
      refine jv_topI (y := (-1)) rfl ?_
      refine jv_goto (q := 40) G dX8_met_36 (by decide) ?_
      refine jv_istore (q := 42) (lo' := [(9, .int (-1)), (8, .int (-1)), (0, .ref x), (1, .int (nI c)), (2, .int (nI e)), (3, .int (nI 4)), (4, .int ty), (5, .int n), (6, .int s), (7, .int rc)]) G dX8_met_40 (by decide) rfl rfl ?_
      refine jv_iload (q := 44) G 0 dX8_met_42 rfl rfl ?_
      refine jv_iconst (q := 45) (v := (-1)) G dX8_met_44 (by decide) rfl ?_
      refine jv_icmp_eq (q := 48) (tgt := 111) G dX8_met_45 (by decide) rfl (fun c15 => ?_) (fun c15 => ?_)
      · refine jv_iload_n (q := 112) G 5 dX8_met_111 rfl rfl rfl ?_
        refine jv_iconst (q := 113) (v := nI 2) G dX8_met_112 (by decide) rfl ?_
        refine jv_icmp_eqN (q := 116) (tgt := 121) G dX8_met_113 (by decide) rfl (by omega) (by omega) (fun c16 => ?_) (fun c16 => ?_)
        · omega
        · refine jv_iload_n (q := 117) G 5 dX8_met_116 rfl rfl rfl ?_
          refine jv_iconst (q := 118) (v := nI 4) G dX8_met_117 (by decide) rfl ?_
          refine jv_icmp_neN (q := 121) (tgt := 125) G dX8_met_118 (by decide) rfl (by omega) (by omega) (fun c17 => ?_) (fun c17 => ?_)
          · omega
          · refine jv_iconst (q := 122) (v := nI 1) G dX8_met_121 (by decide) rfl ?_
            refine jv_goto (q := 126) G dX8_met_122 (by decide) ?_
            refine jv_istore (q := 128) (lo' := [(10, .int (nI 1)), (9, .int (-1)), (8, .int (-1)), (0, .ref x), (1, .int (nI c)), (2, .int (nI e)), (3, .int (nI 4)), (4, .int ty), (5, .int n), (6, .int s), (7, .int rc)]) G dX8_met_126 (by decide) rfl rfl ?_
            refine jv_iload (q := 130) G 0 dX8_met_128 rfl rfl ?_
            refine jv_if_eqN (q := 133) (tgt := 143) G dX8_met_130 (by decide) rfl (by omega) (fun c18 => ?_) (fun c18 => ?_)
            · omega
            · refine jv_aload_n (q := 134) G 3 dX8_met_133 rfl rfl rfl ?_
              refine jv_iload_n (q := 135) G 5 dX8_met_134 rfl rfl rfl ?_
              refine jv_iload (q := 137) G 10 dX8_met_135 rfl rfl ?_
              refine jv_callV_I (q := 140) (h1 := h1) (As := [.int (nI e), .int rc]) (rest := []) (ce' := 0) (sl' := 0) (r := jv_oN ((m_at ts rc).map (fun k => 10 * e + k))) G Z ml_X8_151 (r_at hlt (hsc.S hS) he (hsc.E hS hE)) (hsc.S hS).1 dX8_met_137 rfl (by decide) (by decide) (by decide) (by decide) (Nat.le_of_ble_eq_true rfl) rfl rfl rfl rfl ?_
              rcases Option.eq_none_or_eq_some (m_at ts rc) with hk21 | ⟨k19, hk21⟩
              · refine jv_topI (y := (-1)) (by rw [hk21]; rfl) ?_
                refine jv_goto (q := 144) G dX8_met_140 (by decide) ?_
                refine jv_istore (q := 146) (lo' := [(11, .int (-1)), (10, .int (nI 1)), (9, .int (-1)), (8, .int (-1)), (0, .ref x), (1, .int (nI c)), (2, .int (nI e)), (3, .int (nI 4)), (4, .int ty), (5, .int n), (6, .int s), (7, .int rc)]) G dX8_met_144 (by decide) rfl rfl ?_
                refine jv_iload (q := 148) G 3 dX8_met_146 rfl rfl ?_
                refine jv_iconst (q := 149) (v := (-1)) G dX8_met_148 (by decide) rfl ?_
                refine jv_icmp_eq (q := 152) (tgt := 163) G dX8_met_149 (by decide) rfl (fun c22 => ?_) (fun c22 => ?_)
                · refine jv_iconst (q := 164) (v := nI 1) G dX8_met_163 (by decide) rfl ?_
                  refine jv_iret G hr dX8_met_164 (Nat.le_of_ble_eq_true rfl) (Nat.le_of_ble_eq_true rfl) ?_
                  have hz : (m_met (decide (e = ec)) tsC ts pk su 4 ty n s rc) = (1, none) := by
                    unfold m_met m_isC m_bd
                    simp only [*, if_true, if_false, Bool.false_eq_true, reduceIte, Option.map_some, decide_true, decide_false, not_true_eq_false, not_false_eq_true, eq_self, ne_eq, Nat.reduceLT, Nat.lt_irrefl, Nat.reduceEqDiff, and_true, true_and, and_false, false_and, or_true, true_or, or_false, false_or, Bool.or_true, Bool.or_false, Bool.true_or, Bool.false_or, reduceCtorEq] <;> rfl
                  exact ⟨by rw [hz], hrs.tr hsc.rs, by rw [hz]; exact (hsc.x hS 32).trans hran, (hsc.x hS 0).trans hx0, (hsc.I2 hS 22 (by decide) rfl (by decide) c).trans hce, (hsc.I2 hS 23 (by decide) rfl (by decide) c).trans hpk, (hsc.I2 hS 24 (by decide) rfl (by decide) c).trans hsu⟩
                · exact absurd rfl c22
              · refine jv_topI (y := nI (10 * e + k19)) (by rw [hk21]; rfl) ?_
                obtain ⟨t20, ht20, nt20, lt20⟩ := m_at_some hk21
                have Tt20 := (hE.2.2 k19 t20 ht20).1
                have Ot20 := (hE.2.2 k19 t20 ht20).2
                have Lt20 := hE.2.1
                have Bt20n := Ot20.1; have Bt20k := Ot20.2.1
                refine jv_goto (q := 144) G dX8_met_140 (by decide) ?_
                refine jv_istore (q := 146) (lo' := [(11, .int (nI (10 * e + k19))), (10, .int (nI 1)), (9, .int (-1)), (8, .int (-1)), (0, .ref x), (1, .int (nI c)), (2, .int (nI e)), (3, .int (nI 4)), (4, .int ty), (5, .int n), (6, .int s), (7, .int rc)]) G dX8_met_144 (by decide) rfl rfl ?_
                refine jv_iload (q := 148) G 3 dX8_met_146 rfl rfl ?_
                refine jv_iconst (q := 149) (v := (-1)) G dX8_met_148 (by decide) rfl ?_
                refine jv_icmp_eq (q := 152) (tgt := 163) G dX8_met_149 (by decide) rfl (fun c23 => ?_) (fun c23 => ?_)
                · refine jv_iconst (q := 164) (v := nI 1) G dX8_met_163 (by decide) rfl ?_
                  refine jv_iret G hr dX8_met_164 (Nat.le_of_ble_eq_true rfl) (Nat.le_of_ble_eq_true rfl) ?_
                  have hz : (m_met (decide (e = ec)) tsC ts pk su 4 ty n s rc) = (1, none) := by
                    unfold m_met m_isC m_bd
                    simp only [*, if_true, if_false, Bool.false_eq_true, reduceIte, Option.map_some, decide_true, decide_false, not_true_eq_false, not_false_eq_true, eq_self, ne_eq, Nat.reduceLT, Nat.lt_irrefl, Nat.reduceEqDiff, and_true, true_and, and_false, false_and, or_true, true_or, or_false, false_or, Bool.or_true, Bool.or_false, Bool.true_or, Bool.false_or, reduceCtorEq] <;> rfl
                  exact ⟨by rw [hz], hrs.tr hsc.rs, by rw [hz]; exact (hsc.x hS 32).trans hran, (hsc.x hS 0).trans hx0, (hsc.I2 hS 22 (by decide) rfl (by decide) c).trans hce, (hsc.I2 hS 23 (by decide) rfl (by decide) c).trans hpk, (hsc.I2 hS 24 (by decide) rfl (by decide) c).trans hsu⟩
                · exact absurd rfl c23
      · exact absurd rfl c15
  · refine jv_topI (y := nI (10 * e + k2)) (by rw [hk4]; rfl) ?_
    obtain ⟨t3, ht3, nt3, lt3⟩ := m_at_some hk4
    have Tt3 := (hE.2.2 k2 t3 ht3).1
    have Ot3 := (hE.2.2 k2 t3 ht3).2
    have Lt3 := hE.2.1
    have Bt3n := Ot3.1; have Bt3k := Ot3.2.1
    refine jv_istore (q := 14) (lo' := [(8, .int (nI (10 * e + k2))), (0, .ref x), (1, .int (nI c)), (2, .int (nI e)), (3, .int (nI 4)), (4, .int ty), (5, .int n), (6, .int s), (7, .int rc)]) G dX8_met_12 (by decide) rfl rfl ?_
    refine jv_iload_n (q := 15) G 3 dX8_met_14 rfl rfl rfl ?_
    refine jv_aload_n (q := 16) G 1 dX8_met_15 rfl rfl rfl ?_
    refine jv_getQ (q := 19) G dX8_met_16 fl_X8_68 rfl (hsc.S hS).1 (rf_p22 (hsc.S hS)) rfl ?_
    refine jv_iload_n (q := 20) G 2 dX8_met_19 rfl rfl rfl ?_
    refine jv_iald (q := 21) G dX8_met_20 (rf_a22 (hsc.S hS)) rfl (by omega) (by decide) ((hsc.I2 hS 22 (by decide) rfl (by decide) c).trans hce) rfl ?_
    refine jv_icmp_eqN (q := 24) (tgt := 39) G dX8_met_21 (by decide) rfl (by omega) (by omega) (fun c24 => ?_) (fun c24 => ?_)
    · refine jv_iconst (q := 40) (v := (-1)) G dX8_met_39 (by decide) rfl ?_
      refine jv_istore (q := 42) (lo' := [(9, .int (-1)), (8, .int (nI (10 * e + k2))), (0, .ref x), (1, .int (nI c)), (2, .int (nI e)), (3, .int (nI 4)), (4, .int ty), (5, .int n), (6, .int s), (7, .int rc)]) G dX8_met_40 (by decide) rfl rfl ?_
      refine jv_iload (q := 44) G 0 dX8_met_42 rfl rfl ?_
      refine jv_iconst (q := 45) (v := (-1)) G dX8_met_44 (by decide) rfl ?_
      refine jv_icmp_eq (q := 48) (tgt := 111) G dX8_met_45 (by decide) rfl (fun c25 => ?_) (fun c25 => ?_)
      · refine jv_iload_n (q := 112) G 5 dX8_met_111 rfl rfl rfl ?_
        refine jv_iconst (q := 113) (v := nI 2) G dX8_met_112 (by decide) rfl ?_
        refine jv_icmp_eqN (q := 116) (tgt := 121) G dX8_met_113 (by decide) rfl (by omega) (by omega) (fun c26 => ?_) (fun c26 => ?_)
        · omega
        · refine jv_iload_n (q := 117) G 5 dX8_met_116 rfl rfl rfl ?_
          refine jv_iconst (q := 118) (v := nI 4) G dX8_met_117 (by decide) rfl ?_
          refine jv_icmp_neN (q := 121) (tgt := 125) G dX8_met_118 (by decide) rfl (by omega) (by omega) (fun c27 => ?_) (fun c27 => ?_)
          · omega
          · refine jv_iconst (q := 122) (v := nI 1) G dX8_met_121 (by decide) rfl ?_
            refine jv_goto (q := 126) G dX8_met_122 (by decide) ?_
            refine jv_istore (q := 128) (lo' := [(10, .int (nI 1)), (9, .int (-1)), (8, .int (nI (10 * e + k2))), (0, .ref x), (1, .int (nI c)), (2, .int (nI e)), (3, .int (nI 4)), (4, .int ty), (5, .int n), (6, .int s), (7, .int rc)]) G dX8_met_126 (by decide) rfl rfl ?_
            refine jv_iload (q := 130) G 0 dX8_met_128 rfl rfl ?_
            refine jv_if_eqN (q := 133) (tgt := 143) G dX8_met_130 (by decide) rfl (by omega) (fun c28 => ?_) (fun c28 => ?_)
            · omega
            · refine jv_aload_n (q := 134) G 3 dX8_met_133 rfl rfl rfl ?_
              refine jv_iload_n (q := 135) G 5 dX8_met_134 rfl rfl rfl ?_
              refine jv_iload (q := 137) G 10 dX8_met_135 rfl rfl ?_
              refine jv_callV_I (q := 140) (h1 := h1) (As := [.int (nI e), .int rc]) (rest := []) (ce' := 0) (sl' := 0) (r := jv_oN ((m_at ts rc).map (fun k => 10 * e + k))) G Z ml_X8_151 (r_at hlt (hsc.S hS) he (hsc.E hS hE)) (hsc.S hS).1 dX8_met_137 rfl (by decide) (by decide) (by decide) (by decide) (Nat.le_of_ble_eq_true rfl) rfl rfl rfl rfl ?_
              rcases Option.eq_none_or_eq_some (m_at ts rc) with hk31 | ⟨k29, hk31⟩
              · refine jv_topI (y := (-1)) (by rw [hk31]; rfl) ?_
                refine jv_goto (q := 144) G dX8_met_140 (by decide) ?_
                refine jv_istore (q := 146) (lo' := [(11, .int (-1)), (10, .int (nI 1)), (9, .int (-1)), (8, .int (nI (10 * e + k2))), (0, .ref x), (1, .int (nI c)), (2, .int (nI e)), (3, .int (nI 4)), (4, .int ty), (5, .int n), (6, .int s), (7, .int rc)]) G dX8_met_144 (by decide) rfl rfl ?_
                refine jv_iload (q := 148) G 3 dX8_met_146 rfl rfl ?_
                refine jv_iconst (q := 149) (v := (-1)) G dX8_met_148 (by decide) rfl ?_
                refine jv_icmp_eq (q := 152) (tgt := 163) G dX8_met_149 (by decide) rfl (fun c32 => ?_) (fun c32 => ?_)
                · exact absurd c32 (jv_nI_m1 (by omega))
                · refine jv_iload (q := 154) G 1 dX8_met_152 rfl rfl ?_
                  refine jv_if_eqN (q := 157) (tgt := 165) G dX8_met_154 (by decide) rfl (by omega) (fun c33 => ?_) (fun c33 => ?_)
                  · omega
                  · refine jv_iload (q := 159) G 0 dX8_met_157 rfl rfl ?_
                    refine jv_iconst (q := 160) (v := (-1)) G dX8_met_159 (by decide) rfl ?_
                    refine jv_icmp_ne (q := 163) (tgt := 165) G dX8_met_160 (by decide) rfl (fun c34 => ?_) (fun c34 => ?_)
                    · exact absurd rfl c34
                    · refine jv_iconst (q := 164) (v := nI 1) G dX8_met_163 (by decide) rfl ?_
                      refine jv_iret G hr dX8_met_164 (Nat.le_of_ble_eq_true rfl) (Nat.le_of_ble_eq_true rfl) ?_
                      have hz : (m_met (decide (e = ec)) tsC ts pk su 4 ty n s rc) = (1, none) := by
                        unfold m_met m_isC m_bd
                        simp only [*, if_true, if_false, Bool.false_eq_true, reduceIte, Option.map_some, decide_true, decide_false, not_true_eq_false, not_false_eq_true, eq_self, ne_eq, Nat.reduceLT, Nat.lt_irrefl, Nat.reduceEqDiff, and_true, true_and, and_false, false_and, or_true, true_or, or_false, false_or, Bool.or_true, Bool.or_false, Bool.true_or, Bool.false_or, reduceCtorEq] <;> rfl
                      exact ⟨by rw [hz], hrs.tr hsc.rs, by rw [hz]; exact (hsc.x hS 32).trans hran, (hsc.x hS 0).trans hx0, (hsc.I2 hS 22 (by decide) rfl (by decide) c).trans hce, (hsc.I2 hS 23 (by decide) rfl (by decide) c).trans hpk, (hsc.I2 hS 24 (by decide) rfl (by decide) c).trans hsu⟩
              · refine jv_topI (y := nI (10 * e + k29)) (by rw [hk31]; rfl) ?_
                obtain ⟨t30, ht30, nt30, lt30⟩ := m_at_some hk31
                have Tt30 := (hE.2.2 k29 t30 ht30).1
                have Ot30 := (hE.2.2 k29 t30 ht30).2
                have Lt30 := hE.2.1
                have Bt30n := Ot30.1; have Bt30k := Ot30.2.1
                refine jv_goto (q := 144) G dX8_met_140 (by decide) ?_
                refine jv_istore (q := 146) (lo' := [(11, .int (nI (10 * e + k29))), (10, .int (nI 1)), (9, .int (-1)), (8, .int (nI (10 * e + k2))), (0, .ref x), (1, .int (nI c)), (2, .int (nI e)), (3, .int (nI 4)), (4, .int ty), (5, .int n), (6, .int s), (7, .int rc)]) G dX8_met_144 (by decide) rfl rfl ?_
                refine jv_iload (q := 148) G 3 dX8_met_146 rfl rfl ?_
                refine jv_iconst (q := 149) (v := (-1)) G dX8_met_148 (by decide) rfl ?_
                refine jv_icmp_eq (q := 152) (tgt := 163) G dX8_met_149 (by decide) rfl (fun c35 => ?_) (fun c35 => ?_)
                · exact absurd c35 (jv_nI_m1 (by omega))
                · refine jv_iload (q := 154) G 1 dX8_met_152 rfl rfl ?_
                  refine jv_if_eqN (q := 157) (tgt := 165) G dX8_met_154 (by decide) rfl (by omega) (fun c36 => ?_) (fun c36 => ?_)
                  · omega
                  · refine jv_iload (q := 159) G 0 dX8_met_157 rfl rfl ?_
                    refine jv_iconst (q := 160) (v := (-1)) G dX8_met_159 (by decide) rfl ?_
                    refine jv_icmp_ne (q := 163) (tgt := 165) G dX8_met_160 (by decide) rfl (fun c37 => ?_) (fun c37 => ?_)
                    · refine jv_aload_n (q := 166) G 4 dX8_met_165 rfl rfl rfl ?_
                      refine jv_getQ (q := 169) G dX8_met_166 fl_X8_29 rfl (hsc.S hS).1 (rf_p8 (hsc.S hS)) rfl ?_
                      refine jv_iload (q := 171) G 3 dX8_met_169 rfl rfl ?_
                      refine jv_zald (q := 172) G dX8_met_171 (rf_a8 (hsc.S hS)) rfl (by omega) (by decide) (rt_8 (hsc.T hS Tt3)) rfl ?_
                      refine jv_if_neB (q := 175) (tgt := 193) G dX8_met_172 (by decide) rfl (fun c38 => ?_) (fun c38 => ?_)
                      · refine jv_iload_n (q := 194) G 7 dX8_met_193 rfl rfl rfl ?_
                        refine jv_iconst (q := 195) (v := nI 2) G dX8_met_194 (by decide) rfl ?_
                        refine jv_icmp_neN (q := 198) (tgt := 208) G dX8_met_195 (by decide) rfl (by omega) (by omega) (fun c39 => ?_) (fun c39 => ?_)
                        · refine jv_iload_n (q := 209) G 7 dX8_met_208 rfl rfl rfl ?_
                          refine jv_iconst (q := 210) (v := nI 4) G dX8_met_209 (by decide) rfl ?_
                          refine jv_icmp_neN (q := 213) (tgt := 226) G dX8_met_210 (by decide) rfl (by omega) (by omega) (fun c40 => ?_) (fun c40 => ?_)
                          · omega
                          · refine jv_aload_n (q := 214) G 4 dX8_met_213 rfl rfl rfl ?_
                            refine jv_getQ (q := 217) G dX8_met_214 fl_X8_20 rfl (hsc.S hS).1 (rf_p5 (hsc.S hS)) rfl ?_
                            refine jv_iload (q := 219) G 3 dX8_met_217 rfl rfl ?_
                            refine jv_zald (q := 220) G dX8_met_219 (rf_a5 (hsc.S hS)) rfl (by omega) (by decide) (rt_5 (hsc.T hS Tt3)) rfl ?_
                            refine jv_if_neB (q := 223) (tgt := 226) G dX8_met_220 (by decide) rfl (fun c41 => ?_) (fun c41 => ?_)
                            · refine jv_iload_n (q := 227) G 7 dX8_met_226 rfl rfl rfl ?_
                              refine jv_iconst (q := 228) (v := nI 5) G dX8_met_227 (by decide) rfl ?_
                              refine jv_icmp_neN (q := 231) (tgt := 247) G dX8_met_228 (by decide) rfl (by omega) (by omega) (fun c42 => ?_) (fun c42 => ?_)
                              · refine jv_iload_n (q := 248) G 7 dX8_met_247 rfl rfl rfl ?_
                                refine jv_iconst (q := 249) (v := nI 2) G dX8_met_248 (by decide) rfl ?_
                                refine jv_icmp_geN (q := 252) (tgt := 266) G dX8_met_249 (by decide) rfl (by omega) (by omega) (fun c43 => ?_) (fun c43 => ?_)
                                · refine jv_aload_n (q := 267) G 4 dX8_met_266 rfl rfl rfl ?_
                                  refine jv_iload_n (q := 268) G 6 dX8_met_267 rfl rfl rfl ?_
                                  refine jv_iload (q := 270) G 3 dX8_met_268 rfl rfl ?_
                                  refine jv_iload (q := 272) G 9 dX8_met_270 rfl rfl ?_
                                  refine jv_iload (q := 274) G 10 dX8_met_272 rfl rfl ?_
                                  refine jv_callV (q := 277) (As := [.int (nI e), .int (nI (10 * e + k2)), .int n, .int s]) (rest := []) G Z ml_X8_186 (r_findMethod (d := 11) hlt hsc hS he hE hV ht3 (hg k2 (by omega))) (hsc.S hS).1 dX8_met_274 rfl (by decide) (by decide) (by decide) (by decide) (Nat.le_of_ble_eq_true rfl) rfl rfl (fun v45 h44 y46 => ?_) (fun _ _ hx => hx.elim)
                                  obtain ⟨rfl, hsc⟩ := y46
                                  show jv_V E 14 h44 0 0 (jv_Q E (fun v h' => v = some (.int (nI (m_met (decide (e = ec)) tsC ts pk su 4 ty n s rc).1)) ∧ rs x q h h' ∧ jv_I h' x 32 = jv_oN (m_met (decide (e = ec)) tsC ts pk su 4 ty n s rc).2 ∧ jv_I h' x 0 = jv_I h x 0 ∧ jv_I h' (q 22) c = nI ec ∧ jv_I h' (q 23) c = nI pk ∧ jv_I h' (q 24) c = jv_oN su) jv_no 0 0) 277 [(11, .int (nI (10 * e + k29))), (10, .int (nI 1)), (9, .int (-1)), (8, .int (nI (10 * e + k2))), (0, .ref x), (1, .int (nI c)), (2, .int (nI e)), (3, .int (nI 4)), (4, .int ty), (5, .int n), (6, .int s), (7, .int rc)] [.int (ffE e (m_fm ts 11 k2 n s))]
                                  rcases Option.eq_none_or_eq_some (m_fm ts 11 k2 n s) with hp50 | ⟨p47, hp50⟩
                                  · refine jv_topI (y := (-1)) (by rw [hp50]; rfl) ?_
                                    refine jv_istore (q := 279) (lo' := [(12, .int (-1)), (11, .int (nI (10 * e + k29))), (10, .int (nI 1)), (9, .int (-1)), (8, .int (nI (10 * e + k2))), (0, .ref x), (1, .int (nI c)), (2, .int (nI e)), (3, .int (nI 4)), (4, .int ty), (5, .int n), (6, .int s), (7, .int rc)]) G dX8_met_277 (by decide) rfl rfl ?_
                                    refine jv_iload (q := 281) G 0 dX8_met_279 rfl rfl ?_
                                    refine jv_iconst (q := 282) (v := (-1)) G dX8_met_281 (by decide) rfl ?_
                                    refine jv_icmp_ne (q := 285) (tgt := 287) G dX8_met_282 (by decide) rfl (fun c51 => ?_) (fun c51 => ?_)
                                    · exact absurd rfl c51
                                    · refine jv_iconst (q := 286) (v := nI 2) G dX8_met_285 (by decide) rfl ?_
                                      refine jv_iret G hr dX8_met_286 (Nat.le_of_ble_eq_true rfl) (Nat.le_of_ble_eq_true rfl) ?_
                                      have hz : (m_met (decide (e = ec)) tsC ts pk su 4 ty n s rc) = (2, none) := by
                                        unfold m_met m_isC m_bd
                                        simp only [*, if_true, if_false, Bool.false_eq_true, reduceIte, Option.map_some, decide_true, decide_false, not_true_eq_false, not_false_eq_true, eq_self, ne_eq, Nat.reduceLT, Nat.lt_irrefl, Nat.reduceEqDiff, and_true, true_and, and_false, false_and, or_true, true_or, or_false, false_or, Bool.or_true, Bool.or_false, Bool.true_or, Bool.false_or, reduceCtorEq] <;> rfl
                                      exact ⟨by rw [hz], hrs.tr hsc.rs, by rw [hz]; exact (hsc.x hS 32).trans hran, (hsc.x hS 0).trans hx0, (hsc.I2 hS 22 (by decide) rfl (by decide) c).trans hce, (hsc.I2 hS 23 (by decide) rfl (by decide) c).trans hpk, (hsc.I2 hS 24 (by decide) rfl (by decide) c).trans hsu⟩
                                  · refine jv_topI (y := nI (6 * (10 * e + p47.1) + p47.2)) (by rw [hp50]; rfl) ?_
                                    obtain ⟨t48, ht48, m49, hm49⟩ := m_fm_mem hp50
                                    have Tt48 := (hE.2.2 p47.1 t48 ht48).1
                                    have Ot48 := (hE.2.2 p47.1 t48 ht48).2
                                    have Lt48 := hE.2.1
                                    have lt48 := jv_ltGet ht48
                                    have Mm49 := rt_m Tt48 hm49
                                    have Om49 := Ot48.2.2.2.2.2.2 m49 (List.mem_of_getElem? hm49)
                                    have Lm49 := Ot48.2.2.2.2.2.1
                                    have lm49 := jv_ltGet hm49
                                    have Bm49n := Om49.1; have Bm49s := Om49.2.1; have Bm49a := Om49.2.2.1; have Bt48n := Ot48.1; have Bt48k := Ot48.2.1
                                    refine jv_istore (q := 279) (lo' := [(12, .int (nI (6 * (10 * e + p47.1) + p47.2))), (11, .int (nI (10 * e + k29))), (10, .int (nI 1)), (9, .int (-1)), (8, .int (nI (10 * e + k2))), (0, .ref x), (1, .int (nI c)), (2, .int (nI e)), (3, .int (nI 4)), (4, .int ty), (5, .int n), (6, .int s), (7, .int rc)]) G dX8_met_277 (by decide) rfl rfl ?_
                                    refine jv_iload (q := 281) G 0 dX8_met_279 rfl rfl ?_
                                    refine jv_iconst (q := 282) (v := (-1)) G dX8_met_281 (by decide) rfl ?_
                                    refine jv_icmp_ne (q := 285) (tgt := 287) G dX8_met_282 (by decide) rfl (fun c52 => ?_) (fun c52 => ?_)
                                    · refine jv_aload_n (q := 288) G 5 dX8_met_287 rfl rfl rfl ?_
                                      refine jv_iload_n (q := 289) G 6 dX8_met_288 rfl rfl rfl ?_
                                      refine jv_iload_n (q := 290) G 7 dX8_met_289 rfl rfl rfl ?_
                                      refine jv_iload (q := 292) G 0 dX8_met_290 rfl rfl ?_
                                      refine jv_callV_I (q := 295) (h1 := h44) (As := [.int (nI c), .int (nI e), .int (nI (6 * (10 * e + p47.1) + p47.2))]) (rest := []) (ce' := 0) (sl' := 0) (r := jv_bI (m_mr ts pk su t48 m49)) G Z ml_X8_199 (r_mayReach hlt hsc hS hc he hE hV ht48 hm49 hpk hpk5 hsu hsu16) (hsc.S hS).1 dX8_met_292 rfl (by decide) (by decide) (by decide) (by decide) (Nat.le_of_ble_eq_true rfl) rfl rfl rfl rfl ?_
                                      refine jv_if_neB (q := 298) (tgt := 300) G dX8_met_295 (by decide) rfl (fun c53 => ?_) (fun c53 => ?_)
                                      · refine jv_aload_n (q := 301) G 5 dX8_met_300 rfl rfl rfl ?_
                                        refine jv_getQ (q := 304) G dX8_met_301 fl_X8_56 rfl (hsc.S hS).1 (rf_p17 (hsc.S hS)) rfl ?_
                                        refine jv_iload (q := 306) G 0 dX8_met_304 rfl rfl ?_
                                        refine jv_zald (q := 307) G dX8_met_306 (rf_a17 (hsc.S hS)) rfl (by omega) (by decide) (hsc.M hS Mm49).2.2.2.2.1 rfl ?_
                                        refine jv_iload_n (q := 308) G 8 dX8_met_307 rfl rfl rfl ?_
                                        refine jv_iconst (q := 309) (v := nI 1) G dX8_met_308 (by decide) rfl ?_
                                        refine jv_icmp_eqN (q := 312) (tgt := 317) G dX8_met_309 (by decide) rfl (by omega) (by omega) (fun c54 => ?_) (fun c54 => ?_)
                                        · omega
                                        · refine jv_iload_n (q := 313) G 8 dX8_met_312 rfl rfl rfl ?_
                                          refine jv_iconst (q := 314) (v := nI 3) G dX8_met_313 (by decide) rfl ?_
                                          refine jv_icmp_neN (q := 317) (tgt := 321) G dX8_met_314 (by decide) rfl (by omega) (by omega) (fun c55 => ?_) (fun c55 => ?_)
                                          · refine jv_iconst (q := 322) (v := nI 0) G dX8_met_321 (by decide) rfl ?_
                                            refine jv_topI (y := jv_bI false) rfl ?_
                                            refine jv_icmp_eqB (q := 325) (tgt := 327) G dX8_met_322 (by decide) rfl (fun c56 => ?_) (fun c56 => ?_)
                                            · refine jv_iload (q := 329) G 2 dX8_met_327 rfl rfl ?_
                                              refine jv_if_neN (q := 332) (tgt := 357) G dX8_met_329 (by decide) rfl (by omega) (fun c57 => ?_) (fun c57 => ?_)
                                              · refine jv_aload_n (q := 358) G 5 dX8_met_357 rfl rfl rfl ?_
                                                refine jv_getQ (q := 361) G dX8_met_358 fl_X8_20 rfl (hsc.S hS).1 (rf_p5 (hsc.S hS)) rfl ?_
                                                refine jv_iload (q := 363) G 1 dX8_met_361 rfl rfl ?_
                                                refine jv_zald (q := 364) G dX8_met_363 (rf_a5 (hsc.S hS)) rfl (by omega) (by decide) (rt_5 (hsc.T hS Tt30)) rfl ?_
                                                refine jv_if_neB (q := 367) (tgt := 396) G dX8_met_364 (by decide) rfl (fun c58 => ?_) (fun c58 => ?_)
                                                · refine jv_bipush (q := 398) (v := nI 6) G dX8_met_396 (by decide) rfl ?_
                                                  refine jv_iret G hr dX8_met_398 (Nat.le_of_ble_eq_true rfl) (Nat.le_of_ble_eq_true rfl) ?_
                                                  have hz : (m_met (decide (e = ec)) tsC ts pk su 4 ty n s rc) = (6, none) := by
                                                    unfold m_met m_isC m_bd
                                                    simp only [*, if_true, if_false, Bool.false_eq_true, reduceIte, Option.map_some, decide_true, decide_false, not_true_eq_false, not_false_eq_true, eq_self, ne_eq, Nat.reduceLT, Nat.lt_irrefl, Nat.reduceEqDiff, and_true, true_and, and_false, false_and, or_true, true_or, or_false, false_or, Bool.or_true, Bool.or_false, Bool.true_or, Bool.false_or, reduceCtorEq] <;> rfl
                                                  exact ⟨by rw [hz], hrs.tr hsc.rs, by rw [hz]; exact (hsc.x hS 32).trans hran, (hsc.x hS 0).trans hx0, (hsc.I2 hS 22 (by decide) rfl (by decide) c).trans hce, (hsc.I2 hS 23 (by decide) rfl (by decide) c).trans hpk, (hsc.I2 hS 24 (by decide) rfl (by decide) c).trans hsu⟩
                                                · refine jv_aload_n (q := 368) G 5 dX8_met_367 rfl rfl rfl ?_
                                                  refine jv_getQ (q := 371) G dX8_met_368 fl_X8_23 rfl (hsc.S hS).1 (rf_p6 (hsc.S hS)) rfl ?_
                                                  refine jv_iload (q := 373) G 1 dX8_met_371 rfl rfl ?_
                                                  refine jv_zald (q := 374) G dX8_met_373 (rf_a6 (hsc.S hS)) rfl (by omega) (by decide) (rt_6 (hsc.T hS Tt30)) rfl ?_
                                                  refine jv_if_neB (q := 377) (tgt := 396) G dX8_met_374 (by decide) rfl (fun c59 => ?_) (fun c59 => ?_)
                                                  · refine jv_bipush (q := 398) (v := nI 6) G dX8_met_396 (by decide) rfl ?_
                                                    refine jv_iret G hr dX8_met_398 (Nat.le_of_ble_eq_true rfl) (Nat.le_of_ble_eq_true rfl) ?_
                                                    have hz : (m_met (decide (e = ec)) tsC ts pk su 4 ty n s rc) = (6, none) := by
                                                      unfold m_met m_isC m_bd
                                                      simp only [*, if_true, if_false, Bool.false_eq_true, reduceIte, Option.map_some, decide_true, decide_false, not_true_eq_false, not_false_eq_true, eq_self, ne_eq, Nat.reduceLT, Nat.lt_irrefl, Nat.reduceEqDiff, and_true, true_and, and_false, false_and, or_true, true_or, or_false, false_or, Bool.or_true, Bool.or_false, Bool.true_or, Bool.false_or, reduceCtorEq] <;> rfl
                                                    exact ⟨by rw [hz], hrs.tr hsc.rs, by rw [hz]; exact (hsc.x hS 32).trans hran, (hsc.x hS 0).trans hx0, (hsc.I2 hS 22 (by decide) rfl (by decide) c).trans hce, (hsc.I2 hS 23 (by decide) rfl (by decide) c).trans hpk, (hsc.I2 hS 24 (by decide) rfl (by decide) c).trans hsu⟩
                                                  · refine jv_iload (q := 379) G 1 dX8_met_377 rfl rfl ?_
                                                    refine jv_iload (q := 381) G 4 dX8_met_379 rfl rfl ?_
                                                    refine jv_icmp_eqN (q := 384) (tgt := 399) G dX8_met_381 (by decide) rfl (by omega) (by omega) (fun c60 => ?_) (fun c60 => ?_)
                                                    · have Kc60 : (k29 = k2) = True := eq_true (by omega)
                                                      refine jv_aload_n (q := 400) G 5 dX8_met_399 rfl rfl rfl ?_
                                                      refine jv_iload_n (q := 401) G 7 dX8_met_400 rfl rfl rfl ?_
                                                      refine jv_iload (q := 403) G 0 dX8_met_401 rfl rfl ?_
                                                      refine jv_iload (q := 405) G 1 dX8_met_403 rfl rfl ?_
                                                      refine jv_callV (q := 408) (As := [.int (nI e), .int (nI (6 * (10 * e + p47.1) + p47.2)), .int (nI (10 * e + k29))]) (rest := []) G Z ml_X8_189 (r_selected (d := 11) hlt hsc hS he hE hV ht48 hm49 ht30 (hg k29 (by omega))) (hsc.S hS).1 dX8_met_405 rfl (by decide) (by decide) (by decide) (by decide) (Nat.le_of_ble_eq_true rfl) rfl rfl (fun v62 h61 y63 => ?_) (fun _ _ hx => hx.elim)
                                                      obtain ⟨rfl, hsc⟩ := y63
                                                      show jv_V E 14 h61 0 0 (jv_Q E (fun v h' => v = some (.int (nI (m_met (decide (e = ec)) tsC ts pk su 4 ty n s rc).1)) ∧ rs x q h h' ∧ jv_I h' x 32 = jv_oN (m_met (decide (e = ec)) tsC ts pk su 4 ty n s rc).2 ∧ jv_I h' x 0 = jv_I h x 0 ∧ jv_I h' (q 22) c = nI ec ∧ jv_I h' (q 23) c = nI pk ∧ jv_I h' (q 24) c = jv_oN su) jv_no 0 0) 408 [(12, .int (nI (6 * (10 * e + p47.1) + p47.2))), (11, .int (nI (10 * e + k29))), (10, .int (nI 1)), (9, .int (-1)), (8, .int (nI (10 * e + k2))), (0, .ref x), (1, .int (nI c)), (2, .int (nI e)), (3, .int (nI 4)), (4, .int ty), (5, .int n), (6, .int s), (7, .int rc)] [.int (ffE e (m_sl ts 11 t48 m49 p47.1 p47.2 k29))]
                                                      rcases Option.eq_none_or_eq_some (m_sl ts 11 t48 m49 p47.1 p47.2 k29) with hp67 | ⟨p64, hp67⟩
                                                      · refine jv_topI (y := (-1)) (by rw [hp67]; rfl) ?_
                                                        refine jv_istore (q := 410) (lo' := [(13, .int (-1)), (12, .int (nI (6 * (10 * e + p47.1) + p47.2))), (11, .int (nI (10 * e + k29))), (10, .int (nI 1)), (9, .int (-1)), (8, .int (nI (10 * e + k2))), (0, .ref x), (1, .int (nI c)), (2, .int (nI e)), (3, .int (nI 4)), (4, .int ty), (5, .int n), (6, .int s), (7, .int rc)]) G dX8_met_408 (by decide) rfl rfl ?_
                                                        refine jv_iload (q := 412) G 0 dX8_met_410 rfl rfl ?_
                                                        refine jv_iconst (q := 413) (v := (-1)) G dX8_met_412 (by decide) rfl ?_
                                                        refine jv_icmp_eq (q := 416) (tgt := 426) G dX8_met_413 (by decide) rfl (fun c68 => ?_) (fun c68 => ?_)
                                                        · refine jv_iconst (q := 427) (v := nI 5) G dX8_met_426 (by decide) rfl ?_
                                                          refine jv_iret G hr dX8_met_427 (Nat.le_of_ble_eq_true rfl) (Nat.le_of_ble_eq_true rfl) ?_
                                                          have hz : (m_met (decide (e = ec)) tsC ts pk su 4 ty n s rc) = (5, none) := by
                                                            unfold m_met m_isC m_bd
                                                            simp only [*, if_true, if_false, Bool.false_eq_true, reduceIte, Option.map_some, decide_true, decide_false, not_true_eq_false, not_false_eq_true, eq_self, ne_eq, Nat.reduceLT, Nat.lt_irrefl, Nat.reduceEqDiff, and_true, true_and, and_false, false_and, or_true, true_or, or_false, false_or, Bool.or_true, Bool.or_false, Bool.true_or, Bool.false_or, reduceCtorEq] <;> rfl
                                                          exact ⟨by rw [hz], hrs.tr hsc.rs, by rw [hz]; exact (hsc.x hS 32).trans hran, (hsc.x hS 0).trans hx0, (hsc.I2 hS 22 (by decide) rfl (by decide) c).trans hce, (hsc.I2 hS 23 (by decide) rfl (by decide) c).trans hpk, (hsc.I2 hS 24 (by decide) rfl (by decide) c).trans hsu⟩
                                                        · exact absurd rfl c68
                                                      · refine jv_topI (y := nI (6 * (10 * e + p64.1) + p64.2)) (by rw [hp67]; rfl) ?_
                                                        obtain ⟨t65, ht65, m66, hm66⟩ := m_sl_mem ht48 hm49 hp67
                                                        have Tt65 := (hE.2.2 p64.1 t65 ht65).1
                                                        have Ot65 := (hE.2.2 p64.1 t65 ht65).2
                                                        have Lt65 := hE.2.1
                                                        have lt65 := jv_ltGet ht65
                                                        have Mm66 := rt_m Tt65 hm66
                                                        have Om66 := Ot65.2.2.2.2.2.2 m66 (List.mem_of_getElem? hm66)
                                                        have Lm66 := Ot65.2.2.2.2.2.1
                                                        have lm66 := jv_ltGet hm66
                                                        have Bm66n := Om66.1; have Bm66s := Om66.2.1; have Bm66a := Om66.2.2.1; have Bt65n := Ot65.1; have Bt65k := Ot65.2.1
                                                        refine jv_istore (q := 410) (lo' := [(13, .int (nI (6 * (10 * e + p64.1) + p64.2))), (12, .int (nI (6 * (10 * e + p47.1) + p47.2))), (11, .int (nI (10 * e + k29))), (10, .int (nI 1)), (9, .int (-1)), (8, .int (nI (10 * e + k2))), (0, .ref x), (1, .int (nI c)), (2, .int (nI e)), (3, .int (nI 4)), (4, .int ty), (5, .int n), (6, .int s), (7, .int rc)]) G dX8_met_408 (by decide) rfl rfl ?_
                                                        refine jv_iload (q := 412) G 0 dX8_met_410 rfl rfl ?_
                                                        refine jv_iconst (q := 413) (v := (-1)) G dX8_met_412 (by decide) rfl ?_
                                                        refine jv_icmp_eq (q := 416) (tgt := 426) G dX8_met_413 (by decide) rfl (fun c69 => ?_) (fun c69 => ?_)
                                                        · exact absurd c69 (jv_nI_m1 (by omega))
                                                        · refine jv_aload_n (q := 417) G 6 dX8_met_416 rfl rfl rfl ?_
                                                          refine jv_getQ (q := 420) G dX8_met_417 fl_X8_59 rfl (hsc.S hS).1 (rf_p18 (hsc.S hS)) rfl ?_
                                                          refine jv_iload (q := 422) G 0 dX8_met_420 rfl rfl ?_
                                                          refine jv_iald (q := 423) G dX8_met_422 (rf_a18 (hsc.S hS)) rfl (by omega) (by decide) (hsc.M hS Mm66).2.2.2.2.2.1 rfl ?_
                                                          refine jv_if_ge (q := 426) (tgt := 428) G dX8_met_423 (by decide) rfl (fun c70 => ?_) (fun c70 => ?_)
                                                          · refine jv_iload_n (q := 429) G 9 dX8_met_428 rfl rfl rfl ?_
                                                            refine jv_iconst (q := 430) (v := nI 4) G dX8_met_429 (by decide) rfl ?_
                                                            refine jv_icmp_neN (q := 433) (tgt := 446) G dX8_met_430 (by decide) rfl (by omega) (by omega) (fun c71 => ?_) (fun c71 => ?_)
                                                            · omega
                                                            · refine jv_aload_n (q := 434) G 6 dX8_met_433 rfl rfl rfl ?_
                                                              refine jv_getQ (q := 437) G dX8_met_434 fl_X8_53 rfl (hsc.S hS).1 (rf_p16 (hsc.S hS)) rfl ?_
                                                              refine jv_iload (q := 439) G 0 dX8_met_437 rfl rfl ?_
                                                              refine jv_iald (q := 440) G dX8_met_439 (rf_a16 (hsc.S hS)) rfl (by omega) (by decide) (hsc.M hS Mm66).2.2.2.1 rfl ?_
                                                              refine jv_iconst (q := 441) (v := nI 3) G dX8_met_440 (by decide) rfl ?_
                                                              refine jv_icmp_eqN (q := 444) (tgt := 446) G dX8_met_441 (by decide) rfl (by omega) (by omega) (fun c72 => ?_) (fun c72 => ?_)
                                                              · refine jv_aload_n (q := 447) G 6 dX8_met_446 rfl rfl rfl ?_
                                                                refine jv_aload_n (q := 448) G 6 dX8_met_447 rfl rfl rfl ?_
                                                                refine jv_getQ (q := 451) G dX8_met_448 fl_X8_17 rfl (hsc.S hS).1 (rf_p4 (hsc.S hS)) rfl ?_
                                                                refine jv_iload (q := 453) G 0 dX8_met_451 rfl rfl ?_
                                                                refine jv_callS_I (q := 456) (h1 := h61) (As := [.int (nI (6 * (10 * e + p64.1) + p64.2))]) (rest := [.ref (q 4), .ref x]) (ce' := 0) (sl' := 0) (r := nI ((6 * (10 * e + p64.1) + p64.2) / 6)) G Z ml_X8_183 (r_typeOf hlt (by omega)) dX8_met_453 rfl (by decide) (by decide) (by decide) (by decide) (Nat.le_of_ble_eq_true rfl) rfl rfl rfl rfl ?_
                                                                refine jv_topI (y := nI (10 * e + p64.1)) (congrArg nI (by omega)) ?_
                                                                refine jv_iald (q := 457) G dX8_met_456 (rf_a4 (hsc.S hS)) rfl (by omega) (by decide) (rt_4 (hsc.T hS Tt65)) rfl ?_
                                                                refine jv_putI (q := 460) G dX8_met_457 fl_X8_192 rfl (hsc.S hS).1 rfl ?_
                                                                have hr1 : rs x q h61 (jv_wI h61 x 32 (nI (mt_n t65))) := rs.rf.wI (nI (mt_n t65)) (Or.inl ⟨rfl, Or.inr (Or.inl rfl)⟩)
                                                                have hran : jv_I (jv_wI h61 x 32 (nI (mt_n t65))) x 32 = (nI (mt_n t65)) := jv_I_self _ _ _ _
                                                                have hSb := hsc.S hS
                                                                have hE := hr1.E hSb (hsc.E hS hE)
                                                                have hV := hr1.V hSb (hsc.V hS hV)
                                                                have hEC := hr1.E hSb (hsc.E hS hEC)
                                                                have hVC := hr1.V hSb (hsc.V hS hVC)
                                                                have hce := (wx_I hSb 22 (by decide) rfl 32 c (nI (mt_n t65))).trans ((hsc.I2 hS 22 (by decide) rfl (by decide) c).trans hce)
                                                                have hpk := (wx_I hSb 23 (by decide) rfl 32 c (nI (mt_n t65))).trans ((hsc.I2 hS 23 (by decide) rfl (by decide) c).trans hpk)
                                                                have hsu := (wx_I hSb 24 (by decide) rfl 32 c (nI (mt_n t65))).trans ((hsc.I2 hS 24 (by decide) rfl (by decide) c).trans hsu)
                                                                have hrs := (hrs.tr hsc.rs).tr hr1
                                                                have hx0 : jv_I (jv_wI h61 x 32 (nI (mt_n t65))) x 0 = jv_I h x 0 := by rw [jv_I_wI, if_neg (fun z => by cases z.2)] <;> exact (hsc.x hS 0).trans hx0
                                                                have hS := hr1.S hSb
                                                                generalize jv_wI h61 x 32 (nI (mt_n t65)) = h73 at hran hx0 hE hV hEC hVC hce hpk hsu hrs hS ⊢
                                                                have hsc : sc x q h73 h73 := sc.rf
                                                                refine jv_iload_n (q := 461) G 8 dX8_met_460 rfl rfl rfl ?_
                                                                refine jv_aload_n (q := 462) G 6 dX8_met_461 rfl rfl rfl ?_
                                                                refine jv_getQ (q := 465) G dX8_met_462 fl_X8_68 rfl (hsc.S hS).1 (rf_p22 (hsc.S hS)) rfl ?_
                                                                refine jv_iload_n (q := 466) G 7 dX8_met_465 rfl rfl rfl ?_
                                                                refine jv_iald (q := 467) G dX8_met_466 (rf_a22 (hsc.S hS)) rfl (by omega) (by decide) ((hsc.I2 hS 22 (by decide) rfl (by decide) c).trans hce) rfl ?_
                                                                refine jv_icmp_eqN (q := 470) (tgt := 495) G dX8_met_467 (by decide) rfl (by omega) (by omega) (fun c74 => ?_) (fun c74 => ?_)
                                                                · refine jv_iconst (q := 496) (v := nI 0) G dX8_met_495 (by decide) rfl ?_
                                                                  refine jv_iret G hr dX8_met_496 (Nat.le_of_ble_eq_true rfl) (Nat.le_of_ble_eq_true rfl) ?_
                                                                  have hz : (m_met (decide (e = ec)) tsC ts pk su 4 ty n s rc) = (0, some (mt_n t65)) := by
                                                                    unfold m_met m_isC m_bd
                                                                    simp only [*, if_true, if_false, Bool.false_eq_true, reduceIte, Option.map_some, decide_true, decide_false, not_true_eq_false, not_false_eq_true, eq_self, ne_eq, Nat.reduceLT, Nat.lt_irrefl, Nat.reduceEqDiff, and_true, true_and, and_false, false_and, or_true, true_or, or_false, false_or, Bool.or_true, Bool.or_false, Bool.true_or, Bool.false_or, reduceCtorEq] <;> rfl
                                                                  exact ⟨by rw [hz], hrs.tr hsc.rs, by rw [hz]; exact (hsc.x hS 32).trans hran, (hsc.x hS 0).trans hx0, (hsc.I2 hS 22 (by decide) rfl (by decide) c).trans hce, (hsc.I2 hS 23 (by decide) rfl (by decide) c).trans hpk, (hsc.I2 hS 24 (by decide) rfl (by decide) c).trans hsu⟩
                                                                · omega
                                                              · refine jv_iconst (q := 445) (v := nI 3) G dX8_met_444 (by decide) rfl ?_
                                                                refine jv_iret G hr dX8_met_445 (Nat.le_of_ble_eq_true rfl) (Nat.le_of_ble_eq_true rfl) ?_
                                                                have hz : (m_met (decide (e = ec)) tsC ts pk su 4 ty n s rc) = (3, none) := by
                                                                  unfold m_met m_isC m_bd
                                                                  simp only [*, if_true, if_false, Bool.false_eq_true, reduceIte, Option.map_some, decide_true, decide_false, not_true_eq_false, not_false_eq_true, eq_self, ne_eq, Nat.reduceLT, Nat.lt_irrefl, Nat.reduceEqDiff, and_true, true_and, and_false, false_and, or_true, true_or, or_false, false_or, Bool.or_true, Bool.or_false, Bool.true_or, Bool.false_or, reduceCtorEq] <;> rfl
                                                                exact ⟨by rw [hz], hrs.tr hsc.rs, by rw [hz]; exact (hsc.x hS 32).trans hran, (hsc.x hS 0).trans hx0, (hsc.I2 hS 22 (by decide) rfl (by decide) c).trans hce, (hsc.I2 hS 23 (by decide) rfl (by decide) c).trans hpk, (hsc.I2 hS 24 (by decide) rfl (by decide) c).trans hsu⟩
                                                          · refine jv_iconst (q := 427) (v := nI 5) G dX8_met_426 (by decide) rfl ?_
                                                            refine jv_iret G hr dX8_met_427 (Nat.le_of_ble_eq_true rfl) (Nat.le_of_ble_eq_true rfl) ?_
                                                            have hz : (m_met (decide (e = ec)) tsC ts pk su 4 ty n s rc) = (5, none) := by
                                                              unfold m_met m_isC m_bd
                                                              simp only [*, if_true, if_false, Bool.false_eq_true, reduceIte, Option.map_some, decide_true, decide_false, not_true_eq_false, not_false_eq_true, eq_self, ne_eq, Nat.reduceLT, Nat.lt_irrefl, Nat.reduceEqDiff, and_true, true_and, and_false, false_and, or_true, true_or, or_false, false_or, Bool.or_true, Bool.or_false, Bool.true_or, Bool.false_or, reduceCtorEq] <;> rfl
                                                            exact ⟨by rw [hz], hrs.tr hsc.rs, by rw [hz]; exact (hsc.x hS 32).trans hran, (hsc.x hS 0).trans hx0, (hsc.I2 hS 22 (by decide) rfl (by decide) c).trans hce, (hsc.I2 hS 23 (by decide) rfl (by decide) c).trans hpk, (hsc.I2 hS 24 (by decide) rfl (by decide) c).trans hsu⟩
                                                    · have Kc60 : (k29 = k2) = False := eq_false (by omega)
                                                      refine jv_aload_n (q := 385) G 5 dX8_met_384 rfl rfl rfl ?_
                                                      refine jv_iload_n (q := 386) G 7 dX8_met_385 rfl rfl rfl ?_
                                                      refine jv_iload (q := 388) G 9 dX8_met_386 rfl rfl ?_
                                                      refine jv_iload (q := 390) G 12 dX8_met_388 rfl rfl ?_
                                                      refine jv_callV_I (q := 393) (h1 := h44) (As := [.int (nI e), .int ty, .int rc]) (rest := []) (ce' := 0) (sl' := 0) (r := jv_bI (m_isA ts ty rc)) G Z ml_X8_167 (r_isAbove hlt hsc hS he hV) (hsc.S hS).1 dX8_met_390 rfl (by decide) (by decide) (by decide) (by decide) (Nat.le_of_ble_eq_true rfl) rfl rfl rfl rfl ?_
                                                      refine jv_if_neB (q := 396) (tgt := 399) G dX8_met_393 (by decide) rfl (fun c75 => ?_) (fun c75 => ?_)
                                                      · refine jv_aload_n (q := 400) G 5 dX8_met_399 rfl rfl rfl ?_
                                                        refine jv_iload_n (q := 401) G 7 dX8_met_400 rfl rfl rfl ?_
                                                        refine jv_iload (q := 403) G 0 dX8_met_401 rfl rfl ?_
                                                        refine jv_iload (q := 405) G 1 dX8_met_403 rfl rfl ?_
                                                        refine jv_callV (q := 408) (As := [.int (nI e), .int (nI (6 * (10 * e + p47.1) + p47.2)), .int (nI (10 * e + k29))]) (rest := []) G Z ml_X8_189 (r_selected (d := 11) hlt hsc hS he hE hV ht48 hm49 ht30 (hg k29 (by omega))) (hsc.S hS).1 dX8_met_405 rfl (by decide) (by decide) (by decide) (by decide) (Nat.le_of_ble_eq_true rfl) rfl rfl (fun v77 h76 y78 => ?_) (fun _ _ hx => hx.elim)
                                                        obtain ⟨rfl, hsc⟩ := y78
                                                        show jv_V E 14 h76 0 0 (jv_Q E (fun v h' => v = some (.int (nI (m_met (decide (e = ec)) tsC ts pk su 4 ty n s rc).1)) ∧ rs x q h h' ∧ jv_I h' x 32 = jv_oN (m_met (decide (e = ec)) tsC ts pk su 4 ty n s rc).2 ∧ jv_I h' x 0 = jv_I h x 0 ∧ jv_I h' (q 22) c = nI ec ∧ jv_I h' (q 23) c = nI pk ∧ jv_I h' (q 24) c = jv_oN su) jv_no 0 0) 408 [(12, .int (nI (6 * (10 * e + p47.1) + p47.2))), (11, .int (nI (10 * e + k29))), (10, .int (nI 1)), (9, .int (-1)), (8, .int (nI (10 * e + k2))), (0, .ref x), (1, .int (nI c)), (2, .int (nI e)), (3, .int (nI 4)), (4, .int ty), (5, .int n), (6, .int s), (7, .int rc)] [.int (ffE e (m_sl ts 11 t48 m49 p47.1 p47.2 k29))]
                                                        rcases Option.eq_none_or_eq_some (m_sl ts 11 t48 m49 p47.1 p47.2 k29) with hp82 | ⟨p79, hp82⟩
                                                        · refine jv_topI (y := (-1)) (by rw [hp82]; rfl) ?_
                                                          refine jv_istore (q := 410) (lo' := [(13, .int (-1)), (12, .int (nI (6 * (10 * e + p47.1) + p47.2))), (11, .int (nI (10 * e + k29))), (10, .int (nI 1)), (9, .int (-1)), (8, .int (nI (10 * e + k2))), (0, .ref x), (1, .int (nI c)), (2, .int (nI e)), (3, .int (nI 4)), (4, .int ty), (5, .int n), (6, .int s), (7, .int rc)]) G dX8_met_408 (by decide) rfl rfl ?_
                                                          refine jv_iload (q := 412) G 0 dX8_met_410 rfl rfl ?_
                                                          refine jv_iconst (q := 413) (v := (-1)) G dX8_met_412 (by decide) rfl ?_
                                                          refine jv_icmp_eq (q := 416) (tgt := 426) G dX8_met_413 (by decide) rfl (fun c83 => ?_) (fun c83 => ?_)
                                                          · refine jv_iconst (q := 427) (v := nI 5) G dX8_met_426 (by decide) rfl ?_
                                                            refine jv_iret G hr dX8_met_427 (Nat.le_of_ble_eq_true rfl) (Nat.le_of_ble_eq_true rfl) ?_
                                                            have hz : (m_met (decide (e = ec)) tsC ts pk su 4 ty n s rc) = (5, none) := by
                                                              unfold m_met m_isC m_bd
                                                              simp only [*, if_true, if_false, Bool.false_eq_true, reduceIte, Option.map_some, decide_true, decide_false, not_true_eq_false, not_false_eq_true, eq_self, ne_eq, Nat.reduceLT, Nat.lt_irrefl, Nat.reduceEqDiff, and_true, true_and, and_false, false_and, or_true, true_or, or_false, false_or, Bool.or_true, Bool.or_false, Bool.true_or, Bool.false_or, reduceCtorEq] <;> rfl
                                                            exact ⟨by rw [hz], hrs.tr hsc.rs, by rw [hz]; exact (hsc.x hS 32).trans hran, (hsc.x hS 0).trans hx0, (hsc.I2 hS 22 (by decide) rfl (by decide) c).trans hce, (hsc.I2 hS 23 (by decide) rfl (by decide) c).trans hpk, (hsc.I2 hS 24 (by decide) rfl (by decide) c).trans hsu⟩
                                                          · exact absurd rfl c83
                                                        · refine jv_topI (y := nI (6 * (10 * e + p79.1) + p79.2)) (by rw [hp82]; rfl) ?_
                                                          obtain ⟨t80, ht80, m81, hm81⟩ := m_sl_mem ht48 hm49 hp82
                                                          have Tt80 := (hE.2.2 p79.1 t80 ht80).1
                                                          have Ot80 := (hE.2.2 p79.1 t80 ht80).2
                                                          have Lt80 := hE.2.1
                                                          have lt80 := jv_ltGet ht80
                                                          have Mm81 := rt_m Tt80 hm81
                                                          have Om81 := Ot80.2.2.2.2.2.2 m81 (List.mem_of_getElem? hm81)
                                                          have Lm81 := Ot80.2.2.2.2.2.1
                                                          have lm81 := jv_ltGet hm81
                                                          have Bm81n := Om81.1; have Bm81s := Om81.2.1; have Bm81a := Om81.2.2.1; have Bt80n := Ot80.1; have Bt80k := Ot80.2.1
                                                          refine jv_istore (q := 410) (lo' := [(13, .int (nI (6 * (10 * e + p79.1) + p79.2))), (12, .int (nI (6 * (10 * e + p47.1) + p47.2))), (11, .int (nI (10 * e + k29))), (10, .int (nI 1)), (9, .int (-1)), (8, .int (nI (10 * e + k2))), (0, .ref x), (1, .int (nI c)), (2, .int (nI e)), (3, .int (nI 4)), (4, .int ty), (5, .int n), (6, .int s), (7, .int rc)]) G dX8_met_408 (by decide) rfl rfl ?_
                                                          refine jv_iload (q := 412) G 0 dX8_met_410 rfl rfl ?_
                                                          refine jv_iconst (q := 413) (v := (-1)) G dX8_met_412 (by decide) rfl ?_
                                                          refine jv_icmp_eq (q := 416) (tgt := 426) G dX8_met_413 (by decide) rfl (fun c84 => ?_) (fun c84 => ?_)
                                                          · exact absurd c84 (jv_nI_m1 (by omega))
                                                          · refine jv_aload_n (q := 417) G 6 dX8_met_416 rfl rfl rfl ?_
                                                            refine jv_getQ (q := 420) G dX8_met_417 fl_X8_59 rfl (hsc.S hS).1 (rf_p18 (hsc.S hS)) rfl ?_
                                                            refine jv_iload (q := 422) G 0 dX8_met_420 rfl rfl ?_
                                                            refine jv_iald (q := 423) G dX8_met_422 (rf_a18 (hsc.S hS)) rfl (by omega) (by decide) (hsc.M hS Mm81).2.2.2.2.2.1 rfl ?_
                                                            refine jv_if_ge (q := 426) (tgt := 428) G dX8_met_423 (by decide) rfl (fun c85 => ?_) (fun c85 => ?_)
                                                            · refine jv_iload_n (q := 429) G 9 dX8_met_428 rfl rfl rfl ?_
                                                              refine jv_iconst (q := 430) (v := nI 4) G dX8_met_429 (by decide) rfl ?_
                                                              refine jv_icmp_neN (q := 433) (tgt := 446) G dX8_met_430 (by decide) rfl (by omega) (by omega) (fun c86 => ?_) (fun c86 => ?_)
                                                              · omega
                                                              · refine jv_aload_n (q := 434) G 6 dX8_met_433 rfl rfl rfl ?_
                                                                refine jv_getQ (q := 437) G dX8_met_434 fl_X8_53 rfl (hsc.S hS).1 (rf_p16 (hsc.S hS)) rfl ?_
                                                                refine jv_iload (q := 439) G 0 dX8_met_437 rfl rfl ?_
                                                                refine jv_iald (q := 440) G dX8_met_439 (rf_a16 (hsc.S hS)) rfl (by omega) (by decide) (hsc.M hS Mm81).2.2.2.1 rfl ?_
                                                                refine jv_iconst (q := 441) (v := nI 3) G dX8_met_440 (by decide) rfl ?_
                                                                refine jv_icmp_eqN (q := 444) (tgt := 446) G dX8_met_441 (by decide) rfl (by omega) (by omega) (fun c87 => ?_) (fun c87 => ?_)
                                                                · refine jv_aload_n (q := 447) G 6 dX8_met_446 rfl rfl rfl ?_
                                                                  refine jv_aload_n (q := 448) G 6 dX8_met_447 rfl rfl rfl ?_
                                                                  refine jv_getQ (q := 451) G dX8_met_448 fl_X8_17 rfl (hsc.S hS).1 (rf_p4 (hsc.S hS)) rfl ?_
                                                                  refine jv_iload (q := 453) G 0 dX8_met_451 rfl rfl ?_
                                                                  refine jv_callS_I (q := 456) (h1 := h76) (As := [.int (nI (6 * (10 * e + p79.1) + p79.2))]) (rest := [.ref (q 4), .ref x]) (ce' := 0) (sl' := 0) (r := nI ((6 * (10 * e + p79.1) + p79.2) / 6)) G Z ml_X8_183 (r_typeOf hlt (by omega)) dX8_met_453 rfl (by decide) (by decide) (by decide) (by decide) (Nat.le_of_ble_eq_true rfl) rfl rfl rfl rfl ?_
                                                                  refine jv_topI (y := nI (10 * e + p79.1)) (congrArg nI (by omega)) ?_
                                                                  refine jv_iald (q := 457) G dX8_met_456 (rf_a4 (hsc.S hS)) rfl (by omega) (by decide) (rt_4 (hsc.T hS Tt80)) rfl ?_
                                                                  refine jv_putI (q := 460) G dX8_met_457 fl_X8_192 rfl (hsc.S hS).1 rfl ?_
                                                                  have hr1 : rs x q h76 (jv_wI h76 x 32 (nI (mt_n t80))) := rs.rf.wI (nI (mt_n t80)) (Or.inl ⟨rfl, Or.inr (Or.inl rfl)⟩)
                                                                  have hran : jv_I (jv_wI h76 x 32 (nI (mt_n t80))) x 32 = (nI (mt_n t80)) := jv_I_self _ _ _ _
                                                                  have hSb := hsc.S hS
                                                                  have hE := hr1.E hSb (hsc.E hS hE)
                                                                  have hV := hr1.V hSb (hsc.V hS hV)
                                                                  have hEC := hr1.E hSb (hsc.E hS hEC)
                                                                  have hVC := hr1.V hSb (hsc.V hS hVC)
                                                                  have hce := (wx_I hSb 22 (by decide) rfl 32 c (nI (mt_n t80))).trans ((hsc.I2 hS 22 (by decide) rfl (by decide) c).trans hce)
                                                                  have hpk := (wx_I hSb 23 (by decide) rfl 32 c (nI (mt_n t80))).trans ((hsc.I2 hS 23 (by decide) rfl (by decide) c).trans hpk)
                                                                  have hsu := (wx_I hSb 24 (by decide) rfl 32 c (nI (mt_n t80))).trans ((hsc.I2 hS 24 (by decide) rfl (by decide) c).trans hsu)
                                                                  have hrs := (hrs.tr hsc.rs).tr hr1
                                                                  have hx0 : jv_I (jv_wI h76 x 32 (nI (mt_n t80))) x 0 = jv_I h x 0 := by rw [jv_I_wI, if_neg (fun z => by cases z.2)] <;> exact (hsc.x hS 0).trans hx0
                                                                  have hS := hr1.S hSb
                                                                  generalize jv_wI h76 x 32 (nI (mt_n t80)) = h88 at hran hx0 hE hV hEC hVC hce hpk hsu hrs hS ⊢
                                                                  have hsc : sc x q h88 h88 := sc.rf
                                                                  refine jv_iload_n (q := 461) G 8 dX8_met_460 rfl rfl rfl ?_
                                                                  refine jv_aload_n (q := 462) G 6 dX8_met_461 rfl rfl rfl ?_
                                                                  refine jv_getQ (q := 465) G dX8_met_462 fl_X8_68 rfl (hsc.S hS).1 (rf_p22 (hsc.S hS)) rfl ?_
                                                                  refine jv_iload_n (q := 466) G 7 dX8_met_465 rfl rfl rfl ?_
                                                                  refine jv_iald (q := 467) G dX8_met_466 (rf_a22 (hsc.S hS)) rfl (by omega) (by decide) ((hsc.I2 hS 22 (by decide) rfl (by decide) c).trans hce) rfl ?_
                                                                  refine jv_icmp_eqN (q := 470) (tgt := 495) G dX8_met_467 (by decide) rfl (by omega) (by omega) (fun c89 => ?_) (fun c89 => ?_)
                                                                  · refine jv_iconst (q := 496) (v := nI 0) G dX8_met_495 (by decide) rfl ?_
                                                                    refine jv_iret G hr dX8_met_496 (Nat.le_of_ble_eq_true rfl) (Nat.le_of_ble_eq_true rfl) ?_
                                                                    have hz : (m_met (decide (e = ec)) tsC ts pk su 4 ty n s rc) = (0, some (mt_n t80)) := by
                                                                      unfold m_met m_isC m_bd
                                                                      simp only [*, if_true, if_false, Bool.false_eq_true, reduceIte, Option.map_some, decide_true, decide_false, not_true_eq_false, not_false_eq_true, eq_self, ne_eq, Nat.reduceLT, Nat.lt_irrefl, Nat.reduceEqDiff, and_true, true_and, and_false, false_and, or_true, true_or, or_false, false_or, Bool.or_true, Bool.or_false, Bool.true_or, Bool.false_or, reduceCtorEq] <;> rfl
                                                                    exact ⟨by rw [hz], hrs.tr hsc.rs, by rw [hz]; exact (hsc.x hS 32).trans hran, (hsc.x hS 0).trans hx0, (hsc.I2 hS 22 (by decide) rfl (by decide) c).trans hce, (hsc.I2 hS 23 (by decide) rfl (by decide) c).trans hpk, (hsc.I2 hS 24 (by decide) rfl (by decide) c).trans hsu⟩
                                                                  · omega
                                                                · refine jv_iconst (q := 445) (v := nI 3) G dX8_met_444 (by decide) rfl ?_
                                                                  refine jv_iret G hr dX8_met_445 (Nat.le_of_ble_eq_true rfl) (Nat.le_of_ble_eq_true rfl) ?_
                                                                  have hz : (m_met (decide (e = ec)) tsC ts pk su 4 ty n s rc) = (3, none) := by
                                                                    unfold m_met m_isC m_bd
                                                                    simp only [*, if_true, if_false, Bool.false_eq_true, reduceIte, Option.map_some, decide_true, decide_false, not_true_eq_false, not_false_eq_true, eq_self, ne_eq, Nat.reduceLT, Nat.lt_irrefl, Nat.reduceEqDiff, and_true, true_and, and_false, false_and, or_true, true_or, or_false, false_or, Bool.or_true, Bool.or_false, Bool.true_or, Bool.false_or, reduceCtorEq] <;> rfl
                                                                  exact ⟨by rw [hz], hrs.tr hsc.rs, by rw [hz]; exact (hsc.x hS 32).trans hran, (hsc.x hS 0).trans hx0, (hsc.I2 hS 22 (by decide) rfl (by decide) c).trans hce, (hsc.I2 hS 23 (by decide) rfl (by decide) c).trans hpk, (hsc.I2 hS 24 (by decide) rfl (by decide) c).trans hsu⟩
                                                            · refine jv_iconst (q := 427) (v := nI 5) G dX8_met_426 (by decide) rfl ?_
                                                              refine jv_iret G hr dX8_met_427 (Nat.le_of_ble_eq_true rfl) (Nat.le_of_ble_eq_true rfl) ?_
                                                              have hz : (m_met (decide (e = ec)) tsC ts pk su 4 ty n s rc) = (5, none) := by
                                                                unfold m_met m_isC m_bd
                                                                simp only [*, if_true, if_false, Bool.false_eq_true, reduceIte, Option.map_some, decide_true, decide_false, not_true_eq_false, not_false_eq_true, eq_self, ne_eq, Nat.reduceLT, Nat.lt_irrefl, Nat.reduceEqDiff, and_true, true_and, and_false, false_and, or_true, true_or, or_false, false_or, Bool.or_true, Bool.or_false, Bool.true_or, Bool.false_or, reduceCtorEq] <;> rfl
                                                              exact ⟨by rw [hz], hrs.tr hsc.rs, by rw [hz]; exact (hsc.x hS 32).trans hran, (hsc.x hS 0).trans hx0, (hsc.I2 hS 22 (by decide) rfl (by decide) c).trans hce, (hsc.I2 hS 23 (by decide) rfl (by decide) c).trans hpk, (hsc.I2 hS 24 (by decide) rfl (by decide) c).trans hsu⟩
                                                      · refine jv_bipush (q := 398) (v := nI 6) G dX8_met_396 (by decide) rfl ?_
                                                        refine jv_iret G hr dX8_met_398 (Nat.le_of_ble_eq_true rfl) (Nat.le_of_ble_eq_true rfl) ?_
                                                        have hz : (m_met (decide (e = ec)) tsC ts pk su 4 ty n s rc) = (6, none) := by
                                                          unfold m_met m_isC m_bd
                                                          simp only [*, if_true, if_false, Bool.false_eq_true, reduceIte, Option.map_some, decide_true, decide_false, not_true_eq_false, not_false_eq_true, eq_self, ne_eq, Nat.reduceLT, Nat.lt_irrefl, Nat.reduceEqDiff, and_true, true_and, and_false, false_and, or_true, true_or, or_false, false_or, Bool.or_true, Bool.or_false, Bool.true_or, Bool.false_or, reduceCtorEq] <;> rfl
                                                        exact ⟨by rw [hz], hrs.tr hsc.rs, by rw [hz]; exact (hsc.x hS 32).trans hran, (hsc.x hS 0).trans hx0, (hsc.I2 hS 22 (by decide) rfl (by decide) c).trans hce, (hsc.I2 hS 23 (by decide) rfl (by decide) c).trans hpk, (hsc.I2 hS 24 (by decide) rfl (by decide) c).trans hsu⟩
                                              · omega
                                            · refine jv_iconst (q := 326) (v := nI 4) G dX8_met_325 (by decide) rfl ?_
                                              refine jv_iret G hr dX8_met_326 (Nat.le_of_ble_eq_true rfl) (Nat.le_of_ble_eq_true rfl) ?_
                                              have hz : (m_met (decide (e = ec)) tsC ts pk su 4 ty n s rc) = (4, none) := by
                                                unfold m_met m_isC m_bd
                                                simp only [*, if_true, if_false, Bool.false_eq_true, reduceIte, Option.map_some, decide_true, decide_false, not_true_eq_false, not_false_eq_true, eq_self, ne_eq, Nat.reduceLT, Nat.lt_irrefl, Nat.reduceEqDiff, and_true, true_and, and_false, false_and, or_true, true_or, or_false, false_or, Bool.or_true, Bool.or_false, Bool.true_or, Bool.false_or, reduceCtorEq] <;> rfl
                                              exact ⟨by rw [hz], hrs.tr hsc.rs, by rw [hz]; exact (hsc.x hS 32).trans hran, (hsc.x hS 0).trans hx0, (hsc.I2 hS 22 (by decide) rfl (by decide) c).trans hce, (hsc.I2 hS 23 (by decide) rfl (by decide) c).trans hpk, (hsc.I2 hS 24 (by decide) rfl (by decide) c).trans hsu⟩
                                          · omega
                                      · refine jv_iconst (q := 299) (v := nI 3) G dX8_met_298 (by decide) rfl ?_
                                        refine jv_iret G hr dX8_met_299 (Nat.le_of_ble_eq_true rfl) (Nat.le_of_ble_eq_true rfl) ?_
                                        have hz : (m_met (decide (e = ec)) tsC ts pk su 4 ty n s rc) = (3, none) := by
                                          unfold m_met m_isC m_bd
                                          simp only [*, if_true, if_false, Bool.false_eq_true, reduceIte, Option.map_some, decide_true, decide_false, not_true_eq_false, not_false_eq_true, eq_self, ne_eq, Nat.reduceLT, Nat.lt_irrefl, Nat.reduceEqDiff, and_true, true_and, and_false, false_and, or_true, true_or, or_false, false_or, Bool.or_true, Bool.or_false, Bool.true_or, Bool.false_or, reduceCtorEq] <;> rfl
                                        exact ⟨by rw [hz], hrs.tr hsc.rs, by rw [hz]; exact (hsc.x hS 32).trans hran, (hsc.x hS 0).trans hx0, (hsc.I2 hS 22 (by decide) rfl (by decide) c).trans hce, (hsc.I2 hS 23 (by decide) rfl (by decide) c).trans hpk, (hsc.I2 hS 24 (by decide) rfl (by decide) c).trans hsu⟩
                                    · exact absurd c52 (jv_nI_m1 (by omega))
                                · omega
                              · omega
                            · refine jv_bipush (q := 225) (v := nI 6) G dX8_met_223 (by decide) rfl ?_
                              refine jv_iret G hr dX8_met_225 (Nat.le_of_ble_eq_true rfl) (Nat.le_of_ble_eq_true rfl) ?_
                              have hz : (m_met (decide (e = ec)) tsC ts pk su 4 ty n s rc) = (6, none) := by
                                unfold m_met m_isC m_bd
                                simp only [*, if_true, if_false, Bool.false_eq_true, reduceIte, Option.map_some, decide_true, decide_false, not_true_eq_false, not_false_eq_true, eq_self, ne_eq, Nat.reduceLT, Nat.lt_irrefl, Nat.reduceEqDiff, and_true, true_and, and_false, false_and, or_true, true_or, or_false, false_or, Bool.or_true, Bool.or_false, Bool.true_or, Bool.false_or, reduceCtorEq] <;> rfl
                              exact ⟨by rw [hz], hrs.tr hsc.rs, by rw [hz]; exact (hsc.x hS 32).trans hran, (hsc.x hS 0).trans hx0, (hsc.I2 hS 22 (by decide) rfl (by decide) c).trans hce, (hsc.I2 hS 23 (by decide) rfl (by decide) c).trans hpk, (hsc.I2 hS 24 (by decide) rfl (by decide) c).trans hsu⟩
                        · omega
                      · refine jv_aload_n (q := 176) G 4 dX8_met_175 rfl rfl rfl ?_
                        refine jv_getQ (q := 179) G dX8_met_176 fl_X8_26 rfl (hsc.S hS).1 (rf_p7 (hsc.S hS)) rfl ?_
                        refine jv_iload (q := 181) G 3 dX8_met_179 rfl rfl ?_
                        refine jv_iald (q := 182) G dX8_met_181 (rf_a7 (hsc.S hS)) rfl (by omega) (by decide) (rt_7 (hsc.T hS Tt3)) rfl ?_
                        refine jv_aload_n (q := 183) G 4 dX8_met_182 rfl rfl rfl ?_
                        refine jv_getQ (q := 186) G dX8_met_183 fl_X8_71 rfl (hsc.S hS).1 (rf_p23 (hsc.S hS)) rfl ?_
                        refine jv_iload_n (q := 187) G 5 dX8_met_186 rfl rfl rfl ?_
                        refine jv_iald (q := 188) G dX8_met_187 (rf_a23 (hsc.S hS)) rfl (by omega) (by decide) ((hsc.I2 hS 23 (by decide) rfl (by decide) c).trans hpk) rfl ?_
                        refine jv_icmp_eqN (q := 191) (tgt := 193) G dX8_met_188 (by decide) rfl (by omega) (by omega) (fun c90 => ?_) (fun c90 => ?_)
                        · refine jv_iload_n (q := 194) G 7 dX8_met_193 rfl rfl rfl ?_
                          refine jv_iconst (q := 195) (v := nI 2) G dX8_met_194 (by decide) rfl ?_
                          refine jv_icmp_neN (q := 198) (tgt := 208) G dX8_met_195 (by decide) rfl (by omega) (by omega) (fun c91 => ?_) (fun c91 => ?_)
                          · refine jv_iload_n (q := 209) G 7 dX8_met_208 rfl rfl rfl ?_
                            refine jv_iconst (q := 210) (v := nI 4) G dX8_met_209 (by decide) rfl ?_
                            refine jv_icmp_neN (q := 213) (tgt := 226) G dX8_met_210 (by decide) rfl (by omega) (by omega) (fun c92 => ?_) (fun c92 => ?_)
                            · omega
                            · refine jv_aload_n (q := 214) G 4 dX8_met_213 rfl rfl rfl ?_
                              refine jv_getQ (q := 217) G dX8_met_214 fl_X8_20 rfl (hsc.S hS).1 (rf_p5 (hsc.S hS)) rfl ?_
                              refine jv_iload (q := 219) G 3 dX8_met_217 rfl rfl ?_
                              refine jv_zald (q := 220) G dX8_met_219 (rf_a5 (hsc.S hS)) rfl (by omega) (by decide) (rt_5 (hsc.T hS Tt3)) rfl ?_
                              refine jv_if_neB (q := 223) (tgt := 226) G dX8_met_220 (by decide) rfl (fun c93 => ?_) (fun c93 => ?_)
                              · refine jv_iload_n (q := 227) G 7 dX8_met_226 rfl rfl rfl ?_
                                refine jv_iconst (q := 228) (v := nI 5) G dX8_met_227 (by decide) rfl ?_
                                refine jv_icmp_neN (q := 231) (tgt := 247) G dX8_met_228 (by decide) rfl (by omega) (by omega) (fun c94 => ?_) (fun c94 => ?_)
                                · refine jv_iload_n (q := 248) G 7 dX8_met_247 rfl rfl rfl ?_
                                  refine jv_iconst (q := 249) (v := nI 2) G dX8_met_248 (by decide) rfl ?_
                                  refine jv_icmp_geN (q := 252) (tgt := 266) G dX8_met_249 (by decide) rfl (by omega) (by omega) (fun c95 => ?_) (fun c95 => ?_)
                                  · refine jv_aload_n (q := 267) G 4 dX8_met_266 rfl rfl rfl ?_
                                    refine jv_iload_n (q := 268) G 6 dX8_met_267 rfl rfl rfl ?_
                                    refine jv_iload (q := 270) G 3 dX8_met_268 rfl rfl ?_
                                    refine jv_iload (q := 272) G 9 dX8_met_270 rfl rfl ?_
                                    refine jv_iload (q := 274) G 10 dX8_met_272 rfl rfl ?_
                                    refine jv_callV (q := 277) (As := [.int (nI e), .int (nI (10 * e + k2)), .int n, .int s]) (rest := []) G Z ml_X8_186 (r_findMethod (d := 11) hlt hsc hS he hE hV ht3 (hg k2 (by omega))) (hsc.S hS).1 dX8_met_274 rfl (by decide) (by decide) (by decide) (by decide) (Nat.le_of_ble_eq_true rfl) rfl rfl (fun v97 h96 y98 => ?_) (fun _ _ hx => hx.elim)
                                    obtain ⟨rfl, hsc⟩ := y98
                                    show jv_V E 14 h96 0 0 (jv_Q E (fun v h' => v = some (.int (nI (m_met (decide (e = ec)) tsC ts pk su 4 ty n s rc).1)) ∧ rs x q h h' ∧ jv_I h' x 32 = jv_oN (m_met (decide (e = ec)) tsC ts pk su 4 ty n s rc).2 ∧ jv_I h' x 0 = jv_I h x 0 ∧ jv_I h' (q 22) c = nI ec ∧ jv_I h' (q 23) c = nI pk ∧ jv_I h' (q 24) c = jv_oN su) jv_no 0 0) 277 [(11, .int (nI (10 * e + k29))), (10, .int (nI 1)), (9, .int (-1)), (8, .int (nI (10 * e + k2))), (0, .ref x), (1, .int (nI c)), (2, .int (nI e)), (3, .int (nI 4)), (4, .int ty), (5, .int n), (6, .int s), (7, .int rc)] [.int (ffE e (m_fm ts 11 k2 n s))]
                                    rcases Option.eq_none_or_eq_some (m_fm ts 11 k2 n s) with hp102 | ⟨p99, hp102⟩
                                    · refine jv_topI (y := (-1)) (by rw [hp102]; rfl) ?_
                                      refine jv_istore (q := 279) (lo' := [(12, .int (-1)), (11, .int (nI (10 * e + k29))), (10, .int (nI 1)), (9, .int (-1)), (8, .int (nI (10 * e + k2))), (0, .ref x), (1, .int (nI c)), (2, .int (nI e)), (3, .int (nI 4)), (4, .int ty), (5, .int n), (6, .int s), (7, .int rc)]) G dX8_met_277 (by decide) rfl rfl ?_
                                      refine jv_iload (q := 281) G 0 dX8_met_279 rfl rfl ?_
                                      refine jv_iconst (q := 282) (v := (-1)) G dX8_met_281 (by decide) rfl ?_
                                      refine jv_icmp_ne (q := 285) (tgt := 287) G dX8_met_282 (by decide) rfl (fun c103 => ?_) (fun c103 => ?_)
                                      · exact absurd rfl c103
                                      · refine jv_iconst (q := 286) (v := nI 2) G dX8_met_285 (by decide) rfl ?_
                                        refine jv_iret G hr dX8_met_286 (Nat.le_of_ble_eq_true rfl) (Nat.le_of_ble_eq_true rfl) ?_
                                        have hz : (m_met (decide (e = ec)) tsC ts pk su 4 ty n s rc) = (2, none) := by
                                          unfold m_met m_isC m_bd
                                          simp only [*, if_true, if_false, Bool.false_eq_true, reduceIte, Option.map_some, decide_true, decide_false, not_true_eq_false, not_false_eq_true, eq_self, ne_eq, Nat.reduceLT, Nat.lt_irrefl, Nat.reduceEqDiff, and_true, true_and, and_false, false_and, or_true, true_or, or_false, false_or, Bool.or_true, Bool.or_false, Bool.true_or, Bool.false_or, reduceCtorEq] <;> rfl
                                        exact ⟨by rw [hz], hrs.tr hsc.rs, by rw [hz]; exact (hsc.x hS 32).trans hran, (hsc.x hS 0).trans hx0, (hsc.I2 hS 22 (by decide) rfl (by decide) c).trans hce, (hsc.I2 hS 23 (by decide) rfl (by decide) c).trans hpk, (hsc.I2 hS 24 (by decide) rfl (by decide) c).trans hsu⟩
                                    · refine jv_topI (y := nI (6 * (10 * e + p99.1) + p99.2)) (by rw [hp102]; rfl) ?_
                                      obtain ⟨t100, ht100, m101, hm101⟩ := m_fm_mem hp102
                                      have Tt100 := (hE.2.2 p99.1 t100 ht100).1
                                      have Ot100 := (hE.2.2 p99.1 t100 ht100).2
                                      have Lt100 := hE.2.1
                                      have lt100 := jv_ltGet ht100
                                      have Mm101 := rt_m Tt100 hm101
                                      have Om101 := Ot100.2.2.2.2.2.2 m101 (List.mem_of_getElem? hm101)
                                      have Lm101 := Ot100.2.2.2.2.2.1
                                      have lm101 := jv_ltGet hm101
                                      have Bm101n := Om101.1; have Bm101s := Om101.2.1; have Bm101a := Om101.2.2.1; have Bt100n := Ot100.1; have Bt100k := Ot100.2.1
                                      refine jv_istore (q := 279) (lo' := [(12, .int (nI (6 * (10 * e + p99.1) + p99.2))), (11, .int (nI (10 * e + k29))), (10, .int (nI 1)), (9, .int (-1)), (8, .int (nI (10 * e + k2))), (0, .ref x), (1, .int (nI c)), (2, .int (nI e)), (3, .int (nI 4)), (4, .int ty), (5, .int n), (6, .int s), (7, .int rc)]) G dX8_met_277 (by decide) rfl rfl ?_
                                      refine jv_iload (q := 281) G 0 dX8_met_279 rfl rfl ?_
                                      refine jv_iconst (q := 282) (v := (-1)) G dX8_met_281 (by decide) rfl ?_
                                      refine jv_icmp_ne (q := 285) (tgt := 287) G dX8_met_282 (by decide) rfl (fun c104 => ?_) (fun c104 => ?_)
                                      · refine jv_aload_n (q := 288) G 5 dX8_met_287 rfl rfl rfl ?_
                                        refine jv_iload_n (q := 289) G 6 dX8_met_288 rfl rfl rfl ?_
                                        refine jv_iload_n (q := 290) G 7 dX8_met_289 rfl rfl rfl ?_
                                        refine jv_iload (q := 292) G 0 dX8_met_290 rfl rfl ?_
                                        refine jv_callV_I (q := 295) (h1 := h96) (As := [.int (nI c), .int (nI e), .int (nI (6 * (10 * e + p99.1) + p99.2))]) (rest := []) (ce' := 0) (sl' := 0) (r := jv_bI (m_mr ts pk su t100 m101)) G Z ml_X8_199 (r_mayReach hlt hsc hS hc he hE hV ht100 hm101 hpk hpk5 hsu hsu16) (hsc.S hS).1 dX8_met_292 rfl (by decide) (by decide) (by decide) (by decide) (Nat.le_of_ble_eq_true rfl) rfl rfl rfl rfl ?_
                                        refine jv_if_neB (q := 298) (tgt := 300) G dX8_met_295 (by decide) rfl (fun c105 => ?_) (fun c105 => ?_)
                                        · refine jv_aload_n (q := 301) G 5 dX8_met_300 rfl rfl rfl ?_
                                          refine jv_getQ (q := 304) G dX8_met_301 fl_X8_56 rfl (hsc.S hS).1 (rf_p17 (hsc.S hS)) rfl ?_
                                          refine jv_iload (q := 306) G 0 dX8_met_304 rfl rfl ?_
                                          refine jv_zald (q := 307) G dX8_met_306 (rf_a17 (hsc.S hS)) rfl (by omega) (by decide) (hsc.M hS Mm101).2.2.2.2.1 rfl ?_
                                          refine jv_iload_n (q := 308) G 8 dX8_met_307 rfl rfl rfl ?_
                                          refine jv_iconst (q := 309) (v := nI 1) G dX8_met_308 (by decide) rfl ?_
                                          refine jv_icmp_eqN (q := 312) (tgt := 317) G dX8_met_309 (by decide) rfl (by omega) (by omega) (fun c106 => ?_) (fun c106 => ?_)
                                          · omega
                                          · refine jv_iload_n (q := 313) G 8 dX8_met_312 rfl rfl rfl ?_
                                            refine jv_iconst (q := 314) (v := nI 3) G dX8_met_313 (by decide) rfl ?_
                                            refine jv_icmp_neN (q := 317) (tgt := 321) G dX8_met_314 (by decide) rfl (by omega) (by omega) (fun c107 => ?_) (fun c107 => ?_)
                                            · refine jv_iconst (q := 322) (v := nI 0) G dX8_met_321 (by decide) rfl ?_
                                              refine jv_topI (y := jv_bI false) rfl ?_
                                              refine jv_icmp_eqB (q := 325) (tgt := 327) G dX8_met_322 (by decide) rfl (fun c108 => ?_) (fun c108 => ?_)
                                              · refine jv_iload (q := 329) G 2 dX8_met_327 rfl rfl ?_
                                                refine jv_if_neN (q := 332) (tgt := 357) G dX8_met_329 (by decide) rfl (by omega) (fun c109 => ?_) (fun c109 => ?_)
                                                · refine jv_aload_n (q := 358) G 5 dX8_met_357 rfl rfl rfl ?_
                                                  refine jv_getQ (q := 361) G dX8_met_358 fl_X8_20 rfl (hsc.S hS).1 (rf_p5 (hsc.S hS)) rfl ?_
                                                  refine jv_iload (q := 363) G 1 dX8_met_361 rfl rfl ?_
                                                  refine jv_zald (q := 364) G dX8_met_363 (rf_a5 (hsc.S hS)) rfl (by omega) (by decide) (rt_5 (hsc.T hS Tt30)) rfl ?_
                                                  refine jv_if_neB (q := 367) (tgt := 396) G dX8_met_364 (by decide) rfl (fun c110 => ?_) (fun c110 => ?_)
                                                  · refine jv_bipush (q := 398) (v := nI 6) G dX8_met_396 (by decide) rfl ?_
                                                    refine jv_iret G hr dX8_met_398 (Nat.le_of_ble_eq_true rfl) (Nat.le_of_ble_eq_true rfl) ?_
                                                    have hz : (m_met (decide (e = ec)) tsC ts pk su 4 ty n s rc) = (6, none) := by
                                                      unfold m_met m_isC m_bd
                                                      simp only [*, if_true, if_false, Bool.false_eq_true, reduceIte, Option.map_some, decide_true, decide_false, not_true_eq_false, not_false_eq_true, eq_self, ne_eq, Nat.reduceLT, Nat.lt_irrefl, Nat.reduceEqDiff, and_true, true_and, and_false, false_and, or_true, true_or, or_false, false_or, Bool.or_true, Bool.or_false, Bool.true_or, Bool.false_or, reduceCtorEq] <;> rfl
                                                    exact ⟨by rw [hz], hrs.tr hsc.rs, by rw [hz]; exact (hsc.x hS 32).trans hran, (hsc.x hS 0).trans hx0, (hsc.I2 hS 22 (by decide) rfl (by decide) c).trans hce, (hsc.I2 hS 23 (by decide) rfl (by decide) c).trans hpk, (hsc.I2 hS 24 (by decide) rfl (by decide) c).trans hsu⟩
                                                  · refine jv_aload_n (q := 368) G 5 dX8_met_367 rfl rfl rfl ?_
                                                    refine jv_getQ (q := 371) G dX8_met_368 fl_X8_23 rfl (hsc.S hS).1 (rf_p6 (hsc.S hS)) rfl ?_
                                                    refine jv_iload (q := 373) G 1 dX8_met_371 rfl rfl ?_
                                                    refine jv_zald (q := 374) G dX8_met_373 (rf_a6 (hsc.S hS)) rfl (by omega) (by decide) (rt_6 (hsc.T hS Tt30)) rfl ?_
                                                    refine jv_if_neB (q := 377) (tgt := 396) G dX8_met_374 (by decide) rfl (fun c111 => ?_) (fun c111 => ?_)
                                                    · refine jv_bipush (q := 398) (v := nI 6) G dX8_met_396 (by decide) rfl ?_
                                                      refine jv_iret G hr dX8_met_398 (Nat.le_of_ble_eq_true rfl) (Nat.le_of_ble_eq_true rfl) ?_
                                                      have hz : (m_met (decide (e = ec)) tsC ts pk su 4 ty n s rc) = (6, none) := by
                                                        unfold m_met m_isC m_bd
                                                        simp only [*, if_true, if_false, Bool.false_eq_true, reduceIte, Option.map_some, decide_true, decide_false, not_true_eq_false, not_false_eq_true, eq_self, ne_eq, Nat.reduceLT, Nat.lt_irrefl, Nat.reduceEqDiff, and_true, true_and, and_false, false_and, or_true, true_or, or_false, false_or, Bool.or_true, Bool.or_false, Bool.true_or, Bool.false_or, reduceCtorEq] <;> rfl
                                                      exact ⟨by rw [hz], hrs.tr hsc.rs, by rw [hz]; exact (hsc.x hS 32).trans hran, (hsc.x hS 0).trans hx0, (hsc.I2 hS 22 (by decide) rfl (by decide) c).trans hce, (hsc.I2 hS 23 (by decide) rfl (by decide) c).trans hpk, (hsc.I2 hS 24 (by decide) rfl (by decide) c).trans hsu⟩
                                                    · refine jv_iload (q := 379) G 1 dX8_met_377 rfl rfl ?_
                                                      refine jv_iload (q := 381) G 4 dX8_met_379 rfl rfl ?_
                                                      refine jv_icmp_eqN (q := 384) (tgt := 399) G dX8_met_381 (by decide) rfl (by omega) (by omega) (fun c112 => ?_) (fun c112 => ?_)
                                                      · have Kc112 : (k29 = k2) = True := eq_true (by omega)
                                                        refine jv_aload_n (q := 400) G 5 dX8_met_399 rfl rfl rfl ?_
                                                        refine jv_iload_n (q := 401) G 7 dX8_met_400 rfl rfl rfl ?_
                                                        refine jv_iload (q := 403) G 0 dX8_met_401 rfl rfl ?_
                                                        refine jv_iload (q := 405) G 1 dX8_met_403 rfl rfl ?_
                                                        refine jv_callV (q := 408) (As := [.int (nI e), .int (nI (6 * (10 * e + p99.1) + p99.2)), .int (nI (10 * e + k29))]) (rest := []) G Z ml_X8_189 (r_selected (d := 11) hlt hsc hS he hE hV ht100 hm101 ht30 (hg k29 (by omega))) (hsc.S hS).1 dX8_met_405 rfl (by decide) (by decide) (by decide) (by decide) (Nat.le_of_ble_eq_true rfl) rfl rfl (fun v114 h113 y115 => ?_) (fun _ _ hx => hx.elim)
                                                        obtain ⟨rfl, hsc⟩ := y115
                                                        show jv_V E 14 h113 0 0 (jv_Q E (fun v h' => v = some (.int (nI (m_met (decide (e = ec)) tsC ts pk su 4 ty n s rc).1)) ∧ rs x q h h' ∧ jv_I h' x 32 = jv_oN (m_met (decide (e = ec)) tsC ts pk su 4 ty n s rc).2 ∧ jv_I h' x 0 = jv_I h x 0 ∧ jv_I h' (q 22) c = nI ec ∧ jv_I h' (q 23) c = nI pk ∧ jv_I h' (q 24) c = jv_oN su) jv_no 0 0) 408 [(12, .int (nI (6 * (10 * e + p99.1) + p99.2))), (11, .int (nI (10 * e + k29))), (10, .int (nI 1)), (9, .int (-1)), (8, .int (nI (10 * e + k2))), (0, .ref x), (1, .int (nI c)), (2, .int (nI e)), (3, .int (nI 4)), (4, .int ty), (5, .int n), (6, .int s), (7, .int rc)] [.int (ffE e (m_sl ts 11 t100 m101 p99.1 p99.2 k29))]
                                                        rcases Option.eq_none_or_eq_some (m_sl ts 11 t100 m101 p99.1 p99.2 k29) with hp119 | ⟨p116, hp119⟩
                                                        · refine jv_topI (y := (-1)) (by rw [hp119]; rfl) ?_
                                                          refine jv_istore (q := 410) (lo' := [(13, .int (-1)), (12, .int (nI (6 * (10 * e + p99.1) + p99.2))), (11, .int (nI (10 * e + k29))), (10, .int (nI 1)), (9, .int (-1)), (8, .int (nI (10 * e + k2))), (0, .ref x), (1, .int (nI c)), (2, .int (nI e)), (3, .int (nI 4)), (4, .int ty), (5, .int n), (6, .int s), (7, .int rc)]) G dX8_met_408 (by decide) rfl rfl ?_
                                                          refine jv_iload (q := 412) G 0 dX8_met_410 rfl rfl ?_
                                                          refine jv_iconst (q := 413) (v := (-1)) G dX8_met_412 (by decide) rfl ?_
                                                          refine jv_icmp_eq (q := 416) (tgt := 426) G dX8_met_413 (by decide) rfl (fun c120 => ?_) (fun c120 => ?_)
                                                          · refine jv_iconst (q := 427) (v := nI 5) G dX8_met_426 (by decide) rfl ?_
                                                            refine jv_iret G hr dX8_met_427 (Nat.le_of_ble_eq_true rfl) (Nat.le_of_ble_eq_true rfl) ?_
                                                            have hz : (m_met (decide (e = ec)) tsC ts pk su 4 ty n s rc) = (5, none) := by
                                                              unfold m_met m_isC m_bd
                                                              simp only [*, if_true, if_false, Bool.false_eq_true, reduceIte, Option.map_some, decide_true, decide_false, not_true_eq_false, not_false_eq_true, eq_self, ne_eq, Nat.reduceLT, Nat.lt_irrefl, Nat.reduceEqDiff, and_true, true_and, and_false, false_and, or_true, true_or, or_false, false_or, Bool.or_true, Bool.or_false, Bool.true_or, Bool.false_or, reduceCtorEq] <;> rfl
                                                            exact ⟨by rw [hz], hrs.tr hsc.rs, by rw [hz]; exact (hsc.x hS 32).trans hran, (hsc.x hS 0).trans hx0, (hsc.I2 hS 22 (by decide) rfl (by decide) c).trans hce, (hsc.I2 hS 23 (by decide) rfl (by decide) c).trans hpk, (hsc.I2 hS 24 (by decide) rfl (by decide) c).trans hsu⟩
                                                          · exact absurd rfl c120
                                                        · refine jv_topI (y := nI (6 * (10 * e + p116.1) + p116.2)) (by rw [hp119]; rfl) ?_
                                                          obtain ⟨t117, ht117, m118, hm118⟩ := m_sl_mem ht100 hm101 hp119
                                                          have Tt117 := (hE.2.2 p116.1 t117 ht117).1
                                                          have Ot117 := (hE.2.2 p116.1 t117 ht117).2
                                                          have Lt117 := hE.2.1
                                                          have lt117 := jv_ltGet ht117
                                                          have Mm118 := rt_m Tt117 hm118
                                                          have Om118 := Ot117.2.2.2.2.2.2 m118 (List.mem_of_getElem? hm118)
                                                          have Lm118 := Ot117.2.2.2.2.2.1
                                                          have lm118 := jv_ltGet hm118
                                                          have Bm118n := Om118.1; have Bm118s := Om118.2.1; have Bm118a := Om118.2.2.1; have Bt117n := Ot117.1; have Bt117k := Ot117.2.1
                                                          refine jv_istore (q := 410) (lo' := [(13, .int (nI (6 * (10 * e + p116.1) + p116.2))), (12, .int (nI (6 * (10 * e + p99.1) + p99.2))), (11, .int (nI (10 * e + k29))), (10, .int (nI 1)), (9, .int (-1)), (8, .int (nI (10 * e + k2))), (0, .ref x), (1, .int (nI c)), (2, .int (nI e)), (3, .int (nI 4)), (4, .int ty), (5, .int n), (6, .int s), (7, .int rc)]) G dX8_met_408 (by decide) rfl rfl ?_
                                                          refine jv_iload (q := 412) G 0 dX8_met_410 rfl rfl ?_
                                                          refine jv_iconst (q := 413) (v := (-1)) G dX8_met_412 (by decide) rfl ?_
                                                          refine jv_icmp_eq (q := 416) (tgt := 426) G dX8_met_413 (by decide) rfl (fun c121 => ?_) (fun c121 => ?_)
                                                          · exact absurd c121 (jv_nI_m1 (by omega))
                                                          · refine jv_aload_n (q := 417) G 6 dX8_met_416 rfl rfl rfl ?_
                                                            refine jv_getQ (q := 420) G dX8_met_417 fl_X8_59 rfl (hsc.S hS).1 (rf_p18 (hsc.S hS)) rfl ?_
                                                            refine jv_iload (q := 422) G 0 dX8_met_420 rfl rfl ?_
                                                            refine jv_iald (q := 423) G dX8_met_422 (rf_a18 (hsc.S hS)) rfl (by omega) (by decide) (hsc.M hS Mm118).2.2.2.2.2.1 rfl ?_
                                                            refine jv_if_ge (q := 426) (tgt := 428) G dX8_met_423 (by decide) rfl (fun c122 => ?_) (fun c122 => ?_)
                                                            · refine jv_iload_n (q := 429) G 9 dX8_met_428 rfl rfl rfl ?_
                                                              refine jv_iconst (q := 430) (v := nI 4) G dX8_met_429 (by decide) rfl ?_
                                                              refine jv_icmp_neN (q := 433) (tgt := 446) G dX8_met_430 (by decide) rfl (by omega) (by omega) (fun c123 => ?_) (fun c123 => ?_)
                                                              · omega
                                                              · refine jv_aload_n (q := 434) G 6 dX8_met_433 rfl rfl rfl ?_
                                                                refine jv_getQ (q := 437) G dX8_met_434 fl_X8_53 rfl (hsc.S hS).1 (rf_p16 (hsc.S hS)) rfl ?_
                                                                refine jv_iload (q := 439) G 0 dX8_met_437 rfl rfl ?_
                                                                refine jv_iald (q := 440) G dX8_met_439 (rf_a16 (hsc.S hS)) rfl (by omega) (by decide) (hsc.M hS Mm118).2.2.2.1 rfl ?_
                                                                refine jv_iconst (q := 441) (v := nI 3) G dX8_met_440 (by decide) rfl ?_
                                                                refine jv_icmp_eqN (q := 444) (tgt := 446) G dX8_met_441 (by decide) rfl (by omega) (by omega) (fun c124 => ?_) (fun c124 => ?_)
                                                                · refine jv_aload_n (q := 447) G 6 dX8_met_446 rfl rfl rfl ?_
                                                                  refine jv_aload_n (q := 448) G 6 dX8_met_447 rfl rfl rfl ?_
                                                                  refine jv_getQ (q := 451) G dX8_met_448 fl_X8_17 rfl (hsc.S hS).1 (rf_p4 (hsc.S hS)) rfl ?_
                                                                  refine jv_iload (q := 453) G 0 dX8_met_451 rfl rfl ?_
                                                                  refine jv_callS_I (q := 456) (h1 := h113) (As := [.int (nI (6 * (10 * e + p116.1) + p116.2))]) (rest := [.ref (q 4), .ref x]) (ce' := 0) (sl' := 0) (r := nI ((6 * (10 * e + p116.1) + p116.2) / 6)) G Z ml_X8_183 (r_typeOf hlt (by omega)) dX8_met_453 rfl (by decide) (by decide) (by decide) (by decide) (Nat.le_of_ble_eq_true rfl) rfl rfl rfl rfl ?_
                                                                  refine jv_topI (y := nI (10 * e + p116.1)) (congrArg nI (by omega)) ?_
                                                                  refine jv_iald (q := 457) G dX8_met_456 (rf_a4 (hsc.S hS)) rfl (by omega) (by decide) (rt_4 (hsc.T hS Tt117)) rfl ?_
                                                                  refine jv_putI (q := 460) G dX8_met_457 fl_X8_192 rfl (hsc.S hS).1 rfl ?_
                                                                  have hr1 : rs x q h113 (jv_wI h113 x 32 (nI (mt_n t117))) := rs.rf.wI (nI (mt_n t117)) (Or.inl ⟨rfl, Or.inr (Or.inl rfl)⟩)
                                                                  have hran : jv_I (jv_wI h113 x 32 (nI (mt_n t117))) x 32 = (nI (mt_n t117)) := jv_I_self _ _ _ _
                                                                  have hSb := hsc.S hS
                                                                  have hE := hr1.E hSb (hsc.E hS hE)
                                                                  have hV := hr1.V hSb (hsc.V hS hV)
                                                                  have hEC := hr1.E hSb (hsc.E hS hEC)
                                                                  have hVC := hr1.V hSb (hsc.V hS hVC)
                                                                  have hce := (wx_I hSb 22 (by decide) rfl 32 c (nI (mt_n t117))).trans ((hsc.I2 hS 22 (by decide) rfl (by decide) c).trans hce)
                                                                  have hpk := (wx_I hSb 23 (by decide) rfl 32 c (nI (mt_n t117))).trans ((hsc.I2 hS 23 (by decide) rfl (by decide) c).trans hpk)
                                                                  have hsu := (wx_I hSb 24 (by decide) rfl 32 c (nI (mt_n t117))).trans ((hsc.I2 hS 24 (by decide) rfl (by decide) c).trans hsu)
                                                                  have hrs := (hrs.tr hsc.rs).tr hr1
                                                                  have hx0 : jv_I (jv_wI h113 x 32 (nI (mt_n t117))) x 0 = jv_I h x 0 := by rw [jv_I_wI, if_neg (fun z => by cases z.2)] <;> exact (hsc.x hS 0).trans hx0
                                                                  have hS := hr1.S hSb
                                                                  generalize jv_wI h113 x 32 (nI (mt_n t117)) = h125 at hran hx0 hE hV hEC hVC hce hpk hsu hrs hS ⊢
                                                                  have hsc : sc x q h125 h125 := sc.rf
                                                                  refine jv_iload_n (q := 461) G 8 dX8_met_460 rfl rfl rfl ?_
                                                                  refine jv_aload_n (q := 462) G 6 dX8_met_461 rfl rfl rfl ?_
                                                                  refine jv_getQ (q := 465) G dX8_met_462 fl_X8_68 rfl (hsc.S hS).1 (rf_p22 (hsc.S hS)) rfl ?_
                                                                  refine jv_iload_n (q := 466) G 7 dX8_met_465 rfl rfl rfl ?_
                                                                  refine jv_iald (q := 467) G dX8_met_466 (rf_a22 (hsc.S hS)) rfl (by omega) (by decide) ((hsc.I2 hS 22 (by decide) rfl (by decide) c).trans hce) rfl ?_
                                                                  refine jv_icmp_eqN (q := 470) (tgt := 495) G dX8_met_467 (by decide) rfl (by omega) (by omega) (fun c126 => ?_) (fun c126 => ?_)
                                                                  · refine jv_iconst (q := 496) (v := nI 0) G dX8_met_495 (by decide) rfl ?_
                                                                    refine jv_iret G hr dX8_met_496 (Nat.le_of_ble_eq_true rfl) (Nat.le_of_ble_eq_true rfl) ?_
                                                                    have hz : (m_met (decide (e = ec)) tsC ts pk su 4 ty n s rc) = (0, some (mt_n t117)) := by
                                                                      unfold m_met m_isC m_bd
                                                                      simp only [*, if_true, if_false, Bool.false_eq_true, reduceIte, Option.map_some, decide_true, decide_false, not_true_eq_false, not_false_eq_true, eq_self, ne_eq, Nat.reduceLT, Nat.lt_irrefl, Nat.reduceEqDiff, and_true, true_and, and_false, false_and, or_true, true_or, or_false, false_or, Bool.or_true, Bool.or_false, Bool.true_or, Bool.false_or, reduceCtorEq] <;> rfl
                                                                    exact ⟨by rw [hz], hrs.tr hsc.rs, by rw [hz]; exact (hsc.x hS 32).trans hran, (hsc.x hS 0).trans hx0, (hsc.I2 hS 22 (by decide) rfl (by decide) c).trans hce, (hsc.I2 hS 23 (by decide) rfl (by decide) c).trans hpk, (hsc.I2 hS 24 (by decide) rfl (by decide) c).trans hsu⟩
                                                                  · omega
                                                                · refine jv_iconst (q := 445) (v := nI 3) G dX8_met_444 (by decide) rfl ?_
                                                                  refine jv_iret G hr dX8_met_445 (Nat.le_of_ble_eq_true rfl) (Nat.le_of_ble_eq_true rfl) ?_
                                                                  have hz : (m_met (decide (e = ec)) tsC ts pk su 4 ty n s rc) = (3, none) := by
                                                                    unfold m_met m_isC m_bd
                                                                    simp only [*, if_true, if_false, Bool.false_eq_true, reduceIte, Option.map_some, decide_true, decide_false, not_true_eq_false, not_false_eq_true, eq_self, ne_eq, Nat.reduceLT, Nat.lt_irrefl, Nat.reduceEqDiff, and_true, true_and, and_false, false_and, or_true, true_or, or_false, false_or, Bool.or_true, Bool.or_false, Bool.true_or, Bool.false_or, reduceCtorEq] <;> rfl
                                                                  exact ⟨by rw [hz], hrs.tr hsc.rs, by rw [hz]; exact (hsc.x hS 32).trans hran, (hsc.x hS 0).trans hx0, (hsc.I2 hS 22 (by decide) rfl (by decide) c).trans hce, (hsc.I2 hS 23 (by decide) rfl (by decide) c).trans hpk, (hsc.I2 hS 24 (by decide) rfl (by decide) c).trans hsu⟩
                                                            · refine jv_iconst (q := 427) (v := nI 5) G dX8_met_426 (by decide) rfl ?_
                                                              refine jv_iret G hr dX8_met_427 (Nat.le_of_ble_eq_true rfl) (Nat.le_of_ble_eq_true rfl) ?_
                                                              have hz : (m_met (decide (e = ec)) tsC ts pk su 4 ty n s rc) = (5, none) := by
                                                                unfold m_met m_isC m_bd
                                                                simp only [*, if_true, if_false, Bool.false_eq_true, reduceIte, Option.map_some, decide_true, decide_false, not_true_eq_false, not_false_eq_true, eq_self, ne_eq, Nat.reduceLT, Nat.lt_irrefl, Nat.reduceEqDiff, and_true, true_and, and_false, false_and, or_true, true_or, or_false, false_or, Bool.or_true, Bool.or_false, Bool.true_or, Bool.false_or, reduceCtorEq] <;> rfl
                                                              exact ⟨by rw [hz], hrs.tr hsc.rs, by rw [hz]; exact (hsc.x hS 32).trans hran, (hsc.x hS 0).trans hx0, (hsc.I2 hS 22 (by decide) rfl (by decide) c).trans hce, (hsc.I2 hS 23 (by decide) rfl (by decide) c).trans hpk, (hsc.I2 hS 24 (by decide) rfl (by decide) c).trans hsu⟩
                                                      · have Kc112 : (k29 = k2) = False := eq_false (by omega)
                                                        refine jv_aload_n (q := 385) G 5 dX8_met_384 rfl rfl rfl ?_
                                                        refine jv_iload_n (q := 386) G 7 dX8_met_385 rfl rfl rfl ?_
                                                        refine jv_iload (q := 388) G 9 dX8_met_386 rfl rfl ?_
                                                        refine jv_iload (q := 390) G 12 dX8_met_388 rfl rfl ?_
                                                        refine jv_callV_I (q := 393) (h1 := h96) (As := [.int (nI e), .int ty, .int rc]) (rest := []) (ce' := 0) (sl' := 0) (r := jv_bI (m_isA ts ty rc)) G Z ml_X8_167 (r_isAbove hlt hsc hS he hV) (hsc.S hS).1 dX8_met_390 rfl (by decide) (by decide) (by decide) (by decide) (Nat.le_of_ble_eq_true rfl) rfl rfl rfl rfl ?_
                                                        refine jv_if_neB (q := 396) (tgt := 399) G dX8_met_393 (by decide) rfl (fun c127 => ?_) (fun c127 => ?_)
                                                        · refine jv_aload_n (q := 400) G 5 dX8_met_399 rfl rfl rfl ?_
                                                          refine jv_iload_n (q := 401) G 7 dX8_met_400 rfl rfl rfl ?_
                                                          refine jv_iload (q := 403) G 0 dX8_met_401 rfl rfl ?_
                                                          refine jv_iload (q := 405) G 1 dX8_met_403 rfl rfl ?_
                                                          refine jv_callV (q := 408) (As := [.int (nI e), .int (nI (6 * (10 * e + p99.1) + p99.2)), .int (nI (10 * e + k29))]) (rest := []) G Z ml_X8_189 (r_selected (d := 11) hlt hsc hS he hE hV ht100 hm101 ht30 (hg k29 (by omega))) (hsc.S hS).1 dX8_met_405 rfl (by decide) (by decide) (by decide) (by decide) (Nat.le_of_ble_eq_true rfl) rfl rfl (fun v129 h128 y130 => ?_) (fun _ _ hx => hx.elim)
                                                          obtain ⟨rfl, hsc⟩ := y130
                                                          show jv_V E 14 h128 0 0 (jv_Q E (fun v h' => v = some (.int (nI (m_met (decide (e = ec)) tsC ts pk su 4 ty n s rc).1)) ∧ rs x q h h' ∧ jv_I h' x 32 = jv_oN (m_met (decide (e = ec)) tsC ts pk su 4 ty n s rc).2 ∧ jv_I h' x 0 = jv_I h x 0 ∧ jv_I h' (q 22) c = nI ec ∧ jv_I h' (q 23) c = nI pk ∧ jv_I h' (q 24) c = jv_oN su) jv_no 0 0) 408 [(12, .int (nI (6 * (10 * e + p99.1) + p99.2))), (11, .int (nI (10 * e + k29))), (10, .int (nI 1)), (9, .int (-1)), (8, .int (nI (10 * e + k2))), (0, .ref x), (1, .int (nI c)), (2, .int (nI e)), (3, .int (nI 4)), (4, .int ty), (5, .int n), (6, .int s), (7, .int rc)] [.int (ffE e (m_sl ts 11 t100 m101 p99.1 p99.2 k29))]
                                                          rcases Option.eq_none_or_eq_some (m_sl ts 11 t100 m101 p99.1 p99.2 k29) with hp134 | ⟨p131, hp134⟩
                                                          · refine jv_topI (y := (-1)) (by rw [hp134]; rfl) ?_
                                                            refine jv_istore (q := 410) (lo' := [(13, .int (-1)), (12, .int (nI (6 * (10 * e + p99.1) + p99.2))), (11, .int (nI (10 * e + k29))), (10, .int (nI 1)), (9, .int (-1)), (8, .int (nI (10 * e + k2))), (0, .ref x), (1, .int (nI c)), (2, .int (nI e)), (3, .int (nI 4)), (4, .int ty), (5, .int n), (6, .int s), (7, .int rc)]) G dX8_met_408 (by decide) rfl rfl ?_
                                                            refine jv_iload (q := 412) G 0 dX8_met_410 rfl rfl ?_
                                                            refine jv_iconst (q := 413) (v := (-1)) G dX8_met_412 (by decide) rfl ?_
                                                            refine jv_icmp_eq (q := 416) (tgt := 426) G dX8_met_413 (by decide) rfl (fun c135 => ?_) (fun c135 => ?_)
                                                            · refine jv_iconst (q := 427) (v := nI 5) G dX8_met_426 (by decide) rfl ?_
                                                              refine jv_iret G hr dX8_met_427 (Nat.le_of_ble_eq_true rfl) (Nat.le_of_ble_eq_true rfl) ?_
                                                              have hz : (m_met (decide (e = ec)) tsC ts pk su 4 ty n s rc) = (5, none) := by
                                                                unfold m_met m_isC m_bd
                                                                simp only [*, if_true, if_false, Bool.false_eq_true, reduceIte, Option.map_some, decide_true, decide_false, not_true_eq_false, not_false_eq_true, eq_self, ne_eq, Nat.reduceLT, Nat.lt_irrefl, Nat.reduceEqDiff, and_true, true_and, and_false, false_and, or_true, true_or, or_false, false_or, Bool.or_true, Bool.or_false, Bool.true_or, Bool.false_or, reduceCtorEq] <;> rfl
                                                              exact ⟨by rw [hz], hrs.tr hsc.rs, by rw [hz]; exact (hsc.x hS 32).trans hran, (hsc.x hS 0).trans hx0, (hsc.I2 hS 22 (by decide) rfl (by decide) c).trans hce, (hsc.I2 hS 23 (by decide) rfl (by decide) c).trans hpk, (hsc.I2 hS 24 (by decide) rfl (by decide) c).trans hsu⟩
                                                            · exact absurd rfl c135
                                                          · refine jv_topI (y := nI (6 * (10 * e + p131.1) + p131.2)) (by rw [hp134]; rfl) ?_
                                                            obtain ⟨t132, ht132, m133, hm133⟩ := m_sl_mem ht100 hm101 hp134
                                                            have Tt132 := (hE.2.2 p131.1 t132 ht132).1
                                                            have Ot132 := (hE.2.2 p131.1 t132 ht132).2
                                                            have Lt132 := hE.2.1
                                                            have lt132 := jv_ltGet ht132
                                                            have Mm133 := rt_m Tt132 hm133
                                                            have Om133 := Ot132.2.2.2.2.2.2 m133 (List.mem_of_getElem? hm133)
                                                            have Lm133 := Ot132.2.2.2.2.2.1
                                                            have lm133 := jv_ltGet hm133
                                                            have Bm133n := Om133.1; have Bm133s := Om133.2.1; have Bm133a := Om133.2.2.1; have Bt132n := Ot132.1; have Bt132k := Ot132.2.1
                                                            refine jv_istore (q := 410) (lo' := [(13, .int (nI (6 * (10 * e + p131.1) + p131.2))), (12, .int (nI (6 * (10 * e + p99.1) + p99.2))), (11, .int (nI (10 * e + k29))), (10, .int (nI 1)), (9, .int (-1)), (8, .int (nI (10 * e + k2))), (0, .ref x), (1, .int (nI c)), (2, .int (nI e)), (3, .int (nI 4)), (4, .int ty), (5, .int n), (6, .int s), (7, .int rc)]) G dX8_met_408 (by decide) rfl rfl ?_
                                                            refine jv_iload (q := 412) G 0 dX8_met_410 rfl rfl ?_
                                                            refine jv_iconst (q := 413) (v := (-1)) G dX8_met_412 (by decide) rfl ?_
                                                            refine jv_icmp_eq (q := 416) (tgt := 426) G dX8_met_413 (by decide) rfl (fun c136 => ?_) (fun c136 => ?_)
                                                            · exact absurd c136 (jv_nI_m1 (by omega))
                                                            · refine jv_aload_n (q := 417) G 6 dX8_met_416 rfl rfl rfl ?_
                                                              refine jv_getQ (q := 420) G dX8_met_417 fl_X8_59 rfl (hsc.S hS).1 (rf_p18 (hsc.S hS)) rfl ?_
                                                              refine jv_iload (q := 422) G 0 dX8_met_420 rfl rfl ?_
                                                              refine jv_iald (q := 423) G dX8_met_422 (rf_a18 (hsc.S hS)) rfl (by omega) (by decide) (hsc.M hS Mm133).2.2.2.2.2.1 rfl ?_
                                                              refine jv_if_ge (q := 426) (tgt := 428) G dX8_met_423 (by decide) rfl (fun c137 => ?_) (fun c137 => ?_)
                                                              · refine jv_iload_n (q := 429) G 9 dX8_met_428 rfl rfl rfl ?_
                                                                refine jv_iconst (q := 430) (v := nI 4) G dX8_met_429 (by decide) rfl ?_
                                                                refine jv_icmp_neN (q := 433) (tgt := 446) G dX8_met_430 (by decide) rfl (by omega) (by omega) (fun c138 => ?_) (fun c138 => ?_)
                                                                · omega
                                                                · refine jv_aload_n (q := 434) G 6 dX8_met_433 rfl rfl rfl ?_
                                                                  refine jv_getQ (q := 437) G dX8_met_434 fl_X8_53 rfl (hsc.S hS).1 (rf_p16 (hsc.S hS)) rfl ?_
                                                                  refine jv_iload (q := 439) G 0 dX8_met_437 rfl rfl ?_
                                                                  refine jv_iald (q := 440) G dX8_met_439 (rf_a16 (hsc.S hS)) rfl (by omega) (by decide) (hsc.M hS Mm133).2.2.2.1 rfl ?_
                                                                  refine jv_iconst (q := 441) (v := nI 3) G dX8_met_440 (by decide) rfl ?_
                                                                  refine jv_icmp_eqN (q := 444) (tgt := 446) G dX8_met_441 (by decide) rfl (by omega) (by omega) (fun c139 => ?_) (fun c139 => ?_)
                                                                  · refine jv_aload_n (q := 447) G 6 dX8_met_446 rfl rfl rfl ?_
                                                                    refine jv_aload_n (q := 448) G 6 dX8_met_447 rfl rfl rfl ?_
                                                                    refine jv_getQ (q := 451) G dX8_met_448 fl_X8_17 rfl (hsc.S hS).1 (rf_p4 (hsc.S hS)) rfl ?_
                                                                    refine jv_iload (q := 453) G 0 dX8_met_451 rfl rfl ?_
                                                                    refine jv_callS_I (q := 456) (h1 := h128) (As := [.int (nI (6 * (10 * e + p131.1) + p131.2))]) (rest := [.ref (q 4), .ref x]) (ce' := 0) (sl' := 0) (r := nI ((6 * (10 * e + p131.1) + p131.2) / 6)) G Z ml_X8_183 (r_typeOf hlt (by omega)) dX8_met_453 rfl (by decide) (by decide) (by decide) (by decide) (Nat.le_of_ble_eq_true rfl) rfl rfl rfl rfl ?_
                                                                    refine jv_topI (y := nI (10 * e + p131.1)) (congrArg nI (by omega)) ?_
                                                                    refine jv_iald (q := 457) G dX8_met_456 (rf_a4 (hsc.S hS)) rfl (by omega) (by decide) (rt_4 (hsc.T hS Tt132)) rfl ?_
                                                                    refine jv_putI (q := 460) G dX8_met_457 fl_X8_192 rfl (hsc.S hS).1 rfl ?_
                                                                    have hr1 : rs x q h128 (jv_wI h128 x 32 (nI (mt_n t132))) := rs.rf.wI (nI (mt_n t132)) (Or.inl ⟨rfl, Or.inr (Or.inl rfl)⟩)
                                                                    have hran : jv_I (jv_wI h128 x 32 (nI (mt_n t132))) x 32 = (nI (mt_n t132)) := jv_I_self _ _ _ _
                                                                    have hSb := hsc.S hS
                                                                    have hE := hr1.E hSb (hsc.E hS hE)
                                                                    have hV := hr1.V hSb (hsc.V hS hV)
                                                                    have hEC := hr1.E hSb (hsc.E hS hEC)
                                                                    have hVC := hr1.V hSb (hsc.V hS hVC)
                                                                    have hce := (wx_I hSb 22 (by decide) rfl 32 c (nI (mt_n t132))).trans ((hsc.I2 hS 22 (by decide) rfl (by decide) c).trans hce)
                                                                    have hpk := (wx_I hSb 23 (by decide) rfl 32 c (nI (mt_n t132))).trans ((hsc.I2 hS 23 (by decide) rfl (by decide) c).trans hpk)
                                                                    have hsu := (wx_I hSb 24 (by decide) rfl 32 c (nI (mt_n t132))).trans ((hsc.I2 hS 24 (by decide) rfl (by decide) c).trans hsu)
                                                                    have hrs := (hrs.tr hsc.rs).tr hr1
                                                                    have hx0 : jv_I (jv_wI h128 x 32 (nI (mt_n t132))) x 0 = jv_I h x 0 := by rw [jv_I_wI, if_neg (fun z => by cases z.2)] <;> exact (hsc.x hS 0).trans hx0
                                                                    have hS := hr1.S hSb
                                                                    generalize jv_wI h128 x 32 (nI (mt_n t132)) = h140 at hran hx0 hE hV hEC hVC hce hpk hsu hrs hS ⊢
                                                                    have hsc : sc x q h140 h140 := sc.rf
                                                                    refine jv_iload_n (q := 461) G 8 dX8_met_460 rfl rfl rfl ?_
                                                                    refine jv_aload_n (q := 462) G 6 dX8_met_461 rfl rfl rfl ?_
                                                                    refine jv_getQ (q := 465) G dX8_met_462 fl_X8_68 rfl (hsc.S hS).1 (rf_p22 (hsc.S hS)) rfl ?_
                                                                    refine jv_iload_n (q := 466) G 7 dX8_met_465 rfl rfl rfl ?_
                                                                    refine jv_iald (q := 467) G dX8_met_466 (rf_a22 (hsc.S hS)) rfl (by omega) (by decide) ((hsc.I2 hS 22 (by decide) rfl (by decide) c).trans hce) rfl ?_
                                                                    refine jv_icmp_eqN (q := 470) (tgt := 495) G dX8_met_467 (by decide) rfl (by omega) (by omega) (fun c141 => ?_) (fun c141 => ?_)
                                                                    · refine jv_iconst (q := 496) (v := nI 0) G dX8_met_495 (by decide) rfl ?_
                                                                      refine jv_iret G hr dX8_met_496 (Nat.le_of_ble_eq_true rfl) (Nat.le_of_ble_eq_true rfl) ?_
                                                                      have hz : (m_met (decide (e = ec)) tsC ts pk su 4 ty n s rc) = (0, some (mt_n t132)) := by
                                                                        unfold m_met m_isC m_bd
                                                                        simp only [*, if_true, if_false, Bool.false_eq_true, reduceIte, Option.map_some, decide_true, decide_false, not_true_eq_false, not_false_eq_true, eq_self, ne_eq, Nat.reduceLT, Nat.lt_irrefl, Nat.reduceEqDiff, and_true, true_and, and_false, false_and, or_true, true_or, or_false, false_or, Bool.or_true, Bool.or_false, Bool.true_or, Bool.false_or, reduceCtorEq] <;> rfl
                                                                      exact ⟨by rw [hz], hrs.tr hsc.rs, by rw [hz]; exact (hsc.x hS 32).trans hran, (hsc.x hS 0).trans hx0, (hsc.I2 hS 22 (by decide) rfl (by decide) c).trans hce, (hsc.I2 hS 23 (by decide) rfl (by decide) c).trans hpk, (hsc.I2 hS 24 (by decide) rfl (by decide) c).trans hsu⟩
                                                                    · omega
                                                                  · refine jv_iconst (q := 445) (v := nI 3) G dX8_met_444 (by decide) rfl ?_
                                                                    refine jv_iret G hr dX8_met_445 (Nat.le_of_ble_eq_true rfl) (Nat.le_of_ble_eq_true rfl) ?_
                                                                    have hz : (m_met (decide (e = ec)) tsC ts pk su 4 ty n s rc) = (3, none) := by
                                                                      unfold m_met m_isC m_bd
                                                                      simp only [*, if_true, if_false, Bool.false_eq_true, reduceIte, Option.map_some, decide_true, decide_false, not_true_eq_false, not_false_eq_true, eq_self, ne_eq, Nat.reduceLT, Nat.lt_irrefl, Nat.reduceEqDiff, and_true, true_and, and_false, false_and, or_true, true_or, or_false, false_or, Bool.or_true, Bool.or_false, Bool.true_or, Bool.false_or, reduceCtorEq] <;> rfl
                                                                    exact ⟨by rw [hz], hrs.tr hsc.rs, by rw [hz]; exact (hsc.x hS 32).trans hran, (hsc.x hS 0).trans hx0, (hsc.I2 hS 22 (by decide) rfl (by decide) c).trans hce, (hsc.I2 hS 23 (by decide) rfl (by decide) c).trans hpk, (hsc.I2 hS 24 (by decide) rfl (by decide) c).trans hsu⟩
                                                              · refine jv_iconst (q := 427) (v := nI 5) G dX8_met_426 (by decide) rfl ?_
                                                                refine jv_iret G hr dX8_met_427 (Nat.le_of_ble_eq_true rfl) (Nat.le_of_ble_eq_true rfl) ?_
                                                                have hz : (m_met (decide (e = ec)) tsC ts pk su 4 ty n s rc) = (5, none) := by
                                                                  unfold m_met m_isC m_bd
                                                                  simp only [*, if_true, if_false, Bool.false_eq_true, reduceIte, Option.map_some, decide_true, decide_false, not_true_eq_false, not_false_eq_true, eq_self, ne_eq, Nat.reduceLT, Nat.lt_irrefl, Nat.reduceEqDiff, and_true, true_and, and_false, false_and, or_true, true_or, or_false, false_or, Bool.or_true, Bool.or_false, Bool.true_or, Bool.false_or, reduceCtorEq] <;> rfl
                                                                exact ⟨by rw [hz], hrs.tr hsc.rs, by rw [hz]; exact (hsc.x hS 32).trans hran, (hsc.x hS 0).trans hx0, (hsc.I2 hS 22 (by decide) rfl (by decide) c).trans hce, (hsc.I2 hS 23 (by decide) rfl (by decide) c).trans hpk, (hsc.I2 hS 24 (by decide) rfl (by decide) c).trans hsu⟩
                                                        · refine jv_bipush (q := 398) (v := nI 6) G dX8_met_396 (by decide) rfl ?_
                                                          refine jv_iret G hr dX8_met_398 (Nat.le_of_ble_eq_true rfl) (Nat.le_of_ble_eq_true rfl) ?_
                                                          have hz : (m_met (decide (e = ec)) tsC ts pk su 4 ty n s rc) = (6, none) := by
                                                            unfold m_met m_isC m_bd
                                                            simp only [*, if_true, if_false, Bool.false_eq_true, reduceIte, Option.map_some, decide_true, decide_false, not_true_eq_false, not_false_eq_true, eq_self, ne_eq, Nat.reduceLT, Nat.lt_irrefl, Nat.reduceEqDiff, and_true, true_and, and_false, false_and, or_true, true_or, or_false, false_or, Bool.or_true, Bool.or_false, Bool.true_or, Bool.false_or, reduceCtorEq] <;> rfl
                                                          exact ⟨by rw [hz], hrs.tr hsc.rs, by rw [hz]; exact (hsc.x hS 32).trans hran, (hsc.x hS 0).trans hx0, (hsc.I2 hS 22 (by decide) rfl (by decide) c).trans hce, (hsc.I2 hS 23 (by decide) rfl (by decide) c).trans hpk, (hsc.I2 hS 24 (by decide) rfl (by decide) c).trans hsu⟩
                                                · omega
                                              · refine jv_iconst (q := 326) (v := nI 4) G dX8_met_325 (by decide) rfl ?_
                                                refine jv_iret G hr dX8_met_326 (Nat.le_of_ble_eq_true rfl) (Nat.le_of_ble_eq_true rfl) ?_
                                                have hz : (m_met (decide (e = ec)) tsC ts pk su 4 ty n s rc) = (4, none) := by
                                                  unfold m_met m_isC m_bd
                                                  simp only [*, if_true, if_false, Bool.false_eq_true, reduceIte, Option.map_some, decide_true, decide_false, not_true_eq_false, not_false_eq_true, eq_self, ne_eq, Nat.reduceLT, Nat.lt_irrefl, Nat.reduceEqDiff, and_true, true_and, and_false, false_and, or_true, true_or, or_false, false_or, Bool.or_true, Bool.or_false, Bool.true_or, Bool.false_or, reduceCtorEq] <;> rfl
                                                exact ⟨by rw [hz], hrs.tr hsc.rs, by rw [hz]; exact (hsc.x hS 32).trans hran, (hsc.x hS 0).trans hx0, (hsc.I2 hS 22 (by decide) rfl (by decide) c).trans hce, (hsc.I2 hS 23 (by decide) rfl (by decide) c).trans hpk, (hsc.I2 hS 24 (by decide) rfl (by decide) c).trans hsu⟩
                                            · omega
                                        · refine jv_iconst (q := 299) (v := nI 3) G dX8_met_298 (by decide) rfl ?_
                                          refine jv_iret G hr dX8_met_299 (Nat.le_of_ble_eq_true rfl) (Nat.le_of_ble_eq_true rfl) ?_
                                          have hz : (m_met (decide (e = ec)) tsC ts pk su 4 ty n s rc) = (3, none) := by
                                            unfold m_met m_isC m_bd
                                            simp only [*, if_true, if_false, Bool.false_eq_true, reduceIte, Option.map_some, decide_true, decide_false, not_true_eq_false, not_false_eq_true, eq_self, ne_eq, Nat.reduceLT, Nat.lt_irrefl, Nat.reduceEqDiff, and_true, true_and, and_false, false_and, or_true, true_or, or_false, false_or, Bool.or_true, Bool.or_false, Bool.true_or, Bool.false_or, reduceCtorEq] <;> rfl
                                          exact ⟨by rw [hz], hrs.tr hsc.rs, by rw [hz]; exact (hsc.x hS 32).trans hran, (hsc.x hS 0).trans hx0, (hsc.I2 hS 22 (by decide) rfl (by decide) c).trans hce, (hsc.I2 hS 23 (by decide) rfl (by decide) c).trans hpk, (hsc.I2 hS 24 (by decide) rfl (by decide) c).trans hsu⟩
                                      · exact absurd c104 (jv_nI_m1 (by omega))
                                  · omega
                                · omega
                              · refine jv_bipush (q := 225) (v := nI 6) G dX8_met_223 (by decide) rfl ?_
                                refine jv_iret G hr dX8_met_225 (Nat.le_of_ble_eq_true rfl) (Nat.le_of_ble_eq_true rfl) ?_
                                have hz : (m_met (decide (e = ec)) tsC ts pk su 4 ty n s rc) = (6, none) := by
                                  unfold m_met m_isC m_bd
                                  simp only [*, if_true, if_false, Bool.false_eq_true, reduceIte, Option.map_some, decide_true, decide_false, not_true_eq_false, not_false_eq_true, eq_self, ne_eq, Nat.reduceLT, Nat.lt_irrefl, Nat.reduceEqDiff, and_true, true_and, and_false, false_and, or_true, true_or, or_false, false_or, Bool.or_true, Bool.or_false, Bool.true_or, Bool.false_or, reduceCtorEq] <;> rfl
                                exact ⟨by rw [hz], hrs.tr hsc.rs, by rw [hz]; exact (hsc.x hS 32).trans hran, (hsc.x hS 0).trans hx0, (hsc.I2 hS 22 (by decide) rfl (by decide) c).trans hce, (hsc.I2 hS 23 (by decide) rfl (by decide) c).trans hpk, (hsc.I2 hS 24 (by decide) rfl (by decide) c).trans hsu⟩
                          · omega
                        · refine jv_iconst (q := 192) (v := nI 3) G dX8_met_191 (by decide) rfl ?_
                          refine jv_iret G hr dX8_met_192 (Nat.le_of_ble_eq_true rfl) (Nat.le_of_ble_eq_true rfl) ?_
                          have hz : (m_met (decide (e = ec)) tsC ts pk su 4 ty n s rc) = (3, none) := by
                            unfold m_met m_isC m_bd
                            simp only [*, if_true, if_false, Bool.false_eq_true, reduceIte, Option.map_some, decide_true, decide_false, not_true_eq_false, not_false_eq_true, eq_self, ne_eq, Nat.reduceLT, Nat.lt_irrefl, Nat.reduceEqDiff, and_true, true_and, and_false, false_and, or_true, true_or, or_false, false_or, Bool.or_true, Bool.or_false, Bool.true_or, Bool.false_or, reduceCtorEq] <;> rfl
                          exact ⟨by rw [hz], hrs.tr hsc.rs, by rw [hz]; exact (hsc.x hS 32).trans hran, (hsc.x hS 0).trans hx0, (hsc.I2 hS 22 (by decide) rfl (by decide) c).trans hce, (hsc.I2 hS 23 (by decide) rfl (by decide) c).trans hpk, (hsc.I2 hS 24 (by decide) rfl (by decide) c).trans hsu⟩
                    · exact absurd c37 (jv_nI_m1 (by omega))
      · exact absurd rfl c25
    · refine jv_aload_n (q := 25) G 1 dX8_met_24 rfl rfl rfl ?_
      refine jv_iload_n (q := 26) G 2 dX8_met_25 rfl rfl rfl ?_
      refine jv_iload_n (q := 27) G 4 dX8_met_26 rfl rfl rfl ?_
      refine jv_iload (q := 29) G 5 dX8_met_27 rfl rfl ?_
      refine jv_iload (q := 31) G 6 dX8_met_29 rfl rfl ?_
      refine jv_iload (q := 33) G 7 dX8_met_31 rfl rfl ?_
      refine jv_callV_I (q := 36) (h1 := h1) (As := [.int (nI c), .int (nI 4), .int ty, .int n, .int s]) (rest := []) (ce' := 0) (sl' := 0) (r := (ffE ec (m_co tsC 4 ty n s))) G Z ml_X8_195 (r_constantOf hlt hsc hS hc hec hEC hce (by decide) hgC) (hsc.S hS).1 dX8_met_33 rfl (by decide) (by decide) (by decide) (by decide) (Nat.le_of_ble_eq_true rfl) rfl rfl rfl rfl ?_
      refine jv_topI (y := (-1)) rfl ?_
      refine jv_goto (q := 40) G dX8_met_36 (by decide) ?_
      refine jv_istore (q := 42) (lo' := [(9, .int (-1)), (8, .int (nI (10 * e + k2))), (0, .ref x), (1, .int (nI c)), (2, .int (nI e)), (3, .int (nI 4)), (4, .int ty), (5, .int n), (6, .int s), (7, .int rc)]) G dX8_met_40 (by decide) rfl rfl ?_
      refine jv_iload (q := 44) G 0 dX8_met_42 rfl rfl ?_
      refine jv_iconst (q := 45) (v := (-1)) G dX8_met_44 (by decide) rfl ?_
      refine jv_icmp_eq (q := 48) (tgt := 111) G dX8_met_45 (by decide) rfl (fun c142 => ?_) (fun c142 => ?_)
      · refine jv_iload_n (q := 112) G 5 dX8_met_111 rfl rfl rfl ?_
        refine jv_iconst (q := 113) (v := nI 2) G dX8_met_112 (by decide) rfl ?_
        refine jv_icmp_eqN (q := 116) (tgt := 121) G dX8_met_113 (by decide) rfl (by omega) (by omega) (fun c143 => ?_) (fun c143 => ?_)
        · omega
        · refine jv_iload_n (q := 117) G 5 dX8_met_116 rfl rfl rfl ?_
          refine jv_iconst (q := 118) (v := nI 4) G dX8_met_117 (by decide) rfl ?_
          refine jv_icmp_neN (q := 121) (tgt := 125) G dX8_met_118 (by decide) rfl (by omega) (by omega) (fun c144 => ?_) (fun c144 => ?_)
          · omega
          · refine jv_iconst (q := 122) (v := nI 1) G dX8_met_121 (by decide) rfl ?_
            refine jv_goto (q := 126) G dX8_met_122 (by decide) ?_
            refine jv_istore (q := 128) (lo' := [(10, .int (nI 1)), (9, .int (-1)), (8, .int (nI (10 * e + k2))), (0, .ref x), (1, .int (nI c)), (2, .int (nI e)), (3, .int (nI 4)), (4, .int ty), (5, .int n), (6, .int s), (7, .int rc)]) G dX8_met_126 (by decide) rfl rfl ?_
            refine jv_iload (q := 130) G 0 dX8_met_128 rfl rfl ?_
            refine jv_if_eqN (q := 133) (tgt := 143) G dX8_met_130 (by decide) rfl (by omega) (fun c145 => ?_) (fun c145 => ?_)
            · omega
            · refine jv_aload_n (q := 134) G 3 dX8_met_133 rfl rfl rfl ?_
              refine jv_iload_n (q := 135) G 5 dX8_met_134 rfl rfl rfl ?_
              refine jv_iload (q := 137) G 10 dX8_met_135 rfl rfl ?_
              refine jv_callV_I (q := 140) (h1 := h1) (As := [.int (nI e), .int rc]) (rest := []) (ce' := 0) (sl' := 0) (r := jv_oN ((m_at ts rc).map (fun k => 10 * e + k))) G Z ml_X8_151 (r_at hlt (hsc.S hS) he (hsc.E hS hE)) (hsc.S hS).1 dX8_met_137 rfl (by decide) (by decide) (by decide) (by decide) (Nat.le_of_ble_eq_true rfl) rfl rfl rfl rfl ?_
              rcases Option.eq_none_or_eq_some (m_at ts rc) with hk148 | ⟨k146, hk148⟩
              · refine jv_topI (y := (-1)) (by rw [hk148]; rfl) ?_
                refine jv_goto (q := 144) G dX8_met_140 (by decide) ?_
                refine jv_istore (q := 146) (lo' := [(11, .int (-1)), (10, .int (nI 1)), (9, .int (-1)), (8, .int (nI (10 * e + k2))), (0, .ref x), (1, .int (nI c)), (2, .int (nI e)), (3, .int (nI 4)), (4, .int ty), (5, .int n), (6, .int s), (7, .int rc)]) G dX8_met_144 (by decide) rfl rfl ?_
                refine jv_iload (q := 148) G 3 dX8_met_146 rfl rfl ?_
                refine jv_iconst (q := 149) (v := (-1)) G dX8_met_148 (by decide) rfl ?_
                refine jv_icmp_eq (q := 152) (tgt := 163) G dX8_met_149 (by decide) rfl (fun c149 => ?_) (fun c149 => ?_)
                · exact absurd c149 (jv_nI_m1 (by omega))
                · refine jv_iload (q := 154) G 1 dX8_met_152 rfl rfl ?_
                  refine jv_if_eqN (q := 157) (tgt := 165) G dX8_met_154 (by decide) rfl (by omega) (fun c150 => ?_) (fun c150 => ?_)
                  · omega
                  · refine jv_iload (q := 159) G 0 dX8_met_157 rfl rfl ?_
                    refine jv_iconst (q := 160) (v := (-1)) G dX8_met_159 (by decide) rfl ?_
                    refine jv_icmp_ne (q := 163) (tgt := 165) G dX8_met_160 (by decide) rfl (fun c151 => ?_) (fun c151 => ?_)
                    · exact absurd rfl c151
                    · refine jv_iconst (q := 164) (v := nI 1) G dX8_met_163 (by decide) rfl ?_
                      refine jv_iret G hr dX8_met_164 (Nat.le_of_ble_eq_true rfl) (Nat.le_of_ble_eq_true rfl) ?_
                      have hz : (m_met (decide (e = ec)) tsC ts pk su 4 ty n s rc) = (1, none) := by
                        unfold m_met m_isC m_bd
                        simp only [*, if_true, if_false, Bool.false_eq_true, reduceIte, Option.map_some, decide_true, decide_false, not_true_eq_false, not_false_eq_true, eq_self, ne_eq, Nat.reduceLT, Nat.lt_irrefl, Nat.reduceEqDiff, and_true, true_and, and_false, false_and, or_true, true_or, or_false, false_or, Bool.or_true, Bool.or_false, Bool.true_or, Bool.false_or, reduceCtorEq] <;> rfl
                      exact ⟨by rw [hz], hrs.tr hsc.rs, by rw [hz]; exact (hsc.x hS 32).trans hran, (hsc.x hS 0).trans hx0, (hsc.I2 hS 22 (by decide) rfl (by decide) c).trans hce, (hsc.I2 hS 23 (by decide) rfl (by decide) c).trans hpk, (hsc.I2 hS 24 (by decide) rfl (by decide) c).trans hsu⟩
              · refine jv_topI (y := nI (10 * e + k146)) (by rw [hk148]; rfl) ?_
                obtain ⟨t147, ht147, nt147, lt147⟩ := m_at_some hk148
                have Tt147 := (hE.2.2 k146 t147 ht147).1
                have Ot147 := (hE.2.2 k146 t147 ht147).2
                have Lt147 := hE.2.1
                have Bt147n := Ot147.1; have Bt147k := Ot147.2.1
                refine jv_goto (q := 144) G dX8_met_140 (by decide) ?_
                refine jv_istore (q := 146) (lo' := [(11, .int (nI (10 * e + k146))), (10, .int (nI 1)), (9, .int (-1)), (8, .int (nI (10 * e + k2))), (0, .ref x), (1, .int (nI c)), (2, .int (nI e)), (3, .int (nI 4)), (4, .int ty), (5, .int n), (6, .int s), (7, .int rc)]) G dX8_met_144 (by decide) rfl rfl ?_
                refine jv_iload (q := 148) G 3 dX8_met_146 rfl rfl ?_
                refine jv_iconst (q := 149) (v := (-1)) G dX8_met_148 (by decide) rfl ?_
                refine jv_icmp_eq (q := 152) (tgt := 163) G dX8_met_149 (by decide) rfl (fun c152 => ?_) (fun c152 => ?_)
                · exact absurd c152 (jv_nI_m1 (by omega))
                · refine jv_iload (q := 154) G 1 dX8_met_152 rfl rfl ?_
                  refine jv_if_eqN (q := 157) (tgt := 165) G dX8_met_154 (by decide) rfl (by omega) (fun c153 => ?_) (fun c153 => ?_)
                  · omega
                  · refine jv_iload (q := 159) G 0 dX8_met_157 rfl rfl ?_
                    refine jv_iconst (q := 160) (v := (-1)) G dX8_met_159 (by decide) rfl ?_
                    refine jv_icmp_ne (q := 163) (tgt := 165) G dX8_met_160 (by decide) rfl (fun c154 => ?_) (fun c154 => ?_)
                    · refine jv_aload_n (q := 166) G 4 dX8_met_165 rfl rfl rfl ?_
                      refine jv_getQ (q := 169) G dX8_met_166 fl_X8_29 rfl (hsc.S hS).1 (rf_p8 (hsc.S hS)) rfl ?_
                      refine jv_iload (q := 171) G 3 dX8_met_169 rfl rfl ?_
                      refine jv_zald (q := 172) G dX8_met_171 (rf_a8 (hsc.S hS)) rfl (by omega) (by decide) (rt_8 (hsc.T hS Tt3)) rfl ?_
                      refine jv_if_neB (q := 175) (tgt := 193) G dX8_met_172 (by decide) rfl (fun c155 => ?_) (fun c155 => ?_)
                      · refine jv_iload_n (q := 194) G 7 dX8_met_193 rfl rfl rfl ?_
                        refine jv_iconst (q := 195) (v := nI 2) G dX8_met_194 (by decide) rfl ?_
                        refine jv_icmp_neN (q := 198) (tgt := 208) G dX8_met_195 (by decide) rfl (by omega) (by omega) (fun c156 => ?_) (fun c156 => ?_)
                        · refine jv_iload_n (q := 209) G 7 dX8_met_208 rfl rfl rfl ?_
                          refine jv_iconst (q := 210) (v := nI 4) G dX8_met_209 (by decide) rfl ?_
                          refine jv_icmp_neN (q := 213) (tgt := 226) G dX8_met_210 (by decide) rfl (by omega) (by omega) (fun c157 => ?_) (fun c157 => ?_)
                          · omega
                          · refine jv_aload_n (q := 214) G 4 dX8_met_213 rfl rfl rfl ?_
                            refine jv_getQ (q := 217) G dX8_met_214 fl_X8_20 rfl (hsc.S hS).1 (rf_p5 (hsc.S hS)) rfl ?_
                            refine jv_iload (q := 219) G 3 dX8_met_217 rfl rfl ?_
                            refine jv_zald (q := 220) G dX8_met_219 (rf_a5 (hsc.S hS)) rfl (by omega) (by decide) (rt_5 (hsc.T hS Tt3)) rfl ?_
                            refine jv_if_neB (q := 223) (tgt := 226) G dX8_met_220 (by decide) rfl (fun c158 => ?_) (fun c158 => ?_)
                            · refine jv_iload_n (q := 227) G 7 dX8_met_226 rfl rfl rfl ?_
                              refine jv_iconst (q := 228) (v := nI 5) G dX8_met_227 (by decide) rfl ?_
                              refine jv_icmp_neN (q := 231) (tgt := 247) G dX8_met_228 (by decide) rfl (by omega) (by omega) (fun c159 => ?_) (fun c159 => ?_)
                              · refine jv_iload_n (q := 248) G 7 dX8_met_247 rfl rfl rfl ?_
                                refine jv_iconst (q := 249) (v := nI 2) G dX8_met_248 (by decide) rfl ?_
                                refine jv_icmp_geN (q := 252) (tgt := 266) G dX8_met_249 (by decide) rfl (by omega) (by omega) (fun c160 => ?_) (fun c160 => ?_)
                                · refine jv_aload_n (q := 267) G 4 dX8_met_266 rfl rfl rfl ?_
                                  refine jv_iload_n (q := 268) G 6 dX8_met_267 rfl rfl rfl ?_
                                  refine jv_iload (q := 270) G 3 dX8_met_268 rfl rfl ?_
                                  refine jv_iload (q := 272) G 9 dX8_met_270 rfl rfl ?_
                                  refine jv_iload (q := 274) G 10 dX8_met_272 rfl rfl ?_
                                  refine jv_callV (q := 277) (As := [.int (nI e), .int (nI (10 * e + k2)), .int n, .int s]) (rest := []) G Z ml_X8_186 (r_findMethod (d := 11) hlt hsc hS he hE hV ht3 (hg k2 (by omega))) (hsc.S hS).1 dX8_met_274 rfl (by decide) (by decide) (by decide) (by decide) (Nat.le_of_ble_eq_true rfl) rfl rfl (fun v162 h161 y163 => ?_) (fun _ _ hx => hx.elim)
                                  obtain ⟨rfl, hsc⟩ := y163
                                  show jv_V E 14 h161 0 0 (jv_Q E (fun v h' => v = some (.int (nI (m_met (decide (e = ec)) tsC ts pk su 4 ty n s rc).1)) ∧ rs x q h h' ∧ jv_I h' x 32 = jv_oN (m_met (decide (e = ec)) tsC ts pk su 4 ty n s rc).2 ∧ jv_I h' x 0 = jv_I h x 0 ∧ jv_I h' (q 22) c = nI ec ∧ jv_I h' (q 23) c = nI pk ∧ jv_I h' (q 24) c = jv_oN su) jv_no 0 0) 277 [(11, .int (nI (10 * e + k146))), (10, .int (nI 1)), (9, .int (-1)), (8, .int (nI (10 * e + k2))), (0, .ref x), (1, .int (nI c)), (2, .int (nI e)), (3, .int (nI 4)), (4, .int ty), (5, .int n), (6, .int s), (7, .int rc)] [.int (ffE e (m_fm ts 11 k2 n s))]
                                  rcases Option.eq_none_or_eq_some (m_fm ts 11 k2 n s) with hp167 | ⟨p164, hp167⟩
                                  · refine jv_topI (y := (-1)) (by rw [hp167]; rfl) ?_
                                    refine jv_istore (q := 279) (lo' := [(12, .int (-1)), (11, .int (nI (10 * e + k146))), (10, .int (nI 1)), (9, .int (-1)), (8, .int (nI (10 * e + k2))), (0, .ref x), (1, .int (nI c)), (2, .int (nI e)), (3, .int (nI 4)), (4, .int ty), (5, .int n), (6, .int s), (7, .int rc)]) G dX8_met_277 (by decide) rfl rfl ?_
                                    refine jv_iload (q := 281) G 0 dX8_met_279 rfl rfl ?_
                                    refine jv_iconst (q := 282) (v := (-1)) G dX8_met_281 (by decide) rfl ?_
                                    refine jv_icmp_ne (q := 285) (tgt := 287) G dX8_met_282 (by decide) rfl (fun c168 => ?_) (fun c168 => ?_)
                                    · exact absurd rfl c168
                                    · refine jv_iconst (q := 286) (v := nI 2) G dX8_met_285 (by decide) rfl ?_
                                      refine jv_iret G hr dX8_met_286 (Nat.le_of_ble_eq_true rfl) (Nat.le_of_ble_eq_true rfl) ?_
                                      have hz : (m_met (decide (e = ec)) tsC ts pk su 4 ty n s rc) = (2, none) := by
                                        unfold m_met m_isC m_bd
                                        simp only [*, if_true, if_false, Bool.false_eq_true, reduceIte, Option.map_some, decide_true, decide_false, not_true_eq_false, not_false_eq_true, eq_self, ne_eq, Nat.reduceLT, Nat.lt_irrefl, Nat.reduceEqDiff, and_true, true_and, and_false, false_and, or_true, true_or, or_false, false_or, Bool.or_true, Bool.or_false, Bool.true_or, Bool.false_or, reduceCtorEq] <;> rfl
                                      exact ⟨by rw [hz], hrs.tr hsc.rs, by rw [hz]; exact (hsc.x hS 32).trans hran, (hsc.x hS 0).trans hx0, (hsc.I2 hS 22 (by decide) rfl (by decide) c).trans hce, (hsc.I2 hS 23 (by decide) rfl (by decide) c).trans hpk, (hsc.I2 hS 24 (by decide) rfl (by decide) c).trans hsu⟩
                                  · refine jv_topI (y := nI (6 * (10 * e + p164.1) + p164.2)) (by rw [hp167]; rfl) ?_
                                    obtain ⟨t165, ht165, m166, hm166⟩ := m_fm_mem hp167
                                    have Tt165 := (hE.2.2 p164.1 t165 ht165).1
                                    have Ot165 := (hE.2.2 p164.1 t165 ht165).2
                                    have Lt165 := hE.2.1
                                    have lt165 := jv_ltGet ht165
                                    have Mm166 := rt_m Tt165 hm166
                                    have Om166 := Ot165.2.2.2.2.2.2 m166 (List.mem_of_getElem? hm166)
                                    have Lm166 := Ot165.2.2.2.2.2.1
                                    have lm166 := jv_ltGet hm166
                                    have Bm166n := Om166.1; have Bm166s := Om166.2.1; have Bm166a := Om166.2.2.1; have Bt165n := Ot165.1; have Bt165k := Ot165.2.1
                                    refine jv_istore (q := 279) (lo' := [(12, .int (nI (6 * (10 * e + p164.1) + p164.2))), (11, .int (nI (10 * e + k146))), (10, .int (nI 1)), (9, .int (-1)), (8, .int (nI (10 * e + k2))), (0, .ref x), (1, .int (nI c)), (2, .int (nI e)), (3, .int (nI 4)), (4, .int ty), (5, .int n), (6, .int s), (7, .int rc)]) G dX8_met_277 (by decide) rfl rfl ?_
                                    refine jv_iload (q := 281) G 0 dX8_met_279 rfl rfl ?_
                                    refine jv_iconst (q := 282) (v := (-1)) G dX8_met_281 (by decide) rfl ?_
                                    refine jv_icmp_ne (q := 285) (tgt := 287) G dX8_met_282 (by decide) rfl (fun c169 => ?_) (fun c169 => ?_)
                                    · refine jv_aload_n (q := 288) G 5 dX8_met_287 rfl rfl rfl ?_
                                      refine jv_iload_n (q := 289) G 6 dX8_met_288 rfl rfl rfl ?_
                                      refine jv_iload_n (q := 290) G 7 dX8_met_289 rfl rfl rfl ?_
                                      refine jv_iload (q := 292) G 0 dX8_met_290 rfl rfl ?_
                                      refine jv_callV_I (q := 295) (h1 := h161) (As := [.int (nI c), .int (nI e), .int (nI (6 * (10 * e + p164.1) + p164.2))]) (rest := []) (ce' := 0) (sl' := 0) (r := jv_bI (m_mr ts pk su t165 m166)) G Z ml_X8_199 (r_mayReach hlt hsc hS hc he hE hV ht165 hm166 hpk hpk5 hsu hsu16) (hsc.S hS).1 dX8_met_292 rfl (by decide) (by decide) (by decide) (by decide) (Nat.le_of_ble_eq_true rfl) rfl rfl rfl rfl ?_
                                      refine jv_if_neB (q := 298) (tgt := 300) G dX8_met_295 (by decide) rfl (fun c170 => ?_) (fun c170 => ?_)
                                      · refine jv_aload_n (q := 301) G 5 dX8_met_300 rfl rfl rfl ?_
                                        refine jv_getQ (q := 304) G dX8_met_301 fl_X8_56 rfl (hsc.S hS).1 (rf_p17 (hsc.S hS)) rfl ?_
                                        refine jv_iload (q := 306) G 0 dX8_met_304 rfl rfl ?_
                                        refine jv_zald (q := 307) G dX8_met_306 (rf_a17 (hsc.S hS)) rfl (by omega) (by decide) (hsc.M hS Mm166).2.2.2.2.1 rfl ?_
                                        refine jv_iload_n (q := 308) G 8 dX8_met_307 rfl rfl rfl ?_
                                        refine jv_iconst (q := 309) (v := nI 1) G dX8_met_308 (by decide) rfl ?_
                                        refine jv_icmp_eqN (q := 312) (tgt := 317) G dX8_met_309 (by decide) rfl (by omega) (by omega) (fun c171 => ?_) (fun c171 => ?_)
                                        · omega
                                        · refine jv_iload_n (q := 313) G 8 dX8_met_312 rfl rfl rfl ?_
                                          refine jv_iconst (q := 314) (v := nI 3) G dX8_met_313 (by decide) rfl ?_
                                          refine jv_icmp_neN (q := 317) (tgt := 321) G dX8_met_314 (by decide) rfl (by omega) (by omega) (fun c172 => ?_) (fun c172 => ?_)
                                          · refine jv_iconst (q := 322) (v := nI 0) G dX8_met_321 (by decide) rfl ?_
                                            refine jv_topI (y := jv_bI false) rfl ?_
                                            refine jv_icmp_eqB (q := 325) (tgt := 327) G dX8_met_322 (by decide) rfl (fun c173 => ?_) (fun c173 => ?_)
                                            · refine jv_iload (q := 329) G 2 dX8_met_327 rfl rfl ?_
                                              refine jv_if_neN (q := 332) (tgt := 357) G dX8_met_329 (by decide) rfl (by omega) (fun c174 => ?_) (fun c174 => ?_)
                                              · refine jv_aload_n (q := 358) G 5 dX8_met_357 rfl rfl rfl ?_
                                                refine jv_getQ (q := 361) G dX8_met_358 fl_X8_20 rfl (hsc.S hS).1 (rf_p5 (hsc.S hS)) rfl ?_
                                                refine jv_iload (q := 363) G 1 dX8_met_361 rfl rfl ?_
                                                refine jv_zald (q := 364) G dX8_met_363 (rf_a5 (hsc.S hS)) rfl (by omega) (by decide) (rt_5 (hsc.T hS Tt147)) rfl ?_
                                                refine jv_if_neB (q := 367) (tgt := 396) G dX8_met_364 (by decide) rfl (fun c175 => ?_) (fun c175 => ?_)
                                                · refine jv_bipush (q := 398) (v := nI 6) G dX8_met_396 (by decide) rfl ?_
                                                  refine jv_iret G hr dX8_met_398 (Nat.le_of_ble_eq_true rfl) (Nat.le_of_ble_eq_true rfl) ?_
                                                  have hz : (m_met (decide (e = ec)) tsC ts pk su 4 ty n s rc) = (6, none) := by
                                                    unfold m_met m_isC m_bd
                                                    simp only [*, if_true, if_false, Bool.false_eq_true, reduceIte, Option.map_some, decide_true, decide_false, not_true_eq_false, not_false_eq_true, eq_self, ne_eq, Nat.reduceLT, Nat.lt_irrefl, Nat.reduceEqDiff, and_true, true_and, and_false, false_and, or_true, true_or, or_false, false_or, Bool.or_true, Bool.or_false, Bool.true_or, Bool.false_or, reduceCtorEq] <;> rfl
                                                  exact ⟨by rw [hz], hrs.tr hsc.rs, by rw [hz]; exact (hsc.x hS 32).trans hran, (hsc.x hS 0).trans hx0, (hsc.I2 hS 22 (by decide) rfl (by decide) c).trans hce, (hsc.I2 hS 23 (by decide) rfl (by decide) c).trans hpk, (hsc.I2 hS 24 (by decide) rfl (by decide) c).trans hsu⟩
                                                · refine jv_aload_n (q := 368) G 5 dX8_met_367 rfl rfl rfl ?_
                                                  refine jv_getQ (q := 371) G dX8_met_368 fl_X8_23 rfl (hsc.S hS).1 (rf_p6 (hsc.S hS)) rfl ?_
                                                  refine jv_iload (q := 373) G 1 dX8_met_371 rfl rfl ?_
                                                  refine jv_zald (q := 374) G dX8_met_373 (rf_a6 (hsc.S hS)) rfl (by omega) (by decide) (rt_6 (hsc.T hS Tt147)) rfl ?_
                                                  refine jv_if_neB (q := 377) (tgt := 396) G dX8_met_374 (by decide) rfl (fun c176 => ?_) (fun c176 => ?_)
                                                  · refine jv_bipush (q := 398) (v := nI 6) G dX8_met_396 (by decide) rfl ?_
                                                    refine jv_iret G hr dX8_met_398 (Nat.le_of_ble_eq_true rfl) (Nat.le_of_ble_eq_true rfl) ?_
                                                    have hz : (m_met (decide (e = ec)) tsC ts pk su 4 ty n s rc) = (6, none) := by
                                                      unfold m_met m_isC m_bd
                                                      simp only [*, if_true, if_false, Bool.false_eq_true, reduceIte, Option.map_some, decide_true, decide_false, not_true_eq_false, not_false_eq_true, eq_self, ne_eq, Nat.reduceLT, Nat.lt_irrefl, Nat.reduceEqDiff, and_true, true_and, and_false, false_and, or_true, true_or, or_false, false_or, Bool.or_true, Bool.or_false, Bool.true_or, Bool.false_or, reduceCtorEq] <;> rfl
                                                    exact ⟨by rw [hz], hrs.tr hsc.rs, by rw [hz]; exact (hsc.x hS 32).trans hran, (hsc.x hS 0).trans hx0, (hsc.I2 hS 22 (by decide) rfl (by decide) c).trans hce, (hsc.I2 hS 23 (by decide) rfl (by decide) c).trans hpk, (hsc.I2 hS 24 (by decide) rfl (by decide) c).trans hsu⟩
                                                  · refine jv_iload (q := 379) G 1 dX8_met_377 rfl rfl ?_
                                                    refine jv_iload (q := 381) G 4 dX8_met_379 rfl rfl ?_
                                                    refine jv_icmp_eqN (q := 384) (tgt := 399) G dX8_met_381 (by decide) rfl (by omega) (by omega) (fun c177 => ?_) (fun c177 => ?_)
                                                    · have Kc177 : (k146 = k2) = True := eq_true (by omega)
                                                      refine jv_aload_n (q := 400) G 5 dX8_met_399 rfl rfl rfl ?_
                                                      refine jv_iload_n (q := 401) G 7 dX8_met_400 rfl rfl rfl ?_
                                                      refine jv_iload (q := 403) G 0 dX8_met_401 rfl rfl ?_
                                                      refine jv_iload (q := 405) G 1 dX8_met_403 rfl rfl ?_
                                                      refine jv_callV (q := 408) (As := [.int (nI e), .int (nI (6 * (10 * e + p164.1) + p164.2)), .int (nI (10 * e + k146))]) (rest := []) G Z ml_X8_189 (r_selected (d := 11) hlt hsc hS he hE hV ht165 hm166 ht147 (hg k146 (by omega))) (hsc.S hS).1 dX8_met_405 rfl (by decide) (by decide) (by decide) (by decide) (Nat.le_of_ble_eq_true rfl) rfl rfl (fun v179 h178 y180 => ?_) (fun _ _ hx => hx.elim)
                                                      obtain ⟨rfl, hsc⟩ := y180
                                                      show jv_V E 14 h178 0 0 (jv_Q E (fun v h' => v = some (.int (nI (m_met (decide (e = ec)) tsC ts pk su 4 ty n s rc).1)) ∧ rs x q h h' ∧ jv_I h' x 32 = jv_oN (m_met (decide (e = ec)) tsC ts pk su 4 ty n s rc).2 ∧ jv_I h' x 0 = jv_I h x 0 ∧ jv_I h' (q 22) c = nI ec ∧ jv_I h' (q 23) c = nI pk ∧ jv_I h' (q 24) c = jv_oN su) jv_no 0 0) 408 [(12, .int (nI (6 * (10 * e + p164.1) + p164.2))), (11, .int (nI (10 * e + k146))), (10, .int (nI 1)), (9, .int (-1)), (8, .int (nI (10 * e + k2))), (0, .ref x), (1, .int (nI c)), (2, .int (nI e)), (3, .int (nI 4)), (4, .int ty), (5, .int n), (6, .int s), (7, .int rc)] [.int (ffE e (m_sl ts 11 t165 m166 p164.1 p164.2 k146))]
                                                      rcases Option.eq_none_or_eq_some (m_sl ts 11 t165 m166 p164.1 p164.2 k146) with hp184 | ⟨p181, hp184⟩
                                                      · refine jv_topI (y := (-1)) (by rw [hp184]; rfl) ?_
                                                        refine jv_istore (q := 410) (lo' := [(13, .int (-1)), (12, .int (nI (6 * (10 * e + p164.1) + p164.2))), (11, .int (nI (10 * e + k146))), (10, .int (nI 1)), (9, .int (-1)), (8, .int (nI (10 * e + k2))), (0, .ref x), (1, .int (nI c)), (2, .int (nI e)), (3, .int (nI 4)), (4, .int ty), (5, .int n), (6, .int s), (7, .int rc)]) G dX8_met_408 (by decide) rfl rfl ?_
                                                        refine jv_iload (q := 412) G 0 dX8_met_410 rfl rfl ?_
                                                        refine jv_iconst (q := 413) (v := (-1)) G dX8_met_412 (by decide) rfl ?_
                                                        refine jv_icmp_eq (q := 416) (tgt := 426) G dX8_met_413 (by decide) rfl (fun c185 => ?_) (fun c185 => ?_)
                                                        · refine jv_iconst (q := 427) (v := nI 5) G dX8_met_426 (by decide) rfl ?_
                                                          refine jv_iret G hr dX8_met_427 (Nat.le_of_ble_eq_true rfl) (Nat.le_of_ble_eq_true rfl) ?_
                                                          have hz : (m_met (decide (e = ec)) tsC ts pk su 4 ty n s rc) = (5, none) := by
                                                            unfold m_met m_isC m_bd
                                                            simp only [*, if_true, if_false, Bool.false_eq_true, reduceIte, Option.map_some, decide_true, decide_false, not_true_eq_false, not_false_eq_true, eq_self, ne_eq, Nat.reduceLT, Nat.lt_irrefl, Nat.reduceEqDiff, and_true, true_and, and_false, false_and, or_true, true_or, or_false, false_or, Bool.or_true, Bool.or_false, Bool.true_or, Bool.false_or, reduceCtorEq] <;> rfl
                                                          exact ⟨by rw [hz], hrs.tr hsc.rs, by rw [hz]; exact (hsc.x hS 32).trans hran, (hsc.x hS 0).trans hx0, (hsc.I2 hS 22 (by decide) rfl (by decide) c).trans hce, (hsc.I2 hS 23 (by decide) rfl (by decide) c).trans hpk, (hsc.I2 hS 24 (by decide) rfl (by decide) c).trans hsu⟩
                                                        · exact absurd rfl c185
                                                      · refine jv_topI (y := nI (6 * (10 * e + p181.1) + p181.2)) (by rw [hp184]; rfl) ?_
                                                        obtain ⟨t182, ht182, m183, hm183⟩ := m_sl_mem ht165 hm166 hp184
                                                        have Tt182 := (hE.2.2 p181.1 t182 ht182).1
                                                        have Ot182 := (hE.2.2 p181.1 t182 ht182).2
                                                        have Lt182 := hE.2.1
                                                        have lt182 := jv_ltGet ht182
                                                        have Mm183 := rt_m Tt182 hm183
                                                        have Om183 := Ot182.2.2.2.2.2.2 m183 (List.mem_of_getElem? hm183)
                                                        have Lm183 := Ot182.2.2.2.2.2.1
                                                        have lm183 := jv_ltGet hm183
                                                        have Bm183n := Om183.1; have Bm183s := Om183.2.1; have Bm183a := Om183.2.2.1; have Bt182n := Ot182.1; have Bt182k := Ot182.2.1
                                                        refine jv_istore (q := 410) (lo' := [(13, .int (nI (6 * (10 * e + p181.1) + p181.2))), (12, .int (nI (6 * (10 * e + p164.1) + p164.2))), (11, .int (nI (10 * e + k146))), (10, .int (nI 1)), (9, .int (-1)), (8, .int (nI (10 * e + k2))), (0, .ref x), (1, .int (nI c)), (2, .int (nI e)), (3, .int (nI 4)), (4, .int ty), (5, .int n), (6, .int s), (7, .int rc)]) G dX8_met_408 (by decide) rfl rfl ?_
                                                        refine jv_iload (q := 412) G 0 dX8_met_410 rfl rfl ?_
                                                        refine jv_iconst (q := 413) (v := (-1)) G dX8_met_412 (by decide) rfl ?_
                                                        refine jv_icmp_eq (q := 416) (tgt := 426) G dX8_met_413 (by decide) rfl (fun c186 => ?_) (fun c186 => ?_)
                                                        · exact absurd c186 (jv_nI_m1 (by omega))
                                                        · refine jv_aload_n (q := 417) G 6 dX8_met_416 rfl rfl rfl ?_
                                                          refine jv_getQ (q := 420) G dX8_met_417 fl_X8_59 rfl (hsc.S hS).1 (rf_p18 (hsc.S hS)) rfl ?_
                                                          refine jv_iload (q := 422) G 0 dX8_met_420 rfl rfl ?_
                                                          refine jv_iald (q := 423) G dX8_met_422 (rf_a18 (hsc.S hS)) rfl (by omega) (by decide) (hsc.M hS Mm183).2.2.2.2.2.1 rfl ?_
                                                          refine jv_if_ge (q := 426) (tgt := 428) G dX8_met_423 (by decide) rfl (fun c187 => ?_) (fun c187 => ?_)
                                                          · refine jv_iload_n (q := 429) G 9 dX8_met_428 rfl rfl rfl ?_
                                                            refine jv_iconst (q := 430) (v := nI 4) G dX8_met_429 (by decide) rfl ?_
                                                            refine jv_icmp_neN (q := 433) (tgt := 446) G dX8_met_430 (by decide) rfl (by omega) (by omega) (fun c188 => ?_) (fun c188 => ?_)
                                                            · omega
                                                            · refine jv_aload_n (q := 434) G 6 dX8_met_433 rfl rfl rfl ?_
                                                              refine jv_getQ (q := 437) G dX8_met_434 fl_X8_53 rfl (hsc.S hS).1 (rf_p16 (hsc.S hS)) rfl ?_
                                                              refine jv_iload (q := 439) G 0 dX8_met_437 rfl rfl ?_
                                                              refine jv_iald (q := 440) G dX8_met_439 (rf_a16 (hsc.S hS)) rfl (by omega) (by decide) (hsc.M hS Mm183).2.2.2.1 rfl ?_
                                                              refine jv_iconst (q := 441) (v := nI 3) G dX8_met_440 (by decide) rfl ?_
                                                              refine jv_icmp_eqN (q := 444) (tgt := 446) G dX8_met_441 (by decide) rfl (by omega) (by omega) (fun c189 => ?_) (fun c189 => ?_)
                                                              · refine jv_aload_n (q := 447) G 6 dX8_met_446 rfl rfl rfl ?_
                                                                refine jv_aload_n (q := 448) G 6 dX8_met_447 rfl rfl rfl ?_
                                                                refine jv_getQ (q := 451) G dX8_met_448 fl_X8_17 rfl (hsc.S hS).1 (rf_p4 (hsc.S hS)) rfl ?_
                                                                refine jv_iload (q := 453) G 0 dX8_met_451 rfl rfl ?_
                                                                refine jv_callS_I (q := 456) (h1 := h178) (As := [.int (nI (6 * (10 * e + p181.1) + p181.2))]) (rest := [.ref (q 4), .ref x]) (ce' := 0) (sl' := 0) (r := nI ((6 * (10 * e + p181.1) + p181.2) / 6)) G Z ml_X8_183 (r_typeOf hlt (by omega)) dX8_met_453 rfl (by decide) (by decide) (by decide) (by decide) (Nat.le_of_ble_eq_true rfl) rfl rfl rfl rfl ?_
                                                                refine jv_topI (y := nI (10 * e + p181.1)) (congrArg nI (by omega)) ?_
                                                                refine jv_iald (q := 457) G dX8_met_456 (rf_a4 (hsc.S hS)) rfl (by omega) (by decide) (rt_4 (hsc.T hS Tt182)) rfl ?_
                                                                refine jv_putI (q := 460) G dX8_met_457 fl_X8_192 rfl (hsc.S hS).1 rfl ?_
                                                                have hr1 : rs x q h178 (jv_wI h178 x 32 (nI (mt_n t182))) := rs.rf.wI (nI (mt_n t182)) (Or.inl ⟨rfl, Or.inr (Or.inl rfl)⟩)
                                                                have hran : jv_I (jv_wI h178 x 32 (nI (mt_n t182))) x 32 = (nI (mt_n t182)) := jv_I_self _ _ _ _
                                                                have hSb := hsc.S hS
                                                                have hE := hr1.E hSb (hsc.E hS hE)
                                                                have hV := hr1.V hSb (hsc.V hS hV)
                                                                have hEC := hr1.E hSb (hsc.E hS hEC)
                                                                have hVC := hr1.V hSb (hsc.V hS hVC)
                                                                have hce := (wx_I hSb 22 (by decide) rfl 32 c (nI (mt_n t182))).trans ((hsc.I2 hS 22 (by decide) rfl (by decide) c).trans hce)
                                                                have hpk := (wx_I hSb 23 (by decide) rfl 32 c (nI (mt_n t182))).trans ((hsc.I2 hS 23 (by decide) rfl (by decide) c).trans hpk)
                                                                have hsu := (wx_I hSb 24 (by decide) rfl 32 c (nI (mt_n t182))).trans ((hsc.I2 hS 24 (by decide) rfl (by decide) c).trans hsu)
                                                                have hrs := (hrs.tr hsc.rs).tr hr1
                                                                have hx0 : jv_I (jv_wI h178 x 32 (nI (mt_n t182))) x 0 = jv_I h x 0 := by rw [jv_I_wI, if_neg (fun z => by cases z.2)] <;> exact (hsc.x hS 0).trans hx0
                                                                have hS := hr1.S hSb
                                                                generalize jv_wI h178 x 32 (nI (mt_n t182)) = h190 at hran hx0 hE hV hEC hVC hce hpk hsu hrs hS ⊢
                                                                have hsc : sc x q h190 h190 := sc.rf
                                                                refine jv_iload_n (q := 461) G 8 dX8_met_460 rfl rfl rfl ?_
                                                                refine jv_aload_n (q := 462) G 6 dX8_met_461 rfl rfl rfl ?_
                                                                refine jv_getQ (q := 465) G dX8_met_462 fl_X8_68 rfl (hsc.S hS).1 (rf_p22 (hsc.S hS)) rfl ?_
                                                                refine jv_iload_n (q := 466) G 7 dX8_met_465 rfl rfl rfl ?_
                                                                refine jv_iald (q := 467) G dX8_met_466 (rf_a22 (hsc.S hS)) rfl (by omega) (by decide) ((hsc.I2 hS 22 (by decide) rfl (by decide) c).trans hce) rfl ?_
                                                                refine jv_icmp_eqN (q := 470) (tgt := 495) G dX8_met_467 (by decide) rfl (by omega) (by omega) (fun c191 => ?_) (fun c191 => ?_)
                                                                · omega
                                                                · refine jv_aload_n (q := 471) G 6 dX8_met_470 rfl rfl rfl ?_
                                                                  refine jv_getI (q := 474) G dX8_met_471 fl_X8_192 rfl (hsc.S hS).1 ((hsc.x hS 32).trans hran) rfl ?_
                                                                  refine jv_aload_n (q := 475) G 6 dX8_met_474 rfl rfl rfl ?_
                                                                  refine jv_iload_n (q := 476) G 7 dX8_met_475 rfl rfl rfl ?_
                                                                  refine jv_iload (q := 478) G 10 dX8_met_476 rfl rfl ?_
                                                                  refine jv_iload (q := 480) G 11 dX8_met_478 rfl rfl ?_
                                                                  refine jv_iload (q := 482) G 12 dX8_met_480 rfl rfl ?_
                                                                  refine jv_iload (q := 484) G 13 dX8_met_482 rfl rfl ?_
                                                                  refine jv_callV (q := 487) (As := [.int (nI c), .int ty, .int n, .int s, .int rc]) (rest := [.int (nI (mt_n t182))]) G Z ml_X8_202 (r_ownRun hlt hsc hS hc hec hEC hVC hce hgC) (hsc.S hS).1 dX8_met_484 rfl (by decide) (by decide) (by decide) (by decide) (Nat.le_of_ble_eq_true rfl) rfl rfl (fun v193 h192 y194 => ?_) (fun _ _ hx => hx.elim)
                                                                  obtain ⟨rfl, hsc⟩ := y194
                                                                  show jv_V E 14 h192 0 0 (jv_Q E (fun v h' => v = some (.int (nI (m_met (decide (e = ec)) tsC ts pk su 4 ty n s rc).1)) ∧ rs x q h h' ∧ jv_I h' x 32 = jv_oN (m_met (decide (e = ec)) tsC ts pk su 4 ty n s rc).2 ∧ jv_I h' x 0 = jv_I h x 0 ∧ jv_I h' (q 22) c = nI ec ∧ jv_I h' (q 23) c = nI pk ∧ jv_I h' (q 24) c = jv_oN su) jv_no 0 0) 487 [(13, .int (nI (6 * (10 * e + p181.1) + p181.2))), (12, .int (nI (6 * (10 * e + p164.1) + p164.2))), (11, .int (nI (10 * e + k146))), (10, .int (nI 1)), (9, .int (-1)), (8, .int (nI (10 * e + k2))), (0, .ref x), (1, .int (nI c)), (2, .int (nI e)), (3, .int (nI 4)), (4, .int ty), (5, .int n), (6, .int s), (7, .int rc)] [.int (jv_oN (m_orn tsC ty n s rc)), .int (nI (mt_n t182))]
                                                                  refine jv_icmp_eq (q := 490) (tgt := 495) G dX8_met_487 (by decide) rfl (fun c195 => ?_) (fun c195 => ?_)
                                                                  · refine jv_iconst (q := 496) (v := nI 0) G dX8_met_495 (by decide) rfl ?_
                                                                    refine jv_iret G hr dX8_met_496 (Nat.le_of_ble_eq_true rfl) (Nat.le_of_ble_eq_true rfl) ?_
                                                                    have hz : (m_met (decide (e = ec)) tsC ts pk su 4 ty n s rc) = (0, some (mt_n t182)) := by
                                                                      unfold m_met m_isC m_bd
                                                                      simp only [*, if_true, if_false, Bool.false_eq_true, reduceIte, Option.map_some, decide_true, decide_false, not_true_eq_false, not_false_eq_true, eq_self, ne_eq, Nat.reduceLT, Nat.lt_irrefl, Nat.reduceEqDiff, and_true, true_and, and_false, false_and, or_true, true_or, or_false, false_or, Bool.or_true, Bool.or_false, Bool.true_or, Bool.false_or, reduceCtorEq] <;> rfl
                                                                    exact ⟨by rw [hz], hrs.tr hsc.rs, by rw [hz]; exact (hsc.x hS 32).trans hran, (hsc.x hS 0).trans hx0, (hsc.I2 hS 22 (by decide) rfl (by decide) c).trans hce, (hsc.I2 hS 23 (by decide) rfl (by decide) c).trans hpk, (hsc.I2 hS 24 (by decide) rfl (by decide) c).trans hsu⟩
                                                                  · refine jv_bipush (q := 492) (v := nI 8) G dX8_met_490 (by decide) rfl ?_
                                                                    refine jv_goto (q := 496) G dX8_met_492 (by decide) ?_
                                                                    refine jv_iret G hr dX8_met_496 (Nat.le_of_ble_eq_true rfl) (Nat.le_of_ble_eq_true rfl) ?_
                                                                    have hz : (m_met (decide (e = ec)) tsC ts pk su 4 ty n s rc) = (8, some (mt_n t182)) := by
                                                                      unfold m_met m_isC m_bd
                                                                      simp only [*, if_true, if_false, Bool.false_eq_true, reduceIte, Option.map_some, decide_true, decide_false, not_true_eq_false, not_false_eq_true, eq_self, ne_eq, Nat.reduceLT, Nat.lt_irrefl, Nat.reduceEqDiff, and_true, true_and, and_false, false_and, or_true, true_or, or_false, false_or, Bool.or_true, Bool.or_false, Bool.true_or, Bool.false_or, reduceCtorEq] <;> rfl
                                                                    exact ⟨by rw [hz], hrs.tr hsc.rs, by rw [hz]; exact (hsc.x hS 32).trans hran, (hsc.x hS 0).trans hx0, (hsc.I2 hS 22 (by decide) rfl (by decide) c).trans hce, (hsc.I2 hS 23 (by decide) rfl (by decide) c).trans hpk, (hsc.I2 hS 24 (by decide) rfl (by decide) c).trans hsu⟩
                                                              · refine jv_iconst (q := 445) (v := nI 3) G dX8_met_444 (by decide) rfl ?_
                                                                refine jv_iret G hr dX8_met_445 (Nat.le_of_ble_eq_true rfl) (Nat.le_of_ble_eq_true rfl) ?_
                                                                have hz : (m_met (decide (e = ec)) tsC ts pk su 4 ty n s rc) = (3, none) := by
                                                                  unfold m_met m_isC m_bd
                                                                  simp only [*, if_true, if_false, Bool.false_eq_true, reduceIte, Option.map_some, decide_true, decide_false, not_true_eq_false, not_false_eq_true, eq_self, ne_eq, Nat.reduceLT, Nat.lt_irrefl, Nat.reduceEqDiff, and_true, true_and, and_false, false_and, or_true, true_or, or_false, false_or, Bool.or_true, Bool.or_false, Bool.true_or, Bool.false_or, reduceCtorEq] <;> rfl
                                                                exact ⟨by rw [hz], hrs.tr hsc.rs, by rw [hz]; exact (hsc.x hS 32).trans hran, (hsc.x hS 0).trans hx0, (hsc.I2 hS 22 (by decide) rfl (by decide) c).trans hce, (hsc.I2 hS 23 (by decide) rfl (by decide) c).trans hpk, (hsc.I2 hS 24 (by decide) rfl (by decide) c).trans hsu⟩
                                                          · refine jv_iconst (q := 427) (v := nI 5) G dX8_met_426 (by decide) rfl ?_
                                                            refine jv_iret G hr dX8_met_427 (Nat.le_of_ble_eq_true rfl) (Nat.le_of_ble_eq_true rfl) ?_
                                                            have hz : (m_met (decide (e = ec)) tsC ts pk su 4 ty n s rc) = (5, none) := by
                                                              unfold m_met m_isC m_bd
                                                              simp only [*, if_true, if_false, Bool.false_eq_true, reduceIte, Option.map_some, decide_true, decide_false, not_true_eq_false, not_false_eq_true, eq_self, ne_eq, Nat.reduceLT, Nat.lt_irrefl, Nat.reduceEqDiff, and_true, true_and, and_false, false_and, or_true, true_or, or_false, false_or, Bool.or_true, Bool.or_false, Bool.true_or, Bool.false_or, reduceCtorEq] <;> rfl
                                                            exact ⟨by rw [hz], hrs.tr hsc.rs, by rw [hz]; exact (hsc.x hS 32).trans hran, (hsc.x hS 0).trans hx0, (hsc.I2 hS 22 (by decide) rfl (by decide) c).trans hce, (hsc.I2 hS 23 (by decide) rfl (by decide) c).trans hpk, (hsc.I2 hS 24 (by decide) rfl (by decide) c).trans hsu⟩
                                                    · have Kc177 : (k146 = k2) = False := eq_false (by omega)
                                                      refine jv_aload_n (q := 385) G 5 dX8_met_384 rfl rfl rfl ?_
                                                      refine jv_iload_n (q := 386) G 7 dX8_met_385 rfl rfl rfl ?_
                                                      refine jv_iload (q := 388) G 9 dX8_met_386 rfl rfl ?_
                                                      refine jv_iload (q := 390) G 12 dX8_met_388 rfl rfl ?_
                                                      refine jv_callV_I (q := 393) (h1 := h161) (As := [.int (nI e), .int ty, .int rc]) (rest := []) (ce' := 0) (sl' := 0) (r := jv_bI (m_isA ts ty rc)) G Z ml_X8_167 (r_isAbove hlt hsc hS he hV) (hsc.S hS).1 dX8_met_390 rfl (by decide) (by decide) (by decide) (by decide) (Nat.le_of_ble_eq_true rfl) rfl rfl rfl rfl ?_
                                                      refine jv_if_neB (q := 396) (tgt := 399) G dX8_met_393 (by decide) rfl (fun c196 => ?_) (fun c196 => ?_)
                                                      · refine jv_aload_n (q := 400) G 5 dX8_met_399 rfl rfl rfl ?_
                                                        refine jv_iload_n (q := 401) G 7 dX8_met_400 rfl rfl rfl ?_
                                                        refine jv_iload (q := 403) G 0 dX8_met_401 rfl rfl ?_
                                                        refine jv_iload (q := 405) G 1 dX8_met_403 rfl rfl ?_
                                                        refine jv_callV (q := 408) (As := [.int (nI e), .int (nI (6 * (10 * e + p164.1) + p164.2)), .int (nI (10 * e + k146))]) (rest := []) G Z ml_X8_189 (r_selected (d := 11) hlt hsc hS he hE hV ht165 hm166 ht147 (hg k146 (by omega))) (hsc.S hS).1 dX8_met_405 rfl (by decide) (by decide) (by decide) (by decide) (Nat.le_of_ble_eq_true rfl) rfl rfl (fun v198 h197 y199 => ?_) (fun _ _ hx => hx.elim)
                                                        obtain ⟨rfl, hsc⟩ := y199
                                                        show jv_V E 14 h197 0 0 (jv_Q E (fun v h' => v = some (.int (nI (m_met (decide (e = ec)) tsC ts pk su 4 ty n s rc).1)) ∧ rs x q h h' ∧ jv_I h' x 32 = jv_oN (m_met (decide (e = ec)) tsC ts pk su 4 ty n s rc).2 ∧ jv_I h' x 0 = jv_I h x 0 ∧ jv_I h' (q 22) c = nI ec ∧ jv_I h' (q 23) c = nI pk ∧ jv_I h' (q 24) c = jv_oN su) jv_no 0 0) 408 [(12, .int (nI (6 * (10 * e + p164.1) + p164.2))), (11, .int (nI (10 * e + k146))), (10, .int (nI 1)), (9, .int (-1)), (8, .int (nI (10 * e + k2))), (0, .ref x), (1, .int (nI c)), (2, .int (nI e)), (3, .int (nI 4)), (4, .int ty), (5, .int n), (6, .int s), (7, .int rc)] [.int (ffE e (m_sl ts 11 t165 m166 p164.1 p164.2 k146))]
                                                        rcases Option.eq_none_or_eq_some (m_sl ts 11 t165 m166 p164.1 p164.2 k146) with hp203 | ⟨p200, hp203⟩
                                                        · refine jv_topI (y := (-1)) (by rw [hp203]; rfl) ?_
                                                          refine jv_istore (q := 410) (lo' := [(13, .int (-1)), (12, .int (nI (6 * (10 * e + p164.1) + p164.2))), (11, .int (nI (10 * e + k146))), (10, .int (nI 1)), (9, .int (-1)), (8, .int (nI (10 * e + k2))), (0, .ref x), (1, .int (nI c)), (2, .int (nI e)), (3, .int (nI 4)), (4, .int ty), (5, .int n), (6, .int s), (7, .int rc)]) G dX8_met_408 (by decide) rfl rfl ?_
                                                          refine jv_iload (q := 412) G 0 dX8_met_410 rfl rfl ?_
                                                          refine jv_iconst (q := 413) (v := (-1)) G dX8_met_412 (by decide) rfl ?_
                                                          refine jv_icmp_eq (q := 416) (tgt := 426) G dX8_met_413 (by decide) rfl (fun c204 => ?_) (fun c204 => ?_)
                                                          · refine jv_iconst (q := 427) (v := nI 5) G dX8_met_426 (by decide) rfl ?_
                                                            refine jv_iret G hr dX8_met_427 (Nat.le_of_ble_eq_true rfl) (Nat.le_of_ble_eq_true rfl) ?_
                                                            have hz : (m_met (decide (e = ec)) tsC ts pk su 4 ty n s rc) = (5, none) := by
                                                              unfold m_met m_isC m_bd
                                                              simp only [*, if_true, if_false, Bool.false_eq_true, reduceIte, Option.map_some, decide_true, decide_false, not_true_eq_false, not_false_eq_true, eq_self, ne_eq, Nat.reduceLT, Nat.lt_irrefl, Nat.reduceEqDiff, and_true, true_and, and_false, false_and, or_true, true_or, or_false, false_or, Bool.or_true, Bool.or_false, Bool.true_or, Bool.false_or, reduceCtorEq] <;> rfl
                                                            exact ⟨by rw [hz], hrs.tr hsc.rs, by rw [hz]; exact (hsc.x hS 32).trans hran, (hsc.x hS 0).trans hx0, (hsc.I2 hS 22 (by decide) rfl (by decide) c).trans hce, (hsc.I2 hS 23 (by decide) rfl (by decide) c).trans hpk, (hsc.I2 hS 24 (by decide) rfl (by decide) c).trans hsu⟩
                                                          · exact absurd rfl c204
                                                        · refine jv_topI (y := nI (6 * (10 * e + p200.1) + p200.2)) (by rw [hp203]; rfl) ?_
                                                          obtain ⟨t201, ht201, m202, hm202⟩ := m_sl_mem ht165 hm166 hp203
                                                          have Tt201 := (hE.2.2 p200.1 t201 ht201).1
                                                          have Ot201 := (hE.2.2 p200.1 t201 ht201).2
                                                          have Lt201 := hE.2.1
                                                          have lt201 := jv_ltGet ht201
                                                          have Mm202 := rt_m Tt201 hm202
                                                          have Om202 := Ot201.2.2.2.2.2.2 m202 (List.mem_of_getElem? hm202)
                                                          have Lm202 := Ot201.2.2.2.2.2.1
                                                          have lm202 := jv_ltGet hm202
                                                          have Bm202n := Om202.1; have Bm202s := Om202.2.1; have Bm202a := Om202.2.2.1; have Bt201n := Ot201.1; have Bt201k := Ot201.2.1
                                                          refine jv_istore (q := 410) (lo' := [(13, .int (nI (6 * (10 * e + p200.1) + p200.2))), (12, .int (nI (6 * (10 * e + p164.1) + p164.2))), (11, .int (nI (10 * e + k146))), (10, .int (nI 1)), (9, .int (-1)), (8, .int (nI (10 * e + k2))), (0, .ref x), (1, .int (nI c)), (2, .int (nI e)), (3, .int (nI 4)), (4, .int ty), (5, .int n), (6, .int s), (7, .int rc)]) G dX8_met_408 (by decide) rfl rfl ?_
                                                          refine jv_iload (q := 412) G 0 dX8_met_410 rfl rfl ?_
                                                          refine jv_iconst (q := 413) (v := (-1)) G dX8_met_412 (by decide) rfl ?_
                                                          refine jv_icmp_eq (q := 416) (tgt := 426) G dX8_met_413 (by decide) rfl (fun c205 => ?_) (fun c205 => ?_)
                                                          · exact absurd c205 (jv_nI_m1 (by omega))
                                                          · refine jv_aload_n (q := 417) G 6 dX8_met_416 rfl rfl rfl ?_
                                                            refine jv_getQ (q := 420) G dX8_met_417 fl_X8_59 rfl (hsc.S hS).1 (rf_p18 (hsc.S hS)) rfl ?_
                                                            refine jv_iload (q := 422) G 0 dX8_met_420 rfl rfl ?_
                                                            refine jv_iald (q := 423) G dX8_met_422 (rf_a18 (hsc.S hS)) rfl (by omega) (by decide) (hsc.M hS Mm202).2.2.2.2.2.1 rfl ?_
                                                            refine jv_if_ge (q := 426) (tgt := 428) G dX8_met_423 (by decide) rfl (fun c206 => ?_) (fun c206 => ?_)
                                                            · refine jv_iload_n (q := 429) G 9 dX8_met_428 rfl rfl rfl ?_
                                                              refine jv_iconst (q := 430) (v := nI 4) G dX8_met_429 (by decide) rfl ?_
                                                              refine jv_icmp_neN (q := 433) (tgt := 446) G dX8_met_430 (by decide) rfl (by omega) (by omega) (fun c207 => ?_) (fun c207 => ?_)
                                                              · omega
                                                              · refine jv_aload_n (q := 434) G 6 dX8_met_433 rfl rfl rfl ?_
                                                                refine jv_getQ (q := 437) G dX8_met_434 fl_X8_53 rfl (hsc.S hS).1 (rf_p16 (hsc.S hS)) rfl ?_
                                                                refine jv_iload (q := 439) G 0 dX8_met_437 rfl rfl ?_
                                                                refine jv_iald (q := 440) G dX8_met_439 (rf_a16 (hsc.S hS)) rfl (by omega) (by decide) (hsc.M hS Mm202).2.2.2.1 rfl ?_
                                                                refine jv_iconst (q := 441) (v := nI 3) G dX8_met_440 (by decide) rfl ?_
                                                                refine jv_icmp_eqN (q := 444) (tgt := 446) G dX8_met_441 (by decide) rfl (by omega) (by omega) (fun c208 => ?_) (fun c208 => ?_)
                                                                · refine jv_aload_n (q := 447) G 6 dX8_met_446 rfl rfl rfl ?_
                                                                  refine jv_aload_n (q := 448) G 6 dX8_met_447 rfl rfl rfl ?_
                                                                  refine jv_getQ (q := 451) G dX8_met_448 fl_X8_17 rfl (hsc.S hS).1 (rf_p4 (hsc.S hS)) rfl ?_
                                                                  refine jv_iload (q := 453) G 0 dX8_met_451 rfl rfl ?_
                                                                  refine jv_callS_I (q := 456) (h1 := h197) (As := [.int (nI (6 * (10 * e + p200.1) + p200.2))]) (rest := [.ref (q 4), .ref x]) (ce' := 0) (sl' := 0) (r := nI ((6 * (10 * e + p200.1) + p200.2) / 6)) G Z ml_X8_183 (r_typeOf hlt (by omega)) dX8_met_453 rfl (by decide) (by decide) (by decide) (by decide) (Nat.le_of_ble_eq_true rfl) rfl rfl rfl rfl ?_
                                                                  refine jv_topI (y := nI (10 * e + p200.1)) (congrArg nI (by omega)) ?_
                                                                  refine jv_iald (q := 457) G dX8_met_456 (rf_a4 (hsc.S hS)) rfl (by omega) (by decide) (rt_4 (hsc.T hS Tt201)) rfl ?_
                                                                  refine jv_putI (q := 460) G dX8_met_457 fl_X8_192 rfl (hsc.S hS).1 rfl ?_
                                                                  have hr1 : rs x q h197 (jv_wI h197 x 32 (nI (mt_n t201))) := rs.rf.wI (nI (mt_n t201)) (Or.inl ⟨rfl, Or.inr (Or.inl rfl)⟩)
                                                                  have hran : jv_I (jv_wI h197 x 32 (nI (mt_n t201))) x 32 = (nI (mt_n t201)) := jv_I_self _ _ _ _
                                                                  have hSb := hsc.S hS
                                                                  have hE := hr1.E hSb (hsc.E hS hE)
                                                                  have hV := hr1.V hSb (hsc.V hS hV)
                                                                  have hEC := hr1.E hSb (hsc.E hS hEC)
                                                                  have hVC := hr1.V hSb (hsc.V hS hVC)
                                                                  have hce := (wx_I hSb 22 (by decide) rfl 32 c (nI (mt_n t201))).trans ((hsc.I2 hS 22 (by decide) rfl (by decide) c).trans hce)
                                                                  have hpk := (wx_I hSb 23 (by decide) rfl 32 c (nI (mt_n t201))).trans ((hsc.I2 hS 23 (by decide) rfl (by decide) c).trans hpk)
                                                                  have hsu := (wx_I hSb 24 (by decide) rfl 32 c (nI (mt_n t201))).trans ((hsc.I2 hS 24 (by decide) rfl (by decide) c).trans hsu)
                                                                  have hrs := (hrs.tr hsc.rs).tr hr1
                                                                  have hx0 : jv_I (jv_wI h197 x 32 (nI (mt_n t201))) x 0 = jv_I h x 0 := by rw [jv_I_wI, if_neg (fun z => by cases z.2)] <;> exact (hsc.x hS 0).trans hx0
                                                                  have hS := hr1.S hSb
                                                                  generalize jv_wI h197 x 32 (nI (mt_n t201)) = h209 at hran hx0 hE hV hEC hVC hce hpk hsu hrs hS ⊢
                                                                  have hsc : sc x q h209 h209 := sc.rf
                                                                  refine jv_iload_n (q := 461) G 8 dX8_met_460 rfl rfl rfl ?_
                                                                  refine jv_aload_n (q := 462) G 6 dX8_met_461 rfl rfl rfl ?_
                                                                  refine jv_getQ (q := 465) G dX8_met_462 fl_X8_68 rfl (hsc.S hS).1 (rf_p22 (hsc.S hS)) rfl ?_
                                                                  refine jv_iload_n (q := 466) G 7 dX8_met_465 rfl rfl rfl ?_
                                                                  refine jv_iald (q := 467) G dX8_met_466 (rf_a22 (hsc.S hS)) rfl (by omega) (by decide) ((hsc.I2 hS 22 (by decide) rfl (by decide) c).trans hce) rfl ?_
                                                                  refine jv_icmp_eqN (q := 470) (tgt := 495) G dX8_met_467 (by decide) rfl (by omega) (by omega) (fun c210 => ?_) (fun c210 => ?_)
                                                                  · omega
                                                                  · refine jv_aload_n (q := 471) G 6 dX8_met_470 rfl rfl rfl ?_
                                                                    refine jv_getI (q := 474) G dX8_met_471 fl_X8_192 rfl (hsc.S hS).1 ((hsc.x hS 32).trans hran) rfl ?_
                                                                    refine jv_aload_n (q := 475) G 6 dX8_met_474 rfl rfl rfl ?_
                                                                    refine jv_iload_n (q := 476) G 7 dX8_met_475 rfl rfl rfl ?_
                                                                    refine jv_iload (q := 478) G 10 dX8_met_476 rfl rfl ?_
                                                                    refine jv_iload (q := 480) G 11 dX8_met_478 rfl rfl ?_
                                                                    refine jv_iload (q := 482) G 12 dX8_met_480 rfl rfl ?_
                                                                    refine jv_iload (q := 484) G 13 dX8_met_482 rfl rfl ?_
                                                                    refine jv_callV (q := 487) (As := [.int (nI c), .int ty, .int n, .int s, .int rc]) (rest := [.int (nI (mt_n t201))]) G Z ml_X8_202 (r_ownRun hlt hsc hS hc hec hEC hVC hce hgC) (hsc.S hS).1 dX8_met_484 rfl (by decide) (by decide) (by decide) (by decide) (Nat.le_of_ble_eq_true rfl) rfl rfl (fun v212 h211 y213 => ?_) (fun _ _ hx => hx.elim)
                                                                    obtain ⟨rfl, hsc⟩ := y213
                                                                    show jv_V E 14 h211 0 0 (jv_Q E (fun v h' => v = some (.int (nI (m_met (decide (e = ec)) tsC ts pk su 4 ty n s rc).1)) ∧ rs x q h h' ∧ jv_I h' x 32 = jv_oN (m_met (decide (e = ec)) tsC ts pk su 4 ty n s rc).2 ∧ jv_I h' x 0 = jv_I h x 0 ∧ jv_I h' (q 22) c = nI ec ∧ jv_I h' (q 23) c = nI pk ∧ jv_I h' (q 24) c = jv_oN su) jv_no 0 0) 487 [(13, .int (nI (6 * (10 * e + p200.1) + p200.2))), (12, .int (nI (6 * (10 * e + p164.1) + p164.2))), (11, .int (nI (10 * e + k146))), (10, .int (nI 1)), (9, .int (-1)), (8, .int (nI (10 * e + k2))), (0, .ref x), (1, .int (nI c)), (2, .int (nI e)), (3, .int (nI 4)), (4, .int ty), (5, .int n), (6, .int s), (7, .int rc)] [.int (jv_oN (m_orn tsC ty n s rc)), .int (nI (mt_n t201))]
                                                                    refine jv_icmp_eq (q := 490) (tgt := 495) G dX8_met_487 (by decide) rfl (fun c214 => ?_) (fun c214 => ?_)
                                                                    · refine jv_iconst (q := 496) (v := nI 0) G dX8_met_495 (by decide) rfl ?_
                                                                      refine jv_iret G hr dX8_met_496 (Nat.le_of_ble_eq_true rfl) (Nat.le_of_ble_eq_true rfl) ?_
                                                                      have hz : (m_met (decide (e = ec)) tsC ts pk su 4 ty n s rc) = (0, some (mt_n t201)) := by
                                                                        unfold m_met m_isC m_bd
                                                                        simp only [*, if_true, if_false, Bool.false_eq_true, reduceIte, Option.map_some, decide_true, decide_false, not_true_eq_false, not_false_eq_true, eq_self, ne_eq, Nat.reduceLT, Nat.lt_irrefl, Nat.reduceEqDiff, and_true, true_and, and_false, false_and, or_true, true_or, or_false, false_or, Bool.or_true, Bool.or_false, Bool.true_or, Bool.false_or, reduceCtorEq] <;> rfl
                                                                      exact ⟨by rw [hz], hrs.tr hsc.rs, by rw [hz]; exact (hsc.x hS 32).trans hran, (hsc.x hS 0).trans hx0, (hsc.I2 hS 22 (by decide) rfl (by decide) c).trans hce, (hsc.I2 hS 23 (by decide) rfl (by decide) c).trans hpk, (hsc.I2 hS 24 (by decide) rfl (by decide) c).trans hsu⟩
                                                                    · refine jv_bipush (q := 492) (v := nI 8) G dX8_met_490 (by decide) rfl ?_
                                                                      refine jv_goto (q := 496) G dX8_met_492 (by decide) ?_
                                                                      refine jv_iret G hr dX8_met_496 (Nat.le_of_ble_eq_true rfl) (Nat.le_of_ble_eq_true rfl) ?_
                                                                      have hz : (m_met (decide (e = ec)) tsC ts pk su 4 ty n s rc) = (8, some (mt_n t201)) := by
                                                                        unfold m_met m_isC m_bd
                                                                        simp only [*, if_true, if_false, Bool.false_eq_true, reduceIte, Option.map_some, decide_true, decide_false, not_true_eq_false, not_false_eq_true, eq_self, ne_eq, Nat.reduceLT, Nat.lt_irrefl, Nat.reduceEqDiff, and_true, true_and, and_false, false_and, or_true, true_or, or_false, false_or, Bool.or_true, Bool.or_false, Bool.true_or, Bool.false_or, reduceCtorEq] <;> rfl
                                                                      exact ⟨by rw [hz], hrs.tr hsc.rs, by rw [hz]; exact (hsc.x hS 32).trans hran, (hsc.x hS 0).trans hx0, (hsc.I2 hS 22 (by decide) rfl (by decide) c).trans hce, (hsc.I2 hS 23 (by decide) rfl (by decide) c).trans hpk, (hsc.I2 hS 24 (by decide) rfl (by decide) c).trans hsu⟩
                                                                · refine jv_iconst (q := 445) (v := nI 3) G dX8_met_444 (by decide) rfl ?_
                                                                  refine jv_iret G hr dX8_met_445 (Nat.le_of_ble_eq_true rfl) (Nat.le_of_ble_eq_true rfl) ?_
                                                                  have hz : (m_met (decide (e = ec)) tsC ts pk su 4 ty n s rc) = (3, none) := by
                                                                    unfold m_met m_isC m_bd
                                                                    simp only [*, if_true, if_false, Bool.false_eq_true, reduceIte, Option.map_some, decide_true, decide_false, not_true_eq_false, not_false_eq_true, eq_self, ne_eq, Nat.reduceLT, Nat.lt_irrefl, Nat.reduceEqDiff, and_true, true_and, and_false, false_and, or_true, true_or, or_false, false_or, Bool.or_true, Bool.or_false, Bool.true_or, Bool.false_or, reduceCtorEq] <;> rfl
                                                                  exact ⟨by rw [hz], hrs.tr hsc.rs, by rw [hz]; exact (hsc.x hS 32).trans hran, (hsc.x hS 0).trans hx0, (hsc.I2 hS 22 (by decide) rfl (by decide) c).trans hce, (hsc.I2 hS 23 (by decide) rfl (by decide) c).trans hpk, (hsc.I2 hS 24 (by decide) rfl (by decide) c).trans hsu⟩
                                                            · refine jv_iconst (q := 427) (v := nI 5) G dX8_met_426 (by decide) rfl ?_
                                                              refine jv_iret G hr dX8_met_427 (Nat.le_of_ble_eq_true rfl) (Nat.le_of_ble_eq_true rfl) ?_
                                                              have hz : (m_met (decide (e = ec)) tsC ts pk su 4 ty n s rc) = (5, none) := by
                                                                unfold m_met m_isC m_bd
                                                                simp only [*, if_true, if_false, Bool.false_eq_true, reduceIte, Option.map_some, decide_true, decide_false, not_true_eq_false, not_false_eq_true, eq_self, ne_eq, Nat.reduceLT, Nat.lt_irrefl, Nat.reduceEqDiff, and_true, true_and, and_false, false_and, or_true, true_or, or_false, false_or, Bool.or_true, Bool.or_false, Bool.true_or, Bool.false_or, reduceCtorEq] <;> rfl
                                                              exact ⟨by rw [hz], hrs.tr hsc.rs, by rw [hz]; exact (hsc.x hS 32).trans hran, (hsc.x hS 0).trans hx0, (hsc.I2 hS 22 (by decide) rfl (by decide) c).trans hce, (hsc.I2 hS 23 (by decide) rfl (by decide) c).trans hpk, (hsc.I2 hS 24 (by decide) rfl (by decide) c).trans hsu⟩
                                                      · refine jv_bipush (q := 398) (v := nI 6) G dX8_met_396 (by decide) rfl ?_
                                                        refine jv_iret G hr dX8_met_398 (Nat.le_of_ble_eq_true rfl) (Nat.le_of_ble_eq_true rfl) ?_
                                                        have hz : (m_met (decide (e = ec)) tsC ts pk su 4 ty n s rc) = (6, none) := by
                                                          unfold m_met m_isC m_bd
                                                          simp only [*, if_true, if_false, Bool.false_eq_true, reduceIte, Option.map_some, decide_true, decide_false, not_true_eq_false, not_false_eq_true, eq_self, ne_eq, Nat.reduceLT, Nat.lt_irrefl, Nat.reduceEqDiff, and_true, true_and, and_false, false_and, or_true, true_or, or_false, false_or, Bool.or_true, Bool.or_false, Bool.true_or, Bool.false_or, reduceCtorEq] <;> rfl
                                                        exact ⟨by rw [hz], hrs.tr hsc.rs, by rw [hz]; exact (hsc.x hS 32).trans hran, (hsc.x hS 0).trans hx0, (hsc.I2 hS 22 (by decide) rfl (by decide) c).trans hce, (hsc.I2 hS 23 (by decide) rfl (by decide) c).trans hpk, (hsc.I2 hS 24 (by decide) rfl (by decide) c).trans hsu⟩
                                              · omega
                                            · refine jv_iconst (q := 326) (v := nI 4) G dX8_met_325 (by decide) rfl ?_
                                              refine jv_iret G hr dX8_met_326 (Nat.le_of_ble_eq_true rfl) (Nat.le_of_ble_eq_true rfl) ?_
                                              have hz : (m_met (decide (e = ec)) tsC ts pk su 4 ty n s rc) = (4, none) := by
                                                unfold m_met m_isC m_bd
                                                simp only [*, if_true, if_false, Bool.false_eq_true, reduceIte, Option.map_some, decide_true, decide_false, not_true_eq_false, not_false_eq_true, eq_self, ne_eq, Nat.reduceLT, Nat.lt_irrefl, Nat.reduceEqDiff, and_true, true_and, and_false, false_and, or_true, true_or, or_false, false_or, Bool.or_true, Bool.or_false, Bool.true_or, Bool.false_or, reduceCtorEq] <;> rfl
                                              exact ⟨by rw [hz], hrs.tr hsc.rs, by rw [hz]; exact (hsc.x hS 32).trans hran, (hsc.x hS 0).trans hx0, (hsc.I2 hS 22 (by decide) rfl (by decide) c).trans hce, (hsc.I2 hS 23 (by decide) rfl (by decide) c).trans hpk, (hsc.I2 hS 24 (by decide) rfl (by decide) c).trans hsu⟩
                                          · omega
                                      · refine jv_iconst (q := 299) (v := nI 3) G dX8_met_298 (by decide) rfl ?_
                                        refine jv_iret G hr dX8_met_299 (Nat.le_of_ble_eq_true rfl) (Nat.le_of_ble_eq_true rfl) ?_
                                        have hz : (m_met (decide (e = ec)) tsC ts pk su 4 ty n s rc) = (3, none) := by
                                          unfold m_met m_isC m_bd
                                          simp only [*, if_true, if_false, Bool.false_eq_true, reduceIte, Option.map_some, decide_true, decide_false, not_true_eq_false, not_false_eq_true, eq_self, ne_eq, Nat.reduceLT, Nat.lt_irrefl, Nat.reduceEqDiff, and_true, true_and, and_false, false_and, or_true, true_or, or_false, false_or, Bool.or_true, Bool.or_false, Bool.true_or, Bool.false_or, reduceCtorEq] <;> rfl
                                        exact ⟨by rw [hz], hrs.tr hsc.rs, by rw [hz]; exact (hsc.x hS 32).trans hran, (hsc.x hS 0).trans hx0, (hsc.I2 hS 22 (by decide) rfl (by decide) c).trans hce, (hsc.I2 hS 23 (by decide) rfl (by decide) c).trans hpk, (hsc.I2 hS 24 (by decide) rfl (by decide) c).trans hsu⟩
                                    · exact absurd c169 (jv_nI_m1 (by omega))
                                · omega
                              · omega
                            · refine jv_bipush (q := 225) (v := nI 6) G dX8_met_223 (by decide) rfl ?_
                              refine jv_iret G hr dX8_met_225 (Nat.le_of_ble_eq_true rfl) (Nat.le_of_ble_eq_true rfl) ?_
                              have hz : (m_met (decide (e = ec)) tsC ts pk su 4 ty n s rc) = (6, none) := by
                                unfold m_met m_isC m_bd
                                simp only [*, if_true, if_false, Bool.false_eq_true, reduceIte, Option.map_some, decide_true, decide_false, not_true_eq_false, not_false_eq_true, eq_self, ne_eq, Nat.reduceLT, Nat.lt_irrefl, Nat.reduceEqDiff, and_true, true_and, and_false, false_and, or_true, true_or, or_false, false_or, Bool.or_true, Bool.or_false, Bool.true_or, Bool.false_or, reduceCtorEq] <;> rfl
                              exact ⟨by rw [hz], hrs.tr hsc.rs, by rw [hz]; exact (hsc.x hS 32).trans hran, (hsc.x hS 0).trans hx0, (hsc.I2 hS 22 (by decide) rfl (by decide) c).trans hce, (hsc.I2 hS 23 (by decide) rfl (by decide) c).trans hpk, (hsc.I2 hS 24 (by decide) rfl (by decide) c).trans hsu⟩
                        · omega
                      · refine jv_aload_n (q := 176) G 4 dX8_met_175 rfl rfl rfl ?_
                        refine jv_getQ (q := 179) G dX8_met_176 fl_X8_26 rfl (hsc.S hS).1 (rf_p7 (hsc.S hS)) rfl ?_
                        refine jv_iload (q := 181) G 3 dX8_met_179 rfl rfl ?_
                        refine jv_iald (q := 182) G dX8_met_181 (rf_a7 (hsc.S hS)) rfl (by omega) (by decide) (rt_7 (hsc.T hS Tt3)) rfl ?_
                        refine jv_aload_n (q := 183) G 4 dX8_met_182 rfl rfl rfl ?_
                        refine jv_getQ (q := 186) G dX8_met_183 fl_X8_71 rfl (hsc.S hS).1 (rf_p23 (hsc.S hS)) rfl ?_
                        refine jv_iload_n (q := 187) G 5 dX8_met_186 rfl rfl rfl ?_
                        refine jv_iald (q := 188) G dX8_met_187 (rf_a23 (hsc.S hS)) rfl (by omega) (by decide) ((hsc.I2 hS 23 (by decide) rfl (by decide) c).trans hpk) rfl ?_
                        refine jv_icmp_eqN (q := 191) (tgt := 193) G dX8_met_188 (by decide) rfl (by omega) (by omega) (fun c215 => ?_) (fun c215 => ?_)
                        · refine jv_iload_n (q := 194) G 7 dX8_met_193 rfl rfl rfl ?_
                          refine jv_iconst (q := 195) (v := nI 2) G dX8_met_194 (by decide) rfl ?_
                          refine jv_icmp_neN (q := 198) (tgt := 208) G dX8_met_195 (by decide) rfl (by omega) (by omega) (fun c216 => ?_) (fun c216 => ?_)
                          · refine jv_iload_n (q := 209) G 7 dX8_met_208 rfl rfl rfl ?_
                            refine jv_iconst (q := 210) (v := nI 4) G dX8_met_209 (by decide) rfl ?_
                            refine jv_icmp_neN (q := 213) (tgt := 226) G dX8_met_210 (by decide) rfl (by omega) (by omega) (fun c217 => ?_) (fun c217 => ?_)
                            · omega
                            · refine jv_aload_n (q := 214) G 4 dX8_met_213 rfl rfl rfl ?_
                              refine jv_getQ (q := 217) G dX8_met_214 fl_X8_20 rfl (hsc.S hS).1 (rf_p5 (hsc.S hS)) rfl ?_
                              refine jv_iload (q := 219) G 3 dX8_met_217 rfl rfl ?_
                              refine jv_zald (q := 220) G dX8_met_219 (rf_a5 (hsc.S hS)) rfl (by omega) (by decide) (rt_5 (hsc.T hS Tt3)) rfl ?_
                              refine jv_if_neB (q := 223) (tgt := 226) G dX8_met_220 (by decide) rfl (fun c218 => ?_) (fun c218 => ?_)
                              · refine jv_iload_n (q := 227) G 7 dX8_met_226 rfl rfl rfl ?_
                                refine jv_iconst (q := 228) (v := nI 5) G dX8_met_227 (by decide) rfl ?_
                                refine jv_icmp_neN (q := 231) (tgt := 247) G dX8_met_228 (by decide) rfl (by omega) (by omega) (fun c219 => ?_) (fun c219 => ?_)
                                · refine jv_iload_n (q := 248) G 7 dX8_met_247 rfl rfl rfl ?_
                                  refine jv_iconst (q := 249) (v := nI 2) G dX8_met_248 (by decide) rfl ?_
                                  refine jv_icmp_geN (q := 252) (tgt := 266) G dX8_met_249 (by decide) rfl (by omega) (by omega) (fun c220 => ?_) (fun c220 => ?_)
                                  · refine jv_aload_n (q := 267) G 4 dX8_met_266 rfl rfl rfl ?_
                                    refine jv_iload_n (q := 268) G 6 dX8_met_267 rfl rfl rfl ?_
                                    refine jv_iload (q := 270) G 3 dX8_met_268 rfl rfl ?_
                                    refine jv_iload (q := 272) G 9 dX8_met_270 rfl rfl ?_
                                    refine jv_iload (q := 274) G 10 dX8_met_272 rfl rfl ?_
                                    refine jv_callV (q := 277) (As := [.int (nI e), .int (nI (10 * e + k2)), .int n, .int s]) (rest := []) G Z ml_X8_186 (r_findMethod (d := 11) hlt hsc hS he hE hV ht3 (hg k2 (by omega))) (hsc.S hS).1 dX8_met_274 rfl (by decide) (by decide) (by decide) (by decide) (Nat.le_of_ble_eq_true rfl) rfl rfl (fun v222 h221 y223 => ?_) (fun _ _ hx => hx.elim)
                                    obtain ⟨rfl, hsc⟩ := y223
                                    show jv_V E 14 h221 0 0 (jv_Q E (fun v h' => v = some (.int (nI (m_met (decide (e = ec)) tsC ts pk su 4 ty n s rc).1)) ∧ rs x q h h' ∧ jv_I h' x 32 = jv_oN (m_met (decide (e = ec)) tsC ts pk su 4 ty n s rc).2 ∧ jv_I h' x 0 = jv_I h x 0 ∧ jv_I h' (q 22) c = nI ec ∧ jv_I h' (q 23) c = nI pk ∧ jv_I h' (q 24) c = jv_oN su) jv_no 0 0) 277 [(11, .int (nI (10 * e + k146))), (10, .int (nI 1)), (9, .int (-1)), (8, .int (nI (10 * e + k2))), (0, .ref x), (1, .int (nI c)), (2, .int (nI e)), (3, .int (nI 4)), (4, .int ty), (5, .int n), (6, .int s), (7, .int rc)] [.int (ffE e (m_fm ts 11 k2 n s))]
                                    rcases Option.eq_none_or_eq_some (m_fm ts 11 k2 n s) with hp227 | ⟨p224, hp227⟩
                                    · refine jv_topI (y := (-1)) (by rw [hp227]; rfl) ?_
                                      refine jv_istore (q := 279) (lo' := [(12, .int (-1)), (11, .int (nI (10 * e + k146))), (10, .int (nI 1)), (9, .int (-1)), (8, .int (nI (10 * e + k2))), (0, .ref x), (1, .int (nI c)), (2, .int (nI e)), (3, .int (nI 4)), (4, .int ty), (5, .int n), (6, .int s), (7, .int rc)]) G dX8_met_277 (by decide) rfl rfl ?_
                                      refine jv_iload (q := 281) G 0 dX8_met_279 rfl rfl ?_
                                      refine jv_iconst (q := 282) (v := (-1)) G dX8_met_281 (by decide) rfl ?_
                                      refine jv_icmp_ne (q := 285) (tgt := 287) G dX8_met_282 (by decide) rfl (fun c228 => ?_) (fun c228 => ?_)
                                      · exact absurd rfl c228
                                      · refine jv_iconst (q := 286) (v := nI 2) G dX8_met_285 (by decide) rfl ?_
                                        refine jv_iret G hr dX8_met_286 (Nat.le_of_ble_eq_true rfl) (Nat.le_of_ble_eq_true rfl) ?_
                                        have hz : (m_met (decide (e = ec)) tsC ts pk su 4 ty n s rc) = (2, none) := by
                                          unfold m_met m_isC m_bd
                                          simp only [*, if_true, if_false, Bool.false_eq_true, reduceIte, Option.map_some, decide_true, decide_false, not_true_eq_false, not_false_eq_true, eq_self, ne_eq, Nat.reduceLT, Nat.lt_irrefl, Nat.reduceEqDiff, and_true, true_and, and_false, false_and, or_true, true_or, or_false, false_or, Bool.or_true, Bool.or_false, Bool.true_or, Bool.false_or, reduceCtorEq] <;> rfl
                                        exact ⟨by rw [hz], hrs.tr hsc.rs, by rw [hz]; exact (hsc.x hS 32).trans hran, (hsc.x hS 0).trans hx0, (hsc.I2 hS 22 (by decide) rfl (by decide) c).trans hce, (hsc.I2 hS 23 (by decide) rfl (by decide) c).trans hpk, (hsc.I2 hS 24 (by decide) rfl (by decide) c).trans hsu⟩
                                    · refine jv_topI (y := nI (6 * (10 * e + p224.1) + p224.2)) (by rw [hp227]; rfl) ?_
                                      obtain ⟨t225, ht225, m226, hm226⟩ := m_fm_mem hp227
                                      have Tt225 := (hE.2.2 p224.1 t225 ht225).1
                                      have Ot225 := (hE.2.2 p224.1 t225 ht225).2
                                      have Lt225 := hE.2.1
                                      have lt225 := jv_ltGet ht225
                                      have Mm226 := rt_m Tt225 hm226
                                      have Om226 := Ot225.2.2.2.2.2.2 m226 (List.mem_of_getElem? hm226)
                                      have Lm226 := Ot225.2.2.2.2.2.1
                                      have lm226 := jv_ltGet hm226
                                      have Bm226n := Om226.1; have Bm226s := Om226.2.1; have Bm226a := Om226.2.2.1; have Bt225n := Ot225.1; have Bt225k := Ot225.2.1
                                      refine jv_istore (q := 279) (lo' := [(12, .int (nI (6 * (10 * e + p224.1) + p224.2))), (11, .int (nI (10 * e + k146))), (10, .int (nI 1)), (9, .int (-1)), (8, .int (nI (10 * e + k2))), (0, .ref x), (1, .int (nI c)), (2, .int (nI e)), (3, .int (nI 4)), (4, .int ty), (5, .int n), (6, .int s), (7, .int rc)]) G dX8_met_277 (by decide) rfl rfl ?_
                                      refine jv_iload (q := 281) G 0 dX8_met_279 rfl rfl ?_
                                      refine jv_iconst (q := 282) (v := (-1)) G dX8_met_281 (by decide) rfl ?_
                                      refine jv_icmp_ne (q := 285) (tgt := 287) G dX8_met_282 (by decide) rfl (fun c229 => ?_) (fun c229 => ?_)
                                      · refine jv_aload_n (q := 288) G 5 dX8_met_287 rfl rfl rfl ?_
                                        refine jv_iload_n (q := 289) G 6 dX8_met_288 rfl rfl rfl ?_
                                        refine jv_iload_n (q := 290) G 7 dX8_met_289 rfl rfl rfl ?_
                                        refine jv_iload (q := 292) G 0 dX8_met_290 rfl rfl ?_
                                        refine jv_callV_I (q := 295) (h1 := h221) (As := [.int (nI c), .int (nI e), .int (nI (6 * (10 * e + p224.1) + p224.2))]) (rest := []) (ce' := 0) (sl' := 0) (r := jv_bI (m_mr ts pk su t225 m226)) G Z ml_X8_199 (r_mayReach hlt hsc hS hc he hE hV ht225 hm226 hpk hpk5 hsu hsu16) (hsc.S hS).1 dX8_met_292 rfl (by decide) (by decide) (by decide) (by decide) (Nat.le_of_ble_eq_true rfl) rfl rfl rfl rfl ?_
                                        refine jv_if_neB (q := 298) (tgt := 300) G dX8_met_295 (by decide) rfl (fun c230 => ?_) (fun c230 => ?_)
                                        · refine jv_aload_n (q := 301) G 5 dX8_met_300 rfl rfl rfl ?_
                                          refine jv_getQ (q := 304) G dX8_met_301 fl_X8_56 rfl (hsc.S hS).1 (rf_p17 (hsc.S hS)) rfl ?_
                                          refine jv_iload (q := 306) G 0 dX8_met_304 rfl rfl ?_
                                          refine jv_zald (q := 307) G dX8_met_306 (rf_a17 (hsc.S hS)) rfl (by omega) (by decide) (hsc.M hS Mm226).2.2.2.2.1 rfl ?_
                                          refine jv_iload_n (q := 308) G 8 dX8_met_307 rfl rfl rfl ?_
                                          refine jv_iconst (q := 309) (v := nI 1) G dX8_met_308 (by decide) rfl ?_
                                          refine jv_icmp_eqN (q := 312) (tgt := 317) G dX8_met_309 (by decide) rfl (by omega) (by omega) (fun c231 => ?_) (fun c231 => ?_)
                                          · omega
                                          · refine jv_iload_n (q := 313) G 8 dX8_met_312 rfl rfl rfl ?_
                                            refine jv_iconst (q := 314) (v := nI 3) G dX8_met_313 (by decide) rfl ?_
                                            refine jv_icmp_neN (q := 317) (tgt := 321) G dX8_met_314 (by decide) rfl (by omega) (by omega) (fun c232 => ?_) (fun c232 => ?_)
                                            · refine jv_iconst (q := 322) (v := nI 0) G dX8_met_321 (by decide) rfl ?_
                                              refine jv_topI (y := jv_bI false) rfl ?_
                                              refine jv_icmp_eqB (q := 325) (tgt := 327) G dX8_met_322 (by decide) rfl (fun c233 => ?_) (fun c233 => ?_)
                                              · refine jv_iload (q := 329) G 2 dX8_met_327 rfl rfl ?_
                                                refine jv_if_neN (q := 332) (tgt := 357) G dX8_met_329 (by decide) rfl (by omega) (fun c234 => ?_) (fun c234 => ?_)
                                                · refine jv_aload_n (q := 358) G 5 dX8_met_357 rfl rfl rfl ?_
                                                  refine jv_getQ (q := 361) G dX8_met_358 fl_X8_20 rfl (hsc.S hS).1 (rf_p5 (hsc.S hS)) rfl ?_
                                                  refine jv_iload (q := 363) G 1 dX8_met_361 rfl rfl ?_
                                                  refine jv_zald (q := 364) G dX8_met_363 (rf_a5 (hsc.S hS)) rfl (by omega) (by decide) (rt_5 (hsc.T hS Tt147)) rfl ?_
                                                  refine jv_if_neB (q := 367) (tgt := 396) G dX8_met_364 (by decide) rfl (fun c235 => ?_) (fun c235 => ?_)
                                                  · refine jv_bipush (q := 398) (v := nI 6) G dX8_met_396 (by decide) rfl ?_
                                                    refine jv_iret G hr dX8_met_398 (Nat.le_of_ble_eq_true rfl) (Nat.le_of_ble_eq_true rfl) ?_
                                                    have hz : (m_met (decide (e = ec)) tsC ts pk su 4 ty n s rc) = (6, none) := by
                                                      unfold m_met m_isC m_bd
                                                      simp only [*, if_true, if_false, Bool.false_eq_true, reduceIte, Option.map_some, decide_true, decide_false, not_true_eq_false, not_false_eq_true, eq_self, ne_eq, Nat.reduceLT, Nat.lt_irrefl, Nat.reduceEqDiff, and_true, true_and, and_false, false_and, or_true, true_or, or_false, false_or, Bool.or_true, Bool.or_false, Bool.true_or, Bool.false_or, reduceCtorEq] <;> rfl
                                                    exact ⟨by rw [hz], hrs.tr hsc.rs, by rw [hz]; exact (hsc.x hS 32).trans hran, (hsc.x hS 0).trans hx0, (hsc.I2 hS 22 (by decide) rfl (by decide) c).trans hce, (hsc.I2 hS 23 (by decide) rfl (by decide) c).trans hpk, (hsc.I2 hS 24 (by decide) rfl (by decide) c).trans hsu⟩
                                                  · refine jv_aload_n (q := 368) G 5 dX8_met_367 rfl rfl rfl ?_
                                                    refine jv_getQ (q := 371) G dX8_met_368 fl_X8_23 rfl (hsc.S hS).1 (rf_p6 (hsc.S hS)) rfl ?_
                                                    refine jv_iload (q := 373) G 1 dX8_met_371 rfl rfl ?_
                                                    refine jv_zald (q := 374) G dX8_met_373 (rf_a6 (hsc.S hS)) rfl (by omega) (by decide) (rt_6 (hsc.T hS Tt147)) rfl ?_
                                                    refine jv_if_neB (q := 377) (tgt := 396) G dX8_met_374 (by decide) rfl (fun c236 => ?_) (fun c236 => ?_)
                                                    · refine jv_bipush (q := 398) (v := nI 6) G dX8_met_396 (by decide) rfl ?_
                                                      refine jv_iret G hr dX8_met_398 (Nat.le_of_ble_eq_true rfl) (Nat.le_of_ble_eq_true rfl) ?_
                                                      have hz : (m_met (decide (e = ec)) tsC ts pk su 4 ty n s rc) = (6, none) := by
                                                        unfold m_met m_isC m_bd
                                                        simp only [*, if_true, if_false, Bool.false_eq_true, reduceIte, Option.map_some, decide_true, decide_false, not_true_eq_false, not_false_eq_true, eq_self, ne_eq, Nat.reduceLT, Nat.lt_irrefl, Nat.reduceEqDiff, and_true, true_and, and_false, false_and, or_true, true_or, or_false, false_or, Bool.or_true, Bool.or_false, Bool.true_or, Bool.false_or, reduceCtorEq] <;> rfl
                                                      exact ⟨by rw [hz], hrs.tr hsc.rs, by rw [hz]; exact (hsc.x hS 32).trans hran, (hsc.x hS 0).trans hx0, (hsc.I2 hS 22 (by decide) rfl (by decide) c).trans hce, (hsc.I2 hS 23 (by decide) rfl (by decide) c).trans hpk, (hsc.I2 hS 24 (by decide) rfl (by decide) c).trans hsu⟩
                                                    · refine jv_iload (q := 379) G 1 dX8_met_377 rfl rfl ?_
                                                      refine jv_iload (q := 381) G 4 dX8_met_379 rfl rfl ?_
                                                      refine jv_icmp_eqN (q := 384) (tgt := 399) G dX8_met_381 (by decide) rfl (by omega) (by omega) (fun c237 => ?_) (fun c237 => ?_)
                                                      · have Kc237 : (k146 = k2) = True := eq_true (by omega)
                                                        refine jv_aload_n (q := 400) G 5 dX8_met_399 rfl rfl rfl ?_
                                                        refine jv_iload_n (q := 401) G 7 dX8_met_400 rfl rfl rfl ?_
                                                        refine jv_iload (q := 403) G 0 dX8_met_401 rfl rfl ?_
                                                        refine jv_iload (q := 405) G 1 dX8_met_403 rfl rfl ?_
                                                        refine jv_callV (q := 408) (As := [.int (nI e), .int (nI (6 * (10 * e + p224.1) + p224.2)), .int (nI (10 * e + k146))]) (rest := []) G Z ml_X8_189 (r_selected (d := 11) hlt hsc hS he hE hV ht225 hm226 ht147 (hg k146 (by omega))) (hsc.S hS).1 dX8_met_405 rfl (by decide) (by decide) (by decide) (by decide) (Nat.le_of_ble_eq_true rfl) rfl rfl (fun v239 h238 y240 => ?_) (fun _ _ hx => hx.elim)
                                                        obtain ⟨rfl, hsc⟩ := y240
                                                        show jv_V E 14 h238 0 0 (jv_Q E (fun v h' => v = some (.int (nI (m_met (decide (e = ec)) tsC ts pk su 4 ty n s rc).1)) ∧ rs x q h h' ∧ jv_I h' x 32 = jv_oN (m_met (decide (e = ec)) tsC ts pk su 4 ty n s rc).2 ∧ jv_I h' x 0 = jv_I h x 0 ∧ jv_I h' (q 22) c = nI ec ∧ jv_I h' (q 23) c = nI pk ∧ jv_I h' (q 24) c = jv_oN su) jv_no 0 0) 408 [(12, .int (nI (6 * (10 * e + p224.1) + p224.2))), (11, .int (nI (10 * e + k146))), (10, .int (nI 1)), (9, .int (-1)), (8, .int (nI (10 * e + k2))), (0, .ref x), (1, .int (nI c)), (2, .int (nI e)), (3, .int (nI 4)), (4, .int ty), (5, .int n), (6, .int s), (7, .int rc)] [.int (ffE e (m_sl ts 11 t225 m226 p224.1 p224.2 k146))]
                                                        rcases Option.eq_none_or_eq_some (m_sl ts 11 t225 m226 p224.1 p224.2 k146) with hp244 | ⟨p241, hp244⟩
                                                        · refine jv_topI (y := (-1)) (by rw [hp244]; rfl) ?_
                                                          refine jv_istore (q := 410) (lo' := [(13, .int (-1)), (12, .int (nI (6 * (10 * e + p224.1) + p224.2))), (11, .int (nI (10 * e + k146))), (10, .int (nI 1)), (9, .int (-1)), (8, .int (nI (10 * e + k2))), (0, .ref x), (1, .int (nI c)), (2, .int (nI e)), (3, .int (nI 4)), (4, .int ty), (5, .int n), (6, .int s), (7, .int rc)]) G dX8_met_408 (by decide) rfl rfl ?_
                                                          refine jv_iload (q := 412) G 0 dX8_met_410 rfl rfl ?_
                                                          refine jv_iconst (q := 413) (v := (-1)) G dX8_met_412 (by decide) rfl ?_
                                                          refine jv_icmp_eq (q := 416) (tgt := 426) G dX8_met_413 (by decide) rfl (fun c245 => ?_) (fun c245 => ?_)
                                                          · refine jv_iconst (q := 427) (v := nI 5) G dX8_met_426 (by decide) rfl ?_
                                                            refine jv_iret G hr dX8_met_427 (Nat.le_of_ble_eq_true rfl) (Nat.le_of_ble_eq_true rfl) ?_
                                                            have hz : (m_met (decide (e = ec)) tsC ts pk su 4 ty n s rc) = (5, none) := by
                                                              unfold m_met m_isC m_bd
                                                              simp only [*, if_true, if_false, Bool.false_eq_true, reduceIte, Option.map_some, decide_true, decide_false, not_true_eq_false, not_false_eq_true, eq_self, ne_eq, Nat.reduceLT, Nat.lt_irrefl, Nat.reduceEqDiff, and_true, true_and, and_false, false_and, or_true, true_or, or_false, false_or, Bool.or_true, Bool.or_false, Bool.true_or, Bool.false_or, reduceCtorEq] <;> rfl
                                                            exact ⟨by rw [hz], hrs.tr hsc.rs, by rw [hz]; exact (hsc.x hS 32).trans hran, (hsc.x hS 0).trans hx0, (hsc.I2 hS 22 (by decide) rfl (by decide) c).trans hce, (hsc.I2 hS 23 (by decide) rfl (by decide) c).trans hpk, (hsc.I2 hS 24 (by decide) rfl (by decide) c).trans hsu⟩
                                                          · exact absurd rfl c245
                                                        · refine jv_topI (y := nI (6 * (10 * e + p241.1) + p241.2)) (by rw [hp244]; rfl) ?_
                                                          obtain ⟨t242, ht242, m243, hm243⟩ := m_sl_mem ht225 hm226 hp244
                                                          have Tt242 := (hE.2.2 p241.1 t242 ht242).1
                                                          have Ot242 := (hE.2.2 p241.1 t242 ht242).2
                                                          have Lt242 := hE.2.1
                                                          have lt242 := jv_ltGet ht242
                                                          have Mm243 := rt_m Tt242 hm243
                                                          have Om243 := Ot242.2.2.2.2.2.2 m243 (List.mem_of_getElem? hm243)
                                                          have Lm243 := Ot242.2.2.2.2.2.1
                                                          have lm243 := jv_ltGet hm243
                                                          have Bm243n := Om243.1; have Bm243s := Om243.2.1; have Bm243a := Om243.2.2.1; have Bt242n := Ot242.1; have Bt242k := Ot242.2.1
                                                          refine jv_istore (q := 410) (lo' := [(13, .int (nI (6 * (10 * e + p241.1) + p241.2))), (12, .int (nI (6 * (10 * e + p224.1) + p224.2))), (11, .int (nI (10 * e + k146))), (10, .int (nI 1)), (9, .int (-1)), (8, .int (nI (10 * e + k2))), (0, .ref x), (1, .int (nI c)), (2, .int (nI e)), (3, .int (nI 4)), (4, .int ty), (5, .int n), (6, .int s), (7, .int rc)]) G dX8_met_408 (by decide) rfl rfl ?_
                                                          refine jv_iload (q := 412) G 0 dX8_met_410 rfl rfl ?_
                                                          refine jv_iconst (q := 413) (v := (-1)) G dX8_met_412 (by decide) rfl ?_
                                                          refine jv_icmp_eq (q := 416) (tgt := 426) G dX8_met_413 (by decide) rfl (fun c246 => ?_) (fun c246 => ?_)
                                                          · exact absurd c246 (jv_nI_m1 (by omega))
                                                          · refine jv_aload_n (q := 417) G 6 dX8_met_416 rfl rfl rfl ?_
                                                            refine jv_getQ (q := 420) G dX8_met_417 fl_X8_59 rfl (hsc.S hS).1 (rf_p18 (hsc.S hS)) rfl ?_
                                                            refine jv_iload (q := 422) G 0 dX8_met_420 rfl rfl ?_
                                                            refine jv_iald (q := 423) G dX8_met_422 (rf_a18 (hsc.S hS)) rfl (by omega) (by decide) (hsc.M hS Mm243).2.2.2.2.2.1 rfl ?_
                                                            refine jv_if_ge (q := 426) (tgt := 428) G dX8_met_423 (by decide) rfl (fun c247 => ?_) (fun c247 => ?_)
                                                            · refine jv_iload_n (q := 429) G 9 dX8_met_428 rfl rfl rfl ?_
                                                              refine jv_iconst (q := 430) (v := nI 4) G dX8_met_429 (by decide) rfl ?_
                                                              refine jv_icmp_neN (q := 433) (tgt := 446) G dX8_met_430 (by decide) rfl (by omega) (by omega) (fun c248 => ?_) (fun c248 => ?_)
                                                              · omega
                                                              · refine jv_aload_n (q := 434) G 6 dX8_met_433 rfl rfl rfl ?_
                                                                refine jv_getQ (q := 437) G dX8_met_434 fl_X8_53 rfl (hsc.S hS).1 (rf_p16 (hsc.S hS)) rfl ?_
                                                                refine jv_iload (q := 439) G 0 dX8_met_437 rfl rfl ?_
                                                                refine jv_iald (q := 440) G dX8_met_439 (rf_a16 (hsc.S hS)) rfl (by omega) (by decide) (hsc.M hS Mm243).2.2.2.1 rfl ?_
                                                                refine jv_iconst (q := 441) (v := nI 3) G dX8_met_440 (by decide) rfl ?_
                                                                refine jv_icmp_eqN (q := 444) (tgt := 446) G dX8_met_441 (by decide) rfl (by omega) (by omega) (fun c249 => ?_) (fun c249 => ?_)
                                                                · refine jv_aload_n (q := 447) G 6 dX8_met_446 rfl rfl rfl ?_
                                                                  refine jv_aload_n (q := 448) G 6 dX8_met_447 rfl rfl rfl ?_
                                                                  refine jv_getQ (q := 451) G dX8_met_448 fl_X8_17 rfl (hsc.S hS).1 (rf_p4 (hsc.S hS)) rfl ?_
                                                                  refine jv_iload (q := 453) G 0 dX8_met_451 rfl rfl ?_
                                                                  refine jv_callS_I (q := 456) (h1 := h238) (As := [.int (nI (6 * (10 * e + p241.1) + p241.2))]) (rest := [.ref (q 4), .ref x]) (ce' := 0) (sl' := 0) (r := nI ((6 * (10 * e + p241.1) + p241.2) / 6)) G Z ml_X8_183 (r_typeOf hlt (by omega)) dX8_met_453 rfl (by decide) (by decide) (by decide) (by decide) (Nat.le_of_ble_eq_true rfl) rfl rfl rfl rfl ?_
                                                                  refine jv_topI (y := nI (10 * e + p241.1)) (congrArg nI (by omega)) ?_
                                                                  refine jv_iald (q := 457) G dX8_met_456 (rf_a4 (hsc.S hS)) rfl (by omega) (by decide) (rt_4 (hsc.T hS Tt242)) rfl ?_
                                                                  refine jv_putI (q := 460) G dX8_met_457 fl_X8_192 rfl (hsc.S hS).1 rfl ?_
                                                                  have hr1 : rs x q h238 (jv_wI h238 x 32 (nI (mt_n t242))) := rs.rf.wI (nI (mt_n t242)) (Or.inl ⟨rfl, Or.inr (Or.inl rfl)⟩)
                                                                  have hran : jv_I (jv_wI h238 x 32 (nI (mt_n t242))) x 32 = (nI (mt_n t242)) := jv_I_self _ _ _ _
                                                                  have hSb := hsc.S hS
                                                                  have hE := hr1.E hSb (hsc.E hS hE)
                                                                  have hV := hr1.V hSb (hsc.V hS hV)
                                                                  have hEC := hr1.E hSb (hsc.E hS hEC)
                                                                  have hVC := hr1.V hSb (hsc.V hS hVC)
                                                                  have hce := (wx_I hSb 22 (by decide) rfl 32 c (nI (mt_n t242))).trans ((hsc.I2 hS 22 (by decide) rfl (by decide) c).trans hce)
                                                                  have hpk := (wx_I hSb 23 (by decide) rfl 32 c (nI (mt_n t242))).trans ((hsc.I2 hS 23 (by decide) rfl (by decide) c).trans hpk)
                                                                  have hsu := (wx_I hSb 24 (by decide) rfl 32 c (nI (mt_n t242))).trans ((hsc.I2 hS 24 (by decide) rfl (by decide) c).trans hsu)
                                                                  have hrs := (hrs.tr hsc.rs).tr hr1
                                                                  have hx0 : jv_I (jv_wI h238 x 32 (nI (mt_n t242))) x 0 = jv_I h x 0 := by rw [jv_I_wI, if_neg (fun z => by cases z.2)] <;> exact (hsc.x hS 0).trans hx0
                                                                  have hS := hr1.S hSb
                                                                  generalize jv_wI h238 x 32 (nI (mt_n t242)) = h250 at hran hx0 hE hV hEC hVC hce hpk hsu hrs hS ⊢
                                                                  have hsc : sc x q h250 h250 := sc.rf
                                                                  refine jv_iload_n (q := 461) G 8 dX8_met_460 rfl rfl rfl ?_
                                                                  refine jv_aload_n (q := 462) G 6 dX8_met_461 rfl rfl rfl ?_
                                                                  refine jv_getQ (q := 465) G dX8_met_462 fl_X8_68 rfl (hsc.S hS).1 (rf_p22 (hsc.S hS)) rfl ?_
                                                                  refine jv_iload_n (q := 466) G 7 dX8_met_465 rfl rfl rfl ?_
                                                                  refine jv_iald (q := 467) G dX8_met_466 (rf_a22 (hsc.S hS)) rfl (by omega) (by decide) ((hsc.I2 hS 22 (by decide) rfl (by decide) c).trans hce) rfl ?_
                                                                  refine jv_icmp_eqN (q := 470) (tgt := 495) G dX8_met_467 (by decide) rfl (by omega) (by omega) (fun c251 => ?_) (fun c251 => ?_)
                                                                  · omega
                                                                  · refine jv_aload_n (q := 471) G 6 dX8_met_470 rfl rfl rfl ?_
                                                                    refine jv_getI (q := 474) G dX8_met_471 fl_X8_192 rfl (hsc.S hS).1 ((hsc.x hS 32).trans hran) rfl ?_
                                                                    refine jv_aload_n (q := 475) G 6 dX8_met_474 rfl rfl rfl ?_
                                                                    refine jv_iload_n (q := 476) G 7 dX8_met_475 rfl rfl rfl ?_
                                                                    refine jv_iload (q := 478) G 10 dX8_met_476 rfl rfl ?_
                                                                    refine jv_iload (q := 480) G 11 dX8_met_478 rfl rfl ?_
                                                                    refine jv_iload (q := 482) G 12 dX8_met_480 rfl rfl ?_
                                                                    refine jv_iload (q := 484) G 13 dX8_met_482 rfl rfl ?_
                                                                    refine jv_callV (q := 487) (As := [.int (nI c), .int ty, .int n, .int s, .int rc]) (rest := [.int (nI (mt_n t242))]) G Z ml_X8_202 (r_ownRun hlt hsc hS hc hec hEC hVC hce hgC) (hsc.S hS).1 dX8_met_484 rfl (by decide) (by decide) (by decide) (by decide) (Nat.le_of_ble_eq_true rfl) rfl rfl (fun v253 h252 y254 => ?_) (fun _ _ hx => hx.elim)
                                                                    obtain ⟨rfl, hsc⟩ := y254
                                                                    show jv_V E 14 h252 0 0 (jv_Q E (fun v h' => v = some (.int (nI (m_met (decide (e = ec)) tsC ts pk su 4 ty n s rc).1)) ∧ rs x q h h' ∧ jv_I h' x 32 = jv_oN (m_met (decide (e = ec)) tsC ts pk su 4 ty n s rc).2 ∧ jv_I h' x 0 = jv_I h x 0 ∧ jv_I h' (q 22) c = nI ec ∧ jv_I h' (q 23) c = nI pk ∧ jv_I h' (q 24) c = jv_oN su) jv_no 0 0) 487 [(13, .int (nI (6 * (10 * e + p241.1) + p241.2))), (12, .int (nI (6 * (10 * e + p224.1) + p224.2))), (11, .int (nI (10 * e + k146))), (10, .int (nI 1)), (9, .int (-1)), (8, .int (nI (10 * e + k2))), (0, .ref x), (1, .int (nI c)), (2, .int (nI e)), (3, .int (nI 4)), (4, .int ty), (5, .int n), (6, .int s), (7, .int rc)] [.int (jv_oN (m_orn tsC ty n s rc)), .int (nI (mt_n t242))]
                                                                    refine jv_icmp_eq (q := 490) (tgt := 495) G dX8_met_487 (by decide) rfl (fun c255 => ?_) (fun c255 => ?_)
                                                                    · refine jv_iconst (q := 496) (v := nI 0) G dX8_met_495 (by decide) rfl ?_
                                                                      refine jv_iret G hr dX8_met_496 (Nat.le_of_ble_eq_true rfl) (Nat.le_of_ble_eq_true rfl) ?_
                                                                      have hz : (m_met (decide (e = ec)) tsC ts pk su 4 ty n s rc) = (0, some (mt_n t242)) := by
                                                                        unfold m_met m_isC m_bd
                                                                        simp only [*, if_true, if_false, Bool.false_eq_true, reduceIte, Option.map_some, decide_true, decide_false, not_true_eq_false, not_false_eq_true, eq_self, ne_eq, Nat.reduceLT, Nat.lt_irrefl, Nat.reduceEqDiff, and_true, true_and, and_false, false_and, or_true, true_or, or_false, false_or, Bool.or_true, Bool.or_false, Bool.true_or, Bool.false_or, reduceCtorEq] <;> rfl
                                                                      exact ⟨by rw [hz], hrs.tr hsc.rs, by rw [hz]; exact (hsc.x hS 32).trans hran, (hsc.x hS 0).trans hx0, (hsc.I2 hS 22 (by decide) rfl (by decide) c).trans hce, (hsc.I2 hS 23 (by decide) rfl (by decide) c).trans hpk, (hsc.I2 hS 24 (by decide) rfl (by decide) c).trans hsu⟩
                                                                    · refine jv_bipush (q := 492) (v := nI 8) G dX8_met_490 (by decide) rfl ?_
                                                                      refine jv_goto (q := 496) G dX8_met_492 (by decide) ?_
                                                                      refine jv_iret G hr dX8_met_496 (Nat.le_of_ble_eq_true rfl) (Nat.le_of_ble_eq_true rfl) ?_
                                                                      have hz : (m_met (decide (e = ec)) tsC ts pk su 4 ty n s rc) = (8, some (mt_n t242)) := by
                                                                        unfold m_met m_isC m_bd
                                                                        simp only [*, if_true, if_false, Bool.false_eq_true, reduceIte, Option.map_some, decide_true, decide_false, not_true_eq_false, not_false_eq_true, eq_self, ne_eq, Nat.reduceLT, Nat.lt_irrefl, Nat.reduceEqDiff, and_true, true_and, and_false, false_and, or_true, true_or, or_false, false_or, Bool.or_true, Bool.or_false, Bool.true_or, Bool.false_or, reduceCtorEq] <;> rfl
                                                                      exact ⟨by rw [hz], hrs.tr hsc.rs, by rw [hz]; exact (hsc.x hS 32).trans hran, (hsc.x hS 0).trans hx0, (hsc.I2 hS 22 (by decide) rfl (by decide) c).trans hce, (hsc.I2 hS 23 (by decide) rfl (by decide) c).trans hpk, (hsc.I2 hS 24 (by decide) rfl (by decide) c).trans hsu⟩
                                                                · refine jv_iconst (q := 445) (v := nI 3) G dX8_met_444 (by decide) rfl ?_
                                                                  refine jv_iret G hr dX8_met_445 (Nat.le_of_ble_eq_true rfl) (Nat.le_of_ble_eq_true rfl) ?_
                                                                  have hz : (m_met (decide (e = ec)) tsC ts pk su 4 ty n s rc) = (3, none) := by
                                                                    unfold m_met m_isC m_bd
                                                                    simp only [*, if_true, if_false, Bool.false_eq_true, reduceIte, Option.map_some, decide_true, decide_false, not_true_eq_false, not_false_eq_true, eq_self, ne_eq, Nat.reduceLT, Nat.lt_irrefl, Nat.reduceEqDiff, and_true, true_and, and_false, false_and, or_true, true_or, or_false, false_or, Bool.or_true, Bool.or_false, Bool.true_or, Bool.false_or, reduceCtorEq] <;> rfl
                                                                  exact ⟨by rw [hz], hrs.tr hsc.rs, by rw [hz]; exact (hsc.x hS 32).trans hran, (hsc.x hS 0).trans hx0, (hsc.I2 hS 22 (by decide) rfl (by decide) c).trans hce, (hsc.I2 hS 23 (by decide) rfl (by decide) c).trans hpk, (hsc.I2 hS 24 (by decide) rfl (by decide) c).trans hsu⟩
                                                            · refine jv_iconst (q := 427) (v := nI 5) G dX8_met_426 (by decide) rfl ?_
                                                              refine jv_iret G hr dX8_met_427 (Nat.le_of_ble_eq_true rfl) (Nat.le_of_ble_eq_true rfl) ?_
                                                              have hz : (m_met (decide (e = ec)) tsC ts pk su 4 ty n s rc) = (5, none) := by
                                                                unfold m_met m_isC m_bd
                                                                simp only [*, if_true, if_false, Bool.false_eq_true, reduceIte, Option.map_some, decide_true, decide_false, not_true_eq_false, not_false_eq_true, eq_self, ne_eq, Nat.reduceLT, Nat.lt_irrefl, Nat.reduceEqDiff, and_true, true_and, and_false, false_and, or_true, true_or, or_false, false_or, Bool.or_true, Bool.or_false, Bool.true_or, Bool.false_or, reduceCtorEq] <;> rfl
                                                              exact ⟨by rw [hz], hrs.tr hsc.rs, by rw [hz]; exact (hsc.x hS 32).trans hran, (hsc.x hS 0).trans hx0, (hsc.I2 hS 22 (by decide) rfl (by decide) c).trans hce, (hsc.I2 hS 23 (by decide) rfl (by decide) c).trans hpk, (hsc.I2 hS 24 (by decide) rfl (by decide) c).trans hsu⟩
                                                      · have Kc237 : (k146 = k2) = False := eq_false (by omega)
                                                        refine jv_aload_n (q := 385) G 5 dX8_met_384 rfl rfl rfl ?_
                                                        refine jv_iload_n (q := 386) G 7 dX8_met_385 rfl rfl rfl ?_
                                                        refine jv_iload (q := 388) G 9 dX8_met_386 rfl rfl ?_
                                                        refine jv_iload (q := 390) G 12 dX8_met_388 rfl rfl ?_
                                                        refine jv_callV_I (q := 393) (h1 := h221) (As := [.int (nI e), .int ty, .int rc]) (rest := []) (ce' := 0) (sl' := 0) (r := jv_bI (m_isA ts ty rc)) G Z ml_X8_167 (r_isAbove hlt hsc hS he hV) (hsc.S hS).1 dX8_met_390 rfl (by decide) (by decide) (by decide) (by decide) (Nat.le_of_ble_eq_true rfl) rfl rfl rfl rfl ?_
                                                        refine jv_if_neB (q := 396) (tgt := 399) G dX8_met_393 (by decide) rfl (fun c256 => ?_) (fun c256 => ?_)
                                                        · refine jv_aload_n (q := 400) G 5 dX8_met_399 rfl rfl rfl ?_
                                                          refine jv_iload_n (q := 401) G 7 dX8_met_400 rfl rfl rfl ?_
                                                          refine jv_iload (q := 403) G 0 dX8_met_401 rfl rfl ?_
                                                          refine jv_iload (q := 405) G 1 dX8_met_403 rfl rfl ?_
                                                          refine jv_callV (q := 408) (As := [.int (nI e), .int (nI (6 * (10 * e + p224.1) + p224.2)), .int (nI (10 * e + k146))]) (rest := []) G Z ml_X8_189 (r_selected (d := 11) hlt hsc hS he hE hV ht225 hm226 ht147 (hg k146 (by omega))) (hsc.S hS).1 dX8_met_405 rfl (by decide) (by decide) (by decide) (by decide) (Nat.le_of_ble_eq_true rfl) rfl rfl (fun v258 h257 y259 => ?_) (fun _ _ hx => hx.elim)
                                                          obtain ⟨rfl, hsc⟩ := y259
                                                          show jv_V E 14 h257 0 0 (jv_Q E (fun v h' => v = some (.int (nI (m_met (decide (e = ec)) tsC ts pk su 4 ty n s rc).1)) ∧ rs x q h h' ∧ jv_I h' x 32 = jv_oN (m_met (decide (e = ec)) tsC ts pk su 4 ty n s rc).2 ∧ jv_I h' x 0 = jv_I h x 0 ∧ jv_I h' (q 22) c = nI ec ∧ jv_I h' (q 23) c = nI pk ∧ jv_I h' (q 24) c = jv_oN su) jv_no 0 0) 408 [(12, .int (nI (6 * (10 * e + p224.1) + p224.2))), (11, .int (nI (10 * e + k146))), (10, .int (nI 1)), (9, .int (-1)), (8, .int (nI (10 * e + k2))), (0, .ref x), (1, .int (nI c)), (2, .int (nI e)), (3, .int (nI 4)), (4, .int ty), (5, .int n), (6, .int s), (7, .int rc)] [.int (ffE e (m_sl ts 11 t225 m226 p224.1 p224.2 k146))]
                                                          rcases Option.eq_none_or_eq_some (m_sl ts 11 t225 m226 p224.1 p224.2 k146) with hp263 | ⟨p260, hp263⟩
                                                          · refine jv_topI (y := (-1)) (by rw [hp263]; rfl) ?_
                                                            refine jv_istore (q := 410) (lo' := [(13, .int (-1)), (12, .int (nI (6 * (10 * e + p224.1) + p224.2))), (11, .int (nI (10 * e + k146))), (10, .int (nI 1)), (9, .int (-1)), (8, .int (nI (10 * e + k2))), (0, .ref x), (1, .int (nI c)), (2, .int (nI e)), (3, .int (nI 4)), (4, .int ty), (5, .int n), (6, .int s), (7, .int rc)]) G dX8_met_408 (by decide) rfl rfl ?_
                                                            refine jv_iload (q := 412) G 0 dX8_met_410 rfl rfl ?_
                                                            refine jv_iconst (q := 413) (v := (-1)) G dX8_met_412 (by decide) rfl ?_
                                                            refine jv_icmp_eq (q := 416) (tgt := 426) G dX8_met_413 (by decide) rfl (fun c264 => ?_) (fun c264 => ?_)
                                                            · refine jv_iconst (q := 427) (v := nI 5) G dX8_met_426 (by decide) rfl ?_
                                                              refine jv_iret G hr dX8_met_427 (Nat.le_of_ble_eq_true rfl) (Nat.le_of_ble_eq_true rfl) ?_
                                                              have hz : (m_met (decide (e = ec)) tsC ts pk su 4 ty n s rc) = (5, none) := by
                                                                unfold m_met m_isC m_bd
                                                                simp only [*, if_true, if_false, Bool.false_eq_true, reduceIte, Option.map_some, decide_true, decide_false, not_true_eq_false, not_false_eq_true, eq_self, ne_eq, Nat.reduceLT, Nat.lt_irrefl, Nat.reduceEqDiff, and_true, true_and, and_false, false_and, or_true, true_or, or_false, false_or, Bool.or_true, Bool.or_false, Bool.true_or, Bool.false_or, reduceCtorEq] <;> rfl
                                                              exact ⟨by rw [hz], hrs.tr hsc.rs, by rw [hz]; exact (hsc.x hS 32).trans hran, (hsc.x hS 0).trans hx0, (hsc.I2 hS 22 (by decide) rfl (by decide) c).trans hce, (hsc.I2 hS 23 (by decide) rfl (by decide) c).trans hpk, (hsc.I2 hS 24 (by decide) rfl (by decide) c).trans hsu⟩
                                                            · exact absurd rfl c264
                                                          · refine jv_topI (y := nI (6 * (10 * e + p260.1) + p260.2)) (by rw [hp263]; rfl) ?_
                                                            obtain ⟨t261, ht261, m262, hm262⟩ := m_sl_mem ht225 hm226 hp263
                                                            have Tt261 := (hE.2.2 p260.1 t261 ht261).1
                                                            have Ot261 := (hE.2.2 p260.1 t261 ht261).2
                                                            have Lt261 := hE.2.1
                                                            have lt261 := jv_ltGet ht261
                                                            have Mm262 := rt_m Tt261 hm262
                                                            have Om262 := Ot261.2.2.2.2.2.2 m262 (List.mem_of_getElem? hm262)
                                                            have Lm262 := Ot261.2.2.2.2.2.1
                                                            have lm262 := jv_ltGet hm262
                                                            have Bm262n := Om262.1; have Bm262s := Om262.2.1; have Bm262a := Om262.2.2.1; have Bt261n := Ot261.1; have Bt261k := Ot261.2.1
                                                            refine jv_istore (q := 410) (lo' := [(13, .int (nI (6 * (10 * e + p260.1) + p260.2))), (12, .int (nI (6 * (10 * e + p224.1) + p224.2))), (11, .int (nI (10 * e + k146))), (10, .int (nI 1)), (9, .int (-1)), (8, .int (nI (10 * e + k2))), (0, .ref x), (1, .int (nI c)), (2, .int (nI e)), (3, .int (nI 4)), (4, .int ty), (5, .int n), (6, .int s), (7, .int rc)]) G dX8_met_408 (by decide) rfl rfl ?_
                                                            refine jv_iload (q := 412) G 0 dX8_met_410 rfl rfl ?_
                                                            refine jv_iconst (q := 413) (v := (-1)) G dX8_met_412 (by decide) rfl ?_
                                                            refine jv_icmp_eq (q := 416) (tgt := 426) G dX8_met_413 (by decide) rfl (fun c265 => ?_) (fun c265 => ?_)
                                                            · exact absurd c265 (jv_nI_m1 (by omega))
                                                            · refine jv_aload_n (q := 417) G 6 dX8_met_416 rfl rfl rfl ?_
                                                              refine jv_getQ (q := 420) G dX8_met_417 fl_X8_59 rfl (hsc.S hS).1 (rf_p18 (hsc.S hS)) rfl ?_
                                                              refine jv_iload (q := 422) G 0 dX8_met_420 rfl rfl ?_
                                                              refine jv_iald (q := 423) G dX8_met_422 (rf_a18 (hsc.S hS)) rfl (by omega) (by decide) (hsc.M hS Mm262).2.2.2.2.2.1 rfl ?_
                                                              refine jv_if_ge (q := 426) (tgt := 428) G dX8_met_423 (by decide) rfl (fun c266 => ?_) (fun c266 => ?_)
                                                              · refine jv_iload_n (q := 429) G 9 dX8_met_428 rfl rfl rfl ?_
                                                                refine jv_iconst (q := 430) (v := nI 4) G dX8_met_429 (by decide) rfl ?_
                                                                refine jv_icmp_neN (q := 433) (tgt := 446) G dX8_met_430 (by decide) rfl (by omega) (by omega) (fun c267 => ?_) (fun c267 => ?_)
                                                                · omega
                                                                · refine jv_aload_n (q := 434) G 6 dX8_met_433 rfl rfl rfl ?_
                                                                  refine jv_getQ (q := 437) G dX8_met_434 fl_X8_53 rfl (hsc.S hS).1 (rf_p16 (hsc.S hS)) rfl ?_
                                                                  refine jv_iload (q := 439) G 0 dX8_met_437 rfl rfl ?_
                                                                  refine jv_iald (q := 440) G dX8_met_439 (rf_a16 (hsc.S hS)) rfl (by omega) (by decide) (hsc.M hS Mm262).2.2.2.1 rfl ?_
                                                                  refine jv_iconst (q := 441) (v := nI 3) G dX8_met_440 (by decide) rfl ?_
                                                                  refine jv_icmp_eqN (q := 444) (tgt := 446) G dX8_met_441 (by decide) rfl (by omega) (by omega) (fun c268 => ?_) (fun c268 => ?_)
                                                                  · refine jv_aload_n (q := 447) G 6 dX8_met_446 rfl rfl rfl ?_
                                                                    refine jv_aload_n (q := 448) G 6 dX8_met_447 rfl rfl rfl ?_
                                                                    refine jv_getQ (q := 451) G dX8_met_448 fl_X8_17 rfl (hsc.S hS).1 (rf_p4 (hsc.S hS)) rfl ?_
                                                                    refine jv_iload (q := 453) G 0 dX8_met_451 rfl rfl ?_
                                                                    refine jv_callS_I (q := 456) (h1 := h257) (As := [.int (nI (6 * (10 * e + p260.1) + p260.2))]) (rest := [.ref (q 4), .ref x]) (ce' := 0) (sl' := 0) (r := nI ((6 * (10 * e + p260.1) + p260.2) / 6)) G Z ml_X8_183 (r_typeOf hlt (by omega)) dX8_met_453 rfl (by decide) (by decide) (by decide) (by decide) (Nat.le_of_ble_eq_true rfl) rfl rfl rfl rfl ?_
                                                                    refine jv_topI (y := nI (10 * e + p260.1)) (congrArg nI (by omega)) ?_
                                                                    refine jv_iald (q := 457) G dX8_met_456 (rf_a4 (hsc.S hS)) rfl (by omega) (by decide) (rt_4 (hsc.T hS Tt261)) rfl ?_
                                                                    refine jv_putI (q := 460) G dX8_met_457 fl_X8_192 rfl (hsc.S hS).1 rfl ?_
                                                                    have hr1 : rs x q h257 (jv_wI h257 x 32 (nI (mt_n t261))) := rs.rf.wI (nI (mt_n t261)) (Or.inl ⟨rfl, Or.inr (Or.inl rfl)⟩)
                                                                    have hran : jv_I (jv_wI h257 x 32 (nI (mt_n t261))) x 32 = (nI (mt_n t261)) := jv_I_self _ _ _ _
                                                                    have hSb := hsc.S hS
                                                                    have hE := hr1.E hSb (hsc.E hS hE)
                                                                    have hV := hr1.V hSb (hsc.V hS hV)
                                                                    have hEC := hr1.E hSb (hsc.E hS hEC)
                                                                    have hVC := hr1.V hSb (hsc.V hS hVC)
                                                                    have hce := (wx_I hSb 22 (by decide) rfl 32 c (nI (mt_n t261))).trans ((hsc.I2 hS 22 (by decide) rfl (by decide) c).trans hce)
                                                                    have hpk := (wx_I hSb 23 (by decide) rfl 32 c (nI (mt_n t261))).trans ((hsc.I2 hS 23 (by decide) rfl (by decide) c).trans hpk)
                                                                    have hsu := (wx_I hSb 24 (by decide) rfl 32 c (nI (mt_n t261))).trans ((hsc.I2 hS 24 (by decide) rfl (by decide) c).trans hsu)
                                                                    have hrs := (hrs.tr hsc.rs).tr hr1
                                                                    have hx0 : jv_I (jv_wI h257 x 32 (nI (mt_n t261))) x 0 = jv_I h x 0 := by rw [jv_I_wI, if_neg (fun z => by cases z.2)] <;> exact (hsc.x hS 0).trans hx0
                                                                    have hS := hr1.S hSb
                                                                    generalize jv_wI h257 x 32 (nI (mt_n t261)) = h269 at hran hx0 hE hV hEC hVC hce hpk hsu hrs hS ⊢
                                                                    have hsc : sc x q h269 h269 := sc.rf
                                                                    refine jv_iload_n (q := 461) G 8 dX8_met_460 rfl rfl rfl ?_
                                                                    refine jv_aload_n (q := 462) G 6 dX8_met_461 rfl rfl rfl ?_
                                                                    refine jv_getQ (q := 465) G dX8_met_462 fl_X8_68 rfl (hsc.S hS).1 (rf_p22 (hsc.S hS)) rfl ?_
                                                                    refine jv_iload_n (q := 466) G 7 dX8_met_465 rfl rfl rfl ?_
                                                                    refine jv_iald (q := 467) G dX8_met_466 (rf_a22 (hsc.S hS)) rfl (by omega) (by decide) ((hsc.I2 hS 22 (by decide) rfl (by decide) c).trans hce) rfl ?_
                                                                    refine jv_icmp_eqN (q := 470) (tgt := 495) G dX8_met_467 (by decide) rfl (by omega) (by omega) (fun c270 => ?_) (fun c270 => ?_)
                                                                    · omega
                                                                    · refine jv_aload_n (q := 471) G 6 dX8_met_470 rfl rfl rfl ?_
                                                                      refine jv_getI (q := 474) G dX8_met_471 fl_X8_192 rfl (hsc.S hS).1 ((hsc.x hS 32).trans hran) rfl ?_
                                                                      refine jv_aload_n (q := 475) G 6 dX8_met_474 rfl rfl rfl ?_
                                                                      refine jv_iload_n (q := 476) G 7 dX8_met_475 rfl rfl rfl ?_
                                                                      refine jv_iload (q := 478) G 10 dX8_met_476 rfl rfl ?_
                                                                      refine jv_iload (q := 480) G 11 dX8_met_478 rfl rfl ?_
                                                                      refine jv_iload (q := 482) G 12 dX8_met_480 rfl rfl ?_
                                                                      refine jv_iload (q := 484) G 13 dX8_met_482 rfl rfl ?_
                                                                      refine jv_callV (q := 487) (As := [.int (nI c), .int ty, .int n, .int s, .int rc]) (rest := [.int (nI (mt_n t261))]) G Z ml_X8_202 (r_ownRun hlt hsc hS hc hec hEC hVC hce hgC) (hsc.S hS).1 dX8_met_484 rfl (by decide) (by decide) (by decide) (by decide) (Nat.le_of_ble_eq_true rfl) rfl rfl (fun v272 h271 y273 => ?_) (fun _ _ hx => hx.elim)
                                                                      obtain ⟨rfl, hsc⟩ := y273
                                                                      show jv_V E 14 h271 0 0 (jv_Q E (fun v h' => v = some (.int (nI (m_met (decide (e = ec)) tsC ts pk su 4 ty n s rc).1)) ∧ rs x q h h' ∧ jv_I h' x 32 = jv_oN (m_met (decide (e = ec)) tsC ts pk su 4 ty n s rc).2 ∧ jv_I h' x 0 = jv_I h x 0 ∧ jv_I h' (q 22) c = nI ec ∧ jv_I h' (q 23) c = nI pk ∧ jv_I h' (q 24) c = jv_oN su) jv_no 0 0) 487 [(13, .int (nI (6 * (10 * e + p260.1) + p260.2))), (12, .int (nI (6 * (10 * e + p224.1) + p224.2))), (11, .int (nI (10 * e + k146))), (10, .int (nI 1)), (9, .int (-1)), (8, .int (nI (10 * e + k2))), (0, .ref x), (1, .int (nI c)), (2, .int (nI e)), (3, .int (nI 4)), (4, .int ty), (5, .int n), (6, .int s), (7, .int rc)] [.int (jv_oN (m_orn tsC ty n s rc)), .int (nI (mt_n t261))]
                                                                      refine jv_icmp_eq (q := 490) (tgt := 495) G dX8_met_487 (by decide) rfl (fun c274 => ?_) (fun c274 => ?_)
                                                                      · refine jv_iconst (q := 496) (v := nI 0) G dX8_met_495 (by decide) rfl ?_
                                                                        refine jv_iret G hr dX8_met_496 (Nat.le_of_ble_eq_true rfl) (Nat.le_of_ble_eq_true rfl) ?_
                                                                        have hz : (m_met (decide (e = ec)) tsC ts pk su 4 ty n s rc) = (0, some (mt_n t261)) := by
                                                                          unfold m_met m_isC m_bd
                                                                          simp only [*, if_true, if_false, Bool.false_eq_true, reduceIte, Option.map_some, decide_true, decide_false, not_true_eq_false, not_false_eq_true, eq_self, ne_eq, Nat.reduceLT, Nat.lt_irrefl, Nat.reduceEqDiff, and_true, true_and, and_false, false_and, or_true, true_or, or_false, false_or, Bool.or_true, Bool.or_false, Bool.true_or, Bool.false_or, reduceCtorEq] <;> rfl
                                                                        exact ⟨by rw [hz], hrs.tr hsc.rs, by rw [hz]; exact (hsc.x hS 32).trans hran, (hsc.x hS 0).trans hx0, (hsc.I2 hS 22 (by decide) rfl (by decide) c).trans hce, (hsc.I2 hS 23 (by decide) rfl (by decide) c).trans hpk, (hsc.I2 hS 24 (by decide) rfl (by decide) c).trans hsu⟩
                                                                      · refine jv_bipush (q := 492) (v := nI 8) G dX8_met_490 (by decide) rfl ?_
                                                                        refine jv_goto (q := 496) G dX8_met_492 (by decide) ?_
                                                                        refine jv_iret G hr dX8_met_496 (Nat.le_of_ble_eq_true rfl) (Nat.le_of_ble_eq_true rfl) ?_
                                                                        have hz : (m_met (decide (e = ec)) tsC ts pk su 4 ty n s rc) = (8, some (mt_n t261)) := by
                                                                          unfold m_met m_isC m_bd
                                                                          simp only [*, if_true, if_false, Bool.false_eq_true, reduceIte, Option.map_some, decide_true, decide_false, not_true_eq_false, not_false_eq_true, eq_self, ne_eq, Nat.reduceLT, Nat.lt_irrefl, Nat.reduceEqDiff, and_true, true_and, and_false, false_and, or_true, true_or, or_false, false_or, Bool.or_true, Bool.or_false, Bool.true_or, Bool.false_or, reduceCtorEq] <;> rfl
                                                                        exact ⟨by rw [hz], hrs.tr hsc.rs, by rw [hz]; exact (hsc.x hS 32).trans hran, (hsc.x hS 0).trans hx0, (hsc.I2 hS 22 (by decide) rfl (by decide) c).trans hce, (hsc.I2 hS 23 (by decide) rfl (by decide) c).trans hpk, (hsc.I2 hS 24 (by decide) rfl (by decide) c).trans hsu⟩
                                                                  · refine jv_iconst (q := 445) (v := nI 3) G dX8_met_444 (by decide) rfl ?_
                                                                    refine jv_iret G hr dX8_met_445 (Nat.le_of_ble_eq_true rfl) (Nat.le_of_ble_eq_true rfl) ?_
                                                                    have hz : (m_met (decide (e = ec)) tsC ts pk su 4 ty n s rc) = (3, none) := by
                                                                      unfold m_met m_isC m_bd
                                                                      simp only [*, if_true, if_false, Bool.false_eq_true, reduceIte, Option.map_some, decide_true, decide_false, not_true_eq_false, not_false_eq_true, eq_self, ne_eq, Nat.reduceLT, Nat.lt_irrefl, Nat.reduceEqDiff, and_true, true_and, and_false, false_and, or_true, true_or, or_false, false_or, Bool.or_true, Bool.or_false, Bool.true_or, Bool.false_or, reduceCtorEq] <;> rfl
                                                                    exact ⟨by rw [hz], hrs.tr hsc.rs, by rw [hz]; exact (hsc.x hS 32).trans hran, (hsc.x hS 0).trans hx0, (hsc.I2 hS 22 (by decide) rfl (by decide) c).trans hce, (hsc.I2 hS 23 (by decide) rfl (by decide) c).trans hpk, (hsc.I2 hS 24 (by decide) rfl (by decide) c).trans hsu⟩
                                                              · refine jv_iconst (q := 427) (v := nI 5) G dX8_met_426 (by decide) rfl ?_
                                                                refine jv_iret G hr dX8_met_427 (Nat.le_of_ble_eq_true rfl) (Nat.le_of_ble_eq_true rfl) ?_
                                                                have hz : (m_met (decide (e = ec)) tsC ts pk su 4 ty n s rc) = (5, none) := by
                                                                  unfold m_met m_isC m_bd
                                                                  simp only [*, if_true, if_false, Bool.false_eq_true, reduceIte, Option.map_some, decide_true, decide_false, not_true_eq_false, not_false_eq_true, eq_self, ne_eq, Nat.reduceLT, Nat.lt_irrefl, Nat.reduceEqDiff, and_true, true_and, and_false, false_and, or_true, true_or, or_false, false_or, Bool.or_true, Bool.or_false, Bool.true_or, Bool.false_or, reduceCtorEq] <;> rfl
                                                                exact ⟨by rw [hz], hrs.tr hsc.rs, by rw [hz]; exact (hsc.x hS 32).trans hran, (hsc.x hS 0).trans hx0, (hsc.I2 hS 22 (by decide) rfl (by decide) c).trans hce, (hsc.I2 hS 23 (by decide) rfl (by decide) c).trans hpk, (hsc.I2 hS 24 (by decide) rfl (by decide) c).trans hsu⟩
                                                        · refine jv_bipush (q := 398) (v := nI 6) G dX8_met_396 (by decide) rfl ?_
                                                          refine jv_iret G hr dX8_met_398 (Nat.le_of_ble_eq_true rfl) (Nat.le_of_ble_eq_true rfl) ?_
                                                          have hz : (m_met (decide (e = ec)) tsC ts pk su 4 ty n s rc) = (6, none) := by
                                                            unfold m_met m_isC m_bd
                                                            simp only [*, if_true, if_false, Bool.false_eq_true, reduceIte, Option.map_some, decide_true, decide_false, not_true_eq_false, not_false_eq_true, eq_self, ne_eq, Nat.reduceLT, Nat.lt_irrefl, Nat.reduceEqDiff, and_true, true_and, and_false, false_and, or_true, true_or, or_false, false_or, Bool.or_true, Bool.or_false, Bool.true_or, Bool.false_or, reduceCtorEq] <;> rfl
                                                          exact ⟨by rw [hz], hrs.tr hsc.rs, by rw [hz]; exact (hsc.x hS 32).trans hran, (hsc.x hS 0).trans hx0, (hsc.I2 hS 22 (by decide) rfl (by decide) c).trans hce, (hsc.I2 hS 23 (by decide) rfl (by decide) c).trans hpk, (hsc.I2 hS 24 (by decide) rfl (by decide) c).trans hsu⟩
                                                · omega
                                              · refine jv_iconst (q := 326) (v := nI 4) G dX8_met_325 (by decide) rfl ?_
                                                refine jv_iret G hr dX8_met_326 (Nat.le_of_ble_eq_true rfl) (Nat.le_of_ble_eq_true rfl) ?_
                                                have hz : (m_met (decide (e = ec)) tsC ts pk su 4 ty n s rc) = (4, none) := by
                                                  unfold m_met m_isC m_bd
                                                  simp only [*, if_true, if_false, Bool.false_eq_true, reduceIte, Option.map_some, decide_true, decide_false, not_true_eq_false, not_false_eq_true, eq_self, ne_eq, Nat.reduceLT, Nat.lt_irrefl, Nat.reduceEqDiff, and_true, true_and, and_false, false_and, or_true, true_or, or_false, false_or, Bool.or_true, Bool.or_false, Bool.true_or, Bool.false_or, reduceCtorEq] <;> rfl
                                                exact ⟨by rw [hz], hrs.tr hsc.rs, by rw [hz]; exact (hsc.x hS 32).trans hran, (hsc.x hS 0).trans hx0, (hsc.I2 hS 22 (by decide) rfl (by decide) c).trans hce, (hsc.I2 hS 23 (by decide) rfl (by decide) c).trans hpk, (hsc.I2 hS 24 (by decide) rfl (by decide) c).trans hsu⟩
                                            · omega
                                        · refine jv_iconst (q := 299) (v := nI 3) G dX8_met_298 (by decide) rfl ?_
                                          refine jv_iret G hr dX8_met_299 (Nat.le_of_ble_eq_true rfl) (Nat.le_of_ble_eq_true rfl) ?_
                                          have hz : (m_met (decide (e = ec)) tsC ts pk su 4 ty n s rc) = (3, none) := by
                                            unfold m_met m_isC m_bd
                                            simp only [*, if_true, if_false, Bool.false_eq_true, reduceIte, Option.map_some, decide_true, decide_false, not_true_eq_false, not_false_eq_true, eq_self, ne_eq, Nat.reduceLT, Nat.lt_irrefl, Nat.reduceEqDiff, and_true, true_and, and_false, false_and, or_true, true_or, or_false, false_or, Bool.or_true, Bool.or_false, Bool.true_or, Bool.false_or, reduceCtorEq] <;> rfl
                                          exact ⟨by rw [hz], hrs.tr hsc.rs, by rw [hz]; exact (hsc.x hS 32).trans hran, (hsc.x hS 0).trans hx0, (hsc.I2 hS 22 (by decide) rfl (by decide) c).trans hce, (hsc.I2 hS 23 (by decide) rfl (by decide) c).trans hpk, (hsc.I2 hS 24 (by decide) rfl (by decide) c).trans hsu⟩
                                      · exact absurd c229 (jv_nI_m1 (by omega))
                                  · omega
                                · omega
                              · refine jv_bipush (q := 225) (v := nI 6) G dX8_met_223 (by decide) rfl ?_
                                refine jv_iret G hr dX8_met_225 (Nat.le_of_ble_eq_true rfl) (Nat.le_of_ble_eq_true rfl) ?_
                                have hz : (m_met (decide (e = ec)) tsC ts pk su 4 ty n s rc) = (6, none) := by
                                  unfold m_met m_isC m_bd
                                  simp only [*, if_true, if_false, Bool.false_eq_true, reduceIte, Option.map_some, decide_true, decide_false, not_true_eq_false, not_false_eq_true, eq_self, ne_eq, Nat.reduceLT, Nat.lt_irrefl, Nat.reduceEqDiff, and_true, true_and, and_false, false_and, or_true, true_or, or_false, false_or, Bool.or_true, Bool.or_false, Bool.true_or, Bool.false_or, reduceCtorEq] <;> rfl
                                exact ⟨by rw [hz], hrs.tr hsc.rs, by rw [hz]; exact (hsc.x hS 32).trans hran, (hsc.x hS 0).trans hx0, (hsc.I2 hS 22 (by decide) rfl (by decide) c).trans hce, (hsc.I2 hS 23 (by decide) rfl (by decide) c).trans hpk, (hsc.I2 hS 24 (by decide) rfl (by decide) c).trans hsu⟩
                          · omega
                        · refine jv_iconst (q := 192) (v := nI 3) G dX8_met_191 (by decide) rfl ?_
                          refine jv_iret G hr dX8_met_192 (Nat.le_of_ble_eq_true rfl) (Nat.le_of_ble_eq_true rfl) ?_
                          have hz : (m_met (decide (e = ec)) tsC ts pk su 4 ty n s rc) = (3, none) := by
                            unfold m_met m_isC m_bd
                            simp only [*, if_true, if_false, Bool.false_eq_true, reduceIte, Option.map_some, decide_true, decide_false, not_true_eq_false, not_false_eq_true, eq_self, ne_eq, Nat.reduceLT, Nat.lt_irrefl, Nat.reduceEqDiff, and_true, true_and, and_false, false_and, or_true, true_or, or_false, false_or, Bool.or_true, Bool.or_false, Bool.true_or, Bool.false_or, reduceCtorEq] <;> rfl
                          exact ⟨by rw [hz], hrs.tr hsc.rs, by rw [hz]; exact (hsc.x hS 32).trans hran, (hsc.x hS 0).trans hx0, (hsc.I2 hS 22 (by decide) rfl (by decide) c).trans hce, (hsc.I2 hS 23 (by decide) rfl (by decide) c).trans hpk, (hsc.I2 hS 24 (by decide) rfl (by decide) c).trans hsu⟩
                    · exact absurd c154 (jv_nI_m1 (by omega))
      · exact absurd rfl c142
