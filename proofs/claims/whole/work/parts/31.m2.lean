set_option maxHeartbeats 4000000 in
set_option maxRecDepth 100000 in
theorem r_met2 {lA : Launch} (hlt : lA.stackTraces = false) {D : jv_D} {base : Nat} {x : Nat} {q : Nat → Nat} {h : jv_H} {c e ec pk : Nat} {su : Option Nat} {ty n s rc : Int32} {tsC ts : List mT} (hS : rf_S x q h) (hc : c < 13) (he : e < 8) (hec : ec < 8) (hE : rf_E q h e ts) (hV : rf_V q h e ts) (hEC : rf_E q h ec tsC) (hVC : rf_V q h ec tsC) (hce : jv_I h (q 22) c = nI ec) (hpk : jv_I h (q 23) c = nI pk) (hpk5 : pk < 5) (hsu : jv_I h (q 24) c = jv_oN su) (hsu16 : ∀ u, su = some u → u < 16) (hg : ∀ k, k < ts.length → m_hg ts 11 k) (hgC : ∀ k, k < tsC.length → m_hg tsC 11 k) : jv_Met lA D base yX8_met (.code yX8_met cX8_met 14 (some .int)) 15 0 0 [.ref x, .int (nI c), .int (nI e), .int (nI 2), .int ty, .int n, .int s, .int rc] h (fun v h' => v = some (.int (nI (m_met (decide (e = ec)) tsC ts pk su 2 ty n s rc).1)) ∧ rs x q h h' ∧ jv_I h' x 32 = jv_oN (m_met (decide (e = ec)) tsC ts pk su 2 ty n s rc).2 ∧ jv_I h' x 0 = jv_I h x 0 ∧ jv_I h' (q 22) c = nI ec ∧ jv_I h' (q 23) c = nI pk ∧ jv_I h' (q 24) c = jv_oN su) jv_no := by
  refine jv_ofV (lo := [(0, .ref x), (1, .int (nI c)), (2, .int (nI e)), (3, .int (nI 2)), (4, .int ty), (5, .int n), (6, .int s), (7, .int rc)]) hlt (by decide) (Nat.le_of_ble_eq_true rfl) rfl (fun E hEl hEd hEz Z G hr ht hnm => ?_)
  subst hEl; subst hEd; subst hEz
  have hlen := hE.2.1
  have hlenC := hEC.2.1
  have hrs : rs x q h h := rs.rf
  have hx0 : jv_I h x 0 = jv_I h x 0 := rfl
  have hsc : sc x q h h := sc.rf
  have hco : m_co tsC 2 ty n s = none := rfl
  refine jv_aload_n (q := 1) G 0 dX8_met_0 rfl rfl rfl ?_
  refine jv_iconst (q := 2) (v := (-1)) G dX8_met_1 (by decide) rfl ?_
  refine jv_putI (q := 5) G dX8_met_2 fl_X8_192 rfl (hsc.S hS).1 rfl ?_
  have hr1 : rs x q h (jv_wI h x 32 (-1)) := rs.rf.wI (-1) (Or.inl ⟨rfl, Or.inr (Or.inl rfl)⟩)
  have hran : jv_I (jv_wI h x 32 (-1)) x 32 = (-1) := jv_I_self _ _ _ _
  have hSb := hsc.S hS
  have hE := hr1.E hSb (hsc.E hS hE)
  have hV := hr1.V hSb (hsc.V hS hV)
  have hEC := hr1.E hSb (hsc.E hS hEC)
  have hVC := hr1.V hSb (hsc.V hS hVC)
  have hce := (wx_I hSb 22 (by decide) rfl 32 c (-1)).trans ((hsc.I2 hS 22 (by decide) rfl (by decide) c).trans hce)
  have hpk := (wx_I hSb 23 (by decide) rfl 32 c (-1)).trans ((hsc.I2 hS 23 (by decide) rfl (by decide) c).trans hpk)
  have hsu := (wx_I hSb 24 (by decide) rfl 32 c (-1)).trans ((hsc.I2 hS 24 (by decide) rfl (by decide) c).trans hsu)
  have hrs := (hrs.tr hsc.rs).tr hr1
  have hx0 : jv_I (jv_wI h x 32 (-1)) x 0 = jv_I h x 0 := by rw [jv_I_wI, if_neg (fun z => by cases z.2)] <;> exact (hsc.x hS 0).trans hx0
  have hS := hr1.S hSb
  generalize jv_wI h x 32 (-1) = h1 at hran hx0 hE hV hEC hVC hce hpk hsu hrs hS ⊢
  have hsc : sc x q h1 h1 := sc.rf
  refine jv_aload_n (q := 6) G 0 dX8_met_5 rfl rfl rfl ?_
  refine jv_iload_n (q := 7) G 2 dX8_met_6 rfl rfl rfl ?_
  refine jv_iload (q := 9) G 4 dX8_met_7 rfl rfl ?_
  refine jv_callV_I (q := 12) (h1 := h1) (As := [.int (nI e), .int ty]) (rest := []) (ce' := 0) (sl' := 0) (r := jv_oN ((m_at ts ty).map (fun k => 10 * e + k))) G Z ml_X8_151 (r_at hlt (hsc.S hS) he (hsc.E hS hE)) (hsc.S hS).1 dX8_met_9 rfl (by decide) (by decide) (by decide) (by decide) (Nat.le_of_ble_eq_true rfl) rfl rfl rfl rfl ?_
  rcases Option.eq_none_or_eq_some (m_at ts ty) with hk4 | ⟨k2, hk4⟩
  · refine jv_topI (y := (-1)) (by rw [hk4]; rfl) ?_
    refine jv_istore (q := 14) (lo' := [(8, .int (-1)), (0, .ref x), (1, .int (nI c)), (2, .int (nI e)), (3, .int (nI 2)), (4, .int ty), (5, .int n), (6, .int s), (7, .int rc)]) G dX8_met_12 (by decide) rfl rfl ?_
    refine jv_iload_n (q := 15) G 3 dX8_met_14 rfl rfl rfl ?_
    refine jv_aload_n (q := 16) G 1 dX8_met_15 rfl rfl rfl ?_
    refine jv_getQ (q := 19) G dX8_met_16 fl_X8_68 rfl (hsc.S hS).1 (rf_p22 (hsc.S hS)) rfl ?_
    refine jv_iload_n (q := 20) G 2 dX8_met_19 rfl rfl rfl ?_
    refine jv_iald (q := 21) G dX8_met_20 (rf_a22 (hsc.S hS)) rfl (by omega) (by decide) ((hsc.I2 hS 22 (by decide) rfl (by decide) c).trans hce) rfl ?_
    refine jv_icmp_eqN (q := 24) (tgt := 39) G dX8_met_21 (by decide) rfl (by omega) (by omega) (fun c5 => ?_) (fun c5 => ?_)
    · refine jv_iconst (q := 40) (v := (-1)) G dX8_met_39 (by decide) rfl ?_
      refine jv_istore (q := 42) (lo' := [(9, .int (-1)), (8, .int (-1)), (0, .ref x), (1, .int (nI c)), (2, .int (nI e)), (3, .int (nI 2)), (4, .int ty), (5, .int n), (6, .int s), (7, .int rc)]) G dX8_met_40 (by decide) rfl rfl ?_
      refine jv_iload (q := 44) G 0 dX8_met_42 rfl rfl ?_
      refine jv_iconst (q := 45) (v := (-1)) G dX8_met_44 (by decide) rfl ?_
      refine jv_icmp_eq (q := 48) (tgt := 111) G dX8_met_45 (by decide) rfl (fun c6 => ?_) (fun c6 => ?_)
      · refine jv_iload_n (q := 112) G 5 dX8_met_111 rfl rfl rfl ?_
        refine jv_iconst (q := 113) (v := nI 2) G dX8_met_112 (by decide) rfl ?_
        refine jv_icmp_eqN (q := 116) (tgt := 121) G dX8_met_113 (by decide) rfl (by omega) (by omega) (fun c7 => ?_) (fun c7 => ?_)
        · refine jv_iconst (q := 122) (v := nI 1) G dX8_met_121 (by decide) rfl ?_
          refine jv_goto (q := 126) G dX8_met_122 (by decide) ?_
          refine jv_istore (q := 128) (lo' := [(10, .int (nI 1)), (9, .int (-1)), (8, .int (-1)), (0, .ref x), (1, .int (nI c)), (2, .int (nI e)), (3, .int (nI 2)), (4, .int ty), (5, .int n), (6, .int s), (7, .int rc)]) G dX8_met_126 (by decide) rfl rfl ?_
          refine jv_iload (q := 130) G 0 dX8_met_128 rfl rfl ?_
          refine jv_if_eqN (q := 133) (tgt := 143) G dX8_met_130 (by decide) rfl (by omega) (fun c8 => ?_) (fun c8 => ?_)
          · omega
          · refine jv_aload_n (q := 134) G 3 dX8_met_133 rfl rfl rfl ?_
            refine jv_iload_n (q := 135) G 5 dX8_met_134 rfl rfl rfl ?_
            refine jv_iload (q := 137) G 10 dX8_met_135 rfl rfl ?_
            refine jv_callV_I (q := 140) (h1 := h1) (As := [.int (nI e), .int rc]) (rest := []) (ce' := 0) (sl' := 0) (r := jv_oN ((m_at ts rc).map (fun k => 10 * e + k))) G Z ml_X8_151 (r_at hlt (hsc.S hS) he (hsc.E hS hE)) (hsc.S hS).1 dX8_met_137 rfl (by decide) (by decide) (by decide) (by decide) (Nat.le_of_ble_eq_true rfl) rfl rfl rfl rfl ?_
            rcases Option.eq_none_or_eq_some (m_at ts rc) with hk11 | ⟨k9, hk11⟩
            · refine jv_topI (y := (-1)) (by rw [hk11]; rfl) ?_
              refine jv_goto (q := 144) G dX8_met_140 (by decide) ?_
              refine jv_istore (q := 146) (lo' := [(11, .int (-1)), (10, .int (nI 1)), (9, .int (-1)), (8, .int (-1)), (0, .ref x), (1, .int (nI c)), (2, .int (nI e)), (3, .int (nI 2)), (4, .int ty), (5, .int n), (6, .int s), (7, .int rc)]) G dX8_met_144 (by decide) rfl rfl ?_
              refine jv_iload (q := 148) G 3 dX8_met_146 rfl rfl ?_
              refine jv_iconst (q := 149) (v := (-1)) G dX8_met_148 (by decide) rfl ?_
              refine jv_icmp_eq (q := 152) (tgt := 163) G dX8_met_149 (by decide) rfl (fun c12 => ?_) (fun c12 => ?_)
              · refine jv_iconst (q := 164) (v := nI 1) G dX8_met_163 (by decide) rfl ?_
                refine jv_iret G hr dX8_met_164 (Nat.le_of_ble_eq_true rfl) (Nat.le_of_ble_eq_true rfl) ?_
                have hz : (m_met (decide (e = ec)) tsC ts pk su 2 ty n s rc) = (1, none) := by
                  unfold m_met m_isC m_bd
                  simp only [*, if_true, if_false, Bool.false_eq_true, reduceIte, Option.map_some, decide_true, decide_false, not_true_eq_false, not_false_eq_true, eq_self, ne_eq, Nat.reduceLT, Nat.lt_irrefl, Nat.reduceEqDiff, and_true, true_and, and_false, false_and, or_true, true_or, or_false, false_or, Bool.or_true, Bool.or_false, Bool.true_or, Bool.false_or, reduceCtorEq] <;> rfl
                exact ⟨by rw [hz], hrs.tr hsc.rs, by rw [hz]; exact (hsc.x hS 32).trans hran, (hsc.x hS 0).trans hx0, (hsc.I2 hS 22 (by decide) rfl (by decide) c).trans hce, (hsc.I2 hS 23 (by decide) rfl (by decide) c).trans hpk, (hsc.I2 hS 24 (by decide) rfl (by decide) c).trans hsu⟩
              · exact absurd rfl c12
            · refine jv_topI (y := nI (10 * e + k9)) (by rw [hk11]; rfl) ?_
              obtain ⟨t10, ht10, nt10, lt10⟩ := m_at_some hk11
              have Tt10 := (hE.2.2 k9 t10 ht10).1
              have Ot10 := (hE.2.2 k9 t10 ht10).2
              have Lt10 := hE.2.1
              have Bt10n := Ot10.1; have Bt10k := Ot10.2.1
              refine jv_goto (q := 144) G dX8_met_140 (by decide) ?_
              refine jv_istore (q := 146) (lo' := [(11, .int (nI (10 * e + k9))), (10, .int (nI 1)), (9, .int (-1)), (8, .int (-1)), (0, .ref x), (1, .int (nI c)), (2, .int (nI e)), (3, .int (nI 2)), (4, .int ty), (5, .int n), (6, .int s), (7, .int rc)]) G dX8_met_144 (by decide) rfl rfl ?_
              refine jv_iload (q := 148) G 3 dX8_met_146 rfl rfl ?_
              refine jv_iconst (q := 149) (v := (-1)) G dX8_met_148 (by decide) rfl ?_
              refine jv_icmp_eq (q := 152) (tgt := 163) G dX8_met_149 (by decide) rfl (fun c13 => ?_) (fun c13 => ?_)
              · refine jv_iconst (q := 164) (v := nI 1) G dX8_met_163 (by decide) rfl ?_
                refine jv_iret G hr dX8_met_164 (Nat.le_of_ble_eq_true rfl) (Nat.le_of_ble_eq_true rfl) ?_
                have hz : (m_met (decide (e = ec)) tsC ts pk su 2 ty n s rc) = (1, none) := by
                  unfold m_met m_isC m_bd
                  simp only [*, if_true, if_false, Bool.false_eq_true, reduceIte, Option.map_some, decide_true, decide_false, not_true_eq_false, not_false_eq_true, eq_self, ne_eq, Nat.reduceLT, Nat.lt_irrefl, Nat.reduceEqDiff, and_true, true_and, and_false, false_and, or_true, true_or, or_false, false_or, Bool.or_true, Bool.or_false, Bool.true_or, Bool.false_or, reduceCtorEq] <;> rfl
                exact ⟨by rw [hz], hrs.tr hsc.rs, by rw [hz]; exact (hsc.x hS 32).trans hran, (hsc.x hS 0).trans hx0, (hsc.I2 hS 22 (by decide) rfl (by decide) c).trans hce, (hsc.I2 hS 23 (by decide) rfl (by decide) c).trans hpk, (hsc.I2 hS 24 (by decide) rfl (by decide) c).trans hsu⟩
              · exact absurd rfl c13
        · omega
      · exact absurd rfl c6
    · refine jv_aload_n (q := 25) G 1 dX8_met_24 rfl rfl rfl ?_
      refine jv_iload_n (q := 26) G 2 dX8_met_25 rfl rfl rfl ?_
      refine jv_iload_n (q := 27) G 4 dX8_met_26 rfl rfl rfl ?_
      refine jv_iload (q := 29) G 5 dX8_met_27 rfl rfl ?_
      refine jv_iload (q := 31) G 6 dX8_met_29 rfl rfl ?_
      refine jv_iload (q := 33) G 7 dX8_met_31 rfl rfl ?_
      refine jv_callV_I (q := 36) (h1 := h1) (As := [.int (nI c), .int (nI 2), .int ty, .int n, .int s]) (rest := []) (ce' := 0) (sl' := 0) (r := (ffE ec (m_co tsC 2 ty n s))) G Z ml_X8_195 (r_constantOf hlt hsc hS hc hec hEC hce (by decide) hgC) (hsc.S hS).1 dX8_met_33 rfl (by decide) (by decide) (by decide) (by decide) (Nat.le_of_ble_eq_true rfl) rfl rfl rfl rfl ?_
      refine jv_topI (y := (-1)) rfl ?_
      refine jv_goto (q := 40) G dX8_met_36 (by decide) ?_
      refine jv_istore (q := 42) (lo' := [(9, .int (-1)), (8, .int (-1)), (0, .ref x), (1, .int (nI c)), (2, .int (nI e)), (3, .int (nI 2)), (4, .int ty), (5, .int n), (6, .int s), (7, .int rc)]) G dX8_met_40 (by decide) rfl rfl ?_
      refine jv_iload (q := 44) G 0 dX8_met_42 rfl rfl ?_
      refine jv_iconst (q := 45) (v := (-1)) G dX8_met_44 (by decide) rfl ?_
      refine jv_icmp_eq (q := 48) (tgt := 111) G dX8_met_45 (by decide) rfl (fun c14 => ?_) (fun c14 => ?_)
      · refine jv_iload_n (q := 112) G 5 dX8_met_111 rfl rfl rfl ?_
        refine jv_iconst (q := 113) (v := nI 2) G dX8_met_112 (by decide) rfl ?_
        refine jv_icmp_eqN (q := 116) (tgt := 121) G dX8_met_113 (by decide) rfl (by omega) (by omega) (fun c15 => ?_) (fun c15 => ?_)
        · refine jv_iconst (q := 122) (v := nI 1) G dX8_met_121 (by decide) rfl ?_
          refine jv_goto (q := 126) G dX8_met_122 (by decide) ?_
          refine jv_istore (q := 128) (lo' := [(10, .int (nI 1)), (9, .int (-1)), (8, .int (-1)), (0, .ref x), (1, .int (nI c)), (2, .int (nI e)), (3, .int (nI 2)), (4, .int ty), (5, .int n), (6, .int s), (7, .int rc)]) G dX8_met_126 (by decide) rfl rfl ?_
          refine jv_iload (q := 130) G 0 dX8_met_128 rfl rfl ?_
          refine jv_if_eqN (q := 133) (tgt := 143) G dX8_met_130 (by decide) rfl (by omega) (fun c16 => ?_) (fun c16 => ?_)
          · omega
          · refine jv_aload_n (q := 134) G 3 dX8_met_133 rfl rfl rfl ?_
            refine jv_iload_n (q := 135) G 5 dX8_met_134 rfl rfl rfl ?_
            refine jv_iload (q := 137) G 10 dX8_met_135 rfl rfl ?_
            refine jv_callV_I (q := 140) (h1 := h1) (As := [.int (nI e), .int rc]) (rest := []) (ce' := 0) (sl' := 0) (r := jv_oN ((m_at ts rc).map (fun k => 10 * e + k))) G Z ml_X8_151 (r_at hlt (hsc.S hS) he (hsc.E hS hE)) (hsc.S hS).1 dX8_met_137 rfl (by decide) (by decide) (by decide) (by decide) (Nat.le_of_ble_eq_true rfl) rfl rfl rfl rfl ?_
            rcases Option.eq_none_or_eq_some (m_at ts rc) with hk19 | ⟨k17, hk19⟩
            · refine jv_topI (y := (-1)) (by rw [hk19]; rfl) ?_
              refine jv_goto (q := 144) G dX8_met_140 (by decide) ?_
              refine jv_istore (q := 146) (lo' := [(11, .int (-1)), (10, .int (nI 1)), (9, .int (-1)), (8, .int (-1)), (0, .ref x), (1, .int (nI c)), (2, .int (nI e)), (3, .int (nI 2)), (4, .int ty), (5, .int n), (6, .int s), (7, .int rc)]) G dX8_met_144 (by decide) rfl rfl ?_
              refine jv_iload (q := 148) G 3 dX8_met_146 rfl rfl ?_
              refine jv_iconst (q := 149) (v := (-1)) G dX8_met_148 (by decide) rfl ?_
              refine jv_icmp_eq (q := 152) (tgt := 163) G dX8_met_149 (by decide) rfl (fun c20 => ?_) (fun c20 => ?_)
              · refine jv_iconst (q := 164) (v := nI 1) G dX8_met_163 (by decide) rfl ?_
                refine jv_iret G hr dX8_met_164 (Nat.le_of_ble_eq_true rfl) (Nat.le_of_ble_eq_true rfl) ?_
                have hz : (m_met (decide (e = ec)) tsC ts pk su 2 ty n s rc) = (1, none) := by
                  unfold m_met m_isC m_bd
                  simp only [*, if_true, if_false, Bool.false_eq_true, reduceIte, Option.map_some, decide_true, decide_false, not_true_eq_false, not_false_eq_true, eq_self, ne_eq, Nat.reduceLT, Nat.lt_irrefl, Nat.reduceEqDiff, and_true, true_and, and_false, false_and, or_true, true_or, or_false, false_or, Bool.or_true, Bool.or_false, Bool.true_or, Bool.false_or, reduceCtorEq] <;> rfl
                exact ⟨by rw [hz], hrs.tr hsc.rs, by rw [hz]; exact (hsc.x hS 32).trans hran, (hsc.x hS 0).trans hx0, (hsc.I2 hS 22 (by decide) rfl (by decide) c).trans hce, (hsc.I2 hS 23 (by decide) rfl (by decide) c).trans hpk, (hsc.I2 hS 24 (by decide) rfl (by decide) c).trans hsu⟩
              · exact absurd rfl c20
            · refine jv_topI (y := nI (10 * e + k17)) (by rw [hk19]; rfl) ?_
              obtain ⟨t18, ht18, nt18, lt18⟩ := m_at_some hk19
              have Tt18 := (hE.2.2 k17 t18 ht18).1
              have Ot18 := (hE.2.2 k17 t18 ht18).2
              have Lt18 := hE.2.1
              have Bt18n := Ot18.1; have Bt18k := Ot18.2.1
              refine jv_goto (q := 144) G dX8_met_140 (by decide) ?_
              refine jv_istore (q := 146) (lo' := [(11, .int (nI (10 * e + k17))), (10, .int (nI 1)), (9, .int (-1)), (8, .int (-1)), (0, .ref x), (1, .int (nI c)), (2, .int (nI e)), (3, .int (nI 2)), (4, .int ty), (5, .int n), (6, .int s), (7, .int rc)]) G dX8_met_144 (by decide) rfl rfl ?_
              refine jv_iload (q := 148) G 3 dX8_met_146 rfl rfl ?_
              refine jv_iconst (q := 149) (v := (-1)) G dX8_met_148 (by decide) rfl ?_
              refine jv_icmp_eq (q := 152) (tgt := 163) G dX8_met_149 (by decide) rfl (fun c21 => ?_) (fun c21 => ?_)
              · refine jv_iconst (q := 164) (v := nI 1) G dX8_met_163 (by decide) rfl ?_
                refine jv_iret G hr dX8_met_164 (Nat.le_of_ble_eq_true rfl) (Nat.le_of_ble_eq_true rfl) ?_
                have hz : (m_met (decide (e = ec)) tsC ts pk su 2 ty n s rc) = (1, none) := by
                  unfold m_met m_isC m_bd
                  simp only [*, if_true, if_false, Bool.false_eq_true, reduceIte, Option.map_some, decide_true, decide_false, not_true_eq_false, not_false_eq_true, eq_self, ne_eq, Nat.reduceLT, Nat.lt_irrefl, Nat.reduceEqDiff, and_true, true_and, and_false, false_and, or_true, true_or, or_false, false_or, Bool.or_true, Bool.or_false, Bool.true_or, Bool.false_or, reduceCtorEq] <;> rfl
                exact ⟨by rw [hz], hrs.tr hsc.rs, by rw [hz]; exact (hsc.x hS 32).trans hran, (hsc.x hS 0).trans hx0, (hsc.I2 hS 22 (by decide) rfl (by decide) c).trans hce, (hsc.I2 hS 23 (by decide) rfl (by decide) c).trans hpk, (hsc.I2 hS 24 (by decide) rfl (by decide) c).trans hsu⟩
              · exact absurd rfl c21
        · omega
      · exact absurd rfl c14
  · refine jv_topI (y := nI (10 * e + k2)) (by rw [hk4]; rfl) ?_
    obtain ⟨t3, ht3, nt3, lt3⟩ := m_at_some hk4
    have Tt3 := (hE.2.2 k2 t3 ht3).1
    have Ot3 := (hE.2.2 k2 t3 ht3).2
    have Lt3 := hE.2.1
    have Bt3n := Ot3.1; have Bt3k := Ot3.2.1
    refine jv_istore (q := 14) (lo' := [(8, .int (nI (10 * e + k2))), (0, .ref x), (1, .int (nI c)), (2, .int (nI e)), (3, .int (nI 2)), (4, .int ty), (5, .int n), (6, .int s), (7, .int rc)]) G dX8_met_12 (by decide) rfl rfl ?_
    refine jv_iload_n (q := 15) G 3 dX8_met_14 rfl rfl rfl ?_
    refine jv_aload_n (q := 16) G 1 dX8_met_15 rfl rfl rfl ?_
    refine jv_getQ (q := 19) G dX8_met_16 fl_X8_68 rfl (hsc.S hS).1 (rf_p22 (hsc.S hS)) rfl ?_
    refine jv_iload_n (q := 20) G 2 dX8_met_19 rfl rfl rfl ?_
    refine jv_iald (q := 21) G dX8_met_20 (rf_a22 (hsc.S hS)) rfl (by omega) (by decide) ((hsc.I2 hS 22 (by decide) rfl (by decide) c).trans hce) rfl ?_
    refine jv_icmp_eqN (q := 24) (tgt := 39) G dX8_met_21 (by decide) rfl (by omega) (by omega) (fun c22 => ?_) (fun c22 => ?_)
    · refine jv_iconst (q := 40) (v := (-1)) G dX8_met_39 (by decide) rfl ?_
      refine jv_istore (q := 42) (lo' := [(9, .int (-1)), (8, .int (nI (10 * e + k2))), (0, .ref x), (1, .int (nI c)), (2, .int (nI e)), (3, .int (nI 2)), (4, .int ty), (5, .int n), (6, .int s), (7, .int rc)]) G dX8_met_40 (by decide) rfl rfl ?_
      refine jv_iload (q := 44) G 0 dX8_met_42 rfl rfl ?_
      refine jv_iconst (q := 45) (v := (-1)) G dX8_met_44 (by decide) rfl ?_
      refine jv_icmp_eq (q := 48) (tgt := 111) G dX8_met_45 (by decide) rfl (fun c23 => ?_) (fun c23 => ?_)
      · refine jv_iload_n (q := 112) G 5 dX8_met_111 rfl rfl rfl ?_
        refine jv_iconst (q := 113) (v := nI 2) G dX8_met_112 (by decide) rfl ?_
        refine jv_icmp_eqN (q := 116) (tgt := 121) G dX8_met_113 (by decide) rfl (by omega) (by omega) (fun c24 => ?_) (fun c24 => ?_)
        · refine jv_iconst (q := 122) (v := nI 1) G dX8_met_121 (by decide) rfl ?_
          refine jv_goto (q := 126) G dX8_met_122 (by decide) ?_
          refine jv_istore (q := 128) (lo' := [(10, .int (nI 1)), (9, .int (-1)), (8, .int (nI (10 * e + k2))), (0, .ref x), (1, .int (nI c)), (2, .int (nI e)), (3, .int (nI 2)), (4, .int ty), (5, .int n), (6, .int s), (7, .int rc)]) G dX8_met_126 (by decide) rfl rfl ?_
          refine jv_iload (q := 130) G 0 dX8_met_128 rfl rfl ?_
          refine jv_if_eqN (q := 133) (tgt := 143) G dX8_met_130 (by decide) rfl (by omega) (fun c25 => ?_) (fun c25 => ?_)
          · omega
          · refine jv_aload_n (q := 134) G 3 dX8_met_133 rfl rfl rfl ?_
            refine jv_iload_n (q := 135) G 5 dX8_met_134 rfl rfl rfl ?_
            refine jv_iload (q := 137) G 10 dX8_met_135 rfl rfl ?_
            refine jv_callV_I (q := 140) (h1 := h1) (As := [.int (nI e), .int rc]) (rest := []) (ce' := 0) (sl' := 0) (r := jv_oN ((m_at ts rc).map (fun k => 10 * e + k))) G Z ml_X8_151 (r_at hlt (hsc.S hS) he (hsc.E hS hE)) (hsc.S hS).1 dX8_met_137 rfl (by decide) (by decide) (by decide) (by decide) (Nat.le_of_ble_eq_true rfl) rfl rfl rfl rfl ?_
            rcases Option.eq_none_or_eq_some (m_at ts rc) with hk28 | ⟨k26, hk28⟩
            · refine jv_topI (y := (-1)) (by rw [hk28]; rfl) ?_
              refine jv_goto (q := 144) G dX8_met_140 (by decide) ?_
              refine jv_istore (q := 146) (lo' := [(11, .int (-1)), (10, .int (nI 1)), (9, .int (-1)), (8, .int (nI (10 * e + k2))), (0, .ref x), (1, .int (nI c)), (2, .int (nI e)), (3, .int (nI 2)), (4, .int ty), (5, .int n), (6, .int s), (7, .int rc)]) G dX8_met_144 (by decide) rfl rfl ?_
              refine jv_iload (q := 148) G 3 dX8_met_146 rfl rfl ?_
              refine jv_iconst (q := 149) (v := (-1)) G dX8_met_148 (by decide) rfl ?_
              refine jv_icmp_eq (q := 152) (tgt := 163) G dX8_met_149 (by decide) rfl (fun c29 => ?_) (fun c29 => ?_)
              · exact absurd c29 (jv_nI_m1 (by omega))
              · refine jv_iload (q := 154) G 1 dX8_met_152 rfl rfl ?_
                refine jv_if_eqN (q := 157) (tgt := 165) G dX8_met_154 (by decide) rfl (by omega) (fun c30 => ?_) (fun c30 => ?_)
                · omega
                · refine jv_iload (q := 159) G 0 dX8_met_157 rfl rfl ?_
                  refine jv_iconst (q := 160) (v := (-1)) G dX8_met_159 (by decide) rfl ?_
                  refine jv_icmp_ne (q := 163) (tgt := 165) G dX8_met_160 (by decide) rfl (fun c31 => ?_) (fun c31 => ?_)
                  · exact absurd rfl c31
                  · refine jv_iconst (q := 164) (v := nI 1) G dX8_met_163 (by decide) rfl ?_
                    refine jv_iret G hr dX8_met_164 (Nat.le_of_ble_eq_true rfl) (Nat.le_of_ble_eq_true rfl) ?_
                    have hz : (m_met (decide (e = ec)) tsC ts pk su 2 ty n s rc) = (1, none) := by
                      unfold m_met m_isC m_bd
                      simp only [*, if_true, if_false, Bool.false_eq_true, reduceIte, Option.map_some, decide_true, decide_false, not_true_eq_false, not_false_eq_true, eq_self, ne_eq, Nat.reduceLT, Nat.lt_irrefl, Nat.reduceEqDiff, and_true, true_and, and_false, false_and, or_true, true_or, or_false, false_or, Bool.or_true, Bool.or_false, Bool.true_or, Bool.false_or, reduceCtorEq] <;> rfl
                    exact ⟨by rw [hz], hrs.tr hsc.rs, by rw [hz]; exact (hsc.x hS 32).trans hran, (hsc.x hS 0).trans hx0, (hsc.I2 hS 22 (by decide) rfl (by decide) c).trans hce, (hsc.I2 hS 23 (by decide) rfl (by decide) c).trans hpk, (hsc.I2 hS 24 (by decide) rfl (by decide) c).trans hsu⟩
            · refine jv_topI (y := nI (10 * e + k26)) (by rw [hk28]; rfl) ?_
              obtain ⟨t27, ht27, nt27, lt27⟩ := m_at_some hk28
              have Tt27 := (hE.2.2 k26 t27 ht27).1
              have Ot27 := (hE.2.2 k26 t27 ht27).2
              have Lt27 := hE.2.1
              have Bt27n := Ot27.1; have Bt27k := Ot27.2.1
              refine jv_goto (q := 144) G dX8_met_140 (by decide) ?_
              refine jv_istore (q := 146) (lo' := [(11, .int (nI (10 * e + k26))), (10, .int (nI 1)), (9, .int (-1)), (8, .int (nI (10 * e + k2))), (0, .ref x), (1, .int (nI c)), (2, .int (nI e)), (3, .int (nI 2)), (4, .int ty), (5, .int n), (6, .int s), (7, .int rc)]) G dX8_met_144 (by decide) rfl rfl ?_
              refine jv_iload (q := 148) G 3 dX8_met_146 rfl rfl ?_
              refine jv_iconst (q := 149) (v := (-1)) G dX8_met_148 (by decide) rfl ?_
              refine jv_icmp_eq (q := 152) (tgt := 163) G dX8_met_149 (by decide) rfl (fun c32 => ?_) (fun c32 => ?_)
              · exact absurd c32 (jv_nI_m1 (by omega))
              · refine jv_iload (q := 154) G 1 dX8_met_152 rfl rfl ?_
                refine jv_if_eqN (q := 157) (tgt := 165) G dX8_met_154 (by decide) rfl (by omega) (fun c33 => ?_) (fun c33 => ?_)
                · omega
                · refine jv_iload (q := 159) G 0 dX8_met_157 rfl rfl ?_
                  refine jv_iconst (q := 160) (v := (-1)) G dX8_met_159 (by decide) rfl ?_
                  refine jv_icmp_ne (q := 163) (tgt := 165) G dX8_met_160 (by decide) rfl (fun c34 => ?_) (fun c34 => ?_)
                  · refine jv_aload_n (q := 166) G 4 dX8_met_165 rfl rfl rfl ?_
                    refine jv_getQ (q := 169) G dX8_met_166 fl_X8_29 rfl (hsc.S hS).1 (rf_p8 (hsc.S hS)) rfl ?_
                    refine jv_iload (q := 171) G 3 dX8_met_169 rfl rfl ?_
                    refine jv_zald (q := 172) G dX8_met_171 (rf_a8 (hsc.S hS)) rfl (by omega) (by decide) (rt_8 (hsc.T hS Tt3)) rfl ?_
                    refine jv_if_neB (q := 175) (tgt := 193) G dX8_met_172 (by decide) rfl (fun c35 => ?_) (fun c35 => ?_)
                    · refine jv_iload_n (q := 194) G 7 dX8_met_193 rfl rfl rfl ?_
                      refine jv_iconst (q := 195) (v := nI 2) G dX8_met_194 (by decide) rfl ?_
                      refine jv_icmp_neN (q := 198) (tgt := 208) G dX8_met_195 (by decide) rfl (by omega) (by omega) (fun c36 => ?_) (fun c36 => ?_)
                      · omega
                      · refine jv_aload_n (q := 199) G 4 dX8_met_198 rfl rfl rfl ?_
                        refine jv_getQ (q := 202) G dX8_met_199 fl_X8_20 rfl (hsc.S hS).1 (rf_p5 (hsc.S hS)) rfl ?_
                        refine jv_iload (q := 204) G 3 dX8_met_202 rfl rfl ?_
                        refine jv_zald (q := 205) G dX8_met_204 (rf_a5 (hsc.S hS)) rfl (by omega) (by decide) (rt_5 (hsc.T hS Tt3)) rfl ?_
                        refine jv_if_neB (q := 208) (tgt := 223) G dX8_met_205 (by decide) rfl (fun c37 => ?_) (fun c37 => ?_)
                        · refine jv_bipush (q := 225) (v := nI 6) G dX8_met_223 (by decide) rfl ?_
                          refine jv_iret G hr dX8_met_225 (Nat.le_of_ble_eq_true rfl) (Nat.le_of_ble_eq_true rfl) ?_
                          have hz : (m_met (decide (e = ec)) tsC ts pk su 2 ty n s rc) = (6, none) := by
                            unfold m_met m_isC m_bd
                            simp only [*, if_true, if_false, Bool.false_eq_true, reduceIte, Option.map_some, decide_true, decide_false, not_true_eq_false, not_false_eq_true, eq_self, ne_eq, Nat.reduceLT, Nat.lt_irrefl, Nat.reduceEqDiff, and_true, true_and, and_false, false_and, or_true, true_or, or_false, false_or, Bool.or_true, Bool.or_false, Bool.true_or, Bool.false_or, reduceCtorEq] <;> rfl
                          exact ⟨by rw [hz], hrs.tr hsc.rs, by rw [hz]; exact (hsc.x hS 32).trans hran, (hsc.x hS 0).trans hx0, (hsc.I2 hS 22 (by decide) rfl (by decide) c).trans hce, (hsc.I2 hS 23 (by decide) rfl (by decide) c).trans hpk, (hsc.I2 hS 24 (by decide) rfl (by decide) c).trans hsu⟩
                        · refine jv_iload_n (q := 209) G 7 dX8_met_208 rfl rfl rfl ?_
                          refine jv_iconst (q := 210) (v := nI 4) G dX8_met_209 (by decide) rfl ?_
                          refine jv_icmp_neN (q := 213) (tgt := 226) G dX8_met_210 (by decide) rfl (by omega) (by omega) (fun c38 => ?_) (fun c38 => ?_)
                          · refine jv_iload_n (q := 227) G 7 dX8_met_226 rfl rfl rfl ?_
                            refine jv_iconst (q := 228) (v := nI 5) G dX8_met_227 (by decide) rfl ?_
                            refine jv_icmp_neN (q := 231) (tgt := 247) G dX8_met_228 (by decide) rfl (by omega) (by omega) (fun c39 => ?_) (fun c39 => ?_)
                            · refine jv_iload_n (q := 248) G 7 dX8_met_247 rfl rfl rfl ?_
                              refine jv_iconst (q := 249) (v := nI 2) G dX8_met_248 (by decide) rfl ?_
                              refine jv_icmp_geN (q := 252) (tgt := 266) G dX8_met_249 (by decide) rfl (by omega) (by omega) (fun c40 => ?_) (fun c40 => ?_)
                              · refine jv_aload_n (q := 267) G 4 dX8_met_266 rfl rfl rfl ?_
                                refine jv_iload_n (q := 268) G 6 dX8_met_267 rfl rfl rfl ?_
                                refine jv_iload (q := 270) G 3 dX8_met_268 rfl rfl ?_
                                refine jv_iload (q := 272) G 9 dX8_met_270 rfl rfl ?_
                                refine jv_iload (q := 274) G 10 dX8_met_272 rfl rfl ?_
                                refine jv_callV (q := 277) (As := [.int (nI e), .int (nI (10 * e + k2)), .int n, .int s]) (rest := []) G Z ml_X8_186 (r_findMethod (d := 11) hlt hsc hS he hE hV ht3 (hg k2 (by omega))) (hsc.S hS).1 dX8_met_274 rfl (by decide) (by decide) (by decide) (by decide) (Nat.le_of_ble_eq_true rfl) rfl rfl (fun v42 h41 y43 => ?_) (fun _ _ hx => hx.elim)
                                obtain ⟨rfl, hsc⟩ := y43
                                show jv_V E 14 h41 0 0 (jv_Q E (fun v h' => v = some (.int (nI (m_met (decide (e = ec)) tsC ts pk su 2 ty n s rc).1)) ∧ rs x q h h' ∧ jv_I h' x 32 = jv_oN (m_met (decide (e = ec)) tsC ts pk su 2 ty n s rc).2 ∧ jv_I h' x 0 = jv_I h x 0 ∧ jv_I h' (q 22) c = nI ec ∧ jv_I h' (q 23) c = nI pk ∧ jv_I h' (q 24) c = jv_oN su) jv_no 0 0) 277 [(11, .int (nI (10 * e + k26))), (10, .int (nI 1)), (9, .int (-1)), (8, .int (nI (10 * e + k2))), (0, .ref x), (1, .int (nI c)), (2, .int (nI e)), (3, .int (nI 2)), (4, .int ty), (5, .int n), (6, .int s), (7, .int rc)] [.int (ffE e (m_fm ts 11 k2 n s))]
                                rcases Option.eq_none_or_eq_some (m_fm ts 11 k2 n s) with hp47 | ⟨p44, hp47⟩
                                · refine jv_topI (y := (-1)) (by rw [hp47]; rfl) ?_
                                  refine jv_istore (q := 279) (lo' := [(12, .int (-1)), (11, .int (nI (10 * e + k26))), (10, .int (nI 1)), (9, .int (-1)), (8, .int (nI (10 * e + k2))), (0, .ref x), (1, .int (nI c)), (2, .int (nI e)), (3, .int (nI 2)), (4, .int ty), (5, .int n), (6, .int s), (7, .int rc)]) G dX8_met_277 (by decide) rfl rfl ?_
                                  refine jv_iload (q := 281) G 0 dX8_met_279 rfl rfl ?_
                                  refine jv_iconst (q := 282) (v := (-1)) G dX8_met_281 (by decide) rfl ?_
                                  refine jv_icmp_ne (q := 285) (tgt := 287) G dX8_met_282 (by decide) rfl (fun c48 => ?_) (fun c48 => ?_)
                                  · exact absurd rfl c48
                                  · refine jv_iconst (q := 286) (v := nI 2) G dX8_met_285 (by decide) rfl ?_
                                    refine jv_iret G hr dX8_met_286 (Nat.le_of_ble_eq_true rfl) (Nat.le_of_ble_eq_true rfl) ?_
                                    have hz : (m_met (decide (e = ec)) tsC ts pk su 2 ty n s rc) = (2, none) := by
                                      unfold m_met m_isC m_bd
                                      simp only [*, if_true, if_false, Bool.false_eq_true, reduceIte, Option.map_some, decide_true, decide_false, not_true_eq_false, not_false_eq_true, eq_self, ne_eq, Nat.reduceLT, Nat.lt_irrefl, Nat.reduceEqDiff, and_true, true_and, and_false, false_and, or_true, true_or, or_false, false_or, Bool.or_true, Bool.or_false, Bool.true_or, Bool.false_or, reduceCtorEq] <;> rfl
                                    exact ⟨by rw [hz], hrs.tr hsc.rs, by rw [hz]; exact (hsc.x hS 32).trans hran, (hsc.x hS 0).trans hx0, (hsc.I2 hS 22 (by decide) rfl (by decide) c).trans hce, (hsc.I2 hS 23 (by decide) rfl (by decide) c).trans hpk, (hsc.I2 hS 24 (by decide) rfl (by decide) c).trans hsu⟩
                                · refine jv_topI (y := nI (6 * (10 * e + p44.1) + p44.2)) (by rw [hp47]; rfl) ?_
                                  obtain ⟨t45, ht45, m46, hm46⟩ := m_fm_mem hp47
                                  have Tt45 := (hE.2.2 p44.1 t45 ht45).1
                                  have Ot45 := (hE.2.2 p44.1 t45 ht45).2
                                  have Lt45 := hE.2.1
                                  have lt45 := jv_ltGet ht45
                                  have Mm46 := rt_m Tt45 hm46
                                  have Om46 := Ot45.2.2.2.2.2.2 m46 (List.mem_of_getElem? hm46)
                                  have Lm46 := Ot45.2.2.2.2.2.1
                                  have lm46 := jv_ltGet hm46
                                  have Bm46n := Om46.1; have Bm46s := Om46.2.1; have Bm46a := Om46.2.2.1; have Bt45n := Ot45.1; have Bt45k := Ot45.2.1
                                  refine jv_istore (q := 279) (lo' := [(12, .int (nI (6 * (10 * e + p44.1) + p44.2))), (11, .int (nI (10 * e + k26))), (10, .int (nI 1)), (9, .int (-1)), (8, .int (nI (10 * e + k2))), (0, .ref x), (1, .int (nI c)), (2, .int (nI e)), (3, .int (nI 2)), (4, .int ty), (5, .int n), (6, .int s), (7, .int rc)]) G dX8_met_277 (by decide) rfl rfl ?_
                                  refine jv_iload (q := 281) G 0 dX8_met_279 rfl rfl ?_
                                  refine jv_iconst (q := 282) (v := (-1)) G dX8_met_281 (by decide) rfl ?_
                                  refine jv_icmp_ne (q := 285) (tgt := 287) G dX8_met_282 (by decide) rfl (fun c49 => ?_) (fun c49 => ?_)
                                  · refine jv_aload_n (q := 288) G 5 dX8_met_287 rfl rfl rfl ?_
                                    refine jv_iload_n (q := 289) G 6 dX8_met_288 rfl rfl rfl ?_
                                    refine jv_iload_n (q := 290) G 7 dX8_met_289 rfl rfl rfl ?_
                                    refine jv_iload (q := 292) G 0 dX8_met_290 rfl rfl ?_
                                    refine jv_callV_I (q := 295) (h1 := h41) (As := [.int (nI c), .int (nI e), .int (nI (6 * (10 * e + p44.1) + p44.2))]) (rest := []) (ce' := 0) (sl' := 0) (r := jv_bI (m_mr ts pk su t45 m46)) G Z ml_X8_199 (r_mayReach hlt hsc hS hc he hE hV ht45 hm46 hpk hpk5 hsu hsu16) (hsc.S hS).1 dX8_met_292 rfl (by decide) (by decide) (by decide) (by decide) (Nat.le_of_ble_eq_true rfl) rfl rfl rfl rfl ?_
                                    refine jv_if_neB (q := 298) (tgt := 300) G dX8_met_295 (by decide) rfl (fun c50 => ?_) (fun c50 => ?_)
                                    · refine jv_aload_n (q := 301) G 5 dX8_met_300 rfl rfl rfl ?_
                                      refine jv_getQ (q := 304) G dX8_met_301 fl_X8_56 rfl (hsc.S hS).1 (rf_p17 (hsc.S hS)) rfl ?_
                                      refine jv_iload (q := 306) G 0 dX8_met_304 rfl rfl ?_
                                      refine jv_zald (q := 307) G dX8_met_306 (rf_a17 (hsc.S hS)) rfl (by omega) (by decide) (hsc.M hS Mm46).2.2.2.2.1 rfl ?_
                                      refine jv_iload_n (q := 308) G 8 dX8_met_307 rfl rfl rfl ?_
                                      refine jv_iconst (q := 309) (v := nI 1) G dX8_met_308 (by decide) rfl ?_
                                      refine jv_icmp_eqN (q := 312) (tgt := 317) G dX8_met_309 (by decide) rfl (by omega) (by omega) (fun c51 => ?_) (fun c51 => ?_)
                                      · omega
                                      · refine jv_iload_n (q := 313) G 8 dX8_met_312 rfl rfl rfl ?_
                                        refine jv_iconst (q := 314) (v := nI 3) G dX8_met_313 (by decide) rfl ?_
                                        refine jv_icmp_neN (q := 317) (tgt := 321) G dX8_met_314 (by decide) rfl (by omega) (by omega) (fun c52 => ?_) (fun c52 => ?_)
                                        · refine jv_iconst (q := 322) (v := nI 0) G dX8_met_321 (by decide) rfl ?_
                                          refine jv_topI (y := jv_bI false) rfl ?_
                                          refine jv_icmp_eqB (q := 325) (tgt := 327) G dX8_met_322 (by decide) rfl (fun c53 => ?_) (fun c53 => ?_)
                                          · refine jv_iload (q := 329) G 2 dX8_met_327 rfl rfl ?_
                                            refine jv_if_neN (q := 332) (tgt := 357) G dX8_met_329 (by decide) rfl (by omega) (fun c54 => ?_) (fun c54 => ?_)
                                            · refine jv_aload_n (q := 358) G 5 dX8_met_357 rfl rfl rfl ?_
                                              refine jv_getQ (q := 361) G dX8_met_358 fl_X8_20 rfl (hsc.S hS).1 (rf_p5 (hsc.S hS)) rfl ?_
                                              refine jv_iload (q := 363) G 1 dX8_met_361 rfl rfl ?_
                                              refine jv_zald (q := 364) G dX8_met_363 (rf_a5 (hsc.S hS)) rfl (by omega) (by decide) (rt_5 (hsc.T hS Tt27)) rfl ?_
                                              refine jv_if_neB (q := 367) (tgt := 396) G dX8_met_364 (by decide) rfl (fun c55 => ?_) (fun c55 => ?_)
                                              · refine jv_bipush (q := 398) (v := nI 6) G dX8_met_396 (by decide) rfl ?_
                                                refine jv_iret G hr dX8_met_398 (Nat.le_of_ble_eq_true rfl) (Nat.le_of_ble_eq_true rfl) ?_
                                                have hz : (m_met (decide (e = ec)) tsC ts pk su 2 ty n s rc) = (6, none) := by
                                                  unfold m_met m_isC m_bd
                                                  simp only [*, if_true, if_false, Bool.false_eq_true, reduceIte, Option.map_some, decide_true, decide_false, not_true_eq_false, not_false_eq_true, eq_self, ne_eq, Nat.reduceLT, Nat.lt_irrefl, Nat.reduceEqDiff, and_true, true_and, and_false, false_and, or_true, true_or, or_false, false_or, Bool.or_true, Bool.or_false, Bool.true_or, Bool.false_or, reduceCtorEq] <;> rfl
                                                exact ⟨by rw [hz], hrs.tr hsc.rs, by rw [hz]; exact (hsc.x hS 32).trans hran, (hsc.x hS 0).trans hx0, (hsc.I2 hS 22 (by decide) rfl (by decide) c).trans hce, (hsc.I2 hS 23 (by decide) rfl (by decide) c).trans hpk, (hsc.I2 hS 24 (by decide) rfl (by decide) c).trans hsu⟩
                                              · refine jv_aload_n (q := 368) G 5 dX8_met_367 rfl rfl rfl ?_
                                                refine jv_getQ (q := 371) G dX8_met_368 fl_X8_23 rfl (hsc.S hS).1 (rf_p6 (hsc.S hS)) rfl ?_
                                                refine jv_iload (q := 373) G 1 dX8_met_371 rfl rfl ?_
                                                refine jv_zald (q := 374) G dX8_met_373 (rf_a6 (hsc.S hS)) rfl (by omega) (by decide) (rt_6 (hsc.T hS Tt27)) rfl ?_
                                                refine jv_if_neB (q := 377) (tgt := 396) G dX8_met_374 (by decide) rfl (fun c56 => ?_) (fun c56 => ?_)
                                                · refine jv_bipush (q := 398) (v := nI 6) G dX8_met_396 (by decide) rfl ?_
                                                  refine jv_iret G hr dX8_met_398 (Nat.le_of_ble_eq_true rfl) (Nat.le_of_ble_eq_true rfl) ?_
                                                  have hz : (m_met (decide (e = ec)) tsC ts pk su 2 ty n s rc) = (6, none) := by
                                                    unfold m_met m_isC m_bd
                                                    simp only [*, if_true, if_false, Bool.false_eq_true, reduceIte, Option.map_some, decide_true, decide_false, not_true_eq_false, not_false_eq_true, eq_self, ne_eq, Nat.reduceLT, Nat.lt_irrefl, Nat.reduceEqDiff, and_true, true_and, and_false, false_and, or_true, true_or, or_false, false_or, Bool.or_true, Bool.or_false, Bool.true_or, Bool.false_or, reduceCtorEq] <;> rfl
                                                  exact ⟨by rw [hz], hrs.tr hsc.rs, by rw [hz]; exact (hsc.x hS 32).trans hran, (hsc.x hS 0).trans hx0, (hsc.I2 hS 22 (by decide) rfl (by decide) c).trans hce, (hsc.I2 hS 23 (by decide) rfl (by decide) c).trans hpk, (hsc.I2 hS 24 (by decide) rfl (by decide) c).trans hsu⟩
                                                · refine jv_iload (q := 379) G 1 dX8_met_377 rfl rfl ?_
                                                  refine jv_iload (q := 381) G 4 dX8_met_379 rfl rfl ?_
                                                  refine jv_icmp_eqN (q := 384) (tgt := 399) G dX8_met_381 (by decide) rfl (by omega) (by omega) (fun c57 => ?_) (fun c57 => ?_)
                                                  · have Kc57 : (k26 = k2) = True := eq_true (by omega)
                                                    refine jv_aload_n (q := 400) G 5 dX8_met_399 rfl rfl rfl ?_
                                                    refine jv_iload_n (q := 401) G 7 dX8_met_400 rfl rfl rfl ?_
                                                    refine jv_iload (q := 403) G 0 dX8_met_401 rfl rfl ?_
                                                    refine jv_iload (q := 405) G 1 dX8_met_403 rfl rfl ?_
                                                    refine jv_callV (q := 408) (As := [.int (nI e), .int (nI (6 * (10 * e + p44.1) + p44.2)), .int (nI (10 * e + k26))]) (rest := []) G Z ml_X8_189 (r_selected (d := 11) hlt hsc hS he hE hV ht45 hm46 ht27 (hg k26 (by omega))) (hsc.S hS).1 dX8_met_405 rfl (by decide) (by decide) (by decide) (by decide) (Nat.le_of_ble_eq_true rfl) rfl rfl (fun v59 h58 y60 => ?_) (fun _ _ hx => hx.elim)
                                                    obtain ⟨rfl, hsc⟩ := y60
                                                    show jv_V E 14 h58 0 0 (jv_Q E (fun v h' => v = some (.int (nI (m_met (decide (e = ec)) tsC ts pk su 2 ty n s rc).1)) ∧ rs x q h h' ∧ jv_I h' x 32 = jv_oN (m_met (decide (e = ec)) tsC ts pk su 2 ty n s rc).2 ∧ jv_I h' x 0 = jv_I h x 0 ∧ jv_I h' (q 22) c = nI ec ∧ jv_I h' (q 23) c = nI pk ∧ jv_I h' (q 24) c = jv_oN su) jv_no 0 0) 408 [(12, .int (nI (6 * (10 * e + p44.1) + p44.2))), (11, .int (nI (10 * e + k26))), (10, .int (nI 1)), (9, .int (-1)), (8, .int (nI (10 * e + k2))), (0, .ref x), (1, .int (nI c)), (2, .int (nI e)), (3, .int (nI 2)), (4, .int ty), (5, .int n), (6, .int s), (7, .int rc)] [.int (ffE e (m_sl ts 11 t45 m46 p44.1 p44.2 k26))]
                                                    rcases Option.eq_none_or_eq_some (m_sl ts 11 t45 m46 p44.1 p44.2 k26) with hp64 | ⟨p61, hp64⟩
                                                    · refine jv_topI (y := (-1)) (by rw [hp64]; rfl) ?_
                                                      refine jv_istore (q := 410) (lo' := [(13, .int (-1)), (12, .int (nI (6 * (10 * e + p44.1) + p44.2))), (11, .int (nI (10 * e + k26))), (10, .int (nI 1)), (9, .int (-1)), (8, .int (nI (10 * e + k2))), (0, .ref x), (1, .int (nI c)), (2, .int (nI e)), (3, .int (nI 2)), (4, .int ty), (5, .int n), (6, .int s), (7, .int rc)]) G dX8_met_408 (by decide) rfl rfl ?_
                                                      refine jv_iload (q := 412) G 0 dX8_met_410 rfl rfl ?_
                                                      refine jv_iconst (q := 413) (v := (-1)) G dX8_met_412 (by decide) rfl ?_
                                                      refine jv_icmp_eq (q := 416) (tgt := 426) G dX8_met_413 (by decide) rfl (fun c65 => ?_) (fun c65 => ?_)
                                                      · refine jv_iconst (q := 427) (v := nI 5) G dX8_met_426 (by decide) rfl ?_
                                                        refine jv_iret G hr dX8_met_427 (Nat.le_of_ble_eq_true rfl) (Nat.le_of_ble_eq_true rfl) ?_
                                                        have hz : (m_met (decide (e = ec)) tsC ts pk su 2 ty n s rc) = (5, none) := by
                                                          unfold m_met m_isC m_bd
                                                          simp only [*, if_true, if_false, Bool.false_eq_true, reduceIte, Option.map_some, decide_true, decide_false, not_true_eq_false, not_false_eq_true, eq_self, ne_eq, Nat.reduceLT, Nat.lt_irrefl, Nat.reduceEqDiff, and_true, true_and, and_false, false_and, or_true, true_or, or_false, false_or, Bool.or_true, Bool.or_false, Bool.true_or, Bool.false_or, reduceCtorEq] <;> rfl
                                                        exact ⟨by rw [hz], hrs.tr hsc.rs, by rw [hz]; exact (hsc.x hS 32).trans hran, (hsc.x hS 0).trans hx0, (hsc.I2 hS 22 (by decide) rfl (by decide) c).trans hce, (hsc.I2 hS 23 (by decide) rfl (by decide) c).trans hpk, (hsc.I2 hS 24 (by decide) rfl (by decide) c).trans hsu⟩
                                                      · exact absurd rfl c65
                                                    · refine jv_topI (y := nI (6 * (10 * e + p61.1) + p61.2)) (by rw [hp64]; rfl) ?_
                                                      obtain ⟨t62, ht62, m63, hm63⟩ := m_sl_mem ht45 hm46 hp64
                                                      have Tt62 := (hE.2.2 p61.1 t62 ht62).1
                                                      have Ot62 := (hE.2.2 p61.1 t62 ht62).2
                                                      have Lt62 := hE.2.1
                                                      have lt62 := jv_ltGet ht62
                                                      have Mm63 := rt_m Tt62 hm63
                                                      have Om63 := Ot62.2.2.2.2.2.2 m63 (List.mem_of_getElem? hm63)
                                                      have Lm63 := Ot62.2.2.2.2.2.1
                                                      have lm63 := jv_ltGet hm63
                                                      have Bm63n := Om63.1; have Bm63s := Om63.2.1; have Bm63a := Om63.2.2.1; have Bt62n := Ot62.1; have Bt62k := Ot62.2.1
                                                      refine jv_istore (q := 410) (lo' := [(13, .int (nI (6 * (10 * e + p61.1) + p61.2))), (12, .int (nI (6 * (10 * e + p44.1) + p44.2))), (11, .int (nI (10 * e + k26))), (10, .int (nI 1)), (9, .int (-1)), (8, .int (nI (10 * e + k2))), (0, .ref x), (1, .int (nI c)), (2, .int (nI e)), (3, .int (nI 2)), (4, .int ty), (5, .int n), (6, .int s), (7, .int rc)]) G dX8_met_408 (by decide) rfl rfl ?_
                                                      refine jv_iload (q := 412) G 0 dX8_met_410 rfl rfl ?_
                                                      refine jv_iconst (q := 413) (v := (-1)) G dX8_met_412 (by decide) rfl ?_
                                                      refine jv_icmp_eq (q := 416) (tgt := 426) G dX8_met_413 (by decide) rfl (fun c66 => ?_) (fun c66 => ?_)
                                                      · exact absurd c66 (jv_nI_m1 (by omega))
                                                      · refine jv_aload_n (q := 417) G 6 dX8_met_416 rfl rfl rfl ?_
                                                        refine jv_getQ (q := 420) G dX8_met_417 fl_X8_59 rfl (hsc.S hS).1 (rf_p18 (hsc.S hS)) rfl ?_
                                                        refine jv_iload (q := 422) G 0 dX8_met_420 rfl rfl ?_
                                                        refine jv_iald (q := 423) G dX8_met_422 (rf_a18 (hsc.S hS)) rfl (by omega) (by decide) (hsc.M hS Mm63).2.2.2.2.2.1 rfl ?_
                                                        refine jv_if_ge (q := 426) (tgt := 428) G dX8_met_423 (by decide) rfl (fun c67 => ?_) (fun c67 => ?_)
                                                        · refine jv_iload_n (q := 429) G 9 dX8_met_428 rfl rfl rfl ?_
                                                          refine jv_iconst (q := 430) (v := nI 4) G dX8_met_429 (by decide) rfl ?_
                                                          refine jv_icmp_neN (q := 433) (tgt := 446) G dX8_met_430 (by decide) rfl (by omega) (by omega) (fun c68 => ?_) (fun c68 => ?_)
                                                          · refine jv_aload_n (q := 447) G 6 dX8_met_446 rfl rfl rfl ?_
                                                            refine jv_aload_n (q := 448) G 6 dX8_met_447 rfl rfl rfl ?_
                                                            refine jv_getQ (q := 451) G dX8_met_448 fl_X8_17 rfl (hsc.S hS).1 (rf_p4 (hsc.S hS)) rfl ?_
                                                            refine jv_iload (q := 453) G 0 dX8_met_451 rfl rfl ?_
                                                            refine jv_callS_I (q := 456) (h1 := h58) (As := [.int (nI (6 * (10 * e + p61.1) + p61.2))]) (rest := [.ref (q 4), .ref x]) (ce' := 0) (sl' := 0) (r := nI ((6 * (10 * e + p61.1) + p61.2) / 6)) G Z ml_X8_183 (r_typeOf hlt (by omega)) dX8_met_453 rfl (by decide) (by decide) (by decide) (by decide) (Nat.le_of_ble_eq_true rfl) rfl rfl rfl rfl ?_
                                                            refine jv_topI (y := nI (10 * e + p61.1)) (congrArg nI (by omega)) ?_
                                                            refine jv_iald (q := 457) G dX8_met_456 (rf_a4 (hsc.S hS)) rfl (by omega) (by decide) (rt_4 (hsc.T hS Tt62)) rfl ?_
                                                            refine jv_putI (q := 460) G dX8_met_457 fl_X8_192 rfl (hsc.S hS).1 rfl ?_
                                                            have hr1 : rs x q h58 (jv_wI h58 x 32 (nI (mt_n t62))) := rs.rf.wI (nI (mt_n t62)) (Or.inl ⟨rfl, Or.inr (Or.inl rfl)⟩)
                                                            have hran : jv_I (jv_wI h58 x 32 (nI (mt_n t62))) x 32 = (nI (mt_n t62)) := jv_I_self _ _ _ _
                                                            have hSb := hsc.S hS
                                                            have hE := hr1.E hSb (hsc.E hS hE)
                                                            have hV := hr1.V hSb (hsc.V hS hV)
                                                            have hEC := hr1.E hSb (hsc.E hS hEC)
                                                            have hVC := hr1.V hSb (hsc.V hS hVC)
                                                            have hce := (wx_I hSb 22 (by decide) rfl 32 c (nI (mt_n t62))).trans ((hsc.I2 hS 22 (by decide) rfl (by decide) c).trans hce)
                                                            have hpk := (wx_I hSb 23 (by decide) rfl 32 c (nI (mt_n t62))).trans ((hsc.I2 hS 23 (by decide) rfl (by decide) c).trans hpk)
                                                            have hsu := (wx_I hSb 24 (by decide) rfl 32 c (nI (mt_n t62))).trans ((hsc.I2 hS 24 (by decide) rfl (by decide) c).trans hsu)
                                                            have hrs := (hrs.tr hsc.rs).tr hr1
                                                            have hx0 : jv_I (jv_wI h58 x 32 (nI (mt_n t62))) x 0 = jv_I h x 0 := by rw [jv_I_wI, if_neg (fun z => by cases z.2)] <;> exact (hsc.x hS 0).trans hx0
                                                            have hS := hr1.S hSb
                                                            generalize jv_wI h58 x 32 (nI (mt_n t62)) = h69 at hran hx0 hE hV hEC hVC hce hpk hsu hrs hS ⊢
                                                            have hsc : sc x q h69 h69 := sc.rf
                                                            refine jv_iload_n (q := 461) G 8 dX8_met_460 rfl rfl rfl ?_
                                                            refine jv_aload_n (q := 462) G 6 dX8_met_461 rfl rfl rfl ?_
                                                            refine jv_getQ (q := 465) G dX8_met_462 fl_X8_68 rfl (hsc.S hS).1 (rf_p22 (hsc.S hS)) rfl ?_
                                                            refine jv_iload_n (q := 466) G 7 dX8_met_465 rfl rfl rfl ?_
                                                            refine jv_iald (q := 467) G dX8_met_466 (rf_a22 (hsc.S hS)) rfl (by omega) (by decide) ((hsc.I2 hS 22 (by decide) rfl (by decide) c).trans hce) rfl ?_
                                                            refine jv_icmp_eqN (q := 470) (tgt := 495) G dX8_met_467 (by decide) rfl (by omega) (by omega) (fun c70 => ?_) (fun c70 => ?_)
                                                            · refine jv_iconst (q := 496) (v := nI 0) G dX8_met_495 (by decide) rfl ?_
                                                              refine jv_iret G hr dX8_met_496 (Nat.le_of_ble_eq_true rfl) (Nat.le_of_ble_eq_true rfl) ?_
                                                              have hz : (m_met (decide (e = ec)) tsC ts pk su 2 ty n s rc) = (0, some (mt_n t62)) := by
                                                                unfold m_met m_isC m_bd
                                                                simp only [*, if_true, if_false, Bool.false_eq_true, reduceIte, Option.map_some, decide_true, decide_false, not_true_eq_false, not_false_eq_true, eq_self, ne_eq, Nat.reduceLT, Nat.lt_irrefl, Nat.reduceEqDiff, and_true, true_and, and_false, false_and, or_true, true_or, or_false, false_or, Bool.or_true, Bool.or_false, Bool.true_or, Bool.false_or, reduceCtorEq] <;> rfl
                                                              exact ⟨by rw [hz], hrs.tr hsc.rs, by rw [hz]; exact (hsc.x hS 32).trans hran, (hsc.x hS 0).trans hx0, (hsc.I2 hS 22 (by decide) rfl (by decide) c).trans hce, (hsc.I2 hS 23 (by decide) rfl (by decide) c).trans hpk, (hsc.I2 hS 24 (by decide) rfl (by decide) c).trans hsu⟩
                                                            · omega
                                                          · omega
                                                        · refine jv_iconst (q := 427) (v := nI 5) G dX8_met_426 (by decide) rfl ?_
                                                          refine jv_iret G hr dX8_met_427 (Nat.le_of_ble_eq_true rfl) (Nat.le_of_ble_eq_true rfl) ?_
                                                          have hz : (m_met (decide (e = ec)) tsC ts pk su 2 ty n s rc) = (5, none) := by
                                                            unfold m_met m_isC m_bd
                                                            simp only [*, if_true, if_false, Bool.false_eq_true, reduceIte, Option.map_some, decide_true, decide_false, not_true_eq_false, not_false_eq_true, eq_self, ne_eq, Nat.reduceLT, Nat.lt_irrefl, Nat.reduceEqDiff, and_true, true_and, and_false, false_and, or_true, true_or, or_false, false_or, Bool.or_true, Bool.or_false, Bool.true_or, Bool.false_or, reduceCtorEq] <;> rfl
                                                          exact ⟨by rw [hz], hrs.tr hsc.rs, by rw [hz]; exact (hsc.x hS 32).trans hran, (hsc.x hS 0).trans hx0, (hsc.I2 hS 22 (by decide) rfl (by decide) c).trans hce, (hsc.I2 hS 23 (by decide) rfl (by decide) c).trans hpk, (hsc.I2 hS 24 (by decide) rfl (by decide) c).trans hsu⟩
                                                  · have Kc57 : (k26 = k2) = False := eq_false (by omega)
                                                    refine jv_aload_n (q := 385) G 5 dX8_met_384 rfl rfl rfl ?_
                                                    refine jv_iload_n (q := 386) G 7 dX8_met_385 rfl rfl rfl ?_
                                                    refine jv_iload (q := 388) G 9 dX8_met_386 rfl rfl ?_
                                                    refine jv_iload (q := 390) G 12 dX8_met_388 rfl rfl ?_
                                                    refine jv_callV_I (q := 393) (h1 := h41) (As := [.int (nI e), .int ty, .int rc]) (rest := []) (ce' := 0) (sl' := 0) (r := jv_bI (m_isA ts ty rc)) G Z ml_X8_167 (r_isAbove hlt hsc hS he hV) (hsc.S hS).1 dX8_met_390 rfl (by decide) (by decide) (by decide) (by decide) (Nat.le_of_ble_eq_true rfl) rfl rfl rfl rfl ?_
                                                    refine jv_if_neB (q := 396) (tgt := 399) G dX8_met_393 (by decide) rfl (fun c71 => ?_) (fun c71 => ?_)
                                                    · refine jv_aload_n (q := 400) G 5 dX8_met_399 rfl rfl rfl ?_
                                                      refine jv_iload_n (q := 401) G 7 dX8_met_400 rfl rfl rfl ?_
                                                      refine jv_iload (q := 403) G 0 dX8_met_401 rfl rfl ?_
                                                      refine jv_iload (q := 405) G 1 dX8_met_403 rfl rfl ?_
                                                      refine jv_callV (q := 408) (As := [.int (nI e), .int (nI (6 * (10 * e + p44.1) + p44.2)), .int (nI (10 * e + k26))]) (rest := []) G Z ml_X8_189 (r_selected (d := 11) hlt hsc hS he hE hV ht45 hm46 ht27 (hg k26 (by omega))) (hsc.S hS).1 dX8_met_405 rfl (by decide) (by decide) (by decide) (by decide) (Nat.le_of_ble_eq_true rfl) rfl rfl (fun v73 h72 y74 => ?_) (fun _ _ hx => hx.elim)
                                                      obtain ⟨rfl, hsc⟩ := y74
                                                      show jv_V E 14 h72 0 0 (jv_Q E (fun v h' => v = some (.int (nI (m_met (decide (e = ec)) tsC ts pk su 2 ty n s rc).1)) ∧ rs x q h h' ∧ jv_I h' x 32 = jv_oN (m_met (decide (e = ec)) tsC ts pk su 2 ty n s rc).2 ∧ jv_I h' x 0 = jv_I h x 0 ∧ jv_I h' (q 22) c = nI ec ∧ jv_I h' (q 23) c = nI pk ∧ jv_I h' (q 24) c = jv_oN su) jv_no 0 0) 408 [(12, .int (nI (6 * (10 * e + p44.1) + p44.2))), (11, .int (nI (10 * e + k26))), (10, .int (nI 1)), (9, .int (-1)), (8, .int (nI (10 * e + k2))), (0, .ref x), (1, .int (nI c)), (2, .int (nI e)), (3, .int (nI 2)), (4, .int ty), (5, .int n), (6, .int s), (7, .int rc)] [.int (ffE e (m_sl ts 11 t45 m46 p44.1 p44.2 k26))]
                                                      rcases Option.eq_none_or_eq_some (m_sl ts 11 t45 m46 p44.1 p44.2 k26) with hp78 | ⟨p75, hp78⟩
                                                      · refine jv_topI (y := (-1)) (by rw [hp78]; rfl) ?_
                                                        refine jv_istore (q := 410) (lo' := [(13, .int (-1)), (12, .int (nI (6 * (10 * e + p44.1) + p44.2))), (11, .int (nI (10 * e + k26))), (10, .int (nI 1)), (9, .int (-1)), (8, .int (nI (10 * e + k2))), (0, .ref x), (1, .int (nI c)), (2, .int (nI e)), (3, .int (nI 2)), (4, .int ty), (5, .int n), (6, .int s), (7, .int rc)]) G dX8_met_408 (by decide) rfl rfl ?_
                                                        refine jv_iload (q := 412) G 0 dX8_met_410 rfl rfl ?_
                                                        refine jv_iconst (q := 413) (v := (-1)) G dX8_met_412 (by decide) rfl ?_
                                                        refine jv_icmp_eq (q := 416) (tgt := 426) G dX8_met_413 (by decide) rfl (fun c79 => ?_) (fun c79 => ?_)
                                                        · refine jv_iconst (q := 427) (v := nI 5) G dX8_met_426 (by decide) rfl ?_
                                                          refine jv_iret G hr dX8_met_427 (Nat.le_of_ble_eq_true rfl) (Nat.le_of_ble_eq_true rfl) ?_
                                                          have hz : (m_met (decide (e = ec)) tsC ts pk su 2 ty n s rc) = (5, none) := by
                                                            unfold m_met m_isC m_bd
                                                            simp only [*, if_true, if_false, Bool.false_eq_true, reduceIte, Option.map_some, decide_true, decide_false, not_true_eq_false, not_false_eq_true, eq_self, ne_eq, Nat.reduceLT, Nat.lt_irrefl, Nat.reduceEqDiff, and_true, true_and, and_false, false_and, or_true, true_or, or_false, false_or, Bool.or_true, Bool.or_false, Bool.true_or, Bool.false_or, reduceCtorEq] <;> rfl
                                                          exact ⟨by rw [hz], hrs.tr hsc.rs, by rw [hz]; exact (hsc.x hS 32).trans hran, (hsc.x hS 0).trans hx0, (hsc.I2 hS 22 (by decide) rfl (by decide) c).trans hce, (hsc.I2 hS 23 (by decide) rfl (by decide) c).trans hpk, (hsc.I2 hS 24 (by decide) rfl (by decide) c).trans hsu⟩
                                                        · exact absurd rfl c79
                                                      · refine jv_topI (y := nI (6 * (10 * e + p75.1) + p75.2)) (by rw [hp78]; rfl) ?_
                                                        obtain ⟨t76, ht76, m77, hm77⟩ := m_sl_mem ht45 hm46 hp78
                                                        have Tt76 := (hE.2.2 p75.1 t76 ht76).1
                                                        have Ot76 := (hE.2.2 p75.1 t76 ht76).2
                                                        have Lt76 := hE.2.1
                                                        have lt76 := jv_ltGet ht76
                                                        have Mm77 := rt_m Tt76 hm77
                                                        have Om77 := Ot76.2.2.2.2.2.2 m77 (List.mem_of_getElem? hm77)
                                                        have Lm77 := Ot76.2.2.2.2.2.1
                                                        have lm77 := jv_ltGet hm77
                                                        have Bm77n := Om77.1; have Bm77s := Om77.2.1; have Bm77a := Om77.2.2.1; have Bt76n := Ot76.1; have Bt76k := Ot76.2.1
                                                        refine jv_istore (q := 410) (lo' := [(13, .int (nI (6 * (10 * e + p75.1) + p75.2))), (12, .int (nI (6 * (10 * e + p44.1) + p44.2))), (11, .int (nI (10 * e + k26))), (10, .int (nI 1)), (9, .int (-1)), (8, .int (nI (10 * e + k2))), (0, .ref x), (1, .int (nI c)), (2, .int (nI e)), (3, .int (nI 2)), (4, .int ty), (5, .int n), (6, .int s), (7, .int rc)]) G dX8_met_408 (by decide) rfl rfl ?_
                                                        refine jv_iload (q := 412) G 0 dX8_met_410 rfl rfl ?_
                                                        refine jv_iconst (q := 413) (v := (-1)) G dX8_met_412 (by decide) rfl ?_
                                                        refine jv_icmp_eq (q := 416) (tgt := 426) G dX8_met_413 (by decide) rfl (fun c80 => ?_) (fun c80 => ?_)
                                                        · exact absurd c80 (jv_nI_m1 (by omega))
                                                        · refine jv_aload_n (q := 417) G 6 dX8_met_416 rfl rfl rfl ?_
                                                          refine jv_getQ (q := 420) G dX8_met_417 fl_X8_59 rfl (hsc.S hS).1 (rf_p18 (hsc.S hS)) rfl ?_
                                                          refine jv_iload (q := 422) G 0 dX8_met_420 rfl rfl ?_
                                                          refine jv_iald (q := 423) G dX8_met_422 (rf_a18 (hsc.S hS)) rfl (by omega) (by decide) (hsc.M hS Mm77).2.2.2.2.2.1 rfl ?_
                                                          refine jv_if_ge (q := 426) (tgt := 428) G dX8_met_423 (by decide) rfl (fun c81 => ?_) (fun c81 => ?_)
                                                          · refine jv_iload_n (q := 429) G 9 dX8_met_428 rfl rfl rfl ?_
                                                            refine jv_iconst (q := 430) (v := nI 4) G dX8_met_429 (by decide) rfl ?_
                                                            refine jv_icmp_neN (q := 433) (tgt := 446) G dX8_met_430 (by decide) rfl (by omega) (by omega) (fun c82 => ?_) (fun c82 => ?_)
                                                            · refine jv_aload_n (q := 447) G 6 dX8_met_446 rfl rfl rfl ?_
                                                              refine jv_aload_n (q := 448) G 6 dX8_met_447 rfl rfl rfl ?_
                                                              refine jv_getQ (q := 451) G dX8_met_448 fl_X8_17 rfl (hsc.S hS).1 (rf_p4 (hsc.S hS)) rfl ?_
                                                              refine jv_iload (q := 453) G 0 dX8_met_451 rfl rfl ?_
                                                              refine jv_callS_I (q := 456) (h1 := h72) (As := [.int (nI (6 * (10 * e + p75.1) + p75.2))]) (rest := [.ref (q 4), .ref x]) (ce' := 0) (sl' := 0) (r := nI ((6 * (10 * e + p75.1) + p75.2) / 6)) G Z ml_X8_183 (r_typeOf hlt (by omega)) dX8_met_453 rfl (by decide) (by decide) (by decide) (by decide) (Nat.le_of_ble_eq_true rfl) rfl rfl rfl rfl ?_
                                                              refine jv_topI (y := nI (10 * e + p75.1)) (congrArg nI (by omega)) ?_
                                                              refine jv_iald (q := 457) G dX8_met_456 (rf_a4 (hsc.S hS)) rfl (by omega) (by decide) (rt_4 (hsc.T hS Tt76)) rfl ?_
                                                              refine jv_putI (q := 460) G dX8_met_457 fl_X8_192 rfl (hsc.S hS).1 rfl ?_
                                                              have hr1 : rs x q h72 (jv_wI h72 x 32 (nI (mt_n t76))) := rs.rf.wI (nI (mt_n t76)) (Or.inl ⟨rfl, Or.inr (Or.inl rfl)⟩)
                                                              have hran : jv_I (jv_wI h72 x 32 (nI (mt_n t76))) x 32 = (nI (mt_n t76)) := jv_I_self _ _ _ _
                                                              have hSb := hsc.S hS
                                                              have hE := hr1.E hSb (hsc.E hS hE)
                                                              have hV := hr1.V hSb (hsc.V hS hV)
                                                              have hEC := hr1.E hSb (hsc.E hS hEC)
                                                              have hVC := hr1.V hSb (hsc.V hS hVC)
                                                              have hce := (wx_I hSb 22 (by decide) rfl 32 c (nI (mt_n t76))).trans ((hsc.I2 hS 22 (by decide) rfl (by decide) c).trans hce)
                                                              have hpk := (wx_I hSb 23 (by decide) rfl 32 c (nI (mt_n t76))).trans ((hsc.I2 hS 23 (by decide) rfl (by decide) c).trans hpk)
                                                              have hsu := (wx_I hSb 24 (by decide) rfl 32 c (nI (mt_n t76))).trans ((hsc.I2 hS 24 (by decide) rfl (by decide) c).trans hsu)
                                                              have hrs := (hrs.tr hsc.rs).tr hr1
                                                              have hx0 : jv_I (jv_wI h72 x 32 (nI (mt_n t76))) x 0 = jv_I h x 0 := by rw [jv_I_wI, if_neg (fun z => by cases z.2)] <;> exact (hsc.x hS 0).trans hx0
                                                              have hS := hr1.S hSb
                                                              generalize jv_wI h72 x 32 (nI (mt_n t76)) = h83 at hran hx0 hE hV hEC hVC hce hpk hsu hrs hS ⊢
                                                              have hsc : sc x q h83 h83 := sc.rf
                                                              refine jv_iload_n (q := 461) G 8 dX8_met_460 rfl rfl rfl ?_
                                                              refine jv_aload_n (q := 462) G 6 dX8_met_461 rfl rfl rfl ?_
                                                              refine jv_getQ (q := 465) G dX8_met_462 fl_X8_68 rfl (hsc.S hS).1 (rf_p22 (hsc.S hS)) rfl ?_
                                                              refine jv_iload_n (q := 466) G 7 dX8_met_465 rfl rfl rfl ?_
                                                              refine jv_iald (q := 467) G dX8_met_466 (rf_a22 (hsc.S hS)) rfl (by omega) (by decide) ((hsc.I2 hS 22 (by decide) rfl (by decide) c).trans hce) rfl ?_
                                                              refine jv_icmp_eqN (q := 470) (tgt := 495) G dX8_met_467 (by decide) rfl (by omega) (by omega) (fun c84 => ?_) (fun c84 => ?_)
                                                              · refine jv_iconst (q := 496) (v := nI 0) G dX8_met_495 (by decide) rfl ?_
                                                                refine jv_iret G hr dX8_met_496 (Nat.le_of_ble_eq_true rfl) (Nat.le_of_ble_eq_true rfl) ?_
                                                                have hz : (m_met (decide (e = ec)) tsC ts pk su 2 ty n s rc) = (0, some (mt_n t76)) := by
                                                                  unfold m_met m_isC m_bd
                                                                  simp only [*, if_true, if_false, Bool.false_eq_true, reduceIte, Option.map_some, decide_true, decide_false, not_true_eq_false, not_false_eq_true, eq_self, ne_eq, Nat.reduceLT, Nat.lt_irrefl, Nat.reduceEqDiff, and_true, true_and, and_false, false_and, or_true, true_or, or_false, false_or, Bool.or_true, Bool.or_false, Bool.true_or, Bool.false_or, reduceCtorEq] <;> rfl
                                                                exact ⟨by rw [hz], hrs.tr hsc.rs, by rw [hz]; exact (hsc.x hS 32).trans hran, (hsc.x hS 0).trans hx0, (hsc.I2 hS 22 (by decide) rfl (by decide) c).trans hce, (hsc.I2 hS 23 (by decide) rfl (by decide) c).trans hpk, (hsc.I2 hS 24 (by decide) rfl (by decide) c).trans hsu⟩
                                                              · omega
                                                            · omega
                                                          · refine jv_iconst (q := 427) (v := nI 5) G dX8_met_426 (by decide) rfl ?_
                                                            refine jv_iret G hr dX8_met_427 (Nat.le_of_ble_eq_true rfl) (Nat.le_of_ble_eq_true rfl) ?_
                                                            have hz : (m_met (decide (e = ec)) tsC ts pk su 2 ty n s rc) = (5, none) := by
                                                              unfold m_met m_isC m_bd
                                                              simp only [*, if_true, if_false, Bool.false_eq_true, reduceIte, Option.map_some, decide_true, decide_false, not_true_eq_false, not_false_eq_true, eq_self, ne_eq, Nat.reduceLT, Nat.lt_irrefl, Nat.reduceEqDiff, and_true, true_and, and_false, false_and, or_true, true_or, or_false, false_or, Bool.or_true, Bool.or_false, Bool.true_or, Bool.false_or, reduceCtorEq] <;> rfl
                                                            exact ⟨by rw [hz], hrs.tr hsc.rs, by rw [hz]; exact (hsc.x hS 32).trans hran, (hsc.x hS 0).trans hx0, (hsc.I2 hS 22 (by decide) rfl (by decide) c).trans hce, (hsc.I2 hS 23 (by decide) rfl (by decide) c).trans hpk, (hsc.I2 hS 24 (by decide) rfl (by decide) c).trans hsu⟩
                                                    · refine jv_bipush (q := 398) (v := nI 6) G dX8_met_396 (by decide) rfl ?_
                                                      refine jv_iret G hr dX8_met_398 (Nat.le_of_ble_eq_true rfl) (Nat.le_of_ble_eq_true rfl) ?_
                                                      have hz : (m_met (decide (e = ec)) tsC ts pk su 2 ty n s rc) = (6, none) := by
                                                        unfold m_met m_isC m_bd
                                                        simp only [*, if_true, if_false, Bool.false_eq_true, reduceIte, Option.map_some, decide_true, decide_false, not_true_eq_false, not_false_eq_true, eq_self, ne_eq, Nat.reduceLT, Nat.lt_irrefl, Nat.reduceEqDiff, and_true, true_and, and_false, false_and, or_true, true_or, or_false, false_or, Bool.or_true, Bool.or_false, Bool.true_or, Bool.false_or, reduceCtorEq] <;> rfl
                                                      exact ⟨by rw [hz], hrs.tr hsc.rs, by rw [hz]; exact (hsc.x hS 32).trans hran, (hsc.x hS 0).trans hx0, (hsc.I2 hS 22 (by decide) rfl (by decide) c).trans hce, (hsc.I2 hS 23 (by decide) rfl (by decide) c).trans hpk, (hsc.I2 hS 24 (by decide) rfl (by decide) c).trans hsu⟩
                                            · omega
                                          · refine jv_iconst (q := 326) (v := nI 4) G dX8_met_325 (by decide) rfl ?_
                                            refine jv_iret G hr dX8_met_326 (Nat.le_of_ble_eq_true rfl) (Nat.le_of_ble_eq_true rfl) ?_
                                            have hz : (m_met (decide (e = ec)) tsC ts pk su 2 ty n s rc) = (4, none) := by
                                              unfold m_met m_isC m_bd
                                              simp only [*, if_true, if_false, Bool.false_eq_true, reduceIte, Option.map_some, decide_true, decide_false, not_true_eq_false, not_false_eq_true, eq_self, ne_eq, Nat.reduceLT, Nat.lt_irrefl, Nat.reduceEqDiff, and_true, true_and, and_false, false_and, or_true, true_or, or_false, false_or, Bool.or_true, Bool.or_false, Bool.true_or, Bool.false_or, reduceCtorEq] <;> rfl
                                            exact ⟨by rw [hz], hrs.tr hsc.rs, by rw [hz]; exact (hsc.x hS 32).trans hran, (hsc.x hS 0).trans hx0, (hsc.I2 hS 22 (by decide) rfl (by decide) c).trans hce, (hsc.I2 hS 23 (by decide) rfl (by decide) c).trans hpk, (hsc.I2 hS 24 (by decide) rfl (by decide) c).trans hsu⟩
                                        · omega
                                    · refine jv_iconst (q := 299) (v := nI 3) G dX8_met_298 (by decide) rfl ?_
                                      refine jv_iret G hr dX8_met_299 (Nat.le_of_ble_eq_true rfl) (Nat.le_of_ble_eq_true rfl) ?_
                                      have hz : (m_met (decide (e = ec)) tsC ts pk su 2 ty n s rc) = (3, none) := by
                                        unfold m_met m_isC m_bd
                                        simp only [*, if_true, if_false, Bool.false_eq_true, reduceIte, Option.map_some, decide_true, decide_false, not_true_eq_false, not_false_eq_true, eq_self, ne_eq, Nat.reduceLT, Nat.lt_irrefl, Nat.reduceEqDiff, and_true, true_and, and_false, false_and, or_true, true_or, or_false, false_or, Bool.or_true, Bool.or_false, Bool.true_or, Bool.false_or, reduceCtorEq] <;> rfl
                                      exact ⟨by rw [hz], hrs.tr hsc.rs, by rw [hz]; exact (hsc.x hS 32).trans hran, (hsc.x hS 0).trans hx0, (hsc.I2 hS 22 (by decide) rfl (by decide) c).trans hce, (hsc.I2 hS 23 (by decide) rfl (by decide) c).trans hpk, (hsc.I2 hS 24 (by decide) rfl (by decide) c).trans hsu⟩
                                  · exact absurd c49 (jv_nI_m1 (by omega))
                              · omega
                            · omega
                          · omega
                    · refine jv_aload_n (q := 176) G 4 dX8_met_175 rfl rfl rfl ?_
                      refine jv_getQ (q := 179) G dX8_met_176 fl_X8_26 rfl (hsc.S hS).1 (rf_p7 (hsc.S hS)) rfl ?_
                      refine jv_iload (q := 181) G 3 dX8_met_179 rfl rfl ?_
                      refine jv_iald (q := 182) G dX8_met_181 (rf_a7 (hsc.S hS)) rfl (by omega) (by decide) (rt_7 (hsc.T hS Tt3)) rfl ?_
                      refine jv_aload_n (q := 183) G 4 dX8_met_182 rfl rfl rfl ?_
                      refine jv_getQ (q := 186) G dX8_met_183 fl_X8_71 rfl (hsc.S hS).1 (rf_p23 (hsc.S hS)) rfl ?_
                      refine jv_iload_n (q := 187) G 5 dX8_met_186 rfl rfl rfl ?_
                      refine jv_iald (q := 188) G dX8_met_187 (rf_a23 (hsc.S hS)) rfl (by omega) (by decide) ((hsc.I2 hS 23 (by decide) rfl (by decide) c).trans hpk) rfl ?_
                      refine jv_icmp_eqN (q := 191) (tgt := 193) G dX8_met_188 (by decide) rfl (by omega) (by omega) (fun c85 => ?_) (fun c85 => ?_)
                      · refine jv_iload_n (q := 194) G 7 dX8_met_193 rfl rfl rfl ?_
                        refine jv_iconst (q := 195) (v := nI 2) G dX8_met_194 (by decide) rfl ?_
                        refine jv_icmp_neN (q := 198) (tgt := 208) G dX8_met_195 (by decide) rfl (by omega) (by omega) (fun c86 => ?_) (fun c86 => ?_)
                        · omega
                        · refine jv_aload_n (q := 199) G 4 dX8_met_198 rfl rfl rfl ?_
                          refine jv_getQ (q := 202) G dX8_met_199 fl_X8_20 rfl (hsc.S hS).1 (rf_p5 (hsc.S hS)) rfl ?_
                          refine jv_iload (q := 204) G 3 dX8_met_202 rfl rfl ?_
                          refine jv_zald (q := 205) G dX8_met_204 (rf_a5 (hsc.S hS)) rfl (by omega) (by decide) (rt_5 (hsc.T hS Tt3)) rfl ?_
                          refine jv_if_neB (q := 208) (tgt := 223) G dX8_met_205 (by decide) rfl (fun c87 => ?_) (fun c87 => ?_)
                          · refine jv_bipush (q := 225) (v := nI 6) G dX8_met_223 (by decide) rfl ?_
                            refine jv_iret G hr dX8_met_225 (Nat.le_of_ble_eq_true rfl) (Nat.le_of_ble_eq_true rfl) ?_
                            have hz : (m_met (decide (e = ec)) tsC ts pk su 2 ty n s rc) = (6, none) := by
                              unfold m_met m_isC m_bd
                              simp only [*, if_true, if_false, Bool.false_eq_true, reduceIte, Option.map_some, decide_true, decide_false, not_true_eq_false, not_false_eq_true, eq_self, ne_eq, Nat.reduceLT, Nat.lt_irrefl, Nat.reduceEqDiff, and_true, true_and, and_false, false_and, or_true, true_or, or_false, false_or, Bool.or_true, Bool.or_false, Bool.true_or, Bool.false_or, reduceCtorEq] <;> rfl
                            exact ⟨by rw [hz], hrs.tr hsc.rs, by rw [hz]; exact (hsc.x hS 32).trans hran, (hsc.x hS 0).trans hx0, (hsc.I2 hS 22 (by decide) rfl (by decide) c).trans hce, (hsc.I2 hS 23 (by decide) rfl (by decide) c).trans hpk, (hsc.I2 hS 24 (by decide) rfl (by decide) c).trans hsu⟩
                          · refine jv_iload_n (q := 209) G 7 dX8_met_208 rfl rfl rfl ?_
                            refine jv_iconst (q := 210) (v := nI 4) G dX8_met_209 (by decide) rfl ?_
                            refine jv_icmp_neN (q := 213) (tgt := 226) G dX8_met_210 (by decide) rfl (by omega) (by omega) (fun c88 => ?_) (fun c88 => ?_)
                            · refine jv_iload_n (q := 227) G 7 dX8_met_226 rfl rfl rfl ?_
                              refine jv_iconst (q := 228) (v := nI 5) G dX8_met_227 (by decide) rfl ?_
                              refine jv_icmp_neN (q := 231) (tgt := 247) G dX8_met_228 (by decide) rfl (by omega) (by omega) (fun c89 => ?_) (fun c89 => ?_)
                              · refine jv_iload_n (q := 248) G 7 dX8_met_247 rfl rfl rfl ?_
                                refine jv_iconst (q := 249) (v := nI 2) G dX8_met_248 (by decide) rfl ?_
                                refine jv_icmp_geN (q := 252) (tgt := 266) G dX8_met_249 (by decide) rfl (by omega) (by omega) (fun c90 => ?_) (fun c90 => ?_)
                                · refine jv_aload_n (q := 267) G 4 dX8_met_266 rfl rfl rfl ?_
                                  refine jv_iload_n (q := 268) G 6 dX8_met_267 rfl rfl rfl ?_
                                  refine jv_iload (q := 270) G 3 dX8_met_268 rfl rfl ?_
                                  refine jv_iload (q := 272) G 9 dX8_met_270 rfl rfl ?_
                                  refine jv_iload (q := 274) G 10 dX8_met_272 rfl rfl ?_
                                  refine jv_callV (q := 277) (As := [.int (nI e), .int (nI (10 * e + k2)), .int n, .int s]) (rest := []) G Z ml_X8_186 (r_findMethod (d := 11) hlt hsc hS he hE hV ht3 (hg k2 (by omega))) (hsc.S hS).1 dX8_met_274 rfl (by decide) (by decide) (by decide) (by decide) (Nat.le_of_ble_eq_true rfl) rfl rfl (fun v92 h91 y93 => ?_) (fun _ _ hx => hx.elim)
                                  obtain ⟨rfl, hsc⟩ := y93
                                  show jv_V E 14 h91 0 0 (jv_Q E (fun v h' => v = some (.int (nI (m_met (decide (e = ec)) tsC ts pk su 2 ty n s rc).1)) ∧ rs x q h h' ∧ jv_I h' x 32 = jv_oN (m_met (decide (e = ec)) tsC ts pk su 2 ty n s rc).2 ∧ jv_I h' x 0 = jv_I h x 0 ∧ jv_I h' (q 22) c = nI ec ∧ jv_I h' (q 23) c = nI pk ∧ jv_I h' (q 24) c = jv_oN su) jv_no 0 0) 277 [(11, .int (nI (10 * e + k26))), (10, .int (nI 1)), (9, .int (-1)), (8, .int (nI (10 * e + k2))), (0, .ref x), (1, .int (nI c)), (2, .int (nI e)), (3, .int (nI 2)), (4, .int ty), (5, .int n), (6, .int s), (7, .int rc)] [.int (ffE e (m_fm ts 11 k2 n s))]
                                  rcases Option.eq_none_or_eq_some (m_fm ts 11 k2 n s) with hp97 | ⟨p94, hp97⟩
                                  · refine jv_topI (y := (-1)) (by rw [hp97]; rfl) ?_
                                    refine jv_istore (q := 279) (lo' := [(12, .int (-1)), (11, .int (nI (10 * e + k26))), (10, .int (nI 1)), (9, .int (-1)), (8, .int (nI (10 * e + k2))), (0, .ref x), (1, .int (nI c)), (2, .int (nI e)), (3, .int (nI 2)), (4, .int ty), (5, .int n), (6, .int s), (7, .int rc)]) G dX8_met_277 (by decide) rfl rfl ?_
                                    refine jv_iload (q := 281) G 0 dX8_met_279 rfl rfl ?_
                                    refine jv_iconst (q := 282) (v := (-1)) G dX8_met_281 (by decide) rfl ?_
                                    refine jv_icmp_ne (q := 285) (tgt := 287) G dX8_met_282 (by decide) rfl (fun c98 => ?_) (fun c98 => ?_)
                                    · exact absurd rfl c98
                                    · refine jv_iconst (q := 286) (v := nI 2) G dX8_met_285 (by decide) rfl ?_
                                      refine jv_iret G hr dX8_met_286 (Nat.le_of_ble_eq_true rfl) (Nat.le_of_ble_eq_true rfl) ?_
                                      have hz : (m_met (decide (e = ec)) tsC ts pk su 2 ty n s rc) = (2, none) := by
                                        unfold m_met m_isC m_bd
                                        simp only [*, if_true, if_false, Bool.false_eq_true, reduceIte, Option.map_some, decide_true, decide_false, not_true_eq_false, not_false_eq_true, eq_self, ne_eq, Nat.reduceLT, Nat.lt_irrefl, Nat.reduceEqDiff, and_true, true_and, and_false, false_and, or_true, true_or, or_false, false_or, Bool.or_true, Bool.or_false, Bool.true_or, Bool.false_or, reduceCtorEq] <;> rfl
                                      exact ⟨by rw [hz], hrs.tr hsc.rs, by rw [hz]; exact (hsc.x hS 32).trans hran, (hsc.x hS 0).trans hx0, (hsc.I2 hS 22 (by decide) rfl (by decide) c).trans hce, (hsc.I2 hS 23 (by decide) rfl (by decide) c).trans hpk, (hsc.I2 hS 24 (by decide) rfl (by decide) c).trans hsu⟩
                                  · refine jv_topI (y := nI (6 * (10 * e + p94.1) + p94.2)) (by rw [hp97]; rfl) ?_
                                    obtain ⟨t95, ht95, m96, hm96⟩ := m_fm_mem hp97
                                    have Tt95 := (hE.2.2 p94.1 t95 ht95).1
                                    have Ot95 := (hE.2.2 p94.1 t95 ht95).2
                                    have Lt95 := hE.2.1
                                    have lt95 := jv_ltGet ht95
                                    have Mm96 := rt_m Tt95 hm96
                                    have Om96 := Ot95.2.2.2.2.2.2 m96 (List.mem_of_getElem? hm96)
                                    have Lm96 := Ot95.2.2.2.2.2.1
                                    have lm96 := jv_ltGet hm96
                                    have Bm96n := Om96.1; have Bm96s := Om96.2.1; have Bm96a := Om96.2.2.1; have Bt95n := Ot95.1; have Bt95k := Ot95.2.1
                                    refine jv_istore (q := 279) (lo' := [(12, .int (nI (6 * (10 * e + p94.1) + p94.2))), (11, .int (nI (10 * e + k26))), (10, .int (nI 1)), (9, .int (-1)), (8, .int (nI (10 * e + k2))), (0, .ref x), (1, .int (nI c)), (2, .int (nI e)), (3, .int (nI 2)), (4, .int ty), (5, .int n), (6, .int s), (7, .int rc)]) G dX8_met_277 (by decide) rfl rfl ?_
                                    refine jv_iload (q := 281) G 0 dX8_met_279 rfl rfl ?_
                                    refine jv_iconst (q := 282) (v := (-1)) G dX8_met_281 (by decide) rfl ?_
                                    refine jv_icmp_ne (q := 285) (tgt := 287) G dX8_met_282 (by decide) rfl (fun c99 => ?_) (fun c99 => ?_)
                                    · refine jv_aload_n (q := 288) G 5 dX8_met_287 rfl rfl rfl ?_
                                      refine jv_iload_n (q := 289) G 6 dX8_met_288 rfl rfl rfl ?_
                                      refine jv_iload_n (q := 290) G 7 dX8_met_289 rfl rfl rfl ?_
                                      refine jv_iload (q := 292) G 0 dX8_met_290 rfl rfl ?_
                                      refine jv_callV_I (q := 295) (h1 := h91) (As := [.int (nI c), .int (nI e), .int (nI (6 * (10 * e + p94.1) + p94.2))]) (rest := []) (ce' := 0) (sl' := 0) (r := jv_bI (m_mr ts pk su t95 m96)) G Z ml_X8_199 (r_mayReach hlt hsc hS hc he hE hV ht95 hm96 hpk hpk5 hsu hsu16) (hsc.S hS).1 dX8_met_292 rfl (by decide) (by decide) (by decide) (by decide) (Nat.le_of_ble_eq_true rfl) rfl rfl rfl rfl ?_
                                      refine jv_if_neB (q := 298) (tgt := 300) G dX8_met_295 (by decide) rfl (fun c100 => ?_) (fun c100 => ?_)
                                      · refine jv_aload_n (q := 301) G 5 dX8_met_300 rfl rfl rfl ?_
                                        refine jv_getQ (q := 304) G dX8_met_301 fl_X8_56 rfl (hsc.S hS).1 (rf_p17 (hsc.S hS)) rfl ?_
                                        refine jv_iload (q := 306) G 0 dX8_met_304 rfl rfl ?_
                                        refine jv_zald (q := 307) G dX8_met_306 (rf_a17 (hsc.S hS)) rfl (by omega) (by decide) (hsc.M hS Mm96).2.2.2.2.1 rfl ?_
                                        refine jv_iload_n (q := 308) G 8 dX8_met_307 rfl rfl rfl ?_
                                        refine jv_iconst (q := 309) (v := nI 1) G dX8_met_308 (by decide) rfl ?_
                                        refine jv_icmp_eqN (q := 312) (tgt := 317) G dX8_met_309 (by decide) rfl (by omega) (by omega) (fun c101 => ?_) (fun c101 => ?_)
                                        · omega
                                        · refine jv_iload_n (q := 313) G 8 dX8_met_312 rfl rfl rfl ?_
                                          refine jv_iconst (q := 314) (v := nI 3) G dX8_met_313 (by decide) rfl ?_
                                          refine jv_icmp_neN (q := 317) (tgt := 321) G dX8_met_314 (by decide) rfl (by omega) (by omega) (fun c102 => ?_) (fun c102 => ?_)
                                          · refine jv_iconst (q := 322) (v := nI 0) G dX8_met_321 (by decide) rfl ?_
                                            refine jv_topI (y := jv_bI false) rfl ?_
                                            refine jv_icmp_eqB (q := 325) (tgt := 327) G dX8_met_322 (by decide) rfl (fun c103 => ?_) (fun c103 => ?_)
                                            · refine jv_iload (q := 329) G 2 dX8_met_327 rfl rfl ?_
                                              refine jv_if_neN (q := 332) (tgt := 357) G dX8_met_329 (by decide) rfl (by omega) (fun c104 => ?_) (fun c104 => ?_)
                                              · refine jv_aload_n (q := 358) G 5 dX8_met_357 rfl rfl rfl ?_
                                                refine jv_getQ (q := 361) G dX8_met_358 fl_X8_20 rfl (hsc.S hS).1 (rf_p5 (hsc.S hS)) rfl ?_
                                                refine jv_iload (q := 363) G 1 dX8_met_361 rfl rfl ?_
                                                refine jv_zald (q := 364) G dX8_met_363 (rf_a5 (hsc.S hS)) rfl (by omega) (by decide) (rt_5 (hsc.T hS Tt27)) rfl ?_
                                                refine jv_if_neB (q := 367) (tgt := 396) G dX8_met_364 (by decide) rfl (fun c105 => ?_) (fun c105 => ?_)
                                                · refine jv_bipush (q := 398) (v := nI 6) G dX8_met_396 (by decide) rfl ?_
                                                  refine jv_iret G hr dX8_met_398 (Nat.le_of_ble_eq_true rfl) (Nat.le_of_ble_eq_true rfl) ?_
                                                  have hz : (m_met (decide (e = ec)) tsC ts pk su 2 ty n s rc) = (6, none) := by
                                                    unfold m_met m_isC m_bd
                                                    simp only [*, if_true, if_false, Bool.false_eq_true, reduceIte, Option.map_some, decide_true, decide_false, not_true_eq_false, not_false_eq_true, eq_self, ne_eq, Nat.reduceLT, Nat.lt_irrefl, Nat.reduceEqDiff, and_true, true_and, and_false, false_and, or_true, true_or, or_false, false_or, Bool.or_true, Bool.or_false, Bool.true_or, Bool.false_or, reduceCtorEq] <;> rfl
                                                  exact ⟨by rw [hz], hrs.tr hsc.rs, by rw [hz]; exact (hsc.x hS 32).trans hran, (hsc.x hS 0).trans hx0, (hsc.I2 hS 22 (by decide) rfl (by decide) c).trans hce, (hsc.I2 hS 23 (by decide) rfl (by decide) c).trans hpk, (hsc.I2 hS 24 (by decide) rfl (by decide) c).trans hsu⟩
                                                · refine jv_aload_n (q := 368) G 5 dX8_met_367 rfl rfl rfl ?_
                                                  refine jv_getQ (q := 371) G dX8_met_368 fl_X8_23 rfl (hsc.S hS).1 (rf_p6 (hsc.S hS)) rfl ?_
                                                  refine jv_iload (q := 373) G 1 dX8_met_371 rfl rfl ?_
                                                  refine jv_zald (q := 374) G dX8_met_373 (rf_a6 (hsc.S hS)) rfl (by omega) (by decide) (rt_6 (hsc.T hS Tt27)) rfl ?_
                                                  refine jv_if_neB (q := 377) (tgt := 396) G dX8_met_374 (by decide) rfl (fun c106 => ?_) (fun c106 => ?_)
                                                  · refine jv_bipush (q := 398) (v := nI 6) G dX8_met_396 (by decide) rfl ?_
                                                    refine jv_iret G hr dX8_met_398 (Nat.le_of_ble_eq_true rfl) (Nat.le_of_ble_eq_true rfl) ?_
                                                    have hz : (m_met (decide (e = ec)) tsC ts pk su 2 ty n s rc) = (6, none) := by
                                                      unfold m_met m_isC m_bd
                                                      simp only [*, if_true, if_false, Bool.false_eq_true, reduceIte, Option.map_some, decide_true, decide_false, not_true_eq_false, not_false_eq_true, eq_self, ne_eq, Nat.reduceLT, Nat.lt_irrefl, Nat.reduceEqDiff, and_true, true_and, and_false, false_and, or_true, true_or, or_false, false_or, Bool.or_true, Bool.or_false, Bool.true_or, Bool.false_or, reduceCtorEq] <;> rfl
                                                    exact ⟨by rw [hz], hrs.tr hsc.rs, by rw [hz]; exact (hsc.x hS 32).trans hran, (hsc.x hS 0).trans hx0, (hsc.I2 hS 22 (by decide) rfl (by decide) c).trans hce, (hsc.I2 hS 23 (by decide) rfl (by decide) c).trans hpk, (hsc.I2 hS 24 (by decide) rfl (by decide) c).trans hsu⟩
                                                  · refine jv_iload (q := 379) G 1 dX8_met_377 rfl rfl ?_
                                                    refine jv_iload (q := 381) G 4 dX8_met_379 rfl rfl ?_
                                                    refine jv_icmp_eqN (q := 384) (tgt := 399) G dX8_met_381 (by decide) rfl (by omega) (by omega) (fun c107 => ?_) (fun c107 => ?_)
                                                    · have Kc107 : (k26 = k2) = True := eq_true (by omega)
                                                      refine jv_aload_n (q := 400) G 5 dX8_met_399 rfl rfl rfl ?_
                                                      refine jv_iload_n (q := 401) G 7 dX8_met_400 rfl rfl rfl ?_
                                                      refine jv_iload (q := 403) G 0 dX8_met_401 rfl rfl ?_
                                                      refine jv_iload (q := 405) G 1 dX8_met_403 rfl rfl ?_
                                                      refine jv_callV (q := 408) (As := [.int (nI e), .int (nI (6 * (10 * e + p94.1) + p94.2)), .int (nI (10 * e + k26))]) (rest := []) G Z ml_X8_189 (r_selected (d := 11) hlt hsc hS he hE hV ht95 hm96 ht27 (hg k26 (by omega))) (hsc.S hS).1 dX8_met_405 rfl (by decide) (by decide) (by decide) (by decide) (Nat.le_of_ble_eq_true rfl) rfl rfl (fun v109 h108 y110 => ?_) (fun _ _ hx => hx.elim)
                                                      obtain ⟨rfl, hsc⟩ := y110
                                                      show jv_V E 14 h108 0 0 (jv_Q E (fun v h' => v = some (.int (nI (m_met (decide (e = ec)) tsC ts pk su 2 ty n s rc).1)) ∧ rs x q h h' ∧ jv_I h' x 32 = jv_oN (m_met (decide (e = ec)) tsC ts pk su 2 ty n s rc).2 ∧ jv_I h' x 0 = jv_I h x 0 ∧ jv_I h' (q 22) c = nI ec ∧ jv_I h' (q 23) c = nI pk ∧ jv_I h' (q 24) c = jv_oN su) jv_no 0 0) 408 [(12, .int (nI (6 * (10 * e + p94.1) + p94.2))), (11, .int (nI (10 * e + k26))), (10, .int (nI 1)), (9, .int (-1)), (8, .int (nI (10 * e + k2))), (0, .ref x), (1, .int (nI c)), (2, .int (nI e)), (3, .int (nI 2)), (4, .int ty), (5, .int n), (6, .int s), (7, .int rc)] [.int (ffE e (m_sl ts 11 t95 m96 p94.1 p94.2 k26))]
                                                      rcases Option.eq_none_or_eq_some (m_sl ts 11 t95 m96 p94.1 p94.2 k26) with hp114 | ⟨p111, hp114⟩
                                                      · refine jv_topI (y := (-1)) (by rw [hp114]; rfl) ?_
                                                        refine jv_istore (q := 410) (lo' := [(13, .int (-1)), (12, .int (nI (6 * (10 * e + p94.1) + p94.2))), (11, .int (nI (10 * e + k26))), (10, .int (nI 1)), (9, .int (-1)), (8, .int (nI (10 * e + k2))), (0, .ref x), (1, .int (nI c)), (2, .int (nI e)), (3, .int (nI 2)), (4, .int ty), (5, .int n), (6, .int s), (7, .int rc)]) G dX8_met_408 (by decide) rfl rfl ?_
                                                        refine jv_iload (q := 412) G 0 dX8_met_410 rfl rfl ?_
                                                        refine jv_iconst (q := 413) (v := (-1)) G dX8_met_412 (by decide) rfl ?_
                                                        refine jv_icmp_eq (q := 416) (tgt := 426) G dX8_met_413 (by decide) rfl (fun c115 => ?_) (fun c115 => ?_)
                                                        · refine jv_iconst (q := 427) (v := nI 5) G dX8_met_426 (by decide) rfl ?_
                                                          refine jv_iret G hr dX8_met_427 (Nat.le_of_ble_eq_true rfl) (Nat.le_of_ble_eq_true rfl) ?_
                                                          have hz : (m_met (decide (e = ec)) tsC ts pk su 2 ty n s rc) = (5, none) := by
                                                            unfold m_met m_isC m_bd
                                                            simp only [*, if_true, if_false, Bool.false_eq_true, reduceIte, Option.map_some, decide_true, decide_false, not_true_eq_false, not_false_eq_true, eq_self, ne_eq, Nat.reduceLT, Nat.lt_irrefl, Nat.reduceEqDiff, and_true, true_and, and_false, false_and, or_true, true_or, or_false, false_or, Bool.or_true, Bool.or_false, Bool.true_or, Bool.false_or, reduceCtorEq] <;> rfl
                                                          exact ⟨by rw [hz], hrs.tr hsc.rs, by rw [hz]; exact (hsc.x hS 32).trans hran, (hsc.x hS 0).trans hx0, (hsc.I2 hS 22 (by decide) rfl (by decide) c).trans hce, (hsc.I2 hS 23 (by decide) rfl (by decide) c).trans hpk, (hsc.I2 hS 24 (by decide) rfl (by decide) c).trans hsu⟩
                                                        · exact absurd rfl c115
                                                      · refine jv_topI (y := nI (6 * (10 * e + p111.1) + p111.2)) (by rw [hp114]; rfl) ?_
                                                        obtain ⟨t112, ht112, m113, hm113⟩ := m_sl_mem ht95 hm96 hp114
                                                        have Tt112 := (hE.2.2 p111.1 t112 ht112).1
                                                        have Ot112 := (hE.2.2 p111.1 t112 ht112).2
                                                        have Lt112 := hE.2.1
                                                        have lt112 := jv_ltGet ht112
                                                        have Mm113 := rt_m Tt112 hm113
                                                        have Om113 := Ot112.2.2.2.2.2.2 m113 (List.mem_of_getElem? hm113)
                                                        have Lm113 := Ot112.2.2.2.2.2.1
                                                        have lm113 := jv_ltGet hm113
                                                        have Bm113n := Om113.1; have Bm113s := Om113.2.1; have Bm113a := Om113.2.2.1; have Bt112n := Ot112.1; have Bt112k := Ot112.2.1
                                                        refine jv_istore (q := 410) (lo' := [(13, .int (nI (6 * (10 * e + p111.1) + p111.2))), (12, .int (nI (6 * (10 * e + p94.1) + p94.2))), (11, .int (nI (10 * e + k26))), (10, .int (nI 1)), (9, .int (-1)), (8, .int (nI (10 * e + k2))), (0, .ref x), (1, .int (nI c)), (2, .int (nI e)), (3, .int (nI 2)), (4, .int ty), (5, .int n), (6, .int s), (7, .int rc)]) G dX8_met_408 (by decide) rfl rfl ?_
                                                        refine jv_iload (q := 412) G 0 dX8_met_410 rfl rfl ?_
                                                        refine jv_iconst (q := 413) (v := (-1)) G dX8_met_412 (by decide) rfl ?_
                                                        refine jv_icmp_eq (q := 416) (tgt := 426) G dX8_met_413 (by decide) rfl (fun c116 => ?_) (fun c116 => ?_)
                                                        · exact absurd c116 (jv_nI_m1 (by omega))
                                                        · refine jv_aload_n (q := 417) G 6 dX8_met_416 rfl rfl rfl ?_
                                                          refine jv_getQ (q := 420) G dX8_met_417 fl_X8_59 rfl (hsc.S hS).1 (rf_p18 (hsc.S hS)) rfl ?_
                                                          refine jv_iload (q := 422) G 0 dX8_met_420 rfl rfl ?_
                                                          refine jv_iald (q := 423) G dX8_met_422 (rf_a18 (hsc.S hS)) rfl (by omega) (by decide) (hsc.M hS Mm113).2.2.2.2.2.1 rfl ?_
                                                          refine jv_if_ge (q := 426) (tgt := 428) G dX8_met_423 (by decide) rfl (fun c117 => ?_) (fun c117 => ?_)
                                                          · refine jv_iload_n (q := 429) G 9 dX8_met_428 rfl rfl rfl ?_
                                                            refine jv_iconst (q := 430) (v := nI 4) G dX8_met_429 (by decide) rfl ?_
                                                            refine jv_icmp_neN (q := 433) (tgt := 446) G dX8_met_430 (by decide) rfl (by omega) (by omega) (fun c118 => ?_) (fun c118 => ?_)
                                                            · refine jv_aload_n (q := 447) G 6 dX8_met_446 rfl rfl rfl ?_
                                                              refine jv_aload_n (q := 448) G 6 dX8_met_447 rfl rfl rfl ?_
                                                              refine jv_getQ (q := 451) G dX8_met_448 fl_X8_17 rfl (hsc.S hS).1 (rf_p4 (hsc.S hS)) rfl ?_
                                                              refine jv_iload (q := 453) G 0 dX8_met_451 rfl rfl ?_
                                                              refine jv_callS_I (q := 456) (h1 := h108) (As := [.int (nI (6 * (10 * e + p111.1) + p111.2))]) (rest := [.ref (q 4), .ref x]) (ce' := 0) (sl' := 0) (r := nI ((6 * (10 * e + p111.1) + p111.2) / 6)) G Z ml_X8_183 (r_typeOf hlt (by omega)) dX8_met_453 rfl (by decide) (by decide) (by decide) (by decide) (Nat.le_of_ble_eq_true rfl) rfl rfl rfl rfl ?_
                                                              refine jv_topI (y := nI (10 * e + p111.1)) (congrArg nI (by omega)) ?_
                                                              refine jv_iald (q := 457) G dX8_met_456 (rf_a4 (hsc.S hS)) rfl (by omega) (by decide) (rt_4 (hsc.T hS Tt112)) rfl ?_
                                                              refine jv_putI (q := 460) G dX8_met_457 fl_X8_192 rfl (hsc.S hS).1 rfl ?_
                                                              have hr1 : rs x q h108 (jv_wI h108 x 32 (nI (mt_n t112))) := rs.rf.wI (nI (mt_n t112)) (Or.inl ⟨rfl, Or.inr (Or.inl rfl)⟩)
                                                              have hran : jv_I (jv_wI h108 x 32 (nI (mt_n t112))) x 32 = (nI (mt_n t112)) := jv_I_self _ _ _ _
                                                              have hSb := hsc.S hS
                                                              have hE := hr1.E hSb (hsc.E hS hE)
                                                              have hV := hr1.V hSb (hsc.V hS hV)
                                                              have hEC := hr1.E hSb (hsc.E hS hEC)
                                                              have hVC := hr1.V hSb (hsc.V hS hVC)
                                                              have hce := (wx_I hSb 22 (by decide) rfl 32 c (nI (mt_n t112))).trans ((hsc.I2 hS 22 (by decide) rfl (by decide) c).trans hce)
                                                              have hpk := (wx_I hSb 23 (by decide) rfl 32 c (nI (mt_n t112))).trans ((hsc.I2 hS 23 (by decide) rfl (by decide) c).trans hpk)
                                                              have hsu := (wx_I hSb 24 (by decide) rfl 32 c (nI (mt_n t112))).trans ((hsc.I2 hS 24 (by decide) rfl (by decide) c).trans hsu)
                                                              have hrs := (hrs.tr hsc.rs).tr hr1
                                                              have hx0 : jv_I (jv_wI h108 x 32 (nI (mt_n t112))) x 0 = jv_I h x 0 := by rw [jv_I_wI, if_neg (fun z => by cases z.2)] <;> exact (hsc.x hS 0).trans hx0
                                                              have hS := hr1.S hSb
                                                              generalize jv_wI h108 x 32 (nI (mt_n t112)) = h119 at hran hx0 hE hV hEC hVC hce hpk hsu hrs hS ⊢
                                                              have hsc : sc x q h119 h119 := sc.rf
                                                              refine jv_iload_n (q := 461) G 8 dX8_met_460 rfl rfl rfl ?_
                                                              refine jv_aload_n (q := 462) G 6 dX8_met_461 rfl rfl rfl ?_
                                                              refine jv_getQ (q := 465) G dX8_met_462 fl_X8_68 rfl (hsc.S hS).1 (rf_p22 (hsc.S hS)) rfl ?_
                                                              refine jv_iload_n (q := 466) G 7 dX8_met_465 rfl rfl rfl ?_
                                                              refine jv_iald (q := 467) G dX8_met_466 (rf_a22 (hsc.S hS)) rfl (by omega) (by decide) ((hsc.I2 hS 22 (by decide) rfl (by decide) c).trans hce) rfl ?_
                                                              refine jv_icmp_eqN (q := 470) (tgt := 495) G dX8_met_467 (by decide) rfl (by omega) (by omega) (fun c120 => ?_) (fun c120 => ?_)
                                                              · refine jv_iconst (q := 496) (v := nI 0) G dX8_met_495 (by decide) rfl ?_
                                                                refine jv_iret G hr dX8_met_496 (Nat.le_of_ble_eq_true rfl) (Nat.le_of_ble_eq_true rfl) ?_
                                                                have hz : (m_met (decide (e = ec)) tsC ts pk su 2 ty n s rc) = (0, some (mt_n t112)) := by
                                                                  unfold m_met m_isC m_bd
                                                                  simp only [*, if_true, if_false, Bool.false_eq_true, reduceIte, Option.map_some, decide_true, decide_false, not_true_eq_false, not_false_eq_true, eq_self, ne_eq, Nat.reduceLT, Nat.lt_irrefl, Nat.reduceEqDiff, and_true, true_and, and_false, false_and, or_true, true_or, or_false, false_or, Bool.or_true, Bool.or_false, Bool.true_or, Bool.false_or, reduceCtorEq] <;> rfl
                                                                exact ⟨by rw [hz], hrs.tr hsc.rs, by rw [hz]; exact (hsc.x hS 32).trans hran, (hsc.x hS 0).trans hx0, (hsc.I2 hS 22 (by decide) rfl (by decide) c).trans hce, (hsc.I2 hS 23 (by decide) rfl (by decide) c).trans hpk, (hsc.I2 hS 24 (by decide) rfl (by decide) c).trans hsu⟩
                                                              · omega
                                                            · omega
                                                          · refine jv_iconst (q := 427) (v := nI 5) G dX8_met_426 (by decide) rfl ?_
                                                            refine jv_iret G hr dX8_met_427 (Nat.le_of_ble_eq_true rfl) (Nat.le_of_ble_eq_true rfl) ?_
                                                            have hz : (m_met (decide (e = ec)) tsC ts pk su 2 ty n s rc) = (5, none) := by
                                                              unfold m_met m_isC m_bd
                                                              simp only [*, if_true, if_false, Bool.false_eq_true, reduceIte, Option.map_some, decide_true, decide_false, not_true_eq_false, not_false_eq_true, eq_self, ne_eq, Nat.reduceLT, Nat.lt_irrefl, Nat.reduceEqDiff, and_true, true_and, and_false, false_and, or_true, true_or, or_false, false_or, Bool.or_true, Bool.or_false, Bool.true_or, Bool.false_or, reduceCtorEq] <;> rfl
                                                            exact ⟨by rw [hz], hrs.tr hsc.rs, by rw [hz]; exact (hsc.x hS 32).trans hran, (hsc.x hS 0).trans hx0, (hsc.I2 hS 22 (by decide) rfl (by decide) c).trans hce, (hsc.I2 hS 23 (by decide) rfl (by decide) c).trans hpk, (hsc.I2 hS 24 (by decide) rfl (by decide) c).trans hsu⟩
                                                    · have Kc107 : (k26 = k2) = False := eq_false (by omega)
                                                      refine jv_aload_n (q := 385) G 5 dX8_met_384 rfl rfl rfl ?_
                                                      refine jv_iload_n (q := 386) G 7 dX8_met_385 rfl rfl rfl ?_
                                                      refine jv_iload (q := 388) G 9 dX8_met_386 rfl rfl ?_
                                                      refine jv_iload (q := 390) G 12 dX8_met_388 rfl rfl ?_
                                                      refine jv_callV_I (q := 393) (h1 := h91) (As := [.int (nI e), .int ty, .int rc]) (rest := []) (ce' := 0) (sl' := 0) (r := jv_bI (m_isA ts ty rc)) G Z ml_X8_167 (r_isAbove hlt hsc hS he hV) (hsc.S hS).1 dX8_met_390 rfl (by decide) (by decide) (by decide) (by decide) (Nat.le_of_ble_eq_true rfl) rfl rfl rfl rfl ?_
                                                      refine jv_if_neB (q := 396) (tgt := 399) G dX8_met_393 (by decide) rfl (fun c121 => ?_) (fun c121 => ?_)
                                                      · refine jv_aload_n (q := 400) G 5 dX8_met_399 rfl rfl rfl ?_
                                                        refine jv_iload_n (q := 401) G 7 dX8_met_400 rfl rfl rfl ?_
                                                        refine jv_iload (q := 403) G 0 dX8_met_401 rfl rfl ?_
                                                        refine jv_iload (q := 405) G 1 dX8_met_403 rfl rfl ?_
                                                        refine jv_callV (q := 408) (As := [.int (nI e), .int (nI (6 * (10 * e + p94.1) + p94.2)), .int (nI (10 * e + k26))]) (rest := []) G Z ml_X8_189 (r_selected (d := 11) hlt hsc hS he hE hV ht95 hm96 ht27 (hg k26 (by omega))) (hsc.S hS).1 dX8_met_405 rfl (by decide) (by decide) (by decide) (by decide) (Nat.le_of_ble_eq_true rfl) rfl rfl (fun v123 h122 y124 => ?_) (fun _ _ hx => hx.elim)
                                                        obtain ⟨rfl, hsc⟩ := y124
                                                        show jv_V E 14 h122 0 0 (jv_Q E (fun v h' => v = some (.int (nI (m_met (decide (e = ec)) tsC ts pk su 2 ty n s rc).1)) ∧ rs x q h h' ∧ jv_I h' x 32 = jv_oN (m_met (decide (e = ec)) tsC ts pk su 2 ty n s rc).2 ∧ jv_I h' x 0 = jv_I h x 0 ∧ jv_I h' (q 22) c = nI ec ∧ jv_I h' (q 23) c = nI pk ∧ jv_I h' (q 24) c = jv_oN su) jv_no 0 0) 408 [(12, .int (nI (6 * (10 * e + p94.1) + p94.2))), (11, .int (nI (10 * e + k26))), (10, .int (nI 1)), (9, .int (-1)), (8, .int (nI (10 * e + k2))), (0, .ref x), (1, .int (nI c)), (2, .int (nI e)), (3, .int (nI 2)), (4, .int ty), (5, .int n), (6, .int s), (7, .int rc)] [.int (ffE e (m_sl ts 11 t95 m96 p94.1 p94.2 k26))]
                                                        rcases Option.eq_none_or_eq_some (m_sl ts 11 t95 m96 p94.1 p94.2 k26) with hp128 | ⟨p125, hp128⟩
                                                        · refine jv_topI (y := (-1)) (by rw [hp128]; rfl) ?_
                                                          refine jv_istore (q := 410) (lo' := [(13, .int (-1)), (12, .int (nI (6 * (10 * e + p94.1) + p94.2))), (11, .int (nI (10 * e + k26))), (10, .int (nI 1)), (9, .int (-1)), (8, .int (nI (10 * e + k2))), (0, .ref x), (1, .int (nI c)), (2, .int (nI e)), (3, .int (nI 2)), (4, .int ty), (5, .int n), (6, .int s), (7, .int rc)]) G dX8_met_408 (by decide) rfl rfl ?_
                                                          refine jv_iload (q := 412) G 0 dX8_met_410 rfl rfl ?_
                                                          refine jv_iconst (q := 413) (v := (-1)) G dX8_met_412 (by decide) rfl ?_
                                                          refine jv_icmp_eq (q := 416) (tgt := 426) G dX8_met_413 (by decide) rfl (fun c129 => ?_) (fun c129 => ?_)
                                                          · refine jv_iconst (q := 427) (v := nI 5) G dX8_met_426 (by decide) rfl ?_
                                                            refine jv_iret G hr dX8_met_427 (Nat.le_of_ble_eq_true rfl) (Nat.le_of_ble_eq_true rfl) ?_
                                                            have hz : (m_met (decide (e = ec)) tsC ts pk su 2 ty n s rc) = (5, none) := by
                                                              unfold m_met m_isC m_bd
                                                              simp only [*, if_true, if_false, Bool.false_eq_true, reduceIte, Option.map_some, decide_true, decide_false, not_true_eq_false, not_false_eq_true, eq_self, ne_eq, Nat.reduceLT, Nat.lt_irrefl, Nat.reduceEqDiff, and_true, true_and, and_false, false_and, or_true, true_or, or_false, false_or, Bool.or_true, Bool.or_false, Bool.true_or, Bool.false_or, reduceCtorEq] <;> rfl
                                                            exact ⟨by rw [hz], hrs.tr hsc.rs, by rw [hz]; exact (hsc.x hS 32).trans hran, (hsc.x hS 0).trans hx0, (hsc.I2 hS 22 (by decide) rfl (by decide) c).trans hce, (hsc.I2 hS 23 (by decide) rfl (by decide) c).trans hpk, (hsc.I2 hS 24 (by decide) rfl (by decide) c).trans hsu⟩
                                                          · exact absurd rfl c129
                                                        · refine jv_topI (y := nI (6 * (10 * e + p125.1) + p125.2)) (by rw [hp128]; rfl) ?_
                                                          obtain ⟨t126, ht126, m127, hm127⟩ := m_sl_mem ht95 hm96 hp128
                                                          have Tt126 := (hE.2.2 p125.1 t126 ht126).1
                                                          have Ot126 := (hE.2.2 p125.1 t126 ht126).2
                                                          have Lt126 := hE.2.1
                                                          have lt126 := jv_ltGet ht126
                                                          have Mm127 := rt_m Tt126 hm127
                                                          have Om127 := Ot126.2.2.2.2.2.2 m127 (List.mem_of_getElem? hm127)
                                                          have Lm127 := Ot126.2.2.2.2.2.1
                                                          have lm127 := jv_ltGet hm127
                                                          have Bm127n := Om127.1; have Bm127s := Om127.2.1; have Bm127a := Om127.2.2.1; have Bt126n := Ot126.1; have Bt126k := Ot126.2.1
                                                          refine jv_istore (q := 410) (lo' := [(13, .int (nI (6 * (10 * e + p125.1) + p125.2))), (12, .int (nI (6 * (10 * e + p94.1) + p94.2))), (11, .int (nI (10 * e + k26))), (10, .int (nI 1)), (9, .int (-1)), (8, .int (nI (10 * e + k2))), (0, .ref x), (1, .int (nI c)), (2, .int (nI e)), (3, .int (nI 2)), (4, .int ty), (5, .int n), (6, .int s), (7, .int rc)]) G dX8_met_408 (by decide) rfl rfl ?_
                                                          refine jv_iload (q := 412) G 0 dX8_met_410 rfl rfl ?_
                                                          refine jv_iconst (q := 413) (v := (-1)) G dX8_met_412 (by decide) rfl ?_
                                                          refine jv_icmp_eq (q := 416) (tgt := 426) G dX8_met_413 (by decide) rfl (fun c130 => ?_) (fun c130 => ?_)
                                                          · exact absurd c130 (jv_nI_m1 (by omega))
                                                          · refine jv_aload_n (q := 417) G 6 dX8_met_416 rfl rfl rfl ?_
                                                            refine jv_getQ (q := 420) G dX8_met_417 fl_X8_59 rfl (hsc.S hS).1 (rf_p18 (hsc.S hS)) rfl ?_
                                                            refine jv_iload (q := 422) G 0 dX8_met_420 rfl rfl ?_
                                                            refine jv_iald (q := 423) G dX8_met_422 (rf_a18 (hsc.S hS)) rfl (by omega) (by decide) (hsc.M hS Mm127).2.2.2.2.2.1 rfl ?_
                                                            refine jv_if_ge (q := 426) (tgt := 428) G dX8_met_423 (by decide) rfl (fun c131 => ?_) (fun c131 => ?_)
                                                            · refine jv_iload_n (q := 429) G 9 dX8_met_428 rfl rfl rfl ?_
                                                              refine jv_iconst (q := 430) (v := nI 4) G dX8_met_429 (by decide) rfl ?_
                                                              refine jv_icmp_neN (q := 433) (tgt := 446) G dX8_met_430 (by decide) rfl (by omega) (by omega) (fun c132 => ?_) (fun c132 => ?_)
                                                              · refine jv_aload_n (q := 447) G 6 dX8_met_446 rfl rfl rfl ?_
                                                                refine jv_aload_n (q := 448) G 6 dX8_met_447 rfl rfl rfl ?_
                                                                refine jv_getQ (q := 451) G dX8_met_448 fl_X8_17 rfl (hsc.S hS).1 (rf_p4 (hsc.S hS)) rfl ?_
                                                                refine jv_iload (q := 453) G 0 dX8_met_451 rfl rfl ?_
                                                                refine jv_callS_I (q := 456) (h1 := h122) (As := [.int (nI (6 * (10 * e + p125.1) + p125.2))]) (rest := [.ref (q 4), .ref x]) (ce' := 0) (sl' := 0) (r := nI ((6 * (10 * e + p125.1) + p125.2) / 6)) G Z ml_X8_183 (r_typeOf hlt (by omega)) dX8_met_453 rfl (by decide) (by decide) (by decide) (by decide) (Nat.le_of_ble_eq_true rfl) rfl rfl rfl rfl ?_
                                                                refine jv_topI (y := nI (10 * e + p125.1)) (congrArg nI (by omega)) ?_
                                                                refine jv_iald (q := 457) G dX8_met_456 (rf_a4 (hsc.S hS)) rfl (by omega) (by decide) (rt_4 (hsc.T hS Tt126)) rfl ?_
                                                                refine jv_putI (q := 460) G dX8_met_457 fl_X8_192 rfl (hsc.S hS).1 rfl ?_
                                                                have hr1 : rs x q h122 (jv_wI h122 x 32 (nI (mt_n t126))) := rs.rf.wI (nI (mt_n t126)) (Or.inl ⟨rfl, Or.inr (Or.inl rfl)⟩)
                                                                have hran : jv_I (jv_wI h122 x 32 (nI (mt_n t126))) x 32 = (nI (mt_n t126)) := jv_I_self _ _ _ _
                                                                have hSb := hsc.S hS
                                                                have hE := hr1.E hSb (hsc.E hS hE)
                                                                have hV := hr1.V hSb (hsc.V hS hV)
                                                                have hEC := hr1.E hSb (hsc.E hS hEC)
                                                                have hVC := hr1.V hSb (hsc.V hS hVC)
                                                                have hce := (wx_I hSb 22 (by decide) rfl 32 c (nI (mt_n t126))).trans ((hsc.I2 hS 22 (by decide) rfl (by decide) c).trans hce)
                                                                have hpk := (wx_I hSb 23 (by decide) rfl 32 c (nI (mt_n t126))).trans ((hsc.I2 hS 23 (by decide) rfl (by decide) c).trans hpk)
                                                                have hsu := (wx_I hSb 24 (by decide) rfl 32 c (nI (mt_n t126))).trans ((hsc.I2 hS 24 (by decide) rfl (by decide) c).trans hsu)
                                                                have hrs := (hrs.tr hsc.rs).tr hr1
                                                                have hx0 : jv_I (jv_wI h122 x 32 (nI (mt_n t126))) x 0 = jv_I h x 0 := by rw [jv_I_wI, if_neg (fun z => by cases z.2)] <;> exact (hsc.x hS 0).trans hx0
                                                                have hS := hr1.S hSb
                                                                generalize jv_wI h122 x 32 (nI (mt_n t126)) = h133 at hran hx0 hE hV hEC hVC hce hpk hsu hrs hS ⊢
                                                                have hsc : sc x q h133 h133 := sc.rf
                                                                refine jv_iload_n (q := 461) G 8 dX8_met_460 rfl rfl rfl ?_
                                                                refine jv_aload_n (q := 462) G 6 dX8_met_461 rfl rfl rfl ?_
                                                                refine jv_getQ (q := 465) G dX8_met_462 fl_X8_68 rfl (hsc.S hS).1 (rf_p22 (hsc.S hS)) rfl ?_
                                                                refine jv_iload_n (q := 466) G 7 dX8_met_465 rfl rfl rfl ?_
                                                                refine jv_iald (q := 467) G dX8_met_466 (rf_a22 (hsc.S hS)) rfl (by omega) (by decide) ((hsc.I2 hS 22 (by decide) rfl (by decide) c).trans hce) rfl ?_
                                                                refine jv_icmp_eqN (q := 470) (tgt := 495) G dX8_met_467 (by decide) rfl (by omega) (by omega) (fun c134 => ?_) (fun c134 => ?_)
                                                                · refine jv_iconst (q := 496) (v := nI 0) G dX8_met_495 (by decide) rfl ?_
                                                                  refine jv_iret G hr dX8_met_496 (Nat.le_of_ble_eq_true rfl) (Nat.le_of_ble_eq_true rfl) ?_
                                                                  have hz : (m_met (decide (e = ec)) tsC ts pk su 2 ty n s rc) = (0, some (mt_n t126)) := by
                                                                    unfold m_met m_isC m_bd
                                                                    simp only [*, if_true, if_false, Bool.false_eq_true, reduceIte, Option.map_some, decide_true, decide_false, not_true_eq_false, not_false_eq_true, eq_self, ne_eq, Nat.reduceLT, Nat.lt_irrefl, Nat.reduceEqDiff, and_true, true_and, and_false, false_and, or_true, true_or, or_false, false_or, Bool.or_true, Bool.or_false, Bool.true_or, Bool.false_or, reduceCtorEq] <;> rfl
                                                                  exact ⟨by rw [hz], hrs.tr hsc.rs, by rw [hz]; exact (hsc.x hS 32).trans hran, (hsc.x hS 0).trans hx0, (hsc.I2 hS 22 (by decide) rfl (by decide) c).trans hce, (hsc.I2 hS 23 (by decide) rfl (by decide) c).trans hpk, (hsc.I2 hS 24 (by decide) rfl (by decide) c).trans hsu⟩
                                                                · omega
                                                              · omega
                                                            · refine jv_iconst (q := 427) (v := nI 5) G dX8_met_426 (by decide) rfl ?_
                                                              refine jv_iret G hr dX8_met_427 (Nat.le_of_ble_eq_true rfl) (Nat.le_of_ble_eq_true rfl) ?_
                                                              have hz : (m_met (decide (e = ec)) tsC ts pk su 2 ty n s rc) = (5, none) := by
                                                                unfold m_met m_isC m_bd
                                                                simp only [*, if_true, if_false, Bool.false_eq_true, reduceIte, Option.map_some, decide_true, decide_false, not_true_eq_false, not_false_eq_true, eq_self, ne_eq, Nat.reduceLT, Nat.lt_irrefl, Nat.reduceEqDiff, and_true, true_and, and_false, false_and, or_true, true_or, or_false, false_or, Bool.or_true, Bool.or_false, Bool.true_or, Bool.false_or, reduceCtorEq] <;> rfl
                                                              exact ⟨by rw [hz], hrs.tr hsc.rs, by rw [hz]; exact (hsc.x hS 32).trans hran, (hsc.x hS 0).trans hx0, (hsc.I2 hS 22 (by decide) rfl (by decide) c).trans hce, (hsc.I2 hS 23 (by decide) rfl (by decide) c).trans hpk, (hsc.I2 hS 24 (by decide) rfl (by decide) c).trans hsu⟩
                                                      · refine jv_bipush (q := 398) (v := nI 6) G dX8_met_396 (by decide) rfl ?_
                                                        refine jv_iret G hr dX8_met_398 (Nat.le_of_ble_eq_true rfl) (Nat.le_of_ble_eq_true rfl) ?_
                                                        have hz : (m_met (decide (e = ec)) tsC ts pk su 2 ty n s rc) = (6, none) := by
                                                          unfold m_met m_isC m_bd
                                                          simp only [*, if_true, if_false, Bool.false_eq_true, reduceIte, Option.map_some, decide_true, decide_false, not_true_eq_false, not_false_eq_true, eq_self, ne_eq, Nat.reduceLT, Nat.lt_irrefl, Nat.reduceEqDiff, and_true, true_and, and_false, false_and, or_true, true_or, or_false, false_or, Bool.or_true, Bool.or_false, Bool.true_or, Bool.false_or, reduceCtorEq] <;> rfl
                                                        exact ⟨by rw [hz], hrs.tr hsc.rs, by rw [hz]; exact (hsc.x hS 32).trans hran, (hsc.x hS 0).trans hx0, (hsc.I2 hS 22 (by decide) rfl (by decide) c).trans hce, (hsc.I2 hS 23 (by decide) rfl (by decide) c).trans hpk, (hsc.I2 hS 24 (by decide) rfl (by decide) c).trans hsu⟩
                                              · omega
                                            · refine jv_iconst (q := 326) (v := nI 4) G dX8_met_325 (by decide) rfl ?_
                                              refine jv_iret G hr dX8_met_326 (Nat.le_of_ble_eq_true rfl) (Nat.le_of_ble_eq_true rfl) ?_
                                              have hz : (m_met (decide (e = ec)) tsC ts pk su 2 ty n s rc) = (4, none) := by
                                                unfold m_met m_isC m_bd
                                                simp only [*, if_true, if_false, Bool.false_eq_true, reduceIte, Option.map_some, decide_true, decide_false, not_true_eq_false, not_false_eq_true, eq_self, ne_eq, Nat.reduceLT, Nat.lt_irrefl, Nat.reduceEqDiff, and_true, true_and, and_false, false_and, or_true, true_or, or_false, false_or, Bool.or_true, Bool.or_false, Bool.true_or, Bool.false_or, reduceCtorEq] <;> rfl
                                              exact ⟨by rw [hz], hrs.tr hsc.rs, by rw [hz]; exact (hsc.x hS 32).trans hran, (hsc.x hS 0).trans hx0, (hsc.I2 hS 22 (by decide) rfl (by decide) c).trans hce, (hsc.I2 hS 23 (by decide) rfl (by decide) c).trans hpk, (hsc.I2 hS 24 (by decide) rfl (by decide) c).trans hsu⟩
                                          · omega
                                      · refine jv_iconst (q := 299) (v := nI 3) G dX8_met_298 (by decide) rfl ?_
                                        refine jv_iret G hr dX8_met_299 (Nat.le_of_ble_eq_true rfl) (Nat.le_of_ble_eq_true rfl) ?_
                                        have hz : (m_met (decide (e = ec)) tsC ts pk su 2 ty n s rc) = (3, none) := by
                                          unfold m_met m_isC m_bd
                                          simp only [*, if_true, if_false, Bool.false_eq_true, reduceIte, Option.map_some, decide_true, decide_false, not_true_eq_false, not_false_eq_true, eq_self, ne_eq, Nat.reduceLT, Nat.lt_irrefl, Nat.reduceEqDiff, and_true, true_and, and_false, false_and, or_true, true_or, or_false, false_or, Bool.or_true, Bool.or_false, Bool.true_or, Bool.false_or, reduceCtorEq] <;> rfl
                                        exact ⟨by rw [hz], hrs.tr hsc.rs, by rw [hz]; exact (hsc.x hS 32).trans hran, (hsc.x hS 0).trans hx0, (hsc.I2 hS 22 (by decide) rfl (by decide) c).trans hce, (hsc.I2 hS 23 (by decide) rfl (by decide) c).trans hpk, (hsc.I2 hS 24 (by decide) rfl (by decide) c).trans hsu⟩
                                    · exact absurd c99 (jv_nI_m1 (by omega))
                                · omega
                              · omega
                            · omega
                      · refine jv_iconst (q := 192) (v := nI 3) G dX8_met_191 (by decide) rfl ?_
                        refine jv_iret G hr dX8_met_192 (Nat.le_of_ble_eq_true rfl) (Nat.le_of_ble_eq_true rfl) ?_
                        have hz : (m_met (decide (e = ec)) tsC ts pk su 2 ty n s rc) = (3, none) := by
                          unfold m_met m_isC m_bd
                          simp only [*, if_true, if_false, Bool.false_eq_true, reduceIte, Option.map_some, decide_true, decide_false, not_true_eq_false, not_false_eq_true, eq_self, ne_eq, Nat.reduceLT, Nat.lt_irrefl, Nat.reduceEqDiff, and_true, true_and, and_false, false_and, or_true, true_or, or_false, false_or, Bool.or_true, Bool.or_false, Bool.true_or, Bool.false_or, reduceCtorEq] <;> rfl
                        exact ⟨by rw [hz], hrs.tr hsc.rs, by rw [hz]; exact (hsc.x hS 32).trans hran, (hsc.x hS 0).trans hx0, (hsc.I2 hS 22 (by decide) rfl (by decide) c).trans hce, (hsc.I2 hS 23 (by decide) rfl (by decide) c).trans hpk, (hsc.I2 hS 24 (by decide) rfl (by decide) c).trans hsu⟩
                  · exact absurd c34 (jv_nI_m1 (by omega))
        · omega
      · exact absurd rfl c23
    · refine jv_aload_n (q := 25) G 1 dX8_met_24 rfl rfl rfl ?_
      refine jv_iload_n (q := 26) G 2 dX8_met_25 rfl rfl rfl ?_
      refine jv_iload_n (q := 27) G 4 dX8_met_26 rfl rfl rfl ?_
      refine jv_iload (q := 29) G 5 dX8_met_27 rfl rfl ?_
      refine jv_iload (q := 31) G 6 dX8_met_29 rfl rfl ?_
      refine jv_iload (q := 33) G 7 dX8_met_31 rfl rfl ?_
      refine jv_callV_I (q := 36) (h1 := h1) (As := [.int (nI c), .int (nI 2), .int ty, .int n, .int s]) (rest := []) (ce' := 0) (sl' := 0) (r := (ffE ec (m_co tsC 2 ty n s))) G Z ml_X8_195 (r_constantOf hlt hsc hS hc hec hEC hce (by decide) hgC) (hsc.S hS).1 dX8_met_33 rfl (by decide) (by decide) (by decide) (by decide) (Nat.le_of_ble_eq_true rfl) rfl rfl rfl rfl ?_
      refine jv_topI (y := (-1)) rfl ?_
      refine jv_goto (q := 40) G dX8_met_36 (by decide) ?_
      refine jv_istore (q := 42) (lo' := [(9, .int (-1)), (8, .int (nI (10 * e + k2))), (0, .ref x), (1, .int (nI c)), (2, .int (nI e)), (3, .int (nI 2)), (4, .int ty), (5, .int n), (6, .int s), (7, .int rc)]) G dX8_met_40 (by decide) rfl rfl ?_
      refine jv_iload (q := 44) G 0 dX8_met_42 rfl rfl ?_
      refine jv_iconst (q := 45) (v := (-1)) G dX8_met_44 (by decide) rfl ?_
      refine jv_icmp_eq (q := 48) (tgt := 111) G dX8_met_45 (by decide) rfl (fun c135 => ?_) (fun c135 => ?_)
      · refine jv_iload_n (q := 112) G 5 dX8_met_111 rfl rfl rfl ?_
        refine jv_iconst (q := 113) (v := nI 2) G dX8_met_112 (by decide) rfl ?_
        refine jv_icmp_eqN (q := 116) (tgt := 121) G dX8_met_113 (by decide) rfl (by omega) (by omega) (fun c136 => ?_) (fun c136 => ?_)
        · refine jv_iconst (q := 122) (v := nI 1) G dX8_met_121 (by decide) rfl ?_
          refine jv_goto (q := 126) G dX8_met_122 (by decide) ?_
          refine jv_istore (q := 128) (lo' := [(10, .int (nI 1)), (9, .int (-1)), (8, .int (nI (10 * e + k2))), (0, .ref x), (1, .int (nI c)), (2, .int (nI e)), (3, .int (nI 2)), (4, .int ty), (5, .int n), (6, .int s), (7, .int rc)]) G dX8_met_126 (by decide) rfl rfl ?_
          refine jv_iload (q := 130) G 0 dX8_met_128 rfl rfl ?_
          refine jv_if_eqN (q := 133) (tgt := 143) G dX8_met_130 (by decide) rfl (by omega) (fun c137 => ?_) (fun c137 => ?_)
          · omega
          · refine jv_aload_n (q := 134) G 3 dX8_met_133 rfl rfl rfl ?_
            refine jv_iload_n (q := 135) G 5 dX8_met_134 rfl rfl rfl ?_
            refine jv_iload (q := 137) G 10 dX8_met_135 rfl rfl ?_
            refine jv_callV_I (q := 140) (h1 := h1) (As := [.int (nI e), .int rc]) (rest := []) (ce' := 0) (sl' := 0) (r := jv_oN ((m_at ts rc).map (fun k => 10 * e + k))) G Z ml_X8_151 (r_at hlt (hsc.S hS) he (hsc.E hS hE)) (hsc.S hS).1 dX8_met_137 rfl (by decide) (by decide) (by decide) (by decide) (Nat.le_of_ble_eq_true rfl) rfl rfl rfl rfl ?_
            rcases Option.eq_none_or_eq_some (m_at ts rc) with hk140 | ⟨k138, hk140⟩
            · refine jv_topI (y := (-1)) (by rw [hk140]; rfl) ?_
              refine jv_goto (q := 144) G dX8_met_140 (by decide) ?_
              refine jv_istore (q := 146) (lo' := [(11, .int (-1)), (10, .int (nI 1)), (9, .int (-1)), (8, .int (nI (10 * e + k2))), (0, .ref x), (1, .int (nI c)), (2, .int (nI e)), (3, .int (nI 2)), (4, .int ty), (5, .int n), (6, .int s), (7, .int rc)]) G dX8_met_144 (by decide) rfl rfl ?_
              refine jv_iload (q := 148) G 3 dX8_met_146 rfl rfl ?_
              refine jv_iconst (q := 149) (v := (-1)) G dX8_met_148 (by decide) rfl ?_
              refine jv_icmp_eq (q := 152) (tgt := 163) G dX8_met_149 (by decide) rfl (fun c141 => ?_) (fun c141 => ?_)
              · exact absurd c141 (jv_nI_m1 (by omega))
              · refine jv_iload (q := 154) G 1 dX8_met_152 rfl rfl ?_
                refine jv_if_eqN (q := 157) (tgt := 165) G dX8_met_154 (by decide) rfl (by omega) (fun c142 => ?_) (fun c142 => ?_)
                · omega
                · refine jv_iload (q := 159) G 0 dX8_met_157 rfl rfl ?_
                  refine jv_iconst (q := 160) (v := (-1)) G dX8_met_159 (by decide) rfl ?_
                  refine jv_icmp_ne (q := 163) (tgt := 165) G dX8_met_160 (by decide) rfl (fun c143 => ?_) (fun c143 => ?_)
                  · exact absurd rfl c143
                  · refine jv_iconst (q := 164) (v := nI 1) G dX8_met_163 (by decide) rfl ?_
                    refine jv_iret G hr dX8_met_164 (Nat.le_of_ble_eq_true rfl) (Nat.le_of_ble_eq_true rfl) ?_
                    have hz : (m_met (decide (e = ec)) tsC ts pk su 2 ty n s rc) = (1, none) := by
                      unfold m_met m_isC m_bd
                      simp only [*, if_true, if_false, Bool.false_eq_true, reduceIte, Option.map_some, decide_true, decide_false, not_true_eq_false, not_false_eq_true, eq_self, ne_eq, Nat.reduceLT, Nat.lt_irrefl, Nat.reduceEqDiff, and_true, true_and, and_false, false_and, or_true, true_or, or_false, false_or, Bool.or_true, Bool.or_false, Bool.true_or, Bool.false_or, reduceCtorEq] <;> rfl
                    exact ⟨by rw [hz], hrs.tr hsc.rs, by rw [hz]; exact (hsc.x hS 32).trans hran, (hsc.x hS 0).trans hx0, (hsc.I2 hS 22 (by decide) rfl (by decide) c).trans hce, (hsc.I2 hS 23 (by decide) rfl (by decide) c).trans hpk, (hsc.I2 hS 24 (by decide) rfl (by decide) c).trans hsu⟩
            · refine jv_topI (y := nI (10 * e + k138)) (by rw [hk140]; rfl) ?_
              obtain ⟨t139, ht139, nt139, lt139⟩ := m_at_some hk140
              have Tt139 := (hE.2.2 k138 t139 ht139).1
              have Ot139 := (hE.2.2 k138 t139 ht139).2
              have Lt139 := hE.2.1
              have Bt139n := Ot139.1; have Bt139k := Ot139.2.1
              refine jv_goto (q := 144) G dX8_met_140 (by decide) ?_
              refine jv_istore (q := 146) (lo' := [(11, .int (nI (10 * e + k138))), (10, .int (nI 1)), (9, .int (-1)), (8, .int (nI (10 * e + k2))), (0, .ref x), (1, .int (nI c)), (2, .int (nI e)), (3, .int (nI 2)), (4, .int ty), (5, .int n), (6, .int s), (7, .int rc)]) G dX8_met_144 (by decide) rfl rfl ?_
              refine jv_iload (q := 148) G 3 dX8_met_146 rfl rfl ?_
              refine jv_iconst (q := 149) (v := (-1)) G dX8_met_148 (by decide) rfl ?_
              refine jv_icmp_eq (q := 152) (tgt := 163) G dX8_met_149 (by decide) rfl (fun c144 => ?_) (fun c144 => ?_)
              · exact absurd c144 (jv_nI_m1 (by omega))
              · refine jv_iload (q := 154) G 1 dX8_met_152 rfl rfl ?_
                refine jv_if_eqN (q := 157) (tgt := 165) G dX8_met_154 (by decide) rfl (by omega) (fun c145 => ?_) (fun c145 => ?_)
                · omega
                · refine jv_iload (q := 159) G 0 dX8_met_157 rfl rfl ?_
                  refine jv_iconst (q := 160) (v := (-1)) G dX8_met_159 (by decide) rfl ?_
                  refine jv_icmp_ne (q := 163) (tgt := 165) G dX8_met_160 (by decide) rfl (fun c146 => ?_) (fun c146 => ?_)
                  · refine jv_aload_n (q := 166) G 4 dX8_met_165 rfl rfl rfl ?_
                    refine jv_getQ (q := 169) G dX8_met_166 fl_X8_29 rfl (hsc.S hS).1 (rf_p8 (hsc.S hS)) rfl ?_
                    refine jv_iload (q := 171) G 3 dX8_met_169 rfl rfl ?_
                    refine jv_zald (q := 172) G dX8_met_171 (rf_a8 (hsc.S hS)) rfl (by omega) (by decide) (rt_8 (hsc.T hS Tt3)) rfl ?_
                    refine jv_if_neB (q := 175) (tgt := 193) G dX8_met_172 (by decide) rfl (fun c147 => ?_) (fun c147 => ?_)
                    · refine jv_iload_n (q := 194) G 7 dX8_met_193 rfl rfl rfl ?_
                      refine jv_iconst (q := 195) (v := nI 2) G dX8_met_194 (by decide) rfl ?_
                      refine jv_icmp_neN (q := 198) (tgt := 208) G dX8_met_195 (by decide) rfl (by omega) (by omega) (fun c148 => ?_) (fun c148 => ?_)
                      · omega
                      · refine jv_aload_n (q := 199) G 4 dX8_met_198 rfl rfl rfl ?_
                        refine jv_getQ (q := 202) G dX8_met_199 fl_X8_20 rfl (hsc.S hS).1 (rf_p5 (hsc.S hS)) rfl ?_
                        refine jv_iload (q := 204) G 3 dX8_met_202 rfl rfl ?_
                        refine jv_zald (q := 205) G dX8_met_204 (rf_a5 (hsc.S hS)) rfl (by omega) (by decide) (rt_5 (hsc.T hS Tt3)) rfl ?_
                        refine jv_if_neB (q := 208) (tgt := 223) G dX8_met_205 (by decide) rfl (fun c149 => ?_) (fun c149 => ?_)
                        · refine jv_bipush (q := 225) (v := nI 6) G dX8_met_223 (by decide) rfl ?_
                          refine jv_iret G hr dX8_met_225 (Nat.le_of_ble_eq_true rfl) (Nat.le_of_ble_eq_true rfl) ?_
                          have hz : (m_met (decide (e = ec)) tsC ts pk su 2 ty n s rc) = (6, none) := by
                            unfold m_met m_isC m_bd
                            simp only [*, if_true, if_false, Bool.false_eq_true, reduceIte, Option.map_some, decide_true, decide_false, not_true_eq_false, not_false_eq_true, eq_self, ne_eq, Nat.reduceLT, Nat.lt_irrefl, Nat.reduceEqDiff, and_true, true_and, and_false, false_and, or_true, true_or, or_false, false_or, Bool.or_true, Bool.or_false, Bool.true_or, Bool.false_or, reduceCtorEq] <;> rfl
                          exact ⟨by rw [hz], hrs.tr hsc.rs, by rw [hz]; exact (hsc.x hS 32).trans hran, (hsc.x hS 0).trans hx0, (hsc.I2 hS 22 (by decide) rfl (by decide) c).trans hce, (hsc.I2 hS 23 (by decide) rfl (by decide) c).trans hpk, (hsc.I2 hS 24 (by decide) rfl (by decide) c).trans hsu⟩
                        · refine jv_iload_n (q := 209) G 7 dX8_met_208 rfl rfl rfl ?_
                          refine jv_iconst (q := 210) (v := nI 4) G dX8_met_209 (by decide) rfl ?_
                          refine jv_icmp_neN (q := 213) (tgt := 226) G dX8_met_210 (by decide) rfl (by omega) (by omega) (fun c150 => ?_) (fun c150 => ?_)
                          · refine jv_iload_n (q := 227) G 7 dX8_met_226 rfl rfl rfl ?_
                            refine jv_iconst (q := 228) (v := nI 5) G dX8_met_227 (by decide) rfl ?_
                            refine jv_icmp_neN (q := 231) (tgt := 247) G dX8_met_228 (by decide) rfl (by omega) (by omega) (fun c151 => ?_) (fun c151 => ?_)
                            · refine jv_iload_n (q := 248) G 7 dX8_met_247 rfl rfl rfl ?_
                              refine jv_iconst (q := 249) (v := nI 2) G dX8_met_248 (by decide) rfl ?_
                              refine jv_icmp_geN (q := 252) (tgt := 266) G dX8_met_249 (by decide) rfl (by omega) (by omega) (fun c152 => ?_) (fun c152 => ?_)
                              · refine jv_aload_n (q := 267) G 4 dX8_met_266 rfl rfl rfl ?_
                                refine jv_iload_n (q := 268) G 6 dX8_met_267 rfl rfl rfl ?_
                                refine jv_iload (q := 270) G 3 dX8_met_268 rfl rfl ?_
                                refine jv_iload (q := 272) G 9 dX8_met_270 rfl rfl ?_
                                refine jv_iload (q := 274) G 10 dX8_met_272 rfl rfl ?_
                                refine jv_callV (q := 277) (As := [.int (nI e), .int (nI (10 * e + k2)), .int n, .int s]) (rest := []) G Z ml_X8_186 (r_findMethod (d := 11) hlt hsc hS he hE hV ht3 (hg k2 (by omega))) (hsc.S hS).1 dX8_met_274 rfl (by decide) (by decide) (by decide) (by decide) (Nat.le_of_ble_eq_true rfl) rfl rfl (fun v154 h153 y155 => ?_) (fun _ _ hx => hx.elim)
                                obtain ⟨rfl, hsc⟩ := y155
                                show jv_V E 14 h153 0 0 (jv_Q E (fun v h' => v = some (.int (nI (m_met (decide (e = ec)) tsC ts pk su 2 ty n s rc).1)) ∧ rs x q h h' ∧ jv_I h' x 32 = jv_oN (m_met (decide (e = ec)) tsC ts pk su 2 ty n s rc).2 ∧ jv_I h' x 0 = jv_I h x 0 ∧ jv_I h' (q 22) c = nI ec ∧ jv_I h' (q 23) c = nI pk ∧ jv_I h' (q 24) c = jv_oN su) jv_no 0 0) 277 [(11, .int (nI (10 * e + k138))), (10, .int (nI 1)), (9, .int (-1)), (8, .int (nI (10 * e + k2))), (0, .ref x), (1, .int (nI c)), (2, .int (nI e)), (3, .int (nI 2)), (4, .int ty), (5, .int n), (6, .int s), (7, .int rc)] [.int (ffE e (m_fm ts 11 k2 n s))]
                                rcases Option.eq_none_or_eq_some (m_fm ts 11 k2 n s) with hp159 | ⟨p156, hp159⟩
                                · refine jv_topI (y := (-1)) (by rw [hp159]; rfl) ?_
                                  refine jv_istore (q := 279) (lo' := [(12, .int (-1)), (11, .int (nI (10 * e + k138))), (10, .int (nI 1)), (9, .int (-1)), (8, .int (nI (10 * e + k2))), (0, .ref x), (1, .int (nI c)), (2, .int (nI e)), (3, .int (nI 2)), (4, .int ty), (5, .int n), (6, .int s), (7, .int rc)]) G dX8_met_277 (by decide) rfl rfl ?_
                                  refine jv_iload (q := 281) G 0 dX8_met_279 rfl rfl ?_
                                  refine jv_iconst (q := 282) (v := (-1)) G dX8_met_281 (by decide) rfl ?_
                                  refine jv_icmp_ne (q := 285) (tgt := 287) G dX8_met_282 (by decide) rfl (fun c160 => ?_) (fun c160 => ?_)
                                  · exact absurd rfl c160
                                  · refine jv_iconst (q := 286) (v := nI 2) G dX8_met_285 (by decide) rfl ?_
                                    refine jv_iret G hr dX8_met_286 (Nat.le_of_ble_eq_true rfl) (Nat.le_of_ble_eq_true rfl) ?_
                                    have hz : (m_met (decide (e = ec)) tsC ts pk su 2 ty n s rc) = (2, none) := by
                                      unfold m_met m_isC m_bd
                                      simp only [*, if_true, if_false, Bool.false_eq_true, reduceIte, Option.map_some, decide_true, decide_false, not_true_eq_false, not_false_eq_true, eq_self, ne_eq, Nat.reduceLT, Nat.lt_irrefl, Nat.reduceEqDiff, and_true, true_and, and_false, false_and, or_true, true_or, or_false, false_or, Bool.or_true, Bool.or_false, Bool.true_or, Bool.false_or, reduceCtorEq] <;> rfl
                                    exact ⟨by rw [hz], hrs.tr hsc.rs, by rw [hz]; exact (hsc.x hS 32).trans hran, (hsc.x hS 0).trans hx0, (hsc.I2 hS 22 (by decide) rfl (by decide) c).trans hce, (hsc.I2 hS 23 (by decide) rfl (by decide) c).trans hpk, (hsc.I2 hS 24 (by decide) rfl (by decide) c).trans hsu⟩
                                · refine jv_topI (y := nI (6 * (10 * e + p156.1) + p156.2)) (by rw [hp159]; rfl) ?_
                                  obtain ⟨t157, ht157, m158, hm158⟩ := m_fm_mem hp159
                                  have Tt157 := (hE.2.2 p156.1 t157 ht157).1
                                  have Ot157 := (hE.2.2 p156.1 t157 ht157).2
                                  have Lt157 := hE.2.1
                                  have lt157 := jv_ltGet ht157
                                  have Mm158 := rt_m Tt157 hm158
                                  have Om158 := Ot157.2.2.2.2.2.2 m158 (List.mem_of_getElem? hm158)
                                  have Lm158 := Ot157.2.2.2.2.2.1
                                  have lm158 := jv_ltGet hm158
                                  have Bm158n := Om158.1; have Bm158s := Om158.2.1; have Bm158a := Om158.2.2.1; have Bt157n := Ot157.1; have Bt157k := Ot157.2.1
                                  refine jv_istore (q := 279) (lo' := [(12, .int (nI (6 * (10 * e + p156.1) + p156.2))), (11, .int (nI (10 * e + k138))), (10, .int (nI 1)), (9, .int (-1)), (8, .int (nI (10 * e + k2))), (0, .ref x), (1, .int (nI c)), (2, .int (nI e)), (3, .int (nI 2)), (4, .int ty), (5, .int n), (6, .int s), (7, .int rc)]) G dX8_met_277 (by decide) rfl rfl ?_
                                  refine jv_iload (q := 281) G 0 dX8_met_279 rfl rfl ?_
                                  refine jv_iconst (q := 282) (v := (-1)) G dX8_met_281 (by decide) rfl ?_
                                  refine jv_icmp_ne (q := 285) (tgt := 287) G dX8_met_282 (by decide) rfl (fun c161 => ?_) (fun c161 => ?_)
                                  · refine jv_aload_n (q := 288) G 5 dX8_met_287 rfl rfl rfl ?_
                                    refine jv_iload_n (q := 289) G 6 dX8_met_288 rfl rfl rfl ?_
                                    refine jv_iload_n (q := 290) G 7 dX8_met_289 rfl rfl rfl ?_
                                    refine jv_iload (q := 292) G 0 dX8_met_290 rfl rfl ?_
                                    refine jv_callV_I (q := 295) (h1 := h153) (As := [.int (nI c), .int (nI e), .int (nI (6 * (10 * e + p156.1) + p156.2))]) (rest := []) (ce' := 0) (sl' := 0) (r := jv_bI (m_mr ts pk su t157 m158)) G Z ml_X8_199 (r_mayReach hlt hsc hS hc he hE hV ht157 hm158 hpk hpk5 hsu hsu16) (hsc.S hS).1 dX8_met_292 rfl (by decide) (by decide) (by decide) (by decide) (Nat.le_of_ble_eq_true rfl) rfl rfl rfl rfl ?_
                                    refine jv_if_neB (q := 298) (tgt := 300) G dX8_met_295 (by decide) rfl (fun c162 => ?_) (fun c162 => ?_)
                                    · refine jv_aload_n (q := 301) G 5 dX8_met_300 rfl rfl rfl ?_
                                      refine jv_getQ (q := 304) G dX8_met_301 fl_X8_56 rfl (hsc.S hS).1 (rf_p17 (hsc.S hS)) rfl ?_
                                      refine jv_iload (q := 306) G 0 dX8_met_304 rfl rfl ?_
                                      refine jv_zald (q := 307) G dX8_met_306 (rf_a17 (hsc.S hS)) rfl (by omega) (by decide) (hsc.M hS Mm158).2.2.2.2.1 rfl ?_
                                      refine jv_iload_n (q := 308) G 8 dX8_met_307 rfl rfl rfl ?_
                                      refine jv_iconst (q := 309) (v := nI 1) G dX8_met_308 (by decide) rfl ?_
                                      refine jv_icmp_eqN (q := 312) (tgt := 317) G dX8_met_309 (by decide) rfl (by omega) (by omega) (fun c163 => ?_) (fun c163 => ?_)
                                      · omega
                                      · refine jv_iload_n (q := 313) G 8 dX8_met_312 rfl rfl rfl ?_
                                        refine jv_iconst (q := 314) (v := nI 3) G dX8_met_313 (by decide) rfl ?_
                                        refine jv_icmp_neN (q := 317) (tgt := 321) G dX8_met_314 (by decide) rfl (by omega) (by omega) (fun c164 => ?_) (fun c164 => ?_)
                                        · refine jv_iconst (q := 322) (v := nI 0) G dX8_met_321 (by decide) rfl ?_
                                          refine jv_topI (y := jv_bI false) rfl ?_
                                          refine jv_icmp_eqB (q := 325) (tgt := 327) G dX8_met_322 (by decide) rfl (fun c165 => ?_) (fun c165 => ?_)
                                          · refine jv_iload (q := 329) G 2 dX8_met_327 rfl rfl ?_
                                            refine jv_if_neN (q := 332) (tgt := 357) G dX8_met_329 (by decide) rfl (by omega) (fun c166 => ?_) (fun c166 => ?_)
                                            · refine jv_aload_n (q := 358) G 5 dX8_met_357 rfl rfl rfl ?_
                                              refine jv_getQ (q := 361) G dX8_met_358 fl_X8_20 rfl (hsc.S hS).1 (rf_p5 (hsc.S hS)) rfl ?_
                                              refine jv_iload (q := 363) G 1 dX8_met_361 rfl rfl ?_
                                              refine jv_zald (q := 364) G dX8_met_363 (rf_a5 (hsc.S hS)) rfl (by omega) (by decide) (rt_5 (hsc.T hS Tt139)) rfl ?_
                                              refine jv_if_neB (q := 367) (tgt := 396) G dX8_met_364 (by decide) rfl (fun c167 => ?_) (fun c167 => ?_)
                                              · refine jv_bipush (q := 398) (v := nI 6) G dX8_met_396 (by decide) rfl ?_
                                                refine jv_iret G hr dX8_met_398 (Nat.le_of_ble_eq_true rfl) (Nat.le_of_ble_eq_true rfl) ?_
                                                have hz : (m_met (decide (e = ec)) tsC ts pk su 2 ty n s rc) = (6, none) := by
                                                  unfold m_met m_isC m_bd
                                                  simp only [*, if_true, if_false, Bool.false_eq_true, reduceIte, Option.map_some, decide_true, decide_false, not_true_eq_false, not_false_eq_true, eq_self, ne_eq, Nat.reduceLT, Nat.lt_irrefl, Nat.reduceEqDiff, and_true, true_and, and_false, false_and, or_true, true_or, or_false, false_or, Bool.or_true, Bool.or_false, Bool.true_or, Bool.false_or, reduceCtorEq] <;> rfl
                                                exact ⟨by rw [hz], hrs.tr hsc.rs, by rw [hz]; exact (hsc.x hS 32).trans hran, (hsc.x hS 0).trans hx0, (hsc.I2 hS 22 (by decide) rfl (by decide) c).trans hce, (hsc.I2 hS 23 (by decide) rfl (by decide) c).trans hpk, (hsc.I2 hS 24 (by decide) rfl (by decide) c).trans hsu⟩
                                              · refine jv_aload_n (q := 368) G 5 dX8_met_367 rfl rfl rfl ?_
                                                refine jv_getQ (q := 371) G dX8_met_368 fl_X8_23 rfl (hsc.S hS).1 (rf_p6 (hsc.S hS)) rfl ?_
                                                refine jv_iload (q := 373) G 1 dX8_met_371 rfl rfl ?_
                                                refine jv_zald (q := 374) G dX8_met_373 (rf_a6 (hsc.S hS)) rfl (by omega) (by decide) (rt_6 (hsc.T hS Tt139)) rfl ?_
                                                refine jv_if_neB (q := 377) (tgt := 396) G dX8_met_374 (by decide) rfl (fun c168 => ?_) (fun c168 => ?_)
                                                · refine jv_bipush (q := 398) (v := nI 6) G dX8_met_396 (by decide) rfl ?_
                                                  refine jv_iret G hr dX8_met_398 (Nat.le_of_ble_eq_true rfl) (Nat.le_of_ble_eq_true rfl) ?_
                                                  have hz : (m_met (decide (e = ec)) tsC ts pk su 2 ty n s rc) = (6, none) := by
                                                    unfold m_met m_isC m_bd
                                                    simp only [*, if_true, if_false, Bool.false_eq_true, reduceIte, Option.map_some, decide_true, decide_false, not_true_eq_false, not_false_eq_true, eq_self, ne_eq, Nat.reduceLT, Nat.lt_irrefl, Nat.reduceEqDiff, and_true, true_and, and_false, false_and, or_true, true_or, or_false, false_or, Bool.or_true, Bool.or_false, Bool.true_or, Bool.false_or, reduceCtorEq] <;> rfl
                                                  exact ⟨by rw [hz], hrs.tr hsc.rs, by rw [hz]; exact (hsc.x hS 32).trans hran, (hsc.x hS 0).trans hx0, (hsc.I2 hS 22 (by decide) rfl (by decide) c).trans hce, (hsc.I2 hS 23 (by decide) rfl (by decide) c).trans hpk, (hsc.I2 hS 24 (by decide) rfl (by decide) c).trans hsu⟩
                                                · refine jv_iload (q := 379) G 1 dX8_met_377 rfl rfl ?_
                                                  refine jv_iload (q := 381) G 4 dX8_met_379 rfl rfl ?_
                                                  refine jv_icmp_eqN (q := 384) (tgt := 399) G dX8_met_381 (by decide) rfl (by omega) (by omega) (fun c169 => ?_) (fun c169 => ?_)
                                                  · have Kc169 : (k138 = k2) = True := eq_true (by omega)
                                                    refine jv_aload_n (q := 400) G 5 dX8_met_399 rfl rfl rfl ?_
                                                    refine jv_iload_n (q := 401) G 7 dX8_met_400 rfl rfl rfl ?_
                                                    refine jv_iload (q := 403) G 0 dX8_met_401 rfl rfl ?_
                                                    refine jv_iload (q := 405) G 1 dX8_met_403 rfl rfl ?_
                                                    refine jv_callV (q := 408) (As := [.int (nI e), .int (nI (6 * (10 * e + p156.1) + p156.2)), .int (nI (10 * e + k138))]) (rest := []) G Z ml_X8_189 (r_selected (d := 11) hlt hsc hS he hE hV ht157 hm158 ht139 (hg k138 (by omega))) (hsc.S hS).1 dX8_met_405 rfl (by decide) (by decide) (by decide) (by decide) (Nat.le_of_ble_eq_true rfl) rfl rfl (fun v171 h170 y172 => ?_) (fun _ _ hx => hx.elim)
                                                    obtain ⟨rfl, hsc⟩ := y172
                                                    show jv_V E 14 h170 0 0 (jv_Q E (fun v h' => v = some (.int (nI (m_met (decide (e = ec)) tsC ts pk su 2 ty n s rc).1)) ∧ rs x q h h' ∧ jv_I h' x 32 = jv_oN (m_met (decide (e = ec)) tsC ts pk su 2 ty n s rc).2 ∧ jv_I h' x 0 = jv_I h x 0 ∧ jv_I h' (q 22) c = nI ec ∧ jv_I h' (q 23) c = nI pk ∧ jv_I h' (q 24) c = jv_oN su) jv_no 0 0) 408 [(12, .int (nI (6 * (10 * e + p156.1) + p156.2))), (11, .int (nI (10 * e + k138))), (10, .int (nI 1)), (9, .int (-1)), (8, .int (nI (10 * e + k2))), (0, .ref x), (1, .int (nI c)), (2, .int (nI e)), (3, .int (nI 2)), (4, .int ty), (5, .int n), (6, .int s), (7, .int rc)] [.int (ffE e (m_sl ts 11 t157 m158 p156.1 p156.2 k138))]
                                                    rcases Option.eq_none_or_eq_some (m_sl ts 11 t157 m158 p156.1 p156.2 k138) with hp176 | ⟨p173, hp176⟩
                                                    · refine jv_topI (y := (-1)) (by rw [hp176]; rfl) ?_
                                                      refine jv_istore (q := 410) (lo' := [(13, .int (-1)), (12, .int (nI (6 * (10 * e + p156.1) + p156.2))), (11, .int (nI (10 * e + k138))), (10, .int (nI 1)), (9, .int (-1)), (8, .int (nI (10 * e + k2))), (0, .ref x), (1, .int (nI c)), (2, .int (nI e)), (3, .int (nI 2)), (4, .int ty), (5, .int n), (6, .int s), (7, .int rc)]) G dX8_met_408 (by decide) rfl rfl ?_
                                                      refine jv_iload (q := 412) G 0 dX8_met_410 rfl rfl ?_
                                                      refine jv_iconst (q := 413) (v := (-1)) G dX8_met_412 (by decide) rfl ?_
                                                      refine jv_icmp_eq (q := 416) (tgt := 426) G dX8_met_413 (by decide) rfl (fun c177 => ?_) (fun c177 => ?_)
                                                      · refine jv_iconst (q := 427) (v := nI 5) G dX8_met_426 (by decide) rfl ?_
                                                        refine jv_iret G hr dX8_met_427 (Nat.le_of_ble_eq_true rfl) (Nat.le_of_ble_eq_true rfl) ?_
                                                        have hz : (m_met (decide (e = ec)) tsC ts pk su 2 ty n s rc) = (5, none) := by
                                                          unfold m_met m_isC m_bd
                                                          simp only [*, if_true, if_false, Bool.false_eq_true, reduceIte, Option.map_some, decide_true, decide_false, not_true_eq_false, not_false_eq_true, eq_self, ne_eq, Nat.reduceLT, Nat.lt_irrefl, Nat.reduceEqDiff, and_true, true_and, and_false, false_and, or_true, true_or, or_false, false_or, Bool.or_true, Bool.or_false, Bool.true_or, Bool.false_or, reduceCtorEq] <;> rfl
                                                        exact ⟨by rw [hz], hrs.tr hsc.rs, by rw [hz]; exact (hsc.x hS 32).trans hran, (hsc.x hS 0).trans hx0, (hsc.I2 hS 22 (by decide) rfl (by decide) c).trans hce, (hsc.I2 hS 23 (by decide) rfl (by decide) c).trans hpk, (hsc.I2 hS 24 (by decide) rfl (by decide) c).trans hsu⟩
                                                      · exact absurd rfl c177
                                                    · refine jv_topI (y := nI (6 * (10 * e + p173.1) + p173.2)) (by rw [hp176]; rfl) ?_
                                                      obtain ⟨t174, ht174, m175, hm175⟩ := m_sl_mem ht157 hm158 hp176
                                                      have Tt174 := (hE.2.2 p173.1 t174 ht174).1
                                                      have Ot174 := (hE.2.2 p173.1 t174 ht174).2
                                                      have Lt174 := hE.2.1
                                                      have lt174 := jv_ltGet ht174
                                                      have Mm175 := rt_m Tt174 hm175
                                                      have Om175 := Ot174.2.2.2.2.2.2 m175 (List.mem_of_getElem? hm175)
                                                      have Lm175 := Ot174.2.2.2.2.2.1
                                                      have lm175 := jv_ltGet hm175
                                                      have Bm175n := Om175.1; have Bm175s := Om175.2.1; have Bm175a := Om175.2.2.1; have Bt174n := Ot174.1; have Bt174k := Ot174.2.1
                                                      refine jv_istore (q := 410) (lo' := [(13, .int (nI (6 * (10 * e + p173.1) + p173.2))), (12, .int (nI (6 * (10 * e + p156.1) + p156.2))), (11, .int (nI (10 * e + k138))), (10, .int (nI 1)), (9, .int (-1)), (8, .int (nI (10 * e + k2))), (0, .ref x), (1, .int (nI c)), (2, .int (nI e)), (3, .int (nI 2)), (4, .int ty), (5, .int n), (6, .int s), (7, .int rc)]) G dX8_met_408 (by decide) rfl rfl ?_
                                                      refine jv_iload (q := 412) G 0 dX8_met_410 rfl rfl ?_
                                                      refine jv_iconst (q := 413) (v := (-1)) G dX8_met_412 (by decide) rfl ?_
                                                      refine jv_icmp_eq (q := 416) (tgt := 426) G dX8_met_413 (by decide) rfl (fun c178 => ?_) (fun c178 => ?_)
                                                      · exact absurd c178 (jv_nI_m1 (by omega))
                                                      · refine jv_aload_n (q := 417) G 6 dX8_met_416 rfl rfl rfl ?_
                                                        refine jv_getQ (q := 420) G dX8_met_417 fl_X8_59 rfl (hsc.S hS).1 (rf_p18 (hsc.S hS)) rfl ?_
                                                        refine jv_iload (q := 422) G 0 dX8_met_420 rfl rfl ?_
                                                        refine jv_iald (q := 423) G dX8_met_422 (rf_a18 (hsc.S hS)) rfl (by omega) (by decide) (hsc.M hS Mm175).2.2.2.2.2.1 rfl ?_
                                                        refine jv_if_ge (q := 426) (tgt := 428) G dX8_met_423 (by decide) rfl (fun c179 => ?_) (fun c179 => ?_)
                                                        · refine jv_iload_n (q := 429) G 9 dX8_met_428 rfl rfl rfl ?_
                                                          refine jv_iconst (q := 430) (v := nI 4) G dX8_met_429 (by decide) rfl ?_
                                                          refine jv_icmp_neN (q := 433) (tgt := 446) G dX8_met_430 (by decide) rfl (by omega) (by omega) (fun c180 => ?_) (fun c180 => ?_)
                                                          · refine jv_aload_n (q := 447) G 6 dX8_met_446 rfl rfl rfl ?_
                                                            refine jv_aload_n (q := 448) G 6 dX8_met_447 rfl rfl rfl ?_
                                                            refine jv_getQ (q := 451) G dX8_met_448 fl_X8_17 rfl (hsc.S hS).1 (rf_p4 (hsc.S hS)) rfl ?_
                                                            refine jv_iload (q := 453) G 0 dX8_met_451 rfl rfl ?_
                                                            refine jv_callS_I (q := 456) (h1 := h170) (As := [.int (nI (6 * (10 * e + p173.1) + p173.2))]) (rest := [.ref (q 4), .ref x]) (ce' := 0) (sl' := 0) (r := nI ((6 * (10 * e + p173.1) + p173.2) / 6)) G Z ml_X8_183 (r_typeOf hlt (by omega)) dX8_met_453 rfl (by decide) (by decide) (by decide) (by decide) (Nat.le_of_ble_eq_true rfl) rfl rfl rfl rfl ?_
                                                            refine jv_topI (y := nI (10 * e + p173.1)) (congrArg nI (by omega)) ?_
                                                            refine jv_iald (q := 457) G dX8_met_456 (rf_a4 (hsc.S hS)) rfl (by omega) (by decide) (rt_4 (hsc.T hS Tt174)) rfl ?_
                                                            refine jv_putI (q := 460) G dX8_met_457 fl_X8_192 rfl (hsc.S hS).1 rfl ?_
                                                            have hr1 : rs x q h170 (jv_wI h170 x 32 (nI (mt_n t174))) := rs.rf.wI (nI (mt_n t174)) (Or.inl ⟨rfl, Or.inr (Or.inl rfl)⟩)
                                                            have hran : jv_I (jv_wI h170 x 32 (nI (mt_n t174))) x 32 = (nI (mt_n t174)) := jv_I_self _ _ _ _
                                                            have hSb := hsc.S hS
                                                            have hE := hr1.E hSb (hsc.E hS hE)
                                                            have hV := hr1.V hSb (hsc.V hS hV)
                                                            have hEC := hr1.E hSb (hsc.E hS hEC)
                                                            have hVC := hr1.V hSb (hsc.V hS hVC)
                                                            have hce := (wx_I hSb 22 (by decide) rfl 32 c (nI (mt_n t174))).trans ((hsc.I2 hS 22 (by decide) rfl (by decide) c).trans hce)
                                                            have hpk := (wx_I hSb 23 (by decide) rfl 32 c (nI (mt_n t174))).trans ((hsc.I2 hS 23 (by decide) rfl (by decide) c).trans hpk)
                                                            have hsu := (wx_I hSb 24 (by decide) rfl 32 c (nI (mt_n t174))).trans ((hsc.I2 hS 24 (by decide) rfl (by decide) c).trans hsu)
                                                            have hrs := (hrs.tr hsc.rs).tr hr1
                                                            have hx0 : jv_I (jv_wI h170 x 32 (nI (mt_n t174))) x 0 = jv_I h x 0 := by rw [jv_I_wI, if_neg (fun z => by cases z.2)] <;> exact (hsc.x hS 0).trans hx0
                                                            have hS := hr1.S hSb
                                                            generalize jv_wI h170 x 32 (nI (mt_n t174)) = h181 at hran hx0 hE hV hEC hVC hce hpk hsu hrs hS ⊢
                                                            have hsc : sc x q h181 h181 := sc.rf
                                                            refine jv_iload_n (q := 461) G 8 dX8_met_460 rfl rfl rfl ?_
                                                            refine jv_aload_n (q := 462) G 6 dX8_met_461 rfl rfl rfl ?_
                                                            refine jv_getQ (q := 465) G dX8_met_462 fl_X8_68 rfl (hsc.S hS).1 (rf_p22 (hsc.S hS)) rfl ?_
                                                            refine jv_iload_n (q := 466) G 7 dX8_met_465 rfl rfl rfl ?_
                                                            refine jv_iald (q := 467) G dX8_met_466 (rf_a22 (hsc.S hS)) rfl (by omega) (by decide) ((hsc.I2 hS 22 (by decide) rfl (by decide) c).trans hce) rfl ?_
                                                            refine jv_icmp_eqN (q := 470) (tgt := 495) G dX8_met_467 (by decide) rfl (by omega) (by omega) (fun c182 => ?_) (fun c182 => ?_)
                                                            · omega
                                                            · refine jv_aload_n (q := 471) G 6 dX8_met_470 rfl rfl rfl ?_
                                                              refine jv_getI (q := 474) G dX8_met_471 fl_X8_192 rfl (hsc.S hS).1 ((hsc.x hS 32).trans hran) rfl ?_
                                                              refine jv_aload_n (q := 475) G 6 dX8_met_474 rfl rfl rfl ?_
                                                              refine jv_iload_n (q := 476) G 7 dX8_met_475 rfl rfl rfl ?_
                                                              refine jv_iload (q := 478) G 10 dX8_met_476 rfl rfl ?_
                                                              refine jv_iload (q := 480) G 11 dX8_met_478 rfl rfl ?_
                                                              refine jv_iload (q := 482) G 12 dX8_met_480 rfl rfl ?_
                                                              refine jv_iload (q := 484) G 13 dX8_met_482 rfl rfl ?_
                                                              refine jv_callV (q := 487) (As := [.int (nI c), .int ty, .int n, .int s, .int rc]) (rest := [.int (nI (mt_n t174))]) G Z ml_X8_202 (r_ownRun hlt hsc hS hc hec hEC hVC hce hgC) (hsc.S hS).1 dX8_met_484 rfl (by decide) (by decide) (by decide) (by decide) (Nat.le_of_ble_eq_true rfl) rfl rfl (fun v184 h183 y185 => ?_) (fun _ _ hx => hx.elim)
                                                              obtain ⟨rfl, hsc⟩ := y185
                                                              show jv_V E 14 h183 0 0 (jv_Q E (fun v h' => v = some (.int (nI (m_met (decide (e = ec)) tsC ts pk su 2 ty n s rc).1)) ∧ rs x q h h' ∧ jv_I h' x 32 = jv_oN (m_met (decide (e = ec)) tsC ts pk su 2 ty n s rc).2 ∧ jv_I h' x 0 = jv_I h x 0 ∧ jv_I h' (q 22) c = nI ec ∧ jv_I h' (q 23) c = nI pk ∧ jv_I h' (q 24) c = jv_oN su) jv_no 0 0) 487 [(13, .int (nI (6 * (10 * e + p173.1) + p173.2))), (12, .int (nI (6 * (10 * e + p156.1) + p156.2))), (11, .int (nI (10 * e + k138))), (10, .int (nI 1)), (9, .int (-1)), (8, .int (nI (10 * e + k2))), (0, .ref x), (1, .int (nI c)), (2, .int (nI e)), (3, .int (nI 2)), (4, .int ty), (5, .int n), (6, .int s), (7, .int rc)] [.int (jv_oN (m_orn tsC ty n s rc)), .int (nI (mt_n t174))]
                                                              refine jv_icmp_eq (q := 490) (tgt := 495) G dX8_met_487 (by decide) rfl (fun c186 => ?_) (fun c186 => ?_)
                                                              · refine jv_iconst (q := 496) (v := nI 0) G dX8_met_495 (by decide) rfl ?_
                                                                refine jv_iret G hr dX8_met_496 (Nat.le_of_ble_eq_true rfl) (Nat.le_of_ble_eq_true rfl) ?_
                                                                have hz : (m_met (decide (e = ec)) tsC ts pk su 2 ty n s rc) = (0, some (mt_n t174)) := by
                                                                  unfold m_met m_isC m_bd
                                                                  simp only [*, if_true, if_false, Bool.false_eq_true, reduceIte, Option.map_some, decide_true, decide_false, not_true_eq_false, not_false_eq_true, eq_self, ne_eq, Nat.reduceLT, Nat.lt_irrefl, Nat.reduceEqDiff, and_true, true_and, and_false, false_and, or_true, true_or, or_false, false_or, Bool.or_true, Bool.or_false, Bool.true_or, Bool.false_or, reduceCtorEq] <;> rfl
                                                                exact ⟨by rw [hz], hrs.tr hsc.rs, by rw [hz]; exact (hsc.x hS 32).trans hran, (hsc.x hS 0).trans hx0, (hsc.I2 hS 22 (by decide) rfl (by decide) c).trans hce, (hsc.I2 hS 23 (by decide) rfl (by decide) c).trans hpk, (hsc.I2 hS 24 (by decide) rfl (by decide) c).trans hsu⟩
                                                              · refine jv_bipush (q := 492) (v := nI 8) G dX8_met_490 (by decide) rfl ?_
                                                                refine jv_goto (q := 496) G dX8_met_492 (by decide) ?_
                                                                refine jv_iret G hr dX8_met_496 (Nat.le_of_ble_eq_true rfl) (Nat.le_of_ble_eq_true rfl) ?_
                                                                have hz : (m_met (decide (e = ec)) tsC ts pk su 2 ty n s rc) = (8, some (mt_n t174)) := by
                                                                  unfold m_met m_isC m_bd
                                                                  simp only [*, if_true, if_false, Bool.false_eq_true, reduceIte, Option.map_some, decide_true, decide_false, not_true_eq_false, not_false_eq_true, eq_self, ne_eq, Nat.reduceLT, Nat.lt_irrefl, Nat.reduceEqDiff, and_true, true_and, and_false, false_and, or_true, true_or, or_false, false_or, Bool.or_true, Bool.or_false, Bool.true_or, Bool.false_or, reduceCtorEq] <;> rfl
                                                                exact ⟨by rw [hz], hrs.tr hsc.rs, by rw [hz]; exact (hsc.x hS 32).trans hran, (hsc.x hS 0).trans hx0, (hsc.I2 hS 22 (by decide) rfl (by decide) c).trans hce, (hsc.I2 hS 23 (by decide) rfl (by decide) c).trans hpk, (hsc.I2 hS 24 (by decide) rfl (by decide) c).trans hsu⟩
                                                          · omega
                                                        · refine jv_iconst (q := 427) (v := nI 5) G dX8_met_426 (by decide) rfl ?_
                                                          refine jv_iret G hr dX8_met_427 (Nat.le_of_ble_eq_true rfl) (Nat.le_of_ble_eq_true rfl) ?_
                                                          have hz : (m_met (decide (e = ec)) tsC ts pk su 2 ty n s rc) = (5, none) := by
                                                            unfold m_met m_isC m_bd
                                                            simp only [*, if_true, if_false, Bool.false_eq_true, reduceIte, Option.map_some, decide_true, decide_false, not_true_eq_false, not_false_eq_true, eq_self, ne_eq, Nat.reduceLT, Nat.lt_irrefl, Nat.reduceEqDiff, and_true, true_and, and_false, false_and, or_true, true_or, or_false, false_or, Bool.or_true, Bool.or_false, Bool.true_or, Bool.false_or, reduceCtorEq] <;> rfl
                                                          exact ⟨by rw [hz], hrs.tr hsc.rs, by rw [hz]; exact (hsc.x hS 32).trans hran, (hsc.x hS 0).trans hx0, (hsc.I2 hS 22 (by decide) rfl (by decide) c).trans hce, (hsc.I2 hS 23 (by decide) rfl (by decide) c).trans hpk, (hsc.I2 hS 24 (by decide) rfl (by decide) c).trans hsu⟩
                                                  · have Kc169 : (k138 = k2) = False := eq_false (by omega)
                                                    refine jv_aload_n (q := 385) G 5 dX8_met_384 rfl rfl rfl ?_
                                                    refine jv_iload_n (q := 386) G 7 dX8_met_385 rfl rfl rfl ?_
                                                    refine jv_iload (q := 388) G 9 dX8_met_386 rfl rfl ?_
                                                    refine jv_iload (q := 390) G 12 dX8_met_388 rfl rfl ?_
                                                    refine jv_callV_I (q := 393) (h1 := h153) (As := [.int (nI e), .int ty, .int rc]) (rest := []) (ce' := 0) (sl' := 0) (r := jv_bI (m_isA ts ty rc)) G Z ml_X8_167 (r_isAbove hlt hsc hS he hV) (hsc.S hS).1 dX8_met_390 rfl (by decide) (by decide) (by decide) (by decide) (Nat.le_of_ble_eq_true rfl) rfl rfl rfl rfl ?_
                                                    refine jv_if_neB (q := 396) (tgt := 399) G dX8_met_393 (by decide) rfl (fun c187 => ?_) (fun c187 => ?_)
                                                    · refine jv_aload_n (q := 400) G 5 dX8_met_399 rfl rfl rfl ?_
                                                      refine jv_iload_n (q := 401) G 7 dX8_met_400 rfl rfl rfl ?_
                                                      refine jv_iload (q := 403) G 0 dX8_met_401 rfl rfl ?_
                                                      refine jv_iload (q := 405) G 1 dX8_met_403 rfl rfl ?_
                                                      refine jv_callV (q := 408) (As := [.int (nI e), .int (nI (6 * (10 * e + p156.1) + p156.2)), .int (nI (10 * e + k138))]) (rest := []) G Z ml_X8_189 (r_selected (d := 11) hlt hsc hS he hE hV ht157 hm158 ht139 (hg k138 (by omega))) (hsc.S hS).1 dX8_met_405 rfl (by decide) (by decide) (by decide) (by decide) (Nat.le_of_ble_eq_true rfl) rfl rfl (fun v189 h188 y190 => ?_) (fun _ _ hx => hx.elim)
                                                      obtain ⟨rfl, hsc⟩ := y190
                                                      show jv_V E 14 h188 0 0 (jv_Q E (fun v h' => v = some (.int (nI (m_met (decide (e = ec)) tsC ts pk su 2 ty n s rc).1)) ∧ rs x q h h' ∧ jv_I h' x 32 = jv_oN (m_met (decide (e = ec)) tsC ts pk su 2 ty n s rc).2 ∧ jv_I h' x 0 = jv_I h x 0 ∧ jv_I h' (q 22) c = nI ec ∧ jv_I h' (q 23) c = nI pk ∧ jv_I h' (q 24) c = jv_oN su) jv_no 0 0) 408 [(12, .int (nI (6 * (10 * e + p156.1) + p156.2))), (11, .int (nI (10 * e + k138))), (10, .int (nI 1)), (9, .int (-1)), (8, .int (nI (10 * e + k2))), (0, .ref x), (1, .int (nI c)), (2, .int (nI e)), (3, .int (nI 2)), (4, .int ty), (5, .int n), (6, .int s), (7, .int rc)] [.int (ffE e (m_sl ts 11 t157 m158 p156.1 p156.2 k138))]
                                                      rcases Option.eq_none_or_eq_some (m_sl ts 11 t157 m158 p156.1 p156.2 k138) with hp194 | ⟨p191, hp194⟩
                                                      · refine jv_topI (y := (-1)) (by rw [hp194]; rfl) ?_
                                                        refine jv_istore (q := 410) (lo' := [(13, .int (-1)), (12, .int (nI (6 * (10 * e + p156.1) + p156.2))), (11, .int (nI (10 * e + k138))), (10, .int (nI 1)), (9, .int (-1)), (8, .int (nI (10 * e + k2))), (0, .ref x), (1, .int (nI c)), (2, .int (nI e)), (3, .int (nI 2)), (4, .int ty), (5, .int n), (6, .int s), (7, .int rc)]) G dX8_met_408 (by decide) rfl rfl ?_
                                                        refine jv_iload (q := 412) G 0 dX8_met_410 rfl rfl ?_
                                                        refine jv_iconst (q := 413) (v := (-1)) G dX8_met_412 (by decide) rfl ?_
                                                        refine jv_icmp_eq (q := 416) (tgt := 426) G dX8_met_413 (by decide) rfl (fun c195 => ?_) (fun c195 => ?_)
                                                        · refine jv_iconst (q := 427) (v := nI 5) G dX8_met_426 (by decide) rfl ?_
                                                          refine jv_iret G hr dX8_met_427 (Nat.le_of_ble_eq_true rfl) (Nat.le_of_ble_eq_true rfl) ?_
                                                          have hz : (m_met (decide (e = ec)) tsC ts pk su 2 ty n s rc) = (5, none) := by
                                                            unfold m_met m_isC m_bd
                                                            simp only [*, if_true, if_false, Bool.false_eq_true, reduceIte, Option.map_some, decide_true, decide_false, not_true_eq_false, not_false_eq_true, eq_self, ne_eq, Nat.reduceLT, Nat.lt_irrefl, Nat.reduceEqDiff, and_true, true_and, and_false, false_and, or_true, true_or, or_false, false_or, Bool.or_true, Bool.or_false, Bool.true_or, Bool.false_or, reduceCtorEq] <;> rfl
                                                          exact ⟨by rw [hz], hrs.tr hsc.rs, by rw [hz]; exact (hsc.x hS 32).trans hran, (hsc.x hS 0).trans hx0, (hsc.I2 hS 22 (by decide) rfl (by decide) c).trans hce, (hsc.I2 hS 23 (by decide) rfl (by decide) c).trans hpk, (hsc.I2 hS 24 (by decide) rfl (by decide) c).trans hsu⟩
                                                        · exact absurd rfl c195
                                                      · refine jv_topI (y := nI (6 * (10 * e + p191.1) + p191.2)) (by rw [hp194]; rfl) ?_
                                                        obtain ⟨t192, ht192, m193, hm193⟩ := m_sl_mem ht157 hm158 hp194
                                                        have Tt192 := (hE.2.2 p191.1 t192 ht192).1
                                                        have Ot192 := (hE.2.2 p191.1 t192 ht192).2
                                                        have Lt192 := hE.2.1
                                                        have lt192 := jv_ltGet ht192
                                                        have Mm193 := rt_m Tt192 hm193
                                                        have Om193 := Ot192.2.2.2.2.2.2 m193 (List.mem_of_getElem? hm193)
                                                        have Lm193 := Ot192.2.2.2.2.2.1
                                                        have lm193 := jv_ltGet hm193
                                                        have Bm193n := Om193.1; have Bm193s := Om193.2.1; have Bm193a := Om193.2.2.1; have Bt192n := Ot192.1; have Bt192k := Ot192.2.1
                                                        refine jv_istore (q := 410) (lo' := [(13, .int (nI (6 * (10 * e + p191.1) + p191.2))), (12, .int (nI (6 * (10 * e + p156.1) + p156.2))), (11, .int (nI (10 * e + k138))), (10, .int (nI 1)), (9, .int (-1)), (8, .int (nI (10 * e + k2))), (0, .ref x), (1, .int (nI c)), (2, .int (nI e)), (3, .int (nI 2)), (4, .int ty), (5, .int n), (6, .int s), (7, .int rc)]) G dX8_met_408 (by decide) rfl rfl ?_
                                                        refine jv_iload (q := 412) G 0 dX8_met_410 rfl rfl ?_
                                                        refine jv_iconst (q := 413) (v := (-1)) G dX8_met_412 (by decide) rfl ?_
                                                        refine jv_icmp_eq (q := 416) (tgt := 426) G dX8_met_413 (by decide) rfl (fun c196 => ?_) (fun c196 => ?_)
                                                        · exact absurd c196 (jv_nI_m1 (by omega))
                                                        · refine jv_aload_n (q := 417) G 6 dX8_met_416 rfl rfl rfl ?_
                                                          refine jv_getQ (q := 420) G dX8_met_417 fl_X8_59 rfl (hsc.S hS).1 (rf_p18 (hsc.S hS)) rfl ?_
                                                          refine jv_iload (q := 422) G 0 dX8_met_420 rfl rfl ?_
                                                          refine jv_iald (q := 423) G dX8_met_422 (rf_a18 (hsc.S hS)) rfl (by omega) (by decide) (hsc.M hS Mm193).2.2.2.2.2.1 rfl ?_
                                                          refine jv_if_ge (q := 426) (tgt := 428) G dX8_met_423 (by decide) rfl (fun c197 => ?_) (fun c197 => ?_)
                                                          · refine jv_iload_n (q := 429) G 9 dX8_met_428 rfl rfl rfl ?_
                                                            refine jv_iconst (q := 430) (v := nI 4) G dX8_met_429 (by decide) rfl ?_
                                                            refine jv_icmp_neN (q := 433) (tgt := 446) G dX8_met_430 (by decide) rfl (by omega) (by omega) (fun c198 => ?_) (fun c198 => ?_)
                                                            · refine jv_aload_n (q := 447) G 6 dX8_met_446 rfl rfl rfl ?_
                                                              refine jv_aload_n (q := 448) G 6 dX8_met_447 rfl rfl rfl ?_
                                                              refine jv_getQ (q := 451) G dX8_met_448 fl_X8_17 rfl (hsc.S hS).1 (rf_p4 (hsc.S hS)) rfl ?_
                                                              refine jv_iload (q := 453) G 0 dX8_met_451 rfl rfl ?_
                                                              refine jv_callS_I (q := 456) (h1 := h188) (As := [.int (nI (6 * (10 * e + p191.1) + p191.2))]) (rest := [.ref (q 4), .ref x]) (ce' := 0) (sl' := 0) (r := nI ((6 * (10 * e + p191.1) + p191.2) / 6)) G Z ml_X8_183 (r_typeOf hlt (by omega)) dX8_met_453 rfl (by decide) (by decide) (by decide) (by decide) (Nat.le_of_ble_eq_true rfl) rfl rfl rfl rfl ?_
                                                              refine jv_topI (y := nI (10 * e + p191.1)) (congrArg nI (by omega)) ?_
                                                              refine jv_iald (q := 457) G dX8_met_456 (rf_a4 (hsc.S hS)) rfl (by omega) (by decide) (rt_4 (hsc.T hS Tt192)) rfl ?_
                                                              refine jv_putI (q := 460) G dX8_met_457 fl_X8_192 rfl (hsc.S hS).1 rfl ?_
                                                              have hr1 : rs x q h188 (jv_wI h188 x 32 (nI (mt_n t192))) := rs.rf.wI (nI (mt_n t192)) (Or.inl ⟨rfl, Or.inr (Or.inl rfl)⟩)
                                                              have hran : jv_I (jv_wI h188 x 32 (nI (mt_n t192))) x 32 = (nI (mt_n t192)) := jv_I_self _ _ _ _
                                                              have hSb := hsc.S hS
                                                              have hE := hr1.E hSb (hsc.E hS hE)
                                                              have hV := hr1.V hSb (hsc.V hS hV)
                                                              have hEC := hr1.E hSb (hsc.E hS hEC)
                                                              have hVC := hr1.V hSb (hsc.V hS hVC)
                                                              have hce := (wx_I hSb 22 (by decide) rfl 32 c (nI (mt_n t192))).trans ((hsc.I2 hS 22 (by decide) rfl (by decide) c).trans hce)
                                                              have hpk := (wx_I hSb 23 (by decide) rfl 32 c (nI (mt_n t192))).trans ((hsc.I2 hS 23 (by decide) rfl (by decide) c).trans hpk)
                                                              have hsu := (wx_I hSb 24 (by decide) rfl 32 c (nI (mt_n t192))).trans ((hsc.I2 hS 24 (by decide) rfl (by decide) c).trans hsu)
                                                              have hrs := (hrs.tr hsc.rs).tr hr1
                                                              have hx0 : jv_I (jv_wI h188 x 32 (nI (mt_n t192))) x 0 = jv_I h x 0 := by rw [jv_I_wI, if_neg (fun z => by cases z.2)] <;> exact (hsc.x hS 0).trans hx0
                                                              have hS := hr1.S hSb
                                                              generalize jv_wI h188 x 32 (nI (mt_n t192)) = h199 at hran hx0 hE hV hEC hVC hce hpk hsu hrs hS ⊢
                                                              have hsc : sc x q h199 h199 := sc.rf
                                                              refine jv_iload_n (q := 461) G 8 dX8_met_460 rfl rfl rfl ?_
                                                              refine jv_aload_n (q := 462) G 6 dX8_met_461 rfl rfl rfl ?_
                                                              refine jv_getQ (q := 465) G dX8_met_462 fl_X8_68 rfl (hsc.S hS).1 (rf_p22 (hsc.S hS)) rfl ?_
                                                              refine jv_iload_n (q := 466) G 7 dX8_met_465 rfl rfl rfl ?_
                                                              refine jv_iald (q := 467) G dX8_met_466 (rf_a22 (hsc.S hS)) rfl (by omega) (by decide) ((hsc.I2 hS 22 (by decide) rfl (by decide) c).trans hce) rfl ?_
                                                              refine jv_icmp_eqN (q := 470) (tgt := 495) G dX8_met_467 (by decide) rfl (by omega) (by omega) (fun c200 => ?_) (fun c200 => ?_)
                                                              · omega
                                                              · refine jv_aload_n (q := 471) G 6 dX8_met_470 rfl rfl rfl ?_
                                                                refine jv_getI (q := 474) G dX8_met_471 fl_X8_192 rfl (hsc.S hS).1 ((hsc.x hS 32).trans hran) rfl ?_
                                                                refine jv_aload_n (q := 475) G 6 dX8_met_474 rfl rfl rfl ?_
                                                                refine jv_iload_n (q := 476) G 7 dX8_met_475 rfl rfl rfl ?_
                                                                refine jv_iload (q := 478) G 10 dX8_met_476 rfl rfl ?_
                                                                refine jv_iload (q := 480) G 11 dX8_met_478 rfl rfl ?_
                                                                refine jv_iload (q := 482) G 12 dX8_met_480 rfl rfl ?_
                                                                refine jv_iload (q := 484) G 13 dX8_met_482 rfl rfl ?_
                                                                refine jv_callV (q := 487) (As := [.int (nI c), .int ty, .int n, .int s, .int rc]) (rest := [.int (nI (mt_n t192))]) G Z ml_X8_202 (r_ownRun hlt hsc hS hc hec hEC hVC hce hgC) (hsc.S hS).1 dX8_met_484 rfl (by decide) (by decide) (by decide) (by decide) (Nat.le_of_ble_eq_true rfl) rfl rfl (fun v202 h201 y203 => ?_) (fun _ _ hx => hx.elim)
                                                                obtain ⟨rfl, hsc⟩ := y203
                                                                show jv_V E 14 h201 0 0 (jv_Q E (fun v h' => v = some (.int (nI (m_met (decide (e = ec)) tsC ts pk su 2 ty n s rc).1)) ∧ rs x q h h' ∧ jv_I h' x 32 = jv_oN (m_met (decide (e = ec)) tsC ts pk su 2 ty n s rc).2 ∧ jv_I h' x 0 = jv_I h x 0 ∧ jv_I h' (q 22) c = nI ec ∧ jv_I h' (q 23) c = nI pk ∧ jv_I h' (q 24) c = jv_oN su) jv_no 0 0) 487 [(13, .int (nI (6 * (10 * e + p191.1) + p191.2))), (12, .int (nI (6 * (10 * e + p156.1) + p156.2))), (11, .int (nI (10 * e + k138))), (10, .int (nI 1)), (9, .int (-1)), (8, .int (nI (10 * e + k2))), (0, .ref x), (1, .int (nI c)), (2, .int (nI e)), (3, .int (nI 2)), (4, .int ty), (5, .int n), (6, .int s), (7, .int rc)] [.int (jv_oN (m_orn tsC ty n s rc)), .int (nI (mt_n t192))]
                                                                refine jv_icmp_eq (q := 490) (tgt := 495) G dX8_met_487 (by decide) rfl (fun c204 => ?_) (fun c204 => ?_)
                                                                · refine jv_iconst (q := 496) (v := nI 0) G dX8_met_495 (by decide) rfl ?_
                                                                  refine jv_iret G hr dX8_met_496 (Nat.le_of_ble_eq_true rfl) (Nat.le_of_ble_eq_true rfl) ?_
                                                                  have hz : (m_met (decide (e = ec)) tsC ts pk su 2 ty n s rc) = (0, some (mt_n t192)) := by
                                                                    unfold m_met m_isC m_bd
                                                                    simp only [*, if_true, if_false, Bool.false_eq_true, reduceIte, Option.map_some, decide_true, decide_false, not_true_eq_false, not_false_eq_true, eq_self, ne_eq, Nat.reduceLT, Nat.lt_irrefl, Nat.reduceEqDiff, and_true, true_and, and_false, false_and, or_true, true_or, or_false, false_or, Bool.or_true, Bool.or_false, Bool.true_or, Bool.false_or, reduceCtorEq] <;> rfl
                                                                  exact ⟨by rw [hz], hrs.tr hsc.rs, by rw [hz]; exact (hsc.x hS 32).trans hran, (hsc.x hS 0).trans hx0, (hsc.I2 hS 22 (by decide) rfl (by decide) c).trans hce, (hsc.I2 hS 23 (by decide) rfl (by decide) c).trans hpk, (hsc.I2 hS 24 (by decide) rfl (by decide) c).trans hsu⟩
                                                                · refine jv_bipush (q := 492) (v := nI 8) G dX8_met_490 (by decide) rfl ?_
                                                                  refine jv_goto (q := 496) G dX8_met_492 (by decide) ?_
                                                                  refine jv_iret G hr dX8_met_496 (Nat.le_of_ble_eq_true rfl) (Nat.le_of_ble_eq_true rfl) ?_
                                                                  have hz : (m_met (decide (e = ec)) tsC ts pk su 2 ty n s rc) = (8, some (mt_n t192)) := by
                                                                    unfold m_met m_isC m_bd
                                                                    simp only [*, if_true, if_false, Bool.false_eq_true, reduceIte, Option.map_some, decide_true, decide_false, not_true_eq_false, not_false_eq_true, eq_self, ne_eq, Nat.reduceLT, Nat.lt_irrefl, Nat.reduceEqDiff, and_true, true_and, and_false, false_and, or_true, true_or, or_false, false_or, Bool.or_true, Bool.or_false, Bool.true_or, Bool.false_or, reduceCtorEq] <;> rfl
                                                                  exact ⟨by rw [hz], hrs.tr hsc.rs, by rw [hz]; exact (hsc.x hS 32).trans hran, (hsc.x hS 0).trans hx0, (hsc.I2 hS 22 (by decide) rfl (by decide) c).trans hce, (hsc.I2 hS 23 (by decide) rfl (by decide) c).trans hpk, (hsc.I2 hS 24 (by decide) rfl (by decide) c).trans hsu⟩
                                                            · omega
                                                          · refine jv_iconst (q := 427) (v := nI 5) G dX8_met_426 (by decide) rfl ?_
                                                            refine jv_iret G hr dX8_met_427 (Nat.le_of_ble_eq_true rfl) (Nat.le_of_ble_eq_true rfl) ?_
                                                            have hz : (m_met (decide (e = ec)) tsC ts pk su 2 ty n s rc) = (5, none) := by
                                                              unfold m_met m_isC m_bd
                                                              simp only [*, if_true, if_false, Bool.false_eq_true, reduceIte, Option.map_some, decide_true, decide_false, not_true_eq_false, not_false_eq_true, eq_self, ne_eq, Nat.reduceLT, Nat.lt_irrefl, Nat.reduceEqDiff, and_true, true_and, and_false, false_and, or_true, true_or, or_false, false_or, Bool.or_true, Bool.or_false, Bool.true_or, Bool.false_or, reduceCtorEq] <;> rfl
                                                            exact ⟨by rw [hz], hrs.tr hsc.rs, by rw [hz]; exact (hsc.x hS 32).trans hran, (hsc.x hS 0).trans hx0, (hsc.I2 hS 22 (by decide) rfl (by decide) c).trans hce, (hsc.I2 hS 23 (by decide) rfl (by decide) c).trans hpk, (hsc.I2 hS 24 (by decide) rfl (by decide) c).trans hsu⟩
                                                    · refine jv_bipush (q := 398) (v := nI 6) G dX8_met_396 (by decide) rfl ?_
                                                      refine jv_iret G hr dX8_met_398 (Nat.le_of_ble_eq_true rfl) (Nat.le_of_ble_eq_true rfl) ?_
                                                      have hz : (m_met (decide (e = ec)) tsC ts pk su 2 ty n s rc) = (6, none) := by
                                                        unfold m_met m_isC m_bd
                                                        simp only [*, if_true, if_false, Bool.false_eq_true, reduceIte, Option.map_some, decide_true, decide_false, not_true_eq_false, not_false_eq_true, eq_self, ne_eq, Nat.reduceLT, Nat.lt_irrefl, Nat.reduceEqDiff, and_true, true_and, and_false, false_and, or_true, true_or, or_false, false_or, Bool.or_true, Bool.or_false, Bool.true_or, Bool.false_or, reduceCtorEq] <;> rfl
                                                      exact ⟨by rw [hz], hrs.tr hsc.rs, by rw [hz]; exact (hsc.x hS 32).trans hran, (hsc.x hS 0).trans hx0, (hsc.I2 hS 22 (by decide) rfl (by decide) c).trans hce, (hsc.I2 hS 23 (by decide) rfl (by decide) c).trans hpk, (hsc.I2 hS 24 (by decide) rfl (by decide) c).trans hsu⟩
                                            · omega
                                          · refine jv_iconst (q := 326) (v := nI 4) G dX8_met_325 (by decide) rfl ?_
                                            refine jv_iret G hr dX8_met_326 (Nat.le_of_ble_eq_true rfl) (Nat.le_of_ble_eq_true rfl) ?_
                                            have hz : (m_met (decide (e = ec)) tsC ts pk su 2 ty n s rc) = (4, none) := by
                                              unfold m_met m_isC m_bd
                                              simp only [*, if_true, if_false, Bool.false_eq_true, reduceIte, Option.map_some, decide_true, decide_false, not_true_eq_false, not_false_eq_true, eq_self, ne_eq, Nat.reduceLT, Nat.lt_irrefl, Nat.reduceEqDiff, and_true, true_and, and_false, false_and, or_true, true_or, or_false, false_or, Bool.or_true, Bool.or_false, Bool.true_or, Bool.false_or, reduceCtorEq] <;> rfl
                                            exact ⟨by rw [hz], hrs.tr hsc.rs, by rw [hz]; exact (hsc.x hS 32).trans hran, (hsc.x hS 0).trans hx0, (hsc.I2 hS 22 (by decide) rfl (by decide) c).trans hce, (hsc.I2 hS 23 (by decide) rfl (by decide) c).trans hpk, (hsc.I2 hS 24 (by decide) rfl (by decide) c).trans hsu⟩
                                        · omega
                                    · refine jv_iconst (q := 299) (v := nI 3) G dX8_met_298 (by decide) rfl ?_
                                      refine jv_iret G hr dX8_met_299 (Nat.le_of_ble_eq_true rfl) (Nat.le_of_ble_eq_true rfl) ?_
                                      have hz : (m_met (decide (e = ec)) tsC ts pk su 2 ty n s rc) = (3, none) := by
                                        unfold m_met m_isC m_bd
                                        simp only [*, if_true, if_false, Bool.false_eq_true, reduceIte, Option.map_some, decide_true, decide_false, not_true_eq_false, not_false_eq_true, eq_self, ne_eq, Nat.reduceLT, Nat.lt_irrefl, Nat.reduceEqDiff, and_true, true_and, and_false, false_and, or_true, true_or, or_false, false_or, Bool.or_true, Bool.or_false, Bool.true_or, Bool.false_or, reduceCtorEq] <;> rfl
                                      exact ⟨by rw [hz], hrs.tr hsc.rs, by rw [hz]; exact (hsc.x hS 32).trans hran, (hsc.x hS 0).trans hx0, (hsc.I2 hS 22 (by decide) rfl (by decide) c).trans hce, (hsc.I2 hS 23 (by decide) rfl (by decide) c).trans hpk, (hsc.I2 hS 24 (by decide) rfl (by decide) c).trans hsu⟩
                                  · exact absurd c161 (jv_nI_m1 (by omega))
                              · omega
                            · omega
                          · omega
                    · refine jv_aload_n (q := 176) G 4 dX8_met_175 rfl rfl rfl ?_
                      refine jv_getQ (q := 179) G dX8_met_176 fl_X8_26 rfl (hsc.S hS).1 (rf_p7 (hsc.S hS)) rfl ?_
                      refine jv_iload (q := 181) G 3 dX8_met_179 rfl rfl ?_
                      refine jv_iald (q := 182) G dX8_met_181 (rf_a7 (hsc.S hS)) rfl (by omega) (by decide) (rt_7 (hsc.T hS Tt3)) rfl ?_
                      refine jv_aload_n (q := 183) G 4 dX8_met_182 rfl rfl rfl ?_
                      refine jv_getQ (q := 186) G dX8_met_183 fl_X8_71 rfl (hsc.S hS).1 (rf_p23 (hsc.S hS)) rfl ?_
                      refine jv_iload_n (q := 187) G 5 dX8_met_186 rfl rfl rfl ?_
                      refine jv_iald (q := 188) G dX8_met_187 (rf_a23 (hsc.S hS)) rfl (by omega) (by decide) ((hsc.I2 hS 23 (by decide) rfl (by decide) c).trans hpk) rfl ?_
                      refine jv_icmp_eqN (q := 191) (tgt := 193) G dX8_met_188 (by decide) rfl (by omega) (by omega) (fun c205 => ?_) (fun c205 => ?_)
                      · refine jv_iload_n (q := 194) G 7 dX8_met_193 rfl rfl rfl ?_
                        refine jv_iconst (q := 195) (v := nI 2) G dX8_met_194 (by decide) rfl ?_
                        refine jv_icmp_neN (q := 198) (tgt := 208) G dX8_met_195 (by decide) rfl (by omega) (by omega) (fun c206 => ?_) (fun c206 => ?_)
                        · omega
                        · refine jv_aload_n (q := 199) G 4 dX8_met_198 rfl rfl rfl ?_
                          refine jv_getQ (q := 202) G dX8_met_199 fl_X8_20 rfl (hsc.S hS).1 (rf_p5 (hsc.S hS)) rfl ?_
                          refine jv_iload (q := 204) G 3 dX8_met_202 rfl rfl ?_
                          refine jv_zald (q := 205) G dX8_met_204 (rf_a5 (hsc.S hS)) rfl (by omega) (by decide) (rt_5 (hsc.T hS Tt3)) rfl ?_
                          refine jv_if_neB (q := 208) (tgt := 223) G dX8_met_205 (by decide) rfl (fun c207 => ?_) (fun c207 => ?_)
                          · refine jv_bipush (q := 225) (v := nI 6) G dX8_met_223 (by decide) rfl ?_
                            refine jv_iret G hr dX8_met_225 (Nat.le_of_ble_eq_true rfl) (Nat.le_of_ble_eq_true rfl) ?_
                            have hz : (m_met (decide (e = ec)) tsC ts pk su 2 ty n s rc) = (6, none) := by
                              unfold m_met m_isC m_bd
                              simp only [*, if_true, if_false, Bool.false_eq_true, reduceIte, Option.map_some, decide_true, decide_false, not_true_eq_false, not_false_eq_true, eq_self, ne_eq, Nat.reduceLT, Nat.lt_irrefl, Nat.reduceEqDiff, and_true, true_and, and_false, false_and, or_true, true_or, or_false, false_or, Bool.or_true, Bool.or_false, Bool.true_or, Bool.false_or, reduceCtorEq] <;> rfl
                            exact ⟨by rw [hz], hrs.tr hsc.rs, by rw [hz]; exact (hsc.x hS 32).trans hran, (hsc.x hS 0).trans hx0, (hsc.I2 hS 22 (by decide) rfl (by decide) c).trans hce, (hsc.I2 hS 23 (by decide) rfl (by decide) c).trans hpk, (hsc.I2 hS 24 (by decide) rfl (by decide) c).trans hsu⟩
                          · refine jv_iload_n (q := 209) G 7 dX8_met_208 rfl rfl rfl ?_
                            refine jv_iconst (q := 210) (v := nI 4) G dX8_met_209 (by decide) rfl ?_
                            refine jv_icmp_neN (q := 213) (tgt := 226) G dX8_met_210 (by decide) rfl (by omega) (by omega) (fun c208 => ?_) (fun c208 => ?_)
                            · refine jv_iload_n (q := 227) G 7 dX8_met_226 rfl rfl rfl ?_
                              refine jv_iconst (q := 228) (v := nI 5) G dX8_met_227 (by decide) rfl ?_
                              refine jv_icmp_neN (q := 231) (tgt := 247) G dX8_met_228 (by decide) rfl (by omega) (by omega) (fun c209 => ?_) (fun c209 => ?_)
                              · refine jv_iload_n (q := 248) G 7 dX8_met_247 rfl rfl rfl ?_
                                refine jv_iconst (q := 249) (v := nI 2) G dX8_met_248 (by decide) rfl ?_
                                refine jv_icmp_geN (q := 252) (tgt := 266) G dX8_met_249 (by decide) rfl (by omega) (by omega) (fun c210 => ?_) (fun c210 => ?_)
                                · refine jv_aload_n (q := 267) G 4 dX8_met_266 rfl rfl rfl ?_
                                  refine jv_iload_n (q := 268) G 6 dX8_met_267 rfl rfl rfl ?_
                                  refine jv_iload (q := 270) G 3 dX8_met_268 rfl rfl ?_
                                  refine jv_iload (q := 272) G 9 dX8_met_270 rfl rfl ?_
                                  refine jv_iload (q := 274) G 10 dX8_met_272 rfl rfl ?_
                                  refine jv_callV (q := 277) (As := [.int (nI e), .int (nI (10 * e + k2)), .int n, .int s]) (rest := []) G Z ml_X8_186 (r_findMethod (d := 11) hlt hsc hS he hE hV ht3 (hg k2 (by omega))) (hsc.S hS).1 dX8_met_274 rfl (by decide) (by decide) (by decide) (by decide) (Nat.le_of_ble_eq_true rfl) rfl rfl (fun v212 h211 y213 => ?_) (fun _ _ hx => hx.elim)
                                  obtain ⟨rfl, hsc⟩ := y213
                                  show jv_V E 14 h211 0 0 (jv_Q E (fun v h' => v = some (.int (nI (m_met (decide (e = ec)) tsC ts pk su 2 ty n s rc).1)) ∧ rs x q h h' ∧ jv_I h' x 32 = jv_oN (m_met (decide (e = ec)) tsC ts pk su 2 ty n s rc).2 ∧ jv_I h' x 0 = jv_I h x 0 ∧ jv_I h' (q 22) c = nI ec ∧ jv_I h' (q 23) c = nI pk ∧ jv_I h' (q 24) c = jv_oN su) jv_no 0 0) 277 [(11, .int (nI (10 * e + k138))), (10, .int (nI 1)), (9, .int (-1)), (8, .int (nI (10 * e + k2))), (0, .ref x), (1, .int (nI c)), (2, .int (nI e)), (3, .int (nI 2)), (4, .int ty), (5, .int n), (6, .int s), (7, .int rc)] [.int (ffE e (m_fm ts 11 k2 n s))]
                                  rcases Option.eq_none_or_eq_some (m_fm ts 11 k2 n s) with hp217 | ⟨p214, hp217⟩
                                  · refine jv_topI (y := (-1)) (by rw [hp217]; rfl) ?_
                                    refine jv_istore (q := 279) (lo' := [(12, .int (-1)), (11, .int (nI (10 * e + k138))), (10, .int (nI 1)), (9, .int (-1)), (8, .int (nI (10 * e + k2))), (0, .ref x), (1, .int (nI c)), (2, .int (nI e)), (3, .int (nI 2)), (4, .int ty), (5, .int n), (6, .int s), (7, .int rc)]) G dX8_met_277 (by decide) rfl rfl ?_
                                    refine jv_iload (q := 281) G 0 dX8_met_279 rfl rfl ?_
                                    refine jv_iconst (q := 282) (v := (-1)) G dX8_met_281 (by decide) rfl ?_
                                    refine jv_icmp_ne (q := 285) (tgt := 287) G dX8_met_282 (by decide) rfl (fun c218 => ?_) (fun c218 => ?_)
                                    · exact absurd rfl c218
                                    · refine jv_iconst (q := 286) (v := nI 2) G dX8_met_285 (by decide) rfl ?_
                                      refine jv_iret G hr dX8_met_286 (Nat.le_of_ble_eq_true rfl) (Nat.le_of_ble_eq_true rfl) ?_
                                      have hz : (m_met (decide (e = ec)) tsC ts pk su 2 ty n s rc) = (2, none) := by
                                        unfold m_met m_isC m_bd
                                        simp only [*, if_true, if_false, Bool.false_eq_true, reduceIte, Option.map_some, decide_true, decide_false, not_true_eq_false, not_false_eq_true, eq_self, ne_eq, Nat.reduceLT, Nat.lt_irrefl, Nat.reduceEqDiff, and_true, true_and, and_false, false_and, or_true, true_or, or_false, false_or, Bool.or_true, Bool.or_false, Bool.true_or, Bool.false_or, reduceCtorEq] <;> rfl
                                      exact ⟨by rw [hz], hrs.tr hsc.rs, by rw [hz]; exact (hsc.x hS 32).trans hran, (hsc.x hS 0).trans hx0, (hsc.I2 hS 22 (by decide) rfl (by decide) c).trans hce, (hsc.I2 hS 23 (by decide) rfl (by decide) c).trans hpk, (hsc.I2 hS 24 (by decide) rfl (by decide) c).trans hsu⟩
                                  · refine jv_topI (y := nI (6 * (10 * e + p214.1) + p214.2)) (by rw [hp217]; rfl) ?_
                                    obtain ⟨t215, ht215, m216, hm216⟩ := m_fm_mem hp217
                                    have Tt215 := (hE.2.2 p214.1 t215 ht215).1
                                    have Ot215 := (hE.2.2 p214.1 t215 ht215).2
                                    have Lt215 := hE.2.1
                                    have lt215 := jv_ltGet ht215
                                    have Mm216 := rt_m Tt215 hm216
                                    have Om216 := Ot215.2.2.2.2.2.2 m216 (List.mem_of_getElem? hm216)
                                    have Lm216 := Ot215.2.2.2.2.2.1
                                    have lm216 := jv_ltGet hm216
                                    have Bm216n := Om216.1; have Bm216s := Om216.2.1; have Bm216a := Om216.2.2.1; have Bt215n := Ot215.1; have Bt215k := Ot215.2.1
                                    refine jv_istore (q := 279) (lo' := [(12, .int (nI (6 * (10 * e + p214.1) + p214.2))), (11, .int (nI (10 * e + k138))), (10, .int (nI 1)), (9, .int (-1)), (8, .int (nI (10 * e + k2))), (0, .ref x), (1, .int (nI c)), (2, .int (nI e)), (3, .int (nI 2)), (4, .int ty), (5, .int n), (6, .int s), (7, .int rc)]) G dX8_met_277 (by decide) rfl rfl ?_
                                    refine jv_iload (q := 281) G 0 dX8_met_279 rfl rfl ?_
                                    refine jv_iconst (q := 282) (v := (-1)) G dX8_met_281 (by decide) rfl ?_
                                    refine jv_icmp_ne (q := 285) (tgt := 287) G dX8_met_282 (by decide) rfl (fun c219 => ?_) (fun c219 => ?_)
                                    · refine jv_aload_n (q := 288) G 5 dX8_met_287 rfl rfl rfl ?_
                                      refine jv_iload_n (q := 289) G 6 dX8_met_288 rfl rfl rfl ?_
                                      refine jv_iload_n (q := 290) G 7 dX8_met_289 rfl rfl rfl ?_
                                      refine jv_iload (q := 292) G 0 dX8_met_290 rfl rfl ?_
                                      refine jv_callV_I (q := 295) (h1 := h211) (As := [.int (nI c), .int (nI e), .int (nI (6 * (10 * e + p214.1) + p214.2))]) (rest := []) (ce' := 0) (sl' := 0) (r := jv_bI (m_mr ts pk su t215 m216)) G Z ml_X8_199 (r_mayReach hlt hsc hS hc he hE hV ht215 hm216 hpk hpk5 hsu hsu16) (hsc.S hS).1 dX8_met_292 rfl (by decide) (by decide) (by decide) (by decide) (Nat.le_of_ble_eq_true rfl) rfl rfl rfl rfl ?_
                                      refine jv_if_neB (q := 298) (tgt := 300) G dX8_met_295 (by decide) rfl (fun c220 => ?_) (fun c220 => ?_)
                                      · refine jv_aload_n (q := 301) G 5 dX8_met_300 rfl rfl rfl ?_
                                        refine jv_getQ (q := 304) G dX8_met_301 fl_X8_56 rfl (hsc.S hS).1 (rf_p17 (hsc.S hS)) rfl ?_
                                        refine jv_iload (q := 306) G 0 dX8_met_304 rfl rfl ?_
                                        refine jv_zald (q := 307) G dX8_met_306 (rf_a17 (hsc.S hS)) rfl (by omega) (by decide) (hsc.M hS Mm216).2.2.2.2.1 rfl ?_
                                        refine jv_iload_n (q := 308) G 8 dX8_met_307 rfl rfl rfl ?_
                                        refine jv_iconst (q := 309) (v := nI 1) G dX8_met_308 (by decide) rfl ?_
                                        refine jv_icmp_eqN (q := 312) (tgt := 317) G dX8_met_309 (by decide) rfl (by omega) (by omega) (fun c221 => ?_) (fun c221 => ?_)
                                        · omega
                                        · refine jv_iload_n (q := 313) G 8 dX8_met_312 rfl rfl rfl ?_
                                          refine jv_iconst (q := 314) (v := nI 3) G dX8_met_313 (by decide) rfl ?_
                                          refine jv_icmp_neN (q := 317) (tgt := 321) G dX8_met_314 (by decide) rfl (by omega) (by omega) (fun c222 => ?_) (fun c222 => ?_)
                                          · refine jv_iconst (q := 322) (v := nI 0) G dX8_met_321 (by decide) rfl ?_
                                            refine jv_topI (y := jv_bI false) rfl ?_
                                            refine jv_icmp_eqB (q := 325) (tgt := 327) G dX8_met_322 (by decide) rfl (fun c223 => ?_) (fun c223 => ?_)
                                            · refine jv_iload (q := 329) G 2 dX8_met_327 rfl rfl ?_
                                              refine jv_if_neN (q := 332) (tgt := 357) G dX8_met_329 (by decide) rfl (by omega) (fun c224 => ?_) (fun c224 => ?_)
                                              · refine jv_aload_n (q := 358) G 5 dX8_met_357 rfl rfl rfl ?_
                                                refine jv_getQ (q := 361) G dX8_met_358 fl_X8_20 rfl (hsc.S hS).1 (rf_p5 (hsc.S hS)) rfl ?_
                                                refine jv_iload (q := 363) G 1 dX8_met_361 rfl rfl ?_
                                                refine jv_zald (q := 364) G dX8_met_363 (rf_a5 (hsc.S hS)) rfl (by omega) (by decide) (rt_5 (hsc.T hS Tt139)) rfl ?_
                                                refine jv_if_neB (q := 367) (tgt := 396) G dX8_met_364 (by decide) rfl (fun c225 => ?_) (fun c225 => ?_)
                                                · refine jv_bipush (q := 398) (v := nI 6) G dX8_met_396 (by decide) rfl ?_
                                                  refine jv_iret G hr dX8_met_398 (Nat.le_of_ble_eq_true rfl) (Nat.le_of_ble_eq_true rfl) ?_
                                                  have hz : (m_met (decide (e = ec)) tsC ts pk su 2 ty n s rc) = (6, none) := by
                                                    unfold m_met m_isC m_bd
                                                    simp only [*, if_true, if_false, Bool.false_eq_true, reduceIte, Option.map_some, decide_true, decide_false, not_true_eq_false, not_false_eq_true, eq_self, ne_eq, Nat.reduceLT, Nat.lt_irrefl, Nat.reduceEqDiff, and_true, true_and, and_false, false_and, or_true, true_or, or_false, false_or, Bool.or_true, Bool.or_false, Bool.true_or, Bool.false_or, reduceCtorEq] <;> rfl
                                                  exact ⟨by rw [hz], hrs.tr hsc.rs, by rw [hz]; exact (hsc.x hS 32).trans hran, (hsc.x hS 0).trans hx0, (hsc.I2 hS 22 (by decide) rfl (by decide) c).trans hce, (hsc.I2 hS 23 (by decide) rfl (by decide) c).trans hpk, (hsc.I2 hS 24 (by decide) rfl (by decide) c).trans hsu⟩
                                                · refine jv_aload_n (q := 368) G 5 dX8_met_367 rfl rfl rfl ?_
                                                  refine jv_getQ (q := 371) G dX8_met_368 fl_X8_23 rfl (hsc.S hS).1 (rf_p6 (hsc.S hS)) rfl ?_
                                                  refine jv_iload (q := 373) G 1 dX8_met_371 rfl rfl ?_
                                                  refine jv_zald (q := 374) G dX8_met_373 (rf_a6 (hsc.S hS)) rfl (by omega) (by decide) (rt_6 (hsc.T hS Tt139)) rfl ?_
                                                  refine jv_if_neB (q := 377) (tgt := 396) G dX8_met_374 (by decide) rfl (fun c226 => ?_) (fun c226 => ?_)
                                                  · refine jv_bipush (q := 398) (v := nI 6) G dX8_met_396 (by decide) rfl ?_
                                                    refine jv_iret G hr dX8_met_398 (Nat.le_of_ble_eq_true rfl) (Nat.le_of_ble_eq_true rfl) ?_
                                                    have hz : (m_met (decide (e = ec)) tsC ts pk su 2 ty n s rc) = (6, none) := by
                                                      unfold m_met m_isC m_bd
                                                      simp only [*, if_true, if_false, Bool.false_eq_true, reduceIte, Option.map_some, decide_true, decide_false, not_true_eq_false, not_false_eq_true, eq_self, ne_eq, Nat.reduceLT, Nat.lt_irrefl, Nat.reduceEqDiff, and_true, true_and, and_false, false_and, or_true, true_or, or_false, false_or, Bool.or_true, Bool.or_false, Bool.true_or, Bool.false_or, reduceCtorEq] <;> rfl
                                                    exact ⟨by rw [hz], hrs.tr hsc.rs, by rw [hz]; exact (hsc.x hS 32).trans hran, (hsc.x hS 0).trans hx0, (hsc.I2 hS 22 (by decide) rfl (by decide) c).trans hce, (hsc.I2 hS 23 (by decide) rfl (by decide) c).trans hpk, (hsc.I2 hS 24 (by decide) rfl (by decide) c).trans hsu⟩
                                                  · refine jv_iload (q := 379) G 1 dX8_met_377 rfl rfl ?_
                                                    refine jv_iload (q := 381) G 4 dX8_met_379 rfl rfl ?_
                                                    refine jv_icmp_eqN (q := 384) (tgt := 399) G dX8_met_381 (by decide) rfl (by omega) (by omega) (fun c227 => ?_) (fun c227 => ?_)
                                                    · have Kc227 : (k138 = k2) = True := eq_true (by omega)
                                                      refine jv_aload_n (q := 400) G 5 dX8_met_399 rfl rfl rfl ?_
                                                      refine jv_iload_n (q := 401) G 7 dX8_met_400 rfl rfl rfl ?_
                                                      refine jv_iload (q := 403) G 0 dX8_met_401 rfl rfl ?_
                                                      refine jv_iload (q := 405) G 1 dX8_met_403 rfl rfl ?_
                                                      refine jv_callV (q := 408) (As := [.int (nI e), .int (nI (6 * (10 * e + p214.1) + p214.2)), .int (nI (10 * e + k138))]) (rest := []) G Z ml_X8_189 (r_selected (d := 11) hlt hsc hS he hE hV ht215 hm216 ht139 (hg k138 (by omega))) (hsc.S hS).1 dX8_met_405 rfl (by decide) (by decide) (by decide) (by decide) (Nat.le_of_ble_eq_true rfl) rfl rfl (fun v229 h228 y230 => ?_) (fun _ _ hx => hx.elim)
                                                      obtain ⟨rfl, hsc⟩ := y230
                                                      show jv_V E 14 h228 0 0 (jv_Q E (fun v h' => v = some (.int (nI (m_met (decide (e = ec)) tsC ts pk su 2 ty n s rc).1)) ∧ rs x q h h' ∧ jv_I h' x 32 = jv_oN (m_met (decide (e = ec)) tsC ts pk su 2 ty n s rc).2 ∧ jv_I h' x 0 = jv_I h x 0 ∧ jv_I h' (q 22) c = nI ec ∧ jv_I h' (q 23) c = nI pk ∧ jv_I h' (q 24) c = jv_oN su) jv_no 0 0) 408 [(12, .int (nI (6 * (10 * e + p214.1) + p214.2))), (11, .int (nI (10 * e + k138))), (10, .int (nI 1)), (9, .int (-1)), (8, .int (nI (10 * e + k2))), (0, .ref x), (1, .int (nI c)), (2, .int (nI e)), (3, .int (nI 2)), (4, .int ty), (5, .int n), (6, .int s), (7, .int rc)] [.int (ffE e (m_sl ts 11 t215 m216 p214.1 p214.2 k138))]
                                                      rcases Option.eq_none_or_eq_some (m_sl ts 11 t215 m216 p214.1 p214.2 k138) with hp234 | ⟨p231, hp234⟩
                                                      · refine jv_topI (y := (-1)) (by rw [hp234]; rfl) ?_
                                                        refine jv_istore (q := 410) (lo' := [(13, .int (-1)), (12, .int (nI (6 * (10 * e + p214.1) + p214.2))), (11, .int (nI (10 * e + k138))), (10, .int (nI 1)), (9, .int (-1)), (8, .int (nI (10 * e + k2))), (0, .ref x), (1, .int (nI c)), (2, .int (nI e)), (3, .int (nI 2)), (4, .int ty), (5, .int n), (6, .int s), (7, .int rc)]) G dX8_met_408 (by decide) rfl rfl ?_
                                                        refine jv_iload (q := 412) G 0 dX8_met_410 rfl rfl ?_
                                                        refine jv_iconst (q := 413) (v := (-1)) G dX8_met_412 (by decide) rfl ?_
                                                        refine jv_icmp_eq (q := 416) (tgt := 426) G dX8_met_413 (by decide) rfl (fun c235 => ?_) (fun c235 => ?_)
                                                        · refine jv_iconst (q := 427) (v := nI 5) G dX8_met_426 (by decide) rfl ?_
                                                          refine jv_iret G hr dX8_met_427 (Nat.le_of_ble_eq_true rfl) (Nat.le_of_ble_eq_true rfl) ?_
                                                          have hz : (m_met (decide (e = ec)) tsC ts pk su 2 ty n s rc) = (5, none) := by
                                                            unfold m_met m_isC m_bd
                                                            simp only [*, if_true, if_false, Bool.false_eq_true, reduceIte, Option.map_some, decide_true, decide_false, not_true_eq_false, not_false_eq_true, eq_self, ne_eq, Nat.reduceLT, Nat.lt_irrefl, Nat.reduceEqDiff, and_true, true_and, and_false, false_and, or_true, true_or, or_false, false_or, Bool.or_true, Bool.or_false, Bool.true_or, Bool.false_or, reduceCtorEq] <;> rfl
                                                          exact ⟨by rw [hz], hrs.tr hsc.rs, by rw [hz]; exact (hsc.x hS 32).trans hran, (hsc.x hS 0).trans hx0, (hsc.I2 hS 22 (by decide) rfl (by decide) c).trans hce, (hsc.I2 hS 23 (by decide) rfl (by decide) c).trans hpk, (hsc.I2 hS 24 (by decide) rfl (by decide) c).trans hsu⟩
                                                        · exact absurd rfl c235
                                                      · refine jv_topI (y := nI (6 * (10 * e + p231.1) + p231.2)) (by rw [hp234]; rfl) ?_
                                                        obtain ⟨t232, ht232, m233, hm233⟩ := m_sl_mem ht215 hm216 hp234
                                                        have Tt232 := (hE.2.2 p231.1 t232 ht232).1
                                                        have Ot232 := (hE.2.2 p231.1 t232 ht232).2
                                                        have Lt232 := hE.2.1
                                                        have lt232 := jv_ltGet ht232
                                                        have Mm233 := rt_m Tt232 hm233
                                                        have Om233 := Ot232.2.2.2.2.2.2 m233 (List.mem_of_getElem? hm233)
                                                        have Lm233 := Ot232.2.2.2.2.2.1
                                                        have lm233 := jv_ltGet hm233
                                                        have Bm233n := Om233.1; have Bm233s := Om233.2.1; have Bm233a := Om233.2.2.1; have Bt232n := Ot232.1; have Bt232k := Ot232.2.1
                                                        refine jv_istore (q := 410) (lo' := [(13, .int (nI (6 * (10 * e + p231.1) + p231.2))), (12, .int (nI (6 * (10 * e + p214.1) + p214.2))), (11, .int (nI (10 * e + k138))), (10, .int (nI 1)), (9, .int (-1)), (8, .int (nI (10 * e + k2))), (0, .ref x), (1, .int (nI c)), (2, .int (nI e)), (3, .int (nI 2)), (4, .int ty), (5, .int n), (6, .int s), (7, .int rc)]) G dX8_met_408 (by decide) rfl rfl ?_
                                                        refine jv_iload (q := 412) G 0 dX8_met_410 rfl rfl ?_
                                                        refine jv_iconst (q := 413) (v := (-1)) G dX8_met_412 (by decide) rfl ?_
                                                        refine jv_icmp_eq (q := 416) (tgt := 426) G dX8_met_413 (by decide) rfl (fun c236 => ?_) (fun c236 => ?_)
                                                        · exact absurd c236 (jv_nI_m1 (by omega))
                                                        · refine jv_aload_n (q := 417) G 6 dX8_met_416 rfl rfl rfl ?_
                                                          refine jv_getQ (q := 420) G dX8_met_417 fl_X8_59 rfl (hsc.S hS).1 (rf_p18 (hsc.S hS)) rfl ?_
                                                          refine jv_iload (q := 422) G 0 dX8_met_420 rfl rfl ?_
                                                          refine jv_iald (q := 423) G dX8_met_422 (rf_a18 (hsc.S hS)) rfl (by omega) (by decide) (hsc.M hS Mm233).2.2.2.2.2.1 rfl ?_
                                                          refine jv_if_ge (q := 426) (tgt := 428) G dX8_met_423 (by decide) rfl (fun c237 => ?_) (fun c237 => ?_)
                                                          · refine jv_iload_n (q := 429) G 9 dX8_met_428 rfl rfl rfl ?_
                                                            refine jv_iconst (q := 430) (v := nI 4) G dX8_met_429 (by decide) rfl ?_
                                                            refine jv_icmp_neN (q := 433) (tgt := 446) G dX8_met_430 (by decide) rfl (by omega) (by omega) (fun c238 => ?_) (fun c238 => ?_)
                                                            · refine jv_aload_n (q := 447) G 6 dX8_met_446 rfl rfl rfl ?_
                                                              refine jv_aload_n (q := 448) G 6 dX8_met_447 rfl rfl rfl ?_
                                                              refine jv_getQ (q := 451) G dX8_met_448 fl_X8_17 rfl (hsc.S hS).1 (rf_p4 (hsc.S hS)) rfl ?_
                                                              refine jv_iload (q := 453) G 0 dX8_met_451 rfl rfl ?_
                                                              refine jv_callS_I (q := 456) (h1 := h228) (As := [.int (nI (6 * (10 * e + p231.1) + p231.2))]) (rest := [.ref (q 4), .ref x]) (ce' := 0) (sl' := 0) (r := nI ((6 * (10 * e + p231.1) + p231.2) / 6)) G Z ml_X8_183 (r_typeOf hlt (by omega)) dX8_met_453 rfl (by decide) (by decide) (by decide) (by decide) (Nat.le_of_ble_eq_true rfl) rfl rfl rfl rfl ?_
                                                              refine jv_topI (y := nI (10 * e + p231.1)) (congrArg nI (by omega)) ?_
                                                              refine jv_iald (q := 457) G dX8_met_456 (rf_a4 (hsc.S hS)) rfl (by omega) (by decide) (rt_4 (hsc.T hS Tt232)) rfl ?_
                                                              refine jv_putI (q := 460) G dX8_met_457 fl_X8_192 rfl (hsc.S hS).1 rfl ?_
                                                              have hr1 : rs x q h228 (jv_wI h228 x 32 (nI (mt_n t232))) := rs.rf.wI (nI (mt_n t232)) (Or.inl ⟨rfl, Or.inr (Or.inl rfl)⟩)
                                                              have hran : jv_I (jv_wI h228 x 32 (nI (mt_n t232))) x 32 = (nI (mt_n t232)) := jv_I_self _ _ _ _
                                                              have hSb := hsc.S hS
                                                              have hE := hr1.E hSb (hsc.E hS hE)
                                                              have hV := hr1.V hSb (hsc.V hS hV)
                                                              have hEC := hr1.E hSb (hsc.E hS hEC)
                                                              have hVC := hr1.V hSb (hsc.V hS hVC)
                                                              have hce := (wx_I hSb 22 (by decide) rfl 32 c (nI (mt_n t232))).trans ((hsc.I2 hS 22 (by decide) rfl (by decide) c).trans hce)
                                                              have hpk := (wx_I hSb 23 (by decide) rfl 32 c (nI (mt_n t232))).trans ((hsc.I2 hS 23 (by decide) rfl (by decide) c).trans hpk)
                                                              have hsu := (wx_I hSb 24 (by decide) rfl 32 c (nI (mt_n t232))).trans ((hsc.I2 hS 24 (by decide) rfl (by decide) c).trans hsu)
                                                              have hrs := (hrs.tr hsc.rs).tr hr1
                                                              have hx0 : jv_I (jv_wI h228 x 32 (nI (mt_n t232))) x 0 = jv_I h x 0 := by rw [jv_I_wI, if_neg (fun z => by cases z.2)] <;> exact (hsc.x hS 0).trans hx0
                                                              have hS := hr1.S hSb
                                                              generalize jv_wI h228 x 32 (nI (mt_n t232)) = h239 at hran hx0 hE hV hEC hVC hce hpk hsu hrs hS ⊢
                                                              have hsc : sc x q h239 h239 := sc.rf
                                                              refine jv_iload_n (q := 461) G 8 dX8_met_460 rfl rfl rfl ?_
                                                              refine jv_aload_n (q := 462) G 6 dX8_met_461 rfl rfl rfl ?_
                                                              refine jv_getQ (q := 465) G dX8_met_462 fl_X8_68 rfl (hsc.S hS).1 (rf_p22 (hsc.S hS)) rfl ?_
                                                              refine jv_iload_n (q := 466) G 7 dX8_met_465 rfl rfl rfl ?_
                                                              refine jv_iald (q := 467) G dX8_met_466 (rf_a22 (hsc.S hS)) rfl (by omega) (by decide) ((hsc.I2 hS 22 (by decide) rfl (by decide) c).trans hce) rfl ?_
                                                              refine jv_icmp_eqN (q := 470) (tgt := 495) G dX8_met_467 (by decide) rfl (by omega) (by omega) (fun c240 => ?_) (fun c240 => ?_)
                                                              · omega
                                                              · refine jv_aload_n (q := 471) G 6 dX8_met_470 rfl rfl rfl ?_
                                                                refine jv_getI (q := 474) G dX8_met_471 fl_X8_192 rfl (hsc.S hS).1 ((hsc.x hS 32).trans hran) rfl ?_
                                                                refine jv_aload_n (q := 475) G 6 dX8_met_474 rfl rfl rfl ?_
                                                                refine jv_iload_n (q := 476) G 7 dX8_met_475 rfl rfl rfl ?_
                                                                refine jv_iload (q := 478) G 10 dX8_met_476 rfl rfl ?_
                                                                refine jv_iload (q := 480) G 11 dX8_met_478 rfl rfl ?_
                                                                refine jv_iload (q := 482) G 12 dX8_met_480 rfl rfl ?_
                                                                refine jv_iload (q := 484) G 13 dX8_met_482 rfl rfl ?_
                                                                refine jv_callV (q := 487) (As := [.int (nI c), .int ty, .int n, .int s, .int rc]) (rest := [.int (nI (mt_n t232))]) G Z ml_X8_202 (r_ownRun hlt hsc hS hc hec hEC hVC hce hgC) (hsc.S hS).1 dX8_met_484 rfl (by decide) (by decide) (by decide) (by decide) (Nat.le_of_ble_eq_true rfl) rfl rfl (fun v242 h241 y243 => ?_) (fun _ _ hx => hx.elim)
                                                                obtain ⟨rfl, hsc⟩ := y243
                                                                show jv_V E 14 h241 0 0 (jv_Q E (fun v h' => v = some (.int (nI (m_met (decide (e = ec)) tsC ts pk su 2 ty n s rc).1)) ∧ rs x q h h' ∧ jv_I h' x 32 = jv_oN (m_met (decide (e = ec)) tsC ts pk su 2 ty n s rc).2 ∧ jv_I h' x 0 = jv_I h x 0 ∧ jv_I h' (q 22) c = nI ec ∧ jv_I h' (q 23) c = nI pk ∧ jv_I h' (q 24) c = jv_oN su) jv_no 0 0) 487 [(13, .int (nI (6 * (10 * e + p231.1) + p231.2))), (12, .int (nI (6 * (10 * e + p214.1) + p214.2))), (11, .int (nI (10 * e + k138))), (10, .int (nI 1)), (9, .int (-1)), (8, .int (nI (10 * e + k2))), (0, .ref x), (1, .int (nI c)), (2, .int (nI e)), (3, .int (nI 2)), (4, .int ty), (5, .int n), (6, .int s), (7, .int rc)] [.int (jv_oN (m_orn tsC ty n s rc)), .int (nI (mt_n t232))]
                                                                refine jv_icmp_eq (q := 490) (tgt := 495) G dX8_met_487 (by decide) rfl (fun c244 => ?_) (fun c244 => ?_)
                                                                · refine jv_iconst (q := 496) (v := nI 0) G dX8_met_495 (by decide) rfl ?_
                                                                  refine jv_iret G hr dX8_met_496 (Nat.le_of_ble_eq_true rfl) (Nat.le_of_ble_eq_true rfl) ?_
                                                                  have hz : (m_met (decide (e = ec)) tsC ts pk su 2 ty n s rc) = (0, some (mt_n t232)) := by
                                                                    unfold m_met m_isC m_bd
                                                                    simp only [*, if_true, if_false, Bool.false_eq_true, reduceIte, Option.map_some, decide_true, decide_false, not_true_eq_false, not_false_eq_true, eq_self, ne_eq, Nat.reduceLT, Nat.lt_irrefl, Nat.reduceEqDiff, and_true, true_and, and_false, false_and, or_true, true_or, or_false, false_or, Bool.or_true, Bool.or_false, Bool.true_or, Bool.false_or, reduceCtorEq] <;> rfl
                                                                  exact ⟨by rw [hz], hrs.tr hsc.rs, by rw [hz]; exact (hsc.x hS 32).trans hran, (hsc.x hS 0).trans hx0, (hsc.I2 hS 22 (by decide) rfl (by decide) c).trans hce, (hsc.I2 hS 23 (by decide) rfl (by decide) c).trans hpk, (hsc.I2 hS 24 (by decide) rfl (by decide) c).trans hsu⟩
                                                                · refine jv_bipush (q := 492) (v := nI 8) G dX8_met_490 (by decide) rfl ?_
                                                                  refine jv_goto (q := 496) G dX8_met_492 (by decide) ?_
                                                                  refine jv_iret G hr dX8_met_496 (Nat.le_of_ble_eq_true rfl) (Nat.le_of_ble_eq_true rfl) ?_
                                                                  have hz : (m_met (decide (e = ec)) tsC ts pk su 2 ty n s rc) = (8, some (mt_n t232)) := by
                                                                    unfold m_met m_isC m_bd
                                                                    simp only [*, if_true, if_false, Bool.false_eq_true, reduceIte, Option.map_some, decide_true, decide_false, not_true_eq_false, not_false_eq_true, eq_self, ne_eq, Nat.reduceLT, Nat.lt_irrefl, Nat.reduceEqDiff, and_true, true_and, and_false, false_and, or_true, true_or, or_false, false_or, Bool.or_true, Bool.or_false, Bool.true_or, Bool.false_or, reduceCtorEq] <;> rfl
                                                                  exact ⟨by rw [hz], hrs.tr hsc.rs, by rw [hz]; exact (hsc.x hS 32).trans hran, (hsc.x hS 0).trans hx0, (hsc.I2 hS 22 (by decide) rfl (by decide) c).trans hce, (hsc.I2 hS 23 (by decide) rfl (by decide) c).trans hpk, (hsc.I2 hS 24 (by decide) rfl (by decide) c).trans hsu⟩
                                                            · omega
                                                          · refine jv_iconst (q := 427) (v := nI 5) G dX8_met_426 (by decide) rfl ?_
                                                            refine jv_iret G hr dX8_met_427 (Nat.le_of_ble_eq_true rfl) (Nat.le_of_ble_eq_true rfl) ?_
                                                            have hz : (m_met (decide (e = ec)) tsC ts pk su 2 ty n s rc) = (5, none) := by
                                                              unfold m_met m_isC m_bd
                                                              simp only [*, if_true, if_false, Bool.false_eq_true, reduceIte, Option.map_some, decide_true, decide_false, not_true_eq_false, not_false_eq_true, eq_self, ne_eq, Nat.reduceLT, Nat.lt_irrefl, Nat.reduceEqDiff, and_true, true_and, and_false, false_and, or_true, true_or, or_false, false_or, Bool.or_true, Bool.or_false, Bool.true_or, Bool.false_or, reduceCtorEq] <;> rfl
                                                            exact ⟨by rw [hz], hrs.tr hsc.rs, by rw [hz]; exact (hsc.x hS 32).trans hran, (hsc.x hS 0).trans hx0, (hsc.I2 hS 22 (by decide) rfl (by decide) c).trans hce, (hsc.I2 hS 23 (by decide) rfl (by decide) c).trans hpk, (hsc.I2 hS 24 (by decide) rfl (by decide) c).trans hsu⟩
                                                    · have Kc227 : (k138 = k2) = False := eq_false (by omega)
                                                      refine jv_aload_n (q := 385) G 5 dX8_met_384 rfl rfl rfl ?_
                                                      refine jv_iload_n (q := 386) G 7 dX8_met_385 rfl rfl rfl ?_
                                                      refine jv_iload (q := 388) G 9 dX8_met_386 rfl rfl ?_
                                                      refine jv_iload (q := 390) G 12 dX8_met_388 rfl rfl ?_
                                                      refine jv_callV_I (q := 393) (h1 := h211) (As := [.int (nI e), .int ty, .int rc]) (rest := []) (ce' := 0) (sl' := 0) (r := jv_bI (m_isA ts ty rc)) G Z ml_X8_167 (r_isAbove hlt hsc hS he hV) (hsc.S hS).1 dX8_met_390 rfl (by decide) (by decide) (by decide) (by decide) (Nat.le_of_ble_eq_true rfl) rfl rfl rfl rfl ?_
                                                      refine jv_if_neB (q := 396) (tgt := 399) G dX8_met_393 (by decide) rfl (fun c245 => ?_) (fun c245 => ?_)
                                                      · refine jv_aload_n (q := 400) G 5 dX8_met_399 rfl rfl rfl ?_
                                                        refine jv_iload_n (q := 401) G 7 dX8_met_400 rfl rfl rfl ?_
                                                        refine jv_iload (q := 403) G 0 dX8_met_401 rfl rfl ?_
                                                        refine jv_iload (q := 405) G 1 dX8_met_403 rfl rfl ?_
                                                        refine jv_callV (q := 408) (As := [.int (nI e), .int (nI (6 * (10 * e + p214.1) + p214.2)), .int (nI (10 * e + k138))]) (rest := []) G Z ml_X8_189 (r_selected (d := 11) hlt hsc hS he hE hV ht215 hm216 ht139 (hg k138 (by omega))) (hsc.S hS).1 dX8_met_405 rfl (by decide) (by decide) (by decide) (by decide) (Nat.le_of_ble_eq_true rfl) rfl rfl (fun v247 h246 y248 => ?_) (fun _ _ hx => hx.elim)
                                                        obtain ⟨rfl, hsc⟩ := y248
                                                        show jv_V E 14 h246 0 0 (jv_Q E (fun v h' => v = some (.int (nI (m_met (decide (e = ec)) tsC ts pk su 2 ty n s rc).1)) ∧ rs x q h h' ∧ jv_I h' x 32 = jv_oN (m_met (decide (e = ec)) tsC ts pk su 2 ty n s rc).2 ∧ jv_I h' x 0 = jv_I h x 0 ∧ jv_I h' (q 22) c = nI ec ∧ jv_I h' (q 23) c = nI pk ∧ jv_I h' (q 24) c = jv_oN su) jv_no 0 0) 408 [(12, .int (nI (6 * (10 * e + p214.1) + p214.2))), (11, .int (nI (10 * e + k138))), (10, .int (nI 1)), (9, .int (-1)), (8, .int (nI (10 * e + k2))), (0, .ref x), (1, .int (nI c)), (2, .int (nI e)), (3, .int (nI 2)), (4, .int ty), (5, .int n), (6, .int s), (7, .int rc)] [.int (ffE e (m_sl ts 11 t215 m216 p214.1 p214.2 k138))]
                                                        rcases Option.eq_none_or_eq_some (m_sl ts 11 t215 m216 p214.1 p214.2 k138) with hp252 | ⟨p249, hp252⟩
                                                        · refine jv_topI (y := (-1)) (by rw [hp252]; rfl) ?_
                                                          refine jv_istore (q := 410) (lo' := [(13, .int (-1)), (12, .int (nI (6 * (10 * e + p214.1) + p214.2))), (11, .int (nI (10 * e + k138))), (10, .int (nI 1)), (9, .int (-1)), (8, .int (nI (10 * e + k2))), (0, .ref x), (1, .int (nI c)), (2, .int (nI e)), (3, .int (nI 2)), (4, .int ty), (5, .int n), (6, .int s), (7, .int rc)]) G dX8_met_408 (by decide) rfl rfl ?_
                                                          refine jv_iload (q := 412) G 0 dX8_met_410 rfl rfl ?_
                                                          refine jv_iconst (q := 413) (v := (-1)) G dX8_met_412 (by decide) rfl ?_
                                                          refine jv_icmp_eq (q := 416) (tgt := 426) G dX8_met_413 (by decide) rfl (fun c253 => ?_) (fun c253 => ?_)
                                                          · refine jv_iconst (q := 427) (v := nI 5) G dX8_met_426 (by decide) rfl ?_
                                                            refine jv_iret G hr dX8_met_427 (Nat.le_of_ble_eq_true rfl) (Nat.le_of_ble_eq_true rfl) ?_
                                                            have hz : (m_met (decide (e = ec)) tsC ts pk su 2 ty n s rc) = (5, none) := by
                                                              unfold m_met m_isC m_bd
                                                              simp only [*, if_true, if_false, Bool.false_eq_true, reduceIte, Option.map_some, decide_true, decide_false, not_true_eq_false, not_false_eq_true, eq_self, ne_eq, Nat.reduceLT, Nat.lt_irrefl, Nat.reduceEqDiff, and_true, true_and, and_false, false_and, or_true, true_or, or_false, false_or, Bool.or_true, Bool.or_false, Bool.true_or, Bool.false_or, reduceCtorEq] <;> rfl
                                                            exact ⟨by rw [hz], hrs.tr hsc.rs, by rw [hz]; exact (hsc.x hS 32).trans hran, (hsc.x hS 0).trans hx0, (hsc.I2 hS 22 (by decide) rfl (by decide) c).trans hce, (hsc.I2 hS 23 (by decide) rfl (by decide) c).trans hpk, (hsc.I2 hS 24 (by decide) rfl (by decide) c).trans hsu⟩
                                                          · exact absurd rfl c253
                                                        · refine jv_topI (y := nI (6 * (10 * e + p249.1) + p249.2)) (by rw [hp252]; rfl) ?_
                                                          obtain ⟨t250, ht250, m251, hm251⟩ := m_sl_mem ht215 hm216 hp252
                                                          have Tt250 := (hE.2.2 p249.1 t250 ht250).1
                                                          have Ot250 := (hE.2.2 p249.1 t250 ht250).2
                                                          have Lt250 := hE.2.1
                                                          have lt250 := jv_ltGet ht250
                                                          have Mm251 := rt_m Tt250 hm251
                                                          have Om251 := Ot250.2.2.2.2.2.2 m251 (List.mem_of_getElem? hm251)
                                                          have Lm251 := Ot250.2.2.2.2.2.1
                                                          have lm251 := jv_ltGet hm251
                                                          have Bm251n := Om251.1; have Bm251s := Om251.2.1; have Bm251a := Om251.2.2.1; have Bt250n := Ot250.1; have Bt250k := Ot250.2.1
                                                          refine jv_istore (q := 410) (lo' := [(13, .int (nI (6 * (10 * e + p249.1) + p249.2))), (12, .int (nI (6 * (10 * e + p214.1) + p214.2))), (11, .int (nI (10 * e + k138))), (10, .int (nI 1)), (9, .int (-1)), (8, .int (nI (10 * e + k2))), (0, .ref x), (1, .int (nI c)), (2, .int (nI e)), (3, .int (nI 2)), (4, .int ty), (5, .int n), (6, .int s), (7, .int rc)]) G dX8_met_408 (by decide) rfl rfl ?_
                                                          refine jv_iload (q := 412) G 0 dX8_met_410 rfl rfl ?_
                                                          refine jv_iconst (q := 413) (v := (-1)) G dX8_met_412 (by decide) rfl ?_
                                                          refine jv_icmp_eq (q := 416) (tgt := 426) G dX8_met_413 (by decide) rfl (fun c254 => ?_) (fun c254 => ?_)
                                                          · exact absurd c254 (jv_nI_m1 (by omega))
                                                          · refine jv_aload_n (q := 417) G 6 dX8_met_416 rfl rfl rfl ?_
                                                            refine jv_getQ (q := 420) G dX8_met_417 fl_X8_59 rfl (hsc.S hS).1 (rf_p18 (hsc.S hS)) rfl ?_
                                                            refine jv_iload (q := 422) G 0 dX8_met_420 rfl rfl ?_
                                                            refine jv_iald (q := 423) G dX8_met_422 (rf_a18 (hsc.S hS)) rfl (by omega) (by decide) (hsc.M hS Mm251).2.2.2.2.2.1 rfl ?_
                                                            refine jv_if_ge (q := 426) (tgt := 428) G dX8_met_423 (by decide) rfl (fun c255 => ?_) (fun c255 => ?_)
                                                            · refine jv_iload_n (q := 429) G 9 dX8_met_428 rfl rfl rfl ?_
                                                              refine jv_iconst (q := 430) (v := nI 4) G dX8_met_429 (by decide) rfl ?_
                                                              refine jv_icmp_neN (q := 433) (tgt := 446) G dX8_met_430 (by decide) rfl (by omega) (by omega) (fun c256 => ?_) (fun c256 => ?_)
                                                              · refine jv_aload_n (q := 447) G 6 dX8_met_446 rfl rfl rfl ?_
                                                                refine jv_aload_n (q := 448) G 6 dX8_met_447 rfl rfl rfl ?_
                                                                refine jv_getQ (q := 451) G dX8_met_448 fl_X8_17 rfl (hsc.S hS).1 (rf_p4 (hsc.S hS)) rfl ?_
                                                                refine jv_iload (q := 453) G 0 dX8_met_451 rfl rfl ?_
                                                                refine jv_callS_I (q := 456) (h1 := h246) (As := [.int (nI (6 * (10 * e + p249.1) + p249.2))]) (rest := [.ref (q 4), .ref x]) (ce' := 0) (sl' := 0) (r := nI ((6 * (10 * e + p249.1) + p249.2) / 6)) G Z ml_X8_183 (r_typeOf hlt (by omega)) dX8_met_453 rfl (by decide) (by decide) (by decide) (by decide) (Nat.le_of_ble_eq_true rfl) rfl rfl rfl rfl ?_
                                                                refine jv_topI (y := nI (10 * e + p249.1)) (congrArg nI (by omega)) ?_
                                                                refine jv_iald (q := 457) G dX8_met_456 (rf_a4 (hsc.S hS)) rfl (by omega) (by decide) (rt_4 (hsc.T hS Tt250)) rfl ?_
                                                                refine jv_putI (q := 460) G dX8_met_457 fl_X8_192 rfl (hsc.S hS).1 rfl ?_
                                                                have hr1 : rs x q h246 (jv_wI h246 x 32 (nI (mt_n t250))) := rs.rf.wI (nI (mt_n t250)) (Or.inl ⟨rfl, Or.inr (Or.inl rfl)⟩)
                                                                have hran : jv_I (jv_wI h246 x 32 (nI (mt_n t250))) x 32 = (nI (mt_n t250)) := jv_I_self _ _ _ _
                                                                have hSb := hsc.S hS
                                                                have hE := hr1.E hSb (hsc.E hS hE)
                                                                have hV := hr1.V hSb (hsc.V hS hV)
                                                                have hEC := hr1.E hSb (hsc.E hS hEC)
                                                                have hVC := hr1.V hSb (hsc.V hS hVC)
                                                                have hce := (wx_I hSb 22 (by decide) rfl 32 c (nI (mt_n t250))).trans ((hsc.I2 hS 22 (by decide) rfl (by decide) c).trans hce)
                                                                have hpk := (wx_I hSb 23 (by decide) rfl 32 c (nI (mt_n t250))).trans ((hsc.I2 hS 23 (by decide) rfl (by decide) c).trans hpk)
                                                                have hsu := (wx_I hSb 24 (by decide) rfl 32 c (nI (mt_n t250))).trans ((hsc.I2 hS 24 (by decide) rfl (by decide) c).trans hsu)
                                                                have hrs := (hrs.tr hsc.rs).tr hr1
                                                                have hx0 : jv_I (jv_wI h246 x 32 (nI (mt_n t250))) x 0 = jv_I h x 0 := by rw [jv_I_wI, if_neg (fun z => by cases z.2)] <;> exact (hsc.x hS 0).trans hx0
                                                                have hS := hr1.S hSb
                                                                generalize jv_wI h246 x 32 (nI (mt_n t250)) = h257 at hran hx0 hE hV hEC hVC hce hpk hsu hrs hS ⊢
                                                                have hsc : sc x q h257 h257 := sc.rf
                                                                refine jv_iload_n (q := 461) G 8 dX8_met_460 rfl rfl rfl ?_
                                                                refine jv_aload_n (q := 462) G 6 dX8_met_461 rfl rfl rfl ?_
                                                                refine jv_getQ (q := 465) G dX8_met_462 fl_X8_68 rfl (hsc.S hS).1 (rf_p22 (hsc.S hS)) rfl ?_
                                                                refine jv_iload_n (q := 466) G 7 dX8_met_465 rfl rfl rfl ?_
                                                                refine jv_iald (q := 467) G dX8_met_466 (rf_a22 (hsc.S hS)) rfl (by omega) (by decide) ((hsc.I2 hS 22 (by decide) rfl (by decide) c).trans hce) rfl ?_
                                                                refine jv_icmp_eqN (q := 470) (tgt := 495) G dX8_met_467 (by decide) rfl (by omega) (by omega) (fun c258 => ?_) (fun c258 => ?_)
                                                                · omega
                                                                · refine jv_aload_n (q := 471) G 6 dX8_met_470 rfl rfl rfl ?_
                                                                  refine jv_getI (q := 474) G dX8_met_471 fl_X8_192 rfl (hsc.S hS).1 ((hsc.x hS 32).trans hran) rfl ?_
                                                                  refine jv_aload_n (q := 475) G 6 dX8_met_474 rfl rfl rfl ?_
                                                                  refine jv_iload_n (q := 476) G 7 dX8_met_475 rfl rfl rfl ?_
                                                                  refine jv_iload (q := 478) G 10 dX8_met_476 rfl rfl ?_
                                                                  refine jv_iload (q := 480) G 11 dX8_met_478 rfl rfl ?_
                                                                  refine jv_iload (q := 482) G 12 dX8_met_480 rfl rfl ?_
                                                                  refine jv_iload (q := 484) G 13 dX8_met_482 rfl rfl ?_
                                                                  refine jv_callV (q := 487) (As := [.int (nI c), .int ty, .int n, .int s, .int rc]) (rest := [.int (nI (mt_n t250))]) G Z ml_X8_202 (r_ownRun hlt hsc hS hc hec hEC hVC hce hgC) (hsc.S hS).1 dX8_met_484 rfl (by decide) (by decide) (by decide) (by decide) (Nat.le_of_ble_eq_true rfl) rfl rfl (fun v260 h259 y261 => ?_) (fun _ _ hx => hx.elim)
                                                                  obtain ⟨rfl, hsc⟩ := y261
                                                                  show jv_V E 14 h259 0 0 (jv_Q E (fun v h' => v = some (.int (nI (m_met (decide (e = ec)) tsC ts pk su 2 ty n s rc).1)) ∧ rs x q h h' ∧ jv_I h' x 32 = jv_oN (m_met (decide (e = ec)) tsC ts pk su 2 ty n s rc).2 ∧ jv_I h' x 0 = jv_I h x 0 ∧ jv_I h' (q 22) c = nI ec ∧ jv_I h' (q 23) c = nI pk ∧ jv_I h' (q 24) c = jv_oN su) jv_no 0 0) 487 [(13, .int (nI (6 * (10 * e + p249.1) + p249.2))), (12, .int (nI (6 * (10 * e + p214.1) + p214.2))), (11, .int (nI (10 * e + k138))), (10, .int (nI 1)), (9, .int (-1)), (8, .int (nI (10 * e + k2))), (0, .ref x), (1, .int (nI c)), (2, .int (nI e)), (3, .int (nI 2)), (4, .int ty), (5, .int n), (6, .int s), (7, .int rc)] [.int (jv_oN (m_orn tsC ty n s rc)), .int (nI (mt_n t250))]
                                                                  refine jv_icmp_eq (q := 490) (tgt := 495) G dX8_met_487 (by decide) rfl (fun c262 => ?_) (fun c262 => ?_)
                                                                  · refine jv_iconst (q := 496) (v := nI 0) G dX8_met_495 (by decide) rfl ?_
                                                                    refine jv_iret G hr dX8_met_496 (Nat.le_of_ble_eq_true rfl) (Nat.le_of_ble_eq_true rfl) ?_
                                                                    have hz : (m_met (decide (e = ec)) tsC ts pk su 2 ty n s rc) = (0, some (mt_n t250)) := by
                                                                      unfold m_met m_isC m_bd
                                                                      simp only [*, if_true, if_false, Bool.false_eq_true, reduceIte, Option.map_some, decide_true, decide_false, not_true_eq_false, not_false_eq_true, eq_self, ne_eq, Nat.reduceLT, Nat.lt_irrefl, Nat.reduceEqDiff, and_true, true_and, and_false, false_and, or_true, true_or, or_false, false_or, Bool.or_true, Bool.or_false, Bool.true_or, Bool.false_or, reduceCtorEq] <;> rfl
                                                                    exact ⟨by rw [hz], hrs.tr hsc.rs, by rw [hz]; exact (hsc.x hS 32).trans hran, (hsc.x hS 0).trans hx0, (hsc.I2 hS 22 (by decide) rfl (by decide) c).trans hce, (hsc.I2 hS 23 (by decide) rfl (by decide) c).trans hpk, (hsc.I2 hS 24 (by decide) rfl (by decide) c).trans hsu⟩
                                                                  · refine jv_bipush (q := 492) (v := nI 8) G dX8_met_490 (by decide) rfl ?_
                                                                    refine jv_goto (q := 496) G dX8_met_492 (by decide) ?_
                                                                    refine jv_iret G hr dX8_met_496 (Nat.le_of_ble_eq_true rfl) (Nat.le_of_ble_eq_true rfl) ?_
                                                                    have hz : (m_met (decide (e = ec)) tsC ts pk su 2 ty n s rc) = (8, some (mt_n t250)) := by
                                                                      unfold m_met m_isC m_bd
                                                                      simp only [*, if_true, if_false, Bool.false_eq_true, reduceIte, Option.map_some, decide_true, decide_false, not_true_eq_false, not_false_eq_true, eq_self, ne_eq, Nat.reduceLT, Nat.lt_irrefl, Nat.reduceEqDiff, and_true, true_and, and_false, false_and, or_true, true_or, or_false, false_or, Bool.or_true, Bool.or_false, Bool.true_or, Bool.false_or, reduceCtorEq] <;> rfl
                                                                    exact ⟨by rw [hz], hrs.tr hsc.rs, by rw [hz]; exact (hsc.x hS 32).trans hran, (hsc.x hS 0).trans hx0, (hsc.I2 hS 22 (by decide) rfl (by decide) c).trans hce, (hsc.I2 hS 23 (by decide) rfl (by decide) c).trans hpk, (hsc.I2 hS 24 (by decide) rfl (by decide) c).trans hsu⟩
                                                              · omega
                                                            · refine jv_iconst (q := 427) (v := nI 5) G dX8_met_426 (by decide) rfl ?_
                                                              refine jv_iret G hr dX8_met_427 (Nat.le_of_ble_eq_true rfl) (Nat.le_of_ble_eq_true rfl) ?_
                                                              have hz : (m_met (decide (e = ec)) tsC ts pk su 2 ty n s rc) = (5, none) := by
                                                                unfold m_met m_isC m_bd
                                                                simp only [*, if_true, if_false, Bool.false_eq_true, reduceIte, Option.map_some, decide_true, decide_false, not_true_eq_false, not_false_eq_true, eq_self, ne_eq, Nat.reduceLT, Nat.lt_irrefl, Nat.reduceEqDiff, and_true, true_and, and_false, false_and, or_true, true_or, or_false, false_or, Bool.or_true, Bool.or_false, Bool.true_or, Bool.false_or, reduceCtorEq] <;> rfl
                                                              exact ⟨by rw [hz], hrs.tr hsc.rs, by rw [hz]; exact (hsc.x hS 32).trans hran, (hsc.x hS 0).trans hx0, (hsc.I2 hS 22 (by decide) rfl (by decide) c).trans hce, (hsc.I2 hS 23 (by decide) rfl (by decide) c).trans hpk, (hsc.I2 hS 24 (by decide) rfl (by decide) c).trans hsu⟩
                                                      · refine jv_bipush (q := 398) (v := nI 6) G dX8_met_396 (by decide) rfl ?_
                                                        refine jv_iret G hr dX8_met_398 (Nat.le_of_ble_eq_true rfl) (Nat.le_of_ble_eq_true rfl) ?_
                                                        have hz : (m_met (decide (e = ec)) tsC ts pk su 2 ty n s rc) = (6, none) := by
                                                          unfold m_met m_isC m_bd
                                                          simp only [*, if_true, if_false, Bool.false_eq_true, reduceIte, Option.map_some, decide_true, decide_false, not_true_eq_false, not_false_eq_true, eq_self, ne_eq, Nat.reduceLT, Nat.lt_irrefl, Nat.reduceEqDiff, and_true, true_and, and_false, false_and, or_true, true_or, or_false, false_or, Bool.or_true, Bool.or_false, Bool.true_or, Bool.false_or, reduceCtorEq] <;> rfl
                                                        exact ⟨by rw [hz], hrs.tr hsc.rs, by rw [hz]; exact (hsc.x hS 32).trans hran, (hsc.x hS 0).trans hx0, (hsc.I2 hS 22 (by decide) rfl (by decide) c).trans hce, (hsc.I2 hS 23 (by decide) rfl (by decide) c).trans hpk, (hsc.I2 hS 24 (by decide) rfl (by decide) c).trans hsu⟩
                                              · omega
                                            · refine jv_iconst (q := 326) (v := nI 4) G dX8_met_325 (by decide) rfl ?_
                                              refine jv_iret G hr dX8_met_326 (Nat.le_of_ble_eq_true rfl) (Nat.le_of_ble_eq_true rfl) ?_
                                              have hz : (m_met (decide (e = ec)) tsC ts pk su 2 ty n s rc) = (4, none) := by
                                                unfold m_met m_isC m_bd
                                                simp only [*, if_true, if_false, Bool.false_eq_true, reduceIte, Option.map_some, decide_true, decide_false, not_true_eq_false, not_false_eq_true, eq_self, ne_eq, Nat.reduceLT, Nat.lt_irrefl, Nat.reduceEqDiff, and_true, true_and, and_false, false_and, or_true, true_or, or_false, false_or, Bool.or_true, Bool.or_false, Bool.true_or, Bool.false_or, reduceCtorEq] <;> rfl
                                              exact ⟨by rw [hz], hrs.tr hsc.rs, by rw [hz]; exact (hsc.x hS 32).trans hran, (hsc.x hS 0).trans hx0, (hsc.I2 hS 22 (by decide) rfl (by decide) c).trans hce, (hsc.I2 hS 23 (by decide) rfl (by decide) c).trans hpk, (hsc.I2 hS 24 (by decide) rfl (by decide) c).trans hsu⟩
                                          · omega
                                      · refine jv_iconst (q := 299) (v := nI 3) G dX8_met_298 (by decide) rfl ?_
                                        refine jv_iret G hr dX8_met_299 (Nat.le_of_ble_eq_true rfl) (Nat.le_of_ble_eq_true rfl) ?_
                                        have hz : (m_met (decide (e = ec)) tsC ts pk su 2 ty n s rc) = (3, none) := by
                                          unfold m_met m_isC m_bd
                                          simp only [*, if_true, if_false, Bool.false_eq_true, reduceIte, Option.map_some, decide_true, decide_false, not_true_eq_false, not_false_eq_true, eq_self, ne_eq, Nat.reduceLT, Nat.lt_irrefl, Nat.reduceEqDiff, and_true, true_and, and_false, false_and, or_true, true_or, or_false, false_or, Bool.or_true, Bool.or_false, Bool.true_or, Bool.false_or, reduceCtorEq] <;> rfl
                                        exact ⟨by rw [hz], hrs.tr hsc.rs, by rw [hz]; exact (hsc.x hS 32).trans hran, (hsc.x hS 0).trans hx0, (hsc.I2 hS 22 (by decide) rfl (by decide) c).trans hce, (hsc.I2 hS 23 (by decide) rfl (by decide) c).trans hpk, (hsc.I2 hS 24 (by decide) rfl (by decide) c).trans hsu⟩
                                    · exact absurd c219 (jv_nI_m1 (by omega))
                                · omega
                              · omega
                            · omega
                      · refine jv_iconst (q := 192) (v := nI 3) G dX8_met_191 (by decide) rfl ?_
                        refine jv_iret G hr dX8_met_192 (Nat.le_of_ble_eq_true rfl) (Nat.le_of_ble_eq_true rfl) ?_
                        have hz : (m_met (decide (e = ec)) tsC ts pk su 2 ty n s rc) = (3, none) := by
                          unfold m_met m_isC m_bd
                          simp only [*, if_true, if_false, Bool.false_eq_true, reduceIte, Option.map_some, decide_true, decide_false, not_true_eq_false, not_false_eq_true, eq_self, ne_eq, Nat.reduceLT, Nat.lt_irrefl, Nat.reduceEqDiff, and_true, true_and, and_false, false_and, or_true, true_or, or_false, false_or, Bool.or_true, Bool.or_false, Bool.true_or, Bool.false_or, reduceCtorEq] <;> rfl
                        exact ⟨by rw [hz], hrs.tr hsc.rs, by rw [hz]; exact (hsc.x hS 32).trans hran, (hsc.x hS 0).trans hx0, (hsc.I2 hS 22 (by decide) rfl (by decide) c).trans hce, (hsc.I2 hS 23 (by decide) rfl (by decide) c).trans hpk, (hsc.I2 hS 24 (by decide) rfl (by decide) c).trans hsu⟩
                  · exact absurd c146 (jv_nI_m1 (by omega))
        · omega
      · exact absurd rfl c135
