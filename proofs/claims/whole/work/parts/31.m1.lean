set_option maxHeartbeats 4000000 in
set_option maxRecDepth 100000 in
theorem r_met1 {lA : Launch} (hlt : lA.stackTraces = false) {D : jv_D} {base : Nat} {x : Nat} {q : Nat → Nat} {h : jv_H} {c e ec pk : Nat} {su : Option Nat} {ty n s rc : Int32} {tsC ts : List mT} (hS : rf_S x q h) (hc : c < 13) (he : e < 8) (hec : ec < 8) (hE : rf_E q h e ts) (hV : rf_V q h e ts) (hEC : rf_E q h ec tsC) (hVC : rf_V q h ec tsC) (hce : jv_I h (q 22) c = nI ec) (hpk : jv_I h (q 23) c = nI pk) (hpk5 : pk < 5) (hsu : jv_I h (q 24) c = jv_oN su) (hsu16 : ∀ u, su = some u → u < 16) (hg : ∀ k, k < ts.length → m_hg ts 11 k) (hgC : ∀ k, k < tsC.length → m_hg tsC 11 k) : jv_Met lA D base yX8_met (.code yX8_met cX8_met 14 (some .int)) 15 0 0 [.ref x, .int (nI c), .int (nI e), .int (nI 1), .int ty, .int n, .int s, .int rc] h (fun v h' => v = some (.int (nI (m_met (decide (e = ec)) tsC ts pk su 1 ty n s rc).1)) ∧ rs x q h h' ∧ jv_I h' x 32 = jv_oN (m_met (decide (e = ec)) tsC ts pk su 1 ty n s rc).2 ∧ jv_I h' x 0 = jv_I h x 0 ∧ jv_I h' (q 22) c = nI ec ∧ jv_I h' (q 23) c = nI pk ∧ jv_I h' (q 24) c = jv_oN su) jv_no := by
  refine jv_ofV (lo := [(0, .ref x), (1, .int (nI c)), (2, .int (nI e)), (3, .int (nI 1)), (4, .int ty), (5, .int n), (6, .int s), (7, .int rc)]) hlt (by decide) (Nat.le_of_ble_eq_true rfl) rfl (fun E hEl hEd hEz Z G hr ht hnm => ?_)
  subst hEl; subst hEd; subst hEz
  have hlen := hE.2.1
  have hlenC := hEC.2.1
  have hrs : rs x q h h := rs.rf
  have hx0 : jv_I h x 0 = jv_I h x 0 := rfl
  have hsc : sc x q h h := sc.rf
  refine jv_aload_n (q := 1) G 0 dX8_met_0 rfl rfl rfl ?_
  refine jv_iconst (q := 2) (v := (-1)) G dX8_met_1 (by decide) rfl ?_
  refine jv_putI (q := 5) G dX8_met_2 fl_X8_192 rfl (hsc.S hS).1 rfl ?_
  have hr1 : rs x q h (jv_wI h x 32 (-1)) := rs.rf.wI (-1) (Or.inl ⟨rfl, Or.inr (Or.inl rfl)⟩)
  have hran : jv_I (jv_wI h x 32 (-1)) x 32 = (-1) := jv_I_self _ _ _ _
  have hSb := hsc.S hS
  have hE := hr1.E hSb (hsc.E hS hE)
  have hV := hr1.V hSb (hsc.V hS hV)
  have hEC := hr1.E hSb (hsc.E hS hEC)
  have hVC := hr1.V hSb (hsc.V hS hVC)
  have hce := (wx_I hSb 22 (by decide) rfl 32 c (-1)).trans ((hsc.I2 hS 22 (by decide) rfl (by decide) c).trans hce)
  have hpk := (wx_I hSb 23 (by decide) rfl 32 c (-1)).trans ((hsc.I2 hS 23 (by decide) rfl (by decide) c).trans hpk)
  have hsu := (wx_I hSb 24 (by decide) rfl 32 c (-1)).trans ((hsc.I2 hS 24 (by decide) rfl (by decide) c).trans hsu)
  have hrs := (hrs.tr hsc.rs).tr hr1
  have hx0 : jv_I (jv_wI h x 32 (-1)) x 0 = jv_I h x 0 := by rw [jv_I_wI, if_neg (fun z => by cases z.2)] <;> exact (hsc.x hS 0).trans hx0
  have hS := hr1.S hSb
  generalize jv_wI h x 32 (-1) = h1 at hran hx0 hE hV hEC hVC hce hpk hsu hrs hS ⊢
  have hsc : sc x q h1 h1 := sc.rf
  refine jv_aload_n (q := 6) G 0 dX8_met_5 rfl rfl rfl ?_
  refine jv_iload_n (q := 7) G 2 dX8_met_6 rfl rfl rfl ?_
  refine jv_iload (q := 9) G 4 dX8_met_7 rfl rfl ?_
  refine jv_callV_I (q := 12) (h1 := h1) (As := [.int (nI e), .int ty]) (rest := []) (ce' := 0) (sl' := 0) (r := jv_oN ((m_at ts ty).map (fun k => 10 * e + k))) G Z ml_X8_151 (r_at hlt (hsc.S hS) he (hsc.E hS hE)) (hsc.S hS).1 dX8_met_9 rfl (by decide) (by decide) (by decide) (by decide) (Nat.le_of_ble_eq_true rfl) rfl rfl rfl rfl ?_
  rcases Option.eq_none_or_eq_some (m_at ts ty) with hk4 | ⟨k2, hk4⟩
  · refine jv_topI (y := (-1)) (by rw [hk4]; rfl) ?_
    refine jv_istore (q := 14) (lo' := [(8, .int (-1)), (0, .ref x), (1, .int (nI c)), (2, .int (nI e)), (3, .int (nI 1)), (4, .int ty), (5, .int n), (6, .int s), (7, .int rc)]) G dX8_met_12 (by decide) rfl rfl ?_
    refine jv_iload_n (q := 15) G 3 dX8_met_14 rfl rfl rfl ?_
    refine jv_aload_n (q := 16) G 1 dX8_met_15 rfl rfl rfl ?_
    refine jv_getQ (q := 19) G dX8_met_16 fl_X8_68 rfl (hsc.S hS).1 (rf_p22 (hsc.S hS)) rfl ?_
    refine jv_iload_n (q := 20) G 2 dX8_met_19 rfl rfl rfl ?_
    refine jv_iald (q := 21) G dX8_met_20 (rf_a22 (hsc.S hS)) rfl (by omega) (by decide) ((hsc.I2 hS 22 (by decide) rfl (by decide) c).trans hce) rfl ?_
    refine jv_icmp_eqN (q := 24) (tgt := 39) G dX8_met_21 (by decide) rfl (by omega) (by omega) (fun c5 => ?_) (fun c5 => ?_)
    · refine jv_iconst (q := 40) (v := (-1)) G dX8_met_39 (by decide) rfl ?_
      refine jv_istore (q := 42) (lo' := [(9, .int (-1)), (8, .int (-1)), (0, .ref x), (1, .int (nI c)), (2, .int (nI e)), (3, .int (nI 1)), (4, .int ty), (5, .int n), (6, .int s), (7, .int rc)]) G dX8_met_40 (by decide) rfl rfl ?_
      refine jv_iload (q := 44) G 0 dX8_met_42 rfl rfl ?_
      refine jv_iconst (q := 45) (v := (-1)) G dX8_met_44 (by decide) rfl ?_
      refine jv_icmp_eq (q := 48) (tgt := 111) G dX8_met_45 (by decide) rfl (fun c6 => ?_) (fun c6 => ?_)
      · refine jv_iload_n (q := 112) G 5 dX8_met_111 rfl rfl rfl ?_
        refine jv_iconst (q := 113) (v := nI 2) G dX8_met_112 (by decide) rfl ?_
        refine jv_icmp_eqN (q := 116) (tgt := 121) G dX8_met_113 (by decide) rfl (by omega) (by omega) (fun c7 => ?_) (fun c7 => ?_)
        · omega
        · refine jv_iload_n (q := 117) G 5 dX8_met_116 rfl rfl rfl ?_
          refine jv_iconst (q := 118) (v := nI 4) G dX8_met_117 (by decide) rfl ?_
          refine jv_icmp_neN (q := 121) (tgt := 125) G dX8_met_118 (by decide) rfl (by omega) (by omega) (fun c8 => ?_) (fun c8 => ?_)
          · refine jv_iconst (q := 126) (v := nI 0) G dX8_met_125 (by decide) rfl ?_
            refine jv_istore (q := 128) (lo' := [(10, .int (nI 0)), (9, .int (-1)), (8, .int (-1)), (0, .ref x), (1, .int (nI c)), (2, .int (nI e)), (3, .int (nI 1)), (4, .int ty), (5, .int n), (6, .int s), (7, .int rc)]) G dX8_met_126 (by decide) rfl rfl ?_
            refine jv_iload (q := 130) G 0 dX8_met_128 rfl rfl ?_
            refine jv_if_eqN (q := 133) (tgt := 143) G dX8_met_130 (by decide) rfl (by omega) (fun c9 => ?_) (fun c9 => ?_)
            · refine jv_iconst (q := 144) (v := (-1)) G dX8_met_143 (by decide) rfl ?_
              refine jv_istore (q := 146) (lo' := [(11, .int (-1)), (10, .int (nI 0)), (9, .int (-1)), (8, .int (-1)), (0, .ref x), (1, .int (nI c)), (2, .int (nI e)), (3, .int (nI 1)), (4, .int ty), (5, .int n), (6, .int s), (7, .int rc)]) G dX8_met_144 (by decide) rfl rfl ?_
              refine jv_iload (q := 148) G 3 dX8_met_146 rfl rfl ?_
              refine jv_iconst (q := 149) (v := (-1)) G dX8_met_148 (by decide) rfl ?_
              refine jv_icmp_eq (q := 152) (tgt := 163) G dX8_met_149 (by decide) rfl (fun c10 => ?_) (fun c10 => ?_)
              · refine jv_iconst (q := 164) (v := nI 1) G dX8_met_163 (by decide) rfl ?_
                refine jv_iret G hr dX8_met_164 (Nat.le_of_ble_eq_true rfl) (Nat.le_of_ble_eq_true rfl) ?_
                have hz : (m_met (decide (e = ec)) tsC ts pk su 1 ty n s rc) = (1, none) := by
                  unfold m_met m_isC m_bd
                  simp only [*, if_true, if_false, Bool.false_eq_true, reduceIte, Option.map_some, decide_true, decide_false, not_true_eq_false, not_false_eq_true, eq_self, ne_eq, Nat.reduceLT, Nat.lt_irrefl, Nat.reduceEqDiff, and_true, true_and, and_false, false_and, or_true, true_or, or_false, false_or, Bool.or_true, Bool.or_false, Bool.true_or, Bool.false_or, reduceCtorEq] <;> rfl
                exact ⟨by rw [hz], hrs.tr hsc.rs, by rw [hz]; exact (hsc.x hS 32).trans hran, (hsc.x hS 0).trans hx0, (hsc.I2 hS 22 (by decide) rfl (by decide) c).trans hce, (hsc.I2 hS 23 (by decide) rfl (by decide) c).trans hpk, (hsc.I2 hS 24 (by decide) rfl (by decide) c).trans hsu⟩
              · exact absurd rfl c10
            · omega
          · omega
      · exact absurd rfl c6
    · refine jv_aload_n (q := 25) G 1 dX8_met_24 rfl rfl rfl ?_
      refine jv_iload_n (q := 26) G 2 dX8_met_25 rfl rfl rfl ?_
      refine jv_iload_n (q := 27) G 4 dX8_met_26 rfl rfl rfl ?_
      refine jv_iload (q := 29) G 5 dX8_met_27 rfl rfl ?_
      refine jv_iload (q := 31) G 6 dX8_met_29 rfl rfl ?_
      refine jv_iload (q := 33) G 7 dX8_met_31 rfl rfl ?_
      refine jv_callV_I (q := 36) (h1 := h1) (As := [.int (nI c), .int (nI 1), .int ty, .int n, .int s]) (rest := []) (ce' := 0) (sl' := 0) (r := (ffE ec (m_co tsC 1 ty n s))) G Z ml_X8_195 (r_constantOf hlt hsc hS hc hec hEC hce (by decide) hgC) (hsc.S hS).1 dX8_met_33 rfl (by decide) (by decide) (by decide) (by decide) (Nat.le_of_ble_eq_true rfl) rfl rfl rfl rfl ?_
      rcases Option.eq_none_or_eq_some (m_co tsC 1 ty n s) with hp14 | ⟨p11, hp14⟩
      · refine jv_topI (y := (-1)) (by rw [hp14]; rfl) ?_
        refine jv_goto (q := 40) G dX8_met_36 (by decide) ?_
        refine jv_istore (q := 42) (lo' := [(9, .int (-1)), (8, .int (-1)), (0, .ref x), (1, .int (nI c)), (2, .int (nI e)), (3, .int (nI 1)), (4, .int ty), (5, .int n), (6, .int s), (7, .int rc)]) G dX8_met_40 (by decide) rfl rfl ?_
        refine jv_iload (q := 44) G 0 dX8_met_42 rfl rfl ?_
        refine jv_iconst (q := 45) (v := (-1)) G dX8_met_44 (by decide) rfl ?_
        refine jv_icmp_eq (q := 48) (tgt := 111) G dX8_met_45 (by decide) rfl (fun c15 => ?_) (fun c15 => ?_)
        · refine jv_iload_n (q := 112) G 5 dX8_met_111 rfl rfl rfl ?_
          refine jv_iconst (q := 113) (v := nI 2) G dX8_met_112 (by decide) rfl ?_
          refine jv_icmp_eqN (q := 116) (tgt := 121) G dX8_met_113 (by decide) rfl (by omega) (by omega) (fun c16 => ?_) (fun c16 => ?_)
          · omega
          · refine jv_iload_n (q := 117) G 5 dX8_met_116 rfl rfl rfl ?_
            refine jv_iconst (q := 118) (v := nI 4) G dX8_met_117 (by decide) rfl ?_
            refine jv_icmp_neN (q := 121) (tgt := 125) G dX8_met_118 (by decide) rfl (by omega) (by omega) (fun c17 => ?_) (fun c17 => ?_)
            · refine jv_iconst (q := 126) (v := nI 0) G dX8_met_125 (by decide) rfl ?_
              refine jv_istore (q := 128) (lo' := [(10, .int (nI 0)), (9, .int (-1)), (8, .int (-1)), (0, .ref x), (1, .int (nI c)), (2, .int (nI e)), (3, .int (nI 1)), (4, .int ty), (5, .int n), (6, .int s), (7, .int rc)]) G dX8_met_126 (by decide) rfl rfl ?_
              refine jv_iload (q := 130) G 0 dX8_met_128 rfl rfl ?_
              refine jv_if_eqN (q := 133) (tgt := 143) G dX8_met_130 (by decide) rfl (by omega) (fun c18 => ?_) (fun c18 => ?_)
              · refine jv_iconst (q := 144) (v := (-1)) G dX8_met_143 (by decide) rfl ?_
                refine jv_istore (q := 146) (lo' := [(11, .int (-1)), (10, .int (nI 0)), (9, .int (-1)), (8, .int (-1)), (0, .ref x), (1, .int (nI c)), (2, .int (nI e)), (3, .int (nI 1)), (4, .int ty), (5, .int n), (6, .int s), (7, .int rc)]) G dX8_met_144 (by decide) rfl rfl ?_
                refine jv_iload (q := 148) G 3 dX8_met_146 rfl rfl ?_
                refine jv_iconst (q := 149) (v := (-1)) G dX8_met_148 (by decide) rfl ?_
                refine jv_icmp_eq (q := 152) (tgt := 163) G dX8_met_149 (by decide) rfl (fun c19 => ?_) (fun c19 => ?_)
                · refine jv_iconst (q := 164) (v := nI 1) G dX8_met_163 (by decide) rfl ?_
                  refine jv_iret G hr dX8_met_164 (Nat.le_of_ble_eq_true rfl) (Nat.le_of_ble_eq_true rfl) ?_
                  have hz : (m_met (decide (e = ec)) tsC ts pk su 1 ty n s rc) = (1, none) := by
                    unfold m_met m_isC m_bd
                    simp only [*, if_true, if_false, Bool.false_eq_true, reduceIte, Option.map_some, decide_true, decide_false, not_true_eq_false, not_false_eq_true, eq_self, ne_eq, Nat.reduceLT, Nat.lt_irrefl, Nat.reduceEqDiff, and_true, true_and, and_false, false_and, or_true, true_or, or_false, false_or, Bool.or_true, Bool.or_false, Bool.true_or, Bool.false_or, reduceCtorEq] <;> rfl
                  exact ⟨by rw [hz], hrs.tr hsc.rs, by rw [hz]; exact (hsc.x hS 32).trans hran, (hsc.x hS 0).trans hx0, (hsc.I2 hS 22 (by decide) rfl (by decide) c).trans hce, (hsc.I2 hS 23 (by decide) rfl (by decide) c).trans hpk, (hsc.I2 hS 24 (by decide) rfl (by decide) c).trans hsu⟩
                · exact absurd rfl c19
              · omega
            · omega
        · exact absurd rfl c15
      · refine jv_topI (y := nI (6 * (10 * ec + p11.1) + p11.2)) (by rw [hp14]; rfl) ?_
        obtain ⟨t12, ht12, m13, hm13⟩ := m_co_mem hp14
        have Tt12 := (hEC.2.2 p11.1 t12 ht12).1
        have Ot12 := (hEC.2.2 p11.1 t12 ht12).2
        have Lt12 := hEC.2.1
        have lt12 := jv_ltGet ht12
        have Mm13 := rt_m Tt12 hm13
        have Om13 := Ot12.2.2.2.2.2.2 m13 (List.mem_of_getElem? hm13)
        have Lm13 := Ot12.2.2.2.2.2.1
        have lm13 := jv_ltGet hm13
        have Bm13n := Om13.1; have Bm13s := Om13.2.1; have Bm13a := Om13.2.2.1; have Bt12n := Ot12.1; have Bt12k := Ot12.2.1
        refine jv_goto (q := 40) G dX8_met_36 (by decide) ?_
        refine jv_istore (q := 42) (lo' := [(9, .int (nI (6 * (10 * ec + p11.1) + p11.2))), (8, .int (-1)), (0, .ref x), (1, .int (nI c)), (2, .int (nI e)), (3, .int (nI 1)), (4, .int ty), (5, .int n), (6, .int s), (7, .int rc)]) G dX8_met_40 (by decide) rfl rfl ?_
        refine jv_iload (q := 44) G 0 dX8_met_42 rfl rfl ?_
        refine jv_iconst (q := 45) (v := (-1)) G dX8_met_44 (by decide) rfl ?_
        refine jv_icmp_eq (q := 48) (tgt := 111) G dX8_met_45 (by decide) rfl (fun c20 => ?_) (fun c20 => ?_)
        · exact absurd c20 (jv_nI_m1 (by omega))
        · refine jv_iload (q := 50) G 1 dX8_met_48 rfl rfl ?_
          refine jv_iconst (q := 51) (v := (-1)) G dX8_met_50 (by decide) rfl ?_
          refine jv_icmp_ne (q := 54) (tgt := 58) G dX8_met_51 (by decide) rfl (fun c21 => ?_) (fun c21 => ?_)
          · exact absurd rfl c21
          · refine jv_iconst (q := 55) (v := (-1)) G dX8_met_54 (by decide) rfl ?_
            refine jv_goto (q := 69) G dX8_met_55 (by decide) ?_
            refine jv_istore (q := 71) (lo' := [(10, .int (-1)), (9, .int (nI (6 * (10 * ec + p11.1) + p11.2))), (8, .int (-1)), (0, .ref x), (1, .int (nI c)), (2, .int (nI e)), (3, .int (nI 1)), (4, .int ty), (5, .int n), (6, .int s), (7, .int rc)]) G dX8_met_69 (by decide) rfl rfl ?_
            refine jv_iload (q := 73) G 0 dX8_met_71 rfl rfl ?_
            refine jv_iconst (q := 74) (v := (-1)) G dX8_met_73 (by decide) rfl ?_
            refine jv_icmp_eq (q := 77) (tgt := 108) G dX8_met_74 (by decide) rfl (fun c22 => ?_) (fun c22 => ?_)
            · refine jv_bipush (q := 110) (v := nI 9) G dX8_met_108 (by decide) rfl ?_
              refine jv_iret G hr dX8_met_110 (Nat.le_of_ble_eq_true rfl) (Nat.le_of_ble_eq_true rfl) ?_
              have hz : (m_met (decide (e = ec)) tsC ts pk su 1 ty n s rc) = (9, none) := by
                unfold m_met m_isC m_bd
                simp only [*, if_true, if_false, Bool.false_eq_true, reduceIte, Option.map_some, decide_true, decide_false, not_true_eq_false, not_false_eq_true, eq_self, ne_eq, Nat.reduceLT, Nat.lt_irrefl, Nat.reduceEqDiff, and_true, true_and, and_false, false_and, or_true, true_or, or_false, false_or, Bool.or_true, Bool.or_false, Bool.true_or, Bool.false_or, reduceCtorEq] <;> rfl
              exact ⟨by rw [hz], hrs.tr hsc.rs, by rw [hz]; exact (hsc.x hS 32).trans hran, (hsc.x hS 0).trans hx0, (hsc.I2 hS 22 (by decide) rfl (by decide) c).trans hce, (hsc.I2 hS 23 (by decide) rfl (by decide) c).trans hpk, (hsc.I2 hS 24 (by decide) rfl (by decide) c).trans hsu⟩
            · exact absurd rfl c22
  · refine jv_topI (y := nI (10 * e + k2)) (by rw [hk4]; rfl) ?_
    obtain ⟨t3, ht3, nt3, lt3⟩ := m_at_some hk4
    have Tt3 := (hE.2.2 k2 t3 ht3).1
    have Ot3 := (hE.2.2 k2 t3 ht3).2
    have Lt3 := hE.2.1
    have Bt3n := Ot3.1; have Bt3k := Ot3.2.1
    refine jv_istore (q := 14) (lo' := [(8, .int (nI (10 * e + k2))), (0, .ref x), (1, .int (nI c)), (2, .int (nI e)), (3, .int (nI 1)), (4, .int ty), (5, .int n), (6, .int s), (7, .int rc)]) G dX8_met_12 (by decide) rfl rfl ?_
    refine jv_iload_n (q := 15) G 3 dX8_met_14 rfl rfl rfl ?_
    refine jv_aload_n (q := 16) G 1 dX8_met_15 rfl rfl rfl ?_
    refine jv_getQ (q := 19) G dX8_met_16 fl_X8_68 rfl (hsc.S hS).1 (rf_p22 (hsc.S hS)) rfl ?_
    refine jv_iload_n (q := 20) G 2 dX8_met_19 rfl rfl rfl ?_
    refine jv_iald (q := 21) G dX8_met_20 (rf_a22 (hsc.S hS)) rfl (by omega) (by decide) ((hsc.I2 hS 22 (by decide) rfl (by decide) c).trans hce) rfl ?_
    refine jv_icmp_eqN (q := 24) (tgt := 39) G dX8_met_21 (by decide) rfl (by omega) (by omega) (fun c23 => ?_) (fun c23 => ?_)
    · refine jv_iconst (q := 40) (v := (-1)) G dX8_met_39 (by decide) rfl ?_
      refine jv_istore (q := 42) (lo' := [(9, .int (-1)), (8, .int (nI (10 * e + k2))), (0, .ref x), (1, .int (nI c)), (2, .int (nI e)), (3, .int (nI 1)), (4, .int ty), (5, .int n), (6, .int s), (7, .int rc)]) G dX8_met_40 (by decide) rfl rfl ?_
      refine jv_iload (q := 44) G 0 dX8_met_42 rfl rfl ?_
      refine jv_iconst (q := 45) (v := (-1)) G dX8_met_44 (by decide) rfl ?_
      refine jv_icmp_eq (q := 48) (tgt := 111) G dX8_met_45 (by decide) rfl (fun c24 => ?_) (fun c24 => ?_)
      · refine jv_iload_n (q := 112) G 5 dX8_met_111 rfl rfl rfl ?_
        refine jv_iconst (q := 113) (v := nI 2) G dX8_met_112 (by decide) rfl ?_
        refine jv_icmp_eqN (q := 116) (tgt := 121) G dX8_met_113 (by decide) rfl (by omega) (by omega) (fun c25 => ?_) (fun c25 => ?_)
        · omega
        · refine jv_iload_n (q := 117) G 5 dX8_met_116 rfl rfl rfl ?_
          refine jv_iconst (q := 118) (v := nI 4) G dX8_met_117 (by decide) rfl ?_
          refine jv_icmp_neN (q := 121) (tgt := 125) G dX8_met_118 (by decide) rfl (by omega) (by omega) (fun c26 => ?_) (fun c26 => ?_)
          · refine jv_iconst (q := 126) (v := nI 0) G dX8_met_125 (by decide) rfl ?_
            refine jv_istore (q := 128) (lo' := [(10, .int (nI 0)), (9, .int (-1)), (8, .int (nI (10 * e + k2))), (0, .ref x), (1, .int (nI c)), (2, .int (nI e)), (3, .int (nI 1)), (4, .int ty), (5, .int n), (6, .int s), (7, .int rc)]) G dX8_met_126 (by decide) rfl rfl ?_
            refine jv_iload (q := 130) G 0 dX8_met_128 rfl rfl ?_
            refine jv_if_eqN (q := 133) (tgt := 143) G dX8_met_130 (by decide) rfl (by omega) (fun c27 => ?_) (fun c27 => ?_)
            · refine jv_iconst (q := 144) (v := (-1)) G dX8_met_143 (by decide) rfl ?_
              refine jv_istore (q := 146) (lo' := [(11, .int (-1)), (10, .int (nI 0)), (9, .int (-1)), (8, .int (nI (10 * e + k2))), (0, .ref x), (1, .int (nI c)), (2, .int (nI e)), (3, .int (nI 1)), (4, .int ty), (5, .int n), (6, .int s), (7, .int rc)]) G dX8_met_144 (by decide) rfl rfl ?_
              refine jv_iload (q := 148) G 3 dX8_met_146 rfl rfl ?_
              refine jv_iconst (q := 149) (v := (-1)) G dX8_met_148 (by decide) rfl ?_
              refine jv_icmp_eq (q := 152) (tgt := 163) G dX8_met_149 (by decide) rfl (fun c28 => ?_) (fun c28 => ?_)
              · exact absurd c28 (jv_nI_m1 (by omega))
              · refine jv_iload (q := 154) G 1 dX8_met_152 rfl rfl ?_
                refine jv_if_eqN (q := 157) (tgt := 165) G dX8_met_154 (by decide) rfl (by omega) (fun c29 => ?_) (fun c29 => ?_)
                · refine jv_aload_n (q := 166) G 4 dX8_met_165 rfl rfl rfl ?_
                  refine jv_getQ (q := 169) G dX8_met_166 fl_X8_29 rfl (hsc.S hS).1 (rf_p8 (hsc.S hS)) rfl ?_
                  refine jv_iload (q := 171) G 3 dX8_met_169 rfl rfl ?_
                  refine jv_zald (q := 172) G dX8_met_171 (rf_a8 (hsc.S hS)) rfl (by omega) (by decide) (rt_8 (hsc.T hS Tt3)) rfl ?_
                  refine jv_if_neB (q := 175) (tgt := 193) G dX8_met_172 (by decide) rfl (fun c30 => ?_) (fun c30 => ?_)
                  · refine jv_iload_n (q := 194) G 7 dX8_met_193 rfl rfl rfl ?_
                    refine jv_iconst (q := 195) (v := nI 2) G dX8_met_194 (by decide) rfl ?_
                    refine jv_icmp_neN (q := 198) (tgt := 208) G dX8_met_195 (by decide) rfl (by omega) (by omega) (fun c31 => ?_) (fun c31 => ?_)
                    · refine jv_iload_n (q := 209) G 7 dX8_met_208 rfl rfl rfl ?_
                      refine jv_iconst (q := 210) (v := nI 4) G dX8_met_209 (by decide) rfl ?_
                      refine jv_icmp_neN (q := 213) (tgt := 226) G dX8_met_210 (by decide) rfl (by omega) (by omega) (fun c32 => ?_) (fun c32 => ?_)
                      · refine jv_iload_n (q := 227) G 7 dX8_met_226 rfl rfl rfl ?_
                        refine jv_iconst (q := 228) (v := nI 5) G dX8_met_227 (by decide) rfl ?_
                        refine jv_icmp_neN (q := 231) (tgt := 247) G dX8_met_228 (by decide) rfl (by omega) (by omega) (fun c33 => ?_) (fun c33 => ?_)
                        · refine jv_iload_n (q := 248) G 7 dX8_met_247 rfl rfl rfl ?_
                          refine jv_iconst (q := 249) (v := nI 2) G dX8_met_248 (by decide) rfl ?_
                          refine jv_icmp_geN (q := 252) (tgt := 266) G dX8_met_249 (by decide) rfl (by omega) (by omega) (fun c34 => ?_) (fun c34 => ?_)
                          · omega
                          · refine jv_aload_n (q := 253) G 4 dX8_met_252 rfl rfl rfl ?_
                            refine jv_iload_n (q := 254) G 6 dX8_met_253 rfl rfl rfl ?_
                            refine jv_iload (q := 256) G 3 dX8_met_254 rfl rfl ?_
                            refine jv_iload (q := 258) G 9 dX8_met_256 rfl rfl ?_
                            refine jv_iload (q := 260) G 10 dX8_met_258 rfl rfl ?_
                            refine jv_callV_I (q := 263) (h1 := h1) (As := [.int (nI e), .int (nI (10 * e + k2)), .int n, .int s]) (rest := []) (ce' := 0) (sl' := 0) (r := (ffE e (m_ff ts 11 k2 n s))) G Z ml_X8_173 (r_findField hlt hsc hS he hE 11 k2 (hg k2 (by omega)) (by omega)) (hsc.S hS).1 dX8_met_260 rfl (by decide) (by decide) (by decide) (by decide) (Nat.le_of_ble_eq_true rfl) rfl rfl rfl rfl ?_
                            rcases Option.eq_none_or_eq_some (m_ff ts 11 k2 n s) with hp38 | ⟨p35, hp38⟩
                            · refine jv_topI (y := (-1)) (by rw [hp38]; rfl) ?_
                              refine jv_goto (q := 277) G dX8_met_263 (by decide) ?_
                              refine jv_istore (q := 279) (lo' := [(12, .int (-1)), (11, .int (-1)), (10, .int (nI 0)), (9, .int (-1)), (8, .int (nI (10 * e + k2))), (0, .ref x), (1, .int (nI c)), (2, .int (nI e)), (3, .int (nI 1)), (4, .int ty), (5, .int n), (6, .int s), (7, .int rc)]) G dX8_met_277 (by decide) rfl rfl ?_
                              refine jv_iload (q := 281) G 0 dX8_met_279 rfl rfl ?_
                              refine jv_iconst (q := 282) (v := (-1)) G dX8_met_281 (by decide) rfl ?_
                              refine jv_icmp_ne (q := 285) (tgt := 287) G dX8_met_282 (by decide) rfl (fun c39 => ?_) (fun c39 => ?_)
                              · exact absurd rfl c39
                              · refine jv_iconst (q := 286) (v := nI 2) G dX8_met_285 (by decide) rfl ?_
                                refine jv_iret G hr dX8_met_286 (Nat.le_of_ble_eq_true rfl) (Nat.le_of_ble_eq_true rfl) ?_
                                have hz : (m_met (decide (e = ec)) tsC ts pk su 1 ty n s rc) = (2, none) := by
                                  unfold m_met m_isC m_bd
                                  simp only [*, if_true, if_false, Bool.false_eq_true, reduceIte, Option.map_some, decide_true, decide_false, not_true_eq_false, not_false_eq_true, eq_self, ne_eq, Nat.reduceLT, Nat.lt_irrefl, Nat.reduceEqDiff, and_true, true_and, and_false, false_and, or_true, true_or, or_false, false_or, Bool.or_true, Bool.or_false, Bool.true_or, Bool.false_or, reduceCtorEq] <;> rfl
                                exact ⟨by rw [hz], hrs.tr hsc.rs, by rw [hz]; exact (hsc.x hS 32).trans hran, (hsc.x hS 0).trans hx0, (hsc.I2 hS 22 (by decide) rfl (by decide) c).trans hce, (hsc.I2 hS 23 (by decide) rfl (by decide) c).trans hpk, (hsc.I2 hS 24 (by decide) rfl (by decide) c).trans hsu⟩
                            · refine jv_topI (y := nI (6 * (10 * e + p35.1) + p35.2)) (by rw [hp38]; rfl) ?_
                              obtain ⟨t36, ht36, m37, hm37⟩ := m_ff_mem hp38
                              have Tt36 := (hE.2.2 p35.1 t36 ht36).1
                              have Ot36 := (hE.2.2 p35.1 t36 ht36).2
                              have Lt36 := hE.2.1
                              have lt36 := jv_ltGet ht36
                              have Mm37 := rt_m Tt36 hm37
                              have Om37 := Ot36.2.2.2.2.2.2 m37 (List.mem_of_getElem? hm37)
                              have Lm37 := Ot36.2.2.2.2.2.1
                              have lm37 := jv_ltGet hm37
                              have Bm37n := Om37.1; have Bm37s := Om37.2.1; have Bm37a := Om37.2.2.1; have Bt36n := Ot36.1; have Bt36k := Ot36.2.1
                              refine jv_goto (q := 277) G dX8_met_263 (by decide) ?_
                              refine jv_istore (q := 279) (lo' := [(12, .int (nI (6 * (10 * e + p35.1) + p35.2))), (11, .int (-1)), (10, .int (nI 0)), (9, .int (-1)), (8, .int (nI (10 * e + k2))), (0, .ref x), (1, .int (nI c)), (2, .int (nI e)), (3, .int (nI 1)), (4, .int ty), (5, .int n), (6, .int s), (7, .int rc)]) G dX8_met_277 (by decide) rfl rfl ?_
                              refine jv_iload (q := 281) G 0 dX8_met_279 rfl rfl ?_
                              refine jv_iconst (q := 282) (v := (-1)) G dX8_met_281 (by decide) rfl ?_
                              refine jv_icmp_ne (q := 285) (tgt := 287) G dX8_met_282 (by decide) rfl (fun c40 => ?_) (fun c40 => ?_)
                              · refine jv_aload_n (q := 288) G 5 dX8_met_287 rfl rfl rfl ?_
                                refine jv_iload_n (q := 289) G 6 dX8_met_288 rfl rfl rfl ?_
                                refine jv_iload_n (q := 290) G 7 dX8_met_289 rfl rfl rfl ?_
                                refine jv_iload (q := 292) G 0 dX8_met_290 rfl rfl ?_
                                refine jv_callV_I (q := 295) (h1 := h1) (As := [.int (nI c), .int (nI e), .int (nI (6 * (10 * e + p35.1) + p35.2))]) (rest := []) (ce' := 0) (sl' := 0) (r := jv_bI (m_mr ts pk su t36 m37)) G Z ml_X8_199 (r_mayReach hlt hsc hS hc he hE hV ht36 hm37 hpk hpk5 hsu hsu16) (hsc.S hS).1 dX8_met_292 rfl (by decide) (by decide) (by decide) (by decide) (Nat.le_of_ble_eq_true rfl) rfl rfl rfl rfl ?_
                                refine jv_if_neB (q := 298) (tgt := 300) G dX8_met_295 (by decide) rfl (fun c41 => ?_) (fun c41 => ?_)
                                · refine jv_aload_n (q := 301) G 5 dX8_met_300 rfl rfl rfl ?_
                                  refine jv_getQ (q := 304) G dX8_met_301 fl_X8_56 rfl (hsc.S hS).1 (rf_p17 (hsc.S hS)) rfl ?_
                                  refine jv_iload (q := 306) G 0 dX8_met_304 rfl rfl ?_
                                  refine jv_zald (q := 307) G dX8_met_306 (rf_a17 (hsc.S hS)) rfl (by omega) (by decide) (hsc.M hS Mm37).2.2.2.2.1 rfl ?_
                                  refine jv_iload_n (q := 308) G 8 dX8_met_307 rfl rfl rfl ?_
                                  refine jv_iconst (q := 309) (v := nI 1) G dX8_met_308 (by decide) rfl ?_
                                  refine jv_icmp_eqN (q := 312) (tgt := 317) G dX8_met_309 (by decide) rfl (by omega) (by omega) (fun c42 => ?_) (fun c42 => ?_)
                                  · refine jv_iconst (q := 318) (v := nI 1) G dX8_met_317 (by decide) rfl ?_
                                    refine jv_goto (q := 322) G dX8_met_318 (by decide) ?_
                                    refine jv_topI (y := jv_bI true) rfl ?_
                                    refine jv_icmp_eqB (q := 325) (tgt := 327) G dX8_met_322 (by decide) rfl (fun c43 => ?_) (fun c43 => ?_)
                                    · refine jv_iload (q := 329) G 2 dX8_met_327 rfl rfl ?_
                                      refine jv_if_neN (q := 332) (tgt := 357) G dX8_met_329 (by decide) rfl (by omega) (fun c44 => ?_) (fun c44 => ?_)
                                      · omega
                                      · refine jv_aload_n (q := 333) G 5 dX8_met_332 rfl rfl rfl ?_
                                        refine jv_iload_n (q := 334) G 8 dX8_met_333 rfl rfl rfl ?_
                                        refine jv_iconst (q := 335) (v := nI 3) G dX8_met_334 (by decide) rfl ?_
                                        refine jv_icmp_neN (q := 338) (tgt := 351) G dX8_met_335 (by decide) rfl (by omega) (by omega) (fun c45 => ?_) (fun c45 => ?_)
                                        · refine jv_iconst (q := 352) (v := (-1)) G dX8_met_351 (by decide) rfl ?_
                                          refine jv_putI (q := 355) G dX8_met_352 fl_X8_192 rfl (hsc.S hS).1 rfl ?_
                                          have hr1 : rs x q h1 (jv_wI h1 x 32 (-1)) := rs.rf.wI (-1) (Or.inl ⟨rfl, Or.inr (Or.inl rfl)⟩)
                                          have hran : jv_I (jv_wI h1 x 32 (-1)) x 32 = (-1) := jv_I_self _ _ _ _
                                          have hSb := hsc.S hS
                                          have hE := hr1.E hSb (hsc.E hS hE)
                                          have hV := hr1.V hSb (hsc.V hS hV)
                                          have hEC := hr1.E hSb (hsc.E hS hEC)
                                          have hVC := hr1.V hSb (hsc.V hS hVC)
                                          have hce := (wx_I hSb 22 (by decide) rfl 32 c (-1)).trans ((hsc.I2 hS 22 (by decide) rfl (by decide) c).trans hce)
                                          have hpk := (wx_I hSb 23 (by decide) rfl 32 c (-1)).trans ((hsc.I2 hS 23 (by decide) rfl (by decide) c).trans hpk)
                                          have hsu := (wx_I hSb 24 (by decide) rfl 32 c (-1)).trans ((hsc.I2 hS 24 (by decide) rfl (by decide) c).trans hsu)
                                          have hrs := (hrs.tr hsc.rs).tr hr1
                                          have hx0 : jv_I (jv_wI h1 x 32 (-1)) x 0 = jv_I h x 0 := by rw [jv_I_wI, if_neg (fun z => by cases z.2)] <;> exact (hsc.x hS 0).trans hx0
                                          have hS := hr1.S hSb
                                          generalize jv_wI h1 x 32 (-1) = h46 at hran hx0 hE hV hEC hVC hce hpk hsu hrs hS ⊢
                                          have hsc : sc x q h46 h46 := sc.rf
                                          refine jv_iconst (q := 356) (v := nI 0) G dX8_met_355 (by decide) rfl ?_
                                          refine jv_iret G hr dX8_met_356 (Nat.le_of_ble_eq_true rfl) (Nat.le_of_ble_eq_true rfl) ?_
                                          have hz : (m_met (decide (e = ec)) tsC ts pk su 1 ty n s rc) = (0, none) := by
                                            unfold m_met m_isC m_bd
                                            simp only [*, if_true, if_false, Bool.false_eq_true, reduceIte, Option.map_some, decide_true, decide_false, not_true_eq_false, not_false_eq_true, eq_self, ne_eq, Nat.reduceLT, Nat.lt_irrefl, Nat.reduceEqDiff, and_true, true_and, and_false, false_and, or_true, true_or, or_false, false_or, Bool.or_true, Bool.or_false, Bool.true_or, Bool.false_or, reduceCtorEq] <;> rfl
                                          exact ⟨by rw [hz], hrs.tr hsc.rs, by rw [hz]; exact (hsc.x hS 32).trans hran, (hsc.x hS 0).trans hx0, (hsc.I2 hS 22 (by decide) rfl (by decide) c).trans hce, (hsc.I2 hS 23 (by decide) rfl (by decide) c).trans hpk, (hsc.I2 hS 24 (by decide) rfl (by decide) c).trans hsu⟩
                                        · omega
                                    · refine jv_iconst (q := 326) (v := nI 4) G dX8_met_325 (by decide) rfl ?_
                                      refine jv_iret G hr dX8_met_326 (Nat.le_of_ble_eq_true rfl) (Nat.le_of_ble_eq_true rfl) ?_
                                      have hz : (m_met (decide (e = ec)) tsC ts pk su 1 ty n s rc) = (4, none) := by
                                        unfold m_met m_isC m_bd
                                        simp only [*, if_true, if_false, Bool.false_eq_true, reduceIte, Option.map_some, decide_true, decide_false, not_true_eq_false, not_false_eq_true, eq_self, ne_eq, Nat.reduceLT, Nat.lt_irrefl, Nat.reduceEqDiff, and_true, true_and, and_false, false_and, or_true, true_or, or_false, false_or, Bool.or_true, Bool.or_false, Bool.true_or, Bool.false_or, reduceCtorEq] <;> rfl
                                      exact ⟨by rw [hz], hrs.tr hsc.rs, by rw [hz]; exact (hsc.x hS 32).trans hran, (hsc.x hS 0).trans hx0, (hsc.I2 hS 22 (by decide) rfl (by decide) c).trans hce, (hsc.I2 hS 23 (by decide) rfl (by decide) c).trans hpk, (hsc.I2 hS 24 (by decide) rfl (by decide) c).trans hsu⟩
                                  · omega
                                · refine jv_iconst (q := 299) (v := nI 3) G dX8_met_298 (by decide) rfl ?_
                                  refine jv_iret G hr dX8_met_299 (Nat.le_of_ble_eq_true rfl) (Nat.le_of_ble_eq_true rfl) ?_
                                  have hz : (m_met (decide (e = ec)) tsC ts pk su 1 ty n s rc) = (3, none) := by
                                    unfold m_met m_isC m_bd
                                    simp only [*, if_true, if_false, Bool.false_eq_true, reduceIte, Option.map_some, decide_true, decide_false, not_true_eq_false, not_false_eq_true, eq_self, ne_eq, Nat.reduceLT, Nat.lt_irrefl, Nat.reduceEqDiff, and_true, true_and, and_false, false_and, or_true, true_or, or_false, false_or, Bool.or_true, Bool.or_false, Bool.true_or, Bool.false_or, reduceCtorEq] <;> rfl
                                  exact ⟨by rw [hz], hrs.tr hsc.rs, by rw [hz]; exact (hsc.x hS 32).trans hran, (hsc.x hS 0).trans hx0, (hsc.I2 hS 22 (by decide) rfl (by decide) c).trans hce, (hsc.I2 hS 23 (by decide) rfl (by decide) c).trans hpk, (hsc.I2 hS 24 (by decide) rfl (by decide) c).trans hsu⟩
                              · exact absurd c40 (jv_nI_m1 (by omega))
                        · omega
                      · omega
                    · omega
                  · refine jv_aload_n (q := 176) G 4 dX8_met_175 rfl rfl rfl ?_
                    refine jv_getQ (q := 179) G dX8_met_176 fl_X8_26 rfl (hsc.S hS).1 (rf_p7 (hsc.S hS)) rfl ?_
                    refine jv_iload (q := 181) G 3 dX8_met_179 rfl rfl ?_
                    refine jv_iald (q := 182) G dX8_met_181 (rf_a7 (hsc.S hS)) rfl (by omega) (by decide) (rt_7 (hsc.T hS Tt3)) rfl ?_
                    refine jv_aload_n (q := 183) G 4 dX8_met_182 rfl rfl rfl ?_
                    refine jv_getQ (q := 186) G dX8_met_183 fl_X8_71 rfl (hsc.S hS).1 (rf_p23 (hsc.S hS)) rfl ?_
                    refine jv_iload_n (q := 187) G 5 dX8_met_186 rfl rfl rfl ?_
                    refine jv_iald (q := 188) G dX8_met_187 (rf_a23 (hsc.S hS)) rfl (by omega) (by decide) ((hsc.I2 hS 23 (by decide) rfl (by decide) c).trans hpk) rfl ?_
                    refine jv_icmp_eqN (q := 191) (tgt := 193) G dX8_met_188 (by decide) rfl (by omega) (by omega) (fun c47 => ?_) (fun c47 => ?_)
                    · refine jv_iload_n (q := 194) G 7 dX8_met_193 rfl rfl rfl ?_
                      refine jv_iconst (q := 195) (v := nI 2) G dX8_met_194 (by decide) rfl ?_
                      refine jv_icmp_neN (q := 198) (tgt := 208) G dX8_met_195 (by decide) rfl (by omega) (by omega) (fun c48 => ?_) (fun c48 => ?_)
                      · refine jv_iload_n (q := 209) G 7 dX8_met_208 rfl rfl rfl ?_
                        refine jv_iconst (q := 210) (v := nI 4) G dX8_met_209 (by decide) rfl ?_
                        refine jv_icmp_neN (q := 213) (tgt := 226) G dX8_met_210 (by decide) rfl (by omega) (by omega) (fun c49 => ?_) (fun c49 => ?_)
                        · refine jv_iload_n (q := 227) G 7 dX8_met_226 rfl rfl rfl ?_
                          refine jv_iconst (q := 228) (v := nI 5) G dX8_met_227 (by decide) rfl ?_
                          refine jv_icmp_neN (q := 231) (tgt := 247) G dX8_met_228 (by decide) rfl (by omega) (by omega) (fun c50 => ?_) (fun c50 => ?_)
                          · refine jv_iload_n (q := 248) G 7 dX8_met_247 rfl rfl rfl ?_
                            refine jv_iconst (q := 249) (v := nI 2) G dX8_met_248 (by decide) rfl ?_
                            refine jv_icmp_geN (q := 252) (tgt := 266) G dX8_met_249 (by decide) rfl (by omega) (by omega) (fun c51 => ?_) (fun c51 => ?_)
                            · omega
                            · refine jv_aload_n (q := 253) G 4 dX8_met_252 rfl rfl rfl ?_
                              refine jv_iload_n (q := 254) G 6 dX8_met_253 rfl rfl rfl ?_
                              refine jv_iload (q := 256) G 3 dX8_met_254 rfl rfl ?_
                              refine jv_iload (q := 258) G 9 dX8_met_256 rfl rfl ?_
                              refine jv_iload (q := 260) G 10 dX8_met_258 rfl rfl ?_
                              refine jv_callV_I (q := 263) (h1 := h1) (As := [.int (nI e), .int (nI (10 * e + k2)), .int n, .int s]) (rest := []) (ce' := 0) (sl' := 0) (r := (ffE e (m_ff ts 11 k2 n s))) G Z ml_X8_173 (r_findField hlt hsc hS he hE 11 k2 (hg k2 (by omega)) (by omega)) (hsc.S hS).1 dX8_met_260 rfl (by decide) (by decide) (by decide) (by decide) (Nat.le_of_ble_eq_true rfl) rfl rfl rfl rfl ?_
                              rcases Option.eq_none_or_eq_some (m_ff ts 11 k2 n s) with hp55 | ⟨p52, hp55⟩
                              · refine jv_topI (y := (-1)) (by rw [hp55]; rfl) ?_
                                refine jv_goto (q := 277) G dX8_met_263 (by decide) ?_
                                refine jv_istore (q := 279) (lo' := [(12, .int (-1)), (11, .int (-1)), (10, .int (nI 0)), (9, .int (-1)), (8, .int (nI (10 * e + k2))), (0, .ref x), (1, .int (nI c)), (2, .int (nI e)), (3, .int (nI 1)), (4, .int ty), (5, .int n), (6, .int s), (7, .int rc)]) G dX8_met_277 (by decide) rfl rfl ?_
                                refine jv_iload (q := 281) G 0 dX8_met_279 rfl rfl ?_
                                refine jv_iconst (q := 282) (v := (-1)) G dX8_met_281 (by decide) rfl ?_
                                refine jv_icmp_ne (q := 285) (tgt := 287) G dX8_met_282 (by decide) rfl (fun c56 => ?_) (fun c56 => ?_)
                                · exact absurd rfl c56
                                · refine jv_iconst (q := 286) (v := nI 2) G dX8_met_285 (by decide) rfl ?_
                                  refine jv_iret G hr dX8_met_286 (Nat.le_of_ble_eq_true rfl) (Nat.le_of_ble_eq_true rfl) ?_
                                  have hz : (m_met (decide (e = ec)) tsC ts pk su 1 ty n s rc) = (2, none) := by
                                    unfold m_met m_isC m_bd
                                    simp only [*, if_true, if_false, Bool.false_eq_true, reduceIte, Option.map_some, decide_true, decide_false, not_true_eq_false, not_false_eq_true, eq_self, ne_eq, Nat.reduceLT, Nat.lt_irrefl, Nat.reduceEqDiff, and_true, true_and, and_false, false_and, or_true, true_or, or_false, false_or, Bool.or_true, Bool.or_false, Bool.true_or, Bool.false_or, reduceCtorEq] <;> rfl
                                  exact ⟨by rw [hz], hrs.tr hsc.rs, by rw [hz]; exact (hsc.x hS 32).trans hran, (hsc.x hS 0).trans hx0, (hsc.I2 hS 22 (by decide) rfl (by decide) c).trans hce, (hsc.I2 hS 23 (by decide) rfl (by decide) c).trans hpk, (hsc.I2 hS 24 (by decide) rfl (by decide) c).trans hsu⟩
                              · refine jv_topI (y := nI (6 * (10 * e + p52.1) + p52.2)) (by rw [hp55]; rfl) ?_
                                obtain ⟨t53, ht53, m54, hm54⟩ := m_ff_mem hp55
                                have Tt53 := (hE.2.2 p52.1 t53 ht53).1
                                have Ot53 := (hE.2.2 p52.1 t53 ht53).2
                                have Lt53 := hE.2.1
                                have lt53 := jv_ltGet ht53
                                have Mm54 := rt_m Tt53 hm54
                                have Om54 := Ot53.2.2.2.2.2.2 m54 (List.mem_of_getElem? hm54)
                                have Lm54 := Ot53.2.2.2.2.2.1
                                have lm54 := jv_ltGet hm54
                                have Bm54n := Om54.1; have Bm54s := Om54.2.1; have Bm54a := Om54.2.2.1; have Bt53n := Ot53.1; have Bt53k := Ot53.2.1
                                refine jv_goto (q := 277) G dX8_met_263 (by decide) ?_
                                refine jv_istore (q := 279) (lo' := [(12, .int (nI (6 * (10 * e + p52.1) + p52.2))), (11, .int (-1)), (10, .int (nI 0)), (9, .int (-1)), (8, .int (nI (10 * e + k2))), (0, .ref x), (1, .int (nI c)), (2, .int (nI e)), (3, .int (nI 1)), (4, .int ty), (5, .int n), (6, .int s), (7, .int rc)]) G dX8_met_277 (by decide) rfl rfl ?_
                                refine jv_iload (q := 281) G 0 dX8_met_279 rfl rfl ?_
                                refine jv_iconst (q := 282) (v := (-1)) G dX8_met_281 (by decide) rfl ?_
                                refine jv_icmp_ne (q := 285) (tgt := 287) G dX8_met_282 (by decide) rfl (fun c57 => ?_) (fun c57 => ?_)
                                · refine jv_aload_n (q := 288) G 5 dX8_met_287 rfl rfl rfl ?_
                                  refine jv_iload_n (q := 289) G 6 dX8_met_288 rfl rfl rfl ?_
                                  refine jv_iload_n (q := 290) G 7 dX8_met_289 rfl rfl rfl ?_
                                  refine jv_iload (q := 292) G 0 dX8_met_290 rfl rfl ?_
                                  refine jv_callV_I (q := 295) (h1 := h1) (As := [.int (nI c), .int (nI e), .int (nI (6 * (10 * e + p52.1) + p52.2))]) (rest := []) (ce' := 0) (sl' := 0) (r := jv_bI (m_mr ts pk su t53 m54)) G Z ml_X8_199 (r_mayReach hlt hsc hS hc he hE hV ht53 hm54 hpk hpk5 hsu hsu16) (hsc.S hS).1 dX8_met_292 rfl (by decide) (by decide) (by decide) (by decide) (Nat.le_of_ble_eq_true rfl) rfl rfl rfl rfl ?_
                                  refine jv_if_neB (q := 298) (tgt := 300) G dX8_met_295 (by decide) rfl (fun c58 => ?_) (fun c58 => ?_)
                                  · refine jv_aload_n (q := 301) G 5 dX8_met_300 rfl rfl rfl ?_
                                    refine jv_getQ (q := 304) G dX8_met_301 fl_X8_56 rfl (hsc.S hS).1 (rf_p17 (hsc.S hS)) rfl ?_
                                    refine jv_iload (q := 306) G 0 dX8_met_304 rfl rfl ?_
                                    refine jv_zald (q := 307) G dX8_met_306 (rf_a17 (hsc.S hS)) rfl (by omega) (by decide) (hsc.M hS Mm54).2.2.2.2.1 rfl ?_
                                    refine jv_iload_n (q := 308) G 8 dX8_met_307 rfl rfl rfl ?_
                                    refine jv_iconst (q := 309) (v := nI 1) G dX8_met_308 (by decide) rfl ?_
                                    refine jv_icmp_eqN (q := 312) (tgt := 317) G dX8_met_309 (by decide) rfl (by omega) (by omega) (fun c59 => ?_) (fun c59 => ?_)
                                    · refine jv_iconst (q := 318) (v := nI 1) G dX8_met_317 (by decide) rfl ?_
                                      refine jv_goto (q := 322) G dX8_met_318 (by decide) ?_
                                      refine jv_topI (y := jv_bI true) rfl ?_
                                      refine jv_icmp_eqB (q := 325) (tgt := 327) G dX8_met_322 (by decide) rfl (fun c60 => ?_) (fun c60 => ?_)
                                      · refine jv_iload (q := 329) G 2 dX8_met_327 rfl rfl ?_
                                        refine jv_if_neN (q := 332) (tgt := 357) G dX8_met_329 (by decide) rfl (by omega) (fun c61 => ?_) (fun c61 => ?_)
                                        · omega
                                        · refine jv_aload_n (q := 333) G 5 dX8_met_332 rfl rfl rfl ?_
                                          refine jv_iload_n (q := 334) G 8 dX8_met_333 rfl rfl rfl ?_
                                          refine jv_iconst (q := 335) (v := nI 3) G dX8_met_334 (by decide) rfl ?_
                                          refine jv_icmp_neN (q := 338) (tgt := 351) G dX8_met_335 (by decide) rfl (by omega) (by omega) (fun c62 => ?_) (fun c62 => ?_)
                                          · refine jv_iconst (q := 352) (v := (-1)) G dX8_met_351 (by decide) rfl ?_
                                            refine jv_putI (q := 355) G dX8_met_352 fl_X8_192 rfl (hsc.S hS).1 rfl ?_
                                            have hr1 : rs x q h1 (jv_wI h1 x 32 (-1)) := rs.rf.wI (-1) (Or.inl ⟨rfl, Or.inr (Or.inl rfl)⟩)
                                            have hran : jv_I (jv_wI h1 x 32 (-1)) x 32 = (-1) := jv_I_self _ _ _ _
                                            have hSb := hsc.S hS
                                            have hE := hr1.E hSb (hsc.E hS hE)
                                            have hV := hr1.V hSb (hsc.V hS hV)
                                            have hEC := hr1.E hSb (hsc.E hS hEC)
                                            have hVC := hr1.V hSb (hsc.V hS hVC)
                                            have hce := (wx_I hSb 22 (by decide) rfl 32 c (-1)).trans ((hsc.I2 hS 22 (by decide) rfl (by decide) c).trans hce)
                                            have hpk := (wx_I hSb 23 (by decide) rfl 32 c (-1)).trans ((hsc.I2 hS 23 (by decide) rfl (by decide) c).trans hpk)
                                            have hsu := (wx_I hSb 24 (by decide) rfl 32 c (-1)).trans ((hsc.I2 hS 24 (by decide) rfl (by decide) c).trans hsu)
                                            have hrs := (hrs.tr hsc.rs).tr hr1
                                            have hx0 : jv_I (jv_wI h1 x 32 (-1)) x 0 = jv_I h x 0 := by rw [jv_I_wI, if_neg (fun z => by cases z.2)] <;> exact (hsc.x hS 0).trans hx0
                                            have hS := hr1.S hSb
                                            generalize jv_wI h1 x 32 (-1) = h63 at hran hx0 hE hV hEC hVC hce hpk hsu hrs hS ⊢
                                            have hsc : sc x q h63 h63 := sc.rf
                                            refine jv_iconst (q := 356) (v := nI 0) G dX8_met_355 (by decide) rfl ?_
                                            refine jv_iret G hr dX8_met_356 (Nat.le_of_ble_eq_true rfl) (Nat.le_of_ble_eq_true rfl) ?_
                                            have hz : (m_met (decide (e = ec)) tsC ts pk su 1 ty n s rc) = (0, none) := by
                                              unfold m_met m_isC m_bd
                                              simp only [*, if_true, if_false, Bool.false_eq_true, reduceIte, Option.map_some, decide_true, decide_false, not_true_eq_false, not_false_eq_true, eq_self, ne_eq, Nat.reduceLT, Nat.lt_irrefl, Nat.reduceEqDiff, and_true, true_and, and_false, false_and, or_true, true_or, or_false, false_or, Bool.or_true, Bool.or_false, Bool.true_or, Bool.false_or, reduceCtorEq] <;> rfl
                                            exact ⟨by rw [hz], hrs.tr hsc.rs, by rw [hz]; exact (hsc.x hS 32).trans hran, (hsc.x hS 0).trans hx0, (hsc.I2 hS 22 (by decide) rfl (by decide) c).trans hce, (hsc.I2 hS 23 (by decide) rfl (by decide) c).trans hpk, (hsc.I2 hS 24 (by decide) rfl (by decide) c).trans hsu⟩
                                          · omega
                                      · refine jv_iconst (q := 326) (v := nI 4) G dX8_met_325 (by decide) rfl ?_
                                        refine jv_iret G hr dX8_met_326 (Nat.le_of_ble_eq_true rfl) (Nat.le_of_ble_eq_true rfl) ?_
                                        have hz : (m_met (decide (e = ec)) tsC ts pk su 1 ty n s rc) = (4, none) := by
                                          unfold m_met m_isC m_bd
                                          simp only [*, if_true, if_false, Bool.false_eq_true, reduceIte, Option.map_some, decide_true, decide_false, not_true_eq_false, not_false_eq_true, eq_self, ne_eq, Nat.reduceLT, Nat.lt_irrefl, Nat.reduceEqDiff, and_true, true_and, and_false, false_and, or_true, true_or, or_false, false_or, Bool.or_true, Bool.or_false, Bool.true_or, Bool.false_or, reduceCtorEq] <;> rfl
                                        exact ⟨by rw [hz], hrs.tr hsc.rs, by rw [hz]; exact (hsc.x hS 32).trans hran, (hsc.x hS 0).trans hx0, (hsc.I2 hS 22 (by decide) rfl (by decide) c).trans hce, (hsc.I2 hS 23 (by decide) rfl (by decide) c).trans hpk, (hsc.I2 hS 24 (by decide) rfl (by decide) c).trans hsu⟩
                                    · omega
                                  · refine jv_iconst (q := 299) (v := nI 3) G dX8_met_298 (by decide) rfl ?_
                                    refine jv_iret G hr dX8_met_299 (Nat.le_of_ble_eq_true rfl) (Nat.le_of_ble_eq_true rfl) ?_
                                    have hz : (m_met (decide (e = ec)) tsC ts pk su 1 ty n s rc) = (3, none) := by
                                      unfold m_met m_isC m_bd
                                      simp only [*, if_true, if_false, Bool.false_eq_true, reduceIte, Option.map_some, decide_true, decide_false, not_true_eq_false, not_false_eq_true, eq_self, ne_eq, Nat.reduceLT, Nat.lt_irrefl, Nat.reduceEqDiff, and_true, true_and, and_false, false_and, or_true, true_or, or_false, false_or, Bool.or_true, Bool.or_false, Bool.true_or, Bool.false_or, reduceCtorEq] <;> rfl
                                    exact ⟨by rw [hz], hrs.tr hsc.rs, by rw [hz]; exact (hsc.x hS 32).trans hran, (hsc.x hS 0).trans hx0, (hsc.I2 hS 22 (by decide) rfl (by decide) c).trans hce, (hsc.I2 hS 23 (by decide) rfl (by decide) c).trans hpk, (hsc.I2 hS 24 (by decide) rfl (by decide) c).trans hsu⟩
                                · exact absurd c57 (jv_nI_m1 (by omega))
                          · omega
                        · omega
                      · omega
                    · refine jv_iconst (q := 192) (v := nI 3) G dX8_met_191 (by decide) rfl ?_
                      refine jv_iret G hr dX8_met_192 (Nat.le_of_ble_eq_true rfl) (Nat.le_of_ble_eq_true rfl) ?_
                      have hz : (m_met (decide (e = ec)) tsC ts pk su 1 ty n s rc) = (3, none) := by
                        unfold m_met m_isC m_bd
                        simp only [*, if_true, if_false, Bool.false_eq_true, reduceIte, Option.map_some, decide_true, decide_false, not_true_eq_false, not_false_eq_true, eq_self, ne_eq, Nat.reduceLT, Nat.lt_irrefl, Nat.reduceEqDiff, and_true, true_and, and_false, false_and, or_true, true_or, or_false, false_or, Bool.or_true, Bool.or_false, Bool.true_or, Bool.false_or, reduceCtorEq] <;> rfl
                      exact ⟨by rw [hz], hrs.tr hsc.rs, by rw [hz]; exact (hsc.x hS 32).trans hran, (hsc.x hS 0).trans hx0, (hsc.I2 hS 22 (by decide) rfl (by decide) c).trans hce, (hsc.I2 hS 23 (by decide) rfl (by decide) c).trans hpk, (hsc.I2 hS 24 (by decide) rfl (by decide) c).trans hsu⟩
                · omega
            · omega
          · omega
      · exact absurd rfl c24
    · refine jv_aload_n (q := 25) G 1 dX8_met_24 rfl rfl rfl ?_
      refine jv_iload_n (q := 26) G 2 dX8_met_25 rfl rfl rfl ?_
      refine jv_iload_n (q := 27) G 4 dX8_met_26 rfl rfl rfl ?_
      refine jv_iload (q := 29) G 5 dX8_met_27 rfl rfl ?_
      refine jv_iload (q := 31) G 6 dX8_met_29 rfl rfl ?_
      refine jv_iload (q := 33) G 7 dX8_met_31 rfl rfl ?_
      refine jv_callV_I (q := 36) (h1 := h1) (As := [.int (nI c), .int (nI 1), .int ty, .int n, .int s]) (rest := []) (ce' := 0) (sl' := 0) (r := (ffE ec (m_co tsC 1 ty n s))) G Z ml_X8_195 (r_constantOf hlt hsc hS hc hec hEC hce (by decide) hgC) (hsc.S hS).1 dX8_met_33 rfl (by decide) (by decide) (by decide) (by decide) (Nat.le_of_ble_eq_true rfl) rfl rfl rfl rfl ?_
      rcases Option.eq_none_or_eq_some (m_co tsC 1 ty n s) with hp67 | ⟨p64, hp67⟩
      · refine jv_topI (y := (-1)) (by rw [hp67]; rfl) ?_
        refine jv_goto (q := 40) G dX8_met_36 (by decide) ?_
        refine jv_istore (q := 42) (lo' := [(9, .int (-1)), (8, .int (nI (10 * e + k2))), (0, .ref x), (1, .int (nI c)), (2, .int (nI e)), (3, .int (nI 1)), (4, .int ty), (5, .int n), (6, .int s), (7, .int rc)]) G dX8_met_40 (by decide) rfl rfl ?_
        refine jv_iload (q := 44) G 0 dX8_met_42 rfl rfl ?_
        refine jv_iconst (q := 45) (v := (-1)) G dX8_met_44 (by decide) rfl ?_
        refine jv_icmp_eq (q := 48) (tgt := 111) G dX8_met_45 (by decide) rfl (fun c68 => ?_) (fun c68 => ?_)
        · refine jv_iload_n (q := 112) G 5 dX8_met_111 rfl rfl rfl ?_
          refine jv_iconst (q := 113) (v := nI 2) G dX8_met_112 (by decide) rfl ?_
          refine jv_icmp_eqN (q := 116) (tgt := 121) G dX8_met_113 (by decide) rfl (by omega) (by omega) (fun c69 => ?_) (fun c69 => ?_)
          · omega
          · refine jv_iload_n (q := 117) G 5 dX8_met_116 rfl rfl rfl ?_
            refine jv_iconst (q := 118) (v := nI 4) G dX8_met_117 (by decide) rfl ?_
            refine jv_icmp_neN (q := 121) (tgt := 125) G dX8_met_118 (by decide) rfl (by omega) (by omega) (fun c70 => ?_) (fun c70 => ?_)
            · refine jv_iconst (q := 126) (v := nI 0) G dX8_met_125 (by decide) rfl ?_
              refine jv_istore (q := 128) (lo' := [(10, .int (nI 0)), (9, .int (-1)), (8, .int (nI (10 * e + k2))), (0, .ref x), (1, .int (nI c)), (2, .int (nI e)), (3, .int (nI 1)), (4, .int ty), (5, .int n), (6, .int s), (7, .int rc)]) G dX8_met_126 (by decide) rfl rfl ?_
              refine jv_iload (q := 130) G 0 dX8_met_128 rfl rfl ?_
              refine jv_if_eqN (q := 133) (tgt := 143) G dX8_met_130 (by decide) rfl (by omega) (fun c71 => ?_) (fun c71 => ?_)
              · refine jv_iconst (q := 144) (v := (-1)) G dX8_met_143 (by decide) rfl ?_
                refine jv_istore (q := 146) (lo' := [(11, .int (-1)), (10, .int (nI 0)), (9, .int (-1)), (8, .int (nI (10 * e + k2))), (0, .ref x), (1, .int (nI c)), (2, .int (nI e)), (3, .int (nI 1)), (4, .int ty), (5, .int n), (6, .int s), (7, .int rc)]) G dX8_met_144 (by decide) rfl rfl ?_
                refine jv_iload (q := 148) G 3 dX8_met_146 rfl rfl ?_
                refine jv_iconst (q := 149) (v := (-1)) G dX8_met_148 (by decide) rfl ?_
                refine jv_icmp_eq (q := 152) (tgt := 163) G dX8_met_149 (by decide) rfl (fun c72 => ?_) (fun c72 => ?_)
                · exact absurd c72 (jv_nI_m1 (by omega))
                · refine jv_iload (q := 154) G 1 dX8_met_152 rfl rfl ?_
                  refine jv_if_eqN (q := 157) (tgt := 165) G dX8_met_154 (by decide) rfl (by omega) (fun c73 => ?_) (fun c73 => ?_)
                  · refine jv_aload_n (q := 166) G 4 dX8_met_165 rfl rfl rfl ?_
                    refine jv_getQ (q := 169) G dX8_met_166 fl_X8_29 rfl (hsc.S hS).1 (rf_p8 (hsc.S hS)) rfl ?_
                    refine jv_iload (q := 171) G 3 dX8_met_169 rfl rfl ?_
                    refine jv_zald (q := 172) G dX8_met_171 (rf_a8 (hsc.S hS)) rfl (by omega) (by decide) (rt_8 (hsc.T hS Tt3)) rfl ?_
                    refine jv_if_neB (q := 175) (tgt := 193) G dX8_met_172 (by decide) rfl (fun c74 => ?_) (fun c74 => ?_)
                    · refine jv_iload_n (q := 194) G 7 dX8_met_193 rfl rfl rfl ?_
                      refine jv_iconst (q := 195) (v := nI 2) G dX8_met_194 (by decide) rfl ?_
                      refine jv_icmp_neN (q := 198) (tgt := 208) G dX8_met_195 (by decide) rfl (by omega) (by omega) (fun c75 => ?_) (fun c75 => ?_)
                      · refine jv_iload_n (q := 209) G 7 dX8_met_208 rfl rfl rfl ?_
                        refine jv_iconst (q := 210) (v := nI 4) G dX8_met_209 (by decide) rfl ?_
                        refine jv_icmp_neN (q := 213) (tgt := 226) G dX8_met_210 (by decide) rfl (by omega) (by omega) (fun c76 => ?_) (fun c76 => ?_)
                        · refine jv_iload_n (q := 227) G 7 dX8_met_226 rfl rfl rfl ?_
                          refine jv_iconst (q := 228) (v := nI 5) G dX8_met_227 (by decide) rfl ?_
                          refine jv_icmp_neN (q := 231) (tgt := 247) G dX8_met_228 (by decide) rfl (by omega) (by omega) (fun c77 => ?_) (fun c77 => ?_)
                          · refine jv_iload_n (q := 248) G 7 dX8_met_247 rfl rfl rfl ?_
                            refine jv_iconst (q := 249) (v := nI 2) G dX8_met_248 (by decide) rfl ?_
                            refine jv_icmp_geN (q := 252) (tgt := 266) G dX8_met_249 (by decide) rfl (by omega) (by omega) (fun c78 => ?_) (fun c78 => ?_)
                            · omega
                            · refine jv_aload_n (q := 253) G 4 dX8_met_252 rfl rfl rfl ?_
                              refine jv_iload_n (q := 254) G 6 dX8_met_253 rfl rfl rfl ?_
                              refine jv_iload (q := 256) G 3 dX8_met_254 rfl rfl ?_
                              refine jv_iload (q := 258) G 9 dX8_met_256 rfl rfl ?_
                              refine jv_iload (q := 260) G 10 dX8_met_258 rfl rfl ?_
                              refine jv_callV_I (q := 263) (h1 := h1) (As := [.int (nI e), .int (nI (10 * e + k2)), .int n, .int s]) (rest := []) (ce' := 0) (sl' := 0) (r := (ffE e (m_ff ts 11 k2 n s))) G Z ml_X8_173 (r_findField hlt hsc hS he hE 11 k2 (hg k2 (by omega)) (by omega)) (hsc.S hS).1 dX8_met_260 rfl (by decide) (by decide) (by decide) (by decide) (Nat.le_of_ble_eq_true rfl) rfl rfl rfl rfl ?_
                              rcases Option.eq_none_or_eq_some (m_ff ts 11 k2 n s) with hp82 | ⟨p79, hp82⟩
                              · refine jv_topI (y := (-1)) (by rw [hp82]; rfl) ?_
                                refine jv_goto (q := 277) G dX8_met_263 (by decide) ?_
                                refine jv_istore (q := 279) (lo' := [(12, .int (-1)), (11, .int (-1)), (10, .int (nI 0)), (9, .int (-1)), (8, .int (nI (10 * e + k2))), (0, .ref x), (1, .int (nI c)), (2, .int (nI e)), (3, .int (nI 1)), (4, .int ty), (5, .int n), (6, .int s), (7, .int rc)]) G dX8_met_277 (by decide) rfl rfl ?_
                                refine jv_iload (q := 281) G 0 dX8_met_279 rfl rfl ?_
                                refine jv_iconst (q := 282) (v := (-1)) G dX8_met_281 (by decide) rfl ?_
                                refine jv_icmp_ne (q := 285) (tgt := 287) G dX8_met_282 (by decide) rfl (fun c83 => ?_) (fun c83 => ?_)
                                · exact absurd rfl c83
                                · refine jv_iconst (q := 286) (v := nI 2) G dX8_met_285 (by decide) rfl ?_
                                  refine jv_iret G hr dX8_met_286 (Nat.le_of_ble_eq_true rfl) (Nat.le_of_ble_eq_true rfl) ?_
                                  have hz : (m_met (decide (e = ec)) tsC ts pk su 1 ty n s rc) = (2, none) := by
                                    unfold m_met m_isC m_bd
                                    simp only [*, if_true, if_false, Bool.false_eq_true, reduceIte, Option.map_some, decide_true, decide_false, not_true_eq_false, not_false_eq_true, eq_self, ne_eq, Nat.reduceLT, Nat.lt_irrefl, Nat.reduceEqDiff, and_true, true_and, and_false, false_and, or_true, true_or, or_false, false_or, Bool.or_true, Bool.or_false, Bool.true_or, Bool.false_or, reduceCtorEq] <;> rfl
                                  exact ⟨by rw [hz], hrs.tr hsc.rs, by rw [hz]; exact (hsc.x hS 32).trans hran, (hsc.x hS 0).trans hx0, (hsc.I2 hS 22 (by decide) rfl (by decide) c).trans hce, (hsc.I2 hS 23 (by decide) rfl (by decide) c).trans hpk, (hsc.I2 hS 24 (by decide) rfl (by decide) c).trans hsu⟩
                              · refine jv_topI (y := nI (6 * (10 * e + p79.1) + p79.2)) (by rw [hp82]; rfl) ?_
                                obtain ⟨t80, ht80, m81, hm81⟩ := m_ff_mem hp82
                                have Tt80 := (hE.2.2 p79.1 t80 ht80).1
                                have Ot80 := (hE.2.2 p79.1 t80 ht80).2
                                have Lt80 := hE.2.1
                                have lt80 := jv_ltGet ht80
                                have Mm81 := rt_m Tt80 hm81
                                have Om81 := Ot80.2.2.2.2.2.2 m81 (List.mem_of_getElem? hm81)
                                have Lm81 := Ot80.2.2.2.2.2.1
                                have lm81 := jv_ltGet hm81
                                have Bm81n := Om81.1; have Bm81s := Om81.2.1; have Bm81a := Om81.2.2.1; have Bt80n := Ot80.1; have Bt80k := Ot80.2.1
                                refine jv_goto (q := 277) G dX8_met_263 (by decide) ?_
                                refine jv_istore (q := 279) (lo' := [(12, .int (nI (6 * (10 * e + p79.1) + p79.2))), (11, .int (-1)), (10, .int (nI 0)), (9, .int (-1)), (8, .int (nI (10 * e + k2))), (0, .ref x), (1, .int (nI c)), (2, .int (nI e)), (3, .int (nI 1)), (4, .int ty), (5, .int n), (6, .int s), (7, .int rc)]) G dX8_met_277 (by decide) rfl rfl ?_
                                refine jv_iload (q := 281) G 0 dX8_met_279 rfl rfl ?_
                                refine jv_iconst (q := 282) (v := (-1)) G dX8_met_281 (by decide) rfl ?_
                                refine jv_icmp_ne (q := 285) (tgt := 287) G dX8_met_282 (by decide) rfl (fun c84 => ?_) (fun c84 => ?_)
                                · refine jv_aload_n (q := 288) G 5 dX8_met_287 rfl rfl rfl ?_
                                  refine jv_iload_n (q := 289) G 6 dX8_met_288 rfl rfl rfl ?_
                                  refine jv_iload_n (q := 290) G 7 dX8_met_289 rfl rfl rfl ?_
                                  refine jv_iload (q := 292) G 0 dX8_met_290 rfl rfl ?_
                                  refine jv_callV_I (q := 295) (h1 := h1) (As := [.int (nI c), .int (nI e), .int (nI (6 * (10 * e + p79.1) + p79.2))]) (rest := []) (ce' := 0) (sl' := 0) (r := jv_bI (m_mr ts pk su t80 m81)) G Z ml_X8_199 (r_mayReach hlt hsc hS hc he hE hV ht80 hm81 hpk hpk5 hsu hsu16) (hsc.S hS).1 dX8_met_292 rfl (by decide) (by decide) (by decide) (by decide) (Nat.le_of_ble_eq_true rfl) rfl rfl rfl rfl ?_
                                  refine jv_if_neB (q := 298) (tgt := 300) G dX8_met_295 (by decide) rfl (fun c85 => ?_) (fun c85 => ?_)
                                  · refine jv_aload_n (q := 301) G 5 dX8_met_300 rfl rfl rfl ?_
                                    refine jv_getQ (q := 304) G dX8_met_301 fl_X8_56 rfl (hsc.S hS).1 (rf_p17 (hsc.S hS)) rfl ?_
                                    refine jv_iload (q := 306) G 0 dX8_met_304 rfl rfl ?_
                                    refine jv_zald (q := 307) G dX8_met_306 (rf_a17 (hsc.S hS)) rfl (by omega) (by decide) (hsc.M hS Mm81).2.2.2.2.1 rfl ?_
                                    refine jv_iload_n (q := 308) G 8 dX8_met_307 rfl rfl rfl ?_
                                    refine jv_iconst (q := 309) (v := nI 1) G dX8_met_308 (by decide) rfl ?_
                                    refine jv_icmp_eqN (q := 312) (tgt := 317) G dX8_met_309 (by decide) rfl (by omega) (by omega) (fun c86 => ?_) (fun c86 => ?_)
                                    · refine jv_iconst (q := 318) (v := nI 1) G dX8_met_317 (by decide) rfl ?_
                                      refine jv_goto (q := 322) G dX8_met_318 (by decide) ?_
                                      refine jv_topI (y := jv_bI true) rfl ?_
                                      refine jv_icmp_eqB (q := 325) (tgt := 327) G dX8_met_322 (by decide) rfl (fun c87 => ?_) (fun c87 => ?_)
                                      · refine jv_iload (q := 329) G 2 dX8_met_327 rfl rfl ?_
                                        refine jv_if_neN (q := 332) (tgt := 357) G dX8_met_329 (by decide) rfl (by omega) (fun c88 => ?_) (fun c88 => ?_)
                                        · omega
                                        · refine jv_aload_n (q := 333) G 5 dX8_met_332 rfl rfl rfl ?_
                                          refine jv_iload_n (q := 334) G 8 dX8_met_333 rfl rfl rfl ?_
                                          refine jv_iconst (q := 335) (v := nI 3) G dX8_met_334 (by decide) rfl ?_
                                          refine jv_icmp_neN (q := 338) (tgt := 351) G dX8_met_335 (by decide) rfl (by omega) (by omega) (fun c89 => ?_) (fun c89 => ?_)
                                          · refine jv_iconst (q := 352) (v := (-1)) G dX8_met_351 (by decide) rfl ?_
                                            refine jv_putI (q := 355) G dX8_met_352 fl_X8_192 rfl (hsc.S hS).1 rfl ?_
                                            have hr1 : rs x q h1 (jv_wI h1 x 32 (-1)) := rs.rf.wI (-1) (Or.inl ⟨rfl, Or.inr (Or.inl rfl)⟩)
                                            have hran : jv_I (jv_wI h1 x 32 (-1)) x 32 = (-1) := jv_I_self _ _ _ _
                                            have hSb := hsc.S hS
                                            have hE := hr1.E hSb (hsc.E hS hE)
                                            have hV := hr1.V hSb (hsc.V hS hV)
                                            have hEC := hr1.E hSb (hsc.E hS hEC)
                                            have hVC := hr1.V hSb (hsc.V hS hVC)
                                            have hce := (wx_I hSb 22 (by decide) rfl 32 c (-1)).trans ((hsc.I2 hS 22 (by decide) rfl (by decide) c).trans hce)
                                            have hpk := (wx_I hSb 23 (by decide) rfl 32 c (-1)).trans ((hsc.I2 hS 23 (by decide) rfl (by decide) c).trans hpk)
                                            have hsu := (wx_I hSb 24 (by decide) rfl 32 c (-1)).trans ((hsc.I2 hS 24 (by decide) rfl (by decide) c).trans hsu)
                                            have hrs := (hrs.tr hsc.rs).tr hr1
                                            have hx0 : jv_I (jv_wI h1 x 32 (-1)) x 0 = jv_I h x 0 := by rw [jv_I_wI, if_neg (fun z => by cases z.2)] <;> exact (hsc.x hS 0).trans hx0
                                            have hS := hr1.S hSb
                                            generalize jv_wI h1 x 32 (-1) = h90 at hran hx0 hE hV hEC hVC hce hpk hsu hrs hS ⊢
                                            have hsc : sc x q h90 h90 := sc.rf
                                            refine jv_iconst (q := 356) (v := nI 0) G dX8_met_355 (by decide) rfl ?_
                                            refine jv_iret G hr dX8_met_356 (Nat.le_of_ble_eq_true rfl) (Nat.le_of_ble_eq_true rfl) ?_
                                            have hz : (m_met (decide (e = ec)) tsC ts pk su 1 ty n s rc) = (0, none) := by
                                              unfold m_met m_isC m_bd
                                              simp only [*, if_true, if_false, Bool.false_eq_true, reduceIte, Option.map_some, decide_true, decide_false, not_true_eq_false, not_false_eq_true, eq_self, ne_eq, Nat.reduceLT, Nat.lt_irrefl, Nat.reduceEqDiff, and_true, true_and, and_false, false_and, or_true, true_or, or_false, false_or, Bool.or_true, Bool.or_false, Bool.true_or, Bool.false_or, reduceCtorEq] <;> rfl
                                            exact ⟨by rw [hz], hrs.tr hsc.rs, by rw [hz]; exact (hsc.x hS 32).trans hran, (hsc.x hS 0).trans hx0, (hsc.I2 hS 22 (by decide) rfl (by decide) c).trans hce, (hsc.I2 hS 23 (by decide) rfl (by decide) c).trans hpk, (hsc.I2 hS 24 (by decide) rfl (by decide) c).trans hsu⟩
                                          · omega
                                      · refine jv_iconst (q := 326) (v := nI 4) G dX8_met_325 (by decide) rfl ?_
                                        refine jv_iret G hr dX8_met_326 (Nat.le_of_ble_eq_true rfl) (Nat.le_of_ble_eq_true rfl) ?_
                                        have hz : (m_met (decide (e = ec)) tsC ts pk su 1 ty n s rc) = (4, none) := by
                                          unfold m_met m_isC m_bd
                                          simp only [*, if_true, if_false, Bool.false_eq_true, reduceIte, Option.map_some, decide_true, decide_false, not_true_eq_false, not_false_eq_true, eq_self, ne_eq, Nat.reduceLT, Nat.lt_irrefl, Nat.reduceEqDiff, and_true, true_and, and_false, false_and, or_true, true_or, or_false, false_or, Bool.or_true, Bool.or_false, Bool.true_or, Bool.false_or, reduceCtorEq] <;> rfl
                                        exact ⟨by rw [hz], hrs.tr hsc.rs, by rw [hz]; exact (hsc.x hS 32).trans hran, (hsc.x hS 0).trans hx0, (hsc.I2 hS 22 (by decide) rfl (by decide) c).trans hce, (hsc.I2 hS 23 (by decide) rfl (by decide) c).trans hpk, (hsc.I2 hS 24 (by decide) rfl (by decide) c).trans hsu⟩
                                    · omega
                                  · refine jv_iconst (q := 299) (v := nI 3) G dX8_met_298 (by decide) rfl ?_
                                    refine jv_iret G hr dX8_met_299 (Nat.le_of_ble_eq_true rfl) (Nat.le_of_ble_eq_true rfl) ?_
                                    have hz : (m_met (decide (e = ec)) tsC ts pk su 1 ty n s rc) = (3, none) := by
                                      unfold m_met m_isC m_bd
                                      simp only [*, if_true, if_false, Bool.false_eq_true, reduceIte, Option.map_some, decide_true, decide_false, not_true_eq_false, not_false_eq_true, eq_self, ne_eq, Nat.reduceLT, Nat.lt_irrefl, Nat.reduceEqDiff, and_true, true_and, and_false, false_and, or_true, true_or, or_false, false_or, Bool.or_true, Bool.or_false, Bool.true_or, Bool.false_or, reduceCtorEq] <;> rfl
                                    exact ⟨by rw [hz], hrs.tr hsc.rs, by rw [hz]; exact (hsc.x hS 32).trans hran, (hsc.x hS 0).trans hx0, (hsc.I2 hS 22 (by decide) rfl (by decide) c).trans hce, (hsc.I2 hS 23 (by decide) rfl (by decide) c).trans hpk, (hsc.I2 hS 24 (by decide) rfl (by decide) c).trans hsu⟩
                                · exact absurd c84 (jv_nI_m1 (by omega))
                          · omega
                        · omega
                      · omega
                    · refine jv_aload_n (q := 176) G 4 dX8_met_175 rfl rfl rfl ?_
                      refine jv_getQ (q := 179) G dX8_met_176 fl_X8_26 rfl (hsc.S hS).1 (rf_p7 (hsc.S hS)) rfl ?_
                      refine jv_iload (q := 181) G 3 dX8_met_179 rfl rfl ?_
                      refine jv_iald (q := 182) G dX8_met_181 (rf_a7 (hsc.S hS)) rfl (by omega) (by decide) (rt_7 (hsc.T hS Tt3)) rfl ?_
                      refine jv_aload_n (q := 183) G 4 dX8_met_182 rfl rfl rfl ?_
                      refine jv_getQ (q := 186) G dX8_met_183 fl_X8_71 rfl (hsc.S hS).1 (rf_p23 (hsc.S hS)) rfl ?_
                      refine jv_iload_n (q := 187) G 5 dX8_met_186 rfl rfl rfl ?_
                      refine jv_iald (q := 188) G dX8_met_187 (rf_a23 (hsc.S hS)) rfl (by omega) (by decide) ((hsc.I2 hS 23 (by decide) rfl (by decide) c).trans hpk) rfl ?_
                      refine jv_icmp_eqN (q := 191) (tgt := 193) G dX8_met_188 (by decide) rfl (by omega) (by omega) (fun c91 => ?_) (fun c91 => ?_)
                      · refine jv_iload_n (q := 194) G 7 dX8_met_193 rfl rfl rfl ?_
                        refine jv_iconst (q := 195) (v := nI 2) G dX8_met_194 (by decide) rfl ?_
                        refine jv_icmp_neN (q := 198) (tgt := 208) G dX8_met_195 (by decide) rfl (by omega) (by omega) (fun c92 => ?_) (fun c92 => ?_)
                        · refine jv_iload_n (q := 209) G 7 dX8_met_208 rfl rfl rfl ?_
                          refine jv_iconst (q := 210) (v := nI 4) G dX8_met_209 (by decide) rfl ?_
                          refine jv_icmp_neN (q := 213) (tgt := 226) G dX8_met_210 (by decide) rfl (by omega) (by omega) (fun c93 => ?_) (fun c93 => ?_)
                          · refine jv_iload_n (q := 227) G 7 dX8_met_226 rfl rfl rfl ?_
                            refine jv_iconst (q := 228) (v := nI 5) G dX8_met_227 (by decide) rfl ?_
                            refine jv_icmp_neN (q := 231) (tgt := 247) G dX8_met_228 (by decide) rfl (by omega) (by omega) (fun c94 => ?_) (fun c94 => ?_)
                            · refine jv_iload_n (q := 248) G 7 dX8_met_247 rfl rfl rfl ?_
                              refine jv_iconst (q := 249) (v := nI 2) G dX8_met_248 (by decide) rfl ?_
                              refine jv_icmp_geN (q := 252) (tgt := 266) G dX8_met_249 (by decide) rfl (by omega) (by omega) (fun c95 => ?_) (fun c95 => ?_)
                              · omega
                              · refine jv_aload_n (q := 253) G 4 dX8_met_252 rfl rfl rfl ?_
                                refine jv_iload_n (q := 254) G 6 dX8_met_253 rfl rfl rfl ?_
                                refine jv_iload (q := 256) G 3 dX8_met_254 rfl rfl ?_
                                refine jv_iload (q := 258) G 9 dX8_met_256 rfl rfl ?_
                                refine jv_iload (q := 260) G 10 dX8_met_258 rfl rfl ?_
                                refine jv_callV_I (q := 263) (h1 := h1) (As := [.int (nI e), .int (nI (10 * e + k2)), .int n, .int s]) (rest := []) (ce' := 0) (sl' := 0) (r := (ffE e (m_ff ts 11 k2 n s))) G Z ml_X8_173 (r_findField hlt hsc hS he hE 11 k2 (hg k2 (by omega)) (by omega)) (hsc.S hS).1 dX8_met_260 rfl (by decide) (by decide) (by decide) (by decide) (Nat.le_of_ble_eq_true rfl) rfl rfl rfl rfl ?_
                                rcases Option.eq_none_or_eq_some (m_ff ts 11 k2 n s) with hp99 | ⟨p96, hp99⟩
                                · refine jv_topI (y := (-1)) (by rw [hp99]; rfl) ?_
                                  refine jv_goto (q := 277) G dX8_met_263 (by decide) ?_
                                  refine jv_istore (q := 279) (lo' := [(12, .int (-1)), (11, .int (-1)), (10, .int (nI 0)), (9, .int (-1)), (8, .int (nI (10 * e + k2))), (0, .ref x), (1, .int (nI c)), (2, .int (nI e)), (3, .int (nI 1)), (4, .int ty), (5, .int n), (6, .int s), (7, .int rc)]) G dX8_met_277 (by decide) rfl rfl ?_
                                  refine jv_iload (q := 281) G 0 dX8_met_279 rfl rfl ?_
                                  refine jv_iconst (q := 282) (v := (-1)) G dX8_met_281 (by decide) rfl ?_
                                  refine jv_icmp_ne (q := 285) (tgt := 287) G dX8_met_282 (by decide) rfl (fun c100 => ?_) (fun c100 => ?_)
                                  · exact absurd rfl c100
                                  · refine jv_iconst (q := 286) (v := nI 2) G dX8_met_285 (by decide) rfl ?_
                                    refine jv_iret G hr dX8_met_286 (Nat.le_of_ble_eq_true rfl) (Nat.le_of_ble_eq_true rfl) ?_
                                    have hz : (m_met (decide (e = ec)) tsC ts pk su 1 ty n s rc) = (2, none) := by
                                      unfold m_met m_isC m_bd
                                      simp only [*, if_true, if_false, Bool.false_eq_true, reduceIte, Option.map_some, decide_true, decide_false, not_true_eq_false, not_false_eq_true, eq_self, ne_eq, Nat.reduceLT, Nat.lt_irrefl, Nat.reduceEqDiff, and_true, true_and, and_false, false_and, or_true, true_or, or_false, false_or, Bool.or_true, Bool.or_false, Bool.true_or, Bool.false_or, reduceCtorEq] <;> rfl
                                    exact ⟨by rw [hz], hrs.tr hsc.rs, by rw [hz]; exact (hsc.x hS 32).trans hran, (hsc.x hS 0).trans hx0, (hsc.I2 hS 22 (by decide) rfl (by decide) c).trans hce, (hsc.I2 hS 23 (by decide) rfl (by decide) c).trans hpk, (hsc.I2 hS 24 (by decide) rfl (by decide) c).trans hsu⟩
                                · refine jv_topI (y := nI (6 * (10 * e + p96.1) + p96.2)) (by rw [hp99]; rfl) ?_
                                  obtain ⟨t97, ht97, m98, hm98⟩ := m_ff_mem hp99
                                  have Tt97 := (hE.2.2 p96.1 t97 ht97).1
                                  have Ot97 := (hE.2.2 p96.1 t97 ht97).2
                                  have Lt97 := hE.2.1
                                  have lt97 := jv_ltGet ht97
                                  have Mm98 := rt_m Tt97 hm98
                                  have Om98 := Ot97.2.2.2.2.2.2 m98 (List.mem_of_getElem? hm98)
                                  have Lm98 := Ot97.2.2.2.2.2.1
                                  have lm98 := jv_ltGet hm98
                                  have Bm98n := Om98.1; have Bm98s := Om98.2.1; have Bm98a := Om98.2.2.1; have Bt97n := Ot97.1; have Bt97k := Ot97.2.1
                                  refine jv_goto (q := 277) G dX8_met_263 (by decide) ?_
                                  refine jv_istore (q := 279) (lo' := [(12, .int (nI (6 * (10 * e + p96.1) + p96.2))), (11, .int (-1)), (10, .int (nI 0)), (9, .int (-1)), (8, .int (nI (10 * e + k2))), (0, .ref x), (1, .int (nI c)), (2, .int (nI e)), (3, .int (nI 1)), (4, .int ty), (5, .int n), (6, .int s), (7, .int rc)]) G dX8_met_277 (by decide) rfl rfl ?_
                                  refine jv_iload (q := 281) G 0 dX8_met_279 rfl rfl ?_
                                  refine jv_iconst (q := 282) (v := (-1)) G dX8_met_281 (by decide) rfl ?_
                                  refine jv_icmp_ne (q := 285) (tgt := 287) G dX8_met_282 (by decide) rfl (fun c101 => ?_) (fun c101 => ?_)
                                  · refine jv_aload_n (q := 288) G 5 dX8_met_287 rfl rfl rfl ?_
                                    refine jv_iload_n (q := 289) G 6 dX8_met_288 rfl rfl rfl ?_
                                    refine jv_iload_n (q := 290) G 7 dX8_met_289 rfl rfl rfl ?_
                                    refine jv_iload (q := 292) G 0 dX8_met_290 rfl rfl ?_
                                    refine jv_callV_I (q := 295) (h1 := h1) (As := [.int (nI c), .int (nI e), .int (nI (6 * (10 * e + p96.1) + p96.2))]) (rest := []) (ce' := 0) (sl' := 0) (r := jv_bI (m_mr ts pk su t97 m98)) G Z ml_X8_199 (r_mayReach hlt hsc hS hc he hE hV ht97 hm98 hpk hpk5 hsu hsu16) (hsc.S hS).1 dX8_met_292 rfl (by decide) (by decide) (by decide) (by decide) (Nat.le_of_ble_eq_true rfl) rfl rfl rfl rfl ?_
                                    refine jv_if_neB (q := 298) (tgt := 300) G dX8_met_295 (by decide) rfl (fun c102 => ?_) (fun c102 => ?_)
                                    · refine jv_aload_n (q := 301) G 5 dX8_met_300 rfl rfl rfl ?_
                                      refine jv_getQ (q := 304) G dX8_met_301 fl_X8_56 rfl (hsc.S hS).1 (rf_p17 (hsc.S hS)) rfl ?_
                                      refine jv_iload (q := 306) G 0 dX8_met_304 rfl rfl ?_
                                      refine jv_zald (q := 307) G dX8_met_306 (rf_a17 (hsc.S hS)) rfl (by omega) (by decide) (hsc.M hS Mm98).2.2.2.2.1 rfl ?_
                                      refine jv_iload_n (q := 308) G 8 dX8_met_307 rfl rfl rfl ?_
                                      refine jv_iconst (q := 309) (v := nI 1) G dX8_met_308 (by decide) rfl ?_
                                      refine jv_icmp_eqN (q := 312) (tgt := 317) G dX8_met_309 (by decide) rfl (by omega) (by omega) (fun c103 => ?_) (fun c103 => ?_)
                                      · refine jv_iconst (q := 318) (v := nI 1) G dX8_met_317 (by decide) rfl ?_
                                        refine jv_goto (q := 322) G dX8_met_318 (by decide) ?_
                                        refine jv_topI (y := jv_bI true) rfl ?_
                                        refine jv_icmp_eqB (q := 325) (tgt := 327) G dX8_met_322 (by decide) rfl (fun c104 => ?_) (fun c104 => ?_)
                                        · refine jv_iload (q := 329) G 2 dX8_met_327 rfl rfl ?_
                                          refine jv_if_neN (q := 332) (tgt := 357) G dX8_met_329 (by decide) rfl (by omega) (fun c105 => ?_) (fun c105 => ?_)
                                          · omega
                                          · refine jv_aload_n (q := 333) G 5 dX8_met_332 rfl rfl rfl ?_
                                            refine jv_iload_n (q := 334) G 8 dX8_met_333 rfl rfl rfl ?_
                                            refine jv_iconst (q := 335) (v := nI 3) G dX8_met_334 (by decide) rfl ?_
                                            refine jv_icmp_neN (q := 338) (tgt := 351) G dX8_met_335 (by decide) rfl (by omega) (by omega) (fun c106 => ?_) (fun c106 => ?_)
                                            · refine jv_iconst (q := 352) (v := (-1)) G dX8_met_351 (by decide) rfl ?_
                                              refine jv_putI (q := 355) G dX8_met_352 fl_X8_192 rfl (hsc.S hS).1 rfl ?_
                                              have hr1 : rs x q h1 (jv_wI h1 x 32 (-1)) := rs.rf.wI (-1) (Or.inl ⟨rfl, Or.inr (Or.inl rfl)⟩)
                                              have hran : jv_I (jv_wI h1 x 32 (-1)) x 32 = (-1) := jv_I_self _ _ _ _
                                              have hSb := hsc.S hS
                                              have hE := hr1.E hSb (hsc.E hS hE)
                                              have hV := hr1.V hSb (hsc.V hS hV)
                                              have hEC := hr1.E hSb (hsc.E hS hEC)
                                              have hVC := hr1.V hSb (hsc.V hS hVC)
                                              have hce := (wx_I hSb 22 (by decide) rfl 32 c (-1)).trans ((hsc.I2 hS 22 (by decide) rfl (by decide) c).trans hce)
                                              have hpk := (wx_I hSb 23 (by decide) rfl 32 c (-1)).trans ((hsc.I2 hS 23 (by decide) rfl (by decide) c).trans hpk)
                                              have hsu := (wx_I hSb 24 (by decide) rfl 32 c (-1)).trans ((hsc.I2 hS 24 (by decide) rfl (by decide) c).trans hsu)
                                              have hrs := (hrs.tr hsc.rs).tr hr1
                                              have hx0 : jv_I (jv_wI h1 x 32 (-1)) x 0 = jv_I h x 0 := by rw [jv_I_wI, if_neg (fun z => by cases z.2)] <;> exact (hsc.x hS 0).trans hx0
                                              have hS := hr1.S hSb
                                              generalize jv_wI h1 x 32 (-1) = h107 at hran hx0 hE hV hEC hVC hce hpk hsu hrs hS ⊢
                                              have hsc : sc x q h107 h107 := sc.rf
                                              refine jv_iconst (q := 356) (v := nI 0) G dX8_met_355 (by decide) rfl ?_
                                              refine jv_iret G hr dX8_met_356 (Nat.le_of_ble_eq_true rfl) (Nat.le_of_ble_eq_true rfl) ?_
                                              have hz : (m_met (decide (e = ec)) tsC ts pk su 1 ty n s rc) = (0, none) := by
                                                unfold m_met m_isC m_bd
                                                simp only [*, if_true, if_false, Bool.false_eq_true, reduceIte, Option.map_some, decide_true, decide_false, not_true_eq_false, not_false_eq_true, eq_self, ne_eq, Nat.reduceLT, Nat.lt_irrefl, Nat.reduceEqDiff, and_true, true_and, and_false, false_and, or_true, true_or, or_false, false_or, Bool.or_true, Bool.or_false, Bool.true_or, Bool.false_or, reduceCtorEq] <;> rfl
                                              exact ⟨by rw [hz], hrs.tr hsc.rs, by rw [hz]; exact (hsc.x hS 32).trans hran, (hsc.x hS 0).trans hx0, (hsc.I2 hS 22 (by decide) rfl (by decide) c).trans hce, (hsc.I2 hS 23 (by decide) rfl (by decide) c).trans hpk, (hsc.I2 hS 24 (by decide) rfl (by decide) c).trans hsu⟩
                                            · omega
                                        · refine jv_iconst (q := 326) (v := nI 4) G dX8_met_325 (by decide) rfl ?_
                                          refine jv_iret G hr dX8_met_326 (Nat.le_of_ble_eq_true rfl) (Nat.le_of_ble_eq_true rfl) ?_
                                          have hz : (m_met (decide (e = ec)) tsC ts pk su 1 ty n s rc) = (4, none) := by
                                            unfold m_met m_isC m_bd
                                            simp only [*, if_true, if_false, Bool.false_eq_true, reduceIte, Option.map_some, decide_true, decide_false, not_true_eq_false, not_false_eq_true, eq_self, ne_eq, Nat.reduceLT, Nat.lt_irrefl, Nat.reduceEqDiff, and_true, true_and, and_false, false_and, or_true, true_or, or_false, false_or, Bool.or_true, Bool.or_false, Bool.true_or, Bool.false_or, reduceCtorEq] <;> rfl
                                          exact ⟨by rw [hz], hrs.tr hsc.rs, by rw [hz]; exact (hsc.x hS 32).trans hran, (hsc.x hS 0).trans hx0, (hsc.I2 hS 22 (by decide) rfl (by decide) c).trans hce, (hsc.I2 hS 23 (by decide) rfl (by decide) c).trans hpk, (hsc.I2 hS 24 (by decide) rfl (by decide) c).trans hsu⟩
                                      · omega
                                    · refine jv_iconst (q := 299) (v := nI 3) G dX8_met_298 (by decide) rfl ?_
                                      refine jv_iret G hr dX8_met_299 (Nat.le_of_ble_eq_true rfl) (Nat.le_of_ble_eq_true rfl) ?_
                                      have hz : (m_met (decide (e = ec)) tsC ts pk su 1 ty n s rc) = (3, none) := by
                                        unfold m_met m_isC m_bd
                                        simp only [*, if_true, if_false, Bool.false_eq_true, reduceIte, Option.map_some, decide_true, decide_false, not_true_eq_false, not_false_eq_true, eq_self, ne_eq, Nat.reduceLT, Nat.lt_irrefl, Nat.reduceEqDiff, and_true, true_and, and_false, false_and, or_true, true_or, or_false, false_or, Bool.or_true, Bool.or_false, Bool.true_or, Bool.false_or, reduceCtorEq] <;> rfl
                                      exact ⟨by rw [hz], hrs.tr hsc.rs, by rw [hz]; exact (hsc.x hS 32).trans hran, (hsc.x hS 0).trans hx0, (hsc.I2 hS 22 (by decide) rfl (by decide) c).trans hce, (hsc.I2 hS 23 (by decide) rfl (by decide) c).trans hpk, (hsc.I2 hS 24 (by decide) rfl (by decide) c).trans hsu⟩
                                  · exact absurd c101 (jv_nI_m1 (by omega))
                            · omega
                          · omega
                        · omega
                      · refine jv_iconst (q := 192) (v := nI 3) G dX8_met_191 (by decide) rfl ?_
                        refine jv_iret G hr dX8_met_192 (Nat.le_of_ble_eq_true rfl) (Nat.le_of_ble_eq_true rfl) ?_
                        have hz : (m_met (decide (e = ec)) tsC ts pk su 1 ty n s rc) = (3, none) := by
                          unfold m_met m_isC m_bd
                          simp only [*, if_true, if_false, Bool.false_eq_true, reduceIte, Option.map_some, decide_true, decide_false, not_true_eq_false, not_false_eq_true, eq_self, ne_eq, Nat.reduceLT, Nat.lt_irrefl, Nat.reduceEqDiff, and_true, true_and, and_false, false_and, or_true, true_or, or_false, false_or, Bool.or_true, Bool.or_false, Bool.true_or, Bool.false_or, reduceCtorEq] <;> rfl
                        exact ⟨by rw [hz], hrs.tr hsc.rs, by rw [hz]; exact (hsc.x hS 32).trans hran, (hsc.x hS 0).trans hx0, (hsc.I2 hS 22 (by decide) rfl (by decide) c).trans hce, (hsc.I2 hS 23 (by decide) rfl (by decide) c).trans hpk, (hsc.I2 hS 24 (by decide) rfl (by decide) c).trans hsu⟩
                  · omega
              · omega
            · omega
        · exact absurd rfl c68
      · refine jv_topI (y := nI (6 * (10 * ec + p64.1) + p64.2)) (by rw [hp67]; rfl) ?_
        obtain ⟨t65, ht65, m66, hm66⟩ := m_co_mem hp67
        have Tt65 := (hEC.2.2 p64.1 t65 ht65).1
        have Ot65 := (hEC.2.2 p64.1 t65 ht65).2
        have Lt65 := hEC.2.1
        have lt65 := jv_ltGet ht65
        have Mm66 := rt_m Tt65 hm66
        have Om66 := Ot65.2.2.2.2.2.2 m66 (List.mem_of_getElem? hm66)
        have Lm66 := Ot65.2.2.2.2.2.1
        have lm66 := jv_ltGet hm66
        have Bm66n := Om66.1; have Bm66s := Om66.2.1; have Bm66a := Om66.2.2.1; have Bt65n := Ot65.1; have Bt65k := Ot65.2.1
        refine jv_goto (q := 40) G dX8_met_36 (by decide) ?_
        refine jv_istore (q := 42) (lo' := [(9, .int (nI (6 * (10 * ec + p64.1) + p64.2))), (8, .int (nI (10 * e + k2))), (0, .ref x), (1, .int (nI c)), (2, .int (nI e)), (3, .int (nI 1)), (4, .int ty), (5, .int n), (6, .int s), (7, .int rc)]) G dX8_met_40 (by decide) rfl rfl ?_
        refine jv_iload (q := 44) G 0 dX8_met_42 rfl rfl ?_
        refine jv_iconst (q := 45) (v := (-1)) G dX8_met_44 (by decide) rfl ?_
        refine jv_icmp_eq (q := 48) (tgt := 111) G dX8_met_45 (by decide) rfl (fun c108 => ?_) (fun c108 => ?_)
        · exact absurd c108 (jv_nI_m1 (by omega))
        · refine jv_iload (q := 50) G 1 dX8_met_48 rfl rfl ?_
          refine jv_iconst (q := 51) (v := (-1)) G dX8_met_50 (by decide) rfl ?_
          refine jv_icmp_ne (q := 54) (tgt := 58) G dX8_met_51 (by decide) rfl (fun c109 => ?_) (fun c109 => ?_)
          · refine jv_aload_n (q := 59) G 2 dX8_met_58 rfl rfl rfl ?_
            refine jv_iload_n (q := 60) G 4 dX8_met_59 rfl rfl rfl ?_
            refine jv_iload (q := 62) G 1 dX8_met_60 rfl rfl ?_
            refine jv_iload (q := 64) G 7 dX8_met_62 rfl rfl ?_
            refine jv_iload (q := 66) G 8 dX8_met_64 rfl rfl ?_
            refine jv_callV_I (q := 69) (h1 := h1) (As := [.int (nI e), .int (nI (10 * e + k2)), .int n, .int s]) (rest := []) (ce' := 0) (sl' := 0) (r := (ffE e (m_ff ts 11 k2 n s))) G Z ml_X8_173 (r_findField hlt hsc hS he hE 11 k2 (hg k2 (by omega)) (by omega)) (hsc.S hS).1 dX8_met_66 rfl (by decide) (by decide) (by decide) (by decide) (Nat.le_of_ble_eq_true rfl) rfl rfl rfl rfl ?_
            rcases Option.eq_none_or_eq_some (m_ff ts 11 k2 n s) with hp113 | ⟨p110, hp113⟩
            · refine jv_topI (y := (-1)) (by rw [hp113]; rfl) ?_
              refine jv_istore (q := 71) (lo' := [(10, .int (-1)), (9, .int (nI (6 * (10 * ec + p64.1) + p64.2))), (8, .int (nI (10 * e + k2))), (0, .ref x), (1, .int (nI c)), (2, .int (nI e)), (3, .int (nI 1)), (4, .int ty), (5, .int n), (6, .int s), (7, .int rc)]) G dX8_met_69 (by decide) rfl rfl ?_
              refine jv_iload (q := 73) G 0 dX8_met_71 rfl rfl ?_
              refine jv_iconst (q := 74) (v := (-1)) G dX8_met_73 (by decide) rfl ?_
              refine jv_icmp_eq (q := 77) (tgt := 108) G dX8_met_74 (by decide) rfl (fun c114 => ?_) (fun c114 => ?_)
              · refine jv_bipush (q := 110) (v := nI 9) G dX8_met_108 (by decide) rfl ?_
                refine jv_iret G hr dX8_met_110 (Nat.le_of_ble_eq_true rfl) (Nat.le_of_ble_eq_true rfl) ?_
                have hz : (m_met (decide (e = ec)) tsC ts pk su 1 ty n s rc) = (9, none) := by
                  unfold m_met m_isC m_bd
                  simp only [*, if_true, if_false, Bool.false_eq_true, reduceIte, Option.map_some, decide_true, decide_false, not_true_eq_false, not_false_eq_true, eq_self, ne_eq, Nat.reduceLT, Nat.lt_irrefl, Nat.reduceEqDiff, and_true, true_and, and_false, false_and, or_true, true_or, or_false, false_or, Bool.or_true, Bool.or_false, Bool.true_or, Bool.false_or, reduceCtorEq] <;> rfl
                exact ⟨by rw [hz], hrs.tr hsc.rs, by rw [hz]; exact (hsc.x hS 32).trans hran, (hsc.x hS 0).trans hx0, (hsc.I2 hS 22 (by decide) rfl (by decide) c).trans hce, (hsc.I2 hS 23 (by decide) rfl (by decide) c).trans hpk, (hsc.I2 hS 24 (by decide) rfl (by decide) c).trans hsu⟩
              · exact absurd rfl c114
            · refine jv_topI (y := nI (6 * (10 * e + p110.1) + p110.2)) (by rw [hp113]; rfl) ?_
              obtain ⟨t111, ht111, m112, hm112⟩ := m_ff_mem hp113
              have Tt111 := (hE.2.2 p110.1 t111 ht111).1
              have Ot111 := (hE.2.2 p110.1 t111 ht111).2
              have Lt111 := hE.2.1
              have lt111 := jv_ltGet ht111
              have Mm112 := rt_m Tt111 hm112
              have Om112 := Ot111.2.2.2.2.2.2 m112 (List.mem_of_getElem? hm112)
              have Lm112 := Ot111.2.2.2.2.2.1
              have lm112 := jv_ltGet hm112
              have Bm112n := Om112.1; have Bm112s := Om112.2.1; have Bm112a := Om112.2.2.1; have Bt111n := Ot111.1; have Bt111k := Ot111.2.1
              refine jv_istore (q := 71) (lo' := [(10, .int (nI (6 * (10 * e + p110.1) + p110.2))), (9, .int (nI (6 * (10 * ec + p64.1) + p64.2))), (8, .int (nI (10 * e + k2))), (0, .ref x), (1, .int (nI c)), (2, .int (nI e)), (3, .int (nI 1)), (4, .int ty), (5, .int n), (6, .int s), (7, .int rc)]) G dX8_met_69 (by decide) rfl rfl ?_
              refine jv_iload (q := 73) G 0 dX8_met_71 rfl rfl ?_
              refine jv_iconst (q := 74) (v := (-1)) G dX8_met_73 (by decide) rfl ?_
              refine jv_icmp_eq (q := 77) (tgt := 108) G dX8_met_74 (by decide) rfl (fun c115 => ?_) (fun c115 => ?_)
              · exact absurd c115 (jv_nI_m1 (by omega))
              · refine jv_aload_n (q := 78) G 3 dX8_met_77 rfl rfl rfl ?_
                refine jv_getQ (q := 81) G dX8_met_78 fl_X8_62 rfl (hsc.S hS).1 (rf_p19 (hsc.S hS)) rfl ?_
                refine jv_iload (q := 83) G 0 dX8_met_81 rfl rfl ?_
                refine jv_zald (q := 84) G dX8_met_83 (rf_a19 (hsc.S hS)) rfl (by omega) (by decide) (hsc.M hS Mm112).2.2.2.2.2.2 rfl ?_
                refine jv_if_eqB (q := 87) (tgt := 108) G dX8_met_84 (by decide) rfl (fun c116 => ?_) (fun c116 => ?_)
                · refine jv_bipush (q := 110) (v := nI 9) G dX8_met_108 (by decide) rfl ?_
                  refine jv_iret G hr dX8_met_110 (Nat.le_of_ble_eq_true rfl) (Nat.le_of_ble_eq_true rfl) ?_
                  have hz : (m_met (decide (e = ec)) tsC ts pk su 1 ty n s rc) = (9, none) := by
                    unfold m_met m_isC m_bd
                    simp only [*, if_true, if_false, Bool.false_eq_true, reduceIte, Option.map_some, decide_true, decide_false, not_true_eq_false, not_false_eq_true, eq_self, ne_eq, Nat.reduceLT, Nat.lt_irrefl, Nat.reduceEqDiff, and_true, true_and, and_false, false_and, or_true, true_or, or_false, false_or, Bool.or_true, Bool.or_false, Bool.true_or, Bool.false_or, reduceCtorEq] <;> rfl
                  exact ⟨by rw [hz], hrs.tr hsc.rs, by rw [hz]; exact (hsc.x hS 32).trans hran, (hsc.x hS 0).trans hx0, (hsc.I2 hS 22 (by decide) rfl (by decide) c).trans hce, (hsc.I2 hS 23 (by decide) rfl (by decide) c).trans hpk, (hsc.I2 hS 24 (by decide) rfl (by decide) c).trans hsu⟩
                · refine jv_aload_n (q := 88) G 3 dX8_met_87 rfl rfl rfl ?_
                  refine jv_getQ (q := 91) G dX8_met_88 fl_X8_59 rfl (hsc.S hS).1 (rf_p18 (hsc.S hS)) rfl ?_
                  refine jv_iload (q := 93) G 0 dX8_met_91 rfl rfl ?_
                  refine jv_iald (q := 94) G dX8_met_93 (rf_a18 (hsc.S hS)) rfl (by omega) (by decide) (hsc.M hS Mm112).2.2.2.2.2.1 rfl ?_
                  refine jv_aload_n (q := 95) G 3 dX8_met_94 rfl rfl rfl ?_
                  refine jv_getQ (q := 98) G dX8_met_95 fl_X8_59 rfl (hsc.S hS).1 (rf_p18 (hsc.S hS)) rfl ?_
                  refine jv_iload (q := 100) G 1 dX8_met_98 rfl rfl ?_
                  refine jv_iald (q := 101) G dX8_met_100 (rf_a18 (hsc.S hS)) rfl (by omega) (by decide) (hsc.M hS Mm66).2.2.2.2.2.1 rfl ?_
                  refine jv_icmp_ne (q := 104) (tgt := 108) G dX8_met_101 (by decide) rfl (fun c117 => ?_) (fun c117 => ?_)
                  · refine jv_bipush (q := 110) (v := nI 9) G dX8_met_108 (by decide) rfl ?_
                    refine jv_iret G hr dX8_met_110 (Nat.le_of_ble_eq_true rfl) (Nat.le_of_ble_eq_true rfl) ?_
                    have hz : (m_met (decide (e = ec)) tsC ts pk su 1 ty n s rc) = (9, none) := by
                      unfold m_met m_isC m_bd
                      simp only [*, if_true, if_false, Bool.false_eq_true, reduceIte, Option.map_some, decide_true, decide_false, not_true_eq_false, not_false_eq_true, eq_self, ne_eq, Nat.reduceLT, Nat.lt_irrefl, Nat.reduceEqDiff, and_true, true_and, and_false, false_and, or_true, true_or, or_false, false_or, Bool.or_true, Bool.or_false, Bool.true_or, Bool.false_or, reduceCtorEq] <;> rfl
                    exact ⟨by rw [hz], hrs.tr hsc.rs, by rw [hz]; exact (hsc.x hS 32).trans hran, (hsc.x hS 0).trans hx0, (hsc.I2 hS 22 (by decide) rfl (by decide) c).trans hce, (hsc.I2 hS 23 (by decide) rfl (by decide) c).trans hpk, (hsc.I2 hS 24 (by decide) rfl (by decide) c).trans hsu⟩
                  · refine jv_iconst (q := 105) (v := nI 0) G dX8_met_104 (by decide) rfl ?_
                    refine jv_goto (q := 110) G dX8_met_105 (by decide) ?_
                    refine jv_iret G hr dX8_met_110 (Nat.le_of_ble_eq_true rfl) (Nat.le_of_ble_eq_true rfl) ?_
                    have hz : (m_met (decide (e = ec)) tsC ts pk su 1 ty n s rc) = (0, none) := by
                      unfold m_met m_isC m_bd
                      simp only [*, if_true, if_false, Bool.false_eq_true, reduceIte, Option.map_some, decide_true, decide_false, not_true_eq_false, not_false_eq_true, eq_self, ne_eq, Nat.reduceLT, Nat.lt_irrefl, Nat.reduceEqDiff, and_true, true_and, and_false, false_and, or_true, true_or, or_false, false_or, Bool.or_true, Bool.or_false, Bool.true_or, Bool.false_or, reduceCtorEq] <;> rfl
                    exact ⟨by rw [hz], hrs.tr hsc.rs, by rw [hz]; exact (hsc.x hS 32).trans hran, (hsc.x hS 0).trans hx0, (hsc.I2 hS 22 (by decide) rfl (by decide) c).trans hce, (hsc.I2 hS 23 (by decide) rfl (by decide) c).trans hpk, (hsc.I2 hS 24 (by decide) rfl (by decide) c).trans hsu⟩
          · exact absurd c109 (jv_nI_m1 (by omega))
