theorem m_co_mem {ts : List mT} {kd : Nat} {ty n s : Int32} {p : Nat × Nat} (h : m_co ts kd ty n s = some p) : ∃ t, ts[p.1]? = some t ∧ ∃ m, (mt_m t)[p.2]? = some m := by
  unfold m_co at h
  split at h
  · split at h
    · cases h
    · split at h
      · cases h
      · split at h
        · cases h; rename_i hp _; exact m_ff_mem hp
        · cases h
  · cases h
def m_nm (ts : List mT) (p : Nat × Nat) : Option Nat := (ts[p.1]?).map mt_n
/-- what a use meets (0 well, 1 no type, 2 no member, 3 no access, 4 static, 5 abstract, 6 shape, 8 other, 9 old), and the type whose method ran -/
def m_met (own : Bool) (tsC ts : List mT) (pk : Nat) (su : Option Nat) (kd : Nat) (ty n s rc : Int32) : Nat × Option Nat := match (if own then none else m_co tsC kd ty n s) with
  | some pc => match m_at ts ty with
    | none => (9, none)
    | some k => match m_ff ts 11 k n s with
      | none => (9, none)
      | some p => if m_isC ts p then (if m_bd ts p = m_bd tsC pc then (0, none) else (9, none)) else (9, none)
  | none => match m_at ts ty with
    | none => (1, none)
    | some k => match (if kd = 2 ∨ kd = 4 then m_at ts rc else some 0) with
      | none => (1, none)
      | some kr => match ts[k]? with
        | none => (1, none)
        | some t => if mt_p t = false ∧ ¬ mt_k t = pk then (3, none) else
          if kd = 2 ∧ mt_i t = true then (6, none) else if kd = 4 ∧ mt_i t = false then (6, none) else
          if kd = 5 then (if mt_a t then (5, none) else (0, none)) else
          match (if kd < 2 then m_ff ts 11 k n s else m_fm ts 11 k n s) with
          | none => (2, none)
          | some p => match ts[p.1]? with
            | none => (2, none)
            | some td => match (mt_m td)[p.2]? with
              | none => (2, none)
              | some md => if m_mr ts pk su td md = false then (3, none) else
                if ¬ mm_t md = (decide (kd = 1) || decide (kd = 3)) then (4, none) else
                if ¬ (kd = 2 ∨ kd = 4) then (0, if kd = 3 then some (mt_n td) else none) else
                match ts[kr]? with
                | none => (6, none)
                | some tr => if mt_i tr then (6, none) else if mt_a tr then (6, none) else if ¬ kr = k ∧ m_isA ts ty rc = false then (6, none) else
                  match m_sl ts 11 td md p.1 p.2 kr with
                  | none => (5, none)
                  | some o => match ts[o.1]? with
                    | none => (5, none)
                    | some to => match (mt_m to)[o.2]? with
                      | none => (5, none)
                      | some mo => if mm_b mo < 0 then (5, none) else if kd = 4 ∧ ¬ mm_a mo = 3 then (3, none) else
                        (if own = false ∧ ¬ jv_oN (some (mt_n to)) = jv_oN (m_orn tsC ty n s rc) then 8 else 0, some (mt_n to))
theorem wx_I {x : Nat} {q : Nat → Nat} {h : jv_H} (hS : rf_S x q h) (k : Nat) (hk : k < 42) (hr : rf_arr k = true) (j i : Nat) (v : Int32) : jv_I (jv_wI h x j v) (q k) i = jv_I h (q k) i := by rw [jv_I_wI, if_neg (fun z => rf_x hS hk hr z.1)]
set_option maxHeartbeats 4000000 in
set_option maxRecDepth 100000 in
theorem r_met {lA : Launch} (hlt : lA.stackTraces = false) {D : jv_D} {base : Nat} {x : Nat} {q : Nat → Nat} {h : jv_H} {c e ec kd pk : Nat} {su : Option Nat} {ty n s rc : Int32} {tsC ts : List mT} (hS : rf_S x q h) (hc : c < 13) (he : e < 8) (hec : ec < 8) (hE : rf_E q h e ts) (hV : rf_V q h e ts) (hEC : rf_E q h ec tsC) (hVC : rf_V q h ec tsC) (hce : jv_I h (q 22) c = nI ec) (hpk : jv_I h (q 23) c = nI pk) (hpk5 : pk < 5) (hsu : jv_I h (q 24) c = jv_oN su) (hsu16 : ∀ u, su = some u → u < 16) (hkd : kd < 6) (hg : ∀ k, k < ts.length → m_hg ts 11 k) (hgC : ∀ k, k < tsC.length → m_hg tsC 11 k) : jv_Met lA D base yX8_met (.code yX8_met cX8_met 14 (some .int)) 15 0 0 [.ref x, .int (nI c), .int (nI e), .int (nI kd), .int ty, .int n, .int s, .int rc] h (fun v h' => v = some (.int (nI (m_met (decide (e = ec)) tsC ts pk su kd ty n s rc).1)) ∧ rs x q h h' ∧ jv_I h' x 32 = jv_oN (m_met (decide (e = ec)) tsC ts pk su kd ty n s rc).2) jv_no := by
  refine jv_ofV (lo := [(0, .ref x), (1, .int (nI c)), (2, .int (nI e)), (3, .int (nI kd)), (4, .int ty), (5, .int n), (6, .int s), (7, .int rc)]) hlt (by decide) (Nat.le_of_ble_eq_true rfl) rfl (fun E hEl hEd hEz Z G hr ht hnm => ?_)
  subst hEl; subst hEd; subst hEz
  have hlen := hE.2.1
  have hlenC := hEC.2.1
  have hrs : rs x q h h := rs.rf
  have hsc : sc x q h h := sc.rf
  have hk6 : kd = 0 ∨ kd = 1 ∨ kd = 2 ∨ kd = 3 ∨ kd = 4 ∨ kd = 5 := by omega
  rcases hk6 with rfl | rfl | rfl | rfl | rfl | rfl
  · refine jv_aload_n (q := 1) G 0 dX8_met_0 rfl rfl rfl ?_
    refine jv_iconst (q := 2) (v := (-1)) G dX8_met_1 (by decide) rfl ?_
    refine jv_putI (q := 5) G dX8_met_2 fl_X8_192 rfl (hsc.S hS).1 rfl ?_
    have hr1 : rs x q h (jv_wI h x 32 (-1)) := rs.rf.wI (-1) (Or.inl ⟨rfl, Or.inr (Or.inl rfl)⟩)
    have hran : jv_I (jv_wI h x 32 (-1)) x 32 = (-1) := jv_I_self _ _ _ _
    have hSb := hsc.S hS
    have hE := hr1.E hSb (hsc.E hS hE)
    have hV := hr1.V hSb (hsc.V hS hV)
    have hEC := hr1.E hSb (hsc.E hS hEC)
    have hVC := hr1.V hSb (hsc.V hS hVC)
    have hce := (wx_I hSb 22 (by decide) rfl 32 c (-1)).trans ((hsc.I2 hS 22 (by decide) rfl (by decide) c).trans hce)
    have hpk := (wx_I hSb 23 (by decide) rfl 32 c (-1)).trans ((hsc.I2 hS 23 (by decide) rfl (by decide) c).trans hpk)
    have hsu := (wx_I hSb 24 (by decide) rfl 32 c (-1)).trans ((hsc.I2 hS 24 (by decide) rfl (by decide) c).trans hsu)
    have hrs := (hrs.tr hsc.rs).tr hr1
    have hS := hr1.S hSb
    generalize jv_wI h x 32 (-1) = h1 at hran hE hV hEC hVC hce hpk hsu hrs hS ⊢
    have hsc : sc x q h1 h1 := sc.rf
    refine jv_aload_n (q := 6) G 0 dX8_met_5 rfl rfl rfl ?_
    refine jv_iload_n (q := 7) G 2 dX8_met_6 rfl rfl rfl ?_
    refine jv_iload (q := 9) G 4 dX8_met_7 rfl rfl ?_
    refine jv_callV_I (q := 12) (h1 := h1) (As := [.int (nI e), .int ty]) (rest := []) (ce' := 0) (sl' := 0) (r := jv_oN ((m_at ts ty).map (fun k => 10 * e + k))) G Z ml_X8_151 (r_at hlt (hsc.S hS) he (hsc.E hS hE)) (hsc.S hS).1 dX8_met_9 rfl (by decide) (by decide) (by decide) (by decide) (Nat.le_of_ble_eq_true rfl) rfl rfl rfl rfl ?_
    rcases Option.eq_none_or_eq_some (m_at ts ty) with hk4 | ⟨k2, hk4⟩
    · refine jv_topI (y := (-1)) (by rw [hk4]; rfl) ?_
      refine jv_istore (q := 14) (lo' := [(8, .int (-1)), (0, .ref x), (1, .int (nI c)), (2, .int (nI e)), (3, .int (nI 0)), (4, .int ty), (5, .int n), (6, .int s), (7, .int rc)]) G dX8_met_12 (by decide) rfl rfl ?_
      refine jv_iload_n (q := 15) G 3 dX8_met_14 rfl rfl rfl ?_
      refine jv_aload_n (q := 16) G 1 dX8_met_15 rfl rfl rfl ?_
      refine jv_getQ (q := 19) G dX8_met_16 fl_X8_68 rfl (hsc.S hS).1 (rf_p22 (hsc.S hS)) rfl ?_
      refine jv_iload_n (q := 20) G 2 dX8_met_19 rfl rfl rfl ?_
      refine jv_iald (q := 21) G dX8_met_20 (rf_a22 (hsc.S hS)) rfl (by omega) (by decide) ((hsc.I2 hS 22 (by decide) rfl (by decide) c).trans hce) rfl ?_
      refine jv_icmp_eqN (q := 24) (tgt := 39) G dX8_met_21 (by decide) rfl (by omega) (by omega) (fun c5 => ?_) (fun c5 => ?_)
      · refine jv_iconst (q := 40) (v := (-1)) G dX8_met_39 (by decide) rfl ?_
        refine jv_istore (q := 42) (lo' := [(9, .int (-1)), (8, .int (-1)), (0, .ref x), (1, .int (nI c)), (2, .int (nI e)), (3, .int (nI 0)), (4, .int ty), (5, .int n), (6, .int s), (7, .int rc)]) G dX8_met_40 (by decide) rfl rfl ?_
        refine jv_iload (q := 44) G 0 dX8_met_42 rfl rfl ?_
        refine jv_iconst (q := 45) (v := (-1)) G dX8_met_44 (by decide) rfl ?_
        refine jv_icmp_eq (q := 48) (tgt := 111) G dX8_met_45 (by decide) rfl (fun c6 => ?_) (fun c6 => ?_)
        · refine jv_iload_n (q := 112) G 5 dX8_met_111 rfl rfl rfl ?_
          refine jv_iconst (q := 113) (v := nI 2) G dX8_met_112 (by decide) rfl ?_
          refine jv_icmp_eqN (q := 116) (tgt := 121) G dX8_met_113 (by decide) rfl (by omega) (by omega) (fun c7 => ?_) (fun c7 => ?_)
          · omega
          · refine jv_iload_n (q := 117) G 5 dX8_met_116 rfl rfl rfl ?_
            refine jv_iconst (q := 118) (v := nI 4) G dX8_met_117 (by decide) rfl ?_
            refine jv_icmp_neN (q := 121) (tgt := 125) G dX8_met_118 (by decide) rfl (by omega) (by omega) (fun c8 => ?_) (fun c8 => ?_)
            · refine jv_iconst (q := 126) (v := nI 0) G dX8_met_125 (by decide) rfl ?_
              refine jv_istore (q := 128) (lo' := [(10, .int (nI 0)), (9, .int (-1)), (8, .int (-1)), (0, .ref x), (1, .int (nI c)), (2, .int (nI e)), (3, .int (nI 0)), (4, .int ty), (5, .int n), (6, .int s), (7, .int rc)]) G dX8_met_126 (by decide) rfl rfl ?_
              refine jv_iload (q := 130) G 0 dX8_met_128 rfl rfl ?_
              refine jv_if_eqN (q := 133) (tgt := 143) G dX8_met_130 (by decide) rfl (by omega) (fun c9 => ?_) (fun c9 => ?_)
              · refine jv_iconst (q := 144) (v := (-1)) G dX8_met_143 (by decide) rfl ?_
                refine jv_istore (q := 146) (lo' := [(11, .int (-1)), (10, .int (nI 0)), (9, .int (-1)), (8, .int (-1)), (0, .ref x), (1, .int (nI c)), (2, .int (nI e)), (3, .int (nI 0)), (4, .int ty), (5, .int n), (6, .int s), (7, .int rc)]) G dX8_met_144 (by decide) rfl rfl ?_
                refine jv_iload (q := 148) G 3 dX8_met_146 rfl rfl ?_
                refine jv_iconst (q := 149) (v := (-1)) G dX8_met_148 (by decide) rfl ?_
                refine jv_icmp_eq (q := 152) (tgt := 163) G dX8_met_149 (by decide) rfl (fun c10 => ?_) (fun c10 => ?_)
                · refine jv_iconst (q := 164) (v := nI 1) G dX8_met_163 (by decide) rfl ?_
                  refine jv_iret G hr dX8_met_164 (Nat.le_of_ble_eq_true rfl) (Nat.le_of_ble_eq_true rfl) ?_
                  have hz : (m_met (decide (e = ec)) tsC ts pk su 0 ty n s rc) = (1, none) := by
                    unfold m_met m_isC m_bd
                    simp only [*, if_true, if_false, Bool.false_eq_true, reduceIte, Option.map_some, decide_true, decide_false, not_true_eq_false, not_false_eq_true, and_true, true_and, and_false, false_and, or_true, true_or, or_false, false_or, Bool.or_true, Bool.or_false, Bool.true_or, Bool.false_or, reduceCtorEq] <;> first | rfl | (simp_all; done) | (split <;> simp_all)
                  exact ⟨by rw [hz], hrs.tr hsc.rs, by rw [hz]; exact (hsc.x hS 32).trans hran⟩
                · exact absurd rfl c10
              · omega
            · omega
        · exact absurd rfl c6
      · refine jv_aload_n (q := 25) G 1 dX8_met_24 rfl rfl rfl ?_
        refine jv_iload_n (q := 26) G 2 dX8_met_25 rfl rfl rfl ?_
        refine jv_iload_n (q := 27) G 4 dX8_met_26 rfl rfl rfl ?_
        refine jv_iload (q := 29) G 5 dX8_met_27 rfl rfl ?_
        refine jv_iload (q := 31) G 6 dX8_met_29 rfl rfl ?_
        refine jv_iload (q := 33) G 7 dX8_met_31 rfl rfl ?_
        refine jv_callV_I (q := 36) (h1 := h1) (As := [.int (nI c), .int (nI 0), .int ty, .int n, .int s]) (rest := []) (ce' := 0) (sl' := 0) (r := (ffE ec (m_co tsC 0 ty n s))) G Z ml_X8_195 (r_constantOf hlt hsc hS hc hec hEC hce (by decide) hgC) (hsc.S hS).1 dX8_met_33 rfl (by decide) (by decide) (by decide) (by decide) (Nat.le_of_ble_eq_true rfl) rfl rfl rfl rfl ?_
        refine jv_topI (y := (-1)) rfl ?_
        refine jv_goto (q := 40) G dX8_met_36 (by decide) ?_
        refine jv_istore (q := 42) (lo' := [(9, .int (-1)), (8, .int (-1)), (0, .ref x), (1, .int (nI c)), (2, .int (nI e)), (3, .int (nI 0)), (4, .int ty), (5, .int n), (6, .int s), (7, .int rc)]) G dX8_met_40 (by decide) rfl rfl ?_
        refine jv_iload (q := 44) G 0 dX8_met_42 rfl rfl ?_
        refine jv_iconst (q := 45) (v := (-1)) G dX8_met_44 (by decide) rfl ?_
        refine jv_icmp_eq (q := 48) (tgt := 111) G dX8_met_45 (by decide) rfl (fun c11 => ?_) (fun c11 => ?_)
        · refine jv_iload_n (q := 112) G 5 dX8_met_111 rfl rfl rfl ?_
          refine jv_iconst (q := 113) (v := nI 2) G dX8_met_112 (by decide) rfl ?_
          refine jv_icmp_eqN (q := 116) (tgt := 121) G dX8_met_113 (by decide) rfl (by omega) (by omega) (fun c12 => ?_) (fun c12 => ?_)
          · omega
          · refine jv_iload_n (q := 117) G 5 dX8_met_116 rfl rfl rfl ?_
            refine jv_iconst (q := 118) (v := nI 4) G dX8_met_117 (by decide) rfl ?_
            refine jv_icmp_neN (q := 121) (tgt := 125) G dX8_met_118 (by decide) rfl (by omega) (by omega) (fun c13 => ?_) (fun c13 => ?_)
            · refine jv_iconst (q := 126) (v := nI 0) G dX8_met_125 (by decide) rfl ?_
              refine jv_istore (q := 128) (lo' := [(10, .int (nI 0)), (9, .int (-1)), (8, .int (-1)), (0, .ref x), (1, .int (nI c)), (2, .int (nI e)), (3, .int (nI 0)), (4, .int ty), (5, .int n), (6, .int s), (7, .int rc)]) G dX8_met_126 (by decide) rfl rfl ?_
              refine jv_iload (q := 130) G 0 dX8_met_128 rfl rfl ?_
              refine jv_if_eqN (q := 133) (tgt := 143) G dX8_met_130 (by decide) rfl (by omega) (fun c14 => ?_) (fun c14 => ?_)
              · refine jv_iconst (q := 144) (v := (-1)) G dX8_met_143 (by decide) rfl ?_
                refine jv_istore (q := 146) (lo' := [(11, .int (-1)), (10, .int (nI 0)), (9, .int (-1)), (8, .int (-1)), (0, .ref x), (1, .int (nI c)), (2, .int (nI e)), (3, .int (nI 0)), (4, .int ty), (5, .int n), (6, .int s), (7, .int rc)]) G dX8_met_144 (by decide) rfl rfl ?_
                refine jv_iload (q := 148) G 3 dX8_met_146 rfl rfl ?_
                refine jv_iconst (q := 149) (v := (-1)) G dX8_met_148 (by decide) rfl ?_
                refine jv_icmp_eq (q := 152) (tgt := 163) G dX8_met_149 (by decide) rfl (fun c15 => ?_) (fun c15 => ?_)
                · refine jv_iconst (q := 164) (v := nI 1) G dX8_met_163 (by decide) rfl ?_
                  refine jv_iret G hr dX8_met_164 (Nat.le_of_ble_eq_true rfl) (Nat.le_of_ble_eq_true rfl) ?_
                  have hz : (m_met (decide (e = ec)) tsC ts pk su 0 ty n s rc) = (1, none) := by
                    unfold m_met m_isC m_bd
                    simp only [*, if_true, if_false, Bool.false_eq_true, reduceIte, Option.map_some, decide_true, decide_false, not_true_eq_false, not_false_eq_true, and_true, true_and, and_false, false_and, or_true, true_or, or_false, false_or, Bool.or_true, Bool.or_false, Bool.true_or, Bool.false_or, reduceCtorEq] <;> first | rfl | (simp_all; done) | (split <;> simp_all)
                  exact ⟨by rw [hz], hrs.tr hsc.rs, by rw [hz]; exact (hsc.x hS 32).trans hran⟩
                · exact absurd rfl c15
              · omega
            · omega
        · exact absurd rfl c11
    · refine jv_topI (y := nI (10 * e + k2)) (by rw [hk4]; rfl) ?_
      obtain ⟨t3, ht3, nt3, lt3⟩ := m_at_some hk4
      have Tt3 := (hE.2.2 k2 t3 ht3).1
      have Ot3 := (hE.2.2 k2 t3 ht3).2
      have Lt3 := hE.2.1
      have Bt3n := Ot3.1; have Bt3k := Ot3.2.1
      refine jv_istore (q := 14) (lo' := [(8, .int (nI (10 * e + k2))), (0, .ref x), (1, .int (nI c)), (2, .int (nI e)), (3, .int (nI 0)), (4, .int ty), (5, .int n), (6, .int s), (7, .int rc)]) G dX8_met_12 (by decide) rfl rfl ?_
      refine jv_iload_n (q := 15) G 3 dX8_met_14 rfl rfl rfl ?_
      refine jv_aload_n (q := 16) G 1 dX8_met_15 rfl rfl rfl ?_
      refine jv_getQ (q := 19) G dX8_met_16 fl_X8_68 rfl (hsc.S hS).1 (rf_p22 (hsc.S hS)) rfl ?_
      refine jv_iload_n (q := 20) G 2 dX8_met_19 rfl rfl rfl ?_
      refine jv_iald (q := 21) G dX8_met_20 (rf_a22 (hsc.S hS)) rfl (by omega) (by decide) ((hsc.I2 hS 22 (by decide) rfl (by decide) c).trans hce) rfl ?_
      refine jv_icmp_eqN (q := 24) (tgt := 39) G dX8_met_21 (by decide) rfl (by omega) (by omega) (fun c16 => ?_) (fun c16 => ?_)
      · refine jv_iconst (q := 40) (v := (-1)) G dX8_met_39 (by decide) rfl ?_
        refine jv_istore (q := 42) (lo' := [(9, .int (-1)), (8, .int (nI (10 * e + k2))), (0, .ref x), (1, .int (nI c)), (2, .int (nI e)), (3, .int (nI 0)), (4, .int ty), (5, .int n), (6, .int s), (7, .int rc)]) G dX8_met_40 (by decide) rfl rfl ?_
        refine jv_iload (q := 44) G 0 dX8_met_42 rfl rfl ?_
        refine jv_iconst (q := 45) (v := (-1)) G dX8_met_44 (by decide) rfl ?_
        refine jv_icmp_eq (q := 48) (tgt := 111) G dX8_met_45 (by decide) rfl (fun c17 => ?_) (fun c17 => ?_)
        · refine jv_iload_n (q := 112) G 5 dX8_met_111 rfl rfl rfl ?_
          refine jv_iconst (q := 113) (v := nI 2) G dX8_met_112 (by decide) rfl ?_
          refine jv_icmp_eqN (q := 116) (tgt := 121) G dX8_met_113 (by decide) rfl (by omega) (by omega) (fun c18 => ?_) (fun c18 => ?_)
          · omega
          · refine jv_iload_n (q := 117) G 5 dX8_met_116 rfl rfl rfl ?_
            refine jv_iconst (q := 118) (v := nI 4) G dX8_met_117 (by decide) rfl ?_
            refine jv_icmp_neN (q := 121) (tgt := 125) G dX8_met_118 (by decide) rfl (by omega) (by omega) (fun c19 => ?_) (fun c19 => ?_)
            · refine jv_iconst (q := 126) (v := nI 0) G dX8_met_125 (by decide) rfl ?_
              refine jv_istore (q := 128) (lo' := [(10, .int (nI 0)), (9, .int (-1)), (8, .int (nI (10 * e + k2))), (0, .ref x), (1, .int (nI c)), (2, .int (nI e)), (3, .int (nI 0)), (4, .int ty), (5, .int n), (6, .int s), (7, .int rc)]) G dX8_met_126 (by decide) rfl rfl ?_
              refine jv_iload (q := 130) G 0 dX8_met_128 rfl rfl ?_
              refine jv_if_eqN (q := 133) (tgt := 143) G dX8_met_130 (by decide) rfl (by omega) (fun c20 => ?_) (fun c20 => ?_)
              · refine jv_iconst (q := 144) (v := (-1)) G dX8_met_143 (by decide) rfl ?_
                refine jv_istore (q := 146) (lo' := [(11, .int (-1)), (10, .int (nI 0)), (9, .int (-1)), (8, .int (nI (10 * e + k2))), (0, .ref x), (1, .int (nI c)), (2, .int (nI e)), (3, .int (nI 0)), (4, .int ty), (5, .int n), (6, .int s), (7, .int rc)]) G dX8_met_144 (by decide) rfl rfl ?_
                refine jv_iload (q := 148) G 3 dX8_met_146 rfl rfl ?_
                refine jv_iconst (q := 149) (v := (-1)) G dX8_met_148 (by decide) rfl ?_
                refine jv_icmp_eq (q := 152) (tgt := 163) G dX8_met_149 (by decide) rfl (fun c21 => ?_) (fun c21 => ?_)
                · exact absurd c21 (jv_nI_m1 (by omega))
                · refine jv_iload (q := 154) G 1 dX8_met_152 rfl rfl ?_
                  refine jv_if_eqN (q := 157) (tgt := 165) G dX8_met_154 (by decide) rfl (by omega) (fun c22 => ?_) (fun c22 => ?_)
                  · refine jv_aload_n (q := 166) G 4 dX8_met_165 rfl rfl rfl ?_
                    refine jv_getQ (q := 169) G dX8_met_166 fl_X8_29 rfl (hsc.S hS).1 (rf_p8 (hsc.S hS)) rfl ?_
                    refine jv_iload (q := 171) G 3 dX8_met_169 rfl rfl ?_
                    refine jv_zald (q := 172) G dX8_met_171 (rf_a8 (hsc.S hS)) rfl (by omega) (by decide) (rt_8 (hsc.T hS Tt3)) rfl ?_
                    refine jv_if_neB (q := 175) (tgt := 193) G dX8_met_172 (by decide) rfl (fun c23 => ?_) (fun c23 => ?_)
                    · refine jv_iload_n (q := 194) G 7 dX8_met_193 rfl rfl rfl ?_
                      refine jv_iconst (q := 195) (v := nI 2) G dX8_met_194 (by decide) rfl ?_
                      refine jv_icmp_neN (q := 198) (tgt := 208) G dX8_met_195 (by decide) rfl (by omega) (by omega) (fun c24 => ?_) (fun c24 => ?_)
                      · refine jv_iload_n (q := 209) G 7 dX8_met_208 rfl rfl rfl ?_
                        refine jv_iconst (q := 210) (v := nI 4) G dX8_met_209 (by decide) rfl ?_
                        refine jv_icmp_neN (q := 213) (tgt := 226) G dX8_met_210 (by decide) rfl (by omega) (by omega) (fun c25 => ?_) (fun c25 => ?_)
                        · refine jv_iload_n (q := 227) G 7 dX8_met_226 rfl rfl rfl ?_
                          refine jv_iconst (q := 228) (v := nI 5) G dX8_met_227 (by decide) rfl ?_
                          refine jv_icmp_neN (q := 231) (tgt := 247) G dX8_met_228 (by decide) rfl (by omega) (by omega) (fun c26 => ?_) (fun c26 => ?_)
                          · refine jv_iload_n (q := 248) G 7 dX8_met_247 rfl rfl rfl ?_
                            refine jv_iconst (q := 249) (v := nI 2) G dX8_met_248 (by decide) rfl ?_
                            refine jv_icmp_geN (q := 252) (tgt := 266) G dX8_met_249 (by decide) rfl (by omega) (by omega) (fun c27 => ?_) (fun c27 => ?_)
                            · omega
                            · refine jv_aload_n (q := 253) G 4 dX8_met_252 rfl rfl rfl ?_
                              refine jv_iload_n (q := 254) G 6 dX8_met_253 rfl rfl rfl ?_
                              refine jv_iload (q := 256) G 3 dX8_met_254 rfl rfl ?_
                              refine jv_iload (q := 258) G 9 dX8_met_256 rfl rfl ?_
                              refine jv_iload (q := 260) G 10 dX8_met_258 rfl rfl ?_
                              refine jv_callV_I (q := 263) (h1 := h1) (As := [.int (nI e), .int (nI (10 * e + k2)), .int n, .int s]) (rest := []) (ce' := 0) (sl' := 0) (r := (ffE e (m_ff ts 11 k2 n s))) G Z ml_X8_173 (r_findField hlt hsc hS he hE 11 k2 (hg k2 (by omega)) (by omega)) (hsc.S hS).1 dX8_met_260 rfl (by decide) (by decide) (by decide) (by decide) (Nat.le_of_ble_eq_true rfl) rfl rfl rfl rfl ?_
                              rcases Option.eq_none_or_eq_some (m_ff ts 11 k2 n s) with hp31 | ⟨p28, hp31⟩
                              · refine jv_topI (y := (-1)) (by rw [hp31]; rfl) ?_
                                refine jv_goto (q := 277) G dX8_met_263 (by decide) ?_
                                refine jv_istore (q := 279) (lo' := [(12, .int (-1)), (11, .int (-1)), (10, .int (nI 0)), (9, .int (-1)), (8, .int (nI (10 * e + k2))), (0, .ref x), (1, .int (nI c)), (2, .int (nI e)), (3, .int (nI 0)), (4, .int ty), (5, .int n), (6, .int s), (7, .int rc)]) G dX8_met_277 (by decide) rfl rfl ?_
                                refine jv_iload (q := 281) G 0 dX8_met_279 rfl rfl ?_
                                refine jv_iconst (q := 282) (v := (-1)) G dX8_met_281 (by decide) rfl ?_
                                refine jv_icmp_ne (q := 285) (tgt := 287) G dX8_met_282 (by decide) rfl (fun c32 => ?_) (fun c32 => ?_)
                                · exact absurd rfl c32
                                · refine jv_iconst (q := 286) (v := nI 2) G dX8_met_285 (by decide) rfl ?_
                                  refine jv_iret G hr dX8_met_286 (Nat.le_of_ble_eq_true rfl) (Nat.le_of_ble_eq_true rfl) ?_
                                  have hz : (m_met (decide (e = ec)) tsC ts pk su 0 ty n s rc) = (2, none) := by
                                    unfold m_met m_isC m_bd
                                    simp only [*, if_true, if_false, Bool.false_eq_true, reduceIte, Option.map_some, decide_true, decide_false, not_true_eq_false, not_false_eq_true, and_true, true_and, and_false, false_and, or_true, true_or, or_false, false_or, Bool.or_true, Bool.or_false, Bool.true_or, Bool.false_or, reduceCtorEq] <;> first | rfl | (simp_all; done) | (split <;> simp_all)
                                  exact ⟨by rw [hz], hrs.tr hsc.rs, by rw [hz]; exact (hsc.x hS 32).trans hran⟩
                              · refine jv_topI (y := nI (6 * (10 * e + p28.1) + p28.2)) (by rw [hp31]; rfl) ?_
                                obtain ⟨t29, ht29, m30, hm30⟩ := m_ff_mem hp31
                                have Tt29 := (hE.2.2 p28.1 t29 ht29).1
                                have Ot29 := (hE.2.2 p28.1 t29 ht29).2
                                have Lt29 := hE.2.1
                                have lt29 := jv_ltGet ht29
                                have Mm30 := rt_m Tt29 hm30
                                have Om30 := Ot29.2.2.2.2.2.2 m30 (List.mem_of_getElem? hm30)
                                have Lm30 := Ot29.2.2.2.2.2.1
                                have lm30 := jv_ltGet hm30
                                have Bm30n := Om30.1; have Bm30s := Om30.2.1; have Bm30a := Om30.2.2.1; have Bt29n := Ot29.1; have Bt29k := Ot29.2.1
                                refine jv_goto (q := 277) G dX8_met_263 (by decide) ?_
                                refine jv_istore (q := 279) (lo' := [(12, .int (nI (6 * (10 * e + p28.1) + p28.2))), (11, .int (-1)), (10, .int (nI 0)), (9, .int (-1)), (8, .int (nI (10 * e + k2))), (0, .ref x), (1, .int (nI c)), (2, .int (nI e)), (3, .int (nI 0)), (4, .int ty), (5, .int n), (6, .int s), (7, .int rc)]) G dX8_met_277 (by decide) rfl rfl ?_
                                refine jv_iload (q := 281) G 0 dX8_met_279 rfl rfl ?_
                                refine jv_iconst (q := 282) (v := (-1)) G dX8_met_281 (by decide) rfl ?_
                                refine jv_icmp_ne (q := 285) (tgt := 287) G dX8_met_282 (by decide) rfl (fun c33 => ?_) (fun c33 => ?_)
                                · refine jv_aload_n (q := 288) G 5 dX8_met_287 rfl rfl rfl ?_
                                  refine jv_iload_n (q := 289) G 6 dX8_met_288 rfl rfl rfl ?_
                                  refine jv_iload_n (q := 290) G 7 dX8_met_289 rfl rfl rfl ?_
                                  refine jv_iload (q := 292) G 0 dX8_met_290 rfl rfl ?_
                                  refine jv_callV_I (q := 295) (h1 := h1) (As := [.int (nI c), .int (nI e), .int (nI (6 * (10 * e + p28.1) + p28.2))]) (rest := []) (ce' := 0) (sl' := 0) (r := jv_bI (m_mr ts pk su t29 m30)) G Z ml_X8_199 (r_mayReach hlt hsc hS hc he hE hV ht29 hm30 hpk hpk5 hsu hsu16) (hsc.S hS).1 dX8_met_292 rfl (by decide) (by decide) (by decide) (by decide) (Nat.le_of_ble_eq_true rfl) rfl rfl rfl rfl ?_
                                  refine jv_if_neB (q := 298) (tgt := 300) G dX8_met_295 (by decide) rfl (fun c34 => ?_) (fun c34 => ?_)
                                  · refine jv_aload_n (q := 301) G 5 dX8_met_300 rfl rfl rfl ?_
                                    refine jv_getQ (q := 304) G dX8_met_301 fl_X8_56 rfl (hsc.S hS).1 (rf_p17 (hsc.S hS)) rfl ?_
                                    refine jv_iload (q := 306) G 0 dX8_met_304 rfl rfl ?_
                                    refine jv_zald (q := 307) G dX8_met_306 (rf_a17 (hsc.S hS)) rfl (by omega) (by decide) (hsc.M hS Mm30).2.2.2.2.1 rfl ?_
                                    refine jv_iload_n (q := 308) G 8 dX8_met_307 rfl rfl rfl ?_
                                    refine jv_iconst (q := 309) (v := nI 1) G dX8_met_308 (by decide) rfl ?_
                                    refine jv_icmp_eqN (q := 312) (tgt := 317) G dX8_met_309 (by decide) rfl (by omega) (by omega) (fun c35 => ?_) (fun c35 => ?_)
                                    · omega
                                    · refine jv_iload_n (q := 313) G 8 dX8_met_312 rfl rfl rfl ?_
                                      refine jv_iconst (q := 314) (v := nI 3) G dX8_met_313 (by decide) rfl ?_
                                      refine jv_icmp_neN (q := 317) (tgt := 321) G dX8_met_314 (by decide) rfl (by omega) (by omega) (fun c36 => ?_) (fun c36 => ?_)
                                      · refine jv_iconst (q := 322) (v := nI 0) G dX8_met_321 (by decide) rfl ?_
                                        refine jv_icmp_eq (q := 325) (tgt := 327) G dX8_met_322 (by decide) rfl (fun c37 => ?_) (fun c37 => ?_)
                                        · refine jv_iload (q := 329) G 2 dX8_met_327 rfl rfl ?_
                                          refine jv_if_neN (q := 332) (tgt := 357) G dX8_met_329 (by decide) rfl (by omega) (fun c38 => ?_) (fun c38 => ?_)
                                          · omega
                                          · refine jv_aload_n (q := 333) G 5 dX8_met_332 rfl rfl rfl ?_
                                            refine jv_iload_n (q := 334) G 8 dX8_met_333 rfl rfl rfl ?_
                                            refine jv_iconst (q := 335) (v := nI 3) G dX8_met_334 (by decide) rfl ?_
                                            refine jv_icmp_neN (q := 338) (tgt := 351) G dX8_met_335 (by decide) rfl (by omega) (by omega) (fun c39 => ?_) (fun c39 => ?_)
                                            · refine jv_iconst (q := 352) (v := (-1)) G dX8_met_351 (by decide) rfl ?_
                                              refine jv_putI (q := 355) G dX8_met_352 fl_X8_192 rfl (hsc.S hS).1 rfl ?_
                                              have hr1 : rs x q h1 (jv_wI h1 x 32 (-1)) := rs.rf.wI (-1) (Or.inl ⟨rfl, Or.inr (Or.inl rfl)⟩)
                                              have hran : jv_I (jv_wI h1 x 32 (-1)) x 32 = (-1) := jv_I_self _ _ _ _
                                              have hSb := hsc.S hS
                                              have hE := hr1.E hSb (hsc.E hS hE)
                                              have hV := hr1.V hSb (hsc.V hS hV)
                                              have hEC := hr1.E hSb (hsc.E hS hEC)
                                              have hVC := hr1.V hSb (hsc.V hS hVC)
                                              have hce := (wx_I hSb 22 (by decide) rfl 32 c (-1)).trans ((hsc.I2 hS 22 (by decide) rfl (by decide) c).trans hce)
                                              have hpk := (wx_I hSb 23 (by decide) rfl 32 c (-1)).trans ((hsc.I2 hS 23 (by decide) rfl (by decide) c).trans hpk)
                                              have hsu := (wx_I hSb 24 (by decide) rfl 32 c (-1)).trans ((hsc.I2 hS 24 (by decide) rfl (by decide) c).trans hsu)
                                              have hrs := (hrs.tr hsc.rs).tr hr1
                                              have hS := hr1.S hSb
                                              generalize jv_wI h1 x 32 (-1) = h40 at hran hE hV hEC hVC hce hpk hsu hrs hS ⊢
                                              have hsc : sc x q h40 h40 := sc.rf
                                              refine jv_iconst (q := 356) (v := nI 0) G dX8_met_355 (by decide) rfl ?_
                                              refine jv_iret G hr dX8_met_356 (Nat.le_of_ble_eq_true rfl) (Nat.le_of_ble_eq_true rfl) ?_
                                              have hz : (m_met (decide (e = ec)) tsC ts pk su 0 ty n s rc) = (0, none) := by
                                                unfold m_met m_isC m_bd
                                                simp only [*, if_true, if_false, Bool.false_eq_true, reduceIte, Option.map_some, decide_true, decide_false, not_true_eq_false, not_false_eq_true, and_true, true_and, and_false, false_and, or_true, true_or, or_false, false_or, Bool.or_true, Bool.or_false, Bool.true_or, Bool.false_or, reduceCtorEq] <;> first | rfl | (simp_all; done) | (split <;> simp_all)
                                              exact ⟨by rw [hz], hrs.tr hsc.rs, by rw [hz]; exact (hsc.x hS 32).trans hran⟩
                                            · omega
                                        · refine jv_iconst (q := 326) (v := nI 4) G dX8_met_325 (by decide) rfl ?_
                                          refine jv_iret G hr dX8_met_326 (Nat.le_of_ble_eq_true rfl) (Nat.le_of_ble_eq_true rfl) ?_
                                          have hz : (m_met (decide (e = ec)) tsC ts pk su 0 ty n s rc) = (4, none) := by
                                            unfold m_met m_isC m_bd
                                            simp only [*, if_true, if_false, Bool.false_eq_true, reduceIte, Option.map_some, decide_true, decide_false, not_true_eq_false, not_false_eq_true, and_true, true_and, and_false, false_and, or_true, true_or, or_false, false_or, Bool.or_true, Bool.or_false, Bool.true_or, Bool.false_or, reduceCtorEq] <;> first | rfl | (simp_all; done) | (split <;> simp_all)
                                          exact ⟨by rw [hz], hrs.tr hsc.rs, by rw [hz]; exact (hsc.x hS 32).trans hran⟩
                                      · omega
                                  · refine jv_iconst (q := 299) (v := nI 3) G dX8_met_298 (by decide) rfl ?_
                                    refine jv_iret G hr dX8_met_299 (Nat.le_of_ble_eq_true rfl) (Nat.le_of_ble_eq_true rfl) ?_
                                    have hz : (m_met (decide (e = ec)) tsC ts pk su 0 ty n s rc) = (3, none) := by
                                      unfold m_met m_isC m_bd
                                      simp only [*, if_true, if_false, Bool.false_eq_true, reduceIte, Option.map_some, decide_true, decide_false, not_true_eq_false, not_false_eq_true, and_true, true_and, and_false, false_and, or_true, true_or, or_false, false_or, Bool.or_true, Bool.or_false, Bool.true_or, Bool.false_or, reduceCtorEq] <;> first | rfl | (simp_all; done) | (split <;> simp_all)
                                    exact ⟨by rw [hz], hrs.tr hsc.rs, by rw [hz]; exact (hsc.x hS 32).trans hran⟩
                                · exact absurd c33 (jv_nI_m1 (by omega))
                          · omega
                        · omega
                      · omega
                    · refine jv_aload_n (q := 176) G 4 dX8_met_175 rfl rfl rfl ?_
                      refine jv_getQ (q := 179) G dX8_met_176 fl_X8_26 rfl (hsc.S hS).1 (rf_p7 (hsc.S hS)) rfl ?_
                      refine jv_iload (q := 181) G 3 dX8_met_179 rfl rfl ?_
                      refine jv_iald (q := 182) G dX8_met_181 (rf_a7 (hsc.S hS)) rfl (by omega) (by decide) (rt_7 (hsc.T hS Tt3)) rfl ?_
                      refine jv_aload_n (q := 183) G 4 dX8_met_182 rfl rfl rfl ?_
                      refine jv_getQ (q := 186) G dX8_met_183 fl_X8_71 rfl (hsc.S hS).1 (rf_p23 (hsc.S hS)) rfl ?_
                      refine jv_iload_n (q := 187) G 5 dX8_met_186 rfl rfl rfl ?_
                      refine jv_iald (q := 188) G dX8_met_187 (rf_a23 (hsc.S hS)) rfl (by omega) (by decide) rfl rfl ?_
                      refine jv_icmp_eq (q := 191) (tgt := 193) G dX8_met_188 (by decide) rfl (fun c41 => ?_) (fun c41 => ?_)
                      · refine jv_iload_n (q := 194) G 7 dX8_met_193 rfl rfl rfl ?_
                        refine jv_iconst (q := 195) (v := nI 2) G dX8_met_194 (by decide) rfl ?_
                        refine jv_icmp_neN (q := 198) (tgt := 208) G dX8_met_195 (by decide) rfl (by omega) (by omega) (fun c42 => ?_) (fun c42 => ?_)
                        · refine jv_iload_n (q := 209) G 7 dX8_met_208 rfl rfl rfl ?_
                          refine jv_iconst (q := 210) (v := nI 4) G dX8_met_209 (by decide) rfl ?_
                          refine jv_icmp_neN (q := 213) (tgt := 226) G dX8_met_210 (by decide) rfl (by omega) (by omega) (fun c43 => ?_) (fun c43 => ?_)
                          · refine jv_iload_n (q := 227) G 7 dX8_met_226 rfl rfl rfl ?_
                            refine jv_iconst (q := 228) (v := nI 5) G dX8_met_227 (by decide) rfl ?_
                            refine jv_icmp_neN (q := 231) (tgt := 247) G dX8_met_228 (by decide) rfl (by omega) (by omega) (fun c44 => ?_) (fun c44 => ?_)
                            · refine jv_iload_n (q := 248) G 7 dX8_met_247 rfl rfl rfl ?_
                              refine jv_iconst (q := 249) (v := nI 2) G dX8_met_248 (by decide) rfl ?_
                              refine jv_icmp_geN (q := 252) (tgt := 266) G dX8_met_249 (by decide) rfl (by omega) (by omega) (fun c45 => ?_) (fun c45 => ?_)
                              · omega
                              · refine jv_aload_n (q := 253) G 4 dX8_met_252 rfl rfl rfl ?_
                                refine jv_iload_n (q := 254) G 6 dX8_met_253 rfl rfl rfl ?_
                                refine jv_iload (q := 256) G 3 dX8_met_254 rfl rfl ?_
                                refine jv_iload (q := 258) G 9 dX8_met_256 rfl rfl ?_
                                refine jv_iload (q := 260) G 10 dX8_met_258 rfl rfl ?_
                                refine jv_callV_I (q := 263) (h1 := h1) (As := [.int (nI e), .int (nI (10 * e + k2)), .int n, .int s]) (rest := []) (ce' := 0) (sl' := 0) (r := (ffE e (m_ff ts 11 k2 n s))) G Z ml_X8_173 (r_findField hlt hsc hS he hE 11 k2 (hg k2 (by omega)) (by omega)) (hsc.S hS).1 dX8_met_260 rfl (by decide) (by decide) (by decide) (by decide) (Nat.le_of_ble_eq_true rfl) rfl rfl rfl rfl ?_
                                rcases Option.eq_none_or_eq_some (m_ff ts 11 k2 n s) with hp49 | ⟨p46, hp49⟩
                                · refine jv_topI (y := (-1)) (by rw [hp49]; rfl) ?_
                                  refine jv_goto (q := 277) G dX8_met_263 (by decide) ?_
                                  refine jv_istore (q := 279) (lo' := [(12, .int (-1)), (11, .int (-1)), (10, .int (nI 0)), (9, .int (-1)), (8, .int (nI (10 * e + k2))), (0, .ref x), (1, .int (nI c)), (2, .int (nI e)), (3, .int (nI 0)), (4, .int ty), (5, .int n), (6, .int s), (7, .int rc)]) G dX8_met_277 (by decide) rfl rfl ?_
                                  refine jv_iload (q := 281) G 0 dX8_met_279 rfl rfl ?_
                                  refine jv_iconst (q := 282) (v := (-1)) G dX8_met_281 (by decide) rfl ?_
                                  refine jv_icmp_ne (q := 285) (tgt := 287) G dX8_met_282 (by decide) rfl (fun c50 => ?_) (fun c50 => ?_)
                                  · exact absurd rfl c50
                                  · refine jv_iconst (q := 286) (v := nI 2) G dX8_met_285 (by decide) rfl ?_
                                    refine jv_iret G hr dX8_met_286 (Nat.le_of_ble_eq_true rfl) (Nat.le_of_ble_eq_true rfl) ?_
                                    have hz : (m_met (decide (e = ec)) tsC ts pk su 0 ty n s rc) = (2, none) := by
                                      unfold m_met m_isC m_bd
                                      simp only [*, if_true, if_false, Bool.false_eq_true, reduceIte, Option.map_some, decide_true, decide_false, not_true_eq_false, not_false_eq_true, and_true, true_and, and_false, false_and, or_true, true_or, or_false, false_or, Bool.or_true, Bool.or_false, Bool.true_or, Bool.false_or, reduceCtorEq] <;> first | rfl | (simp_all; done) | (split <;> simp_all)
                                    exact ⟨by rw [hz], hrs.tr hsc.rs, by rw [hz]; exact (hsc.x hS 32).trans hran⟩
                                · refine jv_topI (y := nI (6 * (10 * e + p46.1) + p46.2)) (by rw [hp49]; rfl) ?_
                                  obtain ⟨t47, ht47, m48, hm48⟩ := m_ff_mem hp49
                                  have Tt47 := (hE.2.2 p46.1 t47 ht47).1
                                  have Ot47 := (hE.2.2 p46.1 t47 ht47).2
                                  have Lt47 := hE.2.1
                                  have lt47 := jv_ltGet ht47
                                  have Mm48 := rt_m Tt47 hm48
                                  have Om48 := Ot47.2.2.2.2.2.2 m48 (List.mem_of_getElem? hm48)
                                  have Lm48 := Ot47.2.2.2.2.2.1
                                  have lm48 := jv_ltGet hm48
                                  have Bm48n := Om48.1; have Bm48s := Om48.2.1; have Bm48a := Om48.2.2.1; have Bt47n := Ot47.1; have Bt47k := Ot47.2.1
                                  refine jv_goto (q := 277) G dX8_met_263 (by decide) ?_
                                  refine jv_istore (q := 279) (lo' := [(12, .int (nI (6 * (10 * e + p46.1) + p46.2))), (11, .int (-1)), (10, .int (nI 0)), (9, .int (-1)), (8, .int (nI (10 * e + k2))), (0, .ref x), (1, .int (nI c)), (2, .int (nI e)), (3, .int (nI 0)), (4, .int ty), (5, .int n), (6, .int s), (7, .int rc)]) G dX8_met_277 (by decide) rfl rfl ?_
                                  refine jv_iload (q := 281) G 0 dX8_met_279 rfl rfl ?_
                                  refine jv_iconst (q := 282) (v := (-1)) G dX8_met_281 (by decide) rfl ?_
                                  refine jv_icmp_ne (q := 285) (tgt := 287) G dX8_met_282 (by decide) rfl (fun c51 => ?_) (fun c51 => ?_)
                                  · refine jv_aload_n (q := 288) G 5 dX8_met_287 rfl rfl rfl ?_
                                    refine jv_iload_n (q := 289) G 6 dX8_met_288 rfl rfl rfl ?_
                                    refine jv_iload_n (q := 290) G 7 dX8_met_289 rfl rfl rfl ?_
                                    refine jv_iload (q := 292) G 0 dX8_met_290 rfl rfl ?_
                                    refine jv_callV_I (q := 295) (h1 := h1) (As := [.int (nI c), .int (nI e), .int (nI (6 * (10 * e + p46.1) + p46.2))]) (rest := []) (ce' := 0) (sl' := 0) (r := jv_bI (m_mr ts pk su t47 m48)) G Z ml_X8_199 (r_mayReach hlt hsc hS hc he hE hV ht47 hm48 hpk hpk5 hsu hsu16) (hsc.S hS).1 dX8_met_292 rfl (by decide) (by decide) (by decide) (by decide) (Nat.le_of_ble_eq_true rfl) rfl rfl rfl rfl ?_
                                    refine jv_if_neB (q := 298) (tgt := 300) G dX8_met_295 (by decide) rfl (fun c52 => ?_) (fun c52 => ?_)
                                    · refine jv_aload_n (q := 301) G 5 dX8_met_300 rfl rfl rfl ?_
                                      refine jv_getQ (q := 304) G dX8_met_301 fl_X8_56 rfl (hsc.S hS).1 (rf_p17 (hsc.S hS)) rfl ?_
                                      refine jv_iload (q := 306) G 0 dX8_met_304 rfl rfl ?_
                                      refine jv_zald (q := 307) G dX8_met_306 (rf_a17 (hsc.S hS)) rfl (by omega) (by decide) (hsc.M hS Mm48).2.2.2.2.1 rfl ?_
                                      refine jv_iload_n (q := 308) G 8 dX8_met_307 rfl rfl rfl ?_
                                      refine jv_iconst (q := 309) (v := nI 1) G dX8_met_308 (by decide) rfl ?_
                                      refine jv_icmp_eqN (q := 312) (tgt := 317) G dX8_met_309 (by decide) rfl (by omega) (by omega) (fun c53 => ?_) (fun c53 => ?_)
                                      · omega
                                      · refine jv_iload_n (q := 313) G 8 dX8_met_312 rfl rfl rfl ?_
                                        refine jv_iconst (q := 314) (v := nI 3) G dX8_met_313 (by decide) rfl ?_
                                        refine jv_icmp_neN (q := 317) (tgt := 321) G dX8_met_314 (by decide) rfl (by omega) (by omega) (fun c54 => ?_) (fun c54 => ?_)
                                        · refine jv_iconst (q := 322) (v := nI 0) G dX8_met_321 (by decide) rfl ?_
                                          refine jv_icmp_eq (q := 325) (tgt := 327) G dX8_met_322 (by decide) rfl (fun c55 => ?_) (fun c55 => ?_)
                                          · refine jv_iload (q := 329) G 2 dX8_met_327 rfl rfl ?_
                                            refine jv_if_neN (q := 332) (tgt := 357) G dX8_met_329 (by decide) rfl (by omega) (fun c56 => ?_) (fun c56 => ?_)
                                            · omega
                                            · refine jv_aload_n (q := 333) G 5 dX8_met_332 rfl rfl rfl ?_
                                              refine jv_iload_n (q := 334) G 8 dX8_met_333 rfl rfl rfl ?_
                                              refine jv_iconst (q := 335) (v := nI 3) G dX8_met_334 (by decide) rfl ?_
                                              refine jv_icmp_neN (q := 338) (tgt := 351) G dX8_met_335 (by decide) rfl (by omega) (by omega) (fun c57 => ?_) (fun c57 => ?_)
                                              · refine jv_iconst (q := 352) (v := (-1)) G dX8_met_351 (by decide) rfl ?_
                                                refine jv_putI (q := 355) G dX8_met_352 fl_X8_192 rfl (hsc.S hS).1 rfl ?_
                                                have hr1 : rs x q h1 (jv_wI h1 x 32 (-1)) := rs.rf.wI (-1) (Or.inl ⟨rfl, Or.inr (Or.inl rfl)⟩)
                                                have hran : jv_I (jv_wI h1 x 32 (-1)) x 32 = (-1) := jv_I_self _ _ _ _
                                                have hSb := hsc.S hS
                                                have hE := hr1.E hSb (hsc.E hS hE)
                                                have hV := hr1.V hSb (hsc.V hS hV)
                                                have hEC := hr1.E hSb (hsc.E hS hEC)
                                                have hVC := hr1.V hSb (hsc.V hS hVC)
                                                have hce := (wx_I hSb 22 (by decide) rfl 32 c (-1)).trans ((hsc.I2 hS 22 (by decide) rfl (by decide) c).trans hce)
                                                have hpk := (wx_I hSb 23 (by decide) rfl 32 c (-1)).trans ((hsc.I2 hS 23 (by decide) rfl (by decide) c).trans hpk)
                                                have hsu := (wx_I hSb 24 (by decide) rfl 32 c (-1)).trans ((hsc.I2 hS 24 (by decide) rfl (by decide) c).trans hsu)
                                                have hrs := (hrs.tr hsc.rs).tr hr1
                                                have hS := hr1.S hSb
                                                generalize jv_wI h1 x 32 (-1) = h58 at hran hE hV hEC hVC hce hpk hsu hrs hS ⊢
                                                have hsc : sc x q h58 h58 := sc.rf
                                                refine jv_iconst (q := 356) (v := nI 0) G dX8_met_355 (by decide) rfl ?_
                                                refine jv_iret G hr dX8_met_356 (Nat.le_of_ble_eq_true rfl) (Nat.le_of_ble_eq_true rfl) ?_
                                                have hz : (m_met (decide (e = ec)) tsC ts pk su 0 ty n s rc) = (0, none) := by
                                                  unfold m_met m_isC m_bd
                                                  simp only [*, if_true, if_false, Bool.false_eq_true, reduceIte, Option.map_some, decide_true, decide_false, not_true_eq_false, not_false_eq_true, and_true, true_and, and_false, false_and, or_true, true_or, or_false, false_or, Bool.or_true, Bool.or_false, Bool.true_or, Bool.false_or, reduceCtorEq] <;> first | rfl | (simp_all; done) | (split <;> simp_all)
                                                exact ⟨by rw [hz], hrs.tr hsc.rs, by rw [hz]; exact (hsc.x hS 32).trans hran⟩
                                              · omega
                                          · refine jv_iconst (q := 326) (v := nI 4) G dX8_met_325 (by decide) rfl ?_
                                            refine jv_iret G hr dX8_met_326 (Nat.le_of_ble_eq_true rfl) (Nat.le_of_ble_eq_true rfl) ?_
                                            have hz : (m_met (decide (e = ec)) tsC ts pk su 0 ty n s rc) = (4, none) := by
                                              unfold m_met m_isC m_bd
                                              simp only [*, if_true, if_false, Bool.false_eq_true, reduceIte, Option.map_some, decide_true, decide_false, not_true_eq_false, not_false_eq_true, and_true, true_and, and_false, false_and, or_true, true_or, or_false, false_or, Bool.or_true, Bool.or_false, Bool.true_or, Bool.false_or, reduceCtorEq] <;> first | rfl | (simp_all; done) | (split <;> simp_all)
                                            exact ⟨by rw [hz], hrs.tr hsc.rs, by rw [hz]; exact (hsc.x hS 32).trans hran⟩
                                        · omega
                                    · refine jv_iconst (q := 299) (v := nI 3) G dX8_met_298 (by decide) rfl ?_
                                      refine jv_iret G hr dX8_met_299 (Nat.le_of_ble_eq_true rfl) (Nat.le_of_ble_eq_true rfl) ?_
                                      have hz : (m_met (decide (e = ec)) tsC ts pk su 0 ty n s rc) = (3, none) := by
                                        unfold m_met m_isC m_bd
                                        simp only [*, if_true, if_false, Bool.false_eq_true, reduceIte, Option.map_some, decide_true, decide_false, not_true_eq_false, not_false_eq_true, and_true, true_and, and_false, false_and, or_true, true_or, or_false, false_or, Bool.or_true, Bool.or_false, Bool.true_or, Bool.false_or, reduceCtorEq] <;> first | rfl | (simp_all; done) | (split <;> simp_all)
                                      exact ⟨by rw [hz], hrs.tr hsc.rs, by rw [hz]; exact (hsc.x hS 32).trans hran⟩
                                  · exact absurd c51 (jv_nI_m1 (by omega))
                            · omega
                          · omega
                        · omega
                      · refine jv_iconst (q := 192) (v := nI 3) G dX8_met_191 (by decide) rfl ?_
                        refine jv_iret G hr dX8_met_192 (Nat.le_of_ble_eq_true rfl) (Nat.le_of_ble_eq_true rfl) ?_
                        have hz : (m_met (decide (e = ec)) tsC ts pk su 0 ty n s rc) = (3, none) := by
                          unfold m_met m_isC m_bd
                          simp only [*, if_true, if_false, Bool.false_eq_true, reduceIte, Option.map_some, decide_true, decide_false, not_true_eq_false, not_false_eq_true, and_true, true_and, and_false, false_and, or_true, true_or, or_false, false_or, Bool.or_true, Bool.or_false, Bool.true_or, Bool.false_or, reduceCtorEq] <;> first | rfl | (simp_all; done) | (split <;> simp_all)
                        exact ⟨by rw [hz], hrs.tr hsc.rs, by rw [hz]; exact (hsc.x hS 32).trans hran⟩
                  · omega
              · omega
            · omega
        · exact absurd rfl c17
      · refine jv_aload_n (q := 25) G 1 dX8_met_24 rfl rfl rfl ?_
        refine jv_iload_n (q := 26) G 2 dX8_met_25 rfl rfl rfl ?_
        refine jv_iload_n (q := 27) G 4 dX8_met_26 rfl rfl rfl ?_
        refine jv_iload (q := 29) G 5 dX8_met_27 rfl rfl ?_
        refine jv_iload (q := 31) G 6 dX8_met_29 rfl rfl ?_
        refine jv_iload (q := 33) G 7 dX8_met_31 rfl rfl ?_
        refine jv_callV_I (q := 36) (h1 := h1) (As := [.int (nI c), .int (nI 0), .int ty, .int n, .int s]) (rest := []) (ce' := 0) (sl' := 0) (r := (ffE ec (m_co tsC 0 ty n s))) G Z ml_X8_195 (r_constantOf hlt hsc hS hc hec hEC hce (by decide) hgC) (hsc.S hS).1 dX8_met_33 rfl (by decide) (by decide) (by decide) (by decide) (Nat.le_of_ble_eq_true rfl) rfl rfl rfl rfl ?_
        refine jv_topI (y := (-1)) rfl ?_
        refine jv_goto (q := 40) G dX8_met_36 (by decide) ?_
        refine jv_istore (q := 42) (lo' := [(9, .int (-1)), (8, .int (nI (10 * e + k2))), (0, .ref x), (1, .int (nI c)), (2, .int (nI e)), (3, .int (nI 0)), (4, .int ty), (5, .int n), (6, .int s), (7, .int rc)]) G dX8_met_40 (by decide) rfl rfl ?_
        refine jv_iload (q := 44) G 0 dX8_met_42 rfl rfl ?_
        refine jv_iconst (q := 45) (v := (-1)) G dX8_met_44 (by decide) rfl ?_
        refine jv_icmp_eq (q := 48) (tgt := 111) G dX8_met_45 (by decide) rfl (fun c59 => ?_) (fun c59 => ?_)
        · refine jv_iload_n (q := 112) G 5 dX8_met_111 rfl rfl rfl ?_
          refine jv_iconst (q := 113) (v := nI 2) G dX8_met_112 (by decide) rfl ?_
          refine jv_icmp_eqN (q := 116) (tgt := 121) G dX8_met_113 (by decide) rfl (by omega) (by omega) (fun c60 => ?_) (fun c60 => ?_)
          · omega
          · refine jv_iload_n (q := 117) G 5 dX8_met_116 rfl rfl rfl ?_
            refine jv_iconst (q := 118) (v := nI 4) G dX8_met_117 (by decide) rfl ?_
            refine jv_icmp_neN (q := 121) (tgt := 125) G dX8_met_118 (by decide) rfl (by omega) (by omega) (fun c61 => ?_) (fun c61 => ?_)
            · refine jv_iconst (q := 126) (v := nI 0) G dX8_met_125 (by decide) rfl ?_
              refine jv_istore (q := 128) (lo' := [(10, .int (nI 0)), (9, .int (-1)), (8, .int (nI (10 * e + k2))), (0, .ref x), (1, .int (nI c)), (2, .int (nI e)), (3, .int (nI 0)), (4, .int ty), (5, .int n), (6, .int s), (7, .int rc)]) G dX8_met_126 (by decide) rfl rfl ?_
              refine jv_iload (q := 130) G 0 dX8_met_128 rfl rfl ?_
              refine jv_if_eqN (q := 133) (tgt := 143) G dX8_met_130 (by decide) rfl (by omega) (fun c62 => ?_) (fun c62 => ?_)
              · refine jv_iconst (q := 144) (v := (-1)) G dX8_met_143 (by decide) rfl ?_
                refine jv_istore (q := 146) (lo' := [(11, .int (-1)), (10, .int (nI 0)), (9, .int (-1)), (8, .int (nI (10 * e + k2))), (0, .ref x), (1, .int (nI c)), (2, .int (nI e)), (3, .int (nI 0)), (4, .int ty), (5, .int n), (6, .int s), (7, .int rc)]) G dX8_met_144 (by decide) rfl rfl ?_
                refine jv_iload (q := 148) G 3 dX8_met_146 rfl rfl ?_
                refine jv_iconst (q := 149) (v := (-1)) G dX8_met_148 (by decide) rfl ?_
                refine jv_icmp_eq (q := 152) (tgt := 163) G dX8_met_149 (by decide) rfl (fun c63 => ?_) (fun c63 => ?_)
                · exact absurd c63 (jv_nI_m1 (by omega))
                · refine jv_iload (q := 154) G 1 dX8_met_152 rfl rfl ?_
                  refine jv_if_eqN (q := 157) (tgt := 165) G dX8_met_154 (by decide) rfl (by omega) (fun c64 => ?_) (fun c64 => ?_)
                  · refine jv_aload_n (q := 166) G 4 dX8_met_165 rfl rfl rfl ?_
                    refine jv_getQ (q := 169) G dX8_met_166 fl_X8_29 rfl (hsc.S hS).1 (rf_p8 (hsc.S hS)) rfl ?_
                    refine jv_iload (q := 171) G 3 dX8_met_169 rfl rfl ?_
                    refine jv_zald (q := 172) G dX8_met_171 (rf_a8 (hsc.S hS)) rfl (by omega) (by decide) (rt_8 (hsc.T hS Tt3)) rfl ?_
                    refine jv_if_neB (q := 175) (tgt := 193) G dX8_met_172 (by decide) rfl (fun c65 => ?_) (fun c65 => ?_)
                    · refine jv_iload_n (q := 194) G 7 dX8_met_193 rfl rfl rfl ?_
                      refine jv_iconst (q := 195) (v := nI 2) G dX8_met_194 (by decide) rfl ?_
                      refine jv_icmp_neN (q := 198) (tgt := 208) G dX8_met_195 (by decide) rfl (by omega) (by omega) (fun c66 => ?_) (fun c66 => ?_)
                      · refine jv_iload_n (q := 209) G 7 dX8_met_208 rfl rfl rfl ?_
                        refine jv_iconst (q := 210) (v := nI 4) G dX8_met_209 (by decide) rfl ?_
                        refine jv_icmp_neN (q := 213) (tgt := 226) G dX8_met_210 (by decide) rfl (by omega) (by omega) (fun c67 => ?_) (fun c67 => ?_)
                        · refine jv_iload_n (q := 227) G 7 dX8_met_226 rfl rfl rfl ?_
                          refine jv_iconst (q := 228) (v := nI 5) G dX8_met_227 (by decide) rfl ?_
                          refine jv_icmp_neN (q := 231) (tgt := 247) G dX8_met_228 (by decide) rfl (by omega) (by omega) (fun c68 => ?_) (fun c68 => ?_)
                          · refine jv_iload_n (q := 248) G 7 dX8_met_247 rfl rfl rfl ?_
                            refine jv_iconst (q := 249) (v := nI 2) G dX8_met_248 (by decide) rfl ?_
                            refine jv_icmp_geN (q := 252) (tgt := 266) G dX8_met_249 (by decide) rfl (by omega) (by omega) (fun c69 => ?_) (fun c69 => ?_)
                            · omega
                            · refine jv_aload_n (q := 253) G 4 dX8_met_252 rfl rfl rfl ?_
                              refine jv_iload_n (q := 254) G 6 dX8_met_253 rfl rfl rfl ?_
                              refine jv_iload (q := 256) G 3 dX8_met_254 rfl rfl ?_
                              refine jv_iload (q := 258) G 9 dX8_met_256 rfl rfl ?_
                              refine jv_iload (q := 260) G 10 dX8_met_258 rfl rfl ?_
                              refine jv_callV_I (q := 263) (h1 := h1) (As := [.int (nI e), .int (nI (10 * e + k2)), .int n, .int s]) (rest := []) (ce' := 0) (sl' := 0) (r := (ffE e (m_ff ts 11 k2 n s))) G Z ml_X8_173 (r_findField hlt hsc hS he hE 11 k2 (hg k2 (by omega)) (by omega)) (hsc.S hS).1 dX8_met_260 rfl (by decide) (by decide) (by decide) (by decide) (Nat.le_of_ble_eq_true rfl) rfl rfl rfl rfl ?_
                              rcases Option.eq_none_or_eq_some (m_ff ts 11 k2 n s) with hp73 | ⟨p70, hp73⟩
                              · refine jv_topI (y := (-1)) (by rw [hp73]; rfl) ?_
                                refine jv_goto (q := 277) G dX8_met_263 (by decide) ?_
                                refine jv_istore (q := 279) (lo' := [(12, .int (-1)), (11, .int (-1)), (10, .int (nI 0)), (9, .int (-1)), (8, .int (nI (10 * e + k2))), (0, .ref x), (1, .int (nI c)), (2, .int (nI e)), (3, .int (nI 0)), (4, .int ty), (5, .int n), (6, .int s), (7, .int rc)]) G dX8_met_277 (by decide) rfl rfl ?_
                                refine jv_iload (q := 281) G 0 dX8_met_279 rfl rfl ?_
                                refine jv_iconst (q := 282) (v := (-1)) G dX8_met_281 (by decide) rfl ?_
                                refine jv_icmp_ne (q := 285) (tgt := 287) G dX8_met_282 (by decide) rfl (fun c74 => ?_) (fun c74 => ?_)
                                · exact absurd rfl c74
                                · refine jv_iconst (q := 286) (v := nI 2) G dX8_met_285 (by decide) rfl ?_
                                  refine jv_iret G hr dX8_met_286 (Nat.le_of_ble_eq_true rfl) (Nat.le_of_ble_eq_true rfl) ?_
                                  have hz : (m_met (decide (e = ec)) tsC ts pk su 0 ty n s rc) = (2, none) := by
                                    unfold m_met m_isC m_bd
                                    simp only [*, if_true, if_false, Bool.false_eq_true, reduceIte, Option.map_some, decide_true, decide_false, not_true_eq_false, not_false_eq_true, and_true, true_and, and_false, false_and, or_true, true_or, or_false, false_or, Bool.or_true, Bool.or_false, Bool.true_or, Bool.false_or, reduceCtorEq] <;> first | rfl | (simp_all; done) | (split <;> simp_all)
                                  exact ⟨by rw [hz], hrs.tr hsc.rs, by rw [hz]; exact (hsc.x hS 32).trans hran⟩
                              · refine jv_topI (y := nI (6 * (10 * e + p70.1) + p70.2)) (by rw [hp73]; rfl) ?_
                                obtain ⟨t71, ht71, m72, hm72⟩ := m_ff_mem hp73
                                have Tt71 := (hE.2.2 p70.1 t71 ht71).1
                                have Ot71 := (hE.2.2 p70.1 t71 ht71).2
                                have Lt71 := hE.2.1
                                have lt71 := jv_ltGet ht71
                                have Mm72 := rt_m Tt71 hm72
                                have Om72 := Ot71.2.2.2.2.2.2 m72 (List.mem_of_getElem? hm72)
                                have Lm72 := Ot71.2.2.2.2.2.1
                                have lm72 := jv_ltGet hm72
                                have Bm72n := Om72.1; have Bm72s := Om72.2.1; have Bm72a := Om72.2.2.1; have Bt71n := Ot71.1; have Bt71k := Ot71.2.1
                                refine jv_goto (q := 277) G dX8_met_263 (by decide) ?_
                                refine jv_istore (q := 279) (lo' := [(12, .int (nI (6 * (10 * e + p70.1) + p70.2))), (11, .int (-1)), (10, .int (nI 0)), (9, .int (-1)), (8, .int (nI (10 * e + k2))), (0, .ref x), (1, .int (nI c)), (2, .int (nI e)), (3, .int (nI 0)), (4, .int ty), (5, .int n), (6, .int s), (7, .int rc)]) G dX8_met_277 (by decide) rfl rfl ?_
                                refine jv_iload (q := 281) G 0 dX8_met_279 rfl rfl ?_
                                refine jv_iconst (q := 282) (v := (-1)) G dX8_met_281 (by decide) rfl ?_
                                refine jv_icmp_ne (q := 285) (tgt := 287) G dX8_met_282 (by decide) rfl (fun c75 => ?_) (fun c75 => ?_)
                                · refine jv_aload_n (q := 288) G 5 dX8_met_287 rfl rfl rfl ?_
                                  refine jv_iload_n (q := 289) G 6 dX8_met_288 rfl rfl rfl ?_
                                  refine jv_iload_n (q := 290) G 7 dX8_met_289 rfl rfl rfl ?_
                                  refine jv_iload (q := 292) G 0 dX8_met_290 rfl rfl ?_
                                  refine jv_callV_I (q := 295) (h1 := h1) (As := [.int (nI c), .int (nI e), .int (nI (6 * (10 * e + p70.1) + p70.2))]) (rest := []) (ce' := 0) (sl' := 0) (r := jv_bI (m_mr ts pk su t71 m72)) G Z ml_X8_199 (r_mayReach hlt hsc hS hc he hE hV ht71 hm72 hpk hpk5 hsu hsu16) (hsc.S hS).1 dX8_met_292 rfl (by decide) (by decide) (by decide) (by decide) (Nat.le_of_ble_eq_true rfl) rfl rfl rfl rfl ?_
                                  refine jv_if_neB (q := 298) (tgt := 300) G dX8_met_295 (by decide) rfl (fun c76 => ?_) (fun c76 => ?_)
                                  · refine jv_aload_n (q := 301) G 5 dX8_met_300 rfl rfl rfl ?_
                                    refine jv_getQ (q := 304) G dX8_met_301 fl_X8_56 rfl (hsc.S hS).1 (rf_p17 (hsc.S hS)) rfl ?_
                                    refine jv_iload (q := 306) G 0 dX8_met_304 rfl rfl ?_
                                    refine jv_zald (q := 307) G dX8_met_306 (rf_a17 (hsc.S hS)) rfl (by omega) (by decide) (hsc.M hS Mm72).2.2.2.2.1 rfl ?_
                                    refine jv_iload_n (q := 308) G 8 dX8_met_307 rfl rfl rfl ?_
                                    refine jv_iconst (q := 309) (v := nI 1) G dX8_met_308 (by decide) rfl ?_
                                    refine jv_icmp_eqN (q := 312) (tgt := 317) G dX8_met_309 (by decide) rfl (by omega) (by omega) (fun c77 => ?_) (fun c77 => ?_)
                                    · omega
                                    · refine jv_iload_n (q := 313) G 8 dX8_met_312 rfl rfl rfl ?_
                                      refine jv_iconst (q := 314) (v := nI 3) G dX8_met_313 (by decide) rfl ?_
                                      refine jv_icmp_neN (q := 317) (tgt := 321) G dX8_met_314 (by decide) rfl (by omega) (by omega) (fun c78 => ?_) (fun c78 => ?_)
                                      · refine jv_iconst (q := 322) (v := nI 0) G dX8_met_321 (by decide) rfl ?_
                                        refine jv_icmp_eq (q := 325) (tgt := 327) G dX8_met_322 (by decide) rfl (fun c79 => ?_) (fun c79 => ?_)
                                        · refine jv_iload (q := 329) G 2 dX8_met_327 rfl rfl ?_
                                          refine jv_if_neN (q := 332) (tgt := 357) G dX8_met_329 (by decide) rfl (by omega) (fun c80 => ?_) (fun c80 => ?_)
                                          · omega
                                          · refine jv_aload_n (q := 333) G 5 dX8_met_332 rfl rfl rfl ?_
                                            refine jv_iload_n (q := 334) G 8 dX8_met_333 rfl rfl rfl ?_
                                            refine jv_iconst (q := 335) (v := nI 3) G dX8_met_334 (by decide) rfl ?_
                                            refine jv_icmp_neN (q := 338) (tgt := 351) G dX8_met_335 (by decide) rfl (by omega) (by omega) (fun c81 => ?_) (fun c81 => ?_)
                                            · refine jv_iconst (q := 352) (v := (-1)) G dX8_met_351 (by decide) rfl ?_
                                              refine jv_putI (q := 355) G dX8_met_352 fl_X8_192 rfl (hsc.S hS).1 rfl ?_
                                              have hr1 : rs x q h1 (jv_wI h1 x 32 (-1)) := rs.rf.wI (-1) (Or.inl ⟨rfl, Or.inr (Or.inl rfl)⟩)
                                              have hran : jv_I (jv_wI h1 x 32 (-1)) x 32 = (-1) := jv_I_self _ _ _ _
                                              have hSb := hsc.S hS
                                              have hE := hr1.E hSb (hsc.E hS hE)
                                              have hV := hr1.V hSb (hsc.V hS hV)
                                              have hEC := hr1.E hSb (hsc.E hS hEC)
                                              have hVC := hr1.V hSb (hsc.V hS hVC)
                                              have hce := (wx_I hSb 22 (by decide) rfl 32 c (-1)).trans ((hsc.I2 hS 22 (by decide) rfl (by decide) c).trans hce)
                                              have hpk := (wx_I hSb 23 (by decide) rfl 32 c (-1)).trans ((hsc.I2 hS 23 (by decide) rfl (by decide) c).trans hpk)
                                              have hsu := (wx_I hSb 24 (by decide) rfl 32 c (-1)).trans ((hsc.I2 hS 24 (by decide) rfl (by decide) c).trans hsu)
                                              have hrs := (hrs.tr hsc.rs).tr hr1
                                              have hS := hr1.S hSb
                                              generalize jv_wI h1 x 32 (-1) = h82 at hran hE hV hEC hVC hce hpk hsu hrs hS ⊢
                                              have hsc : sc x q h82 h82 := sc.rf
                                              refine jv_iconst (q := 356) (v := nI 0) G dX8_met_355 (by decide) rfl ?_
                                              refine jv_iret G hr dX8_met_356 (Nat.le_of_ble_eq_true rfl) (Nat.le_of_ble_eq_true rfl) ?_
                                              have hz : (m_met (decide (e = ec)) tsC ts pk su 0 ty n s rc) = (0, none) := by
                                                unfold m_met m_isC m_bd
                                                simp only [*, if_true, if_false, Bool.false_eq_true, reduceIte, Option.map_some, decide_true, decide_false, not_true_eq_false, not_false_eq_true, and_true, true_and, and_false, false_and, or_true, true_or, or_false, false_or, Bool.or_true, Bool.or_false, Bool.true_or, Bool.false_or, reduceCtorEq] <;> first | rfl | (simp_all; done) | (split <;> simp_all)
                                              exact ⟨by rw [hz], hrs.tr hsc.rs, by rw [hz]; exact (hsc.x hS 32).trans hran⟩
                                            · omega
                                        · refine jv_iconst (q := 326) (v := nI 4) G dX8_met_325 (by decide) rfl ?_
                                          refine jv_iret G hr dX8_met_326 (Nat.le_of_ble_eq_true rfl) (Nat.le_of_ble_eq_true rfl) ?_
                                          have hz : (m_met (decide (e = ec)) tsC ts pk su 0 ty n s rc) = (4, none) := by
                                            unfold m_met m_isC m_bd
                                            simp only [*, if_true, if_false, Bool.false_eq_true, reduceIte, Option.map_some, decide_true, decide_false, not_true_eq_false, not_false_eq_true, and_true, true_and, and_false, false_and, or_true, true_or, or_false, false_or, Bool.or_true, Bool.or_false, Bool.true_or, Bool.false_or, reduceCtorEq] <;> first | rfl | (simp_all; done) | (split <;> simp_all)
                                          exact ⟨by rw [hz], hrs.tr hsc.rs, by rw [hz]; exact (hsc.x hS 32).trans hran⟩
                                      · omega
                                  · refine jv_iconst (q := 299) (v := nI 3) G dX8_met_298 (by decide) rfl ?_
                                    refine jv_iret G hr dX8_met_299 (Nat.le_of_ble_eq_true rfl) (Nat.le_of_ble_eq_true rfl) ?_
                                    have hz : (m_met (decide (e = ec)) tsC ts pk su 0 ty n s rc) = (3, none) := by
                                      unfold m_met m_isC m_bd
                                      simp only [*, if_true, if_false, Bool.false_eq_true, reduceIte, Option.map_some, decide_true, decide_false, not_true_eq_false, not_false_eq_true, and_true, true_and, and_false, false_and, or_true, true_or, or_false, false_or, Bool.or_true, Bool.or_false, Bool.true_or, Bool.false_or, reduceCtorEq] <;> first | rfl | (simp_all; done) | (split <;> simp_all)
                                    exact ⟨by rw [hz], hrs.tr hsc.rs, by rw [hz]; exact (hsc.x hS 32).trans hran⟩
                                · exact absurd c75 (jv_nI_m1 (by omega))
                          · omega
                        · omega
                      · omega
                    · refine jv_aload_n (q := 176) G 4 dX8_met_175 rfl rfl rfl ?_
                      refine jv_getQ (q := 179) G dX8_met_176 fl_X8_26 rfl (hsc.S hS).1 (rf_p7 (hsc.S hS)) rfl ?_
                      refine jv_iload (q := 181) G 3 dX8_met_179 rfl rfl ?_
                      refine jv_iald (q := 182) G dX8_met_181 (rf_a7 (hsc.S hS)) rfl (by omega) (by decide) (rt_7 (hsc.T hS Tt3)) rfl ?_
                      refine jv_aload_n (q := 183) G 4 dX8_met_182 rfl rfl rfl ?_
                      refine jv_getQ (q := 186) G dX8_met_183 fl_X8_71 rfl (hsc.S hS).1 (rf_p23 (hsc.S hS)) rfl ?_
                      refine jv_iload_n (q := 187) G 5 dX8_met_186 rfl rfl rfl ?_
                      refine jv_iald (q := 188) G dX8_met_187 (rf_a23 (hsc.S hS)) rfl (by omega) (by decide) rfl rfl ?_
                      refine jv_icmp_eq (q := 191) (tgt := 193) G dX8_met_188 (by decide) rfl (fun c83 => ?_) (fun c83 => ?_)
                      · refine jv_iload_n (q := 194) G 7 dX8_met_193 rfl rfl rfl ?_
                        refine jv_iconst (q := 195) (v := nI 2) G dX8_met_194 (by decide) rfl ?_
                        refine jv_icmp_neN (q := 198) (tgt := 208) G dX8_met_195 (by decide) rfl (by omega) (by omega) (fun c84 => ?_) (fun c84 => ?_)
                        · refine jv_iload_n (q := 209) G 7 dX8_met_208 rfl rfl rfl ?_
                          refine jv_iconst (q := 210) (v := nI 4) G dX8_met_209 (by decide) rfl ?_
                          refine jv_icmp_neN (q := 213) (tgt := 226) G dX8_met_210 (by decide) rfl (by omega) (by omega) (fun c85 => ?_) (fun c85 => ?_)
                          · refine jv_iload_n (q := 227) G 7 dX8_met_226 rfl rfl rfl ?_
                            refine jv_iconst (q := 228) (v := nI 5) G dX8_met_227 (by decide) rfl ?_
                            refine jv_icmp_neN (q := 231) (tgt := 247) G dX8_met_228 (by decide) rfl (by omega) (by omega) (fun c86 => ?_) (fun c86 => ?_)
                            · refine jv_iload_n (q := 248) G 7 dX8_met_247 rfl rfl rfl ?_
                              refine jv_iconst (q := 249) (v := nI 2) G dX8_met_248 (by decide) rfl ?_
                              refine jv_icmp_geN (q := 252) (tgt := 266) G dX8_met_249 (by decide) rfl (by omega) (by omega) (fun c87 => ?_) (fun c87 => ?_)
                              · omega
                              · refine jv_aload_n (q := 253) G 4 dX8_met_252 rfl rfl rfl ?_
                                refine jv_iload_n (q := 254) G 6 dX8_met_253 rfl rfl rfl ?_
                                refine jv_iload (q := 256) G 3 dX8_met_254 rfl rfl ?_
                                refine jv_iload (q := 258) G 9 dX8_met_256 rfl rfl ?_
                                refine jv_iload (q := 260) G 10 dX8_met_258 rfl rfl ?_
                                refine jv_callV_I (q := 263) (h1 := h1) (As := [.int (nI e), .int (nI (10 * e + k2)), .int n, .int s]) (rest := []) (ce' := 0) (sl' := 0) (r := (ffE e (m_ff ts 11 k2 n s))) G Z ml_X8_173 (r_findField hlt hsc hS he hE 11 k2 (hg k2 (by omega)) (by omega)) (hsc.S hS).1 dX8_met_260 rfl (by decide) (by decide) (by decide) (by decide) (Nat.le_of_ble_eq_true rfl) rfl rfl rfl rfl ?_
                                rcases Option.eq_none_or_eq_some (m_ff ts 11 k2 n s) with hp91 | ⟨p88, hp91⟩
                                · refine jv_topI (y := (-1)) (by rw [hp91]; rfl) ?_
                                  refine jv_goto (q := 277) G dX8_met_263 (by decide) ?_
                                  refine jv_istore (q := 279) (lo' := [(12, .int (-1)), (11, .int (-1)), (10, .int (nI 0)), (9, .int (-1)), (8, .int (nI (10 * e + k2))), (0, .ref x), (1, .int (nI c)), (2, .int (nI e)), (3, .int (nI 0)), (4, .int ty), (5, .int n), (6, .int s), (7, .int rc)]) G dX8_met_277 (by decide) rfl rfl ?_
                                  refine jv_iload (q := 281) G 0 dX8_met_279 rfl rfl ?_
                                  refine jv_iconst (q := 282) (v := (-1)) G dX8_met_281 (by decide) rfl ?_
                                  refine jv_icmp_ne (q := 285) (tgt := 287) G dX8_met_282 (by decide) rfl (fun c92 => ?_) (fun c92 => ?_)
                                  · exact absurd rfl c92
                                  · refine jv_iconst (q := 286) (v := nI 2) G dX8_met_285 (by decide) rfl ?_
                                    refine jv_iret G hr dX8_met_286 (Nat.le_of_ble_eq_true rfl) (Nat.le_of_ble_eq_true rfl) ?_
                                    have hz : (m_met (decide (e = ec)) tsC ts pk su 0 ty n s rc) = (2, none) := by
                                      unfold m_met m_isC m_bd
                                      simp only [*, if_true, if_false, Bool.false_eq_true, reduceIte, Option.map_some, decide_true, decide_false, not_true_eq_false, not_false_eq_true, and_true, true_and, and_false, false_and, or_true, true_or, or_false, false_or, Bool.or_true, Bool.or_false, Bool.true_or, Bool.false_or, reduceCtorEq] <;> first | rfl | (simp_all; done) | (split <;> simp_all)
                                    exact ⟨by rw [hz], hrs.tr hsc.rs, by rw [hz]; exact (hsc.x hS 32).trans hran⟩
                                · refine jv_topI (y := nI (6 * (10 * e + p88.1) + p88.2)) (by rw [hp91]; rfl) ?_
                                  obtain ⟨t89, ht89, m90, hm90⟩ := m_ff_mem hp91
                                  have Tt89 := (hE.2.2 p88.1 t89 ht89).1
                                  have Ot89 := (hE.2.2 p88.1 t89 ht89).2
                                  have Lt89 := hE.2.1
                                  have lt89 := jv_ltGet ht89
                                  have Mm90 := rt_m Tt89 hm90
                                  have Om90 := Ot89.2.2.2.2.2.2 m90 (List.mem_of_getElem? hm90)
                                  have Lm90 := Ot89.2.2.2.2.2.1
                                  have lm90 := jv_ltGet hm90
                                  have Bm90n := Om90.1; have Bm90s := Om90.2.1; have Bm90a := Om90.2.2.1; have Bt89n := Ot89.1; have Bt89k := Ot89.2.1
                                  refine jv_goto (q := 277) G dX8_met_263 (by decide) ?_
                                  refine jv_istore (q := 279) (lo' := [(12, .int (nI (6 * (10 * e + p88.1) + p88.2))), (11, .int (-1)), (10, .int (nI 0)), (9, .int (-1)), (8, .int (nI (10 * e + k2))), (0, .ref x), (1, .int (nI c)), (2, .int (nI e)), (3, .int (nI 0)), (4, .int ty), (5, .int n), (6, .int s), (7, .int rc)]) G dX8_met_277 (by decide) rfl rfl ?_
                                  refine jv_iload (q := 281) G 0 dX8_met_279 rfl rfl ?_
                                  refine jv_iconst (q := 282) (v := (-1)) G dX8_met_281 (by decide) rfl ?_
                                  refine jv_icmp_ne (q := 285) (tgt := 287) G dX8_met_282 (by decide) rfl (fun c93 => ?_) (fun c93 => ?_)
                                  · refine jv_aload_n (q := 288) G 5 dX8_met_287 rfl rfl rfl ?_
                                    refine jv_iload_n (q := 289) G 6 dX8_met_288 rfl rfl rfl ?_
                                    refine jv_iload_n (q := 290) G 7 dX8_met_289 rfl rfl rfl ?_
                                    refine jv_iload (q := 292) G 0 dX8_met_290 rfl rfl ?_
                                    refine jv_callV_I (q := 295) (h1 := h1) (As := [.int (nI c), .int (nI e), .int (nI (6 * (10 * e + p88.1) + p88.2))]) (rest := []) (ce' := 0) (sl' := 0) (r := jv_bI (m_mr ts pk su t89 m90)) G Z ml_X8_199 (r_mayReach hlt hsc hS hc he hE hV ht89 hm90 hpk hpk5 hsu hsu16) (hsc.S hS).1 dX8_met_292 rfl (by decide) (by decide) (by decide) (by decide) (Nat.le_of_ble_eq_true rfl) rfl rfl rfl rfl ?_
                                    refine jv_if_neB (q := 298) (tgt := 300) G dX8_met_295 (by decide) rfl (fun c94 => ?_) (fun c94 => ?_)
                                    · refine jv_aload_n (q := 301) G 5 dX8_met_300 rfl rfl rfl ?_
                                      refine jv_getQ (q := 304) G dX8_met_301 fl_X8_56 rfl (hsc.S hS).1 (rf_p17 (hsc.S hS)) rfl ?_
                                      refine jv_iload (q := 306) G 0 dX8_met_304 rfl rfl ?_
                                      refine jv_zald (q := 307) G dX8_met_306 (rf_a17 (hsc.S hS)) rfl (by omega) (by decide) (hsc.M hS Mm90).2.2.2.2.1 rfl ?_
                                      refine jv_iload_n (q := 308) G 8 dX8_met_307 rfl rfl rfl ?_
                                      refine jv_iconst (q := 309) (v := nI 1) G dX8_met_308 (by decide) rfl ?_
                                      refine jv_icmp_eqN (q := 312) (tgt := 317) G dX8_met_309 (by decide) rfl (by omega) (by omega) (fun c95 => ?_) (fun c95 => ?_)
                                      · omega
                                      · refine jv_iload_n (q := 313) G 8 dX8_met_312 rfl rfl rfl ?_
                                        refine jv_iconst (q := 314) (v := nI 3) G dX8_met_313 (by decide) rfl ?_
                                        refine jv_icmp_neN (q := 317) (tgt := 321) G dX8_met_314 (by decide) rfl (by omega) (by omega) (fun c96 => ?_) (fun c96 => ?_)
                                        · refine jv_iconst (q := 322) (v := nI 0) G dX8_met_321 (by decide) rfl ?_
                                          refine jv_icmp_eq (q := 325) (tgt := 327) G dX8_met_322 (by decide) rfl (fun c97 => ?_) (fun c97 => ?_)
                                          · refine jv_iload (q := 329) G 2 dX8_met_327 rfl rfl ?_
                                            refine jv_if_neN (q := 332) (tgt := 357) G dX8_met_329 (by decide) rfl (by omega) (fun c98 => ?_) (fun c98 => ?_)
                                            · omega
                                            · refine jv_aload_n (q := 333) G 5 dX8_met_332 rfl rfl rfl ?_
                                              refine jv_iload_n (q := 334) G 8 dX8_met_333 rfl rfl rfl ?_
                                              refine jv_iconst (q := 335) (v := nI 3) G dX8_met_334 (by decide) rfl ?_
                                              refine jv_icmp_neN (q := 338) (tgt := 351) G dX8_met_335 (by decide) rfl (by omega) (by omega) (fun c99 => ?_) (fun c99 => ?_)
                                              · refine jv_iconst (q := 352) (v := (-1)) G dX8_met_351 (by decide) rfl ?_
                                                refine jv_putI (q := 355) G dX8_met_352 fl_X8_192 rfl (hsc.S hS).1 rfl ?_
                                                have hr1 : rs x q h1 (jv_wI h1 x 32 (-1)) := rs.rf.wI (-1) (Or.inl ⟨rfl, Or.inr (Or.inl rfl)⟩)
                                                have hran : jv_I (jv_wI h1 x 32 (-1)) x 32 = (-1) := jv_I_self _ _ _ _
                                                have hSb := hsc.S hS
                                                have hE := hr1.E hSb (hsc.E hS hE)
                                                have hV := hr1.V hSb (hsc.V hS hV)
                                                have hEC := hr1.E hSb (hsc.E hS hEC)
                                                have hVC := hr1.V hSb (hsc.V hS hVC)
                                                have hce := (wx_I hSb 22 (by decide) rfl 32 c (-1)).trans ((hsc.I2 hS 22 (by decide) rfl (by decide) c).trans hce)
                                                have hpk := (wx_I hSb 23 (by decide) rfl 32 c (-1)).trans ((hsc.I2 hS 23 (by decide) rfl (by decide) c).trans hpk)
                                                have hsu := (wx_I hSb 24 (by decide) rfl 32 c (-1)).trans ((hsc.I2 hS 24 (by decide) rfl (by decide) c).trans hsu)
                                                have hrs := (hrs.tr hsc.rs).tr hr1
                                                have hS := hr1.S hSb
                                                generalize jv_wI h1 x 32 (-1) = h100 at hran hE hV hEC hVC hce hpk hsu hrs hS ⊢
                                                have hsc : sc x q h100 h100 := sc.rf
                                                refine jv_iconst (q := 356) (v := nI 0) G dX8_met_355 (by decide) rfl ?_
                                                refine jv_iret G hr dX8_met_356 (Nat.le_of_ble_eq_true rfl) (Nat.le_of_ble_eq_true rfl) ?_
                                                have hz : (m_met (decide (e = ec)) tsC ts pk su 0 ty n s rc) = (0, none) := by
                                                  unfold m_met m_isC m_bd
                                                  simp only [*, if_true, if_false, Bool.false_eq_true, reduceIte, Option.map_some, decide_true, decide_false, not_true_eq_false, not_false_eq_true, and_true, true_and, and_false, false_and, or_true, true_or, or_false, false_or, Bool.or_true, Bool.or_false, Bool.true_or, Bool.false_or, reduceCtorEq] <;> first | rfl | (simp_all; done) | (split <;> simp_all)
                                                exact ⟨by rw [hz], hrs.tr hsc.rs, by rw [hz]; exact (hsc.x hS 32).trans hran⟩
                                              · omega
                                          · refine jv_iconst (q := 326) (v := nI 4) G dX8_met_325 (by decide) rfl ?_
                                            refine jv_iret G hr dX8_met_326 (Nat.le_of_ble_eq_true rfl) (Nat.le_of_ble_eq_true rfl) ?_
                                            have hz : (m_met (decide (e = ec)) tsC ts pk su 0 ty n s rc) = (4, none) := by
                                              unfold m_met m_isC m_bd
                                              simp only [*, if_true, if_false, Bool.false_eq_true, reduceIte, Option.map_some, decide_true, decide_false, not_true_eq_false, not_false_eq_true, and_true, true_and, and_false, false_and, or_true, true_or, or_false, false_or, Bool.or_true, Bool.or_false, Bool.true_or, Bool.false_or, reduceCtorEq] <;> first | rfl | (simp_all; done) | (split <;> simp_all)
                                            exact ⟨by rw [hz], hrs.tr hsc.rs, by rw [hz]; exact (hsc.x hS 32).trans hran⟩
                                        · omega
                                    · refine jv_iconst (q := 299) (v := nI 3) G dX8_met_298 (by decide) rfl ?_
                                      refine jv_iret G hr dX8_met_299 (Nat.le_of_ble_eq_true rfl) (Nat.le_of_ble_eq_true rfl) ?_
                                      have hz : (m_met (decide (e = ec)) tsC ts pk su 0 ty n s rc) = (3, none) := by
                                        unfold m_met m_isC m_bd
                                        simp only [*, if_true, if_false, Bool.false_eq_true, reduceIte, Option.map_some, decide_true, decide_false, not_true_eq_false, not_false_eq_true, and_true, true_and, and_false, false_and, or_true, true_or, or_false, false_or, Bool.or_true, Bool.or_false, Bool.true_or, Bool.false_or, reduceCtorEq] <;> first | rfl | (simp_all; done) | (split <;> simp_all)
                                      exact ⟨by rw [hz], hrs.tr hsc.rs, by rw [hz]; exact (hsc.x hS 32).trans hran⟩
                                  · exact absurd c93 (jv_nI_m1 (by omega))
                            · omega
                          · omega
                        · omega
                      · refine jv_iconst (q := 192) (v := nI 3) G dX8_met_191 (by decide) rfl ?_
                        refine jv_iret G hr dX8_met_192 (Nat.le_of_ble_eq_true rfl) (Nat.le_of_ble_eq_true rfl) ?_
                        have hz : (m_met (decide (e = ec)) tsC ts pk su 0 ty n s rc) = (3, none) := by
                          unfold m_met m_isC m_bd
                          simp only [*, if_true, if_false, Bool.false_eq_true, reduceIte, Option.map_some, decide_true, decide_false, not_true_eq_false, not_false_eq_true, and_true, true_and, and_false, false_and, or_true, true_or, or_false, false_or, Bool.or_true, Bool.or_false, Bool.true_or, Bool.false_or, reduceCtorEq] <;> first | rfl | (simp_all; done) | (split <;> simp_all)
                        exact ⟨by rw [hz], hrs.tr hsc.rs, by rw [hz]; exact (hsc.x hS 32).trans hran⟩
                  · omega
              · omega
            · omega
        · exact absurd rfl c59
  · refine jv_aload_n (q := 1) G 0 dX8_met_0 rfl rfl rfl ?_
    refine jv_iconst (q := 2) (v := (-1)) G dX8_met_1 (by decide) rfl ?_
    refine jv_putI (q := 5) G dX8_met_2 fl_X8_192 rfl (hsc.S hS).1 rfl ?_
    have hr1 : rs x q h (jv_wI h x 32 (-1)) := rs.rf.wI (-1) (Or.inl ⟨rfl, Or.inr (Or.inl rfl)⟩)
    have hran : jv_I (jv_wI h x 32 (-1)) x 32 = (-1) := jv_I_self _ _ _ _
    have hSb := hsc.S hS
    have hE := hr1.E hSb (hsc.E hS hE)
    have hV := hr1.V hSb (hsc.V hS hV)
    have hEC := hr1.E hSb (hsc.E hS hEC)
    have hVC := hr1.V hSb (hsc.V hS hVC)
    have hce := (wx_I hSb 22 (by decide) rfl 32 c (-1)).trans ((hsc.I2 hS 22 (by decide) rfl (by decide) c).trans hce)
    have hpk := (wx_I hSb 23 (by decide) rfl 32 c (-1)).trans ((hsc.I2 hS 23 (by decide) rfl (by decide) c).trans hpk)
    have hsu := (wx_I hSb 24 (by decide) rfl 32 c (-1)).trans ((hsc.I2 hS 24 (by decide) rfl (by decide) c).trans hsu)
    have hrs := (hrs.tr hsc.rs).tr hr1
    have hS := hr1.S hSb
    generalize jv_wI h x 32 (-1) = h101 at hran hE hV hEC hVC hce hpk hsu hrs hS ⊢
    have hsc : sc x q h101 h101 := sc.rf
    refine jv_aload_n (q := 6) G 0 dX8_met_5 rfl rfl rfl ?_
    refine jv_iload_n (q := 7) G 2 dX8_met_6 rfl rfl rfl ?_
    refine jv_iload (q := 9) G 4 dX8_met_7 rfl rfl ?_
    refine jv_callV_I (q := 12) (h1 := h101) (As := [.int (nI e), .int ty]) (rest := []) (ce' := 0) (sl' := 0) (r := jv_oN ((m_at ts ty).map (fun k => 10 * e + k))) G Z ml_X8_151 (r_at hlt (hsc.S hS) he (hsc.E hS hE)) (hsc.S hS).1 dX8_met_9 rfl (by decide) (by decide) (by decide) (by decide) (Nat.le_of_ble_eq_true rfl) rfl rfl rfl rfl ?_
    rcases Option.eq_none_or_eq_some (m_at ts ty) with hk104 | ⟨k102, hk104⟩
    · refine jv_topI (y := (-1)) (by rw [hk104]; rfl) ?_
      refine jv_istore (q := 14) (lo' := [(8, .int (-1)), (0, .ref x), (1, .int (nI c)), (2, .int (nI e)), (3, .int (nI 1)), (4, .int ty), (5, .int n), (6, .int s), (7, .int rc)]) G dX8_met_12 (by decide) rfl rfl ?_
      refine jv_iload_n (q := 15) G 3 dX8_met_14 rfl rfl rfl ?_
      refine jv_aload_n (q := 16) G 1 dX8_met_15 rfl rfl rfl ?_
      refine jv_getQ (q := 19) G dX8_met_16 fl_X8_68 rfl (hsc.S hS).1 (rf_p22 (hsc.S hS)) rfl ?_
      refine jv_iload_n (q := 20) G 2 dX8_met_19 rfl rfl rfl ?_
      refine jv_iald (q := 21) G dX8_met_20 (rf_a22 (hsc.S hS)) rfl (by omega) (by decide) ((hsc.I2 hS 22 (by decide) rfl (by decide) c).trans hce) rfl ?_
      refine jv_icmp_eqN (q := 24) (tgt := 39) G dX8_met_21 (by decide) rfl (by omega) (by omega) (fun c105 => ?_) (fun c105 => ?_)
      · refine jv_iconst (q := 40) (v := (-1)) G dX8_met_39 (by decide) rfl ?_
        refine jv_istore (q := 42) (lo' := [(9, .int (-1)), (8, .int (-1)), (0, .ref x), (1, .int (nI c)), (2, .int (nI e)), (3, .int (nI 1)), (4, .int ty), (5, .int n), (6, .int s), (7, .int rc)]) G dX8_met_40 (by decide) rfl rfl ?_
        refine jv_iload (q := 44) G 0 dX8_met_42 rfl rfl ?_
        refine jv_iconst (q := 45) (v := (-1)) G dX8_met_44 (by decide) rfl ?_
        refine jv_icmp_eq (q := 48) (tgt := 111) G dX8_met_45 (by decide) rfl (fun c106 => ?_) (fun c106 => ?_)
        · refine jv_iload_n (q := 112) G 5 dX8_met_111 rfl rfl rfl ?_
          refine jv_iconst (q := 113) (v := nI 2) G dX8_met_112 (by decide) rfl ?_
          refine jv_icmp_eqN (q := 116) (tgt := 121) G dX8_met_113 (by decide) rfl (by omega) (by omega) (fun c107 => ?_) (fun c107 => ?_)
          · omega
          · refine jv_iload_n (q := 117) G 5 dX8_met_116 rfl rfl rfl ?_
            refine jv_iconst (q := 118) (v := nI 4) G dX8_met_117 (by decide) rfl ?_
            refine jv_icmp_neN (q := 121) (tgt := 125) G dX8_met_118 (by decide) rfl (by omega) (by omega) (fun c108 => ?_) (fun c108 => ?_)
            · refine jv_iconst (q := 126) (v := nI 0) G dX8_met_125 (by decide) rfl ?_
              refine jv_istore (q := 128) (lo' := [(10, .int (nI 0)), (9, .int (-1)), (8, .int (-1)), (0, .ref x), (1, .int (nI c)), (2, .int (nI e)), (3, .int (nI 1)), (4, .int ty), (5, .int n), (6, .int s), (7, .int rc)]) G dX8_met_126 (by decide) rfl rfl ?_
              refine jv_iload (q := 130) G 0 dX8_met_128 rfl rfl ?_
              refine jv_if_eqN (q := 133) (tgt := 143) G dX8_met_130 (by decide) rfl (by omega) (fun c109 => ?_) (fun c109 => ?_)
              · refine jv_iconst (q := 144) (v := (-1)) G dX8_met_143 (by decide) rfl ?_
                refine jv_istore (q := 146) (lo' := [(11, .int (-1)), (10, .int (nI 0)), (9, .int (-1)), (8, .int (-1)), (0, .ref x), (1, .int (nI c)), (2, .int (nI e)), (3, .int (nI 1)), (4, .int ty), (5, .int n), (6, .int s), (7, .int rc)]) G dX8_met_144 (by decide) rfl rfl ?_
                refine jv_iload (q := 148) G 3 dX8_met_146 rfl rfl ?_
                refine jv_iconst (q := 149) (v := (-1)) G dX8_met_148 (by decide) rfl ?_
                refine jv_icmp_eq (q := 152) (tgt := 163) G dX8_met_149 (by decide) rfl (fun c110 => ?_) (fun c110 => ?_)
                · refine jv_iconst (q := 164) (v := nI 1) G dX8_met_163 (by decide) rfl ?_
                  refine jv_iret G hr dX8_met_164 (Nat.le_of_ble_eq_true rfl) (Nat.le_of_ble_eq_true rfl) ?_
                  have hz : (m_met (decide (e = ec)) tsC ts pk su 1 ty n s rc) = (1, none) := by
                    unfold m_met m_isC m_bd
                    simp only [*, if_true, if_false, Bool.false_eq_true, reduceIte, Option.map_some, decide_true, decide_false, not_true_eq_false, not_false_eq_true, and_true, true_and, and_false, false_and, or_true, true_or, or_false, false_or, Bool.or_true, Bool.or_false, Bool.true_or, Bool.false_or, reduceCtorEq] <;> first | rfl | (simp_all; done) | (split <;> simp_all)
                  exact ⟨by rw [hz], hrs.tr hsc.rs, by rw [hz]; exact (hsc.x hS 32).trans hran⟩
                · exact absurd rfl c110
              · omega
            · omega
        · exact absurd rfl c106
      · refine jv_aload_n (q := 25) G 1 dX8_met_24 rfl rfl rfl ?_
        refine jv_iload_n (q := 26) G 2 dX8_met_25 rfl rfl rfl ?_
        refine jv_iload_n (q := 27) G 4 dX8_met_26 rfl rfl rfl ?_
        refine jv_iload (q := 29) G 5 dX8_met_27 rfl rfl ?_
        refine jv_iload (q := 31) G 6 dX8_met_29 rfl rfl ?_
        refine jv_iload (q := 33) G 7 dX8_met_31 rfl rfl ?_
        refine jv_callV_I (q := 36) (h1 := h101) (As := [.int (nI c), .int (nI 1), .int ty, .int n, .int s]) (rest := []) (ce' := 0) (sl' := 0) (r := (ffE ec (m_co tsC 1 ty n s))) G Z ml_X8_195 (r_constantOf hlt hsc hS hc hec hEC hce (by decide) hgC) (hsc.S hS).1 dX8_met_33 rfl (by decide) (by decide) (by decide) (by decide) (Nat.le_of_ble_eq_true rfl) rfl rfl rfl rfl ?_
        rcases Option.eq_none_or_eq_some (m_co tsC 1 ty n s) with hp114 | ⟨p111, hp114⟩
        · refine jv_topI (y := (-1)) (by rw [hp114]; rfl) ?_
          refine jv_goto (q := 40) G dX8_met_36 (by decide) ?_
          refine jv_istore (q := 42) (lo' := [(9, .int (-1)), (8, .int (-1)), (0, .ref x), (1, .int (nI c)), (2, .int (nI e)), (3, .int (nI 1)), (4, .int ty), (5, .int n), (6, .int s), (7, .int rc)]) G dX8_met_40 (by decide) rfl rfl ?_
          refine jv_iload (q := 44) G 0 dX8_met_42 rfl rfl ?_
          refine jv_iconst (q := 45) (v := (-1)) G dX8_met_44 (by decide) rfl ?_
          refine jv_icmp_eq (q := 48) (tgt := 111) G dX8_met_45 (by decide) rfl (fun c115 => ?_) (fun c115 => ?_)
          · refine jv_iload_n (q := 112) G 5 dX8_met_111 rfl rfl rfl ?_
            refine jv_iconst (q := 113) (v := nI 2) G dX8_met_112 (by decide) rfl ?_
            refine jv_icmp_eqN (q := 116) (tgt := 121) G dX8_met_113 (by decide) rfl (by omega) (by omega) (fun c116 => ?_) (fun c116 => ?_)
            · omega
            · refine jv_iload_n (q := 117) G 5 dX8_met_116 rfl rfl rfl ?_
              refine jv_iconst (q := 118) (v := nI 4) G dX8_met_117 (by decide) rfl ?_
              refine jv_icmp_neN (q := 121) (tgt := 125) G dX8_met_118 (by decide) rfl (by omega) (by omega) (fun c117 => ?_) (fun c117 => ?_)
              · refine jv_iconst (q := 126) (v := nI 0) G dX8_met_125 (by decide) rfl ?_
                refine jv_istore (q := 128) (lo' := [(10, .int (nI 0)), (9, .int (-1)), (8, .int (-1)), (0, .ref x), (1, .int (nI c)), (2, .int (nI e)), (3, .int (nI 1)), (4, .int ty), (5, .int n), (6, .int s), (7, .int rc)]) G dX8_met_126 (by decide) rfl rfl ?_
                refine jv_iload (q := 130) G 0 dX8_met_128 rfl rfl ?_
                refine jv_if_eqN (q := 133) (tgt := 143) G dX8_met_130 (by decide) rfl (by omega) (fun c118 => ?_) (fun c118 => ?_)
                · refine jv_iconst (q := 144) (v := (-1)) G dX8_met_143 (by decide) rfl ?_
                  refine jv_istore (q := 146) (lo' := [(11, .int (-1)), (10, .int (nI 0)), (9, .int (-1)), (8, .int (-1)), (0, .ref x), (1, .int (nI c)), (2, .int (nI e)), (3, .int (nI 1)), (4, .int ty), (5, .int n), (6, .int s), (7, .int rc)]) G dX8_met_144 (by decide) rfl rfl ?_
                  refine jv_iload (q := 148) G 3 dX8_met_146 rfl rfl ?_
                  refine jv_iconst (q := 149) (v := (-1)) G dX8_met_148 (by decide) rfl ?_
                  refine jv_icmp_eq (q := 152) (tgt := 163) G dX8_met_149 (by decide) rfl (fun c119 => ?_) (fun c119 => ?_)
                  · refine jv_iconst (q := 164) (v := nI 1) G dX8_met_163 (by decide) rfl ?_
                    refine jv_iret G hr dX8_met_164 (Nat.le_of_ble_eq_true rfl) (Nat.le_of_ble_eq_true rfl) ?_
                    have hz : (m_met (decide (e = ec)) tsC ts pk su 1 ty n s rc) = (1, none) := by
                      unfold m_met m_isC m_bd
                      simp only [*, if_true, if_false, Bool.false_eq_true, reduceIte, Option.map_some, decide_true, decide_false, not_true_eq_false, not_false_eq_true, and_true, true_and, and_false, false_and, or_true, true_or, or_false, false_or, Bool.or_true, Bool.or_false, Bool.true_or, Bool.false_or, reduceCtorEq] <;> first | rfl | (simp_all; done) | (split <;> simp_all)
                    exact ⟨by rw [hz], hrs.tr hsc.rs, by rw [hz]; exact (hsc.x hS 32).trans hran⟩
                  · exact absurd rfl c119
                · omega
              · omega
          · exact absurd rfl c115
        · refine jv_topI (y := nI (6 * (10 * ec + p111.1) + p111.2)) (by rw [hp114]; rfl) ?_
          obtain ⟨t112, ht112, m113, hm113⟩ := m_co_mem hp114
          have Tt112 := (hEC.2.2 p111.1 t112 ht112).1
          have Ot112 := (hEC.2.2 p111.1 t112 ht112).2
          have Lt112 := hEC.2.1
          have lt112 := jv_ltGet ht112
          have Mm113 := rt_m Tt112 hm113
          have Om113 := Ot112.2.2.2.2.2.2 m113 (List.mem_of_getElem? hm113)
          have Lm113 := Ot112.2.2.2.2.2.1
          have lm113 := jv_ltGet hm113
          have Bm113n := Om113.1; have Bm113s := Om113.2.1; have Bm113a := Om113.2.2.1; have Bt112n := Ot112.1; have Bt112k := Ot112.2.1
          refine jv_goto (q := 40) G dX8_met_36 (by decide) ?_
          refine jv_istore (q := 42) (lo' := [(9, .int (nI (6 * (10 * ec + p111.1) + p111.2))), (8, .int (-1)), (0, .ref x), (1, .int (nI c)), (2, .int (nI e)), (3, .int (nI 1)), (4, .int ty), (5, .int n), (6, .int s), (7, .int rc)]) G dX8_met_40 (by decide) rfl rfl ?_
          refine jv_iload (q := 44) G 0 dX8_met_42 rfl rfl ?_
          refine jv_iconst (q := 45) (v := (-1)) G dX8_met_44 (by decide) rfl ?_
          refine jv_icmp_eq (q := 48) (tgt := 111) G dX8_met_45 (by decide) rfl (fun c120 => ?_) (fun c120 => ?_)
          · exact absurd c120 (jv_nI_m1 (by omega))
          · refine jv_iload (q := 50) G 1 dX8_met_48 rfl rfl ?_
            refine jv_iconst (q := 51) (v := (-1)) G dX8_met_50 (by decide) rfl ?_
            refine jv_icmp_ne (q := 54) (tgt := 58) G dX8_met_51 (by decide) rfl (fun c121 => ?_) (fun c121 => ?_)
            · exact absurd rfl c121
            · refine jv_iconst (q := 55) (v := (-1)) G dX8_met_54 (by decide) rfl ?_
              refine jv_goto (q := 69) G dX8_met_55 (by decide) ?_
              refine jv_istore (q := 71) (lo' := [(10, .int (-1)), (9, .int (nI (6 * (10 * ec + p111.1) + p111.2))), (8, .int (-1)), (0, .ref x), (1, .int (nI c)), (2, .int (nI e)), (3, .int (nI 1)), (4, .int ty), (5, .int n), (6, .int s), (7, .int rc)]) G dX8_met_69 (by decide) rfl rfl ?_
              refine jv_iload (q := 73) G 0 dX8_met_71 rfl rfl ?_
              refine jv_iconst (q := 74) (v := (-1)) G dX8_met_73 (by decide) rfl ?_
              refine jv_icmp_eq (q := 77) (tgt := 108) G dX8_met_74 (by decide) rfl (fun c122 => ?_) (fun c122 => ?_)
              · refine jv_bipush (q := 110) (v := nI 9) G dX8_met_108 (by decide) rfl ?_
                refine jv_iret G hr dX8_met_110 (Nat.le_of_ble_eq_true rfl) (Nat.le_of_ble_eq_true rfl) ?_
                have hz : (m_met (decide (e = ec)) tsC ts pk su 1 ty n s rc) = (9, none) := by
                  unfold m_met m_isC m_bd
                  simp only [*, if_true, if_false, Bool.false_eq_true, reduceIte, Option.map_some, decide_true, decide_false, not_true_eq_false, not_false_eq_true, and_true, true_and, and_false, false_and, or_true, true_or, or_false, false_or, Bool.or_true, Bool.or_false, Bool.true_or, Bool.false_or, reduceCtorEq] <;> first | rfl | (simp_all; done) | (split <;> simp_all)
                exact ⟨by rw [hz], hrs.tr hsc.rs, by rw [hz]; exact (hsc.x hS 32).trans hran⟩
              · exact absurd rfl c122
    · refine jv_topI (y := nI (10 * e + k102)) (by rw [hk104]; rfl) ?_
      obtain ⟨t103, ht103, nt103, lt103⟩ := m_at_some hk104
      have Tt103 := (hE.2.2 k102 t103 ht103).1
      have Ot103 := (hE.2.2 k102 t103 ht103).2
      have Lt103 := hE.2.1
      have Bt103n := Ot103.1; have Bt103k := Ot103.2.1
      refine jv_istore (q := 14) (lo' := [(8, .int (nI (10 * e + k102))), (0, .ref x), (1, .int (nI c)), (2, .int (nI e)), (3, .int (nI 1)), (4, .int ty), (5, .int n), (6, .int s), (7, .int rc)]) G dX8_met_12 (by decide) rfl rfl ?_
      refine jv_iload_n (q := 15) G 3 dX8_met_14 rfl rfl rfl ?_
      refine jv_aload_n (q := 16) G 1 dX8_met_15 rfl rfl rfl ?_
      refine jv_getQ (q := 19) G dX8_met_16 fl_X8_68 rfl (hsc.S hS).1 (rf_p22 (hsc.S hS)) rfl ?_
      refine jv_iload_n (q := 20) G 2 dX8_met_19 rfl rfl rfl ?_
      refine jv_iald (q := 21) G dX8_met_20 (rf_a22 (hsc.S hS)) rfl (by omega) (by decide) ((hsc.I2 hS 22 (by decide) rfl (by decide) c).trans hce) rfl ?_
      refine jv_icmp_eqN (q := 24) (tgt := 39) G dX8_met_21 (by decide) rfl (by omega) (by omega) (fun c123 => ?_) (fun c123 => ?_)
      · refine jv_iconst (q := 40) (v := (-1)) G dX8_met_39 (by decide) rfl ?_
        refine jv_istore (q := 42) (lo' := [(9, .int (-1)), (8, .int (nI (10 * e + k102))), (0, .ref x), (1, .int (nI c)), (2, .int (nI e)), (3, .int (nI 1)), (4, .int ty), (5, .int n), (6, .int s), (7, .int rc)]) G dX8_met_40 (by decide) rfl rfl ?_
        refine jv_iload (q := 44) G 0 dX8_met_42 rfl rfl ?_
        refine jv_iconst (q := 45) (v := (-1)) G dX8_met_44 (by decide) rfl ?_
        refine jv_icmp_eq (q := 48) (tgt := 111) G dX8_met_45 (by decide) rfl (fun c124 => ?_) (fun c124 => ?_)
        · refine jv_iload_n (q := 112) G 5 dX8_met_111 rfl rfl rfl ?_
          refine jv_iconst (q := 113) (v := nI 2) G dX8_met_112 (by decide) rfl ?_
          refine jv_icmp_eqN (q := 116) (tgt := 121) G dX8_met_113 (by decide) rfl (by omega) (by omega) (fun c125 => ?_) (fun c125 => ?_)
          · omega
          · refine jv_iload_n (q := 117) G 5 dX8_met_116 rfl rfl rfl ?_
            refine jv_iconst (q := 118) (v := nI 4) G dX8_met_117 (by decide) rfl ?_
            refine jv_icmp_neN (q := 121) (tgt := 125) G dX8_met_118 (by decide) rfl (by omega) (by omega) (fun c126 => ?_) (fun c126 => ?_)
            · refine jv_iconst (q := 126) (v := nI 0) G dX8_met_125 (by decide) rfl ?_
              refine jv_istore (q := 128) (lo' := [(10, .int (nI 0)), (9, .int (-1)), (8, .int (nI (10 * e + k102))), (0, .ref x), (1, .int (nI c)), (2, .int (nI e)), (3, .int (nI 1)), (4, .int ty), (5, .int n), (6, .int s), (7, .int rc)]) G dX8_met_126 (by decide) rfl rfl ?_
              refine jv_iload (q := 130) G 0 dX8_met_128 rfl rfl ?_
              refine jv_if_eqN (q := 133) (tgt := 143) G dX8_met_130 (by decide) rfl (by omega) (fun c127 => ?_) (fun c127 => ?_)
              · refine jv_iconst (q := 144) (v := (-1)) G dX8_met_143 (by decide) rfl ?_
                refine jv_istore (q := 146) (lo' := [(11, .int (-1)), (10, .int (nI 0)), (9, .int (-1)), (8, .int (nI (10 * e + k102))), (0, .ref x), (1, .int (nI c)), (2, .int (nI e)), (3, .int (nI 1)), (4, .int ty), (5, .int n), (6, .int s), (7, .int rc)]) G dX8_met_144 (by decide) rfl rfl ?_
                refine jv_iload (q := 148) G 3 dX8_met_146 rfl rfl ?_
                refine jv_iconst (q := 149) (v := (-1)) G dX8_met_148 (by decide) rfl ?_
                refine jv_icmp_eq (q := 152) (tgt := 163) G dX8_met_149 (by decide) rfl (fun c128 => ?_) (fun c128 => ?_)
                · exact absurd c128 (jv_nI_m1 (by omega))
                · refine jv_iload (q := 154) G 1 dX8_met_152 rfl rfl ?_
                  refine jv_if_eqN (q := 157) (tgt := 165) G dX8_met_154 (by decide) rfl (by omega) (fun c129 => ?_) (fun c129 => ?_)
                  · refine jv_aload_n (q := 166) G 4 dX8_met_165 rfl rfl rfl ?_
                    refine jv_getQ (q := 169) G dX8_met_166 fl_X8_29 rfl (hsc.S hS).1 (rf_p8 (hsc.S hS)) rfl ?_
                    refine jv_iload (q := 171) G 3 dX8_met_169 rfl rfl ?_
                    refine jv_zald (q := 172) G dX8_met_171 (rf_a8 (hsc.S hS)) rfl (by omega) (by decide) (rt_8 (hsc.T hS Tt103)) rfl ?_
                    refine jv_if_neB (q := 175) (tgt := 193) G dX8_met_172 (by decide) rfl (fun c130 => ?_) (fun c130 => ?_)
                    · refine jv_iload_n (q := 194) G 7 dX8_met_193 rfl rfl rfl ?_
                      refine jv_iconst (q := 195) (v := nI 2) G dX8_met_194 (by decide) rfl ?_
                      refine jv_icmp_neN (q := 198) (tgt := 208) G dX8_met_195 (by decide) rfl (by omega) (by omega) (fun c131 => ?_) (fun c131 => ?_)
                      · refine jv_iload_n (q := 209) G 7 dX8_met_208 rfl rfl rfl ?_
                        refine jv_iconst (q := 210) (v := nI 4) G dX8_met_209 (by decide) rfl ?_
                        refine jv_icmp_neN (q := 213) (tgt := 226) G dX8_met_210 (by decide) rfl (by omega) (by omega) (fun c132 => ?_) (fun c132 => ?_)
                        · refine jv_iload_n (q := 227) G 7 dX8_met_226 rfl rfl rfl ?_
                          refine jv_iconst (q := 228) (v := nI 5) G dX8_met_227 (by decide) rfl ?_
                          refine jv_icmp_neN (q := 231) (tgt := 247) G dX8_met_228 (by decide) rfl (by omega) (by omega) (fun c133 => ?_) (fun c133 => ?_)
                          · refine jv_iload_n (q := 248) G 7 dX8_met_247 rfl rfl rfl ?_
                            refine jv_iconst (q := 249) (v := nI 2) G dX8_met_248 (by decide) rfl ?_
                            refine jv_icmp_geN (q := 252) (tgt := 266) G dX8_met_249 (by decide) rfl (by omega) (by omega) (fun c134 => ?_) (fun c134 => ?_)
                            · omega
                            · refine jv_aload_n (q := 253) G 4 dX8_met_252 rfl rfl rfl ?_
                              refine jv_iload_n (q := 254) G 6 dX8_met_253 rfl rfl rfl ?_
                              refine jv_iload (q := 256) G 3 dX8_met_254 rfl rfl ?_
                              refine jv_iload (q := 258) G 9 dX8_met_256 rfl rfl ?_
                              refine jv_iload (q := 260) G 10 dX8_met_258 rfl rfl ?_
                              refine jv_callV_I (q := 263) (h1 := h101) (As := [.int (nI e), .int (nI (10 * e + k102)), .int n, .int s]) (rest := []) (ce' := 0) (sl' := 0) (r := (ffE e (m_ff ts 11 k102 n s))) G Z ml_X8_173 (r_findField hlt hsc hS he hE 11 k102 (hg k102 (by omega)) (by omega)) (hsc.S hS).1 dX8_met_260 rfl (by decide) (by decide) (by decide) (by decide) (Nat.le_of_ble_eq_true rfl) rfl rfl rfl rfl ?_
                              rcases Option.eq_none_or_eq_some (m_ff ts 11 k102 n s) with hp138 | ⟨p135, hp138⟩
                              · refine jv_topI (y := (-1)) (by rw [hp138]; rfl) ?_
                                refine jv_goto (q := 277) G dX8_met_263 (by decide) ?_
                                refine jv_istore (q := 279) (lo' := [(12, .int (-1)), (11, .int (-1)), (10, .int (nI 0)), (9, .int (-1)), (8, .int (nI (10 * e + k102))), (0, .ref x), (1, .int (nI c)), (2, .int (nI e)), (3, .int (nI 1)), (4, .int ty), (5, .int n), (6, .int s), (7, .int rc)]) G dX8_met_277 (by decide) rfl rfl ?_
                                refine jv_iload (q := 281) G 0 dX8_met_279 rfl rfl ?_
                                refine jv_iconst (q := 282) (v := (-1)) G dX8_met_281 (by decide) rfl ?_
                                refine jv_icmp_ne (q := 285) (tgt := 287) G dX8_met_282 (by decide) rfl (fun c139 => ?_) (fun c139 => ?_)
                                · exact absurd rfl c139
                                · refine jv_iconst (q := 286) (v := nI 2) G dX8_met_285 (by decide) rfl ?_
                                  refine jv_iret G hr dX8_met_286 (Nat.le_of_ble_eq_true rfl) (Nat.le_of_ble_eq_true rfl) ?_
                                  have hz : (m_met (decide (e = ec)) tsC ts pk su 1 ty n s rc) = (2, none) := by
                                    unfold m_met m_isC m_bd
                                    simp only [*, if_true, if_false, Bool.false_eq_true, reduceIte, Option.map_some, decide_true, decide_false, not_true_eq_false, not_false_eq_true, and_true, true_and, and_false, false_and, or_true, true_or, or_false, false_or, Bool.or_true, Bool.or_false, Bool.true_or, Bool.false_or, reduceCtorEq] <;> first | rfl | (simp_all; done) | (split <;> simp_all)
                                  exact ⟨by rw [hz], hrs.tr hsc.rs, by rw [hz]; exact (hsc.x hS 32).trans hran⟩
                              · refine jv_topI (y := nI (6 * (10 * e + p135.1) + p135.2)) (by rw [hp138]; rfl) ?_
                                obtain ⟨t136, ht136, m137, hm137⟩ := m_ff_mem hp138
                                have Tt136 := (hE.2.2 p135.1 t136 ht136).1
                                have Ot136 := (hE.2.2 p135.1 t136 ht136).2
                                have Lt136 := hE.2.1
                                have lt136 := jv_ltGet ht136
                                have Mm137 := rt_m Tt136 hm137
                                have Om137 := Ot136.2.2.2.2.2.2 m137 (List.mem_of_getElem? hm137)
                                have Lm137 := Ot136.2.2.2.2.2.1
                                have lm137 := jv_ltGet hm137
                                have Bm137n := Om137.1; have Bm137s := Om137.2.1; have Bm137a := Om137.2.2.1; have Bt136n := Ot136.1; have Bt136k := Ot136.2.1
                                refine jv_goto (q := 277) G dX8_met_263 (by decide) ?_
                                refine jv_istore (q := 279) (lo' := [(12, .int (nI (6 * (10 * e + p135.1) + p135.2))), (11, .int (-1)), (10, .int (nI 0)), (9, .int (-1)), (8, .int (nI (10 * e + k102))), (0, .ref x), (1, .int (nI c)), (2, .int (nI e)), (3, .int (nI 1)), (4, .int ty), (5, .int n), (6, .int s), (7, .int rc)]) G dX8_met_277 (by decide) rfl rfl ?_
                                refine jv_iload (q := 281) G 0 dX8_met_279 rfl rfl ?_
                                refine jv_iconst (q := 282) (v := (-1)) G dX8_met_281 (by decide) rfl ?_
                                refine jv_icmp_ne (q := 285) (tgt := 287) G dX8_met_282 (by decide) rfl (fun c140 => ?_) (fun c140 => ?_)
                                · refine jv_aload_n (q := 288) G 5 dX8_met_287 rfl rfl rfl ?_
                                  refine jv_iload_n (q := 289) G 6 dX8_met_288 rfl rfl rfl ?_
                                  refine jv_iload_n (q := 290) G 7 dX8_met_289 rfl rfl rfl ?_
                                  refine jv_iload (q := 292) G 0 dX8_met_290 rfl rfl ?_
                                  refine jv_callV_I (q := 295) (h1 := h101) (As := [.int (nI c), .int (nI e), .int (nI (6 * (10 * e + p135.1) + p135.2))]) (rest := []) (ce' := 0) (sl' := 0) (r := jv_bI (m_mr ts pk su t136 m137)) G Z ml_X8_199 (r_mayReach hlt hsc hS hc he hE hV ht136 hm137 hpk hpk5 hsu hsu16) (hsc.S hS).1 dX8_met_292 rfl (by decide) (by decide) (by decide) (by decide) (Nat.le_of_ble_eq_true rfl) rfl rfl rfl rfl ?_
                                  refine jv_if_neB (q := 298) (tgt := 300) G dX8_met_295 (by decide) rfl (fun c141 => ?_) (fun c141 => ?_)
                                  · refine jv_aload_n (q := 301) G 5 dX8_met_300 rfl rfl rfl ?_
                                    refine jv_getQ (q := 304) G dX8_met_301 fl_X8_56 rfl (hsc.S hS).1 (rf_p17 (hsc.S hS)) rfl ?_
                                    refine jv_iload (q := 306) G 0 dX8_met_304 rfl rfl ?_
                                    refine jv_zald (q := 307) G dX8_met_306 (rf_a17 (hsc.S hS)) rfl (by omega) (by decide) (hsc.M hS Mm137).2.2.2.2.1 rfl ?_
                                    refine jv_iload_n (q := 308) G 8 dX8_met_307 rfl rfl rfl ?_
                                    refine jv_iconst (q := 309) (v := nI 1) G dX8_met_308 (by decide) rfl ?_
                                    refine jv_icmp_eqN (q := 312) (tgt := 317) G dX8_met_309 (by decide) rfl (by omega) (by omega) (fun c142 => ?_) (fun c142 => ?_)
                                    · refine jv_iconst (q := 318) (v := nI 1) G dX8_met_317 (by decide) rfl ?_
                                      refine jv_goto (q := 322) G dX8_met_318 (by decide) ?_
                                      refine jv_icmp_eq (q := 325) (tgt := 327) G dX8_met_322 (by decide) rfl (fun c143 => ?_) (fun c143 => ?_)
                                      · refine jv_iload (q := 329) G 2 dX8_met_327 rfl rfl ?_
                                        refine jv_if_neN (q := 332) (tgt := 357) G dX8_met_329 (by decide) rfl (by omega) (fun c144 => ?_) (fun c144 => ?_)
                                        · omega
                                        · refine jv_aload_n (q := 333) G 5 dX8_met_332 rfl rfl rfl ?_
                                          refine jv_iload_n (q := 334) G 8 dX8_met_333 rfl rfl rfl ?_
                                          refine jv_iconst (q := 335) (v := nI 3) G dX8_met_334 (by decide) rfl ?_
                                          refine jv_icmp_neN (q := 338) (tgt := 351) G dX8_met_335 (by decide) rfl (by omega) (by omega) (fun c145 => ?_) (fun c145 => ?_)
                                          · refine jv_iconst (q := 352) (v := (-1)) G dX8_met_351 (by decide) rfl ?_
                                            refine jv_putI (q := 355) G dX8_met_352 fl_X8_192 rfl (hsc.S hS).1 rfl ?_
                                            have hr1 : rs x q h101 (jv_wI h101 x 32 (-1)) := rs.rf.wI (-1) (Or.inl ⟨rfl, Or.inr (Or.inl rfl)⟩)
                                            have hran : jv_I (jv_wI h101 x 32 (-1)) x 32 = (-1) := jv_I_self _ _ _ _
                                            have hSb := hsc.S hS
                                            have hE := hr1.E hSb (hsc.E hS hE)
                                            have hV := hr1.V hSb (hsc.V hS hV)
                                            have hEC := hr1.E hSb (hsc.E hS hEC)
                                            have hVC := hr1.V hSb (hsc.V hS hVC)
                                            have hce := (wx_I hSb 22 (by decide) rfl 32 c (-1)).trans ((hsc.I2 hS 22 (by decide) rfl (by decide) c).trans hce)
                                            have hpk := (wx_I hSb 23 (by decide) rfl 32 c (-1)).trans ((hsc.I2 hS 23 (by decide) rfl (by decide) c).trans hpk)
                                            have hsu := (wx_I hSb 24 (by decide) rfl 32 c (-1)).trans ((hsc.I2 hS 24 (by decide) rfl (by decide) c).trans hsu)
                                            have hrs := (hrs.tr hsc.rs).tr hr1
                                            have hS := hr1.S hSb
                                            generalize jv_wI h101 x 32 (-1) = h146 at hran hE hV hEC hVC hce hpk hsu hrs hS ⊢
                                            have hsc : sc x q h146 h146 := sc.rf
                                            refine jv_iconst (q := 356) (v := nI 0) G dX8_met_355 (by decide) rfl ?_
                                            refine jv_iret G hr dX8_met_356 (Nat.le_of_ble_eq_true rfl) (Nat.le_of_ble_eq_true rfl) ?_
                                            have hz : (m_met (decide (e = ec)) tsC ts pk su 1 ty n s rc) = (0, none) := by
                                              unfold m_met m_isC m_bd
                                              simp only [*, if_true, if_false, Bool.false_eq_true, reduceIte, Option.map_some, decide_true, decide_false, not_true_eq_false, not_false_eq_true, and_true, true_and, and_false, false_and, or_true, true_or, or_false, false_or, Bool.or_true, Bool.or_false, Bool.true_or, Bool.false_or, reduceCtorEq] <;> first | rfl | (simp_all; done) | (split <;> simp_all)
                                            exact ⟨by rw [hz], hrs.tr hsc.rs, by rw [hz]; exact (hsc.x hS 32).trans hran⟩
                                          · omega
                                      · refine jv_iconst (q := 326) (v := nI 4) G dX8_met_325 (by decide) rfl ?_
                                        refine jv_iret G hr dX8_met_326 (Nat.le_of_ble_eq_true rfl) (Nat.le_of_ble_eq_true rfl) ?_
                                        have hz : (m_met (decide (e = ec)) tsC ts pk su 1 ty n s rc) = (4, none) := by
                                          unfold m_met m_isC m_bd
                                          simp only [*, if_true, if_false, Bool.false_eq_true, reduceIte, Option.map_some, decide_true, decide_false, not_true_eq_false, not_false_eq_true, and_true, true_and, and_false, false_and, or_true, true_or, or_false, false_or, Bool.or_true, Bool.or_false, Bool.true_or, Bool.false_or, reduceCtorEq] <;> first | rfl | (simp_all; done) | (split <;> simp_all)
                                        exact ⟨by rw [hz], hrs.tr hsc.rs, by rw [hz]; exact (hsc.x hS 32).trans hran⟩
                                    · omega
                                  · refine jv_iconst (q := 299) (v := nI 3) G dX8_met_298 (by decide) rfl ?_
                                    refine jv_iret G hr dX8_met_299 (Nat.le_of_ble_eq_true rfl) (Nat.le_of_ble_eq_true rfl) ?_
                                    have hz : (m_met (decide (e = ec)) tsC ts pk su 1 ty n s rc) = (3, none) := by
                                      unfold m_met m_isC m_bd
                                      simp only [*, if_true, if_false, Bool.false_eq_true, reduceIte, Option.map_some, decide_true, decide_false, not_true_eq_false, not_false_eq_true, and_true, true_and, and_false, false_and, or_true, true_or, or_false, false_or, Bool.or_true, Bool.or_false, Bool.true_or, Bool.false_or, reduceCtorEq] <;> first | rfl | (simp_all; done) | (split <;> simp_all)
                                    exact ⟨by rw [hz], hrs.tr hsc.rs, by rw [hz]; exact (hsc.x hS 32).trans hran⟩
                                · exact absurd c140 (jv_nI_m1 (by omega))
                          · omega
                        · omega
                      · omega
                    · refine jv_aload_n (q := 176) G 4 dX8_met_175 rfl rfl rfl ?_
                      refine jv_getQ (q := 179) G dX8_met_176 fl_X8_26 rfl (hsc.S hS).1 (rf_p7 (hsc.S hS)) rfl ?_
                      refine jv_iload (q := 181) G 3 dX8_met_179 rfl rfl ?_
                      refine jv_iald (q := 182) G dX8_met_181 (rf_a7 (hsc.S hS)) rfl (by omega) (by decide) (rt_7 (hsc.T hS Tt103)) rfl ?_
                      refine jv_aload_n (q := 183) G 4 dX8_met_182 rfl rfl rfl ?_
                      refine jv_getQ (q := 186) G dX8_met_183 fl_X8_71 rfl (hsc.S hS).1 (rf_p23 (hsc.S hS)) rfl ?_
                      refine jv_iload_n (q := 187) G 5 dX8_met_186 rfl rfl rfl ?_
                      refine jv_iald (q := 188) G dX8_met_187 (rf_a23 (hsc.S hS)) rfl (by omega) (by decide) rfl rfl ?_
                      refine jv_icmp_eq (q := 191) (tgt := 193) G dX8_met_188 (by decide) rfl (fun c147 => ?_) (fun c147 => ?_)
                      · refine jv_iload_n (q := 194) G 7 dX8_met_193 rfl rfl rfl ?_
                        refine jv_iconst (q := 195) (v := nI 2) G dX8_met_194 (by decide) rfl ?_
                        refine jv_icmp_neN (q := 198) (tgt := 208) G dX8_met_195 (by decide) rfl (by omega) (by omega) (fun c148 => ?_) (fun c148 => ?_)
                        · refine jv_iload_n (q := 209) G 7 dX8_met_208 rfl rfl rfl ?_
                          refine jv_iconst (q := 210) (v := nI 4) G dX8_met_209 (by decide) rfl ?_
                          refine jv_icmp_neN (q := 213) (tgt := 226) G dX8_met_210 (by decide) rfl (by omega) (by omega) (fun c149 => ?_) (fun c149 => ?_)
                          · refine jv_iload_n (q := 227) G 7 dX8_met_226 rfl rfl rfl ?_
                            refine jv_iconst (q := 228) (v := nI 5) G dX8_met_227 (by decide) rfl ?_
                            refine jv_icmp_neN (q := 231) (tgt := 247) G dX8_met_228 (by decide) rfl (by omega) (by omega) (fun c150 => ?_) (fun c150 => ?_)
                            · refine jv_iload_n (q := 248) G 7 dX8_met_247 rfl rfl rfl ?_
                              refine jv_iconst (q := 249) (v := nI 2) G dX8_met_248 (by decide) rfl ?_
                              refine jv_icmp_geN (q := 252) (tgt := 266) G dX8_met_249 (by decide) rfl (by omega) (by omega) (fun c151 => ?_) (fun c151 => ?_)
                              · omega
                              · refine jv_aload_n (q := 253) G 4 dX8_met_252 rfl rfl rfl ?_
                                refine jv_iload_n (q := 254) G 6 dX8_met_253 rfl rfl rfl ?_
                                refine jv_iload (q := 256) G 3 dX8_met_254 rfl rfl ?_
                                refine jv_iload (q := 258) G 9 dX8_met_256 rfl rfl ?_
                                refine jv_iload (q := 260) G 10 dX8_met_258 rfl rfl ?_
                                refine jv_callV_I (q := 263) (h1 := h101) (As := [.int (nI e), .int (nI (10 * e + k102)), .int n, .int s]) (rest := []) (ce' := 0) (sl' := 0) (r := (ffE e (m_ff ts 11 k102 n s))) G Z ml_X8_173 (r_findField hlt hsc hS he hE 11 k102 (hg k102 (by omega)) (by omega)) (hsc.S hS).1 dX8_met_260 rfl (by decide) (by decide) (by decide) (by decide) (Nat.le_of_ble_eq_true rfl) rfl rfl rfl rfl ?_
                                rcases Option.eq_none_or_eq_some (m_ff ts 11 k102 n s) with hp155 | ⟨p152, hp155⟩
                                · refine jv_topI (y := (-1)) (by rw [hp155]; rfl) ?_
                                  refine jv_goto (q := 277) G dX8_met_263 (by decide) ?_
                                  refine jv_istore (q := 279) (lo' := [(12, .int (-1)), (11, .int (-1)), (10, .int (nI 0)), (9, .int (-1)), (8, .int (nI (10 * e + k102))), (0, .ref x), (1, .int (nI c)), (2, .int (nI e)), (3, .int (nI 1)), (4, .int ty), (5, .int n), (6, .int s), (7, .int rc)]) G dX8_met_277 (by decide) rfl rfl ?_
                                  refine jv_iload (q := 281) G 0 dX8_met_279 rfl rfl ?_
                                  refine jv_iconst (q := 282) (v := (-1)) G dX8_met_281 (by decide) rfl ?_
                                  refine jv_icmp_ne (q := 285) (tgt := 287) G dX8_met_282 (by decide) rfl (fun c156 => ?_) (fun c156 => ?_)
                                  · exact absurd rfl c156
                                  · refine jv_iconst (q := 286) (v := nI 2) G dX8_met_285 (by decide) rfl ?_
                                    refine jv_iret G hr dX8_met_286 (Nat.le_of_ble_eq_true rfl) (Nat.le_of_ble_eq_true rfl) ?_
                                    have hz : (m_met (decide (e = ec)) tsC ts pk su 1 ty n s rc) = (2, none) := by
                                      unfold m_met m_isC m_bd
                                      simp only [*, if_true, if_false, Bool.false_eq_true, reduceIte, Option.map_some, decide_true, decide_false, not_true_eq_false, not_false_eq_true, and_true, true_and, and_false, false_and, or_true, true_or, or_false, false_or, Bool.or_true, Bool.or_false, Bool.true_or, Bool.false_or, reduceCtorEq] <;> first | rfl | (simp_all; done) | (split <;> simp_all)
                                    exact ⟨by rw [hz], hrs.tr hsc.rs, by rw [hz]; exact (hsc.x hS 32).trans hran⟩
                                · refine jv_topI (y := nI (6 * (10 * e + p152.1) + p152.2)) (by rw [hp155]; rfl) ?_
                                  obtain ⟨t153, ht153, m154, hm154⟩ := m_ff_mem hp155
                                  have Tt153 := (hE.2.2 p152.1 t153 ht153).1
                                  have Ot153 := (hE.2.2 p152.1 t153 ht153).2
                                  have Lt153 := hE.2.1
                                  have lt153 := jv_ltGet ht153
                                  have Mm154 := rt_m Tt153 hm154
                                  have Om154 := Ot153.2.2.2.2.2.2 m154 (List.mem_of_getElem? hm154)
                                  have Lm154 := Ot153.2.2.2.2.2.1
                                  have lm154 := jv_ltGet hm154
                                  have Bm154n := Om154.1; have Bm154s := Om154.2.1; have Bm154a := Om154.2.2.1; have Bt153n := Ot153.1; have Bt153k := Ot153.2.1
                                  refine jv_goto (q := 277) G dX8_met_263 (by decide) ?_
                                  refine jv_istore (q := 279) (lo' := [(12, .int (nI (6 * (10 * e + p152.1) + p152.2))), (11, .int (-1)), (10, .int (nI 0)), (9, .int (-1)), (8, .int (nI (10 * e + k102))), (0, .ref x), (1, .int (nI c)), (2, .int (nI e)), (3, .int (nI 1)), (4, .int ty), (5, .int n), (6, .int s), (7, .int rc)]) G dX8_met_277 (by decide) rfl rfl ?_
                                  refine jv_iload (q := 281) G 0 dX8_met_279 rfl rfl ?_
                                  refine jv_iconst (q := 282) (v := (-1)) G dX8_met_281 (by decide) rfl ?_
                                  refine jv_icmp_ne (q := 285) (tgt := 287) G dX8_met_282 (by decide) rfl (fun c157 => ?_) (fun c157 => ?_)
                                  · refine jv_aload_n (q := 288) G 5 dX8_met_287 rfl rfl rfl ?_
                                    refine jv_iload_n (q := 289) G 6 dX8_met_288 rfl rfl rfl ?_
                                    refine jv_iload_n (q := 290) G 7 dX8_met_289 rfl rfl rfl ?_
                                    refine jv_iload (q := 292) G 0 dX8_met_290 rfl rfl ?_
                                    refine jv_callV_I (q := 295) (h1 := h101) (As := [.int (nI c), .int (nI e), .int (nI (6 * (10 * e + p152.1) + p152.2))]) (rest := []) (ce' := 0) (sl' := 0) (r := jv_bI (m_mr ts pk su t153 m154)) G Z ml_X8_199 (r_mayReach hlt hsc hS hc he hE hV ht153 hm154 hpk hpk5 hsu hsu16) (hsc.S hS).1 dX8_met_292 rfl (by decide) (by decide) (by decide) (by decide) (Nat.le_of_ble_eq_true rfl) rfl rfl rfl rfl ?_
                                    refine jv_if_neB (q := 298) (tgt := 300) G dX8_met_295 (by decide) rfl (fun c158 => ?_) (fun c158 => ?_)
                                    · refine jv_aload_n (q := 301) G 5 dX8_met_300 rfl rfl rfl ?_
                                      refine jv_getQ (q := 304) G dX8_met_301 fl_X8_56 rfl (hsc.S hS).1 (rf_p17 (hsc.S hS)) rfl ?_
                                      refine jv_iload (q := 306) G 0 dX8_met_304 rfl rfl ?_
                                      refine jv_zald (q := 307) G dX8_met_306 (rf_a17 (hsc.S hS)) rfl (by omega) (by decide) (hsc.M hS Mm154).2.2.2.2.1 rfl ?_
                                      refine jv_iload_n (q := 308) G 8 dX8_met_307 rfl rfl rfl ?_
                                      refine jv_iconst (q := 309) (v := nI 1) G dX8_met_308 (by decide) rfl ?_
                                      refine jv_icmp_eqN (q := 312) (tgt := 317) G dX8_met_309 (by decide) rfl (by omega) (by omega) (fun c159 => ?_) (fun c159 => ?_)
                                      · refine jv_iconst (q := 318) (v := nI 1) G dX8_met_317 (by decide) rfl ?_
                                        refine jv_goto (q := 322) G dX8_met_318 (by decide) ?_
                                        refine jv_icmp_eq (q := 325) (tgt := 327) G dX8_met_322 (by decide) rfl (fun c160 => ?_) (fun c160 => ?_)
                                        · refine jv_iload (q := 329) G 2 dX8_met_327 rfl rfl ?_
                                          refine jv_if_neN (q := 332) (tgt := 357) G dX8_met_329 (by decide) rfl (by omega) (fun c161 => ?_) (fun c161 => ?_)
                                          · omega
                                          · refine jv_aload_n (q := 333) G 5 dX8_met_332 rfl rfl rfl ?_
                                            refine jv_iload_n (q := 334) G 8 dX8_met_333 rfl rfl rfl ?_
                                            refine jv_iconst (q := 335) (v := nI 3) G dX8_met_334 (by decide) rfl ?_
                                            refine jv_icmp_neN (q := 338) (tgt := 351) G dX8_met_335 (by decide) rfl (by omega) (by omega) (fun c162 => ?_) (fun c162 => ?_)
                                            · refine jv_iconst (q := 352) (v := (-1)) G dX8_met_351 (by decide) rfl ?_
                                              refine jv_putI (q := 355) G dX8_met_352 fl_X8_192 rfl (hsc.S hS).1 rfl ?_
                                              have hr1 : rs x q h101 (jv_wI h101 x 32 (-1)) := rs.rf.wI (-1) (Or.inl ⟨rfl, Or.inr (Or.inl rfl)⟩)
                                              have hran : jv_I (jv_wI h101 x 32 (-1)) x 32 = (-1) := jv_I_self _ _ _ _
                                              have hSb := hsc.S hS
                                              have hE := hr1.E hSb (hsc.E hS hE)
                                              have hV := hr1.V hSb (hsc.V hS hV)
                                              have hEC := hr1.E hSb (hsc.E hS hEC)
                                              have hVC := hr1.V hSb (hsc.V hS hVC)
                                              have hce := (wx_I hSb 22 (by decide) rfl 32 c (-1)).trans ((hsc.I2 hS 22 (by decide) rfl (by decide) c).trans hce)
                                              have hpk := (wx_I hSb 23 (by decide) rfl 32 c (-1)).trans ((hsc.I2 hS 23 (by decide) rfl (by decide) c).trans hpk)
                                              have hsu := (wx_I hSb 24 (by decide) rfl 32 c (-1)).trans ((hsc.I2 hS 24 (by decide) rfl (by decide) c).trans hsu)
                                              have hrs := (hrs.tr hsc.rs).tr hr1
                                              have hS := hr1.S hSb
                                              generalize jv_wI h101 x 32 (-1) = h163 at hran hE hV hEC hVC hce hpk hsu hrs hS ⊢
                                              have hsc : sc x q h163 h163 := sc.rf
                                              refine jv_iconst (q := 356) (v := nI 0) G dX8_met_355 (by decide) rfl ?_
                                              refine jv_iret G hr dX8_met_356 (Nat.le_of_ble_eq_true rfl) (Nat.le_of_ble_eq_true rfl) ?_
                                              have hz : (m_met (decide (e = ec)) tsC ts pk su 1 ty n s rc) = (0, none) := by
                                                unfold m_met m_isC m_bd
                                                simp only [*, if_true, if_false, Bool.false_eq_true, reduceIte, Option.map_some, decide_true, decide_false, not_true_eq_false, not_false_eq_true, and_true, true_and, and_false, false_and, or_true, true_or, or_false, false_or, Bool.or_true, Bool.or_false, Bool.true_or, Bool.false_or, reduceCtorEq] <;> first | rfl | (simp_all; done) | (split <;> simp_all)
                                              exact ⟨by rw [hz], hrs.tr hsc.rs, by rw [hz]; exact (hsc.x hS 32).trans hran⟩
                                            · omega
                                        · refine jv_iconst (q := 326) (v := nI 4) G dX8_met_325 (by decide) rfl ?_
                                          refine jv_iret G hr dX8_met_326 (Nat.le_of_ble_eq_true rfl) (Nat.le_of_ble_eq_true rfl) ?_
                                          have hz : (m_met (decide (e = ec)) tsC ts pk su 1 ty n s rc) = (4, none) := by
                                            unfold m_met m_isC m_bd
                                            simp only [*, if_true, if_false, Bool.false_eq_true, reduceIte, Option.map_some, decide_true, decide_false, not_true_eq_false, not_false_eq_true, and_true, true_and, and_false, false_and, or_true, true_or, or_false, false_or, Bool.or_true, Bool.or_false, Bool.true_or, Bool.false_or, reduceCtorEq] <;> first | rfl | (simp_all; done) | (split <;> simp_all)
                                          exact ⟨by rw [hz], hrs.tr hsc.rs, by rw [hz]; exact (hsc.x hS 32).trans hran⟩
                                      · omega
                                    · refine jv_iconst (q := 299) (v := nI 3) G dX8_met_298 (by decide) rfl ?_
                                      refine jv_iret G hr dX8_met_299 (Nat.le_of_ble_eq_true rfl) (Nat.le_of_ble_eq_true rfl) ?_
                                      have hz : (m_met (decide (e = ec)) tsC ts pk su 1 ty n s rc) = (3, none) := by
                                        unfold m_met m_isC m_bd
                                        simp only [*, if_true, if_false, Bool.false_eq_true, reduceIte, Option.map_some, decide_true, decide_false, not_true_eq_false, not_false_eq_true, and_true, true_and, and_false, false_and, or_true, true_or, or_false, false_or, Bool.or_true, Bool.or_false, Bool.true_or, Bool.false_or, reduceCtorEq] <;> first | rfl | (simp_all; done) | (split <;> simp_all)
                                      exact ⟨by rw [hz], hrs.tr hsc.rs, by rw [hz]; exact (hsc.x hS 32).trans hran⟩
                                  · exact absurd c157 (jv_nI_m1 (by omega))
                            · omega
                          · omega
                        · omega
                      · refine jv_iconst (q := 192) (v := nI 3) G dX8_met_191 (by decide) rfl ?_
                        refine jv_iret G hr dX8_met_192 (Nat.le_of_ble_eq_true rfl) (Nat.le_of_ble_eq_true rfl) ?_
                        have hz : (m_met (decide (e = ec)) tsC ts pk su 1 ty n s rc) = (3, none) := by
                          unfold m_met m_isC m_bd
                          simp only [*, if_true, if_false, Bool.false_eq_true, reduceIte, Option.map_some, decide_true, decide_false, not_true_eq_false, not_false_eq_true, and_true, true_and, and_false, false_and, or_true, true_or, or_false, false_or, Bool.or_true, Bool.or_false, Bool.true_or, Bool.false_or, reduceCtorEq] <;> first | rfl | (simp_all; done) | (split <;> simp_all)
                        exact ⟨by rw [hz], hrs.tr hsc.rs, by rw [hz]; exact (hsc.x hS 32).trans hran⟩
                  · omega
              · omega
            · omega
        · exact absurd rfl c124
      · refine jv_aload_n (q := 25) G 1 dX8_met_24 rfl rfl rfl ?_
        refine jv_iload_n (q := 26) G 2 dX8_met_25 rfl rfl rfl ?_
        refine jv_iload_n (q := 27) G 4 dX8_met_26 rfl rfl rfl ?_
        refine jv_iload (q := 29) G 5 dX8_met_27 rfl rfl ?_
        refine jv_iload (q := 31) G 6 dX8_met_29 rfl rfl ?_
        refine jv_iload (q := 33) G 7 dX8_met_31 rfl rfl ?_
        refine jv_callV_I (q := 36) (h1 := h101) (As := [.int (nI c), .int (nI 1), .int ty, .int n, .int s]) (rest := []) (ce' := 0) (sl' := 0) (r := (ffE ec (m_co tsC 1 ty n s))) G Z ml_X8_195 (r_constantOf hlt hsc hS hc hec hEC hce (by decide) hgC) (hsc.S hS).1 dX8_met_33 rfl (by decide) (by decide) (by decide) (by decide) (Nat.le_of_ble_eq_true rfl) rfl rfl rfl rfl ?_
        rcases Option.eq_none_or_eq_some (m_co tsC 1 ty n s) with hp167 | ⟨p164, hp167⟩
        · refine jv_topI (y := (-1)) (by rw [hp167]; rfl) ?_
          refine jv_goto (q := 40) G dX8_met_36 (by decide) ?_
          refine jv_istore (q := 42) (lo' := [(9, .int (-1)), (8, .int (nI (10 * e + k102))), (0, .ref x), (1, .int (nI c)), (2, .int (nI e)), (3, .int (nI 1)), (4, .int ty), (5, .int n), (6, .int s), (7, .int rc)]) G dX8_met_40 (by decide) rfl rfl ?_
          refine jv_iload (q := 44) G 0 dX8_met_42 rfl rfl ?_
          refine jv_iconst (q := 45) (v := (-1)) G dX8_met_44 (by decide) rfl ?_
          refine jv_icmp_eq (q := 48) (tgt := 111) G dX8_met_45 (by decide) rfl (fun c168 => ?_) (fun c168 => ?_)
          · refine jv_iload_n (q := 112) G 5 dX8_met_111 rfl rfl rfl ?_
            refine jv_iconst (q := 113) (v := nI 2) G dX8_met_112 (by decide) rfl ?_
            refine jv_icmp_eqN (q := 116) (tgt := 121) G dX8_met_113 (by decide) rfl (by omega) (by omega) (fun c169 => ?_) (fun c169 => ?_)
            · omega
            · refine jv_iload_n (q := 117) G 5 dX8_met_116 rfl rfl rfl ?_
              refine jv_iconst (q := 118) (v := nI 4) G dX8_met_117 (by decide) rfl ?_
              refine jv_icmp_neN (q := 121) (tgt := 125) G dX8_met_118 (by decide) rfl (by omega) (by omega) (fun c170 => ?_) (fun c170 => ?_)
              · refine jv_iconst (q := 126) (v := nI 0) G dX8_met_125 (by decide) rfl ?_
                refine jv_istore (q := 128) (lo' := [(10, .int (nI 0)), (9, .int (-1)), (8, .int (nI (10 * e + k102))), (0, .ref x), (1, .int (nI c)), (2, .int (nI e)), (3, .int (nI 1)), (4, .int ty), (5, .int n), (6, .int s), (7, .int rc)]) G dX8_met_126 (by decide) rfl rfl ?_
                refine jv_iload (q := 130) G 0 dX8_met_128 rfl rfl ?_
                refine jv_if_eqN (q := 133) (tgt := 143) G dX8_met_130 (by decide) rfl (by omega) (fun c171 => ?_) (fun c171 => ?_)
                · refine jv_iconst (q := 144) (v := (-1)) G dX8_met_143 (by decide) rfl ?_
                  refine jv_istore (q := 146) (lo' := [(11, .int (-1)), (10, .int (nI 0)), (9, .int (-1)), (8, .int (nI (10 * e + k102))), (0, .ref x), (1, .int (nI c)), (2, .int (nI e)), (3, .int (nI 1)), (4, .int ty), (5, .int n), (6, .int s), (7, .int rc)]) G dX8_met_144 (by decide) rfl rfl ?_
                  refine jv_iload (q := 148) G 3 dX8_met_146 rfl rfl ?_
                  refine jv_iconst (q := 149) (v := (-1)) G dX8_met_148 (by decide) rfl ?_
                  refine jv_icmp_eq (q := 152) (tgt := 163) G dX8_met_149 (by decide) rfl (fun c172 => ?_) (fun c172 => ?_)
                  · exact absurd c172 (jv_nI_m1 (by omega))
                  · refine jv_iload (q := 154) G 1 dX8_met_152 rfl rfl ?_
                    refine jv_if_eqN (q := 157) (tgt := 165) G dX8_met_154 (by decide) rfl (by omega) (fun c173 => ?_) (fun c173 => ?_)
                    · refine jv_aload_n (q := 166) G 4 dX8_met_165 rfl rfl rfl ?_
                      refine jv_getQ (q := 169) G dX8_met_166 fl_X8_29 rfl (hsc.S hS).1 (rf_p8 (hsc.S hS)) rfl ?_
                      refine jv_iload (q := 171) G 3 dX8_met_169 rfl rfl ?_
                      refine jv_zald (q := 172) G dX8_met_171 (rf_a8 (hsc.S hS)) rfl (by omega) (by decide) (rt_8 (hsc.T hS Tt103)) rfl ?_
                      refine jv_if_neB (q := 175) (tgt := 193) G dX8_met_172 (by decide) rfl (fun c174 => ?_) (fun c174 => ?_)
                      · refine jv_iload_n (q := 194) G 7 dX8_met_193 rfl rfl rfl ?_
                        refine jv_iconst (q := 195) (v := nI 2) G dX8_met_194 (by decide) rfl ?_
                        refine jv_icmp_neN (q := 198) (tgt := 208) G dX8_met_195 (by decide) rfl (by omega) (by omega) (fun c175 => ?_) (fun c175 => ?_)
                        · refine jv_iload_n (q := 209) G 7 dX8_met_208 rfl rfl rfl ?_
                          refine jv_iconst (q := 210) (v := nI 4) G dX8_met_209 (by decide) rfl ?_
                          refine jv_icmp_neN (q := 213) (tgt := 226) G dX8_met_210 (by decide) rfl (by omega) (by omega) (fun c176 => ?_) (fun c176 => ?_)
                          · refine jv_iload_n (q := 227) G 7 dX8_met_226 rfl rfl rfl ?_
                            refine jv_iconst (q := 228) (v := nI 5) G dX8_met_227 (by decide) rfl ?_
                            refine jv_icmp_neN (q := 231) (tgt := 247) G dX8_met_228 (by decide) rfl (by omega) (by omega) (fun c177 => ?_) (fun c177 => ?_)
                            · refine jv_iload_n (q := 248) G 7 dX8_met_247 rfl rfl rfl ?_
                              refine jv_iconst (q := 249) (v := nI 2) G dX8_met_248 (by decide) rfl ?_
                              refine jv_icmp_geN (q := 252) (tgt := 266) G dX8_met_249 (by decide) rfl (by omega) (by omega) (fun c178 => ?_) (fun c178 => ?_)
                              · omega
                              · refine jv_aload_n (q := 253) G 4 dX8_met_252 rfl rfl rfl ?_
                                refine jv_iload_n (q := 254) G 6 dX8_met_253 rfl rfl rfl ?_
                                refine jv_iload (q := 256) G 3 dX8_met_254 rfl rfl ?_
                                refine jv_iload (q := 258) G 9 dX8_met_256 rfl rfl ?_
                                refine jv_iload (q := 260) G 10 dX8_met_258 rfl rfl ?_
                                refine jv_callV_I (q := 263) (h1 := h101) (As := [.int (nI e), .int (nI (10 * e + k102)), .int n, .int s]) (rest := []) (ce' := 0) (sl' := 0) (r := (ffE e (m_ff ts 11 k102 n s))) G Z ml_X8_173 (r_findField hlt hsc hS he hE 11 k102 (hg k102 (by omega)) (by omega)) (hsc.S hS).1 dX8_met_260 rfl (by decide) (by decide) (by decide) (by decide) (Nat.le_of_ble_eq_true rfl) rfl rfl rfl rfl ?_
                                rcases Option.eq_none_or_eq_some (m_ff ts 11 k102 n s) with hp182 | ⟨p179, hp182⟩
                                · refine jv_topI (y := (-1)) (by rw [hp182]; rfl) ?_
                                  refine jv_goto (q := 277) G dX8_met_263 (by decide) ?_
                                  refine jv_istore (q := 279) (lo' := [(12, .int (-1)), (11, .int (-1)), (10, .int (nI 0)), (9, .int (-1)), (8, .int (nI (10 * e + k102))), (0, .ref x), (1, .int (nI c)), (2, .int (nI e)), (3, .int (nI 1)), (4, .int ty), (5, .int n), (6, .int s), (7, .int rc)]) G dX8_met_277 (by decide) rfl rfl ?_
                                  refine jv_iload (q := 281) G 0 dX8_met_279 rfl rfl ?_
                                  refine jv_iconst (q := 282) (v := (-1)) G dX8_met_281 (by decide) rfl ?_
                                  refine jv_icmp_ne (q := 285) (tgt := 287) G dX8_met_282 (by decide) rfl (fun c183 => ?_) (fun c183 => ?_)
                                  · exact absurd rfl c183
                                  · refine jv_iconst (q := 286) (v := nI 2) G dX8_met_285 (by decide) rfl ?_
                                    refine jv_iret G hr dX8_met_286 (Nat.le_of_ble_eq_true rfl) (Nat.le_of_ble_eq_true rfl) ?_
                                    have hz : (m_met (decide (e = ec)) tsC ts pk su 1 ty n s rc) = (2, none) := by
                                      unfold m_met m_isC m_bd
                                      simp only [*, if_true, if_false, Bool.false_eq_true, reduceIte, Option.map_some, decide_true, decide_false, not_true_eq_false, not_false_eq_true, and_true, true_and, and_false, false_and, or_true, true_or, or_false, false_or, Bool.or_true, Bool.or_false, Bool.true_or, Bool.false_or, reduceCtorEq] <;> first | rfl | (simp_all; done) | (split <;> simp_all)
                                    exact ⟨by rw [hz], hrs.tr hsc.rs, by rw [hz]; exact (hsc.x hS 32).trans hran⟩
                                · refine jv_topI (y := nI (6 * (10 * e + p179.1) + p179.2)) (by rw [hp182]; rfl) ?_
                                  obtain ⟨t180, ht180, m181, hm181⟩ := m_ff_mem hp182
                                  have Tt180 := (hE.2.2 p179.1 t180 ht180).1
                                  have Ot180 := (hE.2.2 p179.1 t180 ht180).2
                                  have Lt180 := hE.2.1
                                  have lt180 := jv_ltGet ht180
                                  have Mm181 := rt_m Tt180 hm181
                                  have Om181 := Ot180.2.2.2.2.2.2 m181 (List.mem_of_getElem? hm181)
                                  have Lm181 := Ot180.2.2.2.2.2.1
                                  have lm181 := jv_ltGet hm181
                                  have Bm181n := Om181.1; have Bm181s := Om181.2.1; have Bm181a := Om181.2.2.1; have Bt180n := Ot180.1; have Bt180k := Ot180.2.1
                                  refine jv_goto (q := 277) G dX8_met_263 (by decide) ?_
                                  refine jv_istore (q := 279) (lo' := [(12, .int (nI (6 * (10 * e + p179.1) + p179.2))), (11, .int (-1)), (10, .int (nI 0)), (9, .int (-1)), (8, .int (nI (10 * e + k102))), (0, .ref x), (1, .int (nI c)), (2, .int (nI e)), (3, .int (nI 1)), (4, .int ty), (5, .int n), (6, .int s), (7, .int rc)]) G dX8_met_277 (by decide) rfl rfl ?_
                                  refine jv_iload (q := 281) G 0 dX8_met_279 rfl rfl ?_
                                  refine jv_iconst (q := 282) (v := (-1)) G dX8_met_281 (by decide) rfl ?_
                                  refine jv_icmp_ne (q := 285) (tgt := 287) G dX8_met_282 (by decide) rfl (fun c184 => ?_) (fun c184 => ?_)
                                  · refine jv_aload_n (q := 288) G 5 dX8_met_287 rfl rfl rfl ?_
                                    refine jv_iload_n (q := 289) G 6 dX8_met_288 rfl rfl rfl ?_
                                    refine jv_iload_n (q := 290) G 7 dX8_met_289 rfl rfl rfl ?_
                                    refine jv_iload (q := 292) G 0 dX8_met_290 rfl rfl ?_
                                    refine jv_callV_I (q := 295) (h1 := h101) (As := [.int (nI c), .int (nI e), .int (nI (6 * (10 * e + p179.1) + p179.2))]) (rest := []) (ce' := 0) (sl' := 0) (r := jv_bI (m_mr ts pk su t180 m181)) G Z ml_X8_199 (r_mayReach hlt hsc hS hc he hE hV ht180 hm181 hpk hpk5 hsu hsu16) (hsc.S hS).1 dX8_met_292 rfl (by decide) (by decide) (by decide) (by decide) (Nat.le_of_ble_eq_true rfl) rfl rfl rfl rfl ?_
                                    refine jv_if_neB (q := 298) (tgt := 300) G dX8_met_295 (by decide) rfl (fun c185 => ?_) (fun c185 => ?_)
                                    · refine jv_aload_n (q := 301) G 5 dX8_met_300 rfl rfl rfl ?_
                                      refine jv_getQ (q := 304) G dX8_met_301 fl_X8_56 rfl (hsc.S hS).1 (rf_p17 (hsc.S hS)) rfl ?_
                                      refine jv_iload (q := 306) G 0 dX8_met_304 rfl rfl ?_
                                      refine jv_zald (q := 307) G dX8_met_306 (rf_a17 (hsc.S hS)) rfl (by omega) (by decide) (hsc.M hS Mm181).2.2.2.2.1 rfl ?_
                                      refine jv_iload_n (q := 308) G 8 dX8_met_307 rfl rfl rfl ?_
                                      refine jv_iconst (q := 309) (v := nI 1) G dX8_met_308 (by decide) rfl ?_
                                      refine jv_icmp_eqN (q := 312) (tgt := 317) G dX8_met_309 (by decide) rfl (by omega) (by omega) (fun c186 => ?_) (fun c186 => ?_)
                                      · refine jv_iconst (q := 318) (v := nI 1) G dX8_met_317 (by decide) rfl ?_
                                        refine jv_goto (q := 322) G dX8_met_318 (by decide) ?_
                                        refine jv_icmp_eq (q := 325) (tgt := 327) G dX8_met_322 (by decide) rfl (fun c187 => ?_) (fun c187 => ?_)
                                        · refine jv_iload (q := 329) G 2 dX8_met_327 rfl rfl ?_
                                          refine jv_if_neN (q := 332) (tgt := 357) G dX8_met_329 (by decide) rfl (by omega) (fun c188 => ?_) (fun c188 => ?_)
                                          · omega
                                          · refine jv_aload_n (q := 333) G 5 dX8_met_332 rfl rfl rfl ?_
                                            refine jv_iload_n (q := 334) G 8 dX8_met_333 rfl rfl rfl ?_
                                            refine jv_iconst (q := 335) (v := nI 3) G dX8_met_334 (by decide) rfl ?_
                                            refine jv_icmp_neN (q := 338) (tgt := 351) G dX8_met_335 (by decide) rfl (by omega) (by omega) (fun c189 => ?_) (fun c189 => ?_)
                                            · refine jv_iconst (q := 352) (v := (-1)) G dX8_met_351 (by decide) rfl ?_
                                              refine jv_putI (q := 355) G dX8_met_352 fl_X8_192 rfl (hsc.S hS).1 rfl ?_
                                              have hr1 : rs x q h101 (jv_wI h101 x 32 (-1)) := rs.rf.wI (-1) (Or.inl ⟨rfl, Or.inr (Or.inl rfl)⟩)
                                              have hran : jv_I (jv_wI h101 x 32 (-1)) x 32 = (-1) := jv_I_self _ _ _ _
                                              have hSb := hsc.S hS
                                              have hE := hr1.E hSb (hsc.E hS hE)
                                              have hV := hr1.V hSb (hsc.V hS hV)
                                              have hEC := hr1.E hSb (hsc.E hS hEC)
                                              have hVC := hr1.V hSb (hsc.V hS hVC)
                                              have hce := (wx_I hSb 22 (by decide) rfl 32 c (-1)).trans ((hsc.I2 hS 22 (by decide) rfl (by decide) c).trans hce)
                                              have hpk := (wx_I hSb 23 (by decide) rfl 32 c (-1)).trans ((hsc.I2 hS 23 (by decide) rfl (by decide) c).trans hpk)
                                              have hsu := (wx_I hSb 24 (by decide) rfl 32 c (-1)).trans ((hsc.I2 hS 24 (by decide) rfl (by decide) c).trans hsu)
                                              have hrs := (hrs.tr hsc.rs).tr hr1
                                              have hS := hr1.S hSb
                                              generalize jv_wI h101 x 32 (-1) = h190 at hran hE hV hEC hVC hce hpk hsu hrs hS ⊢
                                              have hsc : sc x q h190 h190 := sc.rf
                                              refine jv_iconst (q := 356) (v := nI 0) G dX8_met_355 (by decide) rfl ?_
                                              refine jv_iret G hr dX8_met_356 (Nat.le_of_ble_eq_true rfl) (Nat.le_of_ble_eq_true rfl) ?_
                                              have hz : (m_met (decide (e = ec)) tsC ts pk su 1 ty n s rc) = (0, none) := by
                                                unfold m_met m_isC m_bd
                                                simp only [*, if_true, if_false, Bool.false_eq_true, reduceIte, Option.map_some, decide_true, decide_false, not_true_eq_false, not_false_eq_true, and_true, true_and, and_false, false_and, or_true, true_or, or_false, false_or, Bool.or_true, Bool.or_false, Bool.true_or, Bool.false_or, reduceCtorEq] <;> first | rfl | (simp_all; done) | (split <;> simp_all)
                                              exact ⟨by rw [hz], hrs.tr hsc.rs, by rw [hz]; exact (hsc.x hS 32).trans hran⟩
                                            · omega
                                        · refine jv_iconst (q := 326) (v := nI 4) G dX8_met_325 (by decide) rfl ?_
                                          refine jv_iret G hr dX8_met_326 (Nat.le_of_ble_eq_true rfl) (Nat.le_of_ble_eq_true rfl) ?_
                                          have hz : (m_met (decide (e = ec)) tsC ts pk su 1 ty n s rc) = (4, none) := by
                                            unfold m_met m_isC m_bd
                                            simp only [*, if_true, if_false, Bool.false_eq_true, reduceIte, Option.map_some, decide_true, decide_false, not_true_eq_false, not_false_eq_true, and_true, true_and, and_false, false_and, or_true, true_or, or_false, false_or, Bool.or_true, Bool.or_false, Bool.true_or, Bool.false_or, reduceCtorEq] <;> first | rfl | (simp_all; done) | (split <;> simp_all)
                                          exact ⟨by rw [hz], hrs.tr hsc.rs, by rw [hz]; exact (hsc.x hS 32).trans hran⟩
                                      · omega
                                    · refine jv_iconst (q := 299) (v := nI 3) G dX8_met_298 (by decide) rfl ?_
                                      refine jv_iret G hr dX8_met_299 (Nat.le_of_ble_eq_true rfl) (Nat.le_of_ble_eq_true rfl) ?_
                                      have hz : (m_met (decide (e = ec)) tsC ts pk su 1 ty n s rc) = (3, none) := by
                                        unfold m_met m_isC m_bd
                                        simp only [*, if_true, if_false, Bool.false_eq_true, reduceIte, Option.map_some, decide_true, decide_false, not_true_eq_false, not_false_eq_true, and_true, true_and, and_false, false_and, or_true, true_or, or_false, false_or, Bool.or_true, Bool.or_false, Bool.true_or, Bool.false_or, reduceCtorEq] <;> first | rfl | (simp_all; done) | (split <;> simp_all)
                                      exact ⟨by rw [hz], hrs.tr hsc.rs, by rw [hz]; exact (hsc.x hS 32).trans hran⟩
                                  · exact absurd c184 (jv_nI_m1 (by omega))
                            · omega
                          · omega
                        · omega
                      · refine jv_aload_n (q := 176) G 4 dX8_met_175 rfl rfl rfl ?_
                        refine jv_getQ (q := 179) G dX8_met_176 fl_X8_26 rfl (hsc.S hS).1 (rf_p7 (hsc.S hS)) rfl ?_
                        refine jv_iload (q := 181) G 3 dX8_met_179 rfl rfl ?_
                        refine jv_iald (q := 182) G dX8_met_181 (rf_a7 (hsc.S hS)) rfl (by omega) (by decide) (rt_7 (hsc.T hS Tt103)) rfl ?_
                        refine jv_aload_n (q := 183) G 4 dX8_met_182 rfl rfl rfl ?_
                        refine jv_getQ (q := 186) G dX8_met_183 fl_X8_71 rfl (hsc.S hS).1 (rf_p23 (hsc.S hS)) rfl ?_
                        refine jv_iload_n (q := 187) G 5 dX8_met_186 rfl rfl rfl ?_
                        refine jv_iald (q := 188) G dX8_met_187 (rf_a23 (hsc.S hS)) rfl (by omega) (by decide) rfl rfl ?_
                        refine jv_icmp_eq (q := 191) (tgt := 193) G dX8_met_188 (by decide) rfl (fun c191 => ?_) (fun c191 => ?_)
                        · refine jv_iload_n (q := 194) G 7 dX8_met_193 rfl rfl rfl ?_
                          refine jv_iconst (q := 195) (v := nI 2) G dX8_met_194 (by decide) rfl ?_
                          refine jv_icmp_neN (q := 198) (tgt := 208) G dX8_met_195 (by decide) rfl (by omega) (by omega) (fun c192 => ?_) (fun c192 => ?_)
                          · refine jv_iload_n (q := 209) G 7 dX8_met_208 rfl rfl rfl ?_
                            refine jv_iconst (q := 210) (v := nI 4) G dX8_met_209 (by decide) rfl ?_
                            refine jv_icmp_neN (q := 213) (tgt := 226) G dX8_met_210 (by decide) rfl (by omega) (by omega) (fun c193 => ?_) (fun c193 => ?_)
                            · refine jv_iload_n (q := 227) G 7 dX8_met_226 rfl rfl rfl ?_
                              refine jv_iconst (q := 228) (v := nI 5) G dX8_met_227 (by decide) rfl ?_
                              refine jv_icmp_neN (q := 231) (tgt := 247) G dX8_met_228 (by decide) rfl (by omega) (by omega) (fun c194 => ?_) (fun c194 => ?_)
                              · refine jv_iload_n (q := 248) G 7 dX8_met_247 rfl rfl rfl ?_
                                refine jv_iconst (q := 249) (v := nI 2) G dX8_met_248 (by decide) rfl ?_
                                refine jv_icmp_geN (q := 252) (tgt := 266) G dX8_met_249 (by decide) rfl (by omega) (by omega) (fun c195 => ?_) (fun c195 => ?_)
                                · omega
                                · refine jv_aload_n (q := 253) G 4 dX8_met_252 rfl rfl rfl ?_
                                  refine jv_iload_n (q := 254) G 6 dX8_met_253 rfl rfl rfl ?_
                                  refine jv_iload (q := 256) G 3 dX8_met_254 rfl rfl ?_
                                  refine jv_iload (q := 258) G 9 dX8_met_256 rfl rfl ?_
                                  refine jv_iload (q := 260) G 10 dX8_met_258 rfl rfl ?_
                                  refine jv_callV_I (q := 263) (h1 := h101) (As := [.int (nI e), .int (nI (10 * e + k102)), .int n, .int s]) (rest := []) (ce' := 0) (sl' := 0) (r := (ffE e (m_ff ts 11 k102 n s))) G Z ml_X8_173 (r_findField hlt hsc hS he hE 11 k102 (hg k102 (by omega)) (by omega)) (hsc.S hS).1 dX8_met_260 rfl (by decide) (by decide) (by decide) (by decide) (Nat.le_of_ble_eq_true rfl) rfl rfl rfl rfl ?_
                                  rcases Option.eq_none_or_eq_some (m_ff ts 11 k102 n s) with hp199 | ⟨p196, hp199⟩
                                  · refine jv_topI (y := (-1)) (by rw [hp199]; rfl) ?_
                                    refine jv_goto (q := 277) G dX8_met_263 (by decide) ?_
                                    refine jv_istore (q := 279) (lo' := [(12, .int (-1)), (11, .int (-1)), (10, .int (nI 0)), (9, .int (-1)), (8, .int (nI (10 * e + k102))), (0, .ref x), (1, .int (nI c)), (2, .int (nI e)), (3, .int (nI 1)), (4, .int ty), (5, .int n), (6, .int s), (7, .int rc)]) G dX8_met_277 (by decide) rfl rfl ?_
                                    refine jv_iload (q := 281) G 0 dX8_met_279 rfl rfl ?_
                                    refine jv_iconst (q := 282) (v := (-1)) G dX8_met_281 (by decide) rfl ?_
                                    refine jv_icmp_ne (q := 285) (tgt := 287) G dX8_met_282 (by decide) rfl (fun c200 => ?_) (fun c200 => ?_)
                                    · exact absurd rfl c200
                                    · refine jv_iconst (q := 286) (v := nI 2) G dX8_met_285 (by decide) rfl ?_
                                      refine jv_iret G hr dX8_met_286 (Nat.le_of_ble_eq_true rfl) (Nat.le_of_ble_eq_true rfl) ?_
                                      have hz : (m_met (decide (e = ec)) tsC ts pk su 1 ty n s rc) = (2, none) := by
                                        unfold m_met m_isC m_bd
                                        simp only [*, if_true, if_false, Bool.false_eq_true, reduceIte, Option.map_some, decide_true, decide_false, not_true_eq_false, not_false_eq_true, and_true, true_and, and_false, false_and, or_true, true_or, or_false, false_or, Bool.or_true, Bool.or_false, Bool.true_or, Bool.false_or, reduceCtorEq] <;> first | rfl | (simp_all; done) | (split <;> simp_all)
                                      exact ⟨by rw [hz], hrs.tr hsc.rs, by rw [hz]; exact (hsc.x hS 32).trans hran⟩
                                  · refine jv_topI (y := nI (6 * (10 * e + p196.1) + p196.2)) (by rw [hp199]; rfl) ?_
                                    obtain ⟨t197, ht197, m198, hm198⟩ := m_ff_mem hp199
                                    have Tt197 := (hE.2.2 p196.1 t197 ht197).1
                                    have Ot197 := (hE.2.2 p196.1 t197 ht197).2
                                    have Lt197 := hE.2.1
                                    have lt197 := jv_ltGet ht197
                                    have Mm198 := rt_m Tt197 hm198
                                    have Om198 := Ot197.2.2.2.2.2.2 m198 (List.mem_of_getElem? hm198)
                                    have Lm198 := Ot197.2.2.2.2.2.1
                                    have lm198 := jv_ltGet hm198
                                    have Bm198n := Om198.1; have Bm198s := Om198.2.1; have Bm198a := Om198.2.2.1; have Bt197n := Ot197.1; have Bt197k := Ot197.2.1
                                    refine jv_goto (q := 277) G dX8_met_263 (by decide) ?_
                                    refine jv_istore (q := 279) (lo' := [(12, .int (nI (6 * (10 * e + p196.1) + p196.2))), (11, .int (-1)), (10, .int (nI 0)), (9, .int (-1)), (8, .int (nI (10 * e + k102))), (0, .ref x), (1, .int (nI c)), (2, .int (nI e)), (3, .int (nI 1)), (4, .int ty), (5, .int n), (6, .int s), (7, .int rc)]) G dX8_met_277 (by decide) rfl rfl ?_
                                    refine jv_iload (q := 281) G 0 dX8_met_279 rfl rfl ?_
                                    refine jv_iconst (q := 282) (v := (-1)) G dX8_met_281 (by decide) rfl ?_
                                    refine jv_icmp_ne (q := 285) (tgt := 287) G dX8_met_282 (by decide) rfl (fun c201 => ?_) (fun c201 => ?_)
                                    · refine jv_aload_n (q := 288) G 5 dX8_met_287 rfl rfl rfl ?_
                                      refine jv_iload_n (q := 289) G 6 dX8_met_288 rfl rfl rfl ?_
                                      refine jv_iload_n (q := 290) G 7 dX8_met_289 rfl rfl rfl ?_
                                      refine jv_iload (q := 292) G 0 dX8_met_290 rfl rfl ?_
                                      refine jv_callV_I (q := 295) (h1 := h101) (As := [.int (nI c), .int (nI e), .int (nI (6 * (10 * e + p196.1) + p196.2))]) (rest := []) (ce' := 0) (sl' := 0) (r := jv_bI (m_mr ts pk su t197 m198)) G Z ml_X8_199 (r_mayReach hlt hsc hS hc he hE hV ht197 hm198 hpk hpk5 hsu hsu16) (hsc.S hS).1 dX8_met_292 rfl (by decide) (by decide) (by decide) (by decide) (Nat.le_of_ble_eq_true rfl) rfl rfl rfl rfl ?_
                                      refine jv_if_neB (q := 298) (tgt := 300) G dX8_met_295 (by decide) rfl (fun c202 => ?_) (fun c202 => ?_)
                                      · refine jv_aload_n (q := 301) G 5 dX8_met_300 rfl rfl rfl ?_
                                        refine jv_getQ (q := 304) G dX8_met_301 fl_X8_56 rfl (hsc.S hS).1 (rf_p17 (hsc.S hS)) rfl ?_
                                        refine jv_iload (q := 306) G 0 dX8_met_304 rfl rfl ?_
                                        refine jv_zald (q := 307) G dX8_met_306 (rf_a17 (hsc.S hS)) rfl (by omega) (by decide) (hsc.M hS Mm198).2.2.2.2.1 rfl ?_
                                        refine jv_iload_n (q := 308) G 8 dX8_met_307 rfl rfl rfl ?_
                                        refine jv_iconst (q := 309) (v := nI 1) G dX8_met_308 (by decide) rfl ?_
                                        refine jv_icmp_eqN (q := 312) (tgt := 317) G dX8_met_309 (by decide) rfl (by omega) (by omega) (fun c203 => ?_) (fun c203 => ?_)
                                        · refine jv_iconst (q := 318) (v := nI 1) G dX8_met_317 (by decide) rfl ?_
                                          refine jv_goto (q := 322) G dX8_met_318 (by decide) ?_
                                          refine jv_icmp_eq (q := 325) (tgt := 327) G dX8_met_322 (by decide) rfl (fun c204 => ?_) (fun c204 => ?_)
                                          · refine jv_iload (q := 329) G 2 dX8_met_327 rfl rfl ?_
                                            refine jv_if_neN (q := 332) (tgt := 357) G dX8_met_329 (by decide) rfl (by omega) (fun c205 => ?_) (fun c205 => ?_)
                                            · omega
                                            · refine jv_aload_n (q := 333) G 5 dX8_met_332 rfl rfl rfl ?_
                                              refine jv_iload_n (q := 334) G 8 dX8_met_333 rfl rfl rfl ?_
                                              refine jv_iconst (q := 335) (v := nI 3) G dX8_met_334 (by decide) rfl ?_
                                              refine jv_icmp_neN (q := 338) (tgt := 351) G dX8_met_335 (by decide) rfl (by omega) (by omega) (fun c206 => ?_) (fun c206 => ?_)
                                              · refine jv_iconst (q := 352) (v := (-1)) G dX8_met_351 (by decide) rfl ?_
                                                refine jv_putI (q := 355) G dX8_met_352 fl_X8_192 rfl (hsc.S hS).1 rfl ?_
                                                have hr1 : rs x q h101 (jv_wI h101 x 32 (-1)) := rs.rf.wI (-1) (Or.inl ⟨rfl, Or.inr (Or.inl rfl)⟩)
                                                have hran : jv_I (jv_wI h101 x 32 (-1)) x 32 = (-1) := jv_I_self _ _ _ _
                                                have hSb := hsc.S hS
                                                have hE := hr1.E hSb (hsc.E hS hE)
                                                have hV := hr1.V hSb (hsc.V hS hV)
                                                have hEC := hr1.E hSb (hsc.E hS hEC)
                                                have hVC := hr1.V hSb (hsc.V hS hVC)
                                                have hce := (wx_I hSb 22 (by decide) rfl 32 c (-1)).trans ((hsc.I2 hS 22 (by decide) rfl (by decide) c).trans hce)
                                                have hpk := (wx_I hSb 23 (by decide) rfl 32 c (-1)).trans ((hsc.I2 hS 23 (by decide) rfl (by decide) c).trans hpk)
                                                have hsu := (wx_I hSb 24 (by decide) rfl 32 c (-1)).trans ((hsc.I2 hS 24 (by decide) rfl (by decide) c).trans hsu)
                                                have hrs := (hrs.tr hsc.rs).tr hr1
                                                have hS := hr1.S hSb
                                                generalize jv_wI h101 x 32 (-1) = h207 at hran hE hV hEC hVC hce hpk hsu hrs hS ⊢
                                                have hsc : sc x q h207 h207 := sc.rf
                                                refine jv_iconst (q := 356) (v := nI 0) G dX8_met_355 (by decide) rfl ?_
                                                refine jv_iret G hr dX8_met_356 (Nat.le_of_ble_eq_true rfl) (Nat.le_of_ble_eq_true rfl) ?_
                                                have hz : (m_met (decide (e = ec)) tsC ts pk su 1 ty n s rc) = (0, none) := by
                                                  unfold m_met m_isC m_bd
                                                  simp only [*, if_true, if_false, Bool.false_eq_true, reduceIte, Option.map_some, decide_true, decide_false, not_true_eq_false, not_false_eq_true, and_true, true_and, and_false, false_and, or_true, true_or, or_false, false_or, Bool.or_true, Bool.or_false, Bool.true_or, Bool.false_or, reduceCtorEq] <;> first | rfl | (simp_all; done) | (split <;> simp_all)
                                                exact ⟨by rw [hz], hrs.tr hsc.rs, by rw [hz]; exact (hsc.x hS 32).trans hran⟩
                                              · omega
                                          · refine jv_iconst (q := 326) (v := nI 4) G dX8_met_325 (by decide) rfl ?_
                                            refine jv_iret G hr dX8_met_326 (Nat.le_of_ble_eq_true rfl) (Nat.le_of_ble_eq_true rfl) ?_
                                            have hz : (m_met (decide (e = ec)) tsC ts pk su 1 ty n s rc) = (4, none) := by
                                              unfold m_met m_isC m_bd
                                              simp only [*, if_true, if_false, Bool.false_eq_true, reduceIte, Option.map_some, decide_true, decide_false, not_true_eq_false, not_false_eq_true, and_true, true_and, and_false, false_and, or_true, true_or, or_false, false_or, Bool.or_true, Bool.or_false, Bool.true_or, Bool.false_or, reduceCtorEq] <;> first | rfl | (simp_all; done) | (split <;> simp_all)
                                            exact ⟨by rw [hz], hrs.tr hsc.rs, by rw [hz]; exact (hsc.x hS 32).trans hran⟩
                                        · omega
                                      · refine jv_iconst (q := 299) (v := nI 3) G dX8_met_298 (by decide) rfl ?_
                                        refine jv_iret G hr dX8_met_299 (Nat.le_of_ble_eq_true rfl) (Nat.le_of_ble_eq_true rfl) ?_
                                        have hz : (m_met (decide (e = ec)) tsC ts pk su 1 ty n s rc) = (3, none) := by
                                          unfold m_met m_isC m_bd
                                          simp only [*, if_true, if_false, Bool.false_eq_true, reduceIte, Option.map_some, decide_true, decide_false, not_true_eq_false, not_false_eq_true, and_true, true_and, and_false, false_and, or_true, true_or, or_false, false_or, Bool.or_true, Bool.or_false, Bool.true_or, Bool.false_or, reduceCtorEq] <;> first | rfl | (simp_all; done) | (split <;> simp_all)
                                        exact ⟨by rw [hz], hrs.tr hsc.rs, by rw [hz]; exact (hsc.x hS 32).trans hran⟩
                                    · exact absurd c201 (jv_nI_m1 (by omega))
                              · omega
                            · omega
                          · omega
                        · refine jv_iconst (q := 192) (v := nI 3) G dX8_met_191 (by decide) rfl ?_
                          refine jv_iret G hr dX8_met_192 (Nat.le_of_ble_eq_true rfl) (Nat.le_of_ble_eq_true rfl) ?_
                          have hz : (m_met (decide (e = ec)) tsC ts pk su 1 ty n s rc) = (3, none) := by
                            unfold m_met m_isC m_bd
                            simp only [*, if_true, if_false, Bool.false_eq_true, reduceIte, Option.map_some, decide_true, decide_false, not_true_eq_false, not_false_eq_true, and_true, true_and, and_false, false_and, or_true, true_or, or_false, false_or, Bool.or_true, Bool.or_false, Bool.true_or, Bool.false_or, reduceCtorEq] <;> first | rfl | (simp_all; done) | (split <;> simp_all)
                          exact ⟨by rw [hz], hrs.tr hsc.rs, by rw [hz]; exact (hsc.x hS 32).trans hran⟩
                    · omega
                · omega
              · omega
          · exact absurd rfl c168
        · refine jv_topI (y := nI (6 * (10 * ec + p164.1) + p164.2)) (by rw [hp167]; rfl) ?_
          obtain ⟨t165, ht165, m166, hm166⟩ := m_co_mem hp167
          have Tt165 := (hEC.2.2 p164.1 t165 ht165).1
          have Ot165 := (hEC.2.2 p164.1 t165 ht165).2
          have Lt165 := hEC.2.1
          have lt165 := jv_ltGet ht165
          have Mm166 := rt_m Tt165 hm166
          have Om166 := Ot165.2.2.2.2.2.2 m166 (List.mem_of_getElem? hm166)
          have Lm166 := Ot165.2.2.2.2.2.1
          have lm166 := jv_ltGet hm166
          have Bm166n := Om166.1; have Bm166s := Om166.2.1; have Bm166a := Om166.2.2.1; have Bt165n := Ot165.1; have Bt165k := Ot165.2.1
          refine jv_goto (q := 40) G dX8_met_36 (by decide) ?_
          refine jv_istore (q := 42) (lo' := [(9, .int (nI (6 * (10 * ec + p164.1) + p164.2))), (8, .int (nI (10 * e + k102))), (0, .ref x), (1, .int (nI c)), (2, .int (nI e)), (3, .int (nI 1)), (4, .int ty), (5, .int n), (6, .int s), (7, .int rc)]) G dX8_met_40 (by decide) rfl rfl ?_
          refine jv_iload (q := 44) G 0 dX8_met_42 rfl rfl ?_
          refine jv_iconst (q := 45) (v := (-1)) G dX8_met_44 (by decide) rfl ?_
          refine jv_icmp_eq (q := 48) (tgt := 111) G dX8_met_45 (by decide) rfl (fun c208 => ?_) (fun c208 => ?_)
          · exact absurd c208 (jv_nI_m1 (by omega))
          · refine jv_iload (q := 50) G 1 dX8_met_48 rfl rfl ?_
            refine jv_iconst (q := 51) (v := (-1)) G dX8_met_50 (by decide) rfl ?_
            refine jv_icmp_ne (q := 54) (tgt := 58) G dX8_met_51 (by decide) rfl (fun c209 => ?_) (fun c209 => ?_)
            · refine jv_aload_n (q := 59) G 2 dX8_met_58 rfl rfl rfl ?_
              refine jv_iload_n (q := 60) G 4 dX8_met_59 rfl rfl rfl ?_
              refine jv_iload (q := 62) G 1 dX8_met_60 rfl rfl ?_
              refine jv_iload (q := 64) G 7 dX8_met_62 rfl rfl ?_
              refine jv_iload (q := 66) G 8 dX8_met_64 rfl rfl ?_
              refine jv_callV_I (q := 69) (h1 := h101) (As := [.int (nI e), .int (nI (10 * e + k102)), .int n, .int s]) (rest := []) (ce' := 0) (sl' := 0) (r := (ffE e (m_ff ts 11 k102 n s))) G Z ml_X8_173 (r_findField hlt hsc hS he hE 11 k102 (hg k102 (by omega)) (by omega)) (hsc.S hS).1 dX8_met_66 rfl (by decide) (by decide) (by decide) (by decide) (Nat.le_of_ble_eq_true rfl) rfl rfl rfl rfl ?_
              rcases Option.eq_none_or_eq_some (m_ff ts 11 k102 n s) with hp213 | ⟨p210, hp213⟩
              · refine jv_topI (y := (-1)) (by rw [hp213]; rfl) ?_
                refine jv_istore (q := 71) (lo' := [(10, .int (-1)), (9, .int (nI (6 * (10 * ec + p164.1) + p164.2))), (8, .int (nI (10 * e + k102))), (0, .ref x), (1, .int (nI c)), (2, .int (nI e)), (3, .int (nI 1)), (4, .int ty), (5, .int n), (6, .int s), (7, .int rc)]) G dX8_met_69 (by decide) rfl rfl ?_
                refine jv_iload (q := 73) G 0 dX8_met_71 rfl rfl ?_
                refine jv_iconst (q := 74) (v := (-1)) G dX8_met_73 (by decide) rfl ?_
                refine jv_icmp_eq (q := 77) (tgt := 108) G dX8_met_74 (by decide) rfl (fun c214 => ?_) (fun c214 => ?_)
                · refine jv_bipush (q := 110) (v := nI 9) G dX8_met_108 (by decide) rfl ?_
                  refine jv_iret G hr dX8_met_110 (Nat.le_of_ble_eq_true rfl) (Nat.le_of_ble_eq_true rfl) ?_
                  have hz : (m_met (decide (e = ec)) tsC ts pk su 1 ty n s rc) = (9, none) := by
                    unfold m_met m_isC m_bd
                    simp only [*, if_true, if_false, Bool.false_eq_true, reduceIte, Option.map_some, decide_true, decide_false, not_true_eq_false, not_false_eq_true, and_true, true_and, and_false, false_and, or_true, true_or, or_false, false_or, Bool.or_true, Bool.or_false, Bool.true_or, Bool.false_or, reduceCtorEq] <;> first | rfl | (simp_all; done) | (split <;> simp_all)
                  exact ⟨by rw [hz], hrs.tr hsc.rs, by rw [hz]; exact (hsc.x hS 32).trans hran⟩
                · exact absurd rfl c214
              · refine jv_topI (y := nI (6 * (10 * e + p210.1) + p210.2)) (by rw [hp213]; rfl) ?_
                obtain ⟨t211, ht211, m212, hm212⟩ := m_ff_mem hp213
                have Tt211 := (hE.2.2 p210.1 t211 ht211).1
                have Ot211 := (hE.2.2 p210.1 t211 ht211).2
                have Lt211 := hE.2.1
                have lt211 := jv_ltGet ht211
                have Mm212 := rt_m Tt211 hm212
                have Om212 := Ot211.2.2.2.2.2.2 m212 (List.mem_of_getElem? hm212)
                have Lm212 := Ot211.2.2.2.2.2.1
                have lm212 := jv_ltGet hm212
                have Bm212n := Om212.1; have Bm212s := Om212.2.1; have Bm212a := Om212.2.2.1; have Bt211n := Ot211.1; have Bt211k := Ot211.2.1
                refine jv_istore (q := 71) (lo' := [(10, .int (nI (6 * (10 * e + p210.1) + p210.2))), (9, .int (nI (6 * (10 * ec + p164.1) + p164.2))), (8, .int (nI (10 * e + k102))), (0, .ref x), (1, .int (nI c)), (2, .int (nI e)), (3, .int (nI 1)), (4, .int ty), (5, .int n), (6, .int s), (7, .int rc)]) G dX8_met_69 (by decide) rfl rfl ?_
                refine jv_iload (q := 73) G 0 dX8_met_71 rfl rfl ?_
                refine jv_iconst (q := 74) (v := (-1)) G dX8_met_73 (by decide) rfl ?_
                refine jv_icmp_eq (q := 77) (tgt := 108) G dX8_met_74 (by decide) rfl (fun c215 => ?_) (fun c215 => ?_)
                · exact absurd c215 (jv_nI_m1 (by omega))
                · refine jv_aload_n (q := 78) G 3 dX8_met_77 rfl rfl rfl ?_
                  refine jv_getQ (q := 81) G dX8_met_78 fl_X8_62 rfl (hsc.S hS).1 (rf_p19 (hsc.S hS)) rfl ?_
                  refine jv_iload (q := 83) G 0 dX8_met_81 rfl rfl ?_
                  refine jv_zald (q := 84) G dX8_met_83 (rf_a19 (hsc.S hS)) rfl (by omega) (by decide) (hsc.M hS Mm212).2.2.2.2.2.2 rfl ?_
                  refine jv_if_eqB (q := 87) (tgt := 108) G dX8_met_84 (by decide) rfl (fun c216 => ?_) (fun c216 => ?_)
                  · refine jv_bipush (q := 110) (v := nI 9) G dX8_met_108 (by decide) rfl ?_
                    refine jv_iret G hr dX8_met_110 (Nat.le_of_ble_eq_true rfl) (Nat.le_of_ble_eq_true rfl) ?_
                    have hz : (m_met (decide (e = ec)) tsC ts pk su 1 ty n s rc) = (9, none) := by
                      unfold m_met m_isC m_bd
                      simp only [*, if_true, if_false, Bool.false_eq_true, reduceIte, Option.map_some, decide_true, decide_false, not_true_eq_false, not_false_eq_true, and_true, true_and, and_false, false_and, or_true, true_or, or_false, false_or, Bool.or_true, Bool.or_false, Bool.true_or, Bool.false_or, reduceCtorEq] <;> first | rfl | (simp_all; done) | (split <;> simp_all)
                    exact ⟨by rw [hz], hrs.tr hsc.rs, by rw [hz]; exact (hsc.x hS 32).trans hran⟩
                  · refine jv_aload_n (q := 88) G 3 dX8_met_87 rfl rfl rfl ?_
                    refine jv_getQ (q := 91) G dX8_met_88 fl_X8_59 rfl (hsc.S hS).1 (rf_p18 (hsc.S hS)) rfl ?_
                    refine jv_iload (q := 93) G 0 dX8_met_91 rfl rfl ?_
                    refine jv_iald (q := 94) G dX8_met_93 (rf_a18 (hsc.S hS)) rfl (by omega) (by decide) (hsc.M hS Mm212).2.2.2.2.2.1 rfl ?_
                    refine jv_aload_n (q := 95) G 3 dX8_met_94 rfl rfl rfl ?_
                    refine jv_getQ (q := 98) G dX8_met_95 fl_X8_59 rfl (hsc.S hS).1 (rf_p18 (hsc.S hS)) rfl ?_
                    refine jv_iload (q := 100) G 1 dX8_met_98 rfl rfl ?_
                    refine jv_iald (q := 101) G dX8_met_100 (rf_a18 (hsc.S hS)) rfl (by omega) (by decide) (hsc.M hS Mm166).2.2.2.2.2.1 rfl ?_
                    refine jv_icmp_ne (q := 104) (tgt := 108) G dX8_met_101 (by decide) rfl (fun c217 => ?_) (fun c217 => ?_)
                    · refine jv_bipush (q := 110) (v := nI 9) G dX8_met_108 (by decide) rfl ?_
                      refine jv_iret G hr dX8_met_110 (Nat.le_of_ble_eq_true rfl) (Nat.le_of_ble_eq_true rfl) ?_
                      have hz : (m_met (decide (e = ec)) tsC ts pk su 1 ty n s rc) = (9, none) := by
                        unfold m_met m_isC m_bd
                        simp only [*, if_true, if_false, Bool.false_eq_true, reduceIte, Option.map_some, decide_true, decide_false, not_true_eq_false, not_false_eq_true, and_true, true_and, and_false, false_and, or_true, true_or, or_false, false_or, Bool.or_true, Bool.or_false, Bool.true_or, Bool.false_or, reduceCtorEq] <;> first | rfl | (simp_all; done) | (split <;> simp_all)
                      exact ⟨by rw [hz], hrs.tr hsc.rs, by rw [hz]; exact (hsc.x hS 32).trans hran⟩
                    · refine jv_iconst (q := 105) (v := nI 0) G dX8_met_104 (by decide) rfl ?_
                      refine jv_goto (q := 110) G dX8_met_105 (by decide) ?_
                      refine jv_iret G hr dX8_met_110 (Nat.le_of_ble_eq_true rfl) (Nat.le_of_ble_eq_true rfl) ?_
                      have hz : (m_met (decide (e = ec)) tsC ts pk su 1 ty n s rc) = (0, none) := by
                        unfold m_met m_isC m_bd
                        simp only [*, if_true, if_false, Bool.false_eq_true, reduceIte, Option.map_some, decide_true, decide_false, not_true_eq_false, not_false_eq_true, and_true, true_and, and_false, false_and, or_true, true_or, or_false, false_or, Bool.or_true, Bool.or_false, Bool.true_or, Bool.false_or, reduceCtorEq] <;> first | rfl | (simp_all; done) | (split <;> simp_all)
                      exact ⟨by rw [hz], hrs.tr hsc.rs, by rw [hz]; exact (hsc.x hS 32).trans hran⟩
            · exact absurd c209 (jv_nI_m1 (by omega))
  · refine jv_aload_n (q := 1) G 0 dX8_met_0 rfl rfl rfl ?_
    refine jv_iconst (q := 2) (v := (-1)) G dX8_met_1 (by decide) rfl ?_
    refine jv_putI (q := 5) G dX8_met_2 fl_X8_192 rfl (hsc.S hS).1 rfl ?_
    have hr1 : rs x q h (jv_wI h x 32 (-1)) := rs.rf.wI (-1) (Or.inl ⟨rfl, Or.inr (Or.inl rfl)⟩)
    have hran : jv_I (jv_wI h x 32 (-1)) x 32 = (-1) := jv_I_self _ _ _ _
    have hSb := hsc.S hS
    have hE := hr1.E hSb (hsc.E hS hE)
    have hV := hr1.V hSb (hsc.V hS hV)
    have hEC := hr1.E hSb (hsc.E hS hEC)
    have hVC := hr1.V hSb (hsc.V hS hVC)
    have hce := (wx_I hSb 22 (by decide) rfl 32 c (-1)).trans ((hsc.I2 hS 22 (by decide) rfl (by decide) c).trans hce)
    have hpk := (wx_I hSb 23 (by decide) rfl 32 c (-1)).trans ((hsc.I2 hS 23 (by decide) rfl (by decide) c).trans hpk)
    have hsu := (wx_I hSb 24 (by decide) rfl 32 c (-1)).trans ((hsc.I2 hS 24 (by decide) rfl (by decide) c).trans hsu)
    have hrs := (hrs.tr hsc.rs).tr hr1
    have hS := hr1.S hSb
    generalize jv_wI h x 32 (-1) = h218 at hran hE hV hEC hVC hce hpk hsu hrs hS ⊢
    have hsc : sc x q h218 h218 := sc.rf
    refine jv_aload_n (q := 6) G 0 dX8_met_5 rfl rfl rfl ?_
    refine jv_iload_n (q := 7) G 2 dX8_met_6 rfl rfl rfl ?_
    refine jv_iload (q := 9) G 4 dX8_met_7 rfl rfl ?_
    refine jv_callV_I (q := 12) (h1 := h218) (As := [.int (nI e), .int ty]) (rest := []) (ce' := 0) (sl' := 0) (r := jv_oN ((m_at ts ty).map (fun k => 10 * e + k))) G Z ml_X8_151 (r_at hlt (hsc.S hS) he (hsc.E hS hE)) (hsc.S hS).1 dX8_met_9 rfl (by decide) (by decide) (by decide) (by decide) (Nat.le_of_ble_eq_true rfl) rfl rfl rfl rfl ?_
    rcases Option.eq_none_or_eq_some (m_at ts ty) with hk221 | ⟨k219, hk221⟩
    · refine jv_topI (y := (-1)) (by rw [hk221]; rfl) ?_
      refine jv_istore (q := 14) (lo' := [(8, .int (-1)), (0, .ref x), (1, .int (nI c)), (2, .int (nI e)), (3, .int (nI 2)), (4, .int ty), (5, .int n), (6, .int s), (7, .int rc)]) G dX8_met_12 (by decide) rfl rfl ?_
      refine jv_iload_n (q := 15) G 3 dX8_met_14 rfl rfl rfl ?_
      refine jv_aload_n (q := 16) G 1 dX8_met_15 rfl rfl rfl ?_
      refine jv_getQ (q := 19) G dX8_met_16 fl_X8_68 rfl (hsc.S hS).1 (rf_p22 (hsc.S hS)) rfl ?_
      refine jv_iload_n (q := 20) G 2 dX8_met_19 rfl rfl rfl ?_
      refine jv_iald (q := 21) G dX8_met_20 (rf_a22 (hsc.S hS)) rfl (by omega) (by decide) ((hsc.I2 hS 22 (by decide) rfl (by decide) c).trans hce) rfl ?_
      refine jv_icmp_eqN (q := 24) (tgt := 39) G dX8_met_21 (by decide) rfl (by omega) (by omega) (fun c222 => ?_) (fun c222 => ?_)
      · refine jv_iconst (q := 40) (v := (-1)) G dX8_met_39 (by decide) rfl ?_
        refine jv_istore (q := 42) (lo' := [(9, .int (-1)), (8, .int (-1)), (0, .ref x), (1, .int (nI c)), (2, .int (nI e)), (3, .int (nI 2)), (4, .int ty), (5, .int n), (6, .int s), (7, .int rc)]) G dX8_met_40 (by decide) rfl rfl ?_
        refine jv_iload (q := 44) G 0 dX8_met_42 rfl rfl ?_
        refine jv_iconst (q := 45) (v := (-1)) G dX8_met_44 (by decide) rfl ?_
        refine jv_icmp_eq (q := 48) (tgt := 111) G dX8_met_45 (by decide) rfl (fun c223 => ?_) (fun c223 => ?_)
        · refine jv_iload_n (q := 112) G 5 dX8_met_111 rfl rfl rfl ?_
          refine jv_iconst (q := 113) (v := nI 2) G dX8_met_112 (by decide) rfl ?_
          refine jv_icmp_eqN (q := 116) (tgt := 121) G dX8_met_113 (by decide) rfl (by omega) (by omega) (fun c224 => ?_) (fun c224 => ?_)
          · refine jv_iconst (q := 122) (v := nI 1) G dX8_met_121 (by decide) rfl ?_
            refine jv_goto (q := 126) G dX8_met_122 (by decide) ?_
            refine jv_istore (q := 128) (lo' := [(10, .int (nI 1)), (9, .int (-1)), (8, .int (-1)), (0, .ref x), (1, .int (nI c)), (2, .int (nI e)), (3, .int (nI 2)), (4, .int ty), (5, .int n), (6, .int s), (7, .int rc)]) G dX8_met_126 (by decide) rfl rfl ?_
            refine jv_iload (q := 130) G 0 dX8_met_128 rfl rfl ?_
            refine jv_if_eqN (q := 133) (tgt := 143) G dX8_met_130 (by decide) rfl (by omega) (fun c225 => ?_) (fun c225 => ?_)
            · omega
            · refine jv_aload_n (q := 134) G 3 dX8_met_133 rfl rfl rfl ?_
              refine jv_iload_n (q := 135) G 5 dX8_met_134 rfl rfl rfl ?_
              refine jv_iload (q := 137) G 10 dX8_met_135 rfl rfl ?_
              refine jv_callV_I (q := 140) (h1 := h218) (As := [.int (nI e), .int rc]) (rest := []) (ce' := 0) (sl' := 0) (r := jv_oN ((m_at ts rc).map (fun k => 10 * e + k))) G Z ml_X8_151 (r_at hlt (hsc.S hS) he (hsc.E hS hE)) (hsc.S hS).1 dX8_met_137 rfl (by decide) (by decide) (by decide) (by decide) (Nat.le_of_ble_eq_true rfl) rfl rfl rfl rfl ?_
              rcases Option.eq_none_or_eq_some (m_at ts rc) with hk228 | ⟨k226, hk228⟩
              · refine jv_topI (y := (-1)) (by rw [hk228]; rfl) ?_
                refine jv_goto (q := 144) G dX8_met_140 (by decide) ?_
                refine jv_istore (q := 146) (lo' := [(11, .int (-1)), (10, .int (nI 1)), (9, .int (-1)), (8, .int (-1)), (0, .ref x), (1, .int (nI c)), (2, .int (nI e)), (3, .int (nI 2)), (4, .int ty), (5, .int n), (6, .int s), (7, .int rc)]) G dX8_met_144 (by decide) rfl rfl ?_
                refine jv_iload (q := 148) G 3 dX8_met_146 rfl rfl ?_
                refine jv_iconst (q := 149) (v := (-1)) G dX8_met_148 (by decide) rfl ?_
                refine jv_icmp_eq (q := 152) (tgt := 163) G dX8_met_149 (by decide) rfl (fun c229 => ?_) (fun c229 => ?_)
                · refine jv_iconst (q := 164) (v := nI 1) G dX8_met_163 (by decide) rfl ?_
                  refine jv_iret G hr dX8_met_164 (Nat.le_of_ble_eq_true rfl) (Nat.le_of_ble_eq_true rfl) ?_
                  have hz : (m_met (decide (e = ec)) tsC ts pk su 2 ty n s rc) = (1, none) := by
                    unfold m_met m_isC m_bd
                    simp only [*, if_true, if_false, Bool.false_eq_true, reduceIte, Option.map_some, decide_true, decide_false, not_true_eq_false, not_false_eq_true, and_true, true_and, and_false, false_and, or_true, true_or, or_false, false_or, Bool.or_true, Bool.or_false, Bool.true_or, Bool.false_or, reduceCtorEq] <;> first | rfl | (simp_all; done) | (split <;> simp_all)
                  exact ⟨by rw [hz], hrs.tr hsc.rs, by rw [hz]; exact (hsc.x hS 32).trans hran⟩
                · exact absurd rfl c229
              · refine jv_topI (y := nI (10 * e + k226)) (by rw [hk228]; rfl) ?_
                obtain ⟨t227, ht227, nt227, lt227⟩ := m_at_some hk228
                have Tt227 := (hE.2.2 k226 t227 ht227).1
                have Ot227 := (hE.2.2 k226 t227 ht227).2
                have Lt227 := hE.2.1
                have Bt227n := Ot227.1; have Bt227k := Ot227.2.1
                refine jv_goto (q := 144) G dX8_met_140 (by decide) ?_
                refine jv_istore (q := 146) (lo' := [(11, .int (nI (10 * e + k226))), (10, .int (nI 1)), (9, .int (-1)), (8, .int (-1)), (0, .ref x), (1, .int (nI c)), (2, .int (nI e)), (3, .int (nI 2)), (4, .int ty), (5, .int n), (6, .int s), (7, .int rc)]) G dX8_met_144 (by decide) rfl rfl ?_
                refine jv_iload (q := 148) G 3 dX8_met_146 rfl rfl ?_
                refine jv_iconst (q := 149) (v := (-1)) G dX8_met_148 (by decide) rfl ?_
                refine jv_icmp_eq (q := 152) (tgt := 163) G dX8_met_149 (by decide) rfl (fun c230 => ?_) (fun c230 => ?_)
                · refine jv_iconst (q := 164) (v := nI 1) G dX8_met_163 (by decide) rfl ?_
                  refine jv_iret G hr dX8_met_164 (Nat.le_of_ble_eq_true rfl) (Nat.le_of_ble_eq_true rfl) ?_
                  have hz : (m_met (decide (e = ec)) tsC ts pk su 2 ty n s rc) = (1, none) := by
                    unfold m_met m_isC m_bd
                    simp only [*, if_true, if_false, Bool.false_eq_true, reduceIte, Option.map_some, decide_true, decide_false, not_true_eq_false, not_false_eq_true, and_true, true_and, and_false, false_and, or_true, true_or, or_false, false_or, Bool.or_true, Bool.or_false, Bool.true_or, Bool.false_or, reduceCtorEq] <;> first | rfl | (simp_all; done) | (split <;> simp_all)
                  exact ⟨by rw [hz], hrs.tr hsc.rs, by rw [hz]; exact (hsc.x hS 32).trans hran⟩
                · exact absurd rfl c230
          · omega
        · exact absurd rfl c223
      · refine jv_aload_n (q := 25) G 1 dX8_met_24 rfl rfl rfl ?_
        refine jv_iload_n (q := 26) G 2 dX8_met_25 rfl rfl rfl ?_
        refine jv_iload_n (q := 27) G 4 dX8_met_26 rfl rfl rfl ?_
        refine jv_iload (q := 29) G 5 dX8_met_27 rfl rfl ?_
        refine jv_iload (q := 31) G 6 dX8_met_29 rfl rfl ?_
        refine jv_iload (q := 33) G 7 dX8_met_31 rfl rfl ?_
        refine jv_callV_I (q := 36) (h1 := h218) (As := [.int (nI c), .int (nI 2), .int ty, .int n, .int s]) (rest := []) (ce' := 0) (sl' := 0) (r := (ffE ec (m_co tsC 2 ty n s))) G Z ml_X8_195 (r_constantOf hlt hsc hS hc hec hEC hce (by decide) hgC) (hsc.S hS).1 dX8_met_33 rfl (by decide) (by decide) (by decide) (by decide) (Nat.le_of_ble_eq_true rfl) rfl rfl rfl rfl ?_
        refine jv_topI (y := (-1)) rfl ?_
        refine jv_goto (q := 40) G dX8_met_36 (by decide) ?_
        refine jv_istore (q := 42) (lo' := [(9, .int (-1)), (8, .int (-1)), (0, .ref x), (1, .int (nI c)), (2, .int (nI e)), (3, .int (nI 2)), (4, .int ty), (5, .int n), (6, .int s), (7, .int rc)]) G dX8_met_40 (by decide) rfl rfl ?_
        refine jv_iload (q := 44) G 0 dX8_met_42 rfl rfl ?_
        refine jv_iconst (q := 45) (v := (-1)) G dX8_met_44 (by decide) rfl ?_
        refine jv_icmp_eq (q := 48) (tgt := 111) G dX8_met_45 (by decide) rfl (fun c231 => ?_) (fun c231 => ?_)
        · refine jv_iload_n (q := 112) G 5 dX8_met_111 rfl rfl rfl ?_
          refine jv_iconst (q := 113) (v := nI 2) G dX8_met_112 (by decide) rfl ?_
          refine jv_icmp_eqN (q := 116) (tgt := 121) G dX8_met_113 (by decide) rfl (by omega) (by omega) (fun c232 => ?_) (fun c232 => ?_)
          · refine jv_iconst (q := 122) (v := nI 1) G dX8_met_121 (by decide) rfl ?_
            refine jv_goto (q := 126) G dX8_met_122 (by decide) ?_
            refine jv_istore (q := 128) (lo' := [(10, .int (nI 1)), (9, .int (-1)), (8, .int (-1)), (0, .ref x), (1, .int (nI c)), (2, .int (nI e)), (3, .int (nI 2)), (4, .int ty), (5, .int n), (6, .int s), (7, .int rc)]) G dX8_met_126 (by decide) rfl rfl ?_
            refine jv_iload (q := 130) G 0 dX8_met_128 rfl rfl ?_
            refine jv_if_eqN (q := 133) (tgt := 143) G dX8_met_130 (by decide) rfl (by omega) (fun c233 => ?_) (fun c233 => ?_)
            · omega
            · refine jv_aload_n (q := 134) G 3 dX8_met_133 rfl rfl rfl ?_
              refine jv_iload_n (q := 135) G 5 dX8_met_134 rfl rfl rfl ?_
              refine jv_iload (q := 137) G 10 dX8_met_135 rfl rfl ?_
              refine jv_callV_I (q := 140) (h1 := h218) (As := [.int (nI e), .int rc]) (rest := []) (ce' := 0) (sl' := 0) (r := jv_oN ((m_at ts rc).map (fun k => 10 * e + k))) G Z ml_X8_151 (r_at hlt (hsc.S hS) he (hsc.E hS hE)) (hsc.S hS).1 dX8_met_137 rfl (by decide) (by decide) (by decide) (by decide) (Nat.le_of_ble_eq_true rfl) rfl rfl rfl rfl ?_
              rcases Option.eq_none_or_eq_some (m_at ts rc) with hk236 | ⟨k234, hk236⟩
              · refine jv_topI (y := (-1)) (by rw [hk236]; rfl) ?_
                refine jv_goto (q := 144) G dX8_met_140 (by decide) ?_
                refine jv_istore (q := 146) (lo' := [(11, .int (-1)), (10, .int (nI 1)), (9, .int (-1)), (8, .int (-1)), (0, .ref x), (1, .int (nI c)), (2, .int (nI e)), (3, .int (nI 2)), (4, .int ty), (5, .int n), (6, .int s), (7, .int rc)]) G dX8_met_144 (by decide) rfl rfl ?_
                refine jv_iload (q := 148) G 3 dX8_met_146 rfl rfl ?_
                refine jv_iconst (q := 149) (v := (-1)) G dX8_met_148 (by decide) rfl ?_
                refine jv_icmp_eq (q := 152) (tgt := 163) G dX8_met_149 (by decide) rfl (fun c237 => ?_) (fun c237 => ?_)
                · refine jv_iconst (q := 164) (v := nI 1) G dX8_met_163 (by decide) rfl ?_
                  refine jv_iret G hr dX8_met_164 (Nat.le_of_ble_eq_true rfl) (Nat.le_of_ble_eq_true rfl) ?_
                  have hz : (m_met (decide (e = ec)) tsC ts pk su 2 ty n s rc) = (1, none) := by
                    unfold m_met m_isC m_bd
                    simp only [*, if_true, if_false, Bool.false_eq_true, reduceIte, Option.map_some, decide_true, decide_false, not_true_eq_false, not_false_eq_true, and_true, true_and, and_false, false_and, or_true, true_or, or_false, false_or, Bool.or_true, Bool.or_false, Bool.true_or, Bool.false_or, reduceCtorEq] <;> first | rfl | (simp_all; done) | (split <;> simp_all)
                  exact ⟨by rw [hz], hrs.tr hsc.rs, by rw [hz]; exact (hsc.x hS 32).trans hran⟩
                · exact absurd rfl c237
              · refine jv_topI (y := nI (10 * e + k234)) (by rw [hk236]; rfl) ?_
                obtain ⟨t235, ht235, nt235, lt235⟩ := m_at_some hk236
                have Tt235 := (hE.2.2 k234 t235 ht235).1
                have Ot235 := (hE.2.2 k234 t235 ht235).2
                have Lt235 := hE.2.1
                have Bt235n := Ot235.1; have Bt235k := Ot235.2.1
                refine jv_goto (q := 144) G dX8_met_140 (by decide) ?_
                refine jv_istore (q := 146) (lo' := [(11, .int (nI (10 * e + k234))), (10, .int (nI 1)), (9, .int (-1)), (8, .int (-1)), (0, .ref x), (1, .int (nI c)), (2, .int (nI e)), (3, .int (nI 2)), (4, .int ty), (5, .int n), (6, .int s), (7, .int rc)]) G dX8_met_144 (by decide) rfl rfl ?_
                refine jv_iload (q := 148) G 3 dX8_met_146 rfl rfl ?_
                refine jv_iconst (q := 149) (v := (-1)) G dX8_met_148 (by decide) rfl ?_
                refine jv_icmp_eq (q := 152) (tgt := 163) G dX8_met_149 (by decide) rfl (fun c238 => ?_) (fun c238 => ?_)
                · refine jv_iconst (q := 164) (v := nI 1) G dX8_met_163 (by decide) rfl ?_
                  refine jv_iret G hr dX8_met_164 (Nat.le_of_ble_eq_true rfl) (Nat.le_of_ble_eq_true rfl) ?_
                  have hz : (m_met (decide (e = ec)) tsC ts pk su 2 ty n s rc) = (1, none) := by
                    unfold m_met m_isC m_bd
                    simp only [*, if_true, if_false, Bool.false_eq_true, reduceIte, Option.map_some, decide_true, decide_false, not_true_eq_false, not_false_eq_true, and_true, true_and, and_false, false_and, or_true, true_or, or_false, false_or, Bool.or_true, Bool.or_false, Bool.true_or, Bool.false_or, reduceCtorEq] <;> first | rfl | (simp_all; done) | (split <;> simp_all)
                  exact ⟨by rw [hz], hrs.tr hsc.rs, by rw [hz]; exact (hsc.x hS 32).trans hran⟩
                · exact absurd rfl c238
          · omega
        · exact absurd rfl c231
    · refine jv_topI (y := nI (10 * e + k219)) (by rw [hk221]; rfl) ?_
      obtain ⟨t220, ht220, nt220, lt220⟩ := m_at_some hk221
      have Tt220 := (hE.2.2 k219 t220 ht220).1
      have Ot220 := (hE.2.2 k219 t220 ht220).2
      have Lt220 := hE.2.1
      have Bt220n := Ot220.1; have Bt220k := Ot220.2.1
      refine jv_istore (q := 14) (lo' := [(8, .int (nI (10 * e + k219))), (0, .ref x), (1, .int (nI c)), (2, .int (nI e)), (3, .int (nI 2)), (4, .int ty), (5, .int n), (6, .int s), (7, .int rc)]) G dX8_met_12 (by decide) rfl rfl ?_
      refine jv_iload_n (q := 15) G 3 dX8_met_14 rfl rfl rfl ?_
      refine jv_aload_n (q := 16) G 1 dX8_met_15 rfl rfl rfl ?_
      refine jv_getQ (q := 19) G dX8_met_16 fl_X8_68 rfl (hsc.S hS).1 (rf_p22 (hsc.S hS)) rfl ?_
      refine jv_iload_n (q := 20) G 2 dX8_met_19 rfl rfl rfl ?_
      refine jv_iald (q := 21) G dX8_met_20 (rf_a22 (hsc.S hS)) rfl (by omega) (by decide) ((hsc.I2 hS 22 (by decide) rfl (by decide) c).trans hce) rfl ?_
      refine jv_icmp_eqN (q := 24) (tgt := 39) G dX8_met_21 (by decide) rfl (by omega) (by omega) (fun c239 => ?_) (fun c239 => ?_)
      · refine jv_iconst (q := 40) (v := (-1)) G dX8_met_39 (by decide) rfl ?_
        refine jv_istore (q := 42) (lo' := [(9, .int (-1)), (8, .int (nI (10 * e + k219))), (0, .ref x), (1, .int (nI c)), (2, .int (nI e)), (3, .int (nI 2)), (4, .int ty), (5, .int n), (6, .int s), (7, .int rc)]) G dX8_met_40 (by decide) rfl rfl ?_
        refine jv_iload (q := 44) G 0 dX8_met_42 rfl rfl ?_
        refine jv_iconst (q := 45) (v := (-1)) G dX8_met_44 (by decide) rfl ?_
        refine jv_icmp_eq (q := 48) (tgt := 111) G dX8_met_45 (by decide) rfl (fun c240 => ?_) (fun c240 => ?_)
        · refine jv_iload_n (q := 112) G 5 dX8_met_111 rfl rfl rfl ?_
          refine jv_iconst (q := 113) (v := nI 2) G dX8_met_112 (by decide) rfl ?_
          refine jv_icmp_eqN (q := 116) (tgt := 121) G dX8_met_113 (by decide) rfl (by omega) (by omega) (fun c241 => ?_) (fun c241 => ?_)
          · refine jv_iconst (q := 122) (v := nI 1) G dX8_met_121 (by decide) rfl ?_
            refine jv_goto (q := 126) G dX8_met_122 (by decide) ?_
            refine jv_istore (q := 128) (lo' := [(10, .int (nI 1)), (9, .int (-1)), (8, .int (nI (10 * e + k219))), (0, .ref x), (1, .int (nI c)), (2, .int (nI e)), (3, .int (nI 2)), (4, .int ty), (5, .int n), (6, .int s), (7, .int rc)]) G dX8_met_126 (by decide) rfl rfl ?_
            refine jv_iload (q := 130) G 0 dX8_met_128 rfl rfl ?_
            refine jv_if_eqN (q := 133) (tgt := 143) G dX8_met_130 (by decide) rfl (by omega) (fun c242 => ?_) (fun c242 => ?_)
            · omega
            · refine jv_aload_n (q := 134) G 3 dX8_met_133 rfl rfl rfl ?_
              refine jv_iload_n (q := 135) G 5 dX8_met_134 rfl rfl rfl ?_
              refine jv_iload (q := 137) G 10 dX8_met_135 rfl rfl ?_
              refine jv_callV_I (q := 140) (h1 := h218) (As := [.int (nI e), .int rc]) (rest := []) (ce' := 0) (sl' := 0) (r := jv_oN ((m_at ts rc).map (fun k => 10 * e + k))) G Z ml_X8_151 (r_at hlt (hsc.S hS) he (hsc.E hS hE)) (hsc.S hS).1 dX8_met_137 rfl (by decide) (by decide) (by decide) (by decide) (Nat.le_of_ble_eq_true rfl) rfl rfl rfl rfl ?_
              rcases Option.eq_none_or_eq_some (m_at ts rc) with hk245 | ⟨k243, hk245⟩
              · refine jv_topI (y := (-1)) (by rw [hk245]; rfl) ?_
                refine jv_goto (q := 144) G dX8_met_140 (by decide) ?_
                refine jv_istore (q := 146) (lo' := [(11, .int (-1)), (10, .int (nI 1)), (9, .int (-1)), (8, .int (nI (10 * e + k219))), (0, .ref x), (1, .int (nI c)), (2, .int (nI e)), (3, .int (nI 2)), (4, .int ty), (5, .int n), (6, .int s), (7, .int rc)]) G dX8_met_144 (by decide) rfl rfl ?_
                refine jv_iload (q := 148) G 3 dX8_met_146 rfl rfl ?_
                refine jv_iconst (q := 149) (v := (-1)) G dX8_met_148 (by decide) rfl ?_
                refine jv_icmp_eq (q := 152) (tgt := 163) G dX8_met_149 (by decide) rfl (fun c246 => ?_) (fun c246 => ?_)
                · exact absurd c246 (jv_nI_m1 (by omega))
                · refine jv_iload (q := 154) G 1 dX8_met_152 rfl rfl ?_
                  refine jv_if_eqN (q := 157) (tgt := 165) G dX8_met_154 (by decide) rfl (by omega) (fun c247 => ?_) (fun c247 => ?_)
                  · omega
                  · refine jv_iload (q := 159) G 0 dX8_met_157 rfl rfl ?_
                    refine jv_iconst (q := 160) (v := (-1)) G dX8_met_159 (by decide) rfl ?_
                    refine jv_icmp_ne (q := 163) (tgt := 165) G dX8_met_160 (by decide) rfl (fun c248 => ?_) (fun c248 => ?_)
                    · exact absurd rfl c248
                    · refine jv_iconst (q := 164) (v := nI 1) G dX8_met_163 (by decide) rfl ?_
                      refine jv_iret G hr dX8_met_164 (Nat.le_of_ble_eq_true rfl) (Nat.le_of_ble_eq_true rfl) ?_
                      have hz : (m_met (decide (e = ec)) tsC ts pk su 2 ty n s rc) = (1, none) := by
                        unfold m_met m_isC m_bd
                        simp only [*, if_true, if_false, Bool.false_eq_true, reduceIte, Option.map_some, decide_true, decide_false, not_true_eq_false, not_false_eq_true, and_true, true_and, and_false, false_and, or_true, true_or, or_false, false_or, Bool.or_true, Bool.or_false, Bool.true_or, Bool.false_or, reduceCtorEq] <;> first | rfl | (simp_all; done) | (split <;> simp_all)
                      exact ⟨by rw [hz], hrs.tr hsc.rs, by rw [hz]; exact (hsc.x hS 32).trans hran⟩
              · refine jv_topI (y := nI (10 * e + k243)) (by rw [hk245]; rfl) ?_
                obtain ⟨t244, ht244, nt244, lt244⟩ := m_at_some hk245
                have Tt244 := (hE.2.2 k243 t244 ht244).1
                have Ot244 := (hE.2.2 k243 t244 ht244).2
                have Lt244 := hE.2.1
                have Bt244n := Ot244.1; have Bt244k := Ot244.2.1
                refine jv_goto (q := 144) G dX8_met_140 (by decide) ?_
                refine jv_istore (q := 146) (lo' := [(11, .int (nI (10 * e + k243))), (10, .int (nI 1)), (9, .int (-1)), (8, .int (nI (10 * e + k219))), (0, .ref x), (1, .int (nI c)), (2, .int (nI e)), (3, .int (nI 2)), (4, .int ty), (5, .int n), (6, .int s), (7, .int rc)]) G dX8_met_144 (by decide) rfl rfl ?_
                refine jv_iload (q := 148) G 3 dX8_met_146 rfl rfl ?_
                refine jv_iconst (q := 149) (v := (-1)) G dX8_met_148 (by decide) rfl ?_
                refine jv_icmp_eq (q := 152) (tgt := 163) G dX8_met_149 (by decide) rfl (fun c249 => ?_) (fun c249 => ?_)
                · exact absurd c249 (jv_nI_m1 (by omega))
                · refine jv_iload (q := 154) G 1 dX8_met_152 rfl rfl ?_
                  refine jv_if_eqN (q := 157) (tgt := 165) G dX8_met_154 (by decide) rfl (by omega) (fun c250 => ?_) (fun c250 => ?_)
                  · omega
                  · refine jv_iload (q := 159) G 0 dX8_met_157 rfl rfl ?_
                    refine jv_iconst (q := 160) (v := (-1)) G dX8_met_159 (by decide) rfl ?_
                    refine jv_icmp_ne (q := 163) (tgt := 165) G dX8_met_160 (by decide) rfl (fun c251 => ?_) (fun c251 => ?_)
                    · refine jv_aload_n (q := 166) G 4 dX8_met_165 rfl rfl rfl ?_
                      refine jv_getQ (q := 169) G dX8_met_166 fl_X8_29 rfl (hsc.S hS).1 (rf_p8 (hsc.S hS)) rfl ?_
                      refine jv_iload (q := 171) G 3 dX8_met_169 rfl rfl ?_
                      refine jv_zald (q := 172) G dX8_met_171 (rf_a8 (hsc.S hS)) rfl (by omega) (by decide) (rt_8 (hsc.T hS Tt220)) rfl ?_
                      refine jv_if_neB (q := 175) (tgt := 193) G dX8_met_172 (by decide) rfl (fun c252 => ?_) (fun c252 => ?_)
                      · refine jv_iload_n (q := 194) G 7 dX8_met_193 rfl rfl rfl ?_
                        refine jv_iconst (q := 195) (v := nI 2) G dX8_met_194 (by decide) rfl ?_
                        refine jv_icmp_neN (q := 198) (tgt := 208) G dX8_met_195 (by decide) rfl (by omega) (by omega) (fun c253 => ?_) (fun c253 => ?_)
                        · omega
                        · refine jv_aload_n (q := 199) G 4 dX8_met_198 rfl rfl rfl ?_
                          refine jv_getQ (q := 202) G dX8_met_199 fl_X8_20 rfl (hsc.S hS).1 (rf_p5 (hsc.S hS)) rfl ?_
                          refine jv_iload (q := 204) G 3 dX8_met_202 rfl rfl ?_
                          refine jv_zald (q := 205) G dX8_met_204 (rf_a5 (hsc.S hS)) rfl (by omega) (by decide) (rt_5 (hsc.T hS Tt220)) rfl ?_
                          refine jv_if_neB (q := 208) (tgt := 223) G dX8_met_205 (by decide) rfl (fun c254 => ?_) (fun c254 => ?_)
                          · refine jv_bipush (q := 225) (v := nI 6) G dX8_met_223 (by decide) rfl ?_
                            refine jv_iret G hr dX8_met_225 (Nat.le_of_ble_eq_true rfl) (Nat.le_of_ble_eq_true rfl) ?_
                            have hz : (m_met (decide (e = ec)) tsC ts pk su 2 ty n s rc) = (6, none) := by
                              unfold m_met m_isC m_bd
                              simp only [*, if_true, if_false, Bool.false_eq_true, reduceIte, Option.map_some, decide_true, decide_false, not_true_eq_false, not_false_eq_true, and_true, true_and, and_false, false_and, or_true, true_or, or_false, false_or, Bool.or_true, Bool.or_false, Bool.true_or, Bool.false_or, reduceCtorEq] <;> first | rfl | (simp_all; done) | (split <;> simp_all)
                            exact ⟨by rw [hz], hrs.tr hsc.rs, by rw [hz]; exact (hsc.x hS 32).trans hran⟩
                          · refine jv_iload_n (q := 209) G 7 dX8_met_208 rfl rfl rfl ?_
                            refine jv_iconst (q := 210) (v := nI 4) G dX8_met_209 (by decide) rfl ?_
                            refine jv_icmp_neN (q := 213) (tgt := 226) G dX8_met_210 (by decide) rfl (by omega) (by omega) (fun c255 => ?_) (fun c255 => ?_)
                            · refine jv_iload_n (q := 227) G 7 dX8_met_226 rfl rfl rfl ?_
                              refine jv_iconst (q := 228) (v := nI 5) G dX8_met_227 (by decide) rfl ?_
                              refine jv_icmp_neN (q := 231) (tgt := 247) G dX8_met_228 (by decide) rfl (by omega) (by omega) (fun c256 => ?_) (fun c256 => ?_)
                              · refine jv_iload_n (q := 248) G 7 dX8_met_247 rfl rfl rfl ?_
                                refine jv_iconst (q := 249) (v := nI 2) G dX8_met_248 (by decide) rfl ?_
                                refine jv_icmp_geN (q := 252) (tgt := 266) G dX8_met_249 (by decide) rfl (by omega) (by omega) (fun c257 => ?_) (fun c257 => ?_)
                                · refine jv_aload_n (q := 267) G 4 dX8_met_266 rfl rfl rfl ?_
                                  refine jv_iload_n (q := 268) G 6 dX8_met_267 rfl rfl rfl ?_
                                  refine jv_iload (q := 270) G 3 dX8_met_268 rfl rfl ?_
                                  refine jv_iload (q := 272) G 9 dX8_met_270 rfl rfl ?_
                                  refine jv_iload (q := 274) G 10 dX8_met_272 rfl rfl ?_
                                  refine jv_callV (q := 277) (As := [.int (nI e), .int (nI (10 * e + k219)), .int n, .int s]) (rest := []) G Z ml_X8_186 (r_findMethod (d := 11) hlt hsc hS he hE hV ht220 (hg k219 (by omega))) (hsc.S hS).1 dX8_met_274 rfl (by decide) (by decide) (by decide) (by decide) (Nat.le_of_ble_eq_true rfl) rfl rfl (fun v259 h258 y260 => ?_) (fun _ _ hx => hx.elim)
                                  obtain ⟨rfl, hsc⟩ := y260
                                  show jv_V E 14 h258 0 0 (jv_Q E (fun v h' => v = some (.int (nI (m_met (decide (e = ec)) tsC ts pk su 2 ty n s rc).1)) ∧ rs x q h h' ∧ jv_I h' x 32 = jv_oN (m_met (decide (e = ec)) tsC ts pk su 2 ty n s rc).2) jv_no 0 0) 277 [(11, .int (nI (10 * e + k243))), (10, .int (nI 1)), (9, .int (-1)), (8, .int (nI (10 * e + k219))), (0, .ref x), (1, .int (nI c)), (2, .int (nI e)), (3, .int (nI 2)), (4, .int ty), (5, .int n), (6, .int s), (7, .int rc)] [.int (ffE e (m_fm ts 11 k219 n s))]
                                  rcases Option.eq_none_or_eq_some (m_fm ts 11 k219 n s) with hp264 | ⟨p261, hp264⟩
                                  · refine jv_topI (y := (-1)) (by rw [hp264]; rfl) ?_
                                    refine jv_istore (q := 279) (lo' := [(12, .int (-1)), (11, .int (nI (10 * e + k243))), (10, .int (nI 1)), (9, .int (-1)), (8, .int (nI (10 * e + k219))), (0, .ref x), (1, .int (nI c)), (2, .int (nI e)), (3, .int (nI 2)), (4, .int ty), (5, .int n), (6, .int s), (7, .int rc)]) G dX8_met_277 (by decide) rfl rfl ?_
                                    refine jv_iload (q := 281) G 0 dX8_met_279 rfl rfl ?_
                                    refine jv_iconst (q := 282) (v := (-1)) G dX8_met_281 (by decide) rfl ?_
                                    refine jv_icmp_ne (q := 285) (tgt := 287) G dX8_met_282 (by decide) rfl (fun c265 => ?_) (fun c265 => ?_)
                                    · exact absurd rfl c265
                                    · refine jv_iconst (q := 286) (v := nI 2) G dX8_met_285 (by decide) rfl ?_
                                      refine jv_iret G hr dX8_met_286 (Nat.le_of_ble_eq_true rfl) (Nat.le_of_ble_eq_true rfl) ?_
                                      have hz : (m_met (decide (e = ec)) tsC ts pk su 2 ty n s rc) = (2, none) := by
                                        unfold m_met m_isC m_bd
                                        simp only [*, if_true, if_false, Bool.false_eq_true, reduceIte, Option.map_some, decide_true, decide_false, not_true_eq_false, not_false_eq_true, and_true, true_and, and_false, false_and, or_true, true_or, or_false, false_or, Bool.or_true, Bool.or_false, Bool.true_or, Bool.false_or, reduceCtorEq] <;> first | rfl | (simp_all; done) | (split <;> simp_all)
                                      exact ⟨by rw [hz], hrs.tr hsc.rs, by rw [hz]; exact (hsc.x hS 32).trans hran⟩
                                  · refine jv_topI (y := nI (6 * (10 * e + p261.1) + p261.2)) (by rw [hp264]; rfl) ?_
                                    obtain ⟨t262, ht262, m263, hm263⟩ := m_fm_mem hp264
                                    have Tt262 := (hE.2.2 p261.1 t262 ht262).1
                                    have Ot262 := (hE.2.2 p261.1 t262 ht262).2
                                    have Lt262 := hE.2.1
                                    have lt262 := jv_ltGet ht262
                                    have Mm263 := rt_m Tt262 hm263
                                    have Om263 := Ot262.2.2.2.2.2.2 m263 (List.mem_of_getElem? hm263)
                                    have Lm263 := Ot262.2.2.2.2.2.1
                                    have lm263 := jv_ltGet hm263
                                    have Bm263n := Om263.1; have Bm263s := Om263.2.1; have Bm263a := Om263.2.2.1; have Bt262n := Ot262.1; have Bt262k := Ot262.2.1
                                    refine jv_istore (q := 279) (lo' := [(12, .int (nI (6 * (10 * e + p261.1) + p261.2))), (11, .int (nI (10 * e + k243))), (10, .int (nI 1)), (9, .int (-1)), (8, .int (nI (10 * e + k219))), (0, .ref x), (1, .int (nI c)), (2, .int (nI e)), (3, .int (nI 2)), (4, .int ty), (5, .int n), (6, .int s), (7, .int rc)]) G dX8_met_277 (by decide) rfl rfl ?_
                                    refine jv_iload (q := 281) G 0 dX8_met_279 rfl rfl ?_
                                    refine jv_iconst (q := 282) (v := (-1)) G dX8_met_281 (by decide) rfl ?_
                                    refine jv_icmp_ne (q := 285) (tgt := 287) G dX8_met_282 (by decide) rfl (fun c266 => ?_) (fun c266 => ?_)
                                    · refine jv_aload_n (q := 288) G 5 dX8_met_287 rfl rfl rfl ?_
                                      refine jv_iload_n (q := 289) G 6 dX8_met_288 rfl rfl rfl ?_
                                      refine jv_iload_n (q := 290) G 7 dX8_met_289 rfl rfl rfl ?_
                                      refine jv_iload (q := 292) G 0 dX8_met_290 rfl rfl ?_
                                      refine jv_callV_I (q := 295) (h1 := h258) (As := [.int (nI c), .int (nI e), .int (nI (6 * (10 * e + p261.1) + p261.2))]) (rest := []) (ce' := 0) (sl' := 0) (r := jv_bI (m_mr ts pk su t262 m263)) G Z ml_X8_199 (r_mayReach hlt hsc hS hc he hE hV ht262 hm263 hpk hpk5 hsu hsu16) (hsc.S hS).1 dX8_met_292 rfl (by decide) (by decide) (by decide) (by decide) (Nat.le_of_ble_eq_true rfl) rfl rfl rfl rfl ?_
                                      refine jv_if_neB (q := 298) (tgt := 300) G dX8_met_295 (by decide) rfl (fun c267 => ?_) (fun c267 => ?_)
                                      · refine jv_aload_n (q := 301) G 5 dX8_met_300 rfl rfl rfl ?_
                                        refine jv_getQ (q := 304) G dX8_met_301 fl_X8_56 rfl (hsc.S hS).1 (rf_p17 (hsc.S hS)) rfl ?_
                                        refine jv_iload (q := 306) G 0 dX8_met_304 rfl rfl ?_
                                        refine jv_zald (q := 307) G dX8_met_306 (rf_a17 (hsc.S hS)) rfl (by omega) (by decide) (hsc.M hS Mm263).2.2.2.2.1 rfl ?_
                                        refine jv_iload_n (q := 308) G 8 dX8_met_307 rfl rfl rfl ?_
                                        refine jv_iconst (q := 309) (v := nI 1) G dX8_met_308 (by decide) rfl ?_
                                        refine jv_icmp_eqN (q := 312) (tgt := 317) G dX8_met_309 (by decide) rfl (by omega) (by omega) (fun c268 => ?_) (fun c268 => ?_)
                                        · omega
                                        · refine jv_iload_n (q := 313) G 8 dX8_met_312 rfl rfl rfl ?_
                                          refine jv_iconst (q := 314) (v := nI 3) G dX8_met_313 (by decide) rfl ?_
                                          refine jv_icmp_neN (q := 317) (tgt := 321) G dX8_met_314 (by decide) rfl (by omega) (by omega) (fun c269 => ?_) (fun c269 => ?_)
                                          · refine jv_iconst (q := 322) (v := nI 0) G dX8_met_321 (by decide) rfl ?_
                                            refine jv_icmp_eq (q := 325) (tgt := 327) G dX8_met_322 (by decide) rfl (fun c270 => ?_) (fun c270 => ?_)
                                            · refine jv_iload (q := 329) G 2 dX8_met_327 rfl rfl ?_
                                              refine jv_if_neN (q := 332) (tgt := 357) G dX8_met_329 (by decide) rfl (by omega) (fun c271 => ?_) (fun c271 => ?_)
                                              · refine jv_aload_n (q := 358) G 5 dX8_met_357 rfl rfl rfl ?_
                                                refine jv_getQ (q := 361) G dX8_met_358 fl_X8_20 rfl (hsc.S hS).1 (rf_p5 (hsc.S hS)) rfl ?_
                                                refine jv_iload (q := 363) G 1 dX8_met_361 rfl rfl ?_
                                                refine jv_zald (q := 364) G dX8_met_363 (rf_a5 (hsc.S hS)) rfl (by omega) (by decide) (rt_5 (hsc.T hS Tt244)) rfl ?_
                                                refine jv_if_neB (q := 367) (tgt := 396) G dX8_met_364 (by decide) rfl (fun c272 => ?_) (fun c272 => ?_)
                                                · refine jv_bipush (q := 398) (v := nI 6) G dX8_met_396 (by decide) rfl ?_
                                                  refine jv_iret G hr dX8_met_398 (Nat.le_of_ble_eq_true rfl) (Nat.le_of_ble_eq_true rfl) ?_
                                                  have hz : (m_met (decide (e = ec)) tsC ts pk su 2 ty n s rc) = (6, none) := by
                                                    unfold m_met m_isC m_bd
                                                    simp only [*, if_true, if_false, Bool.false_eq_true, reduceIte, Option.map_some, decide_true, decide_false, not_true_eq_false, not_false_eq_true, and_true, true_and, and_false, false_and, or_true, true_or, or_false, false_or, Bool.or_true, Bool.or_false, Bool.true_or, Bool.false_or, reduceCtorEq] <;> first | rfl | (simp_all; done) | (split <;> simp_all)
                                                  exact ⟨by rw [hz], hrs.tr hsc.rs, by rw [hz]; exact (hsc.x hS 32).trans hran⟩
                                                · refine jv_aload_n (q := 368) G 5 dX8_met_367 rfl rfl rfl ?_
                                                  refine jv_getQ (q := 371) G dX8_met_368 fl_X8_23 rfl (hsc.S hS).1 (rf_p6 (hsc.S hS)) rfl ?_
                                                  refine jv_iload (q := 373) G 1 dX8_met_371 rfl rfl ?_
                                                  refine jv_zald (q := 374) G dX8_met_373 (rf_a6 (hsc.S hS)) rfl (by omega) (by decide) (rt_6 (hsc.T hS Tt244)) rfl ?_
                                                  refine jv_if_neB (q := 377) (tgt := 396) G dX8_met_374 (by decide) rfl (fun c273 => ?_) (fun c273 => ?_)
                                                  · refine jv_bipush (q := 398) (v := nI 6) G dX8_met_396 (by decide) rfl ?_
                                                    refine jv_iret G hr dX8_met_398 (Nat.le_of_ble_eq_true rfl) (Nat.le_of_ble_eq_true rfl) ?_
                                                    have hz : (m_met (decide (e = ec)) tsC ts pk su 2 ty n s rc) = (6, none) := by
                                                      unfold m_met m_isC m_bd
                                                      simp only [*, if_true, if_false, Bool.false_eq_true, reduceIte, Option.map_some, decide_true, decide_false, not_true_eq_false, not_false_eq_true, and_true, true_and, and_false, false_and, or_true, true_or, or_false, false_or, Bool.or_true, Bool.or_false, Bool.true_or, Bool.false_or, reduceCtorEq] <;> first | rfl | (simp_all; done) | (split <;> simp_all)
                                                    exact ⟨by rw [hz], hrs.tr hsc.rs, by rw [hz]; exact (hsc.x hS 32).trans hran⟩
                                                  · refine jv_iload (q := 379) G 1 dX8_met_377 rfl rfl ?_
                                                    refine jv_iload (q := 381) G 4 dX8_met_379 rfl rfl ?_
                                                    refine jv_icmp_eqN (q := 384) (tgt := 399) G dX8_met_381 (by decide) rfl (by omega) (by omega) (fun c274 => ?_) (fun c274 => ?_)
                                                    · refine jv_aload_n (q := 400) G 5 dX8_met_399 rfl rfl rfl ?_
                                                      refine jv_iload_n (q := 401) G 7 dX8_met_400 rfl rfl rfl ?_
                                                      refine jv_iload (q := 403) G 0 dX8_met_401 rfl rfl ?_
                                                      refine jv_iload (q := 405) G 1 dX8_met_403 rfl rfl ?_
                                                      refine jv_callV (q := 408) (As := [.int (nI e), .int (nI (6 * (10 * e + p261.1) + p261.2)), .int (nI (10 * e + k243))]) (rest := []) G Z ml_X8_189 (r_selected (d := 11) hlt hsc hS he hE hV ht262 hm263 ht244 (hg k243 (by omega))) (hsc.S hS).1 dX8_met_405 rfl (by decide) (by decide) (by decide) (by decide) (Nat.le_of_ble_eq_true rfl) rfl rfl (fun v276 h275 y277 => ?_) (fun _ _ hx => hx.elim)
                                                      obtain ⟨rfl, hsc⟩ := y277
                                                      show jv_V E 14 h275 0 0 (jv_Q E (fun v h' => v = some (.int (nI (m_met (decide (e = ec)) tsC ts pk su 2 ty n s rc).1)) ∧ rs x q h h' ∧ jv_I h' x 32 = jv_oN (m_met (decide (e = ec)) tsC ts pk su 2 ty n s rc).2) jv_no 0 0) 408 [(12, .int (nI (6 * (10 * e + p261.1) + p261.2))), (11, .int (nI (10 * e + k243))), (10, .int (nI 1)), (9, .int (-1)), (8, .int (nI (10 * e + k219))), (0, .ref x), (1, .int (nI c)), (2, .int (nI e)), (3, .int (nI 2)), (4, .int ty), (5, .int n), (6, .int s), (7, .int rc)] [.int (ffE e (m_sl ts 11 t262 m263 p261.1 p261.2 k243))]
                                                      rcases Option.eq_none_or_eq_some (m_sl ts 11 t262 m263 p261.1 p261.2 k243) with hp281 | ⟨p278, hp281⟩
                                                      · refine jv_topI (y := (-1)) (by rw [hp281]; rfl) ?_
                                                        refine jv_istore (q := 410) (lo' := [(13, .int (-1)), (12, .int (nI (6 * (10 * e + p261.1) + p261.2))), (11, .int (nI (10 * e + k243))), (10, .int (nI 1)), (9, .int (-1)), (8, .int (nI (10 * e + k219))), (0, .ref x), (1, .int (nI c)), (2, .int (nI e)), (3, .int (nI 2)), (4, .int ty), (5, .int n), (6, .int s), (7, .int rc)]) G dX8_met_408 (by decide) rfl rfl ?_
                                                        refine jv_iload (q := 412) G 0 dX8_met_410 rfl rfl ?_
                                                        refine jv_iconst (q := 413) (v := (-1)) G dX8_met_412 (by decide) rfl ?_
                                                        refine jv_icmp_eq (q := 416) (tgt := 426) G dX8_met_413 (by decide) rfl (fun c282 => ?_) (fun c282 => ?_)
                                                        · refine jv_iconst (q := 427) (v := nI 5) G dX8_met_426 (by decide) rfl ?_
                                                          refine jv_iret G hr dX8_met_427 (Nat.le_of_ble_eq_true rfl) (Nat.le_of_ble_eq_true rfl) ?_
                                                          have hz : (m_met (decide (e = ec)) tsC ts pk su 2 ty n s rc) = (5, none) := by
                                                            unfold m_met m_isC m_bd
                                                            simp only [*, if_true, if_false, Bool.false_eq_true, reduceIte, Option.map_some, decide_true, decide_false, not_true_eq_false, not_false_eq_true, and_true, true_and, and_false, false_and, or_true, true_or, or_false, false_or, Bool.or_true, Bool.or_false, Bool.true_or, Bool.false_or, reduceCtorEq] <;> first | rfl | (simp_all; done) | (split <;> simp_all)
                                                          exact ⟨by rw [hz], hrs.tr hsc.rs, by rw [hz]; exact (hsc.x hS 32).trans hran⟩
                                                        · exact absurd rfl c282
                                                      · refine jv_topI (y := nI (6 * (10 * e + p278.1) + p278.2)) (by rw [hp281]; rfl) ?_
                                                        obtain ⟨t279, ht279, m280, hm280⟩ := m_sl_mem ht262 hm263 hp281
                                                        have Tt279 := (hE.2.2 p278.1 t279 ht279).1
                                                        have Ot279 := (hE.2.2 p278.1 t279 ht279).2
                                                        have Lt279 := hE.2.1
                                                        have lt279 := jv_ltGet ht279
                                                        have Mm280 := rt_m Tt279 hm280
                                                        have Om280 := Ot279.2.2.2.2.2.2 m280 (List.mem_of_getElem? hm280)
                                                        have Lm280 := Ot279.2.2.2.2.2.1
                                                        have lm280 := jv_ltGet hm280
                                                        have Bm280n := Om280.1; have Bm280s := Om280.2.1; have Bm280a := Om280.2.2.1; have Bt279n := Ot279.1; have Bt279k := Ot279.2.1
                                                        refine jv_istore (q := 410) (lo' := [(13, .int (nI (6 * (10 * e + p278.1) + p278.2))), (12, .int (nI (6 * (10 * e + p261.1) + p261.2))), (11, .int (nI (10 * e + k243))), (10, .int (nI 1)), (9, .int (-1)), (8, .int (nI (10 * e + k219))), (0, .ref x), (1, .int (nI c)), (2, .int (nI e)), (3, .int (nI 2)), (4, .int ty), (5, .int n), (6, .int s), (7, .int rc)]) G dX8_met_408 (by decide) rfl rfl ?_
                                                        refine jv_iload (q := 412) G 0 dX8_met_410 rfl rfl ?_
                                                        refine jv_iconst (q := 413) (v := (-1)) G dX8_met_412 (by decide) rfl ?_
                                                        refine jv_icmp_eq (q := 416) (tgt := 426) G dX8_met_413 (by decide) rfl (fun c283 => ?_) (fun c283 => ?_)
                                                        · exact absurd c283 (jv_nI_m1 (by omega))
                                                        · refine jv_aload_n (q := 417) G 6 dX8_met_416 rfl rfl rfl ?_
                                                          refine jv_getQ (q := 420) G dX8_met_417 fl_X8_59 rfl (hsc.S hS).1 (rf_p18 (hsc.S hS)) rfl ?_
                                                          refine jv_iload (q := 422) G 0 dX8_met_420 rfl rfl ?_
                                                          refine jv_iald (q := 423) G dX8_met_422 (rf_a18 (hsc.S hS)) rfl (by omega) (by decide) (hsc.M hS Mm280).2.2.2.2.2.1 rfl ?_
                                                          refine jv_if_ge (q := 426) (tgt := 428) G dX8_met_423 (by decide) rfl (fun c284 => ?_) (fun c284 => ?_)
                                                          · refine jv_iload_n (q := 429) G 9 dX8_met_428 rfl rfl rfl ?_
                                                            refine jv_iconst (q := 430) (v := nI 4) G dX8_met_429 (by decide) rfl ?_
                                                            refine jv_icmp_neN (q := 433) (tgt := 446) G dX8_met_430 (by decide) rfl (by omega) (by omega) (fun c285 => ?_) (fun c285 => ?_)
                                                            · refine jv_aload_n (q := 447) G 6 dX8_met_446 rfl rfl rfl ?_
                                                              refine jv_aload_n (q := 448) G 6 dX8_met_447 rfl rfl rfl ?_
                                                              refine jv_getQ (q := 451) G dX8_met_448 fl_X8_17 rfl (hsc.S hS).1 (rf_p4 (hsc.S hS)) rfl ?_
                                                              refine jv_iload (q := 453) G 0 dX8_met_451 rfl rfl ?_
                                                              refine jv_callS_I (q := 456) (h1 := h275) (As := [.int (nI (6 * (10 * e + p278.1) + p278.2))]) (rest := [.ref (q 4), .ref x]) (ce' := 0) (sl' := 0) (r := nI ((6 * (10 * e + p278.1) + p278.2) / 6)) G Z ml_X8_183 (r_typeOf hlt (by omega)) dX8_met_453 rfl (by decide) (by decide) (by decide) (by decide) (Nat.le_of_ble_eq_true rfl) rfl rfl rfl rfl ?_
                                                              refine jv_topI (y := nI (10 * e + p278.1)) (congrArg nI (by omega)) ?_
                                                              refine jv_iald (q := 457) G dX8_met_456 (rf_a4 (hsc.S hS)) rfl (by omega) (by decide) (rt_4 (hsc.T hS Tt279)) rfl ?_
                                                              refine jv_putI (q := 460) G dX8_met_457 fl_X8_192 rfl (hsc.S hS).1 rfl ?_
                                                              have hr1 : rs x q h275 (jv_wI h275 x 32 (nI (mt_n t279))) := rs.rf.wI (nI (mt_n t279)) (Or.inl ⟨rfl, Or.inr (Or.inl rfl)⟩)
                                                              have hran : jv_I (jv_wI h275 x 32 (nI (mt_n t279))) x 32 = (nI (mt_n t279)) := jv_I_self _ _ _ _
                                                              have hSb := hsc.S hS
                                                              have hE := hr1.E hSb (hsc.E hS hE)
                                                              have hV := hr1.V hSb (hsc.V hS hV)
                                                              have hEC := hr1.E hSb (hsc.E hS hEC)
                                                              have hVC := hr1.V hSb (hsc.V hS hVC)
                                                              have hce := (wx_I hSb 22 (by decide) rfl 32 c (nI (mt_n t279))).trans ((hsc.I2 hS 22 (by decide) rfl (by decide) c).trans hce)
                                                              have hpk := (wx_I hSb 23 (by decide) rfl 32 c (nI (mt_n t279))).trans ((hsc.I2 hS 23 (by decide) rfl (by decide) c).trans hpk)
                                                              have hsu := (wx_I hSb 24 (by decide) rfl 32 c (nI (mt_n t279))).trans ((hsc.I2 hS 24 (by decide) rfl (by decide) c).trans hsu)
                                                              have hrs := (hrs.tr hsc.rs).tr hr1
                                                              have hS := hr1.S hSb
                                                              generalize jv_wI h275 x 32 (nI (mt_n t279)) = h286 at hran hE hV hEC hVC hce hpk hsu hrs hS ⊢
                                                              have hsc : sc x q h286 h286 := sc.rf
                                                              refine jv_iload_n (q := 461) G 8 dX8_met_460 rfl rfl rfl ?_
                                                              refine jv_aload_n (q := 462) G 6 dX8_met_461 rfl rfl rfl ?_
                                                              refine jv_getQ (q := 465) G dX8_met_462 fl_X8_68 rfl (hsc.S hS).1 (rf_p22 (hsc.S hS)) rfl ?_
                                                              refine jv_iload_n (q := 466) G 7 dX8_met_465 rfl rfl rfl ?_
                                                              refine jv_iald (q := 467) G dX8_met_466 (rf_a22 (hsc.S hS)) rfl (by omega) (by decide) ((hsc.I2 hS 22 (by decide) rfl (by decide) c).trans hce) rfl ?_
                                                              refine jv_icmp_eqN (q := 470) (tgt := 495) G dX8_met_467 (by decide) rfl (by omega) (by omega) (fun c287 => ?_) (fun c287 => ?_)
                                                              · refine jv_iconst (q := 496) (v := nI 0) G dX8_met_495 (by decide) rfl ?_
                                                                refine jv_iret G hr dX8_met_496 (Nat.le_of_ble_eq_true rfl) (Nat.le_of_ble_eq_true rfl) ?_
                                                                have hz : (m_met (decide (e = ec)) tsC ts pk su 2 ty n s rc) = (0, some (mt_n t279)) := by
                                                                  unfold m_met m_isC m_bd
                                                                  simp only [*, if_true, if_false, Bool.false_eq_true, reduceIte, Option.map_some, decide_true, decide_false, not_true_eq_false, not_false_eq_true, and_true, true_and, and_false, false_and, or_true, true_or, or_false, false_or, Bool.or_true, Bool.or_false, Bool.true_or, Bool.false_or, reduceCtorEq] <;> first | rfl | (simp_all; done) | (split <;> simp_all)
                                                                exact ⟨by rw [hz], hrs.tr hsc.rs, by rw [hz]; exact (hsc.x hS 32).trans hran⟩
                                                              · refine jv_aload_n (q := 471) G 6 dX8_met_470 rfl rfl rfl ?_
                                                                refine jv_getI (q := 474) G dX8_met_471 fl_X8_192 rfl (hsc.S hS).1 ((hsc.x hS 32).trans hran) rfl ?_
                                                                refine jv_aload_n (q := 475) G 6 dX8_met_474 rfl rfl rfl ?_
                                                                refine jv_iload_n (q := 476) G 7 dX8_met_475 rfl rfl rfl ?_
                                                                refine jv_iload (q := 478) G 10 dX8_met_476 rfl rfl ?_
                                                                refine jv_iload (q := 480) G 11 dX8_met_478 rfl rfl ?_
                                                                refine jv_iload (q := 482) G 12 dX8_met_480 rfl rfl ?_
                                                                refine jv_iload (q := 484) G 13 dX8_met_482 rfl rfl ?_
                                                                refine jv_callV (q := 487) (As := [.int (nI c), .int ty, .int n, .int s, .int rc]) (rest := [.int (nI (mt_n t279))]) G Z ml_X8_202 (r_ownRun hlt hsc hS hc hec hEC hVC hce hgC) (hsc.S hS).1 dX8_met_484 rfl (by decide) (by decide) (by decide) (by decide) (Nat.le_of_ble_eq_true rfl) rfl rfl (fun v289 h288 y290 => ?_) (fun _ _ hx => hx.elim)
                                                                obtain ⟨rfl, hsc⟩ := y290
                                                                show jv_V E 14 h288 0 0 (jv_Q E (fun v h' => v = some (.int (nI (m_met (decide (e = ec)) tsC ts pk su 2 ty n s rc).1)) ∧ rs x q h h' ∧ jv_I h' x 32 = jv_oN (m_met (decide (e = ec)) tsC ts pk su 2 ty n s rc).2) jv_no 0 0) 487 [(13, .int (nI (6 * (10 * e + p278.1) + p278.2))), (12, .int (nI (6 * (10 * e + p261.1) + p261.2))), (11, .int (nI (10 * e + k243))), (10, .int (nI 1)), (9, .int (-1)), (8, .int (nI (10 * e + k219))), (0, .ref x), (1, .int (nI c)), (2, .int (nI e)), (3, .int (nI 2)), (4, .int ty), (5, .int n), (6, .int s), (7, .int rc)] [.int (jv_oN (m_orn tsC ty n s rc)), .int (nI (mt_n t279))]
                                                                refine jv_icmp_eq (q := 490) (tgt := 495) G dX8_met_487 (by decide) rfl (fun c291 => ?_) (fun c291 => ?_)
                                                                · refine jv_iconst (q := 496) (v := nI 0) G dX8_met_495 (by decide) rfl ?_
                                                                  refine jv_iret G hr dX8_met_496 (Nat.le_of_ble_eq_true rfl) (Nat.le_of_ble_eq_true rfl) ?_
                                                                  have hz : (m_met (decide (e = ec)) tsC ts pk su 2 ty n s rc) = (0, some (mt_n t279)) := by
                                                                    unfold m_met m_isC m_bd
                                                                    simp only [*, if_true, if_false, Bool.false_eq_true, reduceIte, Option.map_some, decide_true, decide_false, not_true_eq_false, not_false_eq_true, and_true, true_and, and_false, false_and, or_true, true_or, or_false, false_or, Bool.or_true, Bool.or_false, Bool.true_or, Bool.false_or, reduceCtorEq] <;> first | rfl | (simp_all; done) | (split <;> simp_all)
                                                                  exact ⟨by rw [hz], hrs.tr hsc.rs, by rw [hz]; exact (hsc.x hS 32).trans hran⟩
                                                                · refine jv_bipush (q := 492) (v := nI 8) G dX8_met_490 (by decide) rfl ?_
                                                                  refine jv_goto (q := 496) G dX8_met_492 (by decide) ?_
                                                                  refine jv_iret G hr dX8_met_496 (Nat.le_of_ble_eq_true rfl) (Nat.le_of_ble_eq_true rfl) ?_
                                                                  have hz : (m_met (decide (e = ec)) tsC ts pk su 2 ty n s rc) = (8, some (mt_n t279)) := by
                                                                    unfold m_met m_isC m_bd
                                                                    simp only [*, if_true, if_false, Bool.false_eq_true, reduceIte, Option.map_some, decide_true, decide_false, not_true_eq_false, not_false_eq_true, and_true, true_and, and_false, false_and, or_true, true_or, or_false, false_or, Bool.or_true, Bool.or_false, Bool.true_or, Bool.false_or, reduceCtorEq] <;> first | rfl | (simp_all; done) | (split <;> simp_all)
                                                                  exact ⟨by rw [hz], hrs.tr hsc.rs, by rw [hz]; exact (hsc.x hS 32).trans hran⟩
                                                            · omega
                                                          · refine jv_iconst (q := 427) (v := nI 5) G dX8_met_426 (by decide) rfl ?_
                                                            refine jv_iret G hr dX8_met_427 (Nat.le_of_ble_eq_true rfl) (Nat.le_of_ble_eq_true rfl) ?_
                                                            have hz : (m_met (decide (e = ec)) tsC ts pk su 2 ty n s rc) = (5, none) := by
                                                              unfold m_met m_isC m_bd
                                                              simp only [*, if_true, if_false, Bool.false_eq_true, reduceIte, Option.map_some, decide_true, decide_false, not_true_eq_false, not_false_eq_true, and_true, true_and, and_false, false_and, or_true, true_or, or_false, false_or, Bool.or_true, Bool.or_false, Bool.true_or, Bool.false_or, reduceCtorEq] <;> first | rfl | (simp_all; done) | (split <;> simp_all)
                                                            exact ⟨by rw [hz], hrs.tr hsc.rs, by rw [hz]; exact (hsc.x hS 32).trans hran⟩
                                                    · refine jv_aload_n (q := 385) G 5 dX8_met_384 rfl rfl rfl ?_
                                                      refine jv_iload_n (q := 386) G 7 dX8_met_385 rfl rfl rfl ?_
                                                      refine jv_iload (q := 388) G 9 dX8_met_386 rfl rfl ?_
                                                      refine jv_iload (q := 390) G 12 dX8_met_388 rfl rfl ?_
                                                      refine jv_callV_I (q := 393) (h1 := h258) (As := [.int (nI e), .int ty, .int rc]) (rest := []) (ce' := 0) (sl' := 0) (r := jv_bI (m_isA ts ty rc)) G Z ml_X8_167 (r_isAbove hlt hsc hS he hV) (hsc.S hS).1 dX8_met_390 rfl (by decide) (by decide) (by decide) (by decide) (Nat.le_of_ble_eq_true rfl) rfl rfl rfl rfl ?_
                                                      refine jv_if_neB (q := 396) (tgt := 399) G dX8_met_393 (by decide) rfl (fun c292 => ?_) (fun c292 => ?_)
                                                      · refine jv_aload_n (q := 400) G 5 dX8_met_399 rfl rfl rfl ?_
                                                        refine jv_iload_n (q := 401) G 7 dX8_met_400 rfl rfl rfl ?_
                                                        refine jv_iload (q := 403) G 0 dX8_met_401 rfl rfl ?_
                                                        refine jv_iload (q := 405) G 1 dX8_met_403 rfl rfl ?_
                                                        refine jv_callV (q := 408) (As := [.int (nI e), .int (nI (6 * (10 * e + p261.1) + p261.2)), .int (nI (10 * e + k243))]) (rest := []) G Z ml_X8_189 (r_selected (d := 11) hlt hsc hS he hE hV ht262 hm263 ht244 (hg k243 (by omega))) (hsc.S hS).1 dX8_met_405 rfl (by decide) (by decide) (by decide) (by decide) (Nat.le_of_ble_eq_true rfl) rfl rfl (fun v294 h293 y295 => ?_) (fun _ _ hx => hx.elim)
                                                        obtain ⟨rfl, hsc⟩ := y295
                                                        show jv_V E 14 h293 0 0 (jv_Q E (fun v h' => v = some (.int (nI (m_met (decide (e = ec)) tsC ts pk su 2 ty n s rc).1)) ∧ rs x q h h' ∧ jv_I h' x 32 = jv_oN (m_met (decide (e = ec)) tsC ts pk su 2 ty n s rc).2) jv_no 0 0) 408 [(12, .int (nI (6 * (10 * e + p261.1) + p261.2))), (11, .int (nI (10 * e + k243))), (10, .int (nI 1)), (9, .int (-1)), (8, .int (nI (10 * e + k219))), (0, .ref x), (1, .int (nI c)), (2, .int (nI e)), (3, .int (nI 2)), (4, .int ty), (5, .int n), (6, .int s), (7, .int rc)] [.int (ffE e (m_sl ts 11 t262 m263 p261.1 p261.2 k243))]
                                                        rcases Option.eq_none_or_eq_some (m_sl ts 11 t262 m263 p261.1 p261.2 k243) with hp299 | ⟨p296, hp299⟩
                                                        · refine jv_topI (y := (-1)) (by rw [hp299]; rfl) ?_
                                                          refine jv_istore (q := 410) (lo' := [(13, .int (-1)), (12, .int (nI (6 * (10 * e + p261.1) + p261.2))), (11, .int (nI (10 * e + k243))), (10, .int (nI 1)), (9, .int (-1)), (8, .int (nI (10 * e + k219))), (0, .ref x), (1, .int (nI c)), (2, .int (nI e)), (3, .int (nI 2)), (4, .int ty), (5, .int n), (6, .int s), (7, .int rc)]) G dX8_met_408 (by decide) rfl rfl ?_
                                                          refine jv_iload (q := 412) G 0 dX8_met_410 rfl rfl ?_
                                                          refine jv_iconst (q := 413) (v := (-1)) G dX8_met_412 (by decide) rfl ?_
                                                          refine jv_icmp_eq (q := 416) (tgt := 426) G dX8_met_413 (by decide) rfl (fun c300 => ?_) (fun c300 => ?_)
                                                          · refine jv_iconst (q := 427) (v := nI 5) G dX8_met_426 (by decide) rfl ?_
                                                            refine jv_iret G hr dX8_met_427 (Nat.le_of_ble_eq_true rfl) (Nat.le_of_ble_eq_true rfl) ?_
                                                            have hz : (m_met (decide (e = ec)) tsC ts pk su 2 ty n s rc) = (5, none) := by
                                                              unfold m_met m_isC m_bd
                                                              simp only [*, if_true, if_false, Bool.false_eq_true, reduceIte, Option.map_some, decide_true, decide_false, not_true_eq_false, not_false_eq_true, and_true, true_and, and_false, false_and, or_true, true_or, or_false, false_or, Bool.or_true, Bool.or_false, Bool.true_or, Bool.false_or, reduceCtorEq] <;> first | rfl | (simp_all; done) | (split <;> simp_all)
                                                            exact ⟨by rw [hz], hrs.tr hsc.rs, by rw [hz]; exact (hsc.x hS 32).trans hran⟩
                                                          · exact absurd rfl c300
                                                        · refine jv_topI (y := nI (6 * (10 * e + p296.1) + p296.2)) (by rw [hp299]; rfl) ?_
                                                          obtain ⟨t297, ht297, m298, hm298⟩ := m_sl_mem ht262 hm263 hp299
                                                          have Tt297 := (hE.2.2 p296.1 t297 ht297).1
                                                          have Ot297 := (hE.2.2 p296.1 t297 ht297).2
                                                          have Lt297 := hE.2.1
                                                          have lt297 := jv_ltGet ht297
                                                          have Mm298 := rt_m Tt297 hm298
                                                          have Om298 := Ot297.2.2.2.2.2.2 m298 (List.mem_of_getElem? hm298)
                                                          have Lm298 := Ot297.2.2.2.2.2.1
                                                          have lm298 := jv_ltGet hm298
                                                          have Bm298n := Om298.1; have Bm298s := Om298.2.1; have Bm298a := Om298.2.2.1; have Bt297n := Ot297.1; have Bt297k := Ot297.2.1
                                                          refine jv_istore (q := 410) (lo' := [(13, .int (nI (6 * (10 * e + p296.1) + p296.2))), (12, .int (nI (6 * (10 * e + p261.1) + p261.2))), (11, .int (nI (10 * e + k243))), (10, .int (nI 1)), (9, .int (-1)), (8, .int (nI (10 * e + k219))), (0, .ref x), (1, .int (nI c)), (2, .int (nI e)), (3, .int (nI 2)), (4, .int ty), (5, .int n), (6, .int s), (7, .int rc)]) G dX8_met_408 (by decide) rfl rfl ?_
                                                          refine jv_iload (q := 412) G 0 dX8_met_410 rfl rfl ?_
                                                          refine jv_iconst (q := 413) (v := (-1)) G dX8_met_412 (by decide) rfl ?_
                                                          refine jv_icmp_eq (q := 416) (tgt := 426) G dX8_met_413 (by decide) rfl (fun c301 => ?_) (fun c301 => ?_)
                                                          · exact absurd c301 (jv_nI_m1 (by omega))
                                                          · refine jv_aload_n (q := 417) G 6 dX8_met_416 rfl rfl rfl ?_
                                                            refine jv_getQ (q := 420) G dX8_met_417 fl_X8_59 rfl (hsc.S hS).1 (rf_p18 (hsc.S hS)) rfl ?_
                                                            refine jv_iload (q := 422) G 0 dX8_met_420 rfl rfl ?_
                                                            refine jv_iald (q := 423) G dX8_met_422 (rf_a18 (hsc.S hS)) rfl (by omega) (by decide) (hsc.M hS Mm298).2.2.2.2.2.1 rfl ?_
                                                            refine jv_if_ge (q := 426) (tgt := 428) G dX8_met_423 (by decide) rfl (fun c302 => ?_) (fun c302 => ?_)
                                                            · refine jv_iload_n (q := 429) G 9 dX8_met_428 rfl rfl rfl ?_
                                                              refine jv_iconst (q := 430) (v := nI 4) G dX8_met_429 (by decide) rfl ?_
                                                              refine jv_icmp_neN (q := 433) (tgt := 446) G dX8_met_430 (by decide) rfl (by omega) (by omega) (fun c303 => ?_) (fun c303 => ?_)
                                                              · refine jv_aload_n (q := 447) G 6 dX8_met_446 rfl rfl rfl ?_
                                                                refine jv_aload_n (q := 448) G 6 dX8_met_447 rfl rfl rfl ?_
                                                                refine jv_getQ (q := 451) G dX8_met_448 fl_X8_17 rfl (hsc.S hS).1 (rf_p4 (hsc.S hS)) rfl ?_
                                                                refine jv_iload (q := 453) G 0 dX8_met_451 rfl rfl ?_
                                                                refine jv_callS_I (q := 456) (h1 := h293) (As := [.int (nI (6 * (10 * e + p296.1) + p296.2))]) (rest := [.ref (q 4), .ref x]) (ce' := 0) (sl' := 0) (r := nI ((6 * (10 * e + p296.1) + p296.2) / 6)) G Z ml_X8_183 (r_typeOf hlt (by omega)) dX8_met_453 rfl (by decide) (by decide) (by decide) (by decide) (Nat.le_of_ble_eq_true rfl) rfl rfl rfl rfl ?_
                                                                refine jv_topI (y := nI (10 * e + p296.1)) (congrArg nI (by omega)) ?_
                                                                refine jv_iald (q := 457) G dX8_met_456 (rf_a4 (hsc.S hS)) rfl (by omega) (by decide) (rt_4 (hsc.T hS Tt297)) rfl ?_
                                                                refine jv_putI (q := 460) G dX8_met_457 fl_X8_192 rfl (hsc.S hS).1 rfl ?_
                                                                have hr1 : rs x q h293 (jv_wI h293 x 32 (nI (mt_n t297))) := rs.rf.wI (nI (mt_n t297)) (Or.inl ⟨rfl, Or.inr (Or.inl rfl)⟩)
                                                                have hran : jv_I (jv_wI h293 x 32 (nI (mt_n t297))) x 32 = (nI (mt_n t297)) := jv_I_self _ _ _ _
                                                                have hSb := hsc.S hS
                                                                have hE := hr1.E hSb (hsc.E hS hE)
                                                                have hV := hr1.V hSb (hsc.V hS hV)
                                                                have hEC := hr1.E hSb (hsc.E hS hEC)
                                                                have hVC := hr1.V hSb (hsc.V hS hVC)
                                                                have hce := (wx_I hSb 22 (by decide) rfl 32 c (nI (mt_n t297))).trans ((hsc.I2 hS 22 (by decide) rfl (by decide) c).trans hce)
                                                                have hpk := (wx_I hSb 23 (by decide) rfl 32 c (nI (mt_n t297))).trans ((hsc.I2 hS 23 (by decide) rfl (by decide) c).trans hpk)
                                                                have hsu := (wx_I hSb 24 (by decide) rfl 32 c (nI (mt_n t297))).trans ((hsc.I2 hS 24 (by decide) rfl (by decide) c).trans hsu)
                                                                have hrs := (hrs.tr hsc.rs).tr hr1
                                                                have hS := hr1.S hSb
                                                                generalize jv_wI h293 x 32 (nI (mt_n t297)) = h304 at hran hE hV hEC hVC hce hpk hsu hrs hS ⊢
                                                                have hsc : sc x q h304 h304 := sc.rf
                                                                refine jv_iload_n (q := 461) G 8 dX8_met_460 rfl rfl rfl ?_
                                                                refine jv_aload_n (q := 462) G 6 dX8_met_461 rfl rfl rfl ?_
                                                                refine jv_getQ (q := 465) G dX8_met_462 fl_X8_68 rfl (hsc.S hS).1 (rf_p22 (hsc.S hS)) rfl ?_
                                                                refine jv_iload_n (q := 466) G 7 dX8_met_465 rfl rfl rfl ?_
                                                                refine jv_iald (q := 467) G dX8_met_466 (rf_a22 (hsc.S hS)) rfl (by omega) (by decide) ((hsc.I2 hS 22 (by decide) rfl (by decide) c).trans hce) rfl ?_
                                                                refine jv_icmp_eqN (q := 470) (tgt := 495) G dX8_met_467 (by decide) rfl (by omega) (by omega) (fun c305 => ?_) (fun c305 => ?_)
                                                                · refine jv_iconst (q := 496) (v := nI 0) G dX8_met_495 (by decide) rfl ?_
                                                                  refine jv_iret G hr dX8_met_496 (Nat.le_of_ble_eq_true rfl) (Nat.le_of_ble_eq_true rfl) ?_
                                                                  have hz : (m_met (decide (e = ec)) tsC ts pk su 2 ty n s rc) = (0, some (mt_n t297)) := by
                                                                    unfold m_met m_isC m_bd
                                                                    simp only [*, if_true, if_false, Bool.false_eq_true, reduceIte, Option.map_some, decide_true, decide_false, not_true_eq_false, not_false_eq_true, and_true, true_and, and_false, false_and, or_true, true_or, or_false, false_or, Bool.or_true, Bool.or_false, Bool.true_or, Bool.false_or, reduceCtorEq] <;> first | rfl | (simp_all; done) | (split <;> simp_all)
                                                                  exact ⟨by rw [hz], hrs.tr hsc.rs, by rw [hz]; exact (hsc.x hS 32).trans hran⟩
                                                                · refine jv_aload_n (q := 471) G 6 dX8_met_470 rfl rfl rfl ?_
                                                                  refine jv_getI (q := 474) G dX8_met_471 fl_X8_192 rfl (hsc.S hS).1 ((hsc.x hS 32).trans hran) rfl ?_
                                                                  refine jv_aload_n (q := 475) G 6 dX8_met_474 rfl rfl rfl ?_
                                                                  refine jv_iload_n (q := 476) G 7 dX8_met_475 rfl rfl rfl ?_
                                                                  refine jv_iload (q := 478) G 10 dX8_met_476 rfl rfl ?_
                                                                  refine jv_iload (q := 480) G 11 dX8_met_478 rfl rfl ?_
                                                                  refine jv_iload (q := 482) G 12 dX8_met_480 rfl rfl ?_
                                                                  refine jv_iload (q := 484) G 13 dX8_met_482 rfl rfl ?_
                                                                  refine jv_callV (q := 487) (As := [.int (nI c), .int ty, .int n, .int s, .int rc]) (rest := [.int (nI (mt_n t297))]) G Z ml_X8_202 (r_ownRun hlt hsc hS hc hec hEC hVC hce hgC) (hsc.S hS).1 dX8_met_484 rfl (by decide) (by decide) (by decide) (by decide) (Nat.le_of_ble_eq_true rfl) rfl rfl (fun v307 h306 y308 => ?_) (fun _ _ hx => hx.elim)
                                                                  obtain ⟨rfl, hsc⟩ := y308
                                                                  show jv_V E 14 h306 0 0 (jv_Q E (fun v h' => v = some (.int (nI (m_met (decide (e = ec)) tsC ts pk su 2 ty n s rc).1)) ∧ rs x q h h' ∧ jv_I h' x 32 = jv_oN (m_met (decide (e = ec)) tsC ts pk su 2 ty n s rc).2) jv_no 0 0) 487 [(13, .int (nI (6 * (10 * e + p296.1) + p296.2))), (12, .int (nI (6 * (10 * e + p261.1) + p261.2))), (11, .int (nI (10 * e + k243))), (10, .int (nI 1)), (9, .int (-1)), (8, .int (nI (10 * e + k219))), (0, .ref x), (1, .int (nI c)), (2, .int (nI e)), (3, .int (nI 2)), (4, .int ty), (5, .int n), (6, .int s), (7, .int rc)] [.int (jv_oN (m_orn tsC ty n s rc)), .int (nI (mt_n t297))]
                                                                  refine jv_icmp_eq (q := 490) (tgt := 495) G dX8_met_487 (by decide) rfl (fun c309 => ?_) (fun c309 => ?_)
                                                                  · refine jv_iconst (q := 496) (v := nI 0) G dX8_met_495 (by decide) rfl ?_
                                                                    refine jv_iret G hr dX8_met_496 (Nat.le_of_ble_eq_true rfl) (Nat.le_of_ble_eq_true rfl) ?_
                                                                    have hz : (m_met (decide (e = ec)) tsC ts pk su 2 ty n s rc) = (0, some (mt_n t297)) := by
                                                                      unfold m_met m_isC m_bd
                                                                      simp only [*, if_true, if_false, Bool.false_eq_true, reduceIte, Option.map_some, decide_true, decide_false, not_true_eq_false, not_false_eq_true, and_true, true_and, and_false, false_and, or_true, true_or, or_false, false_or, Bool.or_true, Bool.or_false, Bool.true_or, Bool.false_or, reduceCtorEq] <;> first | rfl | (simp_all; done) | (split <;> simp_all)
                                                                    exact ⟨by rw [hz], hrs.tr hsc.rs, by rw [hz]; exact (hsc.x hS 32).trans hran⟩
                                                                  · refine jv_bipush (q := 492) (v := nI 8) G dX8_met_490 (by decide) rfl ?_
                                                                    refine jv_goto (q := 496) G dX8_met_492 (by decide) ?_
                                                                    refine jv_iret G hr dX8_met_496 (Nat.le_of_ble_eq_true rfl) (Nat.le_of_ble_eq_true rfl) ?_
                                                                    have hz : (m_met (decide (e = ec)) tsC ts pk su 2 ty n s rc) = (8, some (mt_n t297)) := by
                                                                      unfold m_met m_isC m_bd
                                                                      simp only [*, if_true, if_false, Bool.false_eq_true, reduceIte, Option.map_some, decide_true, decide_false, not_true_eq_false, not_false_eq_true, and_true, true_and, and_false, false_and, or_true, true_or, or_false, false_or, Bool.or_true, Bool.or_false, Bool.true_or, Bool.false_or, reduceCtorEq] <;> first | rfl | (simp_all; done) | (split <;> simp_all)
                                                                    exact ⟨by rw [hz], hrs.tr hsc.rs, by rw [hz]; exact (hsc.x hS 32).trans hran⟩
                                                              · omega
                                                            · refine jv_iconst (q := 427) (v := nI 5) G dX8_met_426 (by decide) rfl ?_
                                                              refine jv_iret G hr dX8_met_427 (Nat.le_of_ble_eq_true rfl) (Nat.le_of_ble_eq_true rfl) ?_
                                                              have hz : (m_met (decide (e = ec)) tsC ts pk su 2 ty n s rc) = (5, none) := by
                                                                unfold m_met m_isC m_bd
                                                                simp only [*, if_true, if_false, Bool.false_eq_true, reduceIte, Option.map_some, decide_true, decide_false, not_true_eq_false, not_false_eq_true, and_true, true_and, and_false, false_and, or_true, true_or, or_false, false_or, Bool.or_true, Bool.or_false, Bool.true_or, Bool.false_or, reduceCtorEq] <;> first | rfl | (simp_all; done) | (split <;> simp_all)
                                                              exact ⟨by rw [hz], hrs.tr hsc.rs, by rw [hz]; exact (hsc.x hS 32).trans hran⟩
                                                      · refine jv_bipush (q := 398) (v := nI 6) G dX8_met_396 (by decide) rfl ?_
                                                        refine jv_iret G hr dX8_met_398 (Nat.le_of_ble_eq_true rfl) (Nat.le_of_ble_eq_true rfl) ?_
                                                        have hz : (m_met (decide (e = ec)) tsC ts pk su 2 ty n s rc) = (6, none) := by
                                                          unfold m_met m_isC m_bd
                                                          simp only [*, if_true, if_false, Bool.false_eq_true, reduceIte, Option.map_some, decide_true, decide_false, not_true_eq_false, not_false_eq_true, and_true, true_and, and_false, false_and, or_true, true_or, or_false, false_or, Bool.or_true, Bool.or_false, Bool.true_or, Bool.false_or, reduceCtorEq] <;> first | rfl | (simp_all; done) | (split <;> simp_all)
                                                        exact ⟨by rw [hz], hrs.tr hsc.rs, by rw [hz]; exact (hsc.x hS 32).trans hran⟩
                                              · omega
                                            · refine jv_iconst (q := 326) (v := nI 4) G dX8_met_325 (by decide) rfl ?_
                                              refine jv_iret G hr dX8_met_326 (Nat.le_of_ble_eq_true rfl) (Nat.le_of_ble_eq_true rfl) ?_
                                              have hz : (m_met (decide (e = ec)) tsC ts pk su 2 ty n s rc) = (4, none) := by
                                                unfold m_met m_isC m_bd
                                                simp only [*, if_true, if_false, Bool.false_eq_true, reduceIte, Option.map_some, decide_true, decide_false, not_true_eq_false, not_false_eq_true, and_true, true_and, and_false, false_and, or_true, true_or, or_false, false_or, Bool.or_true, Bool.or_false, Bool.true_or, Bool.false_or, reduceCtorEq] <;> first | rfl | (simp_all; done) | (split <;> simp_all)
                                              exact ⟨by rw [hz], hrs.tr hsc.rs, by rw [hz]; exact (hsc.x hS 32).trans hran⟩
                                          · omega
                                      · refine jv_iconst (q := 299) (v := nI 3) G dX8_met_298 (by decide) rfl ?_
                                        refine jv_iret G hr dX8_met_299 (Nat.le_of_ble_eq_true rfl) (Nat.le_of_ble_eq_true rfl) ?_
                                        have hz : (m_met (decide (e = ec)) tsC ts pk su 2 ty n s rc) = (3, none) := by
                                          unfold m_met m_isC m_bd
                                          simp only [*, if_true, if_false, Bool.false_eq_true, reduceIte, Option.map_some, decide_true, decide_false, not_true_eq_false, not_false_eq_true, and_true, true_and, and_false, false_and, or_true, true_or, or_false, false_or, Bool.or_true, Bool.or_false, Bool.true_or, Bool.false_or, reduceCtorEq] <;> first | rfl | (simp_all; done) | (split <;> simp_all)
                                        exact ⟨by rw [hz], hrs.tr hsc.rs, by rw [hz]; exact (hsc.x hS 32).trans hran⟩
                                    · exact absurd c266 (jv_nI_m1 (by omega))
                                · omega
                              · omega
                            · omega
                      · refine jv_aload_n (q := 176) G 4 dX8_met_175 rfl rfl rfl ?_
                        refine jv_getQ (q := 179) G dX8_met_176 fl_X8_26 rfl (hsc.S hS).1 (rf_p7 (hsc.S hS)) rfl ?_
                        refine jv_iload (q := 181) G 3 dX8_met_179 rfl rfl ?_
                        refine jv_iald (q := 182) G dX8_met_181 (rf_a7 (hsc.S hS)) rfl (by omega) (by decide) (rt_7 (hsc.T hS Tt220)) rfl ?_
                        refine jv_aload_n (q := 183) G 4 dX8_met_182 rfl rfl rfl ?_
                        refine jv_getQ (q := 186) G dX8_met_183 fl_X8_71 rfl (hsc.S hS).1 (rf_p23 (hsc.S hS)) rfl ?_
                        refine jv_iload_n (q := 187) G 5 dX8_met_186 rfl rfl rfl ?_
                        refine jv_iald (q := 188) G dX8_met_187 (rf_a23 (hsc.S hS)) rfl (by omega) (by decide) rfl rfl ?_
                        refine jv_icmp_eq (q := 191) (tgt := 193) G dX8_met_188 (by decide) rfl (fun c310 => ?_) (fun c310 => ?_)
                        · refine jv_iload_n (q := 194) G 7 dX8_met_193 rfl rfl rfl ?_
                          refine jv_iconst (q := 195) (v := nI 2) G dX8_met_194 (by decide) rfl ?_
                          refine jv_icmp_neN (q := 198) (tgt := 208) G dX8_met_195 (by decide) rfl (by omega) (by omega) (fun c311 => ?_) (fun c311 => ?_)
                          · omega
                          · refine jv_aload_n (q := 199) G 4 dX8_met_198 rfl rfl rfl ?_
                            refine jv_getQ (q := 202) G dX8_met_199 fl_X8_20 rfl (hsc.S hS).1 (rf_p5 (hsc.S hS)) rfl ?_
                            refine jv_iload (q := 204) G 3 dX8_met_202 rfl rfl ?_
                            refine jv_zald (q := 205) G dX8_met_204 (rf_a5 (hsc.S hS)) rfl (by omega) (by decide) (rt_5 (hsc.T hS Tt220)) rfl ?_
                            refine jv_if_neB (q := 208) (tgt := 223) G dX8_met_205 (by decide) rfl (fun c312 => ?_) (fun c312 => ?_)
                            · refine jv_bipush (q := 225) (v := nI 6) G dX8_met_223 (by decide) rfl ?_
                              refine jv_iret G hr dX8_met_225 (Nat.le_of_ble_eq_true rfl) (Nat.le_of_ble_eq_true rfl) ?_
                              have hz : (m_met (decide (e = ec)) tsC ts pk su 2 ty n s rc) = (6, none) := by
                                unfold m_met m_isC m_bd
                                simp only [*, if_true, if_false, Bool.false_eq_true, reduceIte, Option.map_some, decide_true, decide_false, not_true_eq_false, not_false_eq_true, and_true, true_and, and_false, false_and, or_true, true_or, or_false, false_or, Bool.or_true, Bool.or_false, Bool.true_or, Bool.false_or, reduceCtorEq] <;> first | rfl | (simp_all; done) | (split <;> simp_all)
                              exact ⟨by rw [hz], hrs.tr hsc.rs, by rw [hz]; exact (hsc.x hS 32).trans hran⟩
                            · refine jv_iload_n (q := 209) G 7 dX8_met_208 rfl rfl rfl ?_
                              refine jv_iconst (q := 210) (v := nI 4) G dX8_met_209 (by decide) rfl ?_
                              refine jv_icmp_neN (q := 213) (tgt := 226) G dX8_met_210 (by decide) rfl (by omega) (by omega) (fun c313 => ?_) (fun c313 => ?_)
                              · refine jv_iload_n (q := 227) G 7 dX8_met_226 rfl rfl rfl ?_
                                refine jv_iconst (q := 228) (v := nI 5) G dX8_met_227 (by decide) rfl ?_
                                refine jv_icmp_neN (q := 231) (tgt := 247) G dX8_met_228 (by decide) rfl (by omega) (by omega) (fun c314 => ?_) (fun c314 => ?_)
                                · refine jv_iload_n (q := 248) G 7 dX8_met_247 rfl rfl rfl ?_
                                  refine jv_iconst (q := 249) (v := nI 2) G dX8_met_248 (by decide) rfl ?_
                                  refine jv_icmp_geN (q := 252) (tgt := 266) G dX8_met_249 (by decide) rfl (by omega) (by omega) (fun c315 => ?_) (fun c315 => ?_)
                                  · refine jv_aload_n (q := 267) G 4 dX8_met_266 rfl rfl rfl ?_
                                    refine jv_iload_n (q := 268) G 6 dX8_met_267 rfl rfl rfl ?_
                                    refine jv_iload (q := 270) G 3 dX8_met_268 rfl rfl ?_
                                    refine jv_iload (q := 272) G 9 dX8_met_270 rfl rfl ?_
                                    refine jv_iload (q := 274) G 10 dX8_met_272 rfl rfl ?_
                                    refine jv_callV (q := 277) (As := [.int (nI e), .int (nI (10 * e + k219)), .int n, .int s]) (rest := []) G Z ml_X8_186 (r_findMethod (d := 11) hlt hsc hS he hE hV ht220 (hg k219 (by omega))) (hsc.S hS).1 dX8_met_274 rfl (by decide) (by decide) (by decide) (by decide) (Nat.le_of_ble_eq_true rfl) rfl rfl (fun v317 h316 y318 => ?_) (fun _ _ hx => hx.elim)
                                    obtain ⟨rfl, hsc⟩ := y318
                                    show jv_V E 14 h316 0 0 (jv_Q E (fun v h' => v = some (.int (nI (m_met (decide (e = ec)) tsC ts pk su 2 ty n s rc).1)) ∧ rs x q h h' ∧ jv_I h' x 32 = jv_oN (m_met (decide (e = ec)) tsC ts pk su 2 ty n s rc).2) jv_no 0 0) 277 [(11, .int (nI (10 * e + k243))), (10, .int (nI 1)), (9, .int (-1)), (8, .int (nI (10 * e + k219))), (0, .ref x), (1, .int (nI c)), (2, .int (nI e)), (3, .int (nI 2)), (4, .int ty), (5, .int n), (6, .int s), (7, .int rc)] [.int (ffE e (m_fm ts 11 k219 n s))]
                                    rcases Option.eq_none_or_eq_some (m_fm ts 11 k219 n s) with hp322 | ⟨p319, hp322⟩
                                    · refine jv_topI (y := (-1)) (by rw [hp322]; rfl) ?_
                                      refine jv_istore (q := 279) (lo' := [(12, .int (-1)), (11, .int (nI (10 * e + k243))), (10, .int (nI 1)), (9, .int (-1)), (8, .int (nI (10 * e + k219))), (0, .ref x), (1, .int (nI c)), (2, .int (nI e)), (3, .int (nI 2)), (4, .int ty), (5, .int n), (6, .int s), (7, .int rc)]) G dX8_met_277 (by decide) rfl rfl ?_
                                      refine jv_iload (q := 281) G 0 dX8_met_279 rfl rfl ?_
                                      refine jv_iconst (q := 282) (v := (-1)) G dX8_met_281 (by decide) rfl ?_
                                      refine jv_icmp_ne (q := 285) (tgt := 287) G dX8_met_282 (by decide) rfl (fun c323 => ?_) (fun c323 => ?_)
                                      · exact absurd rfl c323
                                      · refine jv_iconst (q := 286) (v := nI 2) G dX8_met_285 (by decide) rfl ?_
                                        refine jv_iret G hr dX8_met_286 (Nat.le_of_ble_eq_true rfl) (Nat.le_of_ble_eq_true rfl) ?_
                                        have hz : (m_met (decide (e = ec)) tsC ts pk su 2 ty n s rc) = (2, none) := by
                                          unfold m_met m_isC m_bd
                                          simp only [*, if_true, if_false, Bool.false_eq_true, reduceIte, Option.map_some, decide_true, decide_false, not_true_eq_false, not_false_eq_true, and_true, true_and, and_false, false_and, or_true, true_or, or_false, false_or, Bool.or_true, Bool.or_false, Bool.true_or, Bool.false_or, reduceCtorEq] <;> first | rfl | (simp_all; done) | (split <;> simp_all)
                                        exact ⟨by rw [hz], hrs.tr hsc.rs, by rw [hz]; exact (hsc.x hS 32).trans hran⟩
                                    · refine jv_topI (y := nI (6 * (10 * e + p319.1) + p319.2)) (by rw [hp322]; rfl) ?_
                                      obtain ⟨t320, ht320, m321, hm321⟩ := m_fm_mem hp322
                                      have Tt320 := (hE.2.2 p319.1 t320 ht320).1
                                      have Ot320 := (hE.2.2 p319.1 t320 ht320).2
                                      have Lt320 := hE.2.1
                                      have lt320 := jv_ltGet ht320
                                      have Mm321 := rt_m Tt320 hm321
                                      have Om321 := Ot320.2.2.2.2.2.2 m321 (List.mem_of_getElem? hm321)
                                      have Lm321 := Ot320.2.2.2.2.2.1
                                      have lm321 := jv_ltGet hm321
                                      have Bm321n := Om321.1; have Bm321s := Om321.2.1; have Bm321a := Om321.2.2.1; have Bt320n := Ot320.1; have Bt320k := Ot320.2.1
                                      refine jv_istore (q := 279) (lo' := [(12, .int (nI (6 * (10 * e + p319.1) + p319.2))), (11, .int (nI (10 * e + k243))), (10, .int (nI 1)), (9, .int (-1)), (8, .int (nI (10 * e + k219))), (0, .ref x), (1, .int (nI c)), (2, .int (nI e)), (3, .int (nI 2)), (4, .int ty), (5, .int n), (6, .int s), (7, .int rc)]) G dX8_met_277 (by decide) rfl rfl ?_
                                      refine jv_iload (q := 281) G 0 dX8_met_279 rfl rfl ?_
                                      refine jv_iconst (q := 282) (v := (-1)) G dX8_met_281 (by decide) rfl ?_
                                      refine jv_icmp_ne (q := 285) (tgt := 287) G dX8_met_282 (by decide) rfl (fun c324 => ?_) (fun c324 => ?_)
                                      · refine jv_aload_n (q := 288) G 5 dX8_met_287 rfl rfl rfl ?_
                                        refine jv_iload_n (q := 289) G 6 dX8_met_288 rfl rfl rfl ?_
                                        refine jv_iload_n (q := 290) G 7 dX8_met_289 rfl rfl rfl ?_
                                        refine jv_iload (q := 292) G 0 dX8_met_290 rfl rfl ?_
                                        refine jv_callV_I (q := 295) (h1 := h316) (As := [.int (nI c), .int (nI e), .int (nI (6 * (10 * e + p319.1) + p319.2))]) (rest := []) (ce' := 0) (sl' := 0) (r := jv_bI (m_mr ts pk su t320 m321)) G Z ml_X8_199 (r_mayReach hlt hsc hS hc he hE hV ht320 hm321 hpk hpk5 hsu hsu16) (hsc.S hS).1 dX8_met_292 rfl (by decide) (by decide) (by decide) (by decide) (Nat.le_of_ble_eq_true rfl) rfl rfl rfl rfl ?_
                                        refine jv_if_neB (q := 298) (tgt := 300) G dX8_met_295 (by decide) rfl (fun c325 => ?_) (fun c325 => ?_)
                                        · refine jv_aload_n (q := 301) G 5 dX8_met_300 rfl rfl rfl ?_
                                          refine jv_getQ (q := 304) G dX8_met_301 fl_X8_56 rfl (hsc.S hS).1 (rf_p17 (hsc.S hS)) rfl ?_
                                          refine jv_iload (q := 306) G 0 dX8_met_304 rfl rfl ?_
                                          refine jv_zald (q := 307) G dX8_met_306 (rf_a17 (hsc.S hS)) rfl (by omega) (by decide) (hsc.M hS Mm321).2.2.2.2.1 rfl ?_
                                          refine jv_iload_n (q := 308) G 8 dX8_met_307 rfl rfl rfl ?_
                                          refine jv_iconst (q := 309) (v := nI 1) G dX8_met_308 (by decide) rfl ?_
                                          refine jv_icmp_eqN (q := 312) (tgt := 317) G dX8_met_309 (by decide) rfl (by omega) (by omega) (fun c326 => ?_) (fun c326 => ?_)
                                          · omega
                                          · refine jv_iload_n (q := 313) G 8 dX8_met_312 rfl rfl rfl ?_
                                            refine jv_iconst (q := 314) (v := nI 3) G dX8_met_313 (by decide) rfl ?_
                                            refine jv_icmp_neN (q := 317) (tgt := 321) G dX8_met_314 (by decide) rfl (by omega) (by omega) (fun c327 => ?_) (fun c327 => ?_)
                                            · refine jv_iconst (q := 322) (v := nI 0) G dX8_met_321 (by decide) rfl ?_
                                              refine jv_icmp_eq (q := 325) (tgt := 327) G dX8_met_322 (by decide) rfl (fun c328 => ?_) (fun c328 => ?_)
                                              · refine jv_iload (q := 329) G 2 dX8_met_327 rfl rfl ?_
                                                refine jv_if_neN (q := 332) (tgt := 357) G dX8_met_329 (by decide) rfl (by omega) (fun c329 => ?_) (fun c329 => ?_)
                                                · refine jv_aload_n (q := 358) G 5 dX8_met_357 rfl rfl rfl ?_
                                                  refine jv_getQ (q := 361) G dX8_met_358 fl_X8_20 rfl (hsc.S hS).1 (rf_p5 (hsc.S hS)) rfl ?_
                                                  refine jv_iload (q := 363) G 1 dX8_met_361 rfl rfl ?_
                                                  refine jv_zald (q := 364) G dX8_met_363 (rf_a5 (hsc.S hS)) rfl (by omega) (by decide) (rt_5 (hsc.T hS Tt244)) rfl ?_
                                                  refine jv_if_neB (q := 367) (tgt := 396) G dX8_met_364 (by decide) rfl (fun c330 => ?_) (fun c330 => ?_)
                                                  · refine jv_bipush (q := 398) (v := nI 6) G dX8_met_396 (by decide) rfl ?_
                                                    refine jv_iret G hr dX8_met_398 (Nat.le_of_ble_eq_true rfl) (Nat.le_of_ble_eq_true rfl) ?_
                                                    have hz : (m_met (decide (e = ec)) tsC ts pk su 2 ty n s rc) = (6, none) := by
                                                      unfold m_met m_isC m_bd
                                                      simp only [*, if_true, if_false, Bool.false_eq_true, reduceIte, Option.map_some, decide_true, decide_false, not_true_eq_false, not_false_eq_true, and_true, true_and, and_false, false_and, or_true, true_or, or_false, false_or, Bool.or_true, Bool.or_false, Bool.true_or, Bool.false_or, reduceCtorEq] <;> first | rfl | (simp_all; done) | (split <;> simp_all)
                                                    exact ⟨by rw [hz], hrs.tr hsc.rs, by rw [hz]; exact (hsc.x hS 32).trans hran⟩
                                                  · refine jv_aload_n (q := 368) G 5 dX8_met_367 rfl rfl rfl ?_
                                                    refine jv_getQ (q := 371) G dX8_met_368 fl_X8_23 rfl (hsc.S hS).1 (rf_p6 (hsc.S hS)) rfl ?_
                                                    refine jv_iload (q := 373) G 1 dX8_met_371 rfl rfl ?_
                                                    refine jv_zald (q := 374) G dX8_met_373 (rf_a6 (hsc.S hS)) rfl (by omega) (by decide) (rt_6 (hsc.T hS Tt244)) rfl ?_
                                                    refine jv_if_neB (q := 377) (tgt := 396) G dX8_met_374 (by decide) rfl (fun c331 => ?_) (fun c331 => ?_)
                                                    · refine jv_bipush (q := 398) (v := nI 6) G dX8_met_396 (by decide) rfl ?_
                                                      refine jv_iret G hr dX8_met_398 (Nat.le_of_ble_eq_true rfl) (Nat.le_of_ble_eq_true rfl) ?_
                                                      have hz : (m_met (decide (e = ec)) tsC ts pk su 2 ty n s rc) = (6, none) := by
                                                        unfold m_met m_isC m_bd
                                                        simp only [*, if_true, if_false, Bool.false_eq_true, reduceIte, Option.map_some, decide_true, decide_false, not_true_eq_false, not_false_eq_true, and_true, true_and, and_false, false_and, or_true, true_or, or_false, false_or, Bool.or_true, Bool.or_false, Bool.true_or, Bool.false_or, reduceCtorEq] <;> first | rfl | (simp_all; done) | (split <;> simp_all)
                                                      exact ⟨by rw [hz], hrs.tr hsc.rs, by rw [hz]; exact (hsc.x hS 32).trans hran⟩
                                                    · refine jv_iload (q := 379) G 1 dX8_met_377 rfl rfl ?_
                                                      refine jv_iload (q := 381) G 4 dX8_met_379 rfl rfl ?_
                                                      refine jv_icmp_eqN (q := 384) (tgt := 399) G dX8_met_381 (by decide) rfl (by omega) (by omega) (fun c332 => ?_) (fun c332 => ?_)
                                                      · refine jv_aload_n (q := 400) G 5 dX8_met_399 rfl rfl rfl ?_
                                                        refine jv_iload_n (q := 401) G 7 dX8_met_400 rfl rfl rfl ?_
                                                        refine jv_iload (q := 403) G 0 dX8_met_401 rfl rfl ?_
                                                        refine jv_iload (q := 405) G 1 dX8_met_403 rfl rfl ?_
                                                        refine jv_callV (q := 408) (As := [.int (nI e), .int (nI (6 * (10 * e + p319.1) + p319.2)), .int (nI (10 * e + k243))]) (rest := []) G Z ml_X8_189 (r_selected (d := 11) hlt hsc hS he hE hV ht320 hm321 ht244 (hg k243 (by omega))) (hsc.S hS).1 dX8_met_405 rfl (by decide) (by decide) (by decide) (by decide) (Nat.le_of_ble_eq_true rfl) rfl rfl (fun v334 h333 y335 => ?_) (fun _ _ hx => hx.elim)
                                                        obtain ⟨rfl, hsc⟩ := y335
                                                        show jv_V E 14 h333 0 0 (jv_Q E (fun v h' => v = some (.int (nI (m_met (decide (e = ec)) tsC ts pk su 2 ty n s rc).1)) ∧ rs x q h h' ∧ jv_I h' x 32 = jv_oN (m_met (decide (e = ec)) tsC ts pk su 2 ty n s rc).2) jv_no 0 0) 408 [(12, .int (nI (6 * (10 * e + p319.1) + p319.2))), (11, .int (nI (10 * e + k243))), (10, .int (nI 1)), (9, .int (-1)), (8, .int (nI (10 * e + k219))), (0, .ref x), (1, .int (nI c)), (2, .int (nI e)), (3, .int (nI 2)), (4, .int ty), (5, .int n), (6, .int s), (7, .int rc)] [.int (ffE e (m_sl ts 11 t320 m321 p319.1 p319.2 k243))]
                                                        rcases Option.eq_none_or_eq_some (m_sl ts 11 t320 m321 p319.1 p319.2 k243) with hp339 | ⟨p336, hp339⟩
                                                        · refine jv_topI (y := (-1)) (by rw [hp339]; rfl) ?_
                                                          refine jv_istore (q := 410) (lo' := [(13, .int (-1)), (12, .int (nI (6 * (10 * e + p319.1) + p319.2))), (11, .int (nI (10 * e + k243))), (10, .int (nI 1)), (9, .int (-1)), (8, .int (nI (10 * e + k219))), (0, .ref x), (1, .int (nI c)), (2, .int (nI e)), (3, .int (nI 2)), (4, .int ty), (5, .int n), (6, .int s), (7, .int rc)]) G dX8_met_408 (by decide) rfl rfl ?_
                                                          refine jv_iload (q := 412) G 0 dX8_met_410 rfl rfl ?_
                                                          refine jv_iconst (q := 413) (v := (-1)) G dX8_met_412 (by decide) rfl ?_
                                                          refine jv_icmp_eq (q := 416) (tgt := 426) G dX8_met_413 (by decide) rfl (fun c340 => ?_) (fun c340 => ?_)
                                                          · refine jv_iconst (q := 427) (v := nI 5) G dX8_met_426 (by decide) rfl ?_
                                                            refine jv_iret G hr dX8_met_427 (Nat.le_of_ble_eq_true rfl) (Nat.le_of_ble_eq_true rfl) ?_
                                                            have hz : (m_met (decide (e = ec)) tsC ts pk su 2 ty n s rc) = (5, none) := by
                                                              unfold m_met m_isC m_bd
                                                              simp only [*, if_true, if_false, Bool.false_eq_true, reduceIte, Option.map_some, decide_true, decide_false, not_true_eq_false, not_false_eq_true, and_true, true_and, and_false, false_and, or_true, true_or, or_false, false_or, Bool.or_true, Bool.or_false, Bool.true_or, Bool.false_or, reduceCtorEq] <;> first | rfl | (simp_all; done) | (split <;> simp_all)
                                                            exact ⟨by rw [hz], hrs.tr hsc.rs, by rw [hz]; exact (hsc.x hS 32).trans hran⟩
                                                          · exact absurd rfl c340
                                                        · refine jv_topI (y := nI (6 * (10 * e + p336.1) + p336.2)) (by rw [hp339]; rfl) ?_
                                                          obtain ⟨t337, ht337, m338, hm338⟩ := m_sl_mem ht320 hm321 hp339
                                                          have Tt337 := (hE.2.2 p336.1 t337 ht337).1
                                                          have Ot337 := (hE.2.2 p336.1 t337 ht337).2
                                                          have Lt337 := hE.2.1
                                                          have lt337 := jv_ltGet ht337
                                                          have Mm338 := rt_m Tt337 hm338
                                                          have Om338 := Ot337.2.2.2.2.2.2 m338 (List.mem_of_getElem? hm338)
                                                          have Lm338 := Ot337.2.2.2.2.2.1
                                                          have lm338 := jv_ltGet hm338
                                                          have Bm338n := Om338.1; have Bm338s := Om338.2.1; have Bm338a := Om338.2.2.1; have Bt337n := Ot337.1; have Bt337k := Ot337.2.1
                                                          refine jv_istore (q := 410) (lo' := [(13, .int (nI (6 * (10 * e + p336.1) + p336.2))), (12, .int (nI (6 * (10 * e + p319.1) + p319.2))), (11, .int (nI (10 * e + k243))), (10, .int (nI 1)), (9, .int (-1)), (8, .int (nI (10 * e + k219))), (0, .ref x), (1, .int (nI c)), (2, .int (nI e)), (3, .int (nI 2)), (4, .int ty), (5, .int n), (6, .int s), (7, .int rc)]) G dX8_met_408 (by decide) rfl rfl ?_
                                                          refine jv_iload (q := 412) G 0 dX8_met_410 rfl rfl ?_
                                                          refine jv_iconst (q := 413) (v := (-1)) G dX8_met_412 (by decide) rfl ?_
                                                          refine jv_icmp_eq (q := 416) (tgt := 426) G dX8_met_413 (by decide) rfl (fun c341 => ?_) (fun c341 => ?_)
                                                          · exact absurd c341 (jv_nI_m1 (by omega))
                                                          · refine jv_aload_n (q := 417) G 6 dX8_met_416 rfl rfl rfl ?_
                                                            refine jv_getQ (q := 420) G dX8_met_417 fl_X8_59 rfl (hsc.S hS).1 (rf_p18 (hsc.S hS)) rfl ?_
                                                            refine jv_iload (q := 422) G 0 dX8_met_420 rfl rfl ?_
                                                            refine jv_iald (q := 423) G dX8_met_422 (rf_a18 (hsc.S hS)) rfl (by omega) (by decide) (hsc.M hS Mm338).2.2.2.2.2.1 rfl ?_
                                                            refine jv_if_ge (q := 426) (tgt := 428) G dX8_met_423 (by decide) rfl (fun c342 => ?_) (fun c342 => ?_)
                                                            · refine jv_iload_n (q := 429) G 9 dX8_met_428 rfl rfl rfl ?_
                                                              refine jv_iconst (q := 430) (v := nI 4) G dX8_met_429 (by decide) rfl ?_
                                                              refine jv_icmp_neN (q := 433) (tgt := 446) G dX8_met_430 (by decide) rfl (by omega) (by omega) (fun c343 => ?_) (fun c343 => ?_)
                                                              · refine jv_aload_n (q := 447) G 6 dX8_met_446 rfl rfl rfl ?_
                                                                refine jv_aload_n (q := 448) G 6 dX8_met_447 rfl rfl rfl ?_
                                                                refine jv_getQ (q := 451) G dX8_met_448 fl_X8_17 rfl (hsc.S hS).1 (rf_p4 (hsc.S hS)) rfl ?_
                                                                refine jv_iload (q := 453) G 0 dX8_met_451 rfl rfl ?_
                                                                refine jv_callS_I (q := 456) (h1 := h333) (As := [.int (nI (6 * (10 * e + p336.1) + p336.2))]) (rest := [.ref (q 4), .ref x]) (ce' := 0) (sl' := 0) (r := nI ((6 * (10 * e + p336.1) + p336.2) / 6)) G Z ml_X8_183 (r_typeOf hlt (by omega)) dX8_met_453 rfl (by decide) (by decide) (by decide) (by decide) (Nat.le_of_ble_eq_true rfl) rfl rfl rfl rfl ?_
                                                                refine jv_topI (y := nI (10 * e + p336.1)) (congrArg nI (by omega)) ?_
                                                                refine jv_iald (q := 457) G dX8_met_456 (rf_a4 (hsc.S hS)) rfl (by omega) (by decide) (rt_4 (hsc.T hS Tt337)) rfl ?_
                                                                refine jv_putI (q := 460) G dX8_met_457 fl_X8_192 rfl (hsc.S hS).1 rfl ?_
                                                                have hr1 : rs x q h333 (jv_wI h333 x 32 (nI (mt_n t337))) := rs.rf.wI (nI (mt_n t337)) (Or.inl ⟨rfl, Or.inr (Or.inl rfl)⟩)
                                                                have hran : jv_I (jv_wI h333 x 32 (nI (mt_n t337))) x 32 = (nI (mt_n t337)) := jv_I_self _ _ _ _
                                                                have hSb := hsc.S hS
                                                                have hE := hr1.E hSb (hsc.E hS hE)
                                                                have hV := hr1.V hSb (hsc.V hS hV)
                                                                have hEC := hr1.E hSb (hsc.E hS hEC)
                                                                have hVC := hr1.V hSb (hsc.V hS hVC)
                                                                have hce := (wx_I hSb 22 (by decide) rfl 32 c (nI (mt_n t337))).trans ((hsc.I2 hS 22 (by decide) rfl (by decide) c).trans hce)
                                                                have hpk := (wx_I hSb 23 (by decide) rfl 32 c (nI (mt_n t337))).trans ((hsc.I2 hS 23 (by decide) rfl (by decide) c).trans hpk)
                                                                have hsu := (wx_I hSb 24 (by decide) rfl 32 c (nI (mt_n t337))).trans ((hsc.I2 hS 24 (by decide) rfl (by decide) c).trans hsu)
                                                                have hrs := (hrs.tr hsc.rs).tr hr1
                                                                have hS := hr1.S hSb
                                                                generalize jv_wI h333 x 32 (nI (mt_n t337)) = h344 at hran hE hV hEC hVC hce hpk hsu hrs hS ⊢
                                                                have hsc : sc x q h344 h344 := sc.rf
                                                                refine jv_iload_n (q := 461) G 8 dX8_met_460 rfl rfl rfl ?_
                                                                refine jv_aload_n (q := 462) G 6 dX8_met_461 rfl rfl rfl ?_
                                                                refine jv_getQ (q := 465) G dX8_met_462 fl_X8_68 rfl (hsc.S hS).1 (rf_p22 (hsc.S hS)) rfl ?_
                                                                refine jv_iload_n (q := 466) G 7 dX8_met_465 rfl rfl rfl ?_
                                                                refine jv_iald (q := 467) G dX8_met_466 (rf_a22 (hsc.S hS)) rfl (by omega) (by decide) ((hsc.I2 hS 22 (by decide) rfl (by decide) c).trans hce) rfl ?_
                                                                refine jv_icmp_eqN (q := 470) (tgt := 495) G dX8_met_467 (by decide) rfl (by omega) (by omega) (fun c345 => ?_) (fun c345 => ?_)
                                                                · refine jv_iconst (q := 496) (v := nI 0) G dX8_met_495 (by decide) rfl ?_
                                                                  refine jv_iret G hr dX8_met_496 (Nat.le_of_ble_eq_true rfl) (Nat.le_of_ble_eq_true rfl) ?_
                                                                  have hz : (m_met (decide (e = ec)) tsC ts pk su 2 ty n s rc) = (0, some (mt_n t337)) := by
                                                                    unfold m_met m_isC m_bd
                                                                    simp only [*, if_true, if_false, Bool.false_eq_true, reduceIte, Option.map_some, decide_true, decide_false, not_true_eq_false, not_false_eq_true, and_true, true_and, and_false, false_and, or_true, true_or, or_false, false_or, Bool.or_true, Bool.or_false, Bool.true_or, Bool.false_or, reduceCtorEq] <;> first | rfl | (simp_all; done) | (split <;> simp_all)
                                                                  exact ⟨by rw [hz], hrs.tr hsc.rs, by rw [hz]; exact (hsc.x hS 32).trans hran⟩
                                                                · refine jv_aload_n (q := 471) G 6 dX8_met_470 rfl rfl rfl ?_
                                                                  refine jv_getI (q := 474) G dX8_met_471 fl_X8_192 rfl (hsc.S hS).1 ((hsc.x hS 32).trans hran) rfl ?_
                                                                  refine jv_aload_n (q := 475) G 6 dX8_met_474 rfl rfl rfl ?_
                                                                  refine jv_iload_n (q := 476) G 7 dX8_met_475 rfl rfl rfl ?_
                                                                  refine jv_iload (q := 478) G 10 dX8_met_476 rfl rfl ?_
                                                                  refine jv_iload (q := 480) G 11 dX8_met_478 rfl rfl ?_
                                                                  refine jv_iload (q := 482) G 12 dX8_met_480 rfl rfl ?_
                                                                  refine jv_iload (q := 484) G 13 dX8_met_482 rfl rfl ?_
                                                                  refine jv_callV (q := 487) (As := [.int (nI c), .int ty, .int n, .int s, .int rc]) (rest := [.int (nI (mt_n t337))]) G Z ml_X8_202 (r_ownRun hlt hsc hS hc hec hEC hVC hce hgC) (hsc.S hS).1 dX8_met_484 rfl (by decide) (by decide) (by decide) (by decide) (Nat.le_of_ble_eq_true rfl) rfl rfl (fun v347 h346 y348 => ?_) (fun _ _ hx => hx.elim)
                                                                  obtain ⟨rfl, hsc⟩ := y348
                                                                  show jv_V E 14 h346 0 0 (jv_Q E (fun v h' => v = some (.int (nI (m_met (decide (e = ec)) tsC ts pk su 2 ty n s rc).1)) ∧ rs x q h h' ∧ jv_I h' x 32 = jv_oN (m_met (decide (e = ec)) tsC ts pk su 2 ty n s rc).2) jv_no 0 0) 487 [(13, .int (nI (6 * (10 * e + p336.1) + p336.2))), (12, .int (nI (6 * (10 * e + p319.1) + p319.2))), (11, .int (nI (10 * e + k243))), (10, .int (nI 1)), (9, .int (-1)), (8, .int (nI (10 * e + k219))), (0, .ref x), (1, .int (nI c)), (2, .int (nI e)), (3, .int (nI 2)), (4, .int ty), (5, .int n), (6, .int s), (7, .int rc)] [.int (jv_oN (m_orn tsC ty n s rc)), .int (nI (mt_n t337))]
                                                                  refine jv_icmp_eq (q := 490) (tgt := 495) G dX8_met_487 (by decide) rfl (fun c349 => ?_) (fun c349 => ?_)
                                                                  · refine jv_iconst (q := 496) (v := nI 0) G dX8_met_495 (by decide) rfl ?_
                                                                    refine jv_iret G hr dX8_met_496 (Nat.le_of_ble_eq_true rfl) (Nat.le_of_ble_eq_true rfl) ?_
                                                                    have hz : (m_met (decide (e = ec)) tsC ts pk su 2 ty n s rc) = (0, some (mt_n t337)) := by
                                                                      unfold m_met m_isC m_bd
                                                                      simp only [*, if_true, if_false, Bool.false_eq_true, reduceIte, Option.map_some, decide_true, decide_false, not_true_eq_false, not_false_eq_true, and_true, true_and, and_false, false_and, or_true, true_or, or_false, false_or, Bool.or_true, Bool.or_false, Bool.true_or, Bool.false_or, reduceCtorEq] <;> first | rfl | (simp_all; done) | (split <;> simp_all)
                                                                    exact ⟨by rw [hz], hrs.tr hsc.rs, by rw [hz]; exact (hsc.x hS 32).trans hran⟩
                                                                  · refine jv_bipush (q := 492) (v := nI 8) G dX8_met_490 (by decide) rfl ?_
                                                                    refine jv_goto (q := 496) G dX8_met_492 (by decide) ?_
                                                                    refine jv_iret G hr dX8_met_496 (Nat.le_of_ble_eq_true rfl) (Nat.le_of_ble_eq_true rfl) ?_
                                                                    have hz : (m_met (decide (e = ec)) tsC ts pk su 2 ty n s rc) = (8, some (mt_n t337)) := by
                                                                      unfold m_met m_isC m_bd
                                                                      simp only [*, if_true, if_false, Bool.false_eq_true, reduceIte, Option.map_some, decide_true, decide_false, not_true_eq_false, not_false_eq_true, and_true, true_and, and_false, false_and, or_true, true_or, or_false, false_or, Bool.or_true, Bool.or_false, Bool.true_or, Bool.false_or, reduceCtorEq] <;> first | rfl | (simp_all; done) | (split <;> simp_all)
                                                                    exact ⟨by rw [hz], hrs.tr hsc.rs, by rw [hz]; exact (hsc.x hS 32).trans hran⟩
                                                              · omega
                                                            · refine jv_iconst (q := 427) (v := nI 5) G dX8_met_426 (by decide) rfl ?_
                                                              refine jv_iret G hr dX8_met_427 (Nat.le_of_ble_eq_true rfl) (Nat.le_of_ble_eq_true rfl) ?_
                                                              have hz : (m_met (decide (e = ec)) tsC ts pk su 2 ty n s rc) = (5, none) := by
                                                                unfold m_met m_isC m_bd
                                                                simp only [*, if_true, if_false, Bool.false_eq_true, reduceIte, Option.map_some, decide_true, decide_false, not_true_eq_false, not_false_eq_true, and_true, true_and, and_false, false_and, or_true, true_or, or_false, false_or, Bool.or_true, Bool.or_false, Bool.true_or, Bool.false_or, reduceCtorEq] <;> first | rfl | (simp_all; done) | (split <;> simp_all)
                                                              exact ⟨by rw [hz], hrs.tr hsc.rs, by rw [hz]; exact (hsc.x hS 32).trans hran⟩
                                                      · refine jv_aload_n (q := 385) G 5 dX8_met_384 rfl rfl rfl ?_
                                                        refine jv_iload_n (q := 386) G 7 dX8_met_385 rfl rfl rfl ?_
                                                        refine jv_iload (q := 388) G 9 dX8_met_386 rfl rfl ?_
                                                        refine jv_iload (q := 390) G 12 dX8_met_388 rfl rfl ?_
                                                        refine jv_callV_I (q := 393) (h1 := h316) (As := [.int (nI e), .int ty, .int rc]) (rest := []) (ce' := 0) (sl' := 0) (r := jv_bI (m_isA ts ty rc)) G Z ml_X8_167 (r_isAbove hlt hsc hS he hV) (hsc.S hS).1 dX8_met_390 rfl (by decide) (by decide) (by decide) (by decide) (Nat.le_of_ble_eq_true rfl) rfl rfl rfl rfl ?_
                                                        refine jv_if_neB (q := 396) (tgt := 399) G dX8_met_393 (by decide) rfl (fun c350 => ?_) (fun c350 => ?_)
                                                        · refine jv_aload_n (q := 400) G 5 dX8_met_399 rfl rfl rfl ?_
                                                          refine jv_iload_n (q := 401) G 7 dX8_met_400 rfl rfl rfl ?_
                                                          refine jv_iload (q := 403) G 0 dX8_met_401 rfl rfl ?_
                                                          refine jv_iload (q := 405) G 1 dX8_met_403 rfl rfl ?_
                                                          refine jv_callV (q := 408) (As := [.int (nI e), .int (nI (6 * (10 * e + p319.1) + p319.2)), .int (nI (10 * e + k243))]) (rest := []) G Z ml_X8_189 (r_selected (d := 11) hlt hsc hS he hE hV ht320 hm321 ht244 (hg k243 (by omega))) (hsc.S hS).1 dX8_met_405 rfl (by decide) (by decide) (by decide) (by decide) (Nat.le_of_ble_eq_true rfl) rfl rfl (fun v352 h351 y353 => ?_) (fun _ _ hx => hx.elim)
                                                          obtain ⟨rfl, hsc⟩ := y353
                                                          show jv_V E 14 h351 0 0 (jv_Q E (fun v h' => v = some (.int (nI (m_met (decide (e = ec)) tsC ts pk su 2 ty n s rc).1)) ∧ rs x q h h' ∧ jv_I h' x 32 = jv_oN (m_met (decide (e = ec)) tsC ts pk su 2 ty n s rc).2) jv_no 0 0) 408 [(12, .int (nI (6 * (10 * e + p319.1) + p319.2))), (11, .int (nI (10 * e + k243))), (10, .int (nI 1)), (9, .int (-1)), (8, .int (nI (10 * e + k219))), (0, .ref x), (1, .int (nI c)), (2, .int (nI e)), (3, .int (nI 2)), (4, .int ty), (5, .int n), (6, .int s), (7, .int rc)] [.int (ffE e (m_sl ts 11 t320 m321 p319.1 p319.2 k243))]
                                                          rcases Option.eq_none_or_eq_some (m_sl ts 11 t320 m321 p319.1 p319.2 k243) with hp357 | ⟨p354, hp357⟩
                                                          · refine jv_topI (y := (-1)) (by rw [hp357]; rfl) ?_
                                                            refine jv_istore (q := 410) (lo' := [(13, .int (-1)), (12, .int (nI (6 * (10 * e + p319.1) + p319.2))), (11, .int (nI (10 * e + k243))), (10, .int (nI 1)), (9, .int (-1)), (8, .int (nI (10 * e + k219))), (0, .ref x), (1, .int (nI c)), (2, .int (nI e)), (3, .int (nI 2)), (4, .int ty), (5, .int n), (6, .int s), (7, .int rc)]) G dX8_met_408 (by decide) rfl rfl ?_
                                                            refine jv_iload (q := 412) G 0 dX8_met_410 rfl rfl ?_
                                                            refine jv_iconst (q := 413) (v := (-1)) G dX8_met_412 (by decide) rfl ?_
                                                            refine jv_icmp_eq (q := 416) (tgt := 426) G dX8_met_413 (by decide) rfl (fun c358 => ?_) (fun c358 => ?_)
                                                            · refine jv_iconst (q := 427) (v := nI 5) G dX8_met_426 (by decide) rfl ?_
                                                              refine jv_iret G hr dX8_met_427 (Nat.le_of_ble_eq_true rfl) (Nat.le_of_ble_eq_true rfl) ?_
                                                              have hz : (m_met (decide (e = ec)) tsC ts pk su 2 ty n s rc) = (5, none) := by
                                                                unfold m_met m_isC m_bd
                                                                simp only [*, if_true, if_false, Bool.false_eq_true, reduceIte, Option.map_some, decide_true, decide_false, not_true_eq_false, not_false_eq_true, and_true, true_and, and_false, false_and, or_true, true_or, or_false, false_or, Bool.or_true, Bool.or_false, Bool.true_or, Bool.false_or, reduceCtorEq] <;> first | rfl | (simp_all; done) | (split <;> simp_all)
                                                              exact ⟨by rw [hz], hrs.tr hsc.rs, by rw [hz]; exact (hsc.x hS 32).trans hran⟩
                                                            · exact absurd rfl c358
                                                          · refine jv_topI (y := nI (6 * (10 * e + p354.1) + p354.2)) (by rw [hp357]; rfl) ?_
                                                            obtain ⟨t355, ht355, m356, hm356⟩ := m_sl_mem ht320 hm321 hp357
                                                            have Tt355 := (hE.2.2 p354.1 t355 ht355).1
                                                            have Ot355 := (hE.2.2 p354.1 t355 ht355).2
                                                            have Lt355 := hE.2.1
                                                            have lt355 := jv_ltGet ht355
                                                            have Mm356 := rt_m Tt355 hm356
                                                            have Om356 := Ot355.2.2.2.2.2.2 m356 (List.mem_of_getElem? hm356)
                                                            have Lm356 := Ot355.2.2.2.2.2.1
                                                            have lm356 := jv_ltGet hm356
                                                            have Bm356n := Om356.1; have Bm356s := Om356.2.1; have Bm356a := Om356.2.2.1; have Bt355n := Ot355.1; have Bt355k := Ot355.2.1
                                                            refine jv_istore (q := 410) (lo' := [(13, .int (nI (6 * (10 * e + p354.1) + p354.2))), (12, .int (nI (6 * (10 * e + p319.1) + p319.2))), (11, .int (nI (10 * e + k243))), (10, .int (nI 1)), (9, .int (-1)), (8, .int (nI (10 * e + k219))), (0, .ref x), (1, .int (nI c)), (2, .int (nI e)), (3, .int (nI 2)), (4, .int ty), (5, .int n), (6, .int s), (7, .int rc)]) G dX8_met_408 (by decide) rfl rfl ?_
                                                            refine jv_iload (q := 412) G 0 dX8_met_410 rfl rfl ?_
                                                            refine jv_iconst (q := 413) (v := (-1)) G dX8_met_412 (by decide) rfl ?_
                                                            refine jv_icmp_eq (q := 416) (tgt := 426) G dX8_met_413 (by decide) rfl (fun c359 => ?_) (fun c359 => ?_)
                                                            · exact absurd c359 (jv_nI_m1 (by omega))
                                                            · refine jv_aload_n (q := 417) G 6 dX8_met_416 rfl rfl rfl ?_
                                                              refine jv_getQ (q := 420) G dX8_met_417 fl_X8_59 rfl (hsc.S hS).1 (rf_p18 (hsc.S hS)) rfl ?_
                                                              refine jv_iload (q := 422) G 0 dX8_met_420 rfl rfl ?_
                                                              refine jv_iald (q := 423) G dX8_met_422 (rf_a18 (hsc.S hS)) rfl (by omega) (by decide) (hsc.M hS Mm356).2.2.2.2.2.1 rfl ?_
                                                              refine jv_if_ge (q := 426) (tgt := 428) G dX8_met_423 (by decide) rfl (fun c360 => ?_) (fun c360 => ?_)
                                                              · refine jv_iload_n (q := 429) G 9 dX8_met_428 rfl rfl rfl ?_
                                                                refine jv_iconst (q := 430) (v := nI 4) G dX8_met_429 (by decide) rfl ?_
                                                                refine jv_icmp_neN (q := 433) (tgt := 446) G dX8_met_430 (by decide) rfl (by omega) (by omega) (fun c361 => ?_) (fun c361 => ?_)
                                                                · refine jv_aload_n (q := 447) G 6 dX8_met_446 rfl rfl rfl ?_
                                                                  refine jv_aload_n (q := 448) G 6 dX8_met_447 rfl rfl rfl ?_
                                                                  refine jv_getQ (q := 451) G dX8_met_448 fl_X8_17 rfl (hsc.S hS).1 (rf_p4 (hsc.S hS)) rfl ?_
                                                                  refine jv_iload (q := 453) G 0 dX8_met_451 rfl rfl ?_
                                                                  refine jv_callS_I (q := 456) (h1 := h351) (As := [.int (nI (6 * (10 * e + p354.1) + p354.2))]) (rest := [.ref (q 4), .ref x]) (ce' := 0) (sl' := 0) (r := nI ((6 * (10 * e + p354.1) + p354.2) / 6)) G Z ml_X8_183 (r_typeOf hlt (by omega)) dX8_met_453 rfl (by decide) (by decide) (by decide) (by decide) (Nat.le_of_ble_eq_true rfl) rfl rfl rfl rfl ?_
                                                                  refine jv_topI (y := nI (10 * e + p354.1)) (congrArg nI (by omega)) ?_
                                                                  refine jv_iald (q := 457) G dX8_met_456 (rf_a4 (hsc.S hS)) rfl (by omega) (by decide) (rt_4 (hsc.T hS Tt355)) rfl ?_
                                                                  refine jv_putI (q := 460) G dX8_met_457 fl_X8_192 rfl (hsc.S hS).1 rfl ?_
                                                                  have hr1 : rs x q h351 (jv_wI h351 x 32 (nI (mt_n t355))) := rs.rf.wI (nI (mt_n t355)) (Or.inl ⟨rfl, Or.inr (Or.inl rfl)⟩)
                                                                  have hran : jv_I (jv_wI h351 x 32 (nI (mt_n t355))) x 32 = (nI (mt_n t355)) := jv_I_self _ _ _ _
                                                                  have hSb := hsc.S hS
                                                                  have hE := hr1.E hSb (hsc.E hS hE)
                                                                  have hV := hr1.V hSb (hsc.V hS hV)
                                                                  have hEC := hr1.E hSb (hsc.E hS hEC)
                                                                  have hVC := hr1.V hSb (hsc.V hS hVC)
                                                                  have hce := (wx_I hSb 22 (by decide) rfl 32 c (nI (mt_n t355))).trans ((hsc.I2 hS 22 (by decide) rfl (by decide) c).trans hce)
                                                                  have hpk := (wx_I hSb 23 (by decide) rfl 32 c (nI (mt_n t355))).trans ((hsc.I2 hS 23 (by decide) rfl (by decide) c).trans hpk)
                                                                  have hsu := (wx_I hSb 24 (by decide) rfl 32 c (nI (mt_n t355))).trans ((hsc.I2 hS 24 (by decide) rfl (by decide) c).trans hsu)
                                                                  have hrs := (hrs.tr hsc.rs).tr hr1
                                                                  have hS := hr1.S hSb
                                                                  generalize jv_wI h351 x 32 (nI (mt_n t355)) = h362 at hran hE hV hEC hVC hce hpk hsu hrs hS ⊢
                                                                  have hsc : sc x q h362 h362 := sc.rf
                                                                  refine jv_iload_n (q := 461) G 8 dX8_met_460 rfl rfl rfl ?_
                                                                  refine jv_aload_n (q := 462) G 6 dX8_met_461 rfl rfl rfl ?_
                                                                  refine jv_getQ (q := 465) G dX8_met_462 fl_X8_68 rfl (hsc.S hS).1 (rf_p22 (hsc.S hS)) rfl ?_
                                                                  refine jv_iload_n (q := 466) G 7 dX8_met_465 rfl rfl rfl ?_
                                                                  refine jv_iald (q := 467) G dX8_met_466 (rf_a22 (hsc.S hS)) rfl (by omega) (by decide) ((hsc.I2 hS 22 (by decide) rfl (by decide) c).trans hce) rfl ?_
                                                                  refine jv_icmp_eqN (q := 470) (tgt := 495) G dX8_met_467 (by decide) rfl (by omega) (by omega) (fun c363 => ?_) (fun c363 => ?_)
                                                                  · refine jv_iconst (q := 496) (v := nI 0) G dX8_met_495 (by decide) rfl ?_
                                                                    refine jv_iret G hr dX8_met_496 (Nat.le_of_ble_eq_true rfl) (Nat.le_of_ble_eq_true rfl) ?_
                                                                    have hz : (m_met (decide (e = ec)) tsC ts pk su 2 ty n s rc) = (0, some (mt_n t355)) := by
                                                                      unfold m_met m_isC m_bd
                                                                      simp only [*, if_true, if_false, Bool.false_eq_true, reduceIte, Option.map_some, decide_true, decide_false, not_true_eq_false, not_false_eq_true, and_true, true_and, and_false, false_and, or_true, true_or, or_false, false_or, Bool.or_true, Bool.or_false, Bool.true_or, Bool.false_or, reduceCtorEq] <;> first | rfl | (simp_all; done) | (split <;> simp_all)
                                                                    exact ⟨by rw [hz], hrs.tr hsc.rs, by rw [hz]; exact (hsc.x hS 32).trans hran⟩
                                                                  · refine jv_aload_n (q := 471) G 6 dX8_met_470 rfl rfl rfl ?_
                                                                    refine jv_getI (q := 474) G dX8_met_471 fl_X8_192 rfl (hsc.S hS).1 ((hsc.x hS 32).trans hran) rfl ?_
                                                                    refine jv_aload_n (q := 475) G 6 dX8_met_474 rfl rfl rfl ?_
                                                                    refine jv_iload_n (q := 476) G 7 dX8_met_475 rfl rfl rfl ?_
                                                                    refine jv_iload (q := 478) G 10 dX8_met_476 rfl rfl ?_
                                                                    refine jv_iload (q := 480) G 11 dX8_met_478 rfl rfl ?_
                                                                    refine jv_iload (q := 482) G 12 dX8_met_480 rfl rfl ?_
                                                                    refine jv_iload (q := 484) G 13 dX8_met_482 rfl rfl ?_
                                                                    refine jv_callV (q := 487) (As := [.int (nI c), .int ty, .int n, .int s, .int rc]) (rest := [.int (nI (mt_n t355))]) G Z ml_X8_202 (r_ownRun hlt hsc hS hc hec hEC hVC hce hgC) (hsc.S hS).1 dX8_met_484 rfl (by decide) (by decide) (by decide) (by decide) (Nat.le_of_ble_eq_true rfl) rfl rfl (fun v365 h364 y366 => ?_) (fun _ _ hx => hx.elim)
                                                                    obtain ⟨rfl, hsc⟩ := y366
                                                                    show jv_V E 14 h364 0 0 (jv_Q E (fun v h' => v = some (.int (nI (m_met (decide (e = ec)) tsC ts pk su 2 ty n s rc).1)) ∧ rs x q h h' ∧ jv_I h' x 32 = jv_oN (m_met (decide (e = ec)) tsC ts pk su 2 ty n s rc).2) jv_no 0 0) 487 [(13, .int (nI (6 * (10 * e + p354.1) + p354.2))), (12, .int (nI (6 * (10 * e + p319.1) + p319.2))), (11, .int (nI (10 * e + k243))), (10, .int (nI 1)), (9, .int (-1)), (8, .int (nI (10 * e + k219))), (0, .ref x), (1, .int (nI c)), (2, .int (nI e)), (3, .int (nI 2)), (4, .int ty), (5, .int n), (6, .int s), (7, .int rc)] [.int (jv_oN (m_orn tsC ty n s rc)), .int (nI (mt_n t355))]
                                                                    refine jv_icmp_eq (q := 490) (tgt := 495) G dX8_met_487 (by decide) rfl (fun c367 => ?_) (fun c367 => ?_)
                                                                    · refine jv_iconst (q := 496) (v := nI 0) G dX8_met_495 (by decide) rfl ?_
                                                                      refine jv_iret G hr dX8_met_496 (Nat.le_of_ble_eq_true rfl) (Nat.le_of_ble_eq_true rfl) ?_
                                                                      have hz : (m_met (decide (e = ec)) tsC ts pk su 2 ty n s rc) = (0, some (mt_n t355)) := by
                                                                        unfold m_met m_isC m_bd
                                                                        simp only [*, if_true, if_false, Bool.false_eq_true, reduceIte, Option.map_some, decide_true, decide_false, not_true_eq_false, not_false_eq_true, and_true, true_and, and_false, false_and, or_true, true_or, or_false, false_or, Bool.or_true, Bool.or_false, Bool.true_or, Bool.false_or, reduceCtorEq] <;> first | rfl | (simp_all; done) | (split <;> simp_all)
                                                                      exact ⟨by rw [hz], hrs.tr hsc.rs, by rw [hz]; exact (hsc.x hS 32).trans hran⟩
                                                                    · refine jv_bipush (q := 492) (v := nI 8) G dX8_met_490 (by decide) rfl ?_
                                                                      refine jv_goto (q := 496) G dX8_met_492 (by decide) ?_
                                                                      refine jv_iret G hr dX8_met_496 (Nat.le_of_ble_eq_true rfl) (Nat.le_of_ble_eq_true rfl) ?_
                                                                      have hz : (m_met (decide (e = ec)) tsC ts pk su 2 ty n s rc) = (8, some (mt_n t355)) := by
                                                                        unfold m_met m_isC m_bd
                                                                        simp only [*, if_true, if_false, Bool.false_eq_true, reduceIte, Option.map_some, decide_true, decide_false, not_true_eq_false, not_false_eq_true, and_true, true_and, and_false, false_and, or_true, true_or, or_false, false_or, Bool.or_true, Bool.or_false, Bool.true_or, Bool.false_or, reduceCtorEq] <;> first | rfl | (simp_all; done) | (split <;> simp_all)
                                                                      exact ⟨by rw [hz], hrs.tr hsc.rs, by rw [hz]; exact (hsc.x hS 32).trans hran⟩
                                                                · omega
                                                              · refine jv_iconst (q := 427) (v := nI 5) G dX8_met_426 (by decide) rfl ?_
                                                                refine jv_iret G hr dX8_met_427 (Nat.le_of_ble_eq_true rfl) (Nat.le_of_ble_eq_true rfl) ?_
                                                                have hz : (m_met (decide (e = ec)) tsC ts pk su 2 ty n s rc) = (5, none) := by
                                                                  unfold m_met m_isC m_bd
                                                                  simp only [*, if_true, if_false, Bool.false_eq_true, reduceIte, Option.map_some, decide_true, decide_false, not_true_eq_false, not_false_eq_true, and_true, true_and, and_false, false_and, or_true, true_or, or_false, false_or, Bool.or_true, Bool.or_false, Bool.true_or, Bool.false_or, reduceCtorEq] <;> first | rfl | (simp_all; done) | (split <;> simp_all)
                                                                exact ⟨by rw [hz], hrs.tr hsc.rs, by rw [hz]; exact (hsc.x hS 32).trans hran⟩
                                                        · refine jv_bipush (q := 398) (v := nI 6) G dX8_met_396 (by decide) rfl ?_
                                                          refine jv_iret G hr dX8_met_398 (Nat.le_of_ble_eq_true rfl) (Nat.le_of_ble_eq_true rfl) ?_
                                                          have hz : (m_met (decide (e = ec)) tsC ts pk su 2 ty n s rc) = (6, none) := by
                                                            unfold m_met m_isC m_bd
                                                            simp only [*, if_true, if_false, Bool.false_eq_true, reduceIte, Option.map_some, decide_true, decide_false, not_true_eq_false, not_false_eq_true, and_true, true_and, and_false, false_and, or_true, true_or, or_false, false_or, Bool.or_true, Bool.or_false, Bool.true_or, Bool.false_or, reduceCtorEq] <;> first | rfl | (simp_all; done) | (split <;> simp_all)
                                                          exact ⟨by rw [hz], hrs.tr hsc.rs, by rw [hz]; exact (hsc.x hS 32).trans hran⟩
                                                · omega
                                              · refine jv_iconst (q := 326) (v := nI 4) G dX8_met_325 (by decide) rfl ?_
                                                refine jv_iret G hr dX8_met_326 (Nat.le_of_ble_eq_true rfl) (Nat.le_of_ble_eq_true rfl) ?_
                                                have hz : (m_met (decide (e = ec)) tsC ts pk su 2 ty n s rc) = (4, none) := by
                                                  unfold m_met m_isC m_bd
                                                  simp only [*, if_true, if_false, Bool.false_eq_true, reduceIte, Option.map_some, decide_true, decide_false, not_true_eq_false, not_false_eq_true, and_true, true_and, and_false, false_and, or_true, true_or, or_false, false_or, Bool.or_true, Bool.or_false, Bool.true_or, Bool.false_or, reduceCtorEq] <;> first | rfl | (simp_all; done) | (split <;> simp_all)
                                                exact ⟨by rw [hz], hrs.tr hsc.rs, by rw [hz]; exact (hsc.x hS 32).trans hran⟩
                                            · omega
                                        · refine jv_iconst (q := 299) (v := nI 3) G dX8_met_298 (by decide) rfl ?_
                                          refine jv_iret G hr dX8_met_299 (Nat.le_of_ble_eq_true rfl) (Nat.le_of_ble_eq_true rfl) ?_
                                          have hz : (m_met (decide (e = ec)) tsC ts pk su 2 ty n s rc) = (3, none) := by
                                            unfold m_met m_isC m_bd
                                            simp only [*, if_true, if_false, Bool.false_eq_true, reduceIte, Option.map_some, decide_true, decide_false, not_true_eq_false, not_false_eq_true, and_true, true_and, and_false, false_and, or_true, true_or, or_false, false_or, Bool.or_true, Bool.or_false, Bool.true_or, Bool.false_or, reduceCtorEq] <;> first | rfl | (simp_all; done) | (split <;> simp_all)
                                          exact ⟨by rw [hz], hrs.tr hsc.rs, by rw [hz]; exact (hsc.x hS 32).trans hran⟩
                                      · exact absurd c324 (jv_nI_m1 (by omega))
                                  · omega
                                · omega
                              · omega
                        · refine jv_iconst (q := 192) (v := nI 3) G dX8_met_191 (by decide) rfl ?_
                          refine jv_iret G hr dX8_met_192 (Nat.le_of_ble_eq_true rfl) (Nat.le_of_ble_eq_true rfl) ?_
                          have hz : (m_met (decide (e = ec)) tsC ts pk su 2 ty n s rc) = (3, none) := by
                            unfold m_met m_isC m_bd
                            simp only [*, if_true, if_false, Bool.false_eq_true, reduceIte, Option.map_some, decide_true, decide_false, not_true_eq_false, not_false_eq_true, and_true, true_and, and_false, false_and, or_true, true_or, or_false, false_or, Bool.or_true, Bool.or_false, Bool.true_or, Bool.false_or, reduceCtorEq] <;> first | rfl | (simp_all; done) | (split <;> simp_all)
                          exact ⟨by rw [hz], hrs.tr hsc.rs, by rw [hz]; exact (hsc.x hS 32).trans hran⟩
                    · exact absurd c251 (jv_nI_m1 (by omega))
          · omega
        · exact absurd rfl c240
      · refine jv_aload_n (q := 25) G 1 dX8_met_24 rfl rfl rfl ?_
        refine jv_iload_n (q := 26) G 2 dX8_met_25 rfl rfl rfl ?_
        refine jv_iload_n (q := 27) G 4 dX8_met_26 rfl rfl rfl ?_
        refine jv_iload (q := 29) G 5 dX8_met_27 rfl rfl ?_
        refine jv_iload (q := 31) G 6 dX8_met_29 rfl rfl ?_
        refine jv_iload (q := 33) G 7 dX8_met_31 rfl rfl ?_
        refine jv_callV_I (q := 36) (h1 := h218) (As := [.int (nI c), .int (nI 2), .int ty, .int n, .int s]) (rest := []) (ce' := 0) (sl' := 0) (r := (ffE ec (m_co tsC 2 ty n s))) G Z ml_X8_195 (r_constantOf hlt hsc hS hc hec hEC hce (by decide) hgC) (hsc.S hS).1 dX8_met_33 rfl (by decide) (by decide) (by decide) (by decide) (Nat.le_of_ble_eq_true rfl) rfl rfl rfl rfl ?_
        refine jv_topI (y := (-1)) rfl ?_
        refine jv_goto (q := 40) G dX8_met_36 (by decide) ?_
        refine jv_istore (q := 42) (lo' := [(9, .int (-1)), (8, .int (nI (10 * e + k219))), (0, .ref x), (1, .int (nI c)), (2, .int (nI e)), (3, .int (nI 2)), (4, .int ty), (5, .int n), (6, .int s), (7, .int rc)]) G dX8_met_40 (by decide) rfl rfl ?_
        refine jv_iload (q := 44) G 0 dX8_met_42 rfl rfl ?_
        refine jv_iconst (q := 45) (v := (-1)) G dX8_met_44 (by decide) rfl ?_
        refine jv_icmp_eq (q := 48) (tgt := 111) G dX8_met_45 (by decide) rfl (fun c368 => ?_) (fun c368 => ?_)
        · refine jv_iload_n (q := 112) G 5 dX8_met_111 rfl rfl rfl ?_
          refine jv_iconst (q := 113) (v := nI 2) G dX8_met_112 (by decide) rfl ?_
          refine jv_icmp_eqN (q := 116) (tgt := 121) G dX8_met_113 (by decide) rfl (by omega) (by omega) (fun c369 => ?_) (fun c369 => ?_)
          · refine jv_iconst (q := 122) (v := nI 1) G dX8_met_121 (by decide) rfl ?_
            refine jv_goto (q := 126) G dX8_met_122 (by decide) ?_
            refine jv_istore (q := 128) (lo' := [(10, .int (nI 1)), (9, .int (-1)), (8, .int (nI (10 * e + k219))), (0, .ref x), (1, .int (nI c)), (2, .int (nI e)), (3, .int (nI 2)), (4, .int ty), (5, .int n), (6, .int s), (7, .int rc)]) G dX8_met_126 (by decide) rfl rfl ?_
            refine jv_iload (q := 130) G 0 dX8_met_128 rfl rfl ?_
            refine jv_if_eqN (q := 133) (tgt := 143) G dX8_met_130 (by decide) rfl (by omega) (fun c370 => ?_) (fun c370 => ?_)
            · omega
            · refine jv_aload_n (q := 134) G 3 dX8_met_133 rfl rfl rfl ?_
              refine jv_iload_n (q := 135) G 5 dX8_met_134 rfl rfl rfl ?_
              refine jv_iload (q := 137) G 10 dX8_met_135 rfl rfl ?_
              refine jv_callV_I (q := 140) (h1 := h218) (As := [.int (nI e), .int rc]) (rest := []) (ce' := 0) (sl' := 0) (r := jv_oN ((m_at ts rc).map (fun k => 10 * e + k))) G Z ml_X8_151 (r_at hlt (hsc.S hS) he (hsc.E hS hE)) (hsc.S hS).1 dX8_met_137 rfl (by decide) (by decide) (by decide) (by decide) (Nat.le_of_ble_eq_true rfl) rfl rfl rfl rfl ?_
              rcases Option.eq_none_or_eq_some (m_at ts rc) with hk373 | ⟨k371, hk373⟩
              · refine jv_topI (y := (-1)) (by rw [hk373]; rfl) ?_
                refine jv_goto (q := 144) G dX8_met_140 (by decide) ?_
                refine jv_istore (q := 146) (lo' := [(11, .int (-1)), (10, .int (nI 1)), (9, .int (-1)), (8, .int (nI (10 * e + k219))), (0, .ref x), (1, .int (nI c)), (2, .int (nI e)), (3, .int (nI 2)), (4, .int ty), (5, .int n), (6, .int s), (7, .int rc)]) G dX8_met_144 (by decide) rfl rfl ?_
                refine jv_iload (q := 148) G 3 dX8_met_146 rfl rfl ?_
                refine jv_iconst (q := 149) (v := (-1)) G dX8_met_148 (by decide) rfl ?_
                refine jv_icmp_eq (q := 152) (tgt := 163) G dX8_met_149 (by decide) rfl (fun c374 => ?_) (fun c374 => ?_)
                · exact absurd c374 (jv_nI_m1 (by omega))
                · refine jv_iload (q := 154) G 1 dX8_met_152 rfl rfl ?_
                  refine jv_if_eqN (q := 157) (tgt := 165) G dX8_met_154 (by decide) rfl (by omega) (fun c375 => ?_) (fun c375 => ?_)
                  · omega
                  · refine jv_iload (q := 159) G 0 dX8_met_157 rfl rfl ?_
                    refine jv_iconst (q := 160) (v := (-1)) G dX8_met_159 (by decide) rfl ?_
                    refine jv_icmp_ne (q := 163) (tgt := 165) G dX8_met_160 (by decide) rfl (fun c376 => ?_) (fun c376 => ?_)
                    · exact absurd rfl c376
                    · refine jv_iconst (q := 164) (v := nI 1) G dX8_met_163 (by decide) rfl ?_
                      refine jv_iret G hr dX8_met_164 (Nat.le_of_ble_eq_true rfl) (Nat.le_of_ble_eq_true rfl) ?_
                      have hz : (m_met (decide (e = ec)) tsC ts pk su 2 ty n s rc) = (1, none) := by
                        unfold m_met m_isC m_bd
                        simp only [*, if_true, if_false, Bool.false_eq_true, reduceIte, Option.map_some, decide_true, decide_false, not_true_eq_false, not_false_eq_true, and_true, true_and, and_false, false_and, or_true, true_or, or_false, false_or, Bool.or_true, Bool.or_false, Bool.true_or, Bool.false_or, reduceCtorEq] <;> first | rfl | (simp_all; done) | (split <;> simp_all)
                      exact ⟨by rw [hz], hrs.tr hsc.rs, by rw [hz]; exact (hsc.x hS 32).trans hran⟩
              · refine jv_topI (y := nI (10 * e + k371)) (by rw [hk373]; rfl) ?_
                obtain ⟨t372, ht372, nt372, lt372⟩ := m_at_some hk373
                have Tt372 := (hE.2.2 k371 t372 ht372).1
                have Ot372 := (hE.2.2 k371 t372 ht372).2
                have Lt372 := hE.2.1
                have Bt372n := Ot372.1; have Bt372k := Ot372.2.1
                refine jv_goto (q := 144) G dX8_met_140 (by decide) ?_
                refine jv_istore (q := 146) (lo' := [(11, .int (nI (10 * e + k371))), (10, .int (nI 1)), (9, .int (-1)), (8, .int (nI (10 * e + k219))), (0, .ref x), (1, .int (nI c)), (2, .int (nI e)), (3, .int (nI 2)), (4, .int ty), (5, .int n), (6, .int s), (7, .int rc)]) G dX8_met_144 (by decide) rfl rfl ?_
                refine jv_iload (q := 148) G 3 dX8_met_146 rfl rfl ?_
                refine jv_iconst (q := 149) (v := (-1)) G dX8_met_148 (by decide) rfl ?_
                refine jv_icmp_eq (q := 152) (tgt := 163) G dX8_met_149 (by decide) rfl (fun c377 => ?_) (fun c377 => ?_)
                · exact absurd c377 (jv_nI_m1 (by omega))
                · refine jv_iload (q := 154) G 1 dX8_met_152 rfl rfl ?_
                  refine jv_if_eqN (q := 157) (tgt := 165) G dX8_met_154 (by decide) rfl (by omega) (fun c378 => ?_) (fun c378 => ?_)
                  · omega
                  · refine jv_iload (q := 159) G 0 dX8_met_157 rfl rfl ?_
                    refine jv_iconst (q := 160) (v := (-1)) G dX8_met_159 (by decide) rfl ?_
                    refine jv_icmp_ne (q := 163) (tgt := 165) G dX8_met_160 (by decide) rfl (fun c379 => ?_) (fun c379 => ?_)
                    · refine jv_aload_n (q := 166) G 4 dX8_met_165 rfl rfl rfl ?_
                      refine jv_getQ (q := 169) G dX8_met_166 fl_X8_29 rfl (hsc.S hS).1 (rf_p8 (hsc.S hS)) rfl ?_
                      refine jv_iload (q := 171) G 3 dX8_met_169 rfl rfl ?_
                      refine jv_zald (q := 172) G dX8_met_171 (rf_a8 (hsc.S hS)) rfl (by omega) (by decide) (rt_8 (hsc.T hS Tt220)) rfl ?_
                      refine jv_if_neB (q := 175) (tgt := 193) G dX8_met_172 (by decide) rfl (fun c380 => ?_) (fun c380 => ?_)
                      · refine jv_iload_n (q := 194) G 7 dX8_met_193 rfl rfl rfl ?_
                        refine jv_iconst (q := 195) (v := nI 2) G dX8_met_194 (by decide) rfl ?_
                        refine jv_icmp_neN (q := 198) (tgt := 208) G dX8_met_195 (by decide) rfl (by omega) (by omega) (fun c381 => ?_) (fun c381 => ?_)
                        · omega
                        · refine jv_aload_n (q := 199) G 4 dX8_met_198 rfl rfl rfl ?_
                          refine jv_getQ (q := 202) G dX8_met_199 fl_X8_20 rfl (hsc.S hS).1 (rf_p5 (hsc.S hS)) rfl ?_
                          refine jv_iload (q := 204) G 3 dX8_met_202 rfl rfl ?_
                          refine jv_zald (q := 205) G dX8_met_204 (rf_a5 (hsc.S hS)) rfl (by omega) (by decide) (rt_5 (hsc.T hS Tt220)) rfl ?_
                          refine jv_if_neB (q := 208) (tgt := 223) G dX8_met_205 (by decide) rfl (fun c382 => ?_) (fun c382 => ?_)
                          · refine jv_bipush (q := 225) (v := nI 6) G dX8_met_223 (by decide) rfl ?_
                            refine jv_iret G hr dX8_met_225 (Nat.le_of_ble_eq_true rfl) (Nat.le_of_ble_eq_true rfl) ?_
                            have hz : (m_met (decide (e = ec)) tsC ts pk su 2 ty n s rc) = (6, none) := by
                              unfold m_met m_isC m_bd
                              simp only [*, if_true, if_false, Bool.false_eq_true, reduceIte, Option.map_some, decide_true, decide_false, not_true_eq_false, not_false_eq_true, and_true, true_and, and_false, false_and, or_true, true_or, or_false, false_or, Bool.or_true, Bool.or_false, Bool.true_or, Bool.false_or, reduceCtorEq] <;> first | rfl | (simp_all; done) | (split <;> simp_all)
                            exact ⟨by rw [hz], hrs.tr hsc.rs, by rw [hz]; exact (hsc.x hS 32).trans hran⟩
                          · refine jv_iload_n (q := 209) G 7 dX8_met_208 rfl rfl rfl ?_
                            refine jv_iconst (q := 210) (v := nI 4) G dX8_met_209 (by decide) rfl ?_
                            refine jv_icmp_neN (q := 213) (tgt := 226) G dX8_met_210 (by decide) rfl (by omega) (by omega) (fun c383 => ?_) (fun c383 => ?_)
                            · refine jv_iload_n (q := 227) G 7 dX8_met_226 rfl rfl rfl ?_
                              refine jv_iconst (q := 228) (v := nI 5) G dX8_met_227 (by decide) rfl ?_
                              refine jv_icmp_neN (q := 231) (tgt := 247) G dX8_met_228 (by decide) rfl (by omega) (by omega) (fun c384 => ?_) (fun c384 => ?_)
                              · refine jv_iload_n (q := 248) G 7 dX8_met_247 rfl rfl rfl ?_
                                refine jv_iconst (q := 249) (v := nI 2) G dX8_met_248 (by decide) rfl ?_
                                refine jv_icmp_geN (q := 252) (tgt := 266) G dX8_met_249 (by decide) rfl (by omega) (by omega) (fun c385 => ?_) (fun c385 => ?_)
                                · refine jv_aload_n (q := 267) G 4 dX8_met_266 rfl rfl rfl ?_
                                  refine jv_iload_n (q := 268) G 6 dX8_met_267 rfl rfl rfl ?_
                                  refine jv_iload (q := 270) G 3 dX8_met_268 rfl rfl ?_
                                  refine jv_iload (q := 272) G 9 dX8_met_270 rfl rfl ?_
                                  refine jv_iload (q := 274) G 10 dX8_met_272 rfl rfl ?_
                                  refine jv_callV (q := 277) (As := [.int (nI e), .int (nI (10 * e + k219)), .int n, .int s]) (rest := []) G Z ml_X8_186 (r_findMethod (d := 11) hlt hsc hS he hE hV ht220 (hg k219 (by omega))) (hsc.S hS).1 dX8_met_274 rfl (by decide) (by decide) (by decide) (by decide) (Nat.le_of_ble_eq_true rfl) rfl rfl (fun v387 h386 y388 => ?_) (fun _ _ hx => hx.elim)
                                  obtain ⟨rfl, hsc⟩ := y388
                                  show jv_V E 14 h386 0 0 (jv_Q E (fun v h' => v = some (.int (nI (m_met (decide (e = ec)) tsC ts pk su 2 ty n s rc).1)) ∧ rs x q h h' ∧ jv_I h' x 32 = jv_oN (m_met (decide (e = ec)) tsC ts pk su 2 ty n s rc).2) jv_no 0 0) 277 [(11, .int (nI (10 * e + k371))), (10, .int (nI 1)), (9, .int (-1)), (8, .int (nI (10 * e + k219))), (0, .ref x), (1, .int (nI c)), (2, .int (nI e)), (3, .int (nI 2)), (4, .int ty), (5, .int n), (6, .int s), (7, .int rc)] [.int (ffE e (m_fm ts 11 k219 n s))]
                                  rcases Option.eq_none_or_eq_some (m_fm ts 11 k219 n s) with hp392 | ⟨p389, hp392⟩
                                  · refine jv_topI (y := (-1)) (by rw [hp392]; rfl) ?_
                                    refine jv_istore (q := 279) (lo' := [(12, .int (-1)), (11, .int (nI (10 * e + k371))), (10, .int (nI 1)), (9, .int (-1)), (8, .int (nI (10 * e + k219))), (0, .ref x), (1, .int (nI c)), (2, .int (nI e)), (3, .int (nI 2)), (4, .int ty), (5, .int n), (6, .int s), (7, .int rc)]) G dX8_met_277 (by decide) rfl rfl ?_
                                    refine jv_iload (q := 281) G 0 dX8_met_279 rfl rfl ?_
                                    refine jv_iconst (q := 282) (v := (-1)) G dX8_met_281 (by decide) rfl ?_
                                    refine jv_icmp_ne (q := 285) (tgt := 287) G dX8_met_282 (by decide) rfl (fun c393 => ?_) (fun c393 => ?_)
                                    · exact absurd rfl c393
                                    · refine jv_iconst (q := 286) (v := nI 2) G dX8_met_285 (by decide) rfl ?_
                                      refine jv_iret G hr dX8_met_286 (Nat.le_of_ble_eq_true rfl) (Nat.le_of_ble_eq_true rfl) ?_
                                      have hz : (m_met (decide (e = ec)) tsC ts pk su 2 ty n s rc) = (2, none) := by
                                        unfold m_met m_isC m_bd
                                        simp only [*, if_true, if_false, Bool.false_eq_true, reduceIte, Option.map_some, decide_true, decide_false, not_true_eq_false, not_false_eq_true, and_true, true_and, and_false, false_and, or_true, true_or, or_false, false_or, Bool.or_true, Bool.or_false, Bool.true_or, Bool.false_or, reduceCtorEq] <;> first | rfl | (simp_all; done) | (split <;> simp_all)
                                      exact ⟨by rw [hz], hrs.tr hsc.rs, by rw [hz]; exact (hsc.x hS 32).trans hran⟩
                                  · refine jv_topI (y := nI (6 * (10 * e + p389.1) + p389.2)) (by rw [hp392]; rfl) ?_
                                    obtain ⟨t390, ht390, m391, hm391⟩ := m_fm_mem hp392
                                    have Tt390 := (hE.2.2 p389.1 t390 ht390).1
                                    have Ot390 := (hE.2.2 p389.1 t390 ht390).2
                                    have Lt390 := hE.2.1
                                    have lt390 := jv_ltGet ht390
                                    have Mm391 := rt_m Tt390 hm391
                                    have Om391 := Ot390.2.2.2.2.2.2 m391 (List.mem_of_getElem? hm391)
                                    have Lm391 := Ot390.2.2.2.2.2.1
                                    have lm391 := jv_ltGet hm391
                                    have Bm391n := Om391.1; have Bm391s := Om391.2.1; have Bm391a := Om391.2.2.1; have Bt390n := Ot390.1; have Bt390k := Ot390.2.1
                                    refine jv_istore (q := 279) (lo' := [(12, .int (nI (6 * (10 * e + p389.1) + p389.2))), (11, .int (nI (10 * e + k371))), (10, .int (nI 1)), (9, .int (-1)), (8, .int (nI (10 * e + k219))), (0, .ref x), (1, .int (nI c)), (2, .int (nI e)), (3, .int (nI 2)), (4, .int ty), (5, .int n), (6, .int s), (7, .int rc)]) G dX8_met_277 (by decide) rfl rfl ?_
                                    refine jv_iload (q := 281) G 0 dX8_met_279 rfl rfl ?_
                                    refine jv_iconst (q := 282) (v := (-1)) G dX8_met_281 (by decide) rfl ?_
                                    refine jv_icmp_ne (q := 285) (tgt := 287) G dX8_met_282 (by decide) rfl (fun c394 => ?_) (fun c394 => ?_)
                                    · refine jv_aload_n (q := 288) G 5 dX8_met_287 rfl rfl rfl ?_
                                      refine jv_iload_n (q := 289) G 6 dX8_met_288 rfl rfl rfl ?_
                                      refine jv_iload_n (q := 290) G 7 dX8_met_289 rfl rfl rfl ?_
                                      refine jv_iload (q := 292) G 0 dX8_met_290 rfl rfl ?_
                                      refine jv_callV_I (q := 295) (h1 := h386) (As := [.int (nI c), .int (nI e), .int (nI (6 * (10 * e + p389.1) + p389.2))]) (rest := []) (ce' := 0) (sl' := 0) (r := jv_bI (m_mr ts pk su t390 m391)) G Z ml_X8_199 (r_mayReach hlt hsc hS hc he hE hV ht390 hm391 hpk hpk5 hsu hsu16) (hsc.S hS).1 dX8_met_292 rfl (by decide) (by decide) (by decide) (by decide) (Nat.le_of_ble_eq_true rfl) rfl rfl rfl rfl ?_
                                      refine jv_if_neB (q := 298) (tgt := 300) G dX8_met_295 (by decide) rfl (fun c395 => ?_) (fun c395 => ?_)
                                      · refine jv_aload_n (q := 301) G 5 dX8_met_300 rfl rfl rfl ?_
                                        refine jv_getQ (q := 304) G dX8_met_301 fl_X8_56 rfl (hsc.S hS).1 (rf_p17 (hsc.S hS)) rfl ?_
                                        refine jv_iload (q := 306) G 0 dX8_met_304 rfl rfl ?_
                                        refine jv_zald (q := 307) G dX8_met_306 (rf_a17 (hsc.S hS)) rfl (by omega) (by decide) (hsc.M hS Mm391).2.2.2.2.1 rfl ?_
                                        refine jv_iload_n (q := 308) G 8 dX8_met_307 rfl rfl rfl ?_
                                        refine jv_iconst (q := 309) (v := nI 1) G dX8_met_308 (by decide) rfl ?_
                                        refine jv_icmp_eqN (q := 312) (tgt := 317) G dX8_met_309 (by decide) rfl (by omega) (by omega) (fun c396 => ?_) (fun c396 => ?_)
                                        · omega
                                        · refine jv_iload_n (q := 313) G 8 dX8_met_312 rfl rfl rfl ?_
                                          refine jv_iconst (q := 314) (v := nI 3) G dX8_met_313 (by decide) rfl ?_
                                          refine jv_icmp_neN (q := 317) (tgt := 321) G dX8_met_314 (by decide) rfl (by omega) (by omega) (fun c397 => ?_) (fun c397 => ?_)
                                          · refine jv_iconst (q := 322) (v := nI 0) G dX8_met_321 (by decide) rfl ?_
                                            refine jv_icmp_eq (q := 325) (tgt := 327) G dX8_met_322 (by decide) rfl (fun c398 => ?_) (fun c398 => ?_)
                                            · refine jv_iload (q := 329) G 2 dX8_met_327 rfl rfl ?_
                                              refine jv_if_neN (q := 332) (tgt := 357) G dX8_met_329 (by decide) rfl (by omega) (fun c399 => ?_) (fun c399 => ?_)
                                              · refine jv_aload_n (q := 358) G 5 dX8_met_357 rfl rfl rfl ?_
                                                refine jv_getQ (q := 361) G dX8_met_358 fl_X8_20 rfl (hsc.S hS).1 (rf_p5 (hsc.S hS)) rfl ?_
                                                refine jv_iload (q := 363) G 1 dX8_met_361 rfl rfl ?_
                                                refine jv_zald (q := 364) G dX8_met_363 (rf_a5 (hsc.S hS)) rfl (by omega) (by decide) (rt_5 (hsc.T hS Tt372)) rfl ?_
                                                refine jv_if_neB (q := 367) (tgt := 396) G dX8_met_364 (by decide) rfl (fun c400 => ?_) (fun c400 => ?_)
                                                · refine jv_bipush (q := 398) (v := nI 6) G dX8_met_396 (by decide) rfl ?_
                                                  refine jv_iret G hr dX8_met_398 (Nat.le_of_ble_eq_true rfl) (Nat.le_of_ble_eq_true rfl) ?_
                                                  have hz : (m_met (decide (e = ec)) tsC ts pk su 2 ty n s rc) = (6, none) := by
                                                    unfold m_met m_isC m_bd
                                                    simp only [*, if_true, if_false, Bool.false_eq_true, reduceIte, Option.map_some, decide_true, decide_false, not_true_eq_false, not_false_eq_true, and_true, true_and, and_false, false_and, or_true, true_or, or_false, false_or, Bool.or_true, Bool.or_false, Bool.true_or, Bool.false_or, reduceCtorEq] <;> first | rfl | (simp_all; done) | (split <;> simp_all)
                                                  exact ⟨by rw [hz], hrs.tr hsc.rs, by rw [hz]; exact (hsc.x hS 32).trans hran⟩
                                                · refine jv_aload_n (q := 368) G 5 dX8_met_367 rfl rfl rfl ?_
                                                  refine jv_getQ (q := 371) G dX8_met_368 fl_X8_23 rfl (hsc.S hS).1 (rf_p6 (hsc.S hS)) rfl ?_
                                                  refine jv_iload (q := 373) G 1 dX8_met_371 rfl rfl ?_
                                                  refine jv_zald (q := 374) G dX8_met_373 (rf_a6 (hsc.S hS)) rfl (by omega) (by decide) (rt_6 (hsc.T hS Tt372)) rfl ?_
                                                  refine jv_if_neB (q := 377) (tgt := 396) G dX8_met_374 (by decide) rfl (fun c401 => ?_) (fun c401 => ?_)
                                                  · refine jv_bipush (q := 398) (v := nI 6) G dX8_met_396 (by decide) rfl ?_
                                                    refine jv_iret G hr dX8_met_398 (Nat.le_of_ble_eq_true rfl) (Nat.le_of_ble_eq_true rfl) ?_
                                                    have hz : (m_met (decide (e = ec)) tsC ts pk su 2 ty n s rc) = (6, none) := by
                                                      unfold m_met m_isC m_bd
                                                      simp only [*, if_true, if_false, Bool.false_eq_true, reduceIte, Option.map_some, decide_true, decide_false, not_true_eq_false, not_false_eq_true, and_true, true_and, and_false, false_and, or_true, true_or, or_false, false_or, Bool.or_true, Bool.or_false, Bool.true_or, Bool.false_or, reduceCtorEq] <;> first | rfl | (simp_all; done) | (split <;> simp_all)
                                                    exact ⟨by rw [hz], hrs.tr hsc.rs, by rw [hz]; exact (hsc.x hS 32).trans hran⟩
                                                  · refine jv_iload (q := 379) G 1 dX8_met_377 rfl rfl ?_
                                                    refine jv_iload (q := 381) G 4 dX8_met_379 rfl rfl ?_
                                                    refine jv_icmp_eqN (q := 384) (tgt := 399) G dX8_met_381 (by decide) rfl (by omega) (by omega) (fun c402 => ?_) (fun c402 => ?_)
                                                    · refine jv_aload_n (q := 400) G 5 dX8_met_399 rfl rfl rfl ?_
                                                      refine jv_iload_n (q := 401) G 7 dX8_met_400 rfl rfl rfl ?_
                                                      refine jv_iload (q := 403) G 0 dX8_met_401 rfl rfl ?_
                                                      refine jv_iload (q := 405) G 1 dX8_met_403 rfl rfl ?_
                                                      refine jv_callV (q := 408) (As := [.int (nI e), .int (nI (6 * (10 * e + p389.1) + p389.2)), .int (nI (10 * e + k371))]) (rest := []) G Z ml_X8_189 (r_selected (d := 11) hlt hsc hS he hE hV ht390 hm391 ht372 (hg k371 (by omega))) (hsc.S hS).1 dX8_met_405 rfl (by decide) (by decide) (by decide) (by decide) (Nat.le_of_ble_eq_true rfl) rfl rfl (fun v404 h403 y405 => ?_) (fun _ _ hx => hx.elim)
                                                      obtain ⟨rfl, hsc⟩ := y405
                                                      show jv_V E 14 h403 0 0 (jv_Q E (fun v h' => v = some (.int (nI (m_met (decide (e = ec)) tsC ts pk su 2 ty n s rc).1)) ∧ rs x q h h' ∧ jv_I h' x 32 = jv_oN (m_met (decide (e = ec)) tsC ts pk su 2 ty n s rc).2) jv_no 0 0) 408 [(12, .int (nI (6 * (10 * e + p389.1) + p389.2))), (11, .int (nI (10 * e + k371))), (10, .int (nI 1)), (9, .int (-1)), (8, .int (nI (10 * e + k219))), (0, .ref x), (1, .int (nI c)), (2, .int (nI e)), (3, .int (nI 2)), (4, .int ty), (5, .int n), (6, .int s), (7, .int rc)] [.int (ffE e (m_sl ts 11 t390 m391 p389.1 p389.2 k371))]
                                                      rcases Option.eq_none_or_eq_some (m_sl ts 11 t390 m391 p389.1 p389.2 k371) with hp409 | ⟨p406, hp409⟩
                                                      · refine jv_topI (y := (-1)) (by rw [hp409]; rfl) ?_
                                                        refine jv_istore (q := 410) (lo' := [(13, .int (-1)), (12, .int (nI (6 * (10 * e + p389.1) + p389.2))), (11, .int (nI (10 * e + k371))), (10, .int (nI 1)), (9, .int (-1)), (8, .int (nI (10 * e + k219))), (0, .ref x), (1, .int (nI c)), (2, .int (nI e)), (3, .int (nI 2)), (4, .int ty), (5, .int n), (6, .int s), (7, .int rc)]) G dX8_met_408 (by decide) rfl rfl ?_
                                                        refine jv_iload (q := 412) G 0 dX8_met_410 rfl rfl ?_
                                                        refine jv_iconst (q := 413) (v := (-1)) G dX8_met_412 (by decide) rfl ?_
                                                        refine jv_icmp_eq (q := 416) (tgt := 426) G dX8_met_413 (by decide) rfl (fun c410 => ?_) (fun c410 => ?_)
                                                        · refine jv_iconst (q := 427) (v := nI 5) G dX8_met_426 (by decide) rfl ?_
                                                          refine jv_iret G hr dX8_met_427 (Nat.le_of_ble_eq_true rfl) (Nat.le_of_ble_eq_true rfl) ?_
                                                          have hz : (m_met (decide (e = ec)) tsC ts pk su 2 ty n s rc) = (5, none) := by
                                                            unfold m_met m_isC m_bd
                                                            simp only [*, if_true, if_false, Bool.false_eq_true, reduceIte, Option.map_some, decide_true, decide_false, not_true_eq_false, not_false_eq_true, and_true, true_and, and_false, false_and, or_true, true_or, or_false, false_or, Bool.or_true, Bool.or_false, Bool.true_or, Bool.false_or, reduceCtorEq] <;> first | rfl | (simp_all; done) | (split <;> simp_all)
                                                          exact ⟨by rw [hz], hrs.tr hsc.rs, by rw [hz]; exact (hsc.x hS 32).trans hran⟩
                                                        · exact absurd rfl c410
                                                      · refine jv_topI (y := nI (6 * (10 * e + p406.1) + p406.2)) (by rw [hp409]; rfl) ?_
                                                        obtain ⟨t407, ht407, m408, hm408⟩ := m_sl_mem ht390 hm391 hp409
                                                        have Tt407 := (hE.2.2 p406.1 t407 ht407).1
                                                        have Ot407 := (hE.2.2 p406.1 t407 ht407).2
                                                        have Lt407 := hE.2.1
                                                        have lt407 := jv_ltGet ht407
                                                        have Mm408 := rt_m Tt407 hm408
                                                        have Om408 := Ot407.2.2.2.2.2.2 m408 (List.mem_of_getElem? hm408)
                                                        have Lm408 := Ot407.2.2.2.2.2.1
                                                        have lm408 := jv_ltGet hm408
                                                        have Bm408n := Om408.1; have Bm408s := Om408.2.1; have Bm408a := Om408.2.2.1; have Bt407n := Ot407.1; have Bt407k := Ot407.2.1
                                                        refine jv_istore (q := 410) (lo' := [(13, .int (nI (6 * (10 * e + p406.1) + p406.2))), (12, .int (nI (6 * (10 * e + p389.1) + p389.2))), (11, .int (nI (10 * e + k371))), (10, .int (nI 1)), (9, .int (-1)), (8, .int (nI (10 * e + k219))), (0, .ref x), (1, .int (nI c)), (2, .int (nI e)), (3, .int (nI 2)), (4, .int ty), (5, .int n), (6, .int s), (7, .int rc)]) G dX8_met_408 (by decide) rfl rfl ?_
                                                        refine jv_iload (q := 412) G 0 dX8_met_410 rfl rfl ?_
                                                        refine jv_iconst (q := 413) (v := (-1)) G dX8_met_412 (by decide) rfl ?_
                                                        refine jv_icmp_eq (q := 416) (tgt := 426) G dX8_met_413 (by decide) rfl (fun c411 => ?_) (fun c411 => ?_)
                                                        · exact absurd c411 (jv_nI_m1 (by omega))
                                                        · refine jv_aload_n (q := 417) G 6 dX8_met_416 rfl rfl rfl ?_
                                                          refine jv_getQ (q := 420) G dX8_met_417 fl_X8_59 rfl (hsc.S hS).1 (rf_p18 (hsc.S hS)) rfl ?_
                                                          refine jv_iload (q := 422) G 0 dX8_met_420 rfl rfl ?_
                                                          refine jv_iald (q := 423) G dX8_met_422 (rf_a18 (hsc.S hS)) rfl (by omega) (by decide) (hsc.M hS Mm408).2.2.2.2.2.1 rfl ?_
                                                          refine jv_if_ge (q := 426) (tgt := 428) G dX8_met_423 (by decide) rfl (fun c412 => ?_) (fun c412 => ?_)
                                                          · refine jv_iload_n (q := 429) G 9 dX8_met_428 rfl rfl rfl ?_
                                                            refine jv_iconst (q := 430) (v := nI 4) G dX8_met_429 (by decide) rfl ?_
                                                            refine jv_icmp_neN (q := 433) (tgt := 446) G dX8_met_430 (by decide) rfl (by omega) (by omega) (fun c413 => ?_) (fun c413 => ?_)
                                                            · refine jv_aload_n (q := 447) G 6 dX8_met_446 rfl rfl rfl ?_
                                                              refine jv_aload_n (q := 448) G 6 dX8_met_447 rfl rfl rfl ?_
                                                              refine jv_getQ (q := 451) G dX8_met_448 fl_X8_17 rfl (hsc.S hS).1 (rf_p4 (hsc.S hS)) rfl ?_
                                                              refine jv_iload (q := 453) G 0 dX8_met_451 rfl rfl ?_
                                                              refine jv_callS_I (q := 456) (h1 := h403) (As := [.int (nI (6 * (10 * e + p406.1) + p406.2))]) (rest := [.ref (q 4), .ref x]) (ce' := 0) (sl' := 0) (r := nI ((6 * (10 * e + p406.1) + p406.2) / 6)) G Z ml_X8_183 (r_typeOf hlt (by omega)) dX8_met_453 rfl (by decide) (by decide) (by decide) (by decide) (Nat.le_of_ble_eq_true rfl) rfl rfl rfl rfl ?_
                                                              refine jv_topI (y := nI (10 * e + p406.1)) (congrArg nI (by omega)) ?_
                                                              refine jv_iald (q := 457) G dX8_met_456 (rf_a4 (hsc.S hS)) rfl (by omega) (by decide) (rt_4 (hsc.T hS Tt407)) rfl ?_
                                                              refine jv_putI (q := 460) G dX8_met_457 fl_X8_192 rfl (hsc.S hS).1 rfl ?_
                                                              have hr1 : rs x q h403 (jv_wI h403 x 32 (nI (mt_n t407))) := rs.rf.wI (nI (mt_n t407)) (Or.inl ⟨rfl, Or.inr (Or.inl rfl)⟩)
                                                              have hran : jv_I (jv_wI h403 x 32 (nI (mt_n t407))) x 32 = (nI (mt_n t407)) := jv_I_self _ _ _ _
                                                              have hSb := hsc.S hS
                                                              have hE := hr1.E hSb (hsc.E hS hE)
                                                              have hV := hr1.V hSb (hsc.V hS hV)
                                                              have hEC := hr1.E hSb (hsc.E hS hEC)
                                                              have hVC := hr1.V hSb (hsc.V hS hVC)
                                                              have hce := (wx_I hSb 22 (by decide) rfl 32 c (nI (mt_n t407))).trans ((hsc.I2 hS 22 (by decide) rfl (by decide) c).trans hce)
                                                              have hpk := (wx_I hSb 23 (by decide) rfl 32 c (nI (mt_n t407))).trans ((hsc.I2 hS 23 (by decide) rfl (by decide) c).trans hpk)
                                                              have hsu := (wx_I hSb 24 (by decide) rfl 32 c (nI (mt_n t407))).trans ((hsc.I2 hS 24 (by decide) rfl (by decide) c).trans hsu)
                                                              have hrs := (hrs.tr hsc.rs).tr hr1
                                                              have hS := hr1.S hSb
                                                              generalize jv_wI h403 x 32 (nI (mt_n t407)) = h414 at hran hE hV hEC hVC hce hpk hsu hrs hS ⊢
                                                              have hsc : sc x q h414 h414 := sc.rf
                                                              refine jv_iload_n (q := 461) G 8 dX8_met_460 rfl rfl rfl ?_
                                                              refine jv_aload_n (q := 462) G 6 dX8_met_461 rfl rfl rfl ?_
                                                              refine jv_getQ (q := 465) G dX8_met_462 fl_X8_68 rfl (hsc.S hS).1 (rf_p22 (hsc.S hS)) rfl ?_
                                                              refine jv_iload_n (q := 466) G 7 dX8_met_465 rfl rfl rfl ?_
                                                              refine jv_iald (q := 467) G dX8_met_466 (rf_a22 (hsc.S hS)) rfl (by omega) (by decide) ((hsc.I2 hS 22 (by decide) rfl (by decide) c).trans hce) rfl ?_
                                                              refine jv_icmp_eqN (q := 470) (tgt := 495) G dX8_met_467 (by decide) rfl (by omega) (by omega) (fun c415 => ?_) (fun c415 => ?_)
                                                              · refine jv_iconst (q := 496) (v := nI 0) G dX8_met_495 (by decide) rfl ?_
                                                                refine jv_iret G hr dX8_met_496 (Nat.le_of_ble_eq_true rfl) (Nat.le_of_ble_eq_true rfl) ?_
                                                                have hz : (m_met (decide (e = ec)) tsC ts pk su 2 ty n s rc) = (0, some (mt_n t407)) := by
                                                                  unfold m_met m_isC m_bd
                                                                  simp only [*, if_true, if_false, Bool.false_eq_true, reduceIte, Option.map_some, decide_true, decide_false, not_true_eq_false, not_false_eq_true, and_true, true_and, and_false, false_and, or_true, true_or, or_false, false_or, Bool.or_true, Bool.or_false, Bool.true_or, Bool.false_or, reduceCtorEq] <;> first | rfl | (simp_all; done) | (split <;> simp_all)
                                                                exact ⟨by rw [hz], hrs.tr hsc.rs, by rw [hz]; exact (hsc.x hS 32).trans hran⟩
                                                              · refine jv_aload_n (q := 471) G 6 dX8_met_470 rfl rfl rfl ?_
                                                                refine jv_getI (q := 474) G dX8_met_471 fl_X8_192 rfl (hsc.S hS).1 ((hsc.x hS 32).trans hran) rfl ?_
                                                                refine jv_aload_n (q := 475) G 6 dX8_met_474 rfl rfl rfl ?_
                                                                refine jv_iload_n (q := 476) G 7 dX8_met_475 rfl rfl rfl ?_
                                                                refine jv_iload (q := 478) G 10 dX8_met_476 rfl rfl ?_
                                                                refine jv_iload (q := 480) G 11 dX8_met_478 rfl rfl ?_
                                                                refine jv_iload (q := 482) G 12 dX8_met_480 rfl rfl ?_
                                                                refine jv_iload (q := 484) G 13 dX8_met_482 rfl rfl ?_
                                                                refine jv_callV (q := 487) (As := [.int (nI c), .int ty, .int n, .int s, .int rc]) (rest := [.int (nI (mt_n t407))]) G Z ml_X8_202 (r_ownRun hlt hsc hS hc hec hEC hVC hce hgC) (hsc.S hS).1 dX8_met_484 rfl (by decide) (by decide) (by decide) (by decide) (Nat.le_of_ble_eq_true rfl) rfl rfl (fun v417 h416 y418 => ?_) (fun _ _ hx => hx.elim)
                                                                obtain ⟨rfl, hsc⟩ := y418
                                                                show jv_V E 14 h416 0 0 (jv_Q E (fun v h' => v = some (.int (nI (m_met (decide (e = ec)) tsC ts pk su 2 ty n s rc).1)) ∧ rs x q h h' ∧ jv_I h' x 32 = jv_oN (m_met (decide (e = ec)) tsC ts pk su 2 ty n s rc).2) jv_no 0 0) 487 [(13, .int (nI (6 * (10 * e + p406.1) + p406.2))), (12, .int (nI (6 * (10 * e + p389.1) + p389.2))), (11, .int (nI (10 * e + k371))), (10, .int (nI 1)), (9, .int (-1)), (8, .int (nI (10 * e + k219))), (0, .ref x), (1, .int (nI c)), (2, .int (nI e)), (3, .int (nI 2)), (4, .int ty), (5, .int n), (6, .int s), (7, .int rc)] [.int (jv_oN (m_orn tsC ty n s rc)), .int (nI (mt_n t407))]
                                                                refine jv_icmp_eq (q := 490) (tgt := 495) G dX8_met_487 (by decide) rfl (fun c419 => ?_) (fun c419 => ?_)
                                                                · refine jv_iconst (q := 496) (v := nI 0) G dX8_met_495 (by decide) rfl ?_
                                                                  refine jv_iret G hr dX8_met_496 (Nat.le_of_ble_eq_true rfl) (Nat.le_of_ble_eq_true rfl) ?_
                                                                  have hz : (m_met (decide (e = ec)) tsC ts pk su 2 ty n s rc) = (0, some (mt_n t407)) := by
                                                                    unfold m_met m_isC m_bd
                                                                    simp only [*, if_true, if_false, Bool.false_eq_true, reduceIte, Option.map_some, decide_true, decide_false, not_true_eq_false, not_false_eq_true, and_true, true_and, and_false, false_and, or_true, true_or, or_false, false_or, Bool.or_true, Bool.or_false, Bool.true_or, Bool.false_or, reduceCtorEq] <;> first | rfl | (simp_all; done) | (split <;> simp_all)
                                                                  exact ⟨by rw [hz], hrs.tr hsc.rs, by rw [hz]; exact (hsc.x hS 32).trans hran⟩
                                                                · refine jv_bipush (q := 492) (v := nI 8) G dX8_met_490 (by decide) rfl ?_
                                                                  refine jv_goto (q := 496) G dX8_met_492 (by decide) ?_
                                                                  refine jv_iret G hr dX8_met_496 (Nat.le_of_ble_eq_true rfl) (Nat.le_of_ble_eq_true rfl) ?_
                                                                  have hz : (m_met (decide (e = ec)) tsC ts pk su 2 ty n s rc) = (8, some (mt_n t407)) := by
                                                                    unfold m_met m_isC m_bd
                                                                    simp only [*, if_true, if_false, Bool.false_eq_true, reduceIte, Option.map_some, decide_true, decide_false, not_true_eq_false, not_false_eq_true, and_true, true_and, and_false, false_and, or_true, true_or, or_false, false_or, Bool.or_true, Bool.or_false, Bool.true_or, Bool.false_or, reduceCtorEq] <;> first | rfl | (simp_all; done) | (split <;> simp_all)
                                                                  exact ⟨by rw [hz], hrs.tr hsc.rs, by rw [hz]; exact (hsc.x hS 32).trans hran⟩
                                                            · omega
                                                          · refine jv_iconst (q := 427) (v := nI 5) G dX8_met_426 (by decide) rfl ?_
                                                            refine jv_iret G hr dX8_met_427 (Nat.le_of_ble_eq_true rfl) (Nat.le_of_ble_eq_true rfl) ?_
                                                            have hz : (m_met (decide (e = ec)) tsC ts pk su 2 ty n s rc) = (5, none) := by
                                                              unfold m_met m_isC m_bd
                                                              simp only [*, if_true, if_false, Bool.false_eq_true, reduceIte, Option.map_some, decide_true, decide_false, not_true_eq_false, not_false_eq_true, and_true, true_and, and_false, false_and, or_true, true_or, or_false, false_or, Bool.or_true, Bool.or_false, Bool.true_or, Bool.false_or, reduceCtorEq] <;> first | rfl | (simp_all; done) | (split <;> simp_all)
                                                            exact ⟨by rw [hz], hrs.tr hsc.rs, by rw [hz]; exact (hsc.x hS 32).trans hran⟩
                                                    · refine jv_aload_n (q := 385) G 5 dX8_met_384 rfl rfl rfl ?_
                                                      refine jv_iload_n (q := 386) G 7 dX8_met_385 rfl rfl rfl ?_
                                                      refine jv_iload (q := 388) G 9 dX8_met_386 rfl rfl ?_
                                                      refine jv_iload (q := 390) G 12 dX8_met_388 rfl rfl ?_
                                                      refine jv_callV_I (q := 393) (h1 := h386) (As := [.int (nI e), .int ty, .int rc]) (rest := []) (ce' := 0) (sl' := 0) (r := jv_bI (m_isA ts ty rc)) G Z ml_X8_167 (r_isAbove hlt hsc hS he hV) (hsc.S hS).1 dX8_met_390 rfl (by decide) (by decide) (by decide) (by decide) (Nat.le_of_ble_eq_true rfl) rfl rfl rfl rfl ?_
                                                      refine jv_if_neB (q := 396) (tgt := 399) G dX8_met_393 (by decide) rfl (fun c420 => ?_) (fun c420 => ?_)
                                                      · refine jv_aload_n (q := 400) G 5 dX8_met_399 rfl rfl rfl ?_
                                                        refine jv_iload_n (q := 401) G 7 dX8_met_400 rfl rfl rfl ?_
                                                        refine jv_iload (q := 403) G 0 dX8_met_401 rfl rfl ?_
                                                        refine jv_iload (q := 405) G 1 dX8_met_403 rfl rfl ?_
                                                        refine jv_callV (q := 408) (As := [.int (nI e), .int (nI (6 * (10 * e + p389.1) + p389.2)), .int (nI (10 * e + k371))]) (rest := []) G Z ml_X8_189 (r_selected (d := 11) hlt hsc hS he hE hV ht390 hm391 ht372 (hg k371 (by omega))) (hsc.S hS).1 dX8_met_405 rfl (by decide) (by decide) (by decide) (by decide) (Nat.le_of_ble_eq_true rfl) rfl rfl (fun v422 h421 y423 => ?_) (fun _ _ hx => hx.elim)
                                                        obtain ⟨rfl, hsc⟩ := y423
                                                        show jv_V E 14 h421 0 0 (jv_Q E (fun v h' => v = some (.int (nI (m_met (decide (e = ec)) tsC ts pk su 2 ty n s rc).1)) ∧ rs x q h h' ∧ jv_I h' x 32 = jv_oN (m_met (decide (e = ec)) tsC ts pk su 2 ty n s rc).2) jv_no 0 0) 408 [(12, .int (nI (6 * (10 * e + p389.1) + p389.2))), (11, .int (nI (10 * e + k371))), (10, .int (nI 1)), (9, .int (-1)), (8, .int (nI (10 * e + k219))), (0, .ref x), (1, .int (nI c)), (2, .int (nI e)), (3, .int (nI 2)), (4, .int ty), (5, .int n), (6, .int s), (7, .int rc)] [.int (ffE e (m_sl ts 11 t390 m391 p389.1 p389.2 k371))]
                                                        rcases Option.eq_none_or_eq_some (m_sl ts 11 t390 m391 p389.1 p389.2 k371) with hp427 | ⟨p424, hp427⟩
                                                        · refine jv_topI (y := (-1)) (by rw [hp427]; rfl) ?_
                                                          refine jv_istore (q := 410) (lo' := [(13, .int (-1)), (12, .int (nI (6 * (10 * e + p389.1) + p389.2))), (11, .int (nI (10 * e + k371))), (10, .int (nI 1)), (9, .int (-1)), (8, .int (nI (10 * e + k219))), (0, .ref x), (1, .int (nI c)), (2, .int (nI e)), (3, .int (nI 2)), (4, .int ty), (5, .int n), (6, .int s), (7, .int rc)]) G dX8_met_408 (by decide) rfl rfl ?_
                                                          refine jv_iload (q := 412) G 0 dX8_met_410 rfl rfl ?_
                                                          refine jv_iconst (q := 413) (v := (-1)) G dX8_met_412 (by decide) rfl ?_
                                                          refine jv_icmp_eq (q := 416) (tgt := 426) G dX8_met_413 (by decide) rfl (fun c428 => ?_) (fun c428 => ?_)
                                                          · refine jv_iconst (q := 427) (v := nI 5) G dX8_met_426 (by decide) rfl ?_
                                                            refine jv_iret G hr dX8_met_427 (Nat.le_of_ble_eq_true rfl) (Nat.le_of_ble_eq_true rfl) ?_
                                                            have hz : (m_met (decide (e = ec)) tsC ts pk su 2 ty n s rc) = (5, none) := by
                                                              unfold m_met m_isC m_bd
                                                              simp only [*, if_true, if_false, Bool.false_eq_true, reduceIte, Option.map_some, decide_true, decide_false, not_true_eq_false, not_false_eq_true, and_true, true_and, and_false, false_and, or_true, true_or, or_false, false_or, Bool.or_true, Bool.or_false, Bool.true_or, Bool.false_or, reduceCtorEq] <;> first | rfl | (simp_all; done) | (split <;> simp_all)
                                                            exact ⟨by rw [hz], hrs.tr hsc.rs, by rw [hz]; exact (hsc.x hS 32).trans hran⟩
                                                          · exact absurd rfl c428
                                                        · refine jv_topI (y := nI (6 * (10 * e + p424.1) + p424.2)) (by rw [hp427]; rfl) ?_
                                                          obtain ⟨t425, ht425, m426, hm426⟩ := m_sl_mem ht390 hm391 hp427
                                                          have Tt425 := (hE.2.2 p424.1 t425 ht425).1
                                                          have Ot425 := (hE.2.2 p424.1 t425 ht425).2
                                                          have Lt425 := hE.2.1
                                                          have lt425 := jv_ltGet ht425
                                                          have Mm426 := rt_m Tt425 hm426
                                                          have Om426 := Ot425.2.2.2.2.2.2 m426 (List.mem_of_getElem? hm426)
                                                          have Lm426 := Ot425.2.2.2.2.2.1
                                                          have lm426 := jv_ltGet hm426
                                                          have Bm426n := Om426.1; have Bm426s := Om426.2.1; have Bm426a := Om426.2.2.1; have Bt425n := Ot425.1; have Bt425k := Ot425.2.1
                                                          refine jv_istore (q := 410) (lo' := [(13, .int (nI (6 * (10 * e + p424.1) + p424.2))), (12, .int (nI (6 * (10 * e + p389.1) + p389.2))), (11, .int (nI (10 * e + k371))), (10, .int (nI 1)), (9, .int (-1)), (8, .int (nI (10 * e + k219))), (0, .ref x), (1, .int (nI c)), (2, .int (nI e)), (3, .int (nI 2)), (4, .int ty), (5, .int n), (6, .int s), (7, .int rc)]) G dX8_met_408 (by decide) rfl rfl ?_
                                                          refine jv_iload (q := 412) G 0 dX8_met_410 rfl rfl ?_
                                                          refine jv_iconst (q := 413) (v := (-1)) G dX8_met_412 (by decide) rfl ?_
                                                          refine jv_icmp_eq (q := 416) (tgt := 426) G dX8_met_413 (by decide) rfl (fun c429 => ?_) (fun c429 => ?_)
                                                          · exact absurd c429 (jv_nI_m1 (by omega))
                                                          · refine jv_aload_n (q := 417) G 6 dX8_met_416 rfl rfl rfl ?_
                                                            refine jv_getQ (q := 420) G dX8_met_417 fl_X8_59 rfl (hsc.S hS).1 (rf_p18 (hsc.S hS)) rfl ?_
                                                            refine jv_iload (q := 422) G 0 dX8_met_420 rfl rfl ?_
                                                            refine jv_iald (q := 423) G dX8_met_422 (rf_a18 (hsc.S hS)) rfl (by omega) (by decide) (hsc.M hS Mm426).2.2.2.2.2.1 rfl ?_
                                                            refine jv_if_ge (q := 426) (tgt := 428) G dX8_met_423 (by decide) rfl (fun c430 => ?_) (fun c430 => ?_)
                                                            · refine jv_iload_n (q := 429) G 9 dX8_met_428 rfl rfl rfl ?_
                                                              refine jv_iconst (q := 430) (v := nI 4) G dX8_met_429 (by decide) rfl ?_
                                                              refine jv_icmp_neN (q := 433) (tgt := 446) G dX8_met_430 (by decide) rfl (by omega) (by omega) (fun c431 => ?_) (fun c431 => ?_)
                                                              · refine jv_aload_n (q := 447) G 6 dX8_met_446 rfl rfl rfl ?_
                                                                refine jv_aload_n (q := 448) G 6 dX8_met_447 rfl rfl rfl ?_
                                                                refine jv_getQ (q := 451) G dX8_met_448 fl_X8_17 rfl (hsc.S hS).1 (rf_p4 (hsc.S hS)) rfl ?_
                                                                refine jv_iload (q := 453) G 0 dX8_met_451 rfl rfl ?_
                                                                refine jv_callS_I (q := 456) (h1 := h421) (As := [.int (nI (6 * (10 * e + p424.1) + p424.2))]) (rest := [.ref (q 4), .ref x]) (ce' := 0) (sl' := 0) (r := nI ((6 * (10 * e + p424.1) + p424.2) / 6)) G Z ml_X8_183 (r_typeOf hlt (by omega)) dX8_met_453 rfl (by decide) (by decide) (by decide) (by decide) (Nat.le_of_ble_eq_true rfl) rfl rfl rfl rfl ?_
                                                                refine jv_topI (y := nI (10 * e + p424.1)) (congrArg nI (by omega)) ?_
                                                                refine jv_iald (q := 457) G dX8_met_456 (rf_a4 (hsc.S hS)) rfl (by omega) (by decide) (rt_4 (hsc.T hS Tt425)) rfl ?_
                                                                refine jv_putI (q := 460) G dX8_met_457 fl_X8_192 rfl (hsc.S hS).1 rfl ?_
                                                                have hr1 : rs x q h421 (jv_wI h421 x 32 (nI (mt_n t425))) := rs.rf.wI (nI (mt_n t425)) (Or.inl ⟨rfl, Or.inr (Or.inl rfl)⟩)
                                                                have hran : jv_I (jv_wI h421 x 32 (nI (mt_n t425))) x 32 = (nI (mt_n t425)) := jv_I_self _ _ _ _
                                                                have hSb := hsc.S hS
                                                                have hE := hr1.E hSb (hsc.E hS hE)
                                                                have hV := hr1.V hSb (hsc.V hS hV)
                                                                have hEC := hr1.E hSb (hsc.E hS hEC)
                                                                have hVC := hr1.V hSb (hsc.V hS hVC)
                                                                have hce := (wx_I hSb 22 (by decide) rfl 32 c (nI (mt_n t425))).trans ((hsc.I2 hS 22 (by decide) rfl (by decide) c).trans hce)
                                                                have hpk := (wx_I hSb 23 (by decide) rfl 32 c (nI (mt_n t425))).trans ((hsc.I2 hS 23 (by decide) rfl (by decide) c).trans hpk)
                                                                have hsu := (wx_I hSb 24 (by decide) rfl 32 c (nI (mt_n t425))).trans ((hsc.I2 hS 24 (by decide) rfl (by decide) c).trans hsu)
                                                                have hrs := (hrs.tr hsc.rs).tr hr1
                                                                have hS := hr1.S hSb
                                                                generalize jv_wI h421 x 32 (nI (mt_n t425)) = h432 at hran hE hV hEC hVC hce hpk hsu hrs hS ⊢
                                                                have hsc : sc x q h432 h432 := sc.rf
                                                                refine jv_iload_n (q := 461) G 8 dX8_met_460 rfl rfl rfl ?_
                                                                refine jv_aload_n (q := 462) G 6 dX8_met_461 rfl rfl rfl ?_
                                                                refine jv_getQ (q := 465) G dX8_met_462 fl_X8_68 rfl (hsc.S hS).1 (rf_p22 (hsc.S hS)) rfl ?_
                                                                refine jv_iload_n (q := 466) G 7 dX8_met_465 rfl rfl rfl ?_
                                                                refine jv_iald (q := 467) G dX8_met_466 (rf_a22 (hsc.S hS)) rfl (by omega) (by decide) ((hsc.I2 hS 22 (by decide) rfl (by decide) c).trans hce) rfl ?_
                                                                refine jv_icmp_eqN (q := 470) (tgt := 495) G dX8_met_467 (by decide) rfl (by omega) (by omega) (fun c433 => ?_) (fun c433 => ?_)
                                                                · refine jv_iconst (q := 496) (v := nI 0) G dX8_met_495 (by decide) rfl ?_
                                                                  refine jv_iret G hr dX8_met_496 (Nat.le_of_ble_eq_true rfl) (Nat.le_of_ble_eq_true rfl) ?_
                                                                  have hz : (m_met (decide (e = ec)) tsC ts pk su 2 ty n s rc) = (0, some (mt_n t425)) := by
                                                                    unfold m_met m_isC m_bd
                                                                    simp only [*, if_true, if_false, Bool.false_eq_true, reduceIte, Option.map_some, decide_true, decide_false, not_true_eq_false, not_false_eq_true, and_true, true_and, and_false, false_and, or_true, true_or, or_false, false_or, Bool.or_true, Bool.or_false, Bool.true_or, Bool.false_or, reduceCtorEq] <;> first | rfl | (simp_all; done) | (split <;> simp_all)
                                                                  exact ⟨by rw [hz], hrs.tr hsc.rs, by rw [hz]; exact (hsc.x hS 32).trans hran⟩
                                                                · refine jv_aload_n (q := 471) G 6 dX8_met_470 rfl rfl rfl ?_
                                                                  refine jv_getI (q := 474) G dX8_met_471 fl_X8_192 rfl (hsc.S hS).1 ((hsc.x hS 32).trans hran) rfl ?_
                                                                  refine jv_aload_n (q := 475) G 6 dX8_met_474 rfl rfl rfl ?_
                                                                  refine jv_iload_n (q := 476) G 7 dX8_met_475 rfl rfl rfl ?_
                                                                  refine jv_iload (q := 478) G 10 dX8_met_476 rfl rfl ?_
                                                                  refine jv_iload (q := 480) G 11 dX8_met_478 rfl rfl ?_
                                                                  refine jv_iload (q := 482) G 12 dX8_met_480 rfl rfl ?_
                                                                  refine jv_iload (q := 484) G 13 dX8_met_482 rfl rfl ?_
                                                                  refine jv_callV (q := 487) (As := [.int (nI c), .int ty, .int n, .int s, .int rc]) (rest := [.int (nI (mt_n t425))]) G Z ml_X8_202 (r_ownRun hlt hsc hS hc hec hEC hVC hce hgC) (hsc.S hS).1 dX8_met_484 rfl (by decide) (by decide) (by decide) (by decide) (Nat.le_of_ble_eq_true rfl) rfl rfl (fun v435 h434 y436 => ?_) (fun _ _ hx => hx.elim)
                                                                  obtain ⟨rfl, hsc⟩ := y436
                                                                  show jv_V E 14 h434 0 0 (jv_Q E (fun v h' => v = some (.int (nI (m_met (decide (e = ec)) tsC ts pk su 2 ty n s rc).1)) ∧ rs x q h h' ∧ jv_I h' x 32 = jv_oN (m_met (decide (e = ec)) tsC ts pk su 2 ty n s rc).2) jv_no 0 0) 487 [(13, .int (nI (6 * (10 * e + p424.1) + p424.2))), (12, .int (nI (6 * (10 * e + p389.1) + p389.2))), (11, .int (nI (10 * e + k371))), (10, .int (nI 1)), (9, .int (-1)), (8, .int (nI (10 * e + k219))), (0, .ref x), (1, .int (nI c)), (2, .int (nI e)), (3, .int (nI 2)), (4, .int ty), (5, .int n), (6, .int s), (7, .int rc)] [.int (jv_oN (m_orn tsC ty n s rc)), .int (nI (mt_n t425))]
                                                                  refine jv_icmp_eq (q := 490) (tgt := 495) G dX8_met_487 (by decide) rfl (fun c437 => ?_) (fun c437 => ?_)
                                                                  · refine jv_iconst (q := 496) (v := nI 0) G dX8_met_495 (by decide) rfl ?_
                                                                    refine jv_iret G hr dX8_met_496 (Nat.le_of_ble_eq_true rfl) (Nat.le_of_ble_eq_true rfl) ?_
                                                                    have hz : (m_met (decide (e = ec)) tsC ts pk su 2 ty n s rc) = (0, some (mt_n t425)) := by
                                                                      unfold m_met m_isC m_bd
                                                                      simp only [*, if_true, if_false, Bool.false_eq_true, reduceIte, Option.map_some, decide_true, decide_false, not_true_eq_false, not_false_eq_true, and_true, true_and, and_false, false_and, or_true, true_or, or_false, false_or, Bool.or_true, Bool.or_false, Bool.true_or, Bool.false_or, reduceCtorEq] <;> first | rfl | (simp_all; done) | (split <;> simp_all)
                                                                    exact ⟨by rw [hz], hrs.tr hsc.rs, by rw [hz]; exact (hsc.x hS 32).trans hran⟩
                                                                  · refine jv_bipush (q := 492) (v := nI 8) G dX8_met_490 (by decide) rfl ?_
                                                                    refine jv_goto (q := 496) G dX8_met_492 (by decide) ?_
                                                                    refine jv_iret G hr dX8_met_496 (Nat.le_of_ble_eq_true rfl) (Nat.le_of_ble_eq_true rfl) ?_
                                                                    have hz : (m_met (decide (e = ec)) tsC ts pk su 2 ty n s rc) = (8, some (mt_n t425)) := by
                                                                      unfold m_met m_isC m_bd
                                                                      simp only [*, if_true, if_false, Bool.false_eq_true, reduceIte, Option.map_some, decide_true, decide_false, not_true_eq_false, not_false_eq_true, and_true, true_and, and_false, false_and, or_true, true_or, or_false, false_or, Bool.or_true, Bool.or_false, Bool.true_or, Bool.false_or, reduceCtorEq] <;> first | rfl | (simp_all; done) | (split <;> simp_all)
                                                                    exact ⟨by rw [hz], hrs.tr hsc.rs, by rw [hz]; exact (hsc.x hS 32).trans hran⟩
                                                              · omega
                                                            · refine jv_iconst (q := 427) (v := nI 5) G dX8_met_426 (by decide) rfl ?_
                                                              refine jv_iret G hr dX8_met_427 (Nat.le_of_ble_eq_true rfl) (Nat.le_of_ble_eq_true rfl) ?_
                                                              have hz : (m_met (decide (e = ec)) tsC ts pk su 2 ty n s rc) = (5, none) := by
                                                                unfold m_met m_isC m_bd
                                                                simp only [*, if_true, if_false, Bool.false_eq_true, reduceIte, Option.map_some, decide_true, decide_false, not_true_eq_false, not_false_eq_true, and_true, true_and, and_false, false_and, or_true, true_or, or_false, false_or, Bool.or_true, Bool.or_false, Bool.true_or, Bool.false_or, reduceCtorEq] <;> first | rfl | (simp_all; done) | (split <;> simp_all)
                                                              exact ⟨by rw [hz], hrs.tr hsc.rs, by rw [hz]; exact (hsc.x hS 32).trans hran⟩
                                                      · refine jv_bipush (q := 398) (v := nI 6) G dX8_met_396 (by decide) rfl ?_
                                                        refine jv_iret G hr dX8_met_398 (Nat.le_of_ble_eq_true rfl) (Nat.le_of_ble_eq_true rfl) ?_
                                                        have hz : (m_met (decide (e = ec)) tsC ts pk su 2 ty n s rc) = (6, none) := by
                                                          unfold m_met m_isC m_bd
                                                          simp only [*, if_true, if_false, Bool.false_eq_true, reduceIte, Option.map_some, decide_true, decide_false, not_true_eq_false, not_false_eq_true, and_true, true_and, and_false, false_and, or_true, true_or, or_false, false_or, Bool.or_true, Bool.or_false, Bool.true_or, Bool.false_or, reduceCtorEq] <;> first | rfl | (simp_all; done) | (split <;> simp_all)
                                                        exact ⟨by rw [hz], hrs.tr hsc.rs, by rw [hz]; exact (hsc.x hS 32).trans hran⟩
                                              · omega
                                            · refine jv_iconst (q := 326) (v := nI 4) G dX8_met_325 (by decide) rfl ?_
                                              refine jv_iret G hr dX8_met_326 (Nat.le_of_ble_eq_true rfl) (Nat.le_of_ble_eq_true rfl) ?_
                                              have hz : (m_met (decide (e = ec)) tsC ts pk su 2 ty n s rc) = (4, none) := by
                                                unfold m_met m_isC m_bd
                                                simp only [*, if_true, if_false, Bool.false_eq_true, reduceIte, Option.map_some, decide_true, decide_false, not_true_eq_false, not_false_eq_true, and_true, true_and, and_false, false_and, or_true, true_or, or_false, false_or, Bool.or_true, Bool.or_false, Bool.true_or, Bool.false_or, reduceCtorEq] <;> first | rfl | (simp_all; done) | (split <;> simp_all)
                                              exact ⟨by rw [hz], hrs.tr hsc.rs, by rw [hz]; exact (hsc.x hS 32).trans hran⟩
                                          · omega
                                      · refine jv_iconst (q := 299) (v := nI 3) G dX8_met_298 (by decide) rfl ?_
                                        refine jv_iret G hr dX8_met_299 (Nat.le_of_ble_eq_true rfl) (Nat.le_of_ble_eq_true rfl) ?_
                                        have hz : (m_met (decide (e = ec)) tsC ts pk su 2 ty n s rc) = (3, none) := by
                                          unfold m_met m_isC m_bd
                                          simp only [*, if_true, if_false, Bool.false_eq_true, reduceIte, Option.map_some, decide_true, decide_false, not_true_eq_false, not_false_eq_true, and_true, true_and, and_false, false_and, or_true, true_or, or_false, false_or, Bool.or_true, Bool.or_false, Bool.true_or, Bool.false_or, reduceCtorEq] <;> first | rfl | (simp_all; done) | (split <;> simp_all)
                                        exact ⟨by rw [hz], hrs.tr hsc.rs, by rw [hz]; exact (hsc.x hS 32).trans hran⟩
                                    · exact absurd c394 (jv_nI_m1 (by omega))
                                · omega
                              · omega
                            · omega
                      · refine jv_aload_n (q := 176) G 4 dX8_met_175 rfl rfl rfl ?_
                        refine jv_getQ (q := 179) G dX8_met_176 fl_X8_26 rfl (hsc.S hS).1 (rf_p7 (hsc.S hS)) rfl ?_
                        refine jv_iload (q := 181) G 3 dX8_met_179 rfl rfl ?_
                        refine jv_iald (q := 182) G dX8_met_181 (rf_a7 (hsc.S hS)) rfl (by omega) (by decide) (rt_7 (hsc.T hS Tt220)) rfl ?_
                        refine jv_aload_n (q := 183) G 4 dX8_met_182 rfl rfl rfl ?_
                        refine jv_getQ (q := 186) G dX8_met_183 fl_X8_71 rfl (hsc.S hS).1 (rf_p23 (hsc.S hS)) rfl ?_
                        refine jv_iload_n (q := 187) G 5 dX8_met_186 rfl rfl rfl ?_
                        refine jv_iald (q := 188) G dX8_met_187 (rf_a23 (hsc.S hS)) rfl (by omega) (by decide) rfl rfl ?_
                        refine jv_icmp_eq (q := 191) (tgt := 193) G dX8_met_188 (by decide) rfl (fun c438 => ?_) (fun c438 => ?_)
                        · refine jv_iload_n (q := 194) G 7 dX8_met_193 rfl rfl rfl ?_
                          refine jv_iconst (q := 195) (v := nI 2) G dX8_met_194 (by decide) rfl ?_
                          refine jv_icmp_neN (q := 198) (tgt := 208) G dX8_met_195 (by decide) rfl (by omega) (by omega) (fun c439 => ?_) (fun c439 => ?_)
                          · omega
                          · refine jv_aload_n (q := 199) G 4 dX8_met_198 rfl rfl rfl ?_
                            refine jv_getQ (q := 202) G dX8_met_199 fl_X8_20 rfl (hsc.S hS).1 (rf_p5 (hsc.S hS)) rfl ?_
                            refine jv_iload (q := 204) G 3 dX8_met_202 rfl rfl ?_
                            refine jv_zald (q := 205) G dX8_met_204 (rf_a5 (hsc.S hS)) rfl (by omega) (by decide) (rt_5 (hsc.T hS Tt220)) rfl ?_
                            refine jv_if_neB (q := 208) (tgt := 223) G dX8_met_205 (by decide) rfl (fun c440 => ?_) (fun c440 => ?_)
                            · refine jv_bipush (q := 225) (v := nI 6) G dX8_met_223 (by decide) rfl ?_
                              refine jv_iret G hr dX8_met_225 (Nat.le_of_ble_eq_true rfl) (Nat.le_of_ble_eq_true rfl) ?_
                              have hz : (m_met (decide (e = ec)) tsC ts pk su 2 ty n s rc) = (6, none) := by
                                unfold m_met m_isC m_bd
                                simp only [*, if_true, if_false, Bool.false_eq_true, reduceIte, Option.map_some, decide_true, decide_false, not_true_eq_false, not_false_eq_true, and_true, true_and, and_false, false_and, or_true, true_or, or_false, false_or, Bool.or_true, Bool.or_false, Bool.true_or, Bool.false_or, reduceCtorEq] <;> first | rfl | (simp_all; done) | (split <;> simp_all)
                              exact ⟨by rw [hz], hrs.tr hsc.rs, by rw [hz]; exact (hsc.x hS 32).trans hran⟩
                            · refine jv_iload_n (q := 209) G 7 dX8_met_208 rfl rfl rfl ?_
                              refine jv_iconst (q := 210) (v := nI 4) G dX8_met_209 (by decide) rfl ?_
                              refine jv_icmp_neN (q := 213) (tgt := 226) G dX8_met_210 (by decide) rfl (by omega) (by omega) (fun c441 => ?_) (fun c441 => ?_)
                              · refine jv_iload_n (q := 227) G 7 dX8_met_226 rfl rfl rfl ?_
                                refine jv_iconst (q := 228) (v := nI 5) G dX8_met_227 (by decide) rfl ?_
                                refine jv_icmp_neN (q := 231) (tgt := 247) G dX8_met_228 (by decide) rfl (by omega) (by omega) (fun c442 => ?_) (fun c442 => ?_)
                                · refine jv_iload_n (q := 248) G 7 dX8_met_247 rfl rfl rfl ?_
                                  refine jv_iconst (q := 249) (v := nI 2) G dX8_met_248 (by decide) rfl ?_
                                  refine jv_icmp_geN (q := 252) (tgt := 266) G dX8_met_249 (by decide) rfl (by omega) (by omega) (fun c443 => ?_) (fun c443 => ?_)
                                  · refine jv_aload_n (q := 267) G 4 dX8_met_266 rfl rfl rfl ?_
                                    refine jv_iload_n (q := 268) G 6 dX8_met_267 rfl rfl rfl ?_
                                    refine jv_iload (q := 270) G 3 dX8_met_268 rfl rfl ?_
                                    refine jv_iload (q := 272) G 9 dX8_met_270 rfl rfl ?_
                                    refine jv_iload (q := 274) G 10 dX8_met_272 rfl rfl ?_
                                    refine jv_callV (q := 277) (As := [.int (nI e), .int (nI (10 * e + k219)), .int n, .int s]) (rest := []) G Z ml_X8_186 (r_findMethod (d := 11) hlt hsc hS he hE hV ht220 (hg k219 (by omega))) (hsc.S hS).1 dX8_met_274 rfl (by decide) (by decide) (by decide) (by decide) (Nat.le_of_ble_eq_true rfl) rfl rfl (fun v445 h444 y446 => ?_) (fun _ _ hx => hx.elim)
                                    obtain ⟨rfl, hsc⟩ := y446
                                    show jv_V E 14 h444 0 0 (jv_Q E (fun v h' => v = some (.int (nI (m_met (decide (e = ec)) tsC ts pk su 2 ty n s rc).1)) ∧ rs x q h h' ∧ jv_I h' x 32 = jv_oN (m_met (decide (e = ec)) tsC ts pk su 2 ty n s rc).2) jv_no 0 0) 277 [(11, .int (nI (10 * e + k371))), (10, .int (nI 1)), (9, .int (-1)), (8, .int (nI (10 * e + k219))), (0, .ref x), (1, .int (nI c)), (2, .int (nI e)), (3, .int (nI 2)), (4, .int ty), (5, .int n), (6, .int s), (7, .int rc)] [.int (ffE e (m_fm ts 11 k219 n s))]
                                    rcases Option.eq_none_or_eq_some (m_fm ts 11 k219 n s) with hp450 | ⟨p447, hp450⟩
                                    · refine jv_topI (y := (-1)) (by rw [hp450]; rfl) ?_
                                      refine jv_istore (q := 279) (lo' := [(12, .int (-1)), (11, .int (nI (10 * e + k371))), (10, .int (nI 1)), (9, .int (-1)), (8, .int (nI (10 * e + k219))), (0, .ref x), (1, .int (nI c)), (2, .int (nI e)), (3, .int (nI 2)), (4, .int ty), (5, .int n), (6, .int s), (7, .int rc)]) G dX8_met_277 (by decide) rfl rfl ?_
                                      refine jv_iload (q := 281) G 0 dX8_met_279 rfl rfl ?_
                                      refine jv_iconst (q := 282) (v := (-1)) G dX8_met_281 (by decide) rfl ?_
                                      refine jv_icmp_ne (q := 285) (tgt := 287) G dX8_met_282 (by decide) rfl (fun c451 => ?_) (fun c451 => ?_)
                                      · exact absurd rfl c451
                                      · refine jv_iconst (q := 286) (v := nI 2) G dX8_met_285 (by decide) rfl ?_
                                        refine jv_iret G hr dX8_met_286 (Nat.le_of_ble_eq_true rfl) (Nat.le_of_ble_eq_true rfl) ?_
                                        have hz : (m_met (decide (e = ec)) tsC ts pk su 2 ty n s rc) = (2, none) := by
                                          unfold m_met m_isC m_bd
                                          simp only [*, if_true, if_false, Bool.false_eq_true, reduceIte, Option.map_some, decide_true, decide_false, not_true_eq_false, not_false_eq_true, and_true, true_and, and_false, false_and, or_true, true_or, or_false, false_or, Bool.or_true, Bool.or_false, Bool.true_or, Bool.false_or, reduceCtorEq] <;> first | rfl | (simp_all; done) | (split <;> simp_all)
                                        exact ⟨by rw [hz], hrs.tr hsc.rs, by rw [hz]; exact (hsc.x hS 32).trans hran⟩
                                    · refine jv_topI (y := nI (6 * (10 * e + p447.1) + p447.2)) (by rw [hp450]; rfl) ?_
                                      obtain ⟨t448, ht448, m449, hm449⟩ := m_fm_mem hp450
                                      have Tt448 := (hE.2.2 p447.1 t448 ht448).1
                                      have Ot448 := (hE.2.2 p447.1 t448 ht448).2
                                      have Lt448 := hE.2.1
                                      have lt448 := jv_ltGet ht448
                                      have Mm449 := rt_m Tt448 hm449
                                      have Om449 := Ot448.2.2.2.2.2.2 m449 (List.mem_of_getElem? hm449)
                                      have Lm449 := Ot448.2.2.2.2.2.1
                                      have lm449 := jv_ltGet hm449
                                      have Bm449n := Om449.1; have Bm449s := Om449.2.1; have Bm449a := Om449.2.2.1; have Bt448n := Ot448.1; have Bt448k := Ot448.2.1
                                      refine jv_istore (q := 279) (lo' := [(12, .int (nI (6 * (10 * e + p447.1) + p447.2))), (11, .int (nI (10 * e + k371))), (10, .int (nI 1)), (9, .int (-1)), (8, .int (nI (10 * e + k219))), (0, .ref x), (1, .int (nI c)), (2, .int (nI e)), (3, .int (nI 2)), (4, .int ty), (5, .int n), (6, .int s), (7, .int rc)]) G dX8_met_277 (by decide) rfl rfl ?_
                                      refine jv_iload (q := 281) G 0 dX8_met_279 rfl rfl ?_
                                      refine jv_iconst (q := 282) (v := (-1)) G dX8_met_281 (by decide) rfl ?_
                                      refine jv_icmp_ne (q := 285) (tgt := 287) G dX8_met_282 (by decide) rfl (fun c452 => ?_) (fun c452 => ?_)
                                      · refine jv_aload_n (q := 288) G 5 dX8_met_287 rfl rfl rfl ?_
                                        refine jv_iload_n (q := 289) G 6 dX8_met_288 rfl rfl rfl ?_
                                        refine jv_iload_n (q := 290) G 7 dX8_met_289 rfl rfl rfl ?_
                                        refine jv_iload (q := 292) G 0 dX8_met_290 rfl rfl ?_
                                        refine jv_callV_I (q := 295) (h1 := h444) (As := [.int (nI c), .int (nI e), .int (nI (6 * (10 * e + p447.1) + p447.2))]) (rest := []) (ce' := 0) (sl' := 0) (r := jv_bI (m_mr ts pk su t448 m449)) G Z ml_X8_199 (r_mayReach hlt hsc hS hc he hE hV ht448 hm449 hpk hpk5 hsu hsu16) (hsc.S hS).1 dX8_met_292 rfl (by decide) (by decide) (by decide) (by decide) (Nat.le_of_ble_eq_true rfl) rfl rfl rfl rfl ?_
                                        refine jv_if_neB (q := 298) (tgt := 300) G dX8_met_295 (by decide) rfl (fun c453 => ?_) (fun c453 => ?_)
                                        · refine jv_aload_n (q := 301) G 5 dX8_met_300 rfl rfl rfl ?_
                                          refine jv_getQ (q := 304) G dX8_met_301 fl_X8_56 rfl (hsc.S hS).1 (rf_p17 (hsc.S hS)) rfl ?_
                                          refine jv_iload (q := 306) G 0 dX8_met_304 rfl rfl ?_
                                          refine jv_zald (q := 307) G dX8_met_306 (rf_a17 (hsc.S hS)) rfl (by omega) (by decide) (hsc.M hS Mm449).2.2.2.2.1 rfl ?_
                                          refine jv_iload_n (q := 308) G 8 dX8_met_307 rfl rfl rfl ?_
                                          refine jv_iconst (q := 309) (v := nI 1) G dX8_met_308 (by decide) rfl ?_
                                          refine jv_icmp_eqN (q := 312) (tgt := 317) G dX8_met_309 (by decide) rfl (by omega) (by omega) (fun c454 => ?_) (fun c454 => ?_)
                                          · omega
                                          · refine jv_iload_n (q := 313) G 8 dX8_met_312 rfl rfl rfl ?_
                                            refine jv_iconst (q := 314) (v := nI 3) G dX8_met_313 (by decide) rfl ?_
                                            refine jv_icmp_neN (q := 317) (tgt := 321) G dX8_met_314 (by decide) rfl (by omega) (by omega) (fun c455 => ?_) (fun c455 => ?_)
                                            · refine jv_iconst (q := 322) (v := nI 0) G dX8_met_321 (by decide) rfl ?_
                                              refine jv_icmp_eq (q := 325) (tgt := 327) G dX8_met_322 (by decide) rfl (fun c456 => ?_) (fun c456 => ?_)
                                              · refine jv_iload (q := 329) G 2 dX8_met_327 rfl rfl ?_
                                                refine jv_if_neN (q := 332) (tgt := 357) G dX8_met_329 (by decide) rfl (by omega) (fun c457 => ?_) (fun c457 => ?_)
                                                · refine jv_aload_n (q := 358) G 5 dX8_met_357 rfl rfl rfl ?_
                                                  refine jv_getQ (q := 361) G dX8_met_358 fl_X8_20 rfl (hsc.S hS).1 (rf_p5 (hsc.S hS)) rfl ?_
                                                  refine jv_iload (q := 363) G 1 dX8_met_361 rfl rfl ?_
                                                  refine jv_zald (q := 364) G dX8_met_363 (rf_a5 (hsc.S hS)) rfl (by omega) (by decide) (rt_5 (hsc.T hS Tt372)) rfl ?_
                                                  refine jv_if_neB (q := 367) (tgt := 396) G dX8_met_364 (by decide) rfl (fun c458 => ?_) (fun c458 => ?_)
                                                  · refine jv_bipush (q := 398) (v := nI 6) G dX8_met_396 (by decide) rfl ?_
                                                    refine jv_iret G hr dX8_met_398 (Nat.le_of_ble_eq_true rfl) (Nat.le_of_ble_eq_true rfl) ?_
                                                    have hz : (m_met (decide (e = ec)) tsC ts pk su 2 ty n s rc) = (6, none) := by
                                                      unfold m_met m_isC m_bd
                                                      simp only [*, if_true, if_false, Bool.false_eq_true, reduceIte, Option.map_some, decide_true, decide_false, not_true_eq_false, not_false_eq_true, and_true, true_and, and_false, false_and, or_true, true_or, or_false, false_or, Bool.or_true, Bool.or_false, Bool.true_or, Bool.false_or, reduceCtorEq] <;> first | rfl | (simp_all; done) | (split <;> simp_all)
                                                    exact ⟨by rw [hz], hrs.tr hsc.rs, by rw [hz]; exact (hsc.x hS 32).trans hran⟩
                                                  · refine jv_aload_n (q := 368) G 5 dX8_met_367 rfl rfl rfl ?_
                                                    refine jv_getQ (q := 371) G dX8_met_368 fl_X8_23 rfl (hsc.S hS).1 (rf_p6 (hsc.S hS)) rfl ?_
                                                    refine jv_iload (q := 373) G 1 dX8_met_371 rfl rfl ?_
                                                    refine jv_zald (q := 374) G dX8_met_373 (rf_a6 (hsc.S hS)) rfl (by omega) (by decide) (rt_6 (hsc.T hS Tt372)) rfl ?_
                                                    refine jv_if_neB (q := 377) (tgt := 396) G dX8_met_374 (by decide) rfl (fun c459 => ?_) (fun c459 => ?_)
                                                    · refine jv_bipush (q := 398) (v := nI 6) G dX8_met_396 (by decide) rfl ?_
                                                      refine jv_iret G hr dX8_met_398 (Nat.le_of_ble_eq_true rfl) (Nat.le_of_ble_eq_true rfl) ?_
                                                      have hz : (m_met (decide (e = ec)) tsC ts pk su 2 ty n s rc) = (6, none) := by
                                                        unfold m_met m_isC m_bd
                                                        simp only [*, if_true, if_false, Bool.false_eq_true, reduceIte, Option.map_some, decide_true, decide_false, not_true_eq_false, not_false_eq_true, and_true, true_and, and_false, false_and, or_true, true_or, or_false, false_or, Bool.or_true, Bool.or_false, Bool.true_or, Bool.false_or, reduceCtorEq] <;> first | rfl | (simp_all; done) | (split <;> simp_all)
                                                      exact ⟨by rw [hz], hrs.tr hsc.rs, by rw [hz]; exact (hsc.x hS 32).trans hran⟩
                                                    · refine jv_iload (q := 379) G 1 dX8_met_377 rfl rfl ?_
                                                      refine jv_iload (q := 381) G 4 dX8_met_379 rfl rfl ?_
                                                      refine jv_icmp_eqN (q := 384) (tgt := 399) G dX8_met_381 (by decide) rfl (by omega) (by omega) (fun c460 => ?_) (fun c460 => ?_)
                                                      · refine jv_aload_n (q := 400) G 5 dX8_met_399 rfl rfl rfl ?_
                                                        refine jv_iload_n (q := 401) G 7 dX8_met_400 rfl rfl rfl ?_
                                                        refine jv_iload (q := 403) G 0 dX8_met_401 rfl rfl ?_
                                                        refine jv_iload (q := 405) G 1 dX8_met_403 rfl rfl ?_
                                                        refine jv_callV (q := 408) (As := [.int (nI e), .int (nI (6 * (10 * e + p447.1) + p447.2)), .int (nI (10 * e + k371))]) (rest := []) G Z ml_X8_189 (r_selected (d := 11) hlt hsc hS he hE hV ht448 hm449 ht372 (hg k371 (by omega))) (hsc.S hS).1 dX8_met_405 rfl (by decide) (by decide) (by decide) (by decide) (Nat.le_of_ble_eq_true rfl) rfl rfl (fun v462 h461 y463 => ?_) (fun _ _ hx => hx.elim)
                                                        obtain ⟨rfl, hsc⟩ := y463
                                                        show jv_V E 14 h461 0 0 (jv_Q E (fun v h' => v = some (.int (nI (m_met (decide (e = ec)) tsC ts pk su 2 ty n s rc).1)) ∧ rs x q h h' ∧ jv_I h' x 32 = jv_oN (m_met (decide (e = ec)) tsC ts pk su 2 ty n s rc).2) jv_no 0 0) 408 [(12, .int (nI (6 * (10 * e + p447.1) + p447.2))), (11, .int (nI (10 * e + k371))), (10, .int (nI 1)), (9, .int (-1)), (8, .int (nI (10 * e + k219))), (0, .ref x), (1, .int (nI c)), (2, .int (nI e)), (3, .int (nI 2)), (4, .int ty), (5, .int n), (6, .int s), (7, .int rc)] [.int (ffE e (m_sl ts 11 t448 m449 p447.1 p447.2 k371))]
                                                        rcases Option.eq_none_or_eq_some (m_sl ts 11 t448 m449 p447.1 p447.2 k371) with hp467 | ⟨p464, hp467⟩
                                                        · refine jv_topI (y := (-1)) (by rw [hp467]; rfl) ?_
                                                          refine jv_istore (q := 410) (lo' := [(13, .int (-1)), (12, .int (nI (6 * (10 * e + p447.1) + p447.2))), (11, .int (nI (10 * e + k371))), (10, .int (nI 1)), (9, .int (-1)), (8, .int (nI (10 * e + k219))), (0, .ref x), (1, .int (nI c)), (2, .int (nI e)), (3, .int (nI 2)), (4, .int ty), (5, .int n), (6, .int s), (7, .int rc)]) G dX8_met_408 (by decide) rfl rfl ?_
                                                          refine jv_iload (q := 412) G 0 dX8_met_410 rfl rfl ?_
                                                          refine jv_iconst (q := 413) (v := (-1)) G dX8_met_412 (by decide) rfl ?_
                                                          refine jv_icmp_eq (q := 416) (tgt := 426) G dX8_met_413 (by decide) rfl (fun c468 => ?_) (fun c468 => ?_)
                                                          · refine jv_iconst (q := 427) (v := nI 5) G dX8_met_426 (by decide) rfl ?_
                                                            refine jv_iret G hr dX8_met_427 (Nat.le_of_ble_eq_true rfl) (Nat.le_of_ble_eq_true rfl) ?_
                                                            have hz : (m_met (decide (e = ec)) tsC ts pk su 2 ty n s rc) = (5, none) := by
                                                              unfold m_met m_isC m_bd
                                                              simp only [*, if_true, if_false, Bool.false_eq_true, reduceIte, Option.map_some, decide_true, decide_false, not_true_eq_false, not_false_eq_true, and_true, true_and, and_false, false_and, or_true, true_or, or_false, false_or, Bool.or_true, Bool.or_false, Bool.true_or, Bool.false_or, reduceCtorEq] <;> first | rfl | (simp_all; done) | (split <;> simp_all)
                                                            exact ⟨by rw [hz], hrs.tr hsc.rs, by rw [hz]; exact (hsc.x hS 32).trans hran⟩
                                                          · exact absurd rfl c468
                                                        · refine jv_topI (y := nI (6 * (10 * e + p464.1) + p464.2)) (by rw [hp467]; rfl) ?_
                                                          obtain ⟨t465, ht465, m466, hm466⟩ := m_sl_mem ht448 hm449 hp467
                                                          have Tt465 := (hE.2.2 p464.1 t465 ht465).1
                                                          have Ot465 := (hE.2.2 p464.1 t465 ht465).2
                                                          have Lt465 := hE.2.1
                                                          have lt465 := jv_ltGet ht465
                                                          have Mm466 := rt_m Tt465 hm466
                                                          have Om466 := Ot465.2.2.2.2.2.2 m466 (List.mem_of_getElem? hm466)
                                                          have Lm466 := Ot465.2.2.2.2.2.1
                                                          have lm466 := jv_ltGet hm466
                                                          have Bm466n := Om466.1; have Bm466s := Om466.2.1; have Bm466a := Om466.2.2.1; have Bt465n := Ot465.1; have Bt465k := Ot465.2.1
                                                          refine jv_istore (q := 410) (lo' := [(13, .int (nI (6 * (10 * e + p464.1) + p464.2))), (12, .int (nI (6 * (10 * e + p447.1) + p447.2))), (11, .int (nI (10 * e + k371))), (10, .int (nI 1)), (9, .int (-1)), (8, .int (nI (10 * e + k219))), (0, .ref x), (1, .int (nI c)), (2, .int (nI e)), (3, .int (nI 2)), (4, .int ty), (5, .int n), (6, .int s), (7, .int rc)]) G dX8_met_408 (by decide) rfl rfl ?_
                                                          refine jv_iload (q := 412) G 0 dX8_met_410 rfl rfl ?_
                                                          refine jv_iconst (q := 413) (v := (-1)) G dX8_met_412 (by decide) rfl ?_
                                                          refine jv_icmp_eq (q := 416) (tgt := 426) G dX8_met_413 (by decide) rfl (fun c469 => ?_) (fun c469 => ?_)
                                                          · exact absurd c469 (jv_nI_m1 (by omega))
                                                          · refine jv_aload_n (q := 417) G 6 dX8_met_416 rfl rfl rfl ?_
                                                            refine jv_getQ (q := 420) G dX8_met_417 fl_X8_59 rfl (hsc.S hS).1 (rf_p18 (hsc.S hS)) rfl ?_
                                                            refine jv_iload (q := 422) G 0 dX8_met_420 rfl rfl ?_
                                                            refine jv_iald (q := 423) G dX8_met_422 (rf_a18 (hsc.S hS)) rfl (by omega) (by decide) (hsc.M hS Mm466).2.2.2.2.2.1 rfl ?_
                                                            refine jv_if_ge (q := 426) (tgt := 428) G dX8_met_423 (by decide) rfl (fun c470 => ?_) (fun c470 => ?_)
                                                            · refine jv_iload_n (q := 429) G 9 dX8_met_428 rfl rfl rfl ?_
                                                              refine jv_iconst (q := 430) (v := nI 4) G dX8_met_429 (by decide) rfl ?_
                                                              refine jv_icmp_neN (q := 433) (tgt := 446) G dX8_met_430 (by decide) rfl (by omega) (by omega) (fun c471 => ?_) (fun c471 => ?_)
                                                              · refine jv_aload_n (q := 447) G 6 dX8_met_446 rfl rfl rfl ?_
                                                                refine jv_aload_n (q := 448) G 6 dX8_met_447 rfl rfl rfl ?_
                                                                refine jv_getQ (q := 451) G dX8_met_448 fl_X8_17 rfl (hsc.S hS).1 (rf_p4 (hsc.S hS)) rfl ?_
                                                                refine jv_iload (q := 453) G 0 dX8_met_451 rfl rfl ?_
                                                                refine jv_callS_I (q := 456) (h1 := h461) (As := [.int (nI (6 * (10 * e + p464.1) + p464.2))]) (rest := [.ref (q 4), .ref x]) (ce' := 0) (sl' := 0) (r := nI ((6 * (10 * e + p464.1) + p464.2) / 6)) G Z ml_X8_183 (r_typeOf hlt (by omega)) dX8_met_453 rfl (by decide) (by decide) (by decide) (by decide) (Nat.le_of_ble_eq_true rfl) rfl rfl rfl rfl ?_
                                                                refine jv_topI (y := nI (10 * e + p464.1)) (congrArg nI (by omega)) ?_
                                                                refine jv_iald (q := 457) G dX8_met_456 (rf_a4 (hsc.S hS)) rfl (by omega) (by decide) (rt_4 (hsc.T hS Tt465)) rfl ?_
                                                                refine jv_putI (q := 460) G dX8_met_457 fl_X8_192 rfl (hsc.S hS).1 rfl ?_
                                                                have hr1 : rs x q h461 (jv_wI h461 x 32 (nI (mt_n t465))) := rs.rf.wI (nI (mt_n t465)) (Or.inl ⟨rfl, Or.inr (Or.inl rfl)⟩)
                                                                have hran : jv_I (jv_wI h461 x 32 (nI (mt_n t465))) x 32 = (nI (mt_n t465)) := jv_I_self _ _ _ _
                                                                have hSb := hsc.S hS
                                                                have hE := hr1.E hSb (hsc.E hS hE)
                                                                have hV := hr1.V hSb (hsc.V hS hV)
                                                                have hEC := hr1.E hSb (hsc.E hS hEC)
                                                                have hVC := hr1.V hSb (hsc.V hS hVC)
                                                                have hce := (wx_I hSb 22 (by decide) rfl 32 c (nI (mt_n t465))).trans ((hsc.I2 hS 22 (by decide) rfl (by decide) c).trans hce)
                                                                have hpk := (wx_I hSb 23 (by decide) rfl 32 c (nI (mt_n t465))).trans ((hsc.I2 hS 23 (by decide) rfl (by decide) c).trans hpk)
                                                                have hsu := (wx_I hSb 24 (by decide) rfl 32 c (nI (mt_n t465))).trans ((hsc.I2 hS 24 (by decide) rfl (by decide) c).trans hsu)
                                                                have hrs := (hrs.tr hsc.rs).tr hr1
                                                                have hS := hr1.S hSb
                                                                generalize jv_wI h461 x 32 (nI (mt_n t465)) = h472 at hran hE hV hEC hVC hce hpk hsu hrs hS ⊢
                                                                have hsc : sc x q h472 h472 := sc.rf
                                                                refine jv_iload_n (q := 461) G 8 dX8_met_460 rfl rfl rfl ?_
                                                                refine jv_aload_n (q := 462) G 6 dX8_met_461 rfl rfl rfl ?_
                                                                refine jv_getQ (q := 465) G dX8_met_462 fl_X8_68 rfl (hsc.S hS).1 (rf_p22 (hsc.S hS)) rfl ?_
                                                                refine jv_iload_n (q := 466) G 7 dX8_met_465 rfl rfl rfl ?_
                                                                refine jv_iald (q := 467) G dX8_met_466 (rf_a22 (hsc.S hS)) rfl (by omega) (by decide) ((hsc.I2 hS 22 (by decide) rfl (by decide) c).trans hce) rfl ?_
                                                                refine jv_icmp_eqN (q := 470) (tgt := 495) G dX8_met_467 (by decide) rfl (by omega) (by omega) (fun c473 => ?_) (fun c473 => ?_)
                                                                · refine jv_iconst (q := 496) (v := nI 0) G dX8_met_495 (by decide) rfl ?_
                                                                  refine jv_iret G hr dX8_met_496 (Nat.le_of_ble_eq_true rfl) (Nat.le_of_ble_eq_true rfl) ?_
                                                                  have hz : (m_met (decide (e = ec)) tsC ts pk su 2 ty n s rc) = (0, some (mt_n t465)) := by
                                                                    unfold m_met m_isC m_bd
                                                                    simp only [*, if_true, if_false, Bool.false_eq_true, reduceIte, Option.map_some, decide_true, decide_false, not_true_eq_false, not_false_eq_true, and_true, true_and, and_false, false_and, or_true, true_or, or_false, false_or, Bool.or_true, Bool.or_false, Bool.true_or, Bool.false_or, reduceCtorEq] <;> first | rfl | (simp_all; done) | (split <;> simp_all)
                                                                  exact ⟨by rw [hz], hrs.tr hsc.rs, by rw [hz]; exact (hsc.x hS 32).trans hran⟩
                                                                · refine jv_aload_n (q := 471) G 6 dX8_met_470 rfl rfl rfl ?_
                                                                  refine jv_getI (q := 474) G dX8_met_471 fl_X8_192 rfl (hsc.S hS).1 ((hsc.x hS 32).trans hran) rfl ?_
                                                                  refine jv_aload_n (q := 475) G 6 dX8_met_474 rfl rfl rfl ?_
                                                                  refine jv_iload_n (q := 476) G 7 dX8_met_475 rfl rfl rfl ?_
                                                                  refine jv_iload (q := 478) G 10 dX8_met_476 rfl rfl ?_
                                                                  refine jv_iload (q := 480) G 11 dX8_met_478 rfl rfl ?_
                                                                  refine jv_iload (q := 482) G 12 dX8_met_480 rfl rfl ?_
                                                                  refine jv_iload (q := 484) G 13 dX8_met_482 rfl rfl ?_
                                                                  refine jv_callV (q := 487) (As := [.int (nI c), .int ty, .int n, .int s, .int rc]) (rest := [.int (nI (mt_n t465))]) G Z ml_X8_202 (r_ownRun hlt hsc hS hc hec hEC hVC hce hgC) (hsc.S hS).1 dX8_met_484 rfl (by decide) (by decide) (by decide) (by decide) (Nat.le_of_ble_eq_true rfl) rfl rfl (fun v475 h474 y476 => ?_) (fun _ _ hx => hx.elim)
                                                                  obtain ⟨rfl, hsc⟩ := y476
                                                                  show jv_V E 14 h474 0 0 (jv_Q E (fun v h' => v = some (.int (nI (m_met (decide (e = ec)) tsC ts pk su 2 ty n s rc).1)) ∧ rs x q h h' ∧ jv_I h' x 32 = jv_oN (m_met (decide (e = ec)) tsC ts pk su 2 ty n s rc).2) jv_no 0 0) 487 [(13, .int (nI (6 * (10 * e + p464.1) + p464.2))), (12, .int (nI (6 * (10 * e + p447.1) + p447.2))), (11, .int (nI (10 * e + k371))), (10, .int (nI 1)), (9, .int (-1)), (8, .int (nI (10 * e + k219))), (0, .ref x), (1, .int (nI c)), (2, .int (nI e)), (3, .int (nI 2)), (4, .int ty), (5, .int n), (6, .int s), (7, .int rc)] [.int (jv_oN (m_orn tsC ty n s rc)), .int (nI (mt_n t465))]
                                                                  refine jv_icmp_eq (q := 490) (tgt := 495) G dX8_met_487 (by decide) rfl (fun c477 => ?_) (fun c477 => ?_)
                                                                  · refine jv_iconst (q := 496) (v := nI 0) G dX8_met_495 (by decide) rfl ?_
                                                                    refine jv_iret G hr dX8_met_496 (Nat.le_of_ble_eq_true rfl) (Nat.le_of_ble_eq_true rfl) ?_
                                                                    have hz : (m_met (decide (e = ec)) tsC ts pk su 2 ty n s rc) = (0, some (mt_n t465)) := by
                                                                      unfold m_met m_isC m_bd
                                                                      simp only [*, if_true, if_false, Bool.false_eq_true, reduceIte, Option.map_some, decide_true, decide_false, not_true_eq_false, not_false_eq_true, and_true, true_and, and_false, false_and, or_true, true_or, or_false, false_or, Bool.or_true, Bool.or_false, Bool.true_or, Bool.false_or, reduceCtorEq] <;> first | rfl | (simp_all; done) | (split <;> simp_all)
                                                                    exact ⟨by rw [hz], hrs.tr hsc.rs, by rw [hz]; exact (hsc.x hS 32).trans hran⟩
                                                                  · refine jv_bipush (q := 492) (v := nI 8) G dX8_met_490 (by decide) rfl ?_
                                                                    refine jv_goto (q := 496) G dX8_met_492 (by decide) ?_
                                                                    refine jv_iret G hr dX8_met_496 (Nat.le_of_ble_eq_true rfl) (Nat.le_of_ble_eq_true rfl) ?_
                                                                    have hz : (m_met (decide (e = ec)) tsC ts pk su 2 ty n s rc) = (8, some (mt_n t465)) := by
                                                                      unfold m_met m_isC m_bd
                                                                      simp only [*, if_true, if_false, Bool.false_eq_true, reduceIte, Option.map_some, decide_true, decide_false, not_true_eq_false, not_false_eq_true, and_true, true_and, and_false, false_and, or_true, true_or, or_false, false_or, Bool.or_true, Bool.or_false, Bool.true_or, Bool.false_or, reduceCtorEq] <;> first | rfl | (simp_all; done) | (split <;> simp_all)
                                                                    exact ⟨by rw [hz], hrs.tr hsc.rs, by rw [hz]; exact (hsc.x hS 32).trans hran⟩
                                                              · omega
                                                            · refine jv_iconst (q := 427) (v := nI 5) G dX8_met_426 (by decide) rfl ?_
                                                              refine jv_iret G hr dX8_met_427 (Nat.le_of_ble_eq_true rfl) (Nat.le_of_ble_eq_true rfl) ?_
                                                              have hz : (m_met (decide (e = ec)) tsC ts pk su 2 ty n s rc) = (5, none) := by
                                                                unfold m_met m_isC m_bd
                                                                simp only [*, if_true, if_false, Bool.false_eq_true, reduceIte, Option.map_some, decide_true, decide_false, not_true_eq_false, not_false_eq_true, and_true, true_and, and_false, false_and, or_true, true_or, or_false, false_or, Bool.or_true, Bool.or_false, Bool.true_or, Bool.false_or, reduceCtorEq] <;> first | rfl | (simp_all; done) | (split <;> simp_all)
                                                              exact ⟨by rw [hz], hrs.tr hsc.rs, by rw [hz]; exact (hsc.x hS 32).trans hran⟩
                                                      · refine jv_aload_n (q := 385) G 5 dX8_met_384 rfl rfl rfl ?_
                                                        refine jv_iload_n (q := 386) G 7 dX8_met_385 rfl rfl rfl ?_
                                                        refine jv_iload (q := 388) G 9 dX8_met_386 rfl rfl ?_
                                                        refine jv_iload (q := 390) G 12 dX8_met_388 rfl rfl ?_
                                                        refine jv_callV_I (q := 393) (h1 := h444) (As := [.int (nI e), .int ty, .int rc]) (rest := []) (ce' := 0) (sl' := 0) (r := jv_bI (m_isA ts ty rc)) G Z ml_X8_167 (r_isAbove hlt hsc hS he hV) (hsc.S hS).1 dX8_met_390 rfl (by decide) (by decide) (by decide) (by decide) (Nat.le_of_ble_eq_true rfl) rfl rfl rfl rfl ?_
                                                        refine jv_if_neB (q := 396) (tgt := 399) G dX8_met_393 (by decide) rfl (fun c478 => ?_) (fun c478 => ?_)
                                                        · refine jv_aload_n (q := 400) G 5 dX8_met_399 rfl rfl rfl ?_
                                                          refine jv_iload_n (q := 401) G 7 dX8_met_400 rfl rfl rfl ?_
                                                          refine jv_iload (q := 403) G 0 dX8_met_401 rfl rfl ?_
                                                          refine jv_iload (q := 405) G 1 dX8_met_403 rfl rfl ?_
                                                          refine jv_callV (q := 408) (As := [.int (nI e), .int (nI (6 * (10 * e + p447.1) + p447.2)), .int (nI (10 * e + k371))]) (rest := []) G Z ml_X8_189 (r_selected (d := 11) hlt hsc hS he hE hV ht448 hm449 ht372 (hg k371 (by omega))) (hsc.S hS).1 dX8_met_405 rfl (by decide) (by decide) (by decide) (by decide) (Nat.le_of_ble_eq_true rfl) rfl rfl (fun v480 h479 y481 => ?_) (fun _ _ hx => hx.elim)
                                                          obtain ⟨rfl, hsc⟩ := y481
                                                          show jv_V E 14 h479 0 0 (jv_Q E (fun v h' => v = some (.int (nI (m_met (decide (e = ec)) tsC ts pk su 2 ty n s rc).1)) ∧ rs x q h h' ∧ jv_I h' x 32 = jv_oN (m_met (decide (e = ec)) tsC ts pk su 2 ty n s rc).2) jv_no 0 0) 408 [(12, .int (nI (6 * (10 * e + p447.1) + p447.2))), (11, .int (nI (10 * e + k371))), (10, .int (nI 1)), (9, .int (-1)), (8, .int (nI (10 * e + k219))), (0, .ref x), (1, .int (nI c)), (2, .int (nI e)), (3, .int (nI 2)), (4, .int ty), (5, .int n), (6, .int s), (7, .int rc)] [.int (ffE e (m_sl ts 11 t448 m449 p447.1 p447.2 k371))]
                                                          rcases Option.eq_none_or_eq_some (m_sl ts 11 t448 m449 p447.1 p447.2 k371) with hp485 | ⟨p482, hp485⟩
                                                          · refine jv_topI (y := (-1)) (by rw [hp485]; rfl) ?_
                                                            refine jv_istore (q := 410) (lo' := [(13, .int (-1)), (12, .int (nI (6 * (10 * e + p447.1) + p447.2))), (11, .int (nI (10 * e + k371))), (10, .int (nI 1)), (9, .int (-1)), (8, .int (nI (10 * e + k219))), (0, .ref x), (1, .int (nI c)), (2, .int (nI e)), (3, .int (nI 2)), (4, .int ty), (5, .int n), (6, .int s), (7, .int rc)]) G dX8_met_408 (by decide) rfl rfl ?_
                                                            refine jv_iload (q := 412) G 0 dX8_met_410 rfl rfl ?_
                                                            refine jv_iconst (q := 413) (v := (-1)) G dX8_met_412 (by decide) rfl ?_
                                                            refine jv_icmp_eq (q := 416) (tgt := 426) G dX8_met_413 (by decide) rfl (fun c486 => ?_) (fun c486 => ?_)
                                                            · refine jv_iconst (q := 427) (v := nI 5) G dX8_met_426 (by decide) rfl ?_
                                                              refine jv_iret G hr dX8_met_427 (Nat.le_of_ble_eq_true rfl) (Nat.le_of_ble_eq_true rfl) ?_
                                                              have hz : (m_met (decide (e = ec)) tsC ts pk su 2 ty n s rc) = (5, none) := by
                                                                unfold m_met m_isC m_bd
                                                                simp only [*, if_true, if_false, Bool.false_eq_true, reduceIte, Option.map_some, decide_true, decide_false, not_true_eq_false, not_false_eq_true, and_true, true_and, and_false, false_and, or_true, true_or, or_false, false_or, Bool.or_true, Bool.or_false, Bool.true_or, Bool.false_or, reduceCtorEq] <;> first | rfl | (simp_all; done) | (split <;> simp_all)
                                                              exact ⟨by rw [hz], hrs.tr hsc.rs, by rw [hz]; exact (hsc.x hS 32).trans hran⟩
                                                            · exact absurd rfl c486
                                                          · refine jv_topI (y := nI (6 * (10 * e + p482.1) + p482.2)) (by rw [hp485]; rfl) ?_
                                                            obtain ⟨t483, ht483, m484, hm484⟩ := m_sl_mem ht448 hm449 hp485
                                                            have Tt483 := (hE.2.2 p482.1 t483 ht483).1
                                                            have Ot483 := (hE.2.2 p482.1 t483 ht483).2
                                                            have Lt483 := hE.2.1
                                                            have lt483 := jv_ltGet ht483
                                                            have Mm484 := rt_m Tt483 hm484
                                                            have Om484 := Ot483.2.2.2.2.2.2 m484 (List.mem_of_getElem? hm484)
                                                            have Lm484 := Ot483.2.2.2.2.2.1
                                                            have lm484 := jv_ltGet hm484
                                                            have Bm484n := Om484.1; have Bm484s := Om484.2.1; have Bm484a := Om484.2.2.1; have Bt483n := Ot483.1; have Bt483k := Ot483.2.1
                                                            refine jv_istore (q := 410) (lo' := [(13, .int (nI (6 * (10 * e + p482.1) + p482.2))), (12, .int (nI (6 * (10 * e + p447.1) + p447.2))), (11, .int (nI (10 * e + k371))), (10, .int (nI 1)), (9, .int (-1)), (8, .int (nI (10 * e + k219))), (0, .ref x), (1, .int (nI c)), (2, .int (nI e)), (3, .int (nI 2)), (4, .int ty), (5, .int n), (6, .int s), (7, .int rc)]) G dX8_met_408 (by decide) rfl rfl ?_
                                                            refine jv_iload (q := 412) G 0 dX8_met_410 rfl rfl ?_
                                                            refine jv_iconst (q := 413) (v := (-1)) G dX8_met_412 (by decide) rfl ?_
                                                            refine jv_icmp_eq (q := 416) (tgt := 426) G dX8_met_413 (by decide) rfl (fun c487 => ?_) (fun c487 => ?_)
                                                            · exact absurd c487 (jv_nI_m1 (by omega))
                                                            · refine jv_aload_n (q := 417) G 6 dX8_met_416 rfl rfl rfl ?_
                                                              refine jv_getQ (q := 420) G dX8_met_417 fl_X8_59 rfl (hsc.S hS).1 (rf_p18 (hsc.S hS)) rfl ?_
                                                              refine jv_iload (q := 422) G 0 dX8_met_420 rfl rfl ?_
                                                              refine jv_iald (q := 423) G dX8_met_422 (rf_a18 (hsc.S hS)) rfl (by omega) (by decide) (hsc.M hS Mm484).2.2.2.2.2.1 rfl ?_
                                                              refine jv_if_ge (q := 426) (tgt := 428) G dX8_met_423 (by decide) rfl (fun c488 => ?_) (fun c488 => ?_)
                                                              · refine jv_iload_n (q := 429) G 9 dX8_met_428 rfl rfl rfl ?_
                                                                refine jv_iconst (q := 430) (v := nI 4) G dX8_met_429 (by decide) rfl ?_
                                                                refine jv_icmp_neN (q := 433) (tgt := 446) G dX8_met_430 (by decide) rfl (by omega) (by omega) (fun c489 => ?_) (fun c489 => ?_)
                                                                · refine jv_aload_n (q := 447) G 6 dX8_met_446 rfl rfl rfl ?_
                                                                  refine jv_aload_n (q := 448) G 6 dX8_met_447 rfl rfl rfl ?_
                                                                  refine jv_getQ (q := 451) G dX8_met_448 fl_X8_17 rfl (hsc.S hS).1 (rf_p4 (hsc.S hS)) rfl ?_
                                                                  refine jv_iload (q := 453) G 0 dX8_met_451 rfl rfl ?_
                                                                  refine jv_callS_I (q := 456) (h1 := h479) (As := [.int (nI (6 * (10 * e + p482.1) + p482.2))]) (rest := [.ref (q 4), .ref x]) (ce' := 0) (sl' := 0) (r := nI ((6 * (10 * e + p482.1) + p482.2) / 6)) G Z ml_X8_183 (r_typeOf hlt (by omega)) dX8_met_453 rfl (by decide) (by decide) (by decide) (by decide) (Nat.le_of_ble_eq_true rfl) rfl rfl rfl rfl ?_
                                                                  refine jv_topI (y := nI (10 * e + p482.1)) (congrArg nI (by omega)) ?_
                                                                  refine jv_iald (q := 457) G dX8_met_456 (rf_a4 (hsc.S hS)) rfl (by omega) (by decide) (rt_4 (hsc.T hS Tt483)) rfl ?_
                                                                  refine jv_putI (q := 460) G dX8_met_457 fl_X8_192 rfl (hsc.S hS).1 rfl ?_
                                                                  have hr1 : rs x q h479 (jv_wI h479 x 32 (nI (mt_n t483))) := rs.rf.wI (nI (mt_n t483)) (Or.inl ⟨rfl, Or.inr (Or.inl rfl)⟩)
                                                                  have hran : jv_I (jv_wI h479 x 32 (nI (mt_n t483))) x 32 = (nI (mt_n t483)) := jv_I_self _ _ _ _
                                                                  have hSb := hsc.S hS
                                                                  have hE := hr1.E hSb (hsc.E hS hE)
                                                                  have hV := hr1.V hSb (hsc.V hS hV)
                                                                  have hEC := hr1.E hSb (hsc.E hS hEC)
                                                                  have hVC := hr1.V hSb (hsc.V hS hVC)
                                                                  have hce := (wx_I hSb 22 (by decide) rfl 32 c (nI (mt_n t483))).trans ((hsc.I2 hS 22 (by decide) rfl (by decide) c).trans hce)
                                                                  have hpk := (wx_I hSb 23 (by decide) rfl 32 c (nI (mt_n t483))).trans ((hsc.I2 hS 23 (by decide) rfl (by decide) c).trans hpk)
                                                                  have hsu := (wx_I hSb 24 (by decide) rfl 32 c (nI (mt_n t483))).trans ((hsc.I2 hS 24 (by decide) rfl (by decide) c).trans hsu)
                                                                  have hrs := (hrs.tr hsc.rs).tr hr1
                                                                  have hS := hr1.S hSb
                                                                  generalize jv_wI h479 x 32 (nI (mt_n t483)) = h490 at hran hE hV hEC hVC hce hpk hsu hrs hS ⊢
                                                                  have hsc : sc x q h490 h490 := sc.rf
                                                                  refine jv_iload_n (q := 461) G 8 dX8_met_460 rfl rfl rfl ?_
                                                                  refine jv_aload_n (q := 462) G 6 dX8_met_461 rfl rfl rfl ?_
                                                                  refine jv_getQ (q := 465) G dX8_met_462 fl_X8_68 rfl (hsc.S hS).1 (rf_p22 (hsc.S hS)) rfl ?_
                                                                  refine jv_iload_n (q := 466) G 7 dX8_met_465 rfl rfl rfl ?_
                                                                  refine jv_iald (q := 467) G dX8_met_466 (rf_a22 (hsc.S hS)) rfl (by omega) (by decide) ((hsc.I2 hS 22 (by decide) rfl (by decide) c).trans hce) rfl ?_
                                                                  refine jv_icmp_eqN (q := 470) (tgt := 495) G dX8_met_467 (by decide) rfl (by omega) (by omega) (fun c491 => ?_) (fun c491 => ?_)
                                                                  · refine jv_iconst (q := 496) (v := nI 0) G dX8_met_495 (by decide) rfl ?_
                                                                    refine jv_iret G hr dX8_met_496 (Nat.le_of_ble_eq_true rfl) (Nat.le_of_ble_eq_true rfl) ?_
                                                                    have hz : (m_met (decide (e = ec)) tsC ts pk su 2 ty n s rc) = (0, some (mt_n t483)) := by
                                                                      unfold m_met m_isC m_bd
                                                                      simp only [*, if_true, if_false, Bool.false_eq_true, reduceIte, Option.map_some, decide_true, decide_false, not_true_eq_false, not_false_eq_true, and_true, true_and, and_false, false_and, or_true, true_or, or_false, false_or, Bool.or_true, Bool.or_false, Bool.true_or, Bool.false_or, reduceCtorEq] <;> first | rfl | (simp_all; done) | (split <;> simp_all)
                                                                    exact ⟨by rw [hz], hrs.tr hsc.rs, by rw [hz]; exact (hsc.x hS 32).trans hran⟩
                                                                  · refine jv_aload_n (q := 471) G 6 dX8_met_470 rfl rfl rfl ?_
                                                                    refine jv_getI (q := 474) G dX8_met_471 fl_X8_192 rfl (hsc.S hS).1 ((hsc.x hS 32).trans hran) rfl ?_
                                                                    refine jv_aload_n (q := 475) G 6 dX8_met_474 rfl rfl rfl ?_
                                                                    refine jv_iload_n (q := 476) G 7 dX8_met_475 rfl rfl rfl ?_
                                                                    refine jv_iload (q := 478) G 10 dX8_met_476 rfl rfl ?_
                                                                    refine jv_iload (q := 480) G 11 dX8_met_478 rfl rfl ?_
                                                                    refine jv_iload (q := 482) G 12 dX8_met_480 rfl rfl ?_
                                                                    refine jv_iload (q := 484) G 13 dX8_met_482 rfl rfl ?_
                                                                    refine jv_callV (q := 487) (As := [.int (nI c), .int ty, .int n, .int s, .int rc]) (rest := [.int (nI (mt_n t483))]) G Z ml_X8_202 (r_ownRun hlt hsc hS hc hec hEC hVC hce hgC) (hsc.S hS).1 dX8_met_484 rfl (by decide) (by decide) (by decide) (by decide) (Nat.le_of_ble_eq_true rfl) rfl rfl (fun v493 h492 y494 => ?_) (fun _ _ hx => hx.elim)
                                                                    obtain ⟨rfl, hsc⟩ := y494
                                                                    show jv_V E 14 h492 0 0 (jv_Q E (fun v h' => v = some (.int (nI (m_met (decide (e = ec)) tsC ts pk su 2 ty n s rc).1)) ∧ rs x q h h' ∧ jv_I h' x 32 = jv_oN (m_met (decide (e = ec)) tsC ts pk su 2 ty n s rc).2) jv_no 0 0) 487 [(13, .int (nI (6 * (10 * e + p482.1) + p482.2))), (12, .int (nI (6 * (10 * e + p447.1) + p447.2))), (11, .int (nI (10 * e + k371))), (10, .int (nI 1)), (9, .int (-1)), (8, .int (nI (10 * e + k219))), (0, .ref x), (1, .int (nI c)), (2, .int (nI e)), (3, .int (nI 2)), (4, .int ty), (5, .int n), (6, .int s), (7, .int rc)] [.int (jv_oN (m_orn tsC ty n s rc)), .int (nI (mt_n t483))]
                                                                    refine jv_icmp_eq (q := 490) (tgt := 495) G dX8_met_487 (by decide) rfl (fun c495 => ?_) (fun c495 => ?_)
                                                                    · refine jv_iconst (q := 496) (v := nI 0) G dX8_met_495 (by decide) rfl ?_
                                                                      refine jv_iret G hr dX8_met_496 (Nat.le_of_ble_eq_true rfl) (Nat.le_of_ble_eq_true rfl) ?_
                                                                      have hz : (m_met (decide (e = ec)) tsC ts pk su 2 ty n s rc) = (0, some (mt_n t483)) := by
                                                                        unfold m_met m_isC m_bd
                                                                        simp only [*, if_true, if_false, Bool.false_eq_true, reduceIte, Option.map_some, decide_true, decide_false, not_true_eq_false, not_false_eq_true, and_true, true_and, and_false, false_and, or_true, true_or, or_false, false_or, Bool.or_true, Bool.or_false, Bool.true_or, Bool.false_or, reduceCtorEq] <;> first | rfl | (simp_all; done) | (split <;> simp_all)
                                                                      exact ⟨by rw [hz], hrs.tr hsc.rs, by rw [hz]; exact (hsc.x hS 32).trans hran⟩
                                                                    · refine jv_bipush (q := 492) (v := nI 8) G dX8_met_490 (by decide) rfl ?_
                                                                      refine jv_goto (q := 496) G dX8_met_492 (by decide) ?_
                                                                      refine jv_iret G hr dX8_met_496 (Nat.le_of_ble_eq_true rfl) (Nat.le_of_ble_eq_true rfl) ?_
                                                                      have hz : (m_met (decide (e = ec)) tsC ts pk su 2 ty n s rc) = (8, some (mt_n t483)) := by
                                                                        unfold m_met m_isC m_bd
                                                                        simp only [*, if_true, if_false, Bool.false_eq_true, reduceIte, Option.map_some, decide_true, decide_false, not_true_eq_false, not_false_eq_true, and_true, true_and, and_false, false_and, or_true, true_or, or_false, false_or, Bool.or_true, Bool.or_false, Bool.true_or, Bool.false_or, reduceCtorEq] <;> first | rfl | (simp_all; done) | (split <;> simp_all)
                                                                      exact ⟨by rw [hz], hrs.tr hsc.rs, by rw [hz]; exact (hsc.x hS 32).trans hran⟩
                                                                · omega
                                                              · refine jv_iconst (q := 427) (v := nI 5) G dX8_met_426 (by decide) rfl ?_
                                                                refine jv_iret G hr dX8_met_427 (Nat.le_of_ble_eq_true rfl) (Nat.le_of_ble_eq_true rfl) ?_
                                                                have hz : (m_met (decide (e = ec)) tsC ts pk su 2 ty n s rc) = (5, none) := by
                                                                  unfold m_met m_isC m_bd
                                                                  simp only [*, if_true, if_false, Bool.false_eq_true, reduceIte, Option.map_some, decide_true, decide_false, not_true_eq_false, not_false_eq_true, and_true, true_and, and_false, false_and, or_true, true_or, or_false, false_or, Bool.or_true, Bool.or_false, Bool.true_or, Bool.false_or, reduceCtorEq] <;> first | rfl | (simp_all; done) | (split <;> simp_all)
                                                                exact ⟨by rw [hz], hrs.tr hsc.rs, by rw [hz]; exact (hsc.x hS 32).trans hran⟩
                                                        · refine jv_bipush (q := 398) (v := nI 6) G dX8_met_396 (by decide) rfl ?_
                                                          refine jv_iret G hr dX8_met_398 (Nat.le_of_ble_eq_true rfl) (Nat.le_of_ble_eq_true rfl) ?_
                                                          have hz : (m_met (decide (e = ec)) tsC ts pk su 2 ty n s rc) = (6, none) := by
                                                            unfold m_met m_isC m_bd
                                                            simp only [*, if_true, if_false, Bool.false_eq_true, reduceIte, Option.map_some, decide_true, decide_false, not_true_eq_false, not_false_eq_true, and_true, true_and, and_false, false_and, or_true, true_or, or_false, false_or, Bool.or_true, Bool.or_false, Bool.true_or, Bool.false_or, reduceCtorEq] <;> first | rfl | (simp_all; done) | (split <;> simp_all)
                                                          exact ⟨by rw [hz], hrs.tr hsc.rs, by rw [hz]; exact (hsc.x hS 32).trans hran⟩
                                                · omega
                                              · refine jv_iconst (q := 326) (v := nI 4) G dX8_met_325 (by decide) rfl ?_
                                                refine jv_iret G hr dX8_met_326 (Nat.le_of_ble_eq_true rfl) (Nat.le_of_ble_eq_true rfl) ?_
                                                have hz : (m_met (decide (e = ec)) tsC ts pk su 2 ty n s rc) = (4, none) := by
                                                  unfold m_met m_isC m_bd
                                                  simp only [*, if_true, if_false, Bool.false_eq_true, reduceIte, Option.map_some, decide_true, decide_false, not_true_eq_false, not_false_eq_true, and_true, true_and, and_false, false_and, or_true, true_or, or_false, false_or, Bool.or_true, Bool.or_false, Bool.true_or, Bool.false_or, reduceCtorEq] <;> first | rfl | (simp_all; done) | (split <;> simp_all)
                                                exact ⟨by rw [hz], hrs.tr hsc.rs, by rw [hz]; exact (hsc.x hS 32).trans hran⟩
                                            · omega
                                        · refine jv_iconst (q := 299) (v := nI 3) G dX8_met_298 (by decide) rfl ?_
                                          refine jv_iret G hr dX8_met_299 (Nat.le_of_ble_eq_true rfl) (Nat.le_of_ble_eq_true rfl) ?_
                                          have hz : (m_met (decide (e = ec)) tsC ts pk su 2 ty n s rc) = (3, none) := by
                                            unfold m_met m_isC m_bd
                                            simp only [*, if_true, if_false, Bool.false_eq_true, reduceIte, Option.map_some, decide_true, decide_false, not_true_eq_false, not_false_eq_true, and_true, true_and, and_false, false_and, or_true, true_or, or_false, false_or, Bool.or_true, Bool.or_false, Bool.true_or, Bool.false_or, reduceCtorEq] <;> first | rfl | (simp_all; done) | (split <;> simp_all)
                                          exact ⟨by rw [hz], hrs.tr hsc.rs, by rw [hz]; exact (hsc.x hS 32).trans hran⟩
                                      · exact absurd c452 (jv_nI_m1 (by omega))
                                  · omega
                                · omega
                              · omega
                        · refine jv_iconst (q := 192) (v := nI 3) G dX8_met_191 (by decide) rfl ?_
                          refine jv_iret G hr dX8_met_192 (Nat.le_of_ble_eq_true rfl) (Nat.le_of_ble_eq_true rfl) ?_
                          have hz : (m_met (decide (e = ec)) tsC ts pk su 2 ty n s rc) = (3, none) := by
                            unfold m_met m_isC m_bd
                            simp only [*, if_true, if_false, Bool.false_eq_true, reduceIte, Option.map_some, decide_true, decide_false, not_true_eq_false, not_false_eq_true, and_true, true_and, and_false, false_and, or_true, true_or, or_false, false_or, Bool.or_true, Bool.or_false, Bool.true_or, Bool.false_or, reduceCtorEq] <;> first | rfl | (simp_all; done) | (split <;> simp_all)
                          exact ⟨by rw [hz], hrs.tr hsc.rs, by rw [hz]; exact (hsc.x hS 32).trans hran⟩
                    · exact absurd c379 (jv_nI_m1 (by omega))
          · omega
        · exact absurd rfl c368
  · refine jv_aload_n (q := 1) G 0 dX8_met_0 rfl rfl rfl ?_
    refine jv_iconst (q := 2) (v := (-1)) G dX8_met_1 (by decide) rfl ?_
    refine jv_putI (q := 5) G dX8_met_2 fl_X8_192 rfl (hsc.S hS).1 rfl ?_
    have hr1 : rs x q h (jv_wI h x 32 (-1)) := rs.rf.wI (-1) (Or.inl ⟨rfl, Or.inr (Or.inl rfl)⟩)
    have hran : jv_I (jv_wI h x 32 (-1)) x 32 = (-1) := jv_I_self _ _ _ _
    have hSb := hsc.S hS
    have hE := hr1.E hSb (hsc.E hS hE)
    have hV := hr1.V hSb (hsc.V hS hV)
    have hEC := hr1.E hSb (hsc.E hS hEC)
    have hVC := hr1.V hSb (hsc.V hS hVC)
    have hce := (wx_I hSb 22 (by decide) rfl 32 c (-1)).trans ((hsc.I2 hS 22 (by decide) rfl (by decide) c).trans hce)
    have hpk := (wx_I hSb 23 (by decide) rfl 32 c (-1)).trans ((hsc.I2 hS 23 (by decide) rfl (by decide) c).trans hpk)
    have hsu := (wx_I hSb 24 (by decide) rfl 32 c (-1)).trans ((hsc.I2 hS 24 (by decide) rfl (by decide) c).trans hsu)
    have hrs := (hrs.tr hsc.rs).tr hr1
    have hS := hr1.S hSb
    generalize jv_wI h x 32 (-1) = h496 at hran hE hV hEC hVC hce hpk hsu hrs hS ⊢
    have hsc : sc x q h496 h496 := sc.rf
    refine jv_aload_n (q := 6) G 0 dX8_met_5 rfl rfl rfl ?_
    refine jv_iload_n (q := 7) G 2 dX8_met_6 rfl rfl rfl ?_
    refine jv_iload (q := 9) G 4 dX8_met_7 rfl rfl ?_
    refine jv_callV_I (q := 12) (h1 := h496) (As := [.int (nI e), .int ty]) (rest := []) (ce' := 0) (sl' := 0) (r := jv_oN ((m_at ts ty).map (fun k => 10 * e + k))) G Z ml_X8_151 (r_at hlt (hsc.S hS) he (hsc.E hS hE)) (hsc.S hS).1 dX8_met_9 rfl (by decide) (by decide) (by decide) (by decide) (Nat.le_of_ble_eq_true rfl) rfl rfl rfl rfl ?_
    rcases Option.eq_none_or_eq_some (m_at ts ty) with hk499 | ⟨k497, hk499⟩
    · refine jv_topI (y := (-1)) (by rw [hk499]; rfl) ?_
      refine jv_istore (q := 14) (lo' := [(8, .int (-1)), (0, .ref x), (1, .int (nI c)), (2, .int (nI e)), (3, .int (nI 3)), (4, .int ty), (5, .int n), (6, .int s), (7, .int rc)]) G dX8_met_12 (by decide) rfl rfl ?_
      refine jv_iload_n (q := 15) G 3 dX8_met_14 rfl rfl rfl ?_
      refine jv_aload_n (q := 16) G 1 dX8_met_15 rfl rfl rfl ?_
      refine jv_getQ (q := 19) G dX8_met_16 fl_X8_68 rfl (hsc.S hS).1 (rf_p22 (hsc.S hS)) rfl ?_
      refine jv_iload_n (q := 20) G 2 dX8_met_19 rfl rfl rfl ?_
      refine jv_iald (q := 21) G dX8_met_20 (rf_a22 (hsc.S hS)) rfl (by omega) (by decide) ((hsc.I2 hS 22 (by decide) rfl (by decide) c).trans hce) rfl ?_
      refine jv_icmp_eqN (q := 24) (tgt := 39) G dX8_met_21 (by decide) rfl (by omega) (by omega) (fun c500 => ?_) (fun c500 => ?_)
      · refine jv_iconst (q := 40) (v := (-1)) G dX8_met_39 (by decide) rfl ?_
        refine jv_istore (q := 42) (lo' := [(9, .int (-1)), (8, .int (-1)), (0, .ref x), (1, .int (nI c)), (2, .int (nI e)), (3, .int (nI 3)), (4, .int ty), (5, .int n), (6, .int s), (7, .int rc)]) G dX8_met_40 (by decide) rfl rfl ?_
        refine jv_iload (q := 44) G 0 dX8_met_42 rfl rfl ?_
        refine jv_iconst (q := 45) (v := (-1)) G dX8_met_44 (by decide) rfl ?_
        refine jv_icmp_eq (q := 48) (tgt := 111) G dX8_met_45 (by decide) rfl (fun c501 => ?_) (fun c501 => ?_)
        · refine jv_iload_n (q := 112) G 5 dX8_met_111 rfl rfl rfl ?_
          refine jv_iconst (q := 113) (v := nI 2) G dX8_met_112 (by decide) rfl ?_
          refine jv_icmp_eqN (q := 116) (tgt := 121) G dX8_met_113 (by decide) rfl (by omega) (by omega) (fun c502 => ?_) (fun c502 => ?_)
          · omega
          · refine jv_iload_n (q := 117) G 5 dX8_met_116 rfl rfl rfl ?_
            refine jv_iconst (q := 118) (v := nI 4) G dX8_met_117 (by decide) rfl ?_
            refine jv_icmp_neN (q := 121) (tgt := 125) G dX8_met_118 (by decide) rfl (by omega) (by omega) (fun c503 => ?_) (fun c503 => ?_)
            · refine jv_iconst (q := 126) (v := nI 0) G dX8_met_125 (by decide) rfl ?_
              refine jv_istore (q := 128) (lo' := [(10, .int (nI 0)), (9, .int (-1)), (8, .int (-1)), (0, .ref x), (1, .int (nI c)), (2, .int (nI e)), (3, .int (nI 3)), (4, .int ty), (5, .int n), (6, .int s), (7, .int rc)]) G dX8_met_126 (by decide) rfl rfl ?_
              refine jv_iload (q := 130) G 0 dX8_met_128 rfl rfl ?_
              refine jv_if_eqN (q := 133) (tgt := 143) G dX8_met_130 (by decide) rfl (by omega) (fun c504 => ?_) (fun c504 => ?_)
              · refine jv_iconst (q := 144) (v := (-1)) G dX8_met_143 (by decide) rfl ?_
                refine jv_istore (q := 146) (lo' := [(11, .int (-1)), (10, .int (nI 0)), (9, .int (-1)), (8, .int (-1)), (0, .ref x), (1, .int (nI c)), (2, .int (nI e)), (3, .int (nI 3)), (4, .int ty), (5, .int n), (6, .int s), (7, .int rc)]) G dX8_met_144 (by decide) rfl rfl ?_
                refine jv_iload (q := 148) G 3 dX8_met_146 rfl rfl ?_
                refine jv_iconst (q := 149) (v := (-1)) G dX8_met_148 (by decide) rfl ?_
                refine jv_icmp_eq (q := 152) (tgt := 163) G dX8_met_149 (by decide) rfl (fun c505 => ?_) (fun c505 => ?_)
                · refine jv_iconst (q := 164) (v := nI 1) G dX8_met_163 (by decide) rfl ?_
                  refine jv_iret G hr dX8_met_164 (Nat.le_of_ble_eq_true rfl) (Nat.le_of_ble_eq_true rfl) ?_
                  have hz : (m_met (decide (e = ec)) tsC ts pk su 3 ty n s rc) = (1, none) := by
                    unfold m_met m_isC m_bd
                    simp only [*, if_true, if_false, Bool.false_eq_true, reduceIte, Option.map_some, decide_true, decide_false, not_true_eq_false, not_false_eq_true, and_true, true_and, and_false, false_and, or_true, true_or, or_false, false_or, Bool.or_true, Bool.or_false, Bool.true_or, Bool.false_or, reduceCtorEq] <;> first | rfl | (simp_all; done) | (split <;> simp_all)
                  exact ⟨by rw [hz], hrs.tr hsc.rs, by rw [hz]; exact (hsc.x hS 32).trans hran⟩
                · exact absurd rfl c505
              · omega
            · omega
        · exact absurd rfl c501
      · refine jv_aload_n (q := 25) G 1 dX8_met_24 rfl rfl rfl ?_
        refine jv_iload_n (q := 26) G 2 dX8_met_25 rfl rfl rfl ?_
        refine jv_iload_n (q := 27) G 4 dX8_met_26 rfl rfl rfl ?_
        refine jv_iload (q := 29) G 5 dX8_met_27 rfl rfl ?_
        refine jv_iload (q := 31) G 6 dX8_met_29 rfl rfl ?_
        refine jv_iload (q := 33) G 7 dX8_met_31 rfl rfl ?_
        refine jv_callV_I (q := 36) (h1 := h496) (As := [.int (nI c), .int (nI 3), .int ty, .int n, .int s]) (rest := []) (ce' := 0) (sl' := 0) (r := (ffE ec (m_co tsC 3 ty n s))) G Z ml_X8_195 (r_constantOf hlt hsc hS hc hec hEC hce (by decide) hgC) (hsc.S hS).1 dX8_met_33 rfl (by decide) (by decide) (by decide) (by decide) (Nat.le_of_ble_eq_true rfl) rfl rfl rfl rfl ?_
        refine jv_topI (y := (-1)) rfl ?_
        refine jv_goto (q := 40) G dX8_met_36 (by decide) ?_
        refine jv_istore (q := 42) (lo' := [(9, .int (-1)), (8, .int (-1)), (0, .ref x), (1, .int (nI c)), (2, .int (nI e)), (3, .int (nI 3)), (4, .int ty), (5, .int n), (6, .int s), (7, .int rc)]) G dX8_met_40 (by decide) rfl rfl ?_
        refine jv_iload (q := 44) G 0 dX8_met_42 rfl rfl ?_
        refine jv_iconst (q := 45) (v := (-1)) G dX8_met_44 (by decide) rfl ?_
        refine jv_icmp_eq (q := 48) (tgt := 111) G dX8_met_45 (by decide) rfl (fun c506 => ?_) (fun c506 => ?_)
        · refine jv_iload_n (q := 112) G 5 dX8_met_111 rfl rfl rfl ?_
          refine jv_iconst (q := 113) (v := nI 2) G dX8_met_112 (by decide) rfl ?_
          refine jv_icmp_eqN (q := 116) (tgt := 121) G dX8_met_113 (by decide) rfl (by omega) (by omega) (fun c507 => ?_) (fun c507 => ?_)
          · omega
          · refine jv_iload_n (q := 117) G 5 dX8_met_116 rfl rfl rfl ?_
            refine jv_iconst (q := 118) (v := nI 4) G dX8_met_117 (by decide) rfl ?_
            refine jv_icmp_neN (q := 121) (tgt := 125) G dX8_met_118 (by decide) rfl (by omega) (by omega) (fun c508 => ?_) (fun c508 => ?_)
            · refine jv_iconst (q := 126) (v := nI 0) G dX8_met_125 (by decide) rfl ?_
              refine jv_istore (q := 128) (lo' := [(10, .int (nI 0)), (9, .int (-1)), (8, .int (-1)), (0, .ref x), (1, .int (nI c)), (2, .int (nI e)), (3, .int (nI 3)), (4, .int ty), (5, .int n), (6, .int s), (7, .int rc)]) G dX8_met_126 (by decide) rfl rfl ?_
              refine jv_iload (q := 130) G 0 dX8_met_128 rfl rfl ?_
              refine jv_if_eqN (q := 133) (tgt := 143) G dX8_met_130 (by decide) rfl (by omega) (fun c509 => ?_) (fun c509 => ?_)
              · refine jv_iconst (q := 144) (v := (-1)) G dX8_met_143 (by decide) rfl ?_
                refine jv_istore (q := 146) (lo' := [(11, .int (-1)), (10, .int (nI 0)), (9, .int (-1)), (8, .int (-1)), (0, .ref x), (1, .int (nI c)), (2, .int (nI e)), (3, .int (nI 3)), (4, .int ty), (5, .int n), (6, .int s), (7, .int rc)]) G dX8_met_144 (by decide) rfl rfl ?_
                refine jv_iload (q := 148) G 3 dX8_met_146 rfl rfl ?_
                refine jv_iconst (q := 149) (v := (-1)) G dX8_met_148 (by decide) rfl ?_
                refine jv_icmp_eq (q := 152) (tgt := 163) G dX8_met_149 (by decide) rfl (fun c510 => ?_) (fun c510 => ?_)
                · refine jv_iconst (q := 164) (v := nI 1) G dX8_met_163 (by decide) rfl ?_
                  refine jv_iret G hr dX8_met_164 (Nat.le_of_ble_eq_true rfl) (Nat.le_of_ble_eq_true rfl) ?_
                  have hz : (m_met (decide (e = ec)) tsC ts pk su 3 ty n s rc) = (1, none) := by
                    unfold m_met m_isC m_bd
                    simp only [*, if_true, if_false, Bool.false_eq_true, reduceIte, Option.map_some, decide_true, decide_false, not_true_eq_false, not_false_eq_true, and_true, true_and, and_false, false_and, or_true, true_or, or_false, false_or, Bool.or_true, Bool.or_false, Bool.true_or, Bool.false_or, reduceCtorEq] <;> first | rfl | (simp_all; done) | (split <;> simp_all)
                  exact ⟨by rw [hz], hrs.tr hsc.rs, by rw [hz]; exact (hsc.x hS 32).trans hran⟩
                · exact absurd rfl c510
              · omega
            · omega
        · exact absurd rfl c506
    · refine jv_topI (y := nI (10 * e + k497)) (by rw [hk499]; rfl) ?_
      obtain ⟨t498, ht498, nt498, lt498⟩ := m_at_some hk499
      have Tt498 := (hE.2.2 k497 t498 ht498).1
      have Ot498 := (hE.2.2 k497 t498 ht498).2
      have Lt498 := hE.2.1
      have Bt498n := Ot498.1; have Bt498k := Ot498.2.1
      refine jv_istore (q := 14) (lo' := [(8, .int (nI (10 * e + k497))), (0, .ref x), (1, .int (nI c)), (2, .int (nI e)), (3, .int (nI 3)), (4, .int ty), (5, .int n), (6, .int s), (7, .int rc)]) G dX8_met_12 (by decide) rfl rfl ?_
      refine jv_iload_n (q := 15) G 3 dX8_met_14 rfl rfl rfl ?_
      refine jv_aload_n (q := 16) G 1 dX8_met_15 rfl rfl rfl ?_
      refine jv_getQ (q := 19) G dX8_met_16 fl_X8_68 rfl (hsc.S hS).1 (rf_p22 (hsc.S hS)) rfl ?_
      refine jv_iload_n (q := 20) G 2 dX8_met_19 rfl rfl rfl ?_
      refine jv_iald (q := 21) G dX8_met_20 (rf_a22 (hsc.S hS)) rfl (by omega) (by decide) ((hsc.I2 hS 22 (by decide) rfl (by decide) c).trans hce) rfl ?_
      refine jv_icmp_eqN (q := 24) (tgt := 39) G dX8_met_21 (by decide) rfl (by omega) (by omega) (fun c511 => ?_) (fun c511 => ?_)
      · refine jv_iconst (q := 40) (v := (-1)) G dX8_met_39 (by decide) rfl ?_
        refine jv_istore (q := 42) (lo' := [(9, .int (-1)), (8, .int (nI (10 * e + k497))), (0, .ref x), (1, .int (nI c)), (2, .int (nI e)), (3, .int (nI 3)), (4, .int ty), (5, .int n), (6, .int s), (7, .int rc)]) G dX8_met_40 (by decide) rfl rfl ?_
        refine jv_iload (q := 44) G 0 dX8_met_42 rfl rfl ?_
        refine jv_iconst (q := 45) (v := (-1)) G dX8_met_44 (by decide) rfl ?_
        refine jv_icmp_eq (q := 48) (tgt := 111) G dX8_met_45 (by decide) rfl (fun c512 => ?_) (fun c512 => ?_)
        · refine jv_iload_n (q := 112) G 5 dX8_met_111 rfl rfl rfl ?_
          refine jv_iconst (q := 113) (v := nI 2) G dX8_met_112 (by decide) rfl ?_
          refine jv_icmp_eqN (q := 116) (tgt := 121) G dX8_met_113 (by decide) rfl (by omega) (by omega) (fun c513 => ?_) (fun c513 => ?_)
          · omega
          · refine jv_iload_n (q := 117) G 5 dX8_met_116 rfl rfl rfl ?_
            refine jv_iconst (q := 118) (v := nI 4) G dX8_met_117 (by decide) rfl ?_
            refine jv_icmp_neN (q := 121) (tgt := 125) G dX8_met_118 (by decide) rfl (by omega) (by omega) (fun c514 => ?_) (fun c514 => ?_)
            · refine jv_iconst (q := 126) (v := nI 0) G dX8_met_125 (by decide) rfl ?_
              refine jv_istore (q := 128) (lo' := [(10, .int (nI 0)), (9, .int (-1)), (8, .int (nI (10 * e + k497))), (0, .ref x), (1, .int (nI c)), (2, .int (nI e)), (3, .int (nI 3)), (4, .int ty), (5, .int n), (6, .int s), (7, .int rc)]) G dX8_met_126 (by decide) rfl rfl ?_
              refine jv_iload (q := 130) G 0 dX8_met_128 rfl rfl ?_
              refine jv_if_eqN (q := 133) (tgt := 143) G dX8_met_130 (by decide) rfl (by omega) (fun c515 => ?_) (fun c515 => ?_)
              · refine jv_iconst (q := 144) (v := (-1)) G dX8_met_143 (by decide) rfl ?_
                refine jv_istore (q := 146) (lo' := [(11, .int (-1)), (10, .int (nI 0)), (9, .int (-1)), (8, .int (nI (10 * e + k497))), (0, .ref x), (1, .int (nI c)), (2, .int (nI e)), (3, .int (nI 3)), (4, .int ty), (5, .int n), (6, .int s), (7, .int rc)]) G dX8_met_144 (by decide) rfl rfl ?_
                refine jv_iload (q := 148) G 3 dX8_met_146 rfl rfl ?_
                refine jv_iconst (q := 149) (v := (-1)) G dX8_met_148 (by decide) rfl ?_
                refine jv_icmp_eq (q := 152) (tgt := 163) G dX8_met_149 (by decide) rfl (fun c516 => ?_) (fun c516 => ?_)
                · exact absurd c516 (jv_nI_m1 (by omega))
                · refine jv_iload (q := 154) G 1 dX8_met_152 rfl rfl ?_
                  refine jv_if_eqN (q := 157) (tgt := 165) G dX8_met_154 (by decide) rfl (by omega) (fun c517 => ?_) (fun c517 => ?_)
                  · refine jv_aload_n (q := 166) G 4 dX8_met_165 rfl rfl rfl ?_
                    refine jv_getQ (q := 169) G dX8_met_166 fl_X8_29 rfl (hsc.S hS).1 (rf_p8 (hsc.S hS)) rfl ?_
                    refine jv_iload (q := 171) G 3 dX8_met_169 rfl rfl ?_
                    refine jv_zald (q := 172) G dX8_met_171 (rf_a8 (hsc.S hS)) rfl (by omega) (by decide) (rt_8 (hsc.T hS Tt498)) rfl ?_
                    refine jv_if_neB (q := 175) (tgt := 193) G dX8_met_172 (by decide) rfl (fun c518 => ?_) (fun c518 => ?_)
                    · refine jv_iload_n (q := 194) G 7 dX8_met_193 rfl rfl rfl ?_
                      refine jv_iconst (q := 195) (v := nI 2) G dX8_met_194 (by decide) rfl ?_
                      refine jv_icmp_neN (q := 198) (tgt := 208) G dX8_met_195 (by decide) rfl (by omega) (by omega) (fun c519 => ?_) (fun c519 => ?_)
                      · refine jv_iload_n (q := 209) G 7 dX8_met_208 rfl rfl rfl ?_
                        refine jv_iconst (q := 210) (v := nI 4) G dX8_met_209 (by decide) rfl ?_
                        refine jv_icmp_neN (q := 213) (tgt := 226) G dX8_met_210 (by decide) rfl (by omega) (by omega) (fun c520 => ?_) (fun c520 => ?_)
                        · refine jv_iload_n (q := 227) G 7 dX8_met_226 rfl rfl rfl ?_
                          refine jv_iconst (q := 228) (v := nI 5) G dX8_met_227 (by decide) rfl ?_
                          refine jv_icmp_neN (q := 231) (tgt := 247) G dX8_met_228 (by decide) rfl (by omega) (by omega) (fun c521 => ?_) (fun c521 => ?_)
                          · refine jv_iload_n (q := 248) G 7 dX8_met_247 rfl rfl rfl ?_
                            refine jv_iconst (q := 249) (v := nI 2) G dX8_met_248 (by decide) rfl ?_
                            refine jv_icmp_geN (q := 252) (tgt := 266) G dX8_met_249 (by decide) rfl (by omega) (by omega) (fun c522 => ?_) (fun c522 => ?_)
                            · refine jv_aload_n (q := 267) G 4 dX8_met_266 rfl rfl rfl ?_
                              refine jv_iload_n (q := 268) G 6 dX8_met_267 rfl rfl rfl ?_
                              refine jv_iload (q := 270) G 3 dX8_met_268 rfl rfl ?_
                              refine jv_iload (q := 272) G 9 dX8_met_270 rfl rfl ?_
                              refine jv_iload (q := 274) G 10 dX8_met_272 rfl rfl ?_
                              refine jv_callV (q := 277) (As := [.int (nI e), .int (nI (10 * e + k497)), .int n, .int s]) (rest := []) G Z ml_X8_186 (r_findMethod (d := 11) hlt hsc hS he hE hV ht498 (hg k497 (by omega))) (hsc.S hS).1 dX8_met_274 rfl (by decide) (by decide) (by decide) (by decide) (Nat.le_of_ble_eq_true rfl) rfl rfl (fun v524 h523 y525 => ?_) (fun _ _ hx => hx.elim)
                              obtain ⟨rfl, hsc⟩ := y525
                              show jv_V E 14 h523 0 0 (jv_Q E (fun v h' => v = some (.int (nI (m_met (decide (e = ec)) tsC ts pk su 3 ty n s rc).1)) ∧ rs x q h h' ∧ jv_I h' x 32 = jv_oN (m_met (decide (e = ec)) tsC ts pk su 3 ty n s rc).2) jv_no 0 0) 277 [(11, .int (-1)), (10, .int (nI 0)), (9, .int (-1)), (8, .int (nI (10 * e + k497))), (0, .ref x), (1, .int (nI c)), (2, .int (nI e)), (3, .int (nI 3)), (4, .int ty), (5, .int n), (6, .int s), (7, .int rc)] [.int (ffE e (m_fm ts 11 k497 n s))]
                              rcases Option.eq_none_or_eq_some (m_fm ts 11 k497 n s) with hp529 | ⟨p526, hp529⟩
                              · refine jv_topI (y := (-1)) (by rw [hp529]; rfl) ?_
                                refine jv_istore (q := 279) (lo' := [(12, .int (-1)), (11, .int (-1)), (10, .int (nI 0)), (9, .int (-1)), (8, .int (nI (10 * e + k497))), (0, .ref x), (1, .int (nI c)), (2, .int (nI e)), (3, .int (nI 3)), (4, .int ty), (5, .int n), (6, .int s), (7, .int rc)]) G dX8_met_277 (by decide) rfl rfl ?_
                                refine jv_iload (q := 281) G 0 dX8_met_279 rfl rfl ?_
                                refine jv_iconst (q := 282) (v := (-1)) G dX8_met_281 (by decide) rfl ?_
                                refine jv_icmp_ne (q := 285) (tgt := 287) G dX8_met_282 (by decide) rfl (fun c530 => ?_) (fun c530 => ?_)
                                · exact absurd rfl c530
                                · refine jv_iconst (q := 286) (v := nI 2) G dX8_met_285 (by decide) rfl ?_
                                  refine jv_iret G hr dX8_met_286 (Nat.le_of_ble_eq_true rfl) (Nat.le_of_ble_eq_true rfl) ?_
                                  have hz : (m_met (decide (e = ec)) tsC ts pk su 3 ty n s rc) = (2, none) := by
                                    unfold m_met m_isC m_bd
                                    simp only [*, if_true, if_false, Bool.false_eq_true, reduceIte, Option.map_some, decide_true, decide_false, not_true_eq_false, not_false_eq_true, and_true, true_and, and_false, false_and, or_true, true_or, or_false, false_or, Bool.or_true, Bool.or_false, Bool.true_or, Bool.false_or, reduceCtorEq] <;> first | rfl | (simp_all; done) | (split <;> simp_all)
                                  exact ⟨by rw [hz], hrs.tr hsc.rs, by rw [hz]; exact (hsc.x hS 32).trans hran⟩
                              · refine jv_topI (y := nI (6 * (10 * e + p526.1) + p526.2)) (by rw [hp529]; rfl) ?_
                                obtain ⟨t527, ht527, m528, hm528⟩ := m_fm_mem hp529
                                have Tt527 := (hE.2.2 p526.1 t527 ht527).1
                                have Ot527 := (hE.2.2 p526.1 t527 ht527).2
                                have Lt527 := hE.2.1
                                have lt527 := jv_ltGet ht527
                                have Mm528 := rt_m Tt527 hm528
                                have Om528 := Ot527.2.2.2.2.2.2 m528 (List.mem_of_getElem? hm528)
                                have Lm528 := Ot527.2.2.2.2.2.1
                                have lm528 := jv_ltGet hm528
                                have Bm528n := Om528.1; have Bm528s := Om528.2.1; have Bm528a := Om528.2.2.1; have Bt527n := Ot527.1; have Bt527k := Ot527.2.1
                                refine jv_istore (q := 279) (lo' := [(12, .int (nI (6 * (10 * e + p526.1) + p526.2))), (11, .int (-1)), (10, .int (nI 0)), (9, .int (-1)), (8, .int (nI (10 * e + k497))), (0, .ref x), (1, .int (nI c)), (2, .int (nI e)), (3, .int (nI 3)), (4, .int ty), (5, .int n), (6, .int s), (7, .int rc)]) G dX8_met_277 (by decide) rfl rfl ?_
                                refine jv_iload (q := 281) G 0 dX8_met_279 rfl rfl ?_
                                refine jv_iconst (q := 282) (v := (-1)) G dX8_met_281 (by decide) rfl ?_
                                refine jv_icmp_ne (q := 285) (tgt := 287) G dX8_met_282 (by decide) rfl (fun c531 => ?_) (fun c531 => ?_)
                                · refine jv_aload_n (q := 288) G 5 dX8_met_287 rfl rfl rfl ?_
                                  refine jv_iload_n (q := 289) G 6 dX8_met_288 rfl rfl rfl ?_
                                  refine jv_iload_n (q := 290) G 7 dX8_met_289 rfl rfl rfl ?_
                                  refine jv_iload (q := 292) G 0 dX8_met_290 rfl rfl ?_
                                  refine jv_callV_I (q := 295) (h1 := h523) (As := [.int (nI c), .int (nI e), .int (nI (6 * (10 * e + p526.1) + p526.2))]) (rest := []) (ce' := 0) (sl' := 0) (r := jv_bI (m_mr ts pk su t527 m528)) G Z ml_X8_199 (r_mayReach hlt hsc hS hc he hE hV ht527 hm528 hpk hpk5 hsu hsu16) (hsc.S hS).1 dX8_met_292 rfl (by decide) (by decide) (by decide) (by decide) (Nat.le_of_ble_eq_true rfl) rfl rfl rfl rfl ?_
                                  refine jv_if_neB (q := 298) (tgt := 300) G dX8_met_295 (by decide) rfl (fun c532 => ?_) (fun c532 => ?_)
                                  · refine jv_aload_n (q := 301) G 5 dX8_met_300 rfl rfl rfl ?_
                                    refine jv_getQ (q := 304) G dX8_met_301 fl_X8_56 rfl (hsc.S hS).1 (rf_p17 (hsc.S hS)) rfl ?_
                                    refine jv_iload (q := 306) G 0 dX8_met_304 rfl rfl ?_
                                    refine jv_zald (q := 307) G dX8_met_306 (rf_a17 (hsc.S hS)) rfl (by omega) (by decide) (hsc.M hS Mm528).2.2.2.2.1 rfl ?_
                                    refine jv_iload_n (q := 308) G 8 dX8_met_307 rfl rfl rfl ?_
                                    refine jv_iconst (q := 309) (v := nI 1) G dX8_met_308 (by decide) rfl ?_
                                    refine jv_icmp_eqN (q := 312) (tgt := 317) G dX8_met_309 (by decide) rfl (by omega) (by omega) (fun c533 => ?_) (fun c533 => ?_)
                                    · omega
                                    · refine jv_iload_n (q := 313) G 8 dX8_met_312 rfl rfl rfl ?_
                                      refine jv_iconst (q := 314) (v := nI 3) G dX8_met_313 (by decide) rfl ?_
                                      refine jv_icmp_neN (q := 317) (tgt := 321) G dX8_met_314 (by decide) rfl (by omega) (by omega) (fun c534 => ?_) (fun c534 => ?_)
                                      · omega
                                      · refine jv_iconst (q := 318) (v := nI 1) G dX8_met_317 (by decide) rfl ?_
                                        refine jv_goto (q := 322) G dX8_met_318 (by decide) ?_
                                        refine jv_icmp_eq (q := 325) (tgt := 327) G dX8_met_322 (by decide) rfl (fun c535 => ?_) (fun c535 => ?_)
                                        · refine jv_iload (q := 329) G 2 dX8_met_327 rfl rfl ?_
                                          refine jv_if_neN (q := 332) (tgt := 357) G dX8_met_329 (by decide) rfl (by omega) (fun c536 => ?_) (fun c536 => ?_)
                                          · omega
                                          · refine jv_aload_n (q := 333) G 5 dX8_met_332 rfl rfl rfl ?_
                                            refine jv_iload_n (q := 334) G 8 dX8_met_333 rfl rfl rfl ?_
                                            refine jv_iconst (q := 335) (v := nI 3) G dX8_met_334 (by decide) rfl ?_
                                            refine jv_icmp_neN (q := 338) (tgt := 351) G dX8_met_335 (by decide) rfl (by omega) (by omega) (fun c537 => ?_) (fun c537 => ?_)
                                            · omega
                                            · refine jv_aload_n (q := 339) G 5 dX8_met_338 rfl rfl rfl ?_
                                              refine jv_getQ (q := 342) G dX8_met_339 fl_X8_17 rfl (hsc.S hS).1 (rf_p4 (hsc.S hS)) rfl ?_
                                              refine jv_iload (q := 344) G 0 dX8_met_342 rfl rfl ?_
                                              refine jv_callS_I (q := 347) (h1 := h523) (As := [.int (nI (6 * (10 * e + p526.1) + p526.2))]) (rest := [.ref (q 4), .ref x]) (ce' := 0) (sl' := 0) (r := nI ((6 * (10 * e + p526.1) + p526.2) / 6)) G Z ml_X8_183 (r_typeOf hlt (by omega)) dX8_met_344 rfl (by decide) (by decide) (by decide) (by decide) (Nat.le_of_ble_eq_true rfl) rfl rfl rfl rfl ?_
                                              refine jv_topI (y := nI (10 * e + p526.1)) (congrArg nI (by omega)) ?_
                                              refine jv_iald (q := 348) G dX8_met_347 (rf_a4 (hsc.S hS)) rfl (by omega) (by decide) (rt_4 (hsc.T hS Tt527)) rfl ?_
                                              refine jv_goto (q := 352) G dX8_met_348 (by decide) ?_
                                              refine jv_putI (q := 355) G dX8_met_352 fl_X8_192 rfl (hsc.S hS).1 rfl ?_
                                              have hr1 : rs x q h523 (jv_wI h523 x 32 (nI (mt_n t527))) := rs.rf.wI (nI (mt_n t527)) (Or.inl ⟨rfl, Or.inr (Or.inl rfl)⟩)
                                              have hran : jv_I (jv_wI h523 x 32 (nI (mt_n t527))) x 32 = (nI (mt_n t527)) := jv_I_self _ _ _ _
                                              have hSb := hsc.S hS
                                              have hE := hr1.E hSb (hsc.E hS hE)
                                              have hV := hr1.V hSb (hsc.V hS hV)
                                              have hEC := hr1.E hSb (hsc.E hS hEC)
                                              have hVC := hr1.V hSb (hsc.V hS hVC)
                                              have hce := (wx_I hSb 22 (by decide) rfl 32 c (nI (mt_n t527))).trans ((hsc.I2 hS 22 (by decide) rfl (by decide) c).trans hce)
                                              have hpk := (wx_I hSb 23 (by decide) rfl 32 c (nI (mt_n t527))).trans ((hsc.I2 hS 23 (by decide) rfl (by decide) c).trans hpk)
                                              have hsu := (wx_I hSb 24 (by decide) rfl 32 c (nI (mt_n t527))).trans ((hsc.I2 hS 24 (by decide) rfl (by decide) c).trans hsu)
                                              have hrs := (hrs.tr hsc.rs).tr hr1
                                              have hS := hr1.S hSb
                                              generalize jv_wI h523 x 32 (nI (mt_n t527)) = h538 at hran hE hV hEC hVC hce hpk hsu hrs hS ⊢
                                              have hsc : sc x q h538 h538 := sc.rf
                                              refine jv_iconst (q := 356) (v := nI 0) G dX8_met_355 (by decide) rfl ?_
                                              refine jv_iret G hr dX8_met_356 (Nat.le_of_ble_eq_true rfl) (Nat.le_of_ble_eq_true rfl) ?_
                                              have hz : (m_met (decide (e = ec)) tsC ts pk su 3 ty n s rc) = (0, some (mt_n t527)) := by
                                                unfold m_met m_isC m_bd
                                                simp only [*, if_true, if_false, Bool.false_eq_true, reduceIte, Option.map_some, decide_true, decide_false, not_true_eq_false, not_false_eq_true, and_true, true_and, and_false, false_and, or_true, true_or, or_false, false_or, Bool.or_true, Bool.or_false, Bool.true_or, Bool.false_or, reduceCtorEq] <;> first | rfl | (simp_all; done) | (split <;> simp_all)
                                              exact ⟨by rw [hz], hrs.tr hsc.rs, by rw [hz]; exact (hsc.x hS 32).trans hran⟩
                                        · refine jv_iconst (q := 326) (v := nI 4) G dX8_met_325 (by decide) rfl ?_
                                          refine jv_iret G hr dX8_met_326 (Nat.le_of_ble_eq_true rfl) (Nat.le_of_ble_eq_true rfl) ?_
                                          have hz : (m_met (decide (e = ec)) tsC ts pk su 3 ty n s rc) = (4, none) := by
                                            unfold m_met m_isC m_bd
                                            simp only [*, if_true, if_false, Bool.false_eq_true, reduceIte, Option.map_some, decide_true, decide_false, not_true_eq_false, not_false_eq_true, and_true, true_and, and_false, false_and, or_true, true_or, or_false, false_or, Bool.or_true, Bool.or_false, Bool.true_or, Bool.false_or, reduceCtorEq] <;> first | rfl | (simp_all; done) | (split <;> simp_all)
                                          exact ⟨by rw [hz], hrs.tr hsc.rs, by rw [hz]; exact (hsc.x hS 32).trans hran⟩
                                  · refine jv_iconst (q := 299) (v := nI 3) G dX8_met_298 (by decide) rfl ?_
                                    refine jv_iret G hr dX8_met_299 (Nat.le_of_ble_eq_true rfl) (Nat.le_of_ble_eq_true rfl) ?_
                                    have hz : (m_met (decide (e = ec)) tsC ts pk su 3 ty n s rc) = (3, none) := by
                                      unfold m_met m_isC m_bd
                                      simp only [*, if_true, if_false, Bool.false_eq_true, reduceIte, Option.map_some, decide_true, decide_false, not_true_eq_false, not_false_eq_true, and_true, true_and, and_false, false_and, or_true, true_or, or_false, false_or, Bool.or_true, Bool.or_false, Bool.true_or, Bool.false_or, reduceCtorEq] <;> first | rfl | (simp_all; done) | (split <;> simp_all)
                                    exact ⟨by rw [hz], hrs.tr hsc.rs, by rw [hz]; exact (hsc.x hS 32).trans hran⟩
                                · exact absurd c531 (jv_nI_m1 (by omega))
                            · omega
                          · omega
                        · omega
                      · omega
                    · refine jv_aload_n (q := 176) G 4 dX8_met_175 rfl rfl rfl ?_
                      refine jv_getQ (q := 179) G dX8_met_176 fl_X8_26 rfl (hsc.S hS).1 (rf_p7 (hsc.S hS)) rfl ?_
                      refine jv_iload (q := 181) G 3 dX8_met_179 rfl rfl ?_
                      refine jv_iald (q := 182) G dX8_met_181 (rf_a7 (hsc.S hS)) rfl (by omega) (by decide) (rt_7 (hsc.T hS Tt498)) rfl ?_
                      refine jv_aload_n (q := 183) G 4 dX8_met_182 rfl rfl rfl ?_
                      refine jv_getQ (q := 186) G dX8_met_183 fl_X8_71 rfl (hsc.S hS).1 (rf_p23 (hsc.S hS)) rfl ?_
                      refine jv_iload_n (q := 187) G 5 dX8_met_186 rfl rfl rfl ?_
                      refine jv_iald (q := 188) G dX8_met_187 (rf_a23 (hsc.S hS)) rfl (by omega) (by decide) rfl rfl ?_
                      refine jv_icmp_eq (q := 191) (tgt := 193) G dX8_met_188 (by decide) rfl (fun c539 => ?_) (fun c539 => ?_)
                      · refine jv_iload_n (q := 194) G 7 dX8_met_193 rfl rfl rfl ?_
                        refine jv_iconst (q := 195) (v := nI 2) G dX8_met_194 (by decide) rfl ?_
                        refine jv_icmp_neN (q := 198) (tgt := 208) G dX8_met_195 (by decide) rfl (by omega) (by omega) (fun c540 => ?_) (fun c540 => ?_)
                        · refine jv_iload_n (q := 209) G 7 dX8_met_208 rfl rfl rfl ?_
                          refine jv_iconst (q := 210) (v := nI 4) G dX8_met_209 (by decide) rfl ?_
                          refine jv_icmp_neN (q := 213) (tgt := 226) G dX8_met_210 (by decide) rfl (by omega) (by omega) (fun c541 => ?_) (fun c541 => ?_)
                          · refine jv_iload_n (q := 227) G 7 dX8_met_226 rfl rfl rfl ?_
                            refine jv_iconst (q := 228) (v := nI 5) G dX8_met_227 (by decide) rfl ?_
                            refine jv_icmp_neN (q := 231) (tgt := 247) G dX8_met_228 (by decide) rfl (by omega) (by omega) (fun c542 => ?_) (fun c542 => ?_)
                            · refine jv_iload_n (q := 248) G 7 dX8_met_247 rfl rfl rfl ?_
                              refine jv_iconst (q := 249) (v := nI 2) G dX8_met_248 (by decide) rfl ?_
                              refine jv_icmp_geN (q := 252) (tgt := 266) G dX8_met_249 (by decide) rfl (by omega) (by omega) (fun c543 => ?_) (fun c543 => ?_)
                              · refine jv_aload_n (q := 267) G 4 dX8_met_266 rfl rfl rfl ?_
                                refine jv_iload_n (q := 268) G 6 dX8_met_267 rfl rfl rfl ?_
                                refine jv_iload (q := 270) G 3 dX8_met_268 rfl rfl ?_
                                refine jv_iload (q := 272) G 9 dX8_met_270 rfl rfl ?_
                                refine jv_iload (q := 274) G 10 dX8_met_272 rfl rfl ?_
                                refine jv_callV (q := 277) (As := [.int (nI e), .int (nI (10 * e + k497)), .int n, .int s]) (rest := []) G Z ml_X8_186 (r_findMethod (d := 11) hlt hsc hS he hE hV ht498 (hg k497 (by omega))) (hsc.S hS).1 dX8_met_274 rfl (by decide) (by decide) (by decide) (by decide) (Nat.le_of_ble_eq_true rfl) rfl rfl (fun v545 h544 y546 => ?_) (fun _ _ hx => hx.elim)
                                obtain ⟨rfl, hsc⟩ := y546
                                show jv_V E 14 h544 0 0 (jv_Q E (fun v h' => v = some (.int (nI (m_met (decide (e = ec)) tsC ts pk su 3 ty n s rc).1)) ∧ rs x q h h' ∧ jv_I h' x 32 = jv_oN (m_met (decide (e = ec)) tsC ts pk su 3 ty n s rc).2) jv_no 0 0) 277 [(11, .int (-1)), (10, .int (nI 0)), (9, .int (-1)), (8, .int (nI (10 * e + k497))), (0, .ref x), (1, .int (nI c)), (2, .int (nI e)), (3, .int (nI 3)), (4, .int ty), (5, .int n), (6, .int s), (7, .int rc)] [.int (ffE e (m_fm ts 11 k497 n s))]
                                rcases Option.eq_none_or_eq_some (m_fm ts 11 k497 n s) with hp550 | ⟨p547, hp550⟩
                                · refine jv_topI (y := (-1)) (by rw [hp550]; rfl) ?_
                                  refine jv_istore (q := 279) (lo' := [(12, .int (-1)), (11, .int (-1)), (10, .int (nI 0)), (9, .int (-1)), (8, .int (nI (10 * e + k497))), (0, .ref x), (1, .int (nI c)), (2, .int (nI e)), (3, .int (nI 3)), (4, .int ty), (5, .int n), (6, .int s), (7, .int rc)]) G dX8_met_277 (by decide) rfl rfl ?_
                                  refine jv_iload (q := 281) G 0 dX8_met_279 rfl rfl ?_
                                  refine jv_iconst (q := 282) (v := (-1)) G dX8_met_281 (by decide) rfl ?_
                                  refine jv_icmp_ne (q := 285) (tgt := 287) G dX8_met_282 (by decide) rfl (fun c551 => ?_) (fun c551 => ?_)
                                  · exact absurd rfl c551
                                  · refine jv_iconst (q := 286) (v := nI 2) G dX8_met_285 (by decide) rfl ?_
                                    refine jv_iret G hr dX8_met_286 (Nat.le_of_ble_eq_true rfl) (Nat.le_of_ble_eq_true rfl) ?_
                                    have hz : (m_met (decide (e = ec)) tsC ts pk su 3 ty n s rc) = (2, none) := by
                                      unfold m_met m_isC m_bd
                                      simp only [*, if_true, if_false, Bool.false_eq_true, reduceIte, Option.map_some, decide_true, decide_false, not_true_eq_false, not_false_eq_true, and_true, true_and, and_false, false_and, or_true, true_or, or_false, false_or, Bool.or_true, Bool.or_false, Bool.true_or, Bool.false_or, reduceCtorEq] <;> first | rfl | (simp_all; done) | (split <;> simp_all)
                                    exact ⟨by rw [hz], hrs.tr hsc.rs, by rw [hz]; exact (hsc.x hS 32).trans hran⟩
                                · refine jv_topI (y := nI (6 * (10 * e + p547.1) + p547.2)) (by rw [hp550]; rfl) ?_
                                  obtain ⟨t548, ht548, m549, hm549⟩ := m_fm_mem hp550
                                  have Tt548 := (hE.2.2 p547.1 t548 ht548).1
                                  have Ot548 := (hE.2.2 p547.1 t548 ht548).2
                                  have Lt548 := hE.2.1
                                  have lt548 := jv_ltGet ht548
                                  have Mm549 := rt_m Tt548 hm549
                                  have Om549 := Ot548.2.2.2.2.2.2 m549 (List.mem_of_getElem? hm549)
                                  have Lm549 := Ot548.2.2.2.2.2.1
                                  have lm549 := jv_ltGet hm549
                                  have Bm549n := Om549.1; have Bm549s := Om549.2.1; have Bm549a := Om549.2.2.1; have Bt548n := Ot548.1; have Bt548k := Ot548.2.1
                                  refine jv_istore (q := 279) (lo' := [(12, .int (nI (6 * (10 * e + p547.1) + p547.2))), (11, .int (-1)), (10, .int (nI 0)), (9, .int (-1)), (8, .int (nI (10 * e + k497))), (0, .ref x), (1, .int (nI c)), (2, .int (nI e)), (3, .int (nI 3)), (4, .int ty), (5, .int n), (6, .int s), (7, .int rc)]) G dX8_met_277 (by decide) rfl rfl ?_
                                  refine jv_iload (q := 281) G 0 dX8_met_279 rfl rfl ?_
                                  refine jv_iconst (q := 282) (v := (-1)) G dX8_met_281 (by decide) rfl ?_
                                  refine jv_icmp_ne (q := 285) (tgt := 287) G dX8_met_282 (by decide) rfl (fun c552 => ?_) (fun c552 => ?_)
                                  · refine jv_aload_n (q := 288) G 5 dX8_met_287 rfl rfl rfl ?_
                                    refine jv_iload_n (q := 289) G 6 dX8_met_288 rfl rfl rfl ?_
                                    refine jv_iload_n (q := 290) G 7 dX8_met_289 rfl rfl rfl ?_
                                    refine jv_iload (q := 292) G 0 dX8_met_290 rfl rfl ?_
                                    refine jv_callV_I (q := 295) (h1 := h544) (As := [.int (nI c), .int (nI e), .int (nI (6 * (10 * e + p547.1) + p547.2))]) (rest := []) (ce' := 0) (sl' := 0) (r := jv_bI (m_mr ts pk su t548 m549)) G Z ml_X8_199 (r_mayReach hlt hsc hS hc he hE hV ht548 hm549 hpk hpk5 hsu hsu16) (hsc.S hS).1 dX8_met_292 rfl (by decide) (by decide) (by decide) (by decide) (Nat.le_of_ble_eq_true rfl) rfl rfl rfl rfl ?_
                                    refine jv_if_neB (q := 298) (tgt := 300) G dX8_met_295 (by decide) rfl (fun c553 => ?_) (fun c553 => ?_)
                                    · refine jv_aload_n (q := 301) G 5 dX8_met_300 rfl rfl rfl ?_
                                      refine jv_getQ (q := 304) G dX8_met_301 fl_X8_56 rfl (hsc.S hS).1 (rf_p17 (hsc.S hS)) rfl ?_
                                      refine jv_iload (q := 306) G 0 dX8_met_304 rfl rfl ?_
                                      refine jv_zald (q := 307) G dX8_met_306 (rf_a17 (hsc.S hS)) rfl (by omega) (by decide) (hsc.M hS Mm549).2.2.2.2.1 rfl ?_
                                      refine jv_iload_n (q := 308) G 8 dX8_met_307 rfl rfl rfl ?_
                                      refine jv_iconst (q := 309) (v := nI 1) G dX8_met_308 (by decide) rfl ?_
                                      refine jv_icmp_eqN (q := 312) (tgt := 317) G dX8_met_309 (by decide) rfl (by omega) (by omega) (fun c554 => ?_) (fun c554 => ?_)
                                      · omega
                                      · refine jv_iload_n (q := 313) G 8 dX8_met_312 rfl rfl rfl ?_
                                        refine jv_iconst (q := 314) (v := nI 3) G dX8_met_313 (by decide) rfl ?_
                                        refine jv_icmp_neN (q := 317) (tgt := 321) G dX8_met_314 (by decide) rfl (by omega) (by omega) (fun c555 => ?_) (fun c555 => ?_)
                                        · omega
                                        · refine jv_iconst (q := 318) (v := nI 1) G dX8_met_317 (by decide) rfl ?_
                                          refine jv_goto (q := 322) G dX8_met_318 (by decide) ?_
                                          refine jv_icmp_eq (q := 325) (tgt := 327) G dX8_met_322 (by decide) rfl (fun c556 => ?_) (fun c556 => ?_)
                                          · refine jv_iload (q := 329) G 2 dX8_met_327 rfl rfl ?_
                                            refine jv_if_neN (q := 332) (tgt := 357) G dX8_met_329 (by decide) rfl (by omega) (fun c557 => ?_) (fun c557 => ?_)
                                            · omega
                                            · refine jv_aload_n (q := 333) G 5 dX8_met_332 rfl rfl rfl ?_
                                              refine jv_iload_n (q := 334) G 8 dX8_met_333 rfl rfl rfl ?_
                                              refine jv_iconst (q := 335) (v := nI 3) G dX8_met_334 (by decide) rfl ?_
                                              refine jv_icmp_neN (q := 338) (tgt := 351) G dX8_met_335 (by decide) rfl (by omega) (by omega) (fun c558 => ?_) (fun c558 => ?_)
                                              · omega
                                              · refine jv_aload_n (q := 339) G 5 dX8_met_338 rfl rfl rfl ?_
                                                refine jv_getQ (q := 342) G dX8_met_339 fl_X8_17 rfl (hsc.S hS).1 (rf_p4 (hsc.S hS)) rfl ?_
                                                refine jv_iload (q := 344) G 0 dX8_met_342 rfl rfl ?_
                                                refine jv_callS_I (q := 347) (h1 := h544) (As := [.int (nI (6 * (10 * e + p547.1) + p547.2))]) (rest := [.ref (q 4), .ref x]) (ce' := 0) (sl' := 0) (r := nI ((6 * (10 * e + p547.1) + p547.2) / 6)) G Z ml_X8_183 (r_typeOf hlt (by omega)) dX8_met_344 rfl (by decide) (by decide) (by decide) (by decide) (Nat.le_of_ble_eq_true rfl) rfl rfl rfl rfl ?_
                                                refine jv_topI (y := nI (10 * e + p547.1)) (congrArg nI (by omega)) ?_
                                                refine jv_iald (q := 348) G dX8_met_347 (rf_a4 (hsc.S hS)) rfl (by omega) (by decide) (rt_4 (hsc.T hS Tt548)) rfl ?_
                                                refine jv_goto (q := 352) G dX8_met_348 (by decide) ?_
                                                refine jv_putI (q := 355) G dX8_met_352 fl_X8_192 rfl (hsc.S hS).1 rfl ?_
                                                have hr1 : rs x q h544 (jv_wI h544 x 32 (nI (mt_n t548))) := rs.rf.wI (nI (mt_n t548)) (Or.inl ⟨rfl, Or.inr (Or.inl rfl)⟩)
                                                have hran : jv_I (jv_wI h544 x 32 (nI (mt_n t548))) x 32 = (nI (mt_n t548)) := jv_I_self _ _ _ _
                                                have hSb := hsc.S hS
                                                have hE := hr1.E hSb (hsc.E hS hE)
                                                have hV := hr1.V hSb (hsc.V hS hV)
                                                have hEC := hr1.E hSb (hsc.E hS hEC)
                                                have hVC := hr1.V hSb (hsc.V hS hVC)
                                                have hce := (wx_I hSb 22 (by decide) rfl 32 c (nI (mt_n t548))).trans ((hsc.I2 hS 22 (by decide) rfl (by decide) c).trans hce)
                                                have hpk := (wx_I hSb 23 (by decide) rfl 32 c (nI (mt_n t548))).trans ((hsc.I2 hS 23 (by decide) rfl (by decide) c).trans hpk)
                                                have hsu := (wx_I hSb 24 (by decide) rfl 32 c (nI (mt_n t548))).trans ((hsc.I2 hS 24 (by decide) rfl (by decide) c).trans hsu)
                                                have hrs := (hrs.tr hsc.rs).tr hr1
                                                have hS := hr1.S hSb
                                                generalize jv_wI h544 x 32 (nI (mt_n t548)) = h559 at hran hE hV hEC hVC hce hpk hsu hrs hS ⊢
                                                have hsc : sc x q h559 h559 := sc.rf
                                                refine jv_iconst (q := 356) (v := nI 0) G dX8_met_355 (by decide) rfl ?_
                                                refine jv_iret G hr dX8_met_356 (Nat.le_of_ble_eq_true rfl) (Nat.le_of_ble_eq_true rfl) ?_
                                                have hz : (m_met (decide (e = ec)) tsC ts pk su 3 ty n s rc) = (0, some (mt_n t548)) := by
                                                  unfold m_met m_isC m_bd
                                                  simp only [*, if_true, if_false, Bool.false_eq_true, reduceIte, Option.map_some, decide_true, decide_false, not_true_eq_false, not_false_eq_true, and_true, true_and, and_false, false_and, or_true, true_or, or_false, false_or, Bool.or_true, Bool.or_false, Bool.true_or, Bool.false_or, reduceCtorEq] <;> first | rfl | (simp_all; done) | (split <;> simp_all)
                                                exact ⟨by rw [hz], hrs.tr hsc.rs, by rw [hz]; exact (hsc.x hS 32).trans hran⟩
                                          · refine jv_iconst (q := 326) (v := nI 4) G dX8_met_325 (by decide) rfl ?_
                                            refine jv_iret G hr dX8_met_326 (Nat.le_of_ble_eq_true rfl) (Nat.le_of_ble_eq_true rfl) ?_
                                            have hz : (m_met (decide (e = ec)) tsC ts pk su 3 ty n s rc) = (4, none) := by
                                              unfold m_met m_isC m_bd
                                              simp only [*, if_true, if_false, Bool.false_eq_true, reduceIte, Option.map_some, decide_true, decide_false, not_true_eq_false, not_false_eq_true, and_true, true_and, and_false, false_and, or_true, true_or, or_false, false_or, Bool.or_true, Bool.or_false, Bool.true_or, Bool.false_or, reduceCtorEq] <;> first | rfl | (simp_all; done) | (split <;> simp_all)
                                            exact ⟨by rw [hz], hrs.tr hsc.rs, by rw [hz]; exact (hsc.x hS 32).trans hran⟩
                                    · refine jv_iconst (q := 299) (v := nI 3) G dX8_met_298 (by decide) rfl ?_
                                      refine jv_iret G hr dX8_met_299 (Nat.le_of_ble_eq_true rfl) (Nat.le_of_ble_eq_true rfl) ?_
                                      have hz : (m_met (decide (e = ec)) tsC ts pk su 3 ty n s rc) = (3, none) := by
                                        unfold m_met m_isC m_bd
                                        simp only [*, if_true, if_false, Bool.false_eq_true, reduceIte, Option.map_some, decide_true, decide_false, not_true_eq_false, not_false_eq_true, and_true, true_and, and_false, false_and, or_true, true_or, or_false, false_or, Bool.or_true, Bool.or_false, Bool.true_or, Bool.false_or, reduceCtorEq] <;> first | rfl | (simp_all; done) | (split <;> simp_all)
                                      exact ⟨by rw [hz], hrs.tr hsc.rs, by rw [hz]; exact (hsc.x hS 32).trans hran⟩
                                  · exact absurd c552 (jv_nI_m1 (by omega))
                              · omega
                            · omega
                          · omega
                        · omega
                      · refine jv_iconst (q := 192) (v := nI 3) G dX8_met_191 (by decide) rfl ?_
                        refine jv_iret G hr dX8_met_192 (Nat.le_of_ble_eq_true rfl) (Nat.le_of_ble_eq_true rfl) ?_
                        have hz : (m_met (decide (e = ec)) tsC ts pk su 3 ty n s rc) = (3, none) := by
                          unfold m_met m_isC m_bd
                          simp only [*, if_true, if_false, Bool.false_eq_true, reduceIte, Option.map_some, decide_true, decide_false, not_true_eq_false, not_false_eq_true, and_true, true_and, and_false, false_and, or_true, true_or, or_false, false_or, Bool.or_true, Bool.or_false, Bool.true_or, Bool.false_or, reduceCtorEq] <;> first | rfl | (simp_all; done) | (split <;> simp_all)
                        exact ⟨by rw [hz], hrs.tr hsc.rs, by rw [hz]; exact (hsc.x hS 32).trans hran⟩
                  · omega
              · omega
            · omega
        · exact absurd rfl c512
      · refine jv_aload_n (q := 25) G 1 dX8_met_24 rfl rfl rfl ?_
        refine jv_iload_n (q := 26) G 2 dX8_met_25 rfl rfl rfl ?_
        refine jv_iload_n (q := 27) G 4 dX8_met_26 rfl rfl rfl ?_
        refine jv_iload (q := 29) G 5 dX8_met_27 rfl rfl ?_
        refine jv_iload (q := 31) G 6 dX8_met_29 rfl rfl ?_
        refine jv_iload (q := 33) G 7 dX8_met_31 rfl rfl ?_
        refine jv_callV_I (q := 36) (h1 := h496) (As := [.int (nI c), .int (nI 3), .int ty, .int n, .int s]) (rest := []) (ce' := 0) (sl' := 0) (r := (ffE ec (m_co tsC 3 ty n s))) G Z ml_X8_195 (r_constantOf hlt hsc hS hc hec hEC hce (by decide) hgC) (hsc.S hS).1 dX8_met_33 rfl (by decide) (by decide) (by decide) (by decide) (Nat.le_of_ble_eq_true rfl) rfl rfl rfl rfl ?_
        refine jv_topI (y := (-1)) rfl ?_
        refine jv_goto (q := 40) G dX8_met_36 (by decide) ?_
        refine jv_istore (q := 42) (lo' := [(9, .int (-1)), (8, .int (nI (10 * e + k497))), (0, .ref x), (1, .int (nI c)), (2, .int (nI e)), (3, .int (nI 3)), (4, .int ty), (5, .int n), (6, .int s), (7, .int rc)]) G dX8_met_40 (by decide) rfl rfl ?_
        refine jv_iload (q := 44) G 0 dX8_met_42 rfl rfl ?_
        refine jv_iconst (q := 45) (v := (-1)) G dX8_met_44 (by decide) rfl ?_
        refine jv_icmp_eq (q := 48) (tgt := 111) G dX8_met_45 (by decide) rfl (fun c560 => ?_) (fun c560 => ?_)
        · refine jv_iload_n (q := 112) G 5 dX8_met_111 rfl rfl rfl ?_
          refine jv_iconst (q := 113) (v := nI 2) G dX8_met_112 (by decide) rfl ?_
          refine jv_icmp_eqN (q := 116) (tgt := 121) G dX8_met_113 (by decide) rfl (by omega) (by omega) (fun c561 => ?_) (fun c561 => ?_)
          · omega
          · refine jv_iload_n (q := 117) G 5 dX8_met_116 rfl rfl rfl ?_
            refine jv_iconst (q := 118) (v := nI 4) G dX8_met_117 (by decide) rfl ?_
            refine jv_icmp_neN (q := 121) (tgt := 125) G dX8_met_118 (by decide) rfl (by omega) (by omega) (fun c562 => ?_) (fun c562 => ?_)
            · refine jv_iconst (q := 126) (v := nI 0) G dX8_met_125 (by decide) rfl ?_
              refine jv_istore (q := 128) (lo' := [(10, .int (nI 0)), (9, .int (-1)), (8, .int (nI (10 * e + k497))), (0, .ref x), (1, .int (nI c)), (2, .int (nI e)), (3, .int (nI 3)), (4, .int ty), (5, .int n), (6, .int s), (7, .int rc)]) G dX8_met_126 (by decide) rfl rfl ?_
              refine jv_iload (q := 130) G 0 dX8_met_128 rfl rfl ?_
              refine jv_if_eqN (q := 133) (tgt := 143) G dX8_met_130 (by decide) rfl (by omega) (fun c563 => ?_) (fun c563 => ?_)
              · refine jv_iconst (q := 144) (v := (-1)) G dX8_met_143 (by decide) rfl ?_
                refine jv_istore (q := 146) (lo' := [(11, .int (-1)), (10, .int (nI 0)), (9, .int (-1)), (8, .int (nI (10 * e + k497))), (0, .ref x), (1, .int (nI c)), (2, .int (nI e)), (3, .int (nI 3)), (4, .int ty), (5, .int n), (6, .int s), (7, .int rc)]) G dX8_met_144 (by decide) rfl rfl ?_
                refine jv_iload (q := 148) G 3 dX8_met_146 rfl rfl ?_
                refine jv_iconst (q := 149) (v := (-1)) G dX8_met_148 (by decide) rfl ?_
                refine jv_icmp_eq (q := 152) (tgt := 163) G dX8_met_149 (by decide) rfl (fun c564 => ?_) (fun c564 => ?_)
                · exact absurd c564 (jv_nI_m1 (by omega))
                · refine jv_iload (q := 154) G 1 dX8_met_152 rfl rfl ?_
                  refine jv_if_eqN (q := 157) (tgt := 165) G dX8_met_154 (by decide) rfl (by omega) (fun c565 => ?_) (fun c565 => ?_)
                  · refine jv_aload_n (q := 166) G 4 dX8_met_165 rfl rfl rfl ?_
                    refine jv_getQ (q := 169) G dX8_met_166 fl_X8_29 rfl (hsc.S hS).1 (rf_p8 (hsc.S hS)) rfl ?_
                    refine jv_iload (q := 171) G 3 dX8_met_169 rfl rfl ?_
                    refine jv_zald (q := 172) G dX8_met_171 (rf_a8 (hsc.S hS)) rfl (by omega) (by decide) (rt_8 (hsc.T hS Tt498)) rfl ?_
                    refine jv_if_neB (q := 175) (tgt := 193) G dX8_met_172 (by decide) rfl (fun c566 => ?_) (fun c566 => ?_)
                    · refine jv_iload_n (q := 194) G 7 dX8_met_193 rfl rfl rfl ?_
                      refine jv_iconst (q := 195) (v := nI 2) G dX8_met_194 (by decide) rfl ?_
                      refine jv_icmp_neN (q := 198) (tgt := 208) G dX8_met_195 (by decide) rfl (by omega) (by omega) (fun c567 => ?_) (fun c567 => ?_)
                      · refine jv_iload_n (q := 209) G 7 dX8_met_208 rfl rfl rfl ?_
                        refine jv_iconst (q := 210) (v := nI 4) G dX8_met_209 (by decide) rfl ?_
                        refine jv_icmp_neN (q := 213) (tgt := 226) G dX8_met_210 (by decide) rfl (by omega) (by omega) (fun c568 => ?_) (fun c568 => ?_)
                        · refine jv_iload_n (q := 227) G 7 dX8_met_226 rfl rfl rfl ?_
                          refine jv_iconst (q := 228) (v := nI 5) G dX8_met_227 (by decide) rfl ?_
                          refine jv_icmp_neN (q := 231) (tgt := 247) G dX8_met_228 (by decide) rfl (by omega) (by omega) (fun c569 => ?_) (fun c569 => ?_)
                          · refine jv_iload_n (q := 248) G 7 dX8_met_247 rfl rfl rfl ?_
                            refine jv_iconst (q := 249) (v := nI 2) G dX8_met_248 (by decide) rfl ?_
                            refine jv_icmp_geN (q := 252) (tgt := 266) G dX8_met_249 (by decide) rfl (by omega) (by omega) (fun c570 => ?_) (fun c570 => ?_)
                            · refine jv_aload_n (q := 267) G 4 dX8_met_266 rfl rfl rfl ?_
                              refine jv_iload_n (q := 268) G 6 dX8_met_267 rfl rfl rfl ?_
                              refine jv_iload (q := 270) G 3 dX8_met_268 rfl rfl ?_
                              refine jv_iload (q := 272) G 9 dX8_met_270 rfl rfl ?_
                              refine jv_iload (q := 274) G 10 dX8_met_272 rfl rfl ?_
                              refine jv_callV (q := 277) (As := [.int (nI e), .int (nI (10 * e + k497)), .int n, .int s]) (rest := []) G Z ml_X8_186 (r_findMethod (d := 11) hlt hsc hS he hE hV ht498 (hg k497 (by omega))) (hsc.S hS).1 dX8_met_274 rfl (by decide) (by decide) (by decide) (by decide) (Nat.le_of_ble_eq_true rfl) rfl rfl (fun v572 h571 y573 => ?_) (fun _ _ hx => hx.elim)
                              obtain ⟨rfl, hsc⟩ := y573
                              show jv_V E 14 h571 0 0 (jv_Q E (fun v h' => v = some (.int (nI (m_met (decide (e = ec)) tsC ts pk su 3 ty n s rc).1)) ∧ rs x q h h' ∧ jv_I h' x 32 = jv_oN (m_met (decide (e = ec)) tsC ts pk su 3 ty n s rc).2) jv_no 0 0) 277 [(11, .int (-1)), (10, .int (nI 0)), (9, .int (-1)), (8, .int (nI (10 * e + k497))), (0, .ref x), (1, .int (nI c)), (2, .int (nI e)), (3, .int (nI 3)), (4, .int ty), (5, .int n), (6, .int s), (7, .int rc)] [.int (ffE e (m_fm ts 11 k497 n s))]
                              rcases Option.eq_none_or_eq_some (m_fm ts 11 k497 n s) with hp577 | ⟨p574, hp577⟩
                              · refine jv_topI (y := (-1)) (by rw [hp577]; rfl) ?_
                                refine jv_istore (q := 279) (lo' := [(12, .int (-1)), (11, .int (-1)), (10, .int (nI 0)), (9, .int (-1)), (8, .int (nI (10 * e + k497))), (0, .ref x), (1, .int (nI c)), (2, .int (nI e)), (3, .int (nI 3)), (4, .int ty), (5, .int n), (6, .int s), (7, .int rc)]) G dX8_met_277 (by decide) rfl rfl ?_
                                refine jv_iload (q := 281) G 0 dX8_met_279 rfl rfl ?_
                                refine jv_iconst (q := 282) (v := (-1)) G dX8_met_281 (by decide) rfl ?_
                                refine jv_icmp_ne (q := 285) (tgt := 287) G dX8_met_282 (by decide) rfl (fun c578 => ?_) (fun c578 => ?_)
                                · exact absurd rfl c578
                                · refine jv_iconst (q := 286) (v := nI 2) G dX8_met_285 (by decide) rfl ?_
                                  refine jv_iret G hr dX8_met_286 (Nat.le_of_ble_eq_true rfl) (Nat.le_of_ble_eq_true rfl) ?_
                                  have hz : (m_met (decide (e = ec)) tsC ts pk su 3 ty n s rc) = (2, none) := by
                                    unfold m_met m_isC m_bd
                                    simp only [*, if_true, if_false, Bool.false_eq_true, reduceIte, Option.map_some, decide_true, decide_false, not_true_eq_false, not_false_eq_true, and_true, true_and, and_false, false_and, or_true, true_or, or_false, false_or, Bool.or_true, Bool.or_false, Bool.true_or, Bool.false_or, reduceCtorEq] <;> first | rfl | (simp_all; done) | (split <;> simp_all)
                                  exact ⟨by rw [hz], hrs.tr hsc.rs, by rw [hz]; exact (hsc.x hS 32).trans hran⟩
                              · refine jv_topI (y := nI (6 * (10 * e + p574.1) + p574.2)) (by rw [hp577]; rfl) ?_
                                obtain ⟨t575, ht575, m576, hm576⟩ := m_fm_mem hp577
                                have Tt575 := (hE.2.2 p574.1 t575 ht575).1
                                have Ot575 := (hE.2.2 p574.1 t575 ht575).2
                                have Lt575 := hE.2.1
                                have lt575 := jv_ltGet ht575
                                have Mm576 := rt_m Tt575 hm576
                                have Om576 := Ot575.2.2.2.2.2.2 m576 (List.mem_of_getElem? hm576)
                                have Lm576 := Ot575.2.2.2.2.2.1
                                have lm576 := jv_ltGet hm576
                                have Bm576n := Om576.1; have Bm576s := Om576.2.1; have Bm576a := Om576.2.2.1; have Bt575n := Ot575.1; have Bt575k := Ot575.2.1
                                refine jv_istore (q := 279) (lo' := [(12, .int (nI (6 * (10 * e + p574.1) + p574.2))), (11, .int (-1)), (10, .int (nI 0)), (9, .int (-1)), (8, .int (nI (10 * e + k497))), (0, .ref x), (1, .int (nI c)), (2, .int (nI e)), (3, .int (nI 3)), (4, .int ty), (5, .int n), (6, .int s), (7, .int rc)]) G dX8_met_277 (by decide) rfl rfl ?_
                                refine jv_iload (q := 281) G 0 dX8_met_279 rfl rfl ?_
                                refine jv_iconst (q := 282) (v := (-1)) G dX8_met_281 (by decide) rfl ?_
                                refine jv_icmp_ne (q := 285) (tgt := 287) G dX8_met_282 (by decide) rfl (fun c579 => ?_) (fun c579 => ?_)
                                · refine jv_aload_n (q := 288) G 5 dX8_met_287 rfl rfl rfl ?_
                                  refine jv_iload_n (q := 289) G 6 dX8_met_288 rfl rfl rfl ?_
                                  refine jv_iload_n (q := 290) G 7 dX8_met_289 rfl rfl rfl ?_
                                  refine jv_iload (q := 292) G 0 dX8_met_290 rfl rfl ?_
                                  refine jv_callV_I (q := 295) (h1 := h571) (As := [.int (nI c), .int (nI e), .int (nI (6 * (10 * e + p574.1) + p574.2))]) (rest := []) (ce' := 0) (sl' := 0) (r := jv_bI (m_mr ts pk su t575 m576)) G Z ml_X8_199 (r_mayReach hlt hsc hS hc he hE hV ht575 hm576 hpk hpk5 hsu hsu16) (hsc.S hS).1 dX8_met_292 rfl (by decide) (by decide) (by decide) (by decide) (Nat.le_of_ble_eq_true rfl) rfl rfl rfl rfl ?_
                                  refine jv_if_neB (q := 298) (tgt := 300) G dX8_met_295 (by decide) rfl (fun c580 => ?_) (fun c580 => ?_)
                                  · refine jv_aload_n (q := 301) G 5 dX8_met_300 rfl rfl rfl ?_
                                    refine jv_getQ (q := 304) G dX8_met_301 fl_X8_56 rfl (hsc.S hS).1 (rf_p17 (hsc.S hS)) rfl ?_
                                    refine jv_iload (q := 306) G 0 dX8_met_304 rfl rfl ?_
                                    refine jv_zald (q := 307) G dX8_met_306 (rf_a17 (hsc.S hS)) rfl (by omega) (by decide) (hsc.M hS Mm576).2.2.2.2.1 rfl ?_
                                    refine jv_iload_n (q := 308) G 8 dX8_met_307 rfl rfl rfl ?_
                                    refine jv_iconst (q := 309) (v := nI 1) G dX8_met_308 (by decide) rfl ?_
                                    refine jv_icmp_eqN (q := 312) (tgt := 317) G dX8_met_309 (by decide) rfl (by omega) (by omega) (fun c581 => ?_) (fun c581 => ?_)
                                    · omega
                                    · refine jv_iload_n (q := 313) G 8 dX8_met_312 rfl rfl rfl ?_
                                      refine jv_iconst (q := 314) (v := nI 3) G dX8_met_313 (by decide) rfl ?_
                                      refine jv_icmp_neN (q := 317) (tgt := 321) G dX8_met_314 (by decide) rfl (by omega) (by omega) (fun c582 => ?_) (fun c582 => ?_)
                                      · omega
                                      · refine jv_iconst (q := 318) (v := nI 1) G dX8_met_317 (by decide) rfl ?_
                                        refine jv_goto (q := 322) G dX8_met_318 (by decide) ?_
                                        refine jv_icmp_eq (q := 325) (tgt := 327) G dX8_met_322 (by decide) rfl (fun c583 => ?_) (fun c583 => ?_)
                                        · refine jv_iload (q := 329) G 2 dX8_met_327 rfl rfl ?_
                                          refine jv_if_neN (q := 332) (tgt := 357) G dX8_met_329 (by decide) rfl (by omega) (fun c584 => ?_) (fun c584 => ?_)
                                          · omega
                                          · refine jv_aload_n (q := 333) G 5 dX8_met_332 rfl rfl rfl ?_
                                            refine jv_iload_n (q := 334) G 8 dX8_met_333 rfl rfl rfl ?_
                                            refine jv_iconst (q := 335) (v := nI 3) G dX8_met_334 (by decide) rfl ?_
                                            refine jv_icmp_neN (q := 338) (tgt := 351) G dX8_met_335 (by decide) rfl (by omega) (by omega) (fun c585 => ?_) (fun c585 => ?_)
                                            · omega
                                            · refine jv_aload_n (q := 339) G 5 dX8_met_338 rfl rfl rfl ?_
                                              refine jv_getQ (q := 342) G dX8_met_339 fl_X8_17 rfl (hsc.S hS).1 (rf_p4 (hsc.S hS)) rfl ?_
                                              refine jv_iload (q := 344) G 0 dX8_met_342 rfl rfl ?_
                                              refine jv_callS_I (q := 347) (h1 := h571) (As := [.int (nI (6 * (10 * e + p574.1) + p574.2))]) (rest := [.ref (q 4), .ref x]) (ce' := 0) (sl' := 0) (r := nI ((6 * (10 * e + p574.1) + p574.2) / 6)) G Z ml_X8_183 (r_typeOf hlt (by omega)) dX8_met_344 rfl (by decide) (by decide) (by decide) (by decide) (Nat.le_of_ble_eq_true rfl) rfl rfl rfl rfl ?_
                                              refine jv_topI (y := nI (10 * e + p574.1)) (congrArg nI (by omega)) ?_
                                              refine jv_iald (q := 348) G dX8_met_347 (rf_a4 (hsc.S hS)) rfl (by omega) (by decide) (rt_4 (hsc.T hS Tt575)) rfl ?_
                                              refine jv_goto (q := 352) G dX8_met_348 (by decide) ?_
                                              refine jv_putI (q := 355) G dX8_met_352 fl_X8_192 rfl (hsc.S hS).1 rfl ?_
                                              have hr1 : rs x q h571 (jv_wI h571 x 32 (nI (mt_n t575))) := rs.rf.wI (nI (mt_n t575)) (Or.inl ⟨rfl, Or.inr (Or.inl rfl)⟩)
                                              have hran : jv_I (jv_wI h571 x 32 (nI (mt_n t575))) x 32 = (nI (mt_n t575)) := jv_I_self _ _ _ _
                                              have hSb := hsc.S hS
                                              have hE := hr1.E hSb (hsc.E hS hE)
                                              have hV := hr1.V hSb (hsc.V hS hV)
                                              have hEC := hr1.E hSb (hsc.E hS hEC)
                                              have hVC := hr1.V hSb (hsc.V hS hVC)
                                              have hce := (wx_I hSb 22 (by decide) rfl 32 c (nI (mt_n t575))).trans ((hsc.I2 hS 22 (by decide) rfl (by decide) c).trans hce)
                                              have hpk := (wx_I hSb 23 (by decide) rfl 32 c (nI (mt_n t575))).trans ((hsc.I2 hS 23 (by decide) rfl (by decide) c).trans hpk)
                                              have hsu := (wx_I hSb 24 (by decide) rfl 32 c (nI (mt_n t575))).trans ((hsc.I2 hS 24 (by decide) rfl (by decide) c).trans hsu)
                                              have hrs := (hrs.tr hsc.rs).tr hr1
                                              have hS := hr1.S hSb
                                              generalize jv_wI h571 x 32 (nI (mt_n t575)) = h586 at hran hE hV hEC hVC hce hpk hsu hrs hS ⊢
                                              have hsc : sc x q h586 h586 := sc.rf
                                              refine jv_iconst (q := 356) (v := nI 0) G dX8_met_355 (by decide) rfl ?_
                                              refine jv_iret G hr dX8_met_356 (Nat.le_of_ble_eq_true rfl) (Nat.le_of_ble_eq_true rfl) ?_
                                              have hz : (m_met (decide (e = ec)) tsC ts pk su 3 ty n s rc) = (0, some (mt_n t575)) := by
                                                unfold m_met m_isC m_bd
                                                simp only [*, if_true, if_false, Bool.false_eq_true, reduceIte, Option.map_some, decide_true, decide_false, not_true_eq_false, not_false_eq_true, and_true, true_and, and_false, false_and, or_true, true_or, or_false, false_or, Bool.or_true, Bool.or_false, Bool.true_or, Bool.false_or, reduceCtorEq] <;> first | rfl | (simp_all; done) | (split <;> simp_all)
                                              exact ⟨by rw [hz], hrs.tr hsc.rs, by rw [hz]; exact (hsc.x hS 32).trans hran⟩
                                        · refine jv_iconst (q := 326) (v := nI 4) G dX8_met_325 (by decide) rfl ?_
                                          refine jv_iret G hr dX8_met_326 (Nat.le_of_ble_eq_true rfl) (Nat.le_of_ble_eq_true rfl) ?_
                                          have hz : (m_met (decide (e = ec)) tsC ts pk su 3 ty n s rc) = (4, none) := by
                                            unfold m_met m_isC m_bd
                                            simp only [*, if_true, if_false, Bool.false_eq_true, reduceIte, Option.map_some, decide_true, decide_false, not_true_eq_false, not_false_eq_true, and_true, true_and, and_false, false_and, or_true, true_or, or_false, false_or, Bool.or_true, Bool.or_false, Bool.true_or, Bool.false_or, reduceCtorEq] <;> first | rfl | (simp_all; done) | (split <;> simp_all)
                                          exact ⟨by rw [hz], hrs.tr hsc.rs, by rw [hz]; exact (hsc.x hS 32).trans hran⟩
                                  · refine jv_iconst (q := 299) (v := nI 3) G dX8_met_298 (by decide) rfl ?_
                                    refine jv_iret G hr dX8_met_299 (Nat.le_of_ble_eq_true rfl) (Nat.le_of_ble_eq_true rfl) ?_
                                    have hz : (m_met (decide (e = ec)) tsC ts pk su 3 ty n s rc) = (3, none) := by
                                      unfold m_met m_isC m_bd
                                      simp only [*, if_true, if_false, Bool.false_eq_true, reduceIte, Option.map_some, decide_true, decide_false, not_true_eq_false, not_false_eq_true, and_true, true_and, and_false, false_and, or_true, true_or, or_false, false_or, Bool.or_true, Bool.or_false, Bool.true_or, Bool.false_or, reduceCtorEq] <;> first | rfl | (simp_all; done) | (split <;> simp_all)
                                    exact ⟨by rw [hz], hrs.tr hsc.rs, by rw [hz]; exact (hsc.x hS 32).trans hran⟩
                                · exact absurd c579 (jv_nI_m1 (by omega))
                            · omega
                          · omega
                        · omega
                      · omega
                    · refine jv_aload_n (q := 176) G 4 dX8_met_175 rfl rfl rfl ?_
                      refine jv_getQ (q := 179) G dX8_met_176 fl_X8_26 rfl (hsc.S hS).1 (rf_p7 (hsc.S hS)) rfl ?_
                      refine jv_iload (q := 181) G 3 dX8_met_179 rfl rfl ?_
                      refine jv_iald (q := 182) G dX8_met_181 (rf_a7 (hsc.S hS)) rfl (by omega) (by decide) (rt_7 (hsc.T hS Tt498)) rfl ?_
                      refine jv_aload_n (q := 183) G 4 dX8_met_182 rfl rfl rfl ?_
                      refine jv_getQ (q := 186) G dX8_met_183 fl_X8_71 rfl (hsc.S hS).1 (rf_p23 (hsc.S hS)) rfl ?_
                      refine jv_iload_n (q := 187) G 5 dX8_met_186 rfl rfl rfl ?_
                      refine jv_iald (q := 188) G dX8_met_187 (rf_a23 (hsc.S hS)) rfl (by omega) (by decide) rfl rfl ?_
                      refine jv_icmp_eq (q := 191) (tgt := 193) G dX8_met_188 (by decide) rfl (fun c587 => ?_) (fun c587 => ?_)
                      · refine jv_iload_n (q := 194) G 7 dX8_met_193 rfl rfl rfl ?_
                        refine jv_iconst (q := 195) (v := nI 2) G dX8_met_194 (by decide) rfl ?_
                        refine jv_icmp_neN (q := 198) (tgt := 208) G dX8_met_195 (by decide) rfl (by omega) (by omega) (fun c588 => ?_) (fun c588 => ?_)
                        · refine jv_iload_n (q := 209) G 7 dX8_met_208 rfl rfl rfl ?_
                          refine jv_iconst (q := 210) (v := nI 4) G dX8_met_209 (by decide) rfl ?_
                          refine jv_icmp_neN (q := 213) (tgt := 226) G dX8_met_210 (by decide) rfl (by omega) (by omega) (fun c589 => ?_) (fun c589 => ?_)
                          · refine jv_iload_n (q := 227) G 7 dX8_met_226 rfl rfl rfl ?_
                            refine jv_iconst (q := 228) (v := nI 5) G dX8_met_227 (by decide) rfl ?_
                            refine jv_icmp_neN (q := 231) (tgt := 247) G dX8_met_228 (by decide) rfl (by omega) (by omega) (fun c590 => ?_) (fun c590 => ?_)
                            · refine jv_iload_n (q := 248) G 7 dX8_met_247 rfl rfl rfl ?_
                              refine jv_iconst (q := 249) (v := nI 2) G dX8_met_248 (by decide) rfl ?_
                              refine jv_icmp_geN (q := 252) (tgt := 266) G dX8_met_249 (by decide) rfl (by omega) (by omega) (fun c591 => ?_) (fun c591 => ?_)
                              · refine jv_aload_n (q := 267) G 4 dX8_met_266 rfl rfl rfl ?_
                                refine jv_iload_n (q := 268) G 6 dX8_met_267 rfl rfl rfl ?_
                                refine jv_iload (q := 270) G 3 dX8_met_268 rfl rfl ?_
                                refine jv_iload (q := 272) G 9 dX8_met_270 rfl rfl ?_
                                refine jv_iload (q := 274) G 10 dX8_met_272 rfl rfl ?_
                                refine jv_callV (q := 277) (As := [.int (nI e), .int (nI (10 * e + k497)), .int n, .int s]) (rest := []) G Z ml_X8_186 (r_findMethod (d := 11) hlt hsc hS he hE hV ht498 (hg k497 (by omega))) (hsc.S hS).1 dX8_met_274 rfl (by decide) (by decide) (by decide) (by decide) (Nat.le_of_ble_eq_true rfl) rfl rfl (fun v593 h592 y594 => ?_) (fun _ _ hx => hx.elim)
                                obtain ⟨rfl, hsc⟩ := y594
                                show jv_V E 14 h592 0 0 (jv_Q E (fun v h' => v = some (.int (nI (m_met (decide (e = ec)) tsC ts pk su 3 ty n s rc).1)) ∧ rs x q h h' ∧ jv_I h' x 32 = jv_oN (m_met (decide (e = ec)) tsC ts pk su 3 ty n s rc).2) jv_no 0 0) 277 [(11, .int (-1)), (10, .int (nI 0)), (9, .int (-1)), (8, .int (nI (10 * e + k497))), (0, .ref x), (1, .int (nI c)), (2, .int (nI e)), (3, .int (nI 3)), (4, .int ty), (5, .int n), (6, .int s), (7, .int rc)] [.int (ffE e (m_fm ts 11 k497 n s))]
                                rcases Option.eq_none_or_eq_some (m_fm ts 11 k497 n s) with hp598 | ⟨p595, hp598⟩
                                · refine jv_topI (y := (-1)) (by rw [hp598]; rfl) ?_
                                  refine jv_istore (q := 279) (lo' := [(12, .int (-1)), (11, .int (-1)), (10, .int (nI 0)), (9, .int (-1)), (8, .int (nI (10 * e + k497))), (0, .ref x), (1, .int (nI c)), (2, .int (nI e)), (3, .int (nI 3)), (4, .int ty), (5, .int n), (6, .int s), (7, .int rc)]) G dX8_met_277 (by decide) rfl rfl ?_
                                  refine jv_iload (q := 281) G 0 dX8_met_279 rfl rfl ?_
                                  refine jv_iconst (q := 282) (v := (-1)) G dX8_met_281 (by decide) rfl ?_
                                  refine jv_icmp_ne (q := 285) (tgt := 287) G dX8_met_282 (by decide) rfl (fun c599 => ?_) (fun c599 => ?_)
                                  · exact absurd rfl c599
                                  · refine jv_iconst (q := 286) (v := nI 2) G dX8_met_285 (by decide) rfl ?_
                                    refine jv_iret G hr dX8_met_286 (Nat.le_of_ble_eq_true rfl) (Nat.le_of_ble_eq_true rfl) ?_
                                    have hz : (m_met (decide (e = ec)) tsC ts pk su 3 ty n s rc) = (2, none) := by
                                      unfold m_met m_isC m_bd
                                      simp only [*, if_true, if_false, Bool.false_eq_true, reduceIte, Option.map_some, decide_true, decide_false, not_true_eq_false, not_false_eq_true, and_true, true_and, and_false, false_and, or_true, true_or, or_false, false_or, Bool.or_true, Bool.or_false, Bool.true_or, Bool.false_or, reduceCtorEq] <;> first | rfl | (simp_all; done) | (split <;> simp_all)
                                    exact ⟨by rw [hz], hrs.tr hsc.rs, by rw [hz]; exact (hsc.x hS 32).trans hran⟩
                                · refine jv_topI (y := nI (6 * (10 * e + p595.1) + p595.2)) (by rw [hp598]; rfl) ?_
                                  obtain ⟨t596, ht596, m597, hm597⟩ := m_fm_mem hp598
                                  have Tt596 := (hE.2.2 p595.1 t596 ht596).1
                                  have Ot596 := (hE.2.2 p595.1 t596 ht596).2
                                  have Lt596 := hE.2.1
                                  have lt596 := jv_ltGet ht596
                                  have Mm597 := rt_m Tt596 hm597
                                  have Om597 := Ot596.2.2.2.2.2.2 m597 (List.mem_of_getElem? hm597)
                                  have Lm597 := Ot596.2.2.2.2.2.1
                                  have lm597 := jv_ltGet hm597
                                  have Bm597n := Om597.1; have Bm597s := Om597.2.1; have Bm597a := Om597.2.2.1; have Bt596n := Ot596.1; have Bt596k := Ot596.2.1
                                  refine jv_istore (q := 279) (lo' := [(12, .int (nI (6 * (10 * e + p595.1) + p595.2))), (11, .int (-1)), (10, .int (nI 0)), (9, .int (-1)), (8, .int (nI (10 * e + k497))), (0, .ref x), (1, .int (nI c)), (2, .int (nI e)), (3, .int (nI 3)), (4, .int ty), (5, .int n), (6, .int s), (7, .int rc)]) G dX8_met_277 (by decide) rfl rfl ?_
                                  refine jv_iload (q := 281) G 0 dX8_met_279 rfl rfl ?_
                                  refine jv_iconst (q := 282) (v := (-1)) G dX8_met_281 (by decide) rfl ?_
                                  refine jv_icmp_ne (q := 285) (tgt := 287) G dX8_met_282 (by decide) rfl (fun c600 => ?_) (fun c600 => ?_)
                                  · refine jv_aload_n (q := 288) G 5 dX8_met_287 rfl rfl rfl ?_
                                    refine jv_iload_n (q := 289) G 6 dX8_met_288 rfl rfl rfl ?_
                                    refine jv_iload_n (q := 290) G 7 dX8_met_289 rfl rfl rfl ?_
                                    refine jv_iload (q := 292) G 0 dX8_met_290 rfl rfl ?_
                                    refine jv_callV_I (q := 295) (h1 := h592) (As := [.int (nI c), .int (nI e), .int (nI (6 * (10 * e + p595.1) + p595.2))]) (rest := []) (ce' := 0) (sl' := 0) (r := jv_bI (m_mr ts pk su t596 m597)) G Z ml_X8_199 (r_mayReach hlt hsc hS hc he hE hV ht596 hm597 hpk hpk5 hsu hsu16) (hsc.S hS).1 dX8_met_292 rfl (by decide) (by decide) (by decide) (by decide) (Nat.le_of_ble_eq_true rfl) rfl rfl rfl rfl ?_
                                    refine jv_if_neB (q := 298) (tgt := 300) G dX8_met_295 (by decide) rfl (fun c601 => ?_) (fun c601 => ?_)
                                    · refine jv_aload_n (q := 301) G 5 dX8_met_300 rfl rfl rfl ?_
                                      refine jv_getQ (q := 304) G dX8_met_301 fl_X8_56 rfl (hsc.S hS).1 (rf_p17 (hsc.S hS)) rfl ?_
                                      refine jv_iload (q := 306) G 0 dX8_met_304 rfl rfl ?_
                                      refine jv_zald (q := 307) G dX8_met_306 (rf_a17 (hsc.S hS)) rfl (by omega) (by decide) (hsc.M hS Mm597).2.2.2.2.1 rfl ?_
                                      refine jv_iload_n (q := 308) G 8 dX8_met_307 rfl rfl rfl ?_
                                      refine jv_iconst (q := 309) (v := nI 1) G dX8_met_308 (by decide) rfl ?_
                                      refine jv_icmp_eqN (q := 312) (tgt := 317) G dX8_met_309 (by decide) rfl (by omega) (by omega) (fun c602 => ?_) (fun c602 => ?_)
                                      · omega
                                      · refine jv_iload_n (q := 313) G 8 dX8_met_312 rfl rfl rfl ?_
                                        refine jv_iconst (q := 314) (v := nI 3) G dX8_met_313 (by decide) rfl ?_
                                        refine jv_icmp_neN (q := 317) (tgt := 321) G dX8_met_314 (by decide) rfl (by omega) (by omega) (fun c603 => ?_) (fun c603 => ?_)
                                        · omega
                                        · refine jv_iconst (q := 318) (v := nI 1) G dX8_met_317 (by decide) rfl ?_
                                          refine jv_goto (q := 322) G dX8_met_318 (by decide) ?_
                                          refine jv_icmp_eq (q := 325) (tgt := 327) G dX8_met_322 (by decide) rfl (fun c604 => ?_) (fun c604 => ?_)
                                          · refine jv_iload (q := 329) G 2 dX8_met_327 rfl rfl ?_
                                            refine jv_if_neN (q := 332) (tgt := 357) G dX8_met_329 (by decide) rfl (by omega) (fun c605 => ?_) (fun c605 => ?_)
                                            · omega
                                            · refine jv_aload_n (q := 333) G 5 dX8_met_332 rfl rfl rfl ?_
                                              refine jv_iload_n (q := 334) G 8 dX8_met_333 rfl rfl rfl ?_
                                              refine jv_iconst (q := 335) (v := nI 3) G dX8_met_334 (by decide) rfl ?_
                                              refine jv_icmp_neN (q := 338) (tgt := 351) G dX8_met_335 (by decide) rfl (by omega) (by omega) (fun c606 => ?_) (fun c606 => ?_)
                                              · omega
                                              · refine jv_aload_n (q := 339) G 5 dX8_met_338 rfl rfl rfl ?_
                                                refine jv_getQ (q := 342) G dX8_met_339 fl_X8_17 rfl (hsc.S hS).1 (rf_p4 (hsc.S hS)) rfl ?_
                                                refine jv_iload (q := 344) G 0 dX8_met_342 rfl rfl ?_
                                                refine jv_callS_I (q := 347) (h1 := h592) (As := [.int (nI (6 * (10 * e + p595.1) + p595.2))]) (rest := [.ref (q 4), .ref x]) (ce' := 0) (sl' := 0) (r := nI ((6 * (10 * e + p595.1) + p595.2) / 6)) G Z ml_X8_183 (r_typeOf hlt (by omega)) dX8_met_344 rfl (by decide) (by decide) (by decide) (by decide) (Nat.le_of_ble_eq_true rfl) rfl rfl rfl rfl ?_
                                                refine jv_topI (y := nI (10 * e + p595.1)) (congrArg nI (by omega)) ?_
                                                refine jv_iald (q := 348) G dX8_met_347 (rf_a4 (hsc.S hS)) rfl (by omega) (by decide) (rt_4 (hsc.T hS Tt596)) rfl ?_
                                                refine jv_goto (q := 352) G dX8_met_348 (by decide) ?_
                                                refine jv_putI (q := 355) G dX8_met_352 fl_X8_192 rfl (hsc.S hS).1 rfl ?_
                                                have hr1 : rs x q h592 (jv_wI h592 x 32 (nI (mt_n t596))) := rs.rf.wI (nI (mt_n t596)) (Or.inl ⟨rfl, Or.inr (Or.inl rfl)⟩)
                                                have hran : jv_I (jv_wI h592 x 32 (nI (mt_n t596))) x 32 = (nI (mt_n t596)) := jv_I_self _ _ _ _
                                                have hSb := hsc.S hS
                                                have hE := hr1.E hSb (hsc.E hS hE)
                                                have hV := hr1.V hSb (hsc.V hS hV)
                                                have hEC := hr1.E hSb (hsc.E hS hEC)
                                                have hVC := hr1.V hSb (hsc.V hS hVC)
                                                have hce := (wx_I hSb 22 (by decide) rfl 32 c (nI (mt_n t596))).trans ((hsc.I2 hS 22 (by decide) rfl (by decide) c).trans hce)
                                                have hpk := (wx_I hSb 23 (by decide) rfl 32 c (nI (mt_n t596))).trans ((hsc.I2 hS 23 (by decide) rfl (by decide) c).trans hpk)
                                                have hsu := (wx_I hSb 24 (by decide) rfl 32 c (nI (mt_n t596))).trans ((hsc.I2 hS 24 (by decide) rfl (by decide) c).trans hsu)
                                                have hrs := (hrs.tr hsc.rs).tr hr1
                                                have hS := hr1.S hSb
                                                generalize jv_wI h592 x 32 (nI (mt_n t596)) = h607 at hran hE hV hEC hVC hce hpk hsu hrs hS ⊢
                                                have hsc : sc x q h607 h607 := sc.rf
                                                refine jv_iconst (q := 356) (v := nI 0) G dX8_met_355 (by decide) rfl ?_
                                                refine jv_iret G hr dX8_met_356 (Nat.le_of_ble_eq_true rfl) (Nat.le_of_ble_eq_true rfl) ?_
                                                have hz : (m_met (decide (e = ec)) tsC ts pk su 3 ty n s rc) = (0, some (mt_n t596)) := by
                                                  unfold m_met m_isC m_bd
                                                  simp only [*, if_true, if_false, Bool.false_eq_true, reduceIte, Option.map_some, decide_true, decide_false, not_true_eq_false, not_false_eq_true, and_true, true_and, and_false, false_and, or_true, true_or, or_false, false_or, Bool.or_true, Bool.or_false, Bool.true_or, Bool.false_or, reduceCtorEq] <;> first | rfl | (simp_all; done) | (split <;> simp_all)
                                                exact ⟨by rw [hz], hrs.tr hsc.rs, by rw [hz]; exact (hsc.x hS 32).trans hran⟩
                                          · refine jv_iconst (q := 326) (v := nI 4) G dX8_met_325 (by decide) rfl ?_
                                            refine jv_iret G hr dX8_met_326 (Nat.le_of_ble_eq_true rfl) (Nat.le_of_ble_eq_true rfl) ?_
                                            have hz : (m_met (decide (e = ec)) tsC ts pk su 3 ty n s rc) = (4, none) := by
                                              unfold m_met m_isC m_bd
                                              simp only [*, if_true, if_false, Bool.false_eq_true, reduceIte, Option.map_some, decide_true, decide_false, not_true_eq_false, not_false_eq_true, and_true, true_and, and_false, false_and, or_true, true_or, or_false, false_or, Bool.or_true, Bool.or_false, Bool.true_or, Bool.false_or, reduceCtorEq] <;> first | rfl | (simp_all; done) | (split <;> simp_all)
                                            exact ⟨by rw [hz], hrs.tr hsc.rs, by rw [hz]; exact (hsc.x hS 32).trans hran⟩
                                    · refine jv_iconst (q := 299) (v := nI 3) G dX8_met_298 (by decide) rfl ?_
                                      refine jv_iret G hr dX8_met_299 (Nat.le_of_ble_eq_true rfl) (Nat.le_of_ble_eq_true rfl) ?_
                                      have hz : (m_met (decide (e = ec)) tsC ts pk su 3 ty n s rc) = (3, none) := by
                                        unfold m_met m_isC m_bd
                                        simp only [*, if_true, if_false, Bool.false_eq_true, reduceIte, Option.map_some, decide_true, decide_false, not_true_eq_false, not_false_eq_true, and_true, true_and, and_false, false_and, or_true, true_or, or_false, false_or, Bool.or_true, Bool.or_false, Bool.true_or, Bool.false_or, reduceCtorEq] <;> first | rfl | (simp_all; done) | (split <;> simp_all)
                                      exact ⟨by rw [hz], hrs.tr hsc.rs, by rw [hz]; exact (hsc.x hS 32).trans hran⟩
                                  · exact absurd c600 (jv_nI_m1 (by omega))
                              · omega
                            · omega
                          · omega
                        · omega
                      · refine jv_iconst (q := 192) (v := nI 3) G dX8_met_191 (by decide) rfl ?_
                        refine jv_iret G hr dX8_met_192 (Nat.le_of_ble_eq_true rfl) (Nat.le_of_ble_eq_true rfl) ?_
                        have hz : (m_met (decide (e = ec)) tsC ts pk su 3 ty n s rc) = (3, none) := by
                          unfold m_met m_isC m_bd
                          simp only [*, if_true, if_false, Bool.false_eq_true, reduceIte, Option.map_some, decide_true, decide_false, not_true_eq_false, not_false_eq_true, and_true, true_and, and_false, false_and, or_true, true_or, or_false, false_or, Bool.or_true, Bool.or_false, Bool.true_or, Bool.false_or, reduceCtorEq] <;> first | rfl | (simp_all; done) | (split <;> simp_all)
                        exact ⟨by rw [hz], hrs.tr hsc.rs, by rw [hz]; exact (hsc.x hS 32).trans hran⟩
                  · omega
              · omega
            · omega
        · exact absurd rfl c560
  · refine jv_aload_n (q := 1) G 0 dX8_met_0 rfl rfl rfl ?_
    refine jv_iconst (q := 2) (v := (-1)) G dX8_met_1 (by decide) rfl ?_
    refine jv_putI (q := 5) G dX8_met_2 fl_X8_192 rfl (hsc.S hS).1 rfl ?_
    have hr1 : rs x q h (jv_wI h x 32 (-1)) := rs.rf.wI (-1) (Or.inl ⟨rfl, Or.inr (Or.inl rfl)⟩)
    have hran : jv_I (jv_wI h x 32 (-1)) x 32 = (-1) := jv_I_self _ _ _ _
    have hSb := hsc.S hS
    have hE := hr1.E hSb (hsc.E hS hE)
    have hV := hr1.V hSb (hsc.V hS hV)
    have hEC := hr1.E hSb (hsc.E hS hEC)
    have hVC := hr1.V hSb (hsc.V hS hVC)
    have hce := (wx_I hSb 22 (by decide) rfl 32 c (-1)).trans ((hsc.I2 hS 22 (by decide) rfl (by decide) c).trans hce)
    have hpk := (wx_I hSb 23 (by decide) rfl 32 c (-1)).trans ((hsc.I2 hS 23 (by decide) rfl (by decide) c).trans hpk)
    have hsu := (wx_I hSb 24 (by decide) rfl 32 c (-1)).trans ((hsc.I2 hS 24 (by decide) rfl (by decide) c).trans hsu)
    have hrs := (hrs.tr hsc.rs).tr hr1
    have hS := hr1.S hSb
    generalize jv_wI h x 32 (-1) = h608 at hran hE hV hEC hVC hce hpk hsu hrs hS ⊢
    have hsc : sc x q h608 h608 := sc.rf
    refine jv_aload_n (q := 6) G 0 dX8_met_5 rfl rfl rfl ?_
    refine jv_iload_n (q := 7) G 2 dX8_met_6 rfl rfl rfl ?_
    refine jv_iload (q := 9) G 4 dX8_met_7 rfl rfl ?_
    refine jv_callV_I (q := 12) (h1 := h608) (As := [.int (nI e), .int ty]) (rest := []) (ce' := 0) (sl' := 0) (r := jv_oN ((m_at ts ty).map (fun k => 10 * e + k))) G Z ml_X8_151 (r_at hlt (hsc.S hS) he (hsc.E hS hE)) (hsc.S hS).1 dX8_met_9 rfl (by decide) (by decide) (by decide) (by decide) (Nat.le_of_ble_eq_true rfl) rfl rfl rfl rfl ?_
    rcases Option.eq_none_or_eq_some (m_at ts ty) with hk611 | ⟨k609, hk611⟩
    · refine jv_topI (y := (-1)) (by rw [hk611]; rfl) ?_
      refine jv_istore (q := 14) (lo' := [(8, .int (-1)), (0, .ref x), (1, .int (nI c)), (2, .int (nI e)), (3, .int (nI 4)), (4, .int ty), (5, .int n), (6, .int s), (7, .int rc)]) G dX8_met_12 (by decide) rfl rfl ?_
      refine jv_iload_n (q := 15) G 3 dX8_met_14 rfl rfl rfl ?_
      refine jv_aload_n (q := 16) G 1 dX8_met_15 rfl rfl rfl ?_
      refine jv_getQ (q := 19) G dX8_met_16 fl_X8_68 rfl (hsc.S hS).1 (rf_p22 (hsc.S hS)) rfl ?_
      refine jv_iload_n (q := 20) G 2 dX8_met_19 rfl rfl rfl ?_
      refine jv_iald (q := 21) G dX8_met_20 (rf_a22 (hsc.S hS)) rfl (by omega) (by decide) ((hsc.I2 hS 22 (by decide) rfl (by decide) c).trans hce) rfl ?_
      refine jv_icmp_eqN (q := 24) (tgt := 39) G dX8_met_21 (by decide) rfl (by omega) (by omega) (fun c612 => ?_) (fun c612 => ?_)
      · refine jv_iconst (q := 40) (v := (-1)) G dX8_met_39 (by decide) rfl ?_
        refine jv_istore (q := 42) (lo' := [(9, .int (-1)), (8, .int (-1)), (0, .ref x), (1, .int (nI c)), (2, .int (nI e)), (3, .int (nI 4)), (4, .int ty), (5, .int n), (6, .int s), (7, .int rc)]) G dX8_met_40 (by decide) rfl rfl ?_
        refine jv_iload (q := 44) G 0 dX8_met_42 rfl rfl ?_
        refine jv_iconst (q := 45) (v := (-1)) G dX8_met_44 (by decide) rfl ?_
        refine jv_icmp_eq (q := 48) (tgt := 111) G dX8_met_45 (by decide) rfl (fun c613 => ?_) (fun c613 => ?_)
        · refine jv_iload_n (q := 112) G 5 dX8_met_111 rfl rfl rfl ?_
          refine jv_iconst (q := 113) (v := nI 2) G dX8_met_112 (by decide) rfl ?_
          refine jv_icmp_eqN (q := 116) (tgt := 121) G dX8_met_113 (by decide) rfl (by omega) (by omega) (fun c614 => ?_) (fun c614 => ?_)
          · omega
          · refine jv_iload_n (q := 117) G 5 dX8_met_116 rfl rfl rfl ?_
            refine jv_iconst (q := 118) (v := nI 4) G dX8_met_117 (by decide) rfl ?_
            refine jv_icmp_neN (q := 121) (tgt := 125) G dX8_met_118 (by decide) rfl (by omega) (by omega) (fun c615 => ?_) (fun c615 => ?_)
            · omega
            · refine jv_iconst (q := 122) (v := nI 1) G dX8_met_121 (by decide) rfl ?_
              refine jv_goto (q := 126) G dX8_met_122 (by decide) ?_
              refine jv_istore (q := 128) (lo' := [(10, .int (nI 1)), (9, .int (-1)), (8, .int (-1)), (0, .ref x), (1, .int (nI c)), (2, .int (nI e)), (3, .int (nI 4)), (4, .int ty), (5, .int n), (6, .int s), (7, .int rc)]) G dX8_met_126 (by decide) rfl rfl ?_
              refine jv_iload (q := 130) G 0 dX8_met_128 rfl rfl ?_
              refine jv_if_eqN (q := 133) (tgt := 143) G dX8_met_130 (by decide) rfl (by omega) (fun c616 => ?_) (fun c616 => ?_)
              · omega
              · refine jv_aload_n (q := 134) G 3 dX8_met_133 rfl rfl rfl ?_
                refine jv_iload_n (q := 135) G 5 dX8_met_134 rfl rfl rfl ?_
                refine jv_iload (q := 137) G 10 dX8_met_135 rfl rfl ?_
                refine jv_callV_I (q := 140) (h1 := h608) (As := [.int (nI e), .int rc]) (rest := []) (ce' := 0) (sl' := 0) (r := jv_oN ((m_at ts rc).map (fun k => 10 * e + k))) G Z ml_X8_151 (r_at hlt (hsc.S hS) he (hsc.E hS hE)) (hsc.S hS).1 dX8_met_137 rfl (by decide) (by decide) (by decide) (by decide) (Nat.le_of_ble_eq_true rfl) rfl rfl rfl rfl ?_
                rcases Option.eq_none_or_eq_some (m_at ts rc) with hk619 | ⟨k617, hk619⟩
                · refine jv_topI (y := (-1)) (by rw [hk619]; rfl) ?_
                  refine jv_goto (q := 144) G dX8_met_140 (by decide) ?_
                  refine jv_istore (q := 146) (lo' := [(11, .int (-1)), (10, .int (nI 1)), (9, .int (-1)), (8, .int (-1)), (0, .ref x), (1, .int (nI c)), (2, .int (nI e)), (3, .int (nI 4)), (4, .int ty), (5, .int n), (6, .int s), (7, .int rc)]) G dX8_met_144 (by decide) rfl rfl ?_
                  refine jv_iload (q := 148) G 3 dX8_met_146 rfl rfl ?_
                  refine jv_iconst (q := 149) (v := (-1)) G dX8_met_148 (by decide) rfl ?_
                  refine jv_icmp_eq (q := 152) (tgt := 163) G dX8_met_149 (by decide) rfl (fun c620 => ?_) (fun c620 => ?_)
                  · refine jv_iconst (q := 164) (v := nI 1) G dX8_met_163 (by decide) rfl ?_
                    refine jv_iret G hr dX8_met_164 (Nat.le_of_ble_eq_true rfl) (Nat.le_of_ble_eq_true rfl) ?_
                    have hz : (m_met (decide (e = ec)) tsC ts pk su 4 ty n s rc) = (1, none) := by
                      unfold m_met m_isC m_bd
                      simp only [*, if_true, if_false, Bool.false_eq_true, reduceIte, Option.map_some, decide_true, decide_false, not_true_eq_false, not_false_eq_true, and_true, true_and, and_false, false_and, or_true, true_or, or_false, false_or, Bool.or_true, Bool.or_false, Bool.true_or, Bool.false_or, reduceCtorEq] <;> first | rfl | (simp_all; done) | (split <;> simp_all)
                    exact ⟨by rw [hz], hrs.tr hsc.rs, by rw [hz]; exact (hsc.x hS 32).trans hran⟩
                  · exact absurd rfl c620
                · refine jv_topI (y := nI (10 * e + k617)) (by rw [hk619]; rfl) ?_
                  obtain ⟨t618, ht618, nt618, lt618⟩ := m_at_some hk619
                  have Tt618 := (hE.2.2 k617 t618 ht618).1
                  have Ot618 := (hE.2.2 k617 t618 ht618).2
                  have Lt618 := hE.2.1
                  have Bt618n := Ot618.1; have Bt618k := Ot618.2.1
                  refine jv_goto (q := 144) G dX8_met_140 (by decide) ?_
                  refine jv_istore (q := 146) (lo' := [(11, .int (nI (10 * e + k617))), (10, .int (nI 1)), (9, .int (-1)), (8, .int (-1)), (0, .ref x), (1, .int (nI c)), (2, .int (nI e)), (3, .int (nI 4)), (4, .int ty), (5, .int n), (6, .int s), (7, .int rc)]) G dX8_met_144 (by decide) rfl rfl ?_
                  refine jv_iload (q := 148) G 3 dX8_met_146 rfl rfl ?_
                  refine jv_iconst (q := 149) (v := (-1)) G dX8_met_148 (by decide) rfl ?_
                  refine jv_icmp_eq (q := 152) (tgt := 163) G dX8_met_149 (by decide) rfl (fun c621 => ?_) (fun c621 => ?_)
                  · refine jv_iconst (q := 164) (v := nI 1) G dX8_met_163 (by decide) rfl ?_
                    refine jv_iret G hr dX8_met_164 (Nat.le_of_ble_eq_true rfl) (Nat.le_of_ble_eq_true rfl) ?_
                    have hz : (m_met (decide (e = ec)) tsC ts pk su 4 ty n s rc) = (1, none) := by
                      unfold m_met m_isC m_bd
                      simp only [*, if_true, if_false, Bool.false_eq_true, reduceIte, Option.map_some, decide_true, decide_false, not_true_eq_false, not_false_eq_true, and_true, true_and, and_false, false_and, or_true, true_or, or_false, false_or, Bool.or_true, Bool.or_false, Bool.true_or, Bool.false_or, reduceCtorEq] <;> first | rfl | (simp_all; done) | (split <;> simp_all)
                    exact ⟨by rw [hz], hrs.tr hsc.rs, by rw [hz]; exact (hsc.x hS 32).trans hran⟩
                  · exact absurd rfl c621
        · exact absurd rfl c613
      · refine jv_aload_n (q := 25) G 1 dX8_met_24 rfl rfl rfl ?_
        refine jv_iload_n (q := 26) G 2 dX8_met_25 rfl rfl rfl ?_
        refine jv_iload_n (q := 27) G 4 dX8_met_26 rfl rfl rfl ?_
        refine jv_iload (q := 29) G 5 dX8_met_27 rfl rfl ?_
        refine jv_iload (q := 31) G 6 dX8_met_29 rfl rfl ?_
        refine jv_iload (q := 33) G 7 dX8_met_31 rfl rfl ?_
        refine jv_callV_I (q := 36) (h1 := h608) (As := [.int (nI c), .int (nI 4), .int ty, .int n, .int s]) (rest := []) (ce' := 0) (sl' := 0) (r := (ffE ec (m_co tsC 4 ty n s))) G Z ml_X8_195 (r_constantOf hlt hsc hS hc hec hEC hce (by decide) hgC) (hsc.S hS).1 dX8_met_33 rfl (by decide) (by decide) (by decide) (by decide) (Nat.le_of_ble_eq_true rfl) rfl rfl rfl rfl ?_
        refine jv_topI (y := (-1)) rfl ?_
        refine jv_goto (q := 40) G dX8_met_36 (by decide) ?_
        refine jv_istore (q := 42) (lo' := [(9, .int (-1)), (8, .int (-1)), (0, .ref x), (1, .int (nI c)), (2, .int (nI e)), (3, .int (nI 4)), (4, .int ty), (5, .int n), (6, .int s), (7, .int rc)]) G dX8_met_40 (by decide) rfl rfl ?_
        refine jv_iload (q := 44) G 0 dX8_met_42 rfl rfl ?_
        refine jv_iconst (q := 45) (v := (-1)) G dX8_met_44 (by decide) rfl ?_
        refine jv_icmp_eq (q := 48) (tgt := 111) G dX8_met_45 (by decide) rfl (fun c622 => ?_) (fun c622 => ?_)
        · refine jv_iload_n (q := 112) G 5 dX8_met_111 rfl rfl rfl ?_
          refine jv_iconst (q := 113) (v := nI 2) G dX8_met_112 (by decide) rfl ?_
          refine jv_icmp_eqN (q := 116) (tgt := 121) G dX8_met_113 (by decide) rfl (by omega) (by omega) (fun c623 => ?_) (fun c623 => ?_)
          · omega
          · refine jv_iload_n (q := 117) G 5 dX8_met_116 rfl rfl rfl ?_
            refine jv_iconst (q := 118) (v := nI 4) G dX8_met_117 (by decide) rfl ?_
            refine jv_icmp_neN (q := 121) (tgt := 125) G dX8_met_118 (by decide) rfl (by omega) (by omega) (fun c624 => ?_) (fun c624 => ?_)
            · omega
            · refine jv_iconst (q := 122) (v := nI 1) G dX8_met_121 (by decide) rfl ?_
              refine jv_goto (q := 126) G dX8_met_122 (by decide) ?_
              refine jv_istore (q := 128) (lo' := [(10, .int (nI 1)), (9, .int (-1)), (8, .int (-1)), (0, .ref x), (1, .int (nI c)), (2, .int (nI e)), (3, .int (nI 4)), (4, .int ty), (5, .int n), (6, .int s), (7, .int rc)]) G dX8_met_126 (by decide) rfl rfl ?_
              refine jv_iload (q := 130) G 0 dX8_met_128 rfl rfl ?_
              refine jv_if_eqN (q := 133) (tgt := 143) G dX8_met_130 (by decide) rfl (by omega) (fun c625 => ?_) (fun c625 => ?_)
              · omega
              · refine jv_aload_n (q := 134) G 3 dX8_met_133 rfl rfl rfl ?_
                refine jv_iload_n (q := 135) G 5 dX8_met_134 rfl rfl rfl ?_
                refine jv_iload (q := 137) G 10 dX8_met_135 rfl rfl ?_
                refine jv_callV_I (q := 140) (h1 := h608) (As := [.int (nI e), .int rc]) (rest := []) (ce' := 0) (sl' := 0) (r := jv_oN ((m_at ts rc).map (fun k => 10 * e + k))) G Z ml_X8_151 (r_at hlt (hsc.S hS) he (hsc.E hS hE)) (hsc.S hS).1 dX8_met_137 rfl (by decide) (by decide) (by decide) (by decide) (Nat.le_of_ble_eq_true rfl) rfl rfl rfl rfl ?_
                rcases Option.eq_none_or_eq_some (m_at ts rc) with hk628 | ⟨k626, hk628⟩
                · refine jv_topI (y := (-1)) (by rw [hk628]; rfl) ?_
                  refine jv_goto (q := 144) G dX8_met_140 (by decide) ?_
                  refine jv_istore (q := 146) (lo' := [(11, .int (-1)), (10, .int (nI 1)), (9, .int (-1)), (8, .int (-1)), (0, .ref x), (1, .int (nI c)), (2, .int (nI e)), (3, .int (nI 4)), (4, .int ty), (5, .int n), (6, .int s), (7, .int rc)]) G dX8_met_144 (by decide) rfl rfl ?_
                  refine jv_iload (q := 148) G 3 dX8_met_146 rfl rfl ?_
                  refine jv_iconst (q := 149) (v := (-1)) G dX8_met_148 (by decide) rfl ?_
                  refine jv_icmp_eq (q := 152) (tgt := 163) G dX8_met_149 (by decide) rfl (fun c629 => ?_) (fun c629 => ?_)
                  · refine jv_iconst (q := 164) (v := nI 1) G dX8_met_163 (by decide) rfl ?_
                    refine jv_iret G hr dX8_met_164 (Nat.le_of_ble_eq_true rfl) (Nat.le_of_ble_eq_true rfl) ?_
                    have hz : (m_met (decide (e = ec)) tsC ts pk su 4 ty n s rc) = (1, none) := by
                      unfold m_met m_isC m_bd
                      simp only [*, if_true, if_false, Bool.false_eq_true, reduceIte, Option.map_some, decide_true, decide_false, not_true_eq_false, not_false_eq_true, and_true, true_and, and_false, false_and, or_true, true_or, or_false, false_or, Bool.or_true, Bool.or_false, Bool.true_or, Bool.false_or, reduceCtorEq] <;> first | rfl | (simp_all; done) | (split <;> simp_all)
                    exact ⟨by rw [hz], hrs.tr hsc.rs, by rw [hz]; exact (hsc.x hS 32).trans hran⟩
                  · exact absurd rfl c629
                · refine jv_topI (y := nI (10 * e + k626)) (by rw [hk628]; rfl) ?_
                  obtain ⟨t627, ht627, nt627, lt627⟩ := m_at_some hk628
                  have Tt627 := (hE.2.2 k626 t627 ht627).1
                  have Ot627 := (hE.2.2 k626 t627 ht627).2
                  have Lt627 := hE.2.1
                  have Bt627n := Ot627.1; have Bt627k := Ot627.2.1
                  refine jv_goto (q := 144) G dX8_met_140 (by decide) ?_
                  refine jv_istore (q := 146) (lo' := [(11, .int (nI (10 * e + k626))), (10, .int (nI 1)), (9, .int (-1)), (8, .int (-1)), (0, .ref x), (1, .int (nI c)), (2, .int (nI e)), (3, .int (nI 4)), (4, .int ty), (5, .int n), (6, .int s), (7, .int rc)]) G dX8_met_144 (by decide) rfl rfl ?_
                  refine jv_iload (q := 148) G 3 dX8_met_146 rfl rfl ?_
                  refine jv_iconst (q := 149) (v := (-1)) G dX8_met_148 (by decide) rfl ?_
                  refine jv_icmp_eq (q := 152) (tgt := 163) G dX8_met_149 (by decide) rfl (fun c630 => ?_) (fun c630 => ?_)
                  · refine jv_iconst (q := 164) (v := nI 1) G dX8_met_163 (by decide) rfl ?_
                    refine jv_iret G hr dX8_met_164 (Nat.le_of_ble_eq_true rfl) (Nat.le_of_ble_eq_true rfl) ?_
                    have hz : (m_met (decide (e = ec)) tsC ts pk su 4 ty n s rc) = (1, none) := by
                      unfold m_met m_isC m_bd
                      simp only [*, if_true, if_false, Bool.false_eq_true, reduceIte, Option.map_some, decide_true, decide_false, not_true_eq_false, not_false_eq_true, and_true, true_and, and_false, false_and, or_true, true_or, or_false, false_or, Bool.or_true, Bool.or_false, Bool.true_or, Bool.false_or, reduceCtorEq] <;> first | rfl | (simp_all; done) | (split <;> simp_all)
                    exact ⟨by rw [hz], hrs.tr hsc.rs, by rw [hz]; exact (hsc.x hS 32).trans hran⟩
                  · exact absurd rfl c630
        · exact absurd rfl c622
    · refine jv_topI (y := nI (10 * e + k609)) (by rw [hk611]; rfl) ?_
      obtain ⟨t610, ht610, nt610, lt610⟩ := m_at_some hk611
      have Tt610 := (hE.2.2 k609 t610 ht610).1
      have Ot610 := (hE.2.2 k609 t610 ht610).2
      have Lt610 := hE.2.1
      have Bt610n := Ot610.1; have Bt610k := Ot610.2.1
      refine jv_istore (q := 14) (lo' := [(8, .int (nI (10 * e + k609))), (0, .ref x), (1, .int (nI c)), (2, .int (nI e)), (3, .int (nI 4)), (4, .int ty), (5, .int n), (6, .int s), (7, .int rc)]) G dX8_met_12 (by decide) rfl rfl ?_
      refine jv_iload_n (q := 15) G 3 dX8_met_14 rfl rfl rfl ?_
      refine jv_aload_n (q := 16) G 1 dX8_met_15 rfl rfl rfl ?_
      refine jv_getQ (q := 19) G dX8_met_16 fl_X8_68 rfl (hsc.S hS).1 (rf_p22 (hsc.S hS)) rfl ?_
      refine jv_iload_n (q := 20) G 2 dX8_met_19 rfl rfl rfl ?_
      refine jv_iald (q := 21) G dX8_met_20 (rf_a22 (hsc.S hS)) rfl (by omega) (by decide) ((hsc.I2 hS 22 (by decide) rfl (by decide) c).trans hce) rfl ?_
      refine jv_icmp_eqN (q := 24) (tgt := 39) G dX8_met_21 (by decide) rfl (by omega) (by omega) (fun c631 => ?_) (fun c631 => ?_)
      · refine jv_iconst (q := 40) (v := (-1)) G dX8_met_39 (by decide) rfl ?_
        refine jv_istore (q := 42) (lo' := [(9, .int (-1)), (8, .int (nI (10 * e + k609))), (0, .ref x), (1, .int (nI c)), (2, .int (nI e)), (3, .int (nI 4)), (4, .int ty), (5, .int n), (6, .int s), (7, .int rc)]) G dX8_met_40 (by decide) rfl rfl ?_
        refine jv_iload (q := 44) G 0 dX8_met_42 rfl rfl ?_
        refine jv_iconst (q := 45) (v := (-1)) G dX8_met_44 (by decide) rfl ?_
        refine jv_icmp_eq (q := 48) (tgt := 111) G dX8_met_45 (by decide) rfl (fun c632 => ?_) (fun c632 => ?_)
        · refine jv_iload_n (q := 112) G 5 dX8_met_111 rfl rfl rfl ?_
          refine jv_iconst (q := 113) (v := nI 2) G dX8_met_112 (by decide) rfl ?_
          refine jv_icmp_eqN (q := 116) (tgt := 121) G dX8_met_113 (by decide) rfl (by omega) (by omega) (fun c633 => ?_) (fun c633 => ?_)
          · omega
          · refine jv_iload_n (q := 117) G 5 dX8_met_116 rfl rfl rfl ?_
            refine jv_iconst (q := 118) (v := nI 4) G dX8_met_117 (by decide) rfl ?_
            refine jv_icmp_neN (q := 121) (tgt := 125) G dX8_met_118 (by decide) rfl (by omega) (by omega) (fun c634 => ?_) (fun c634 => ?_)
            · omega
            · refine jv_iconst (q := 122) (v := nI 1) G dX8_met_121 (by decide) rfl ?_
              refine jv_goto (q := 126) G dX8_met_122 (by decide) ?_
              refine jv_istore (q := 128) (lo' := [(10, .int (nI 1)), (9, .int (-1)), (8, .int (nI (10 * e + k609))), (0, .ref x), (1, .int (nI c)), (2, .int (nI e)), (3, .int (nI 4)), (4, .int ty), (5, .int n), (6, .int s), (7, .int rc)]) G dX8_met_126 (by decide) rfl rfl ?_
              refine jv_iload (q := 130) G 0 dX8_met_128 rfl rfl ?_
              refine jv_if_eqN (q := 133) (tgt := 143) G dX8_met_130 (by decide) rfl (by omega) (fun c635 => ?_) (fun c635 => ?_)
              · omega
              · refine jv_aload_n (q := 134) G 3 dX8_met_133 rfl rfl rfl ?_
                refine jv_iload_n (q := 135) G 5 dX8_met_134 rfl rfl rfl ?_
                refine jv_iload (q := 137) G 10 dX8_met_135 rfl rfl ?_
                refine jv_callV_I (q := 140) (h1 := h608) (As := [.int (nI e), .int rc]) (rest := []) (ce' := 0) (sl' := 0) (r := jv_oN ((m_at ts rc).map (fun k => 10 * e + k))) G Z ml_X8_151 (r_at hlt (hsc.S hS) he (hsc.E hS hE)) (hsc.S hS).1 dX8_met_137 rfl (by decide) (by decide) (by decide) (by decide) (Nat.le_of_ble_eq_true rfl) rfl rfl rfl rfl ?_
                rcases Option.eq_none_or_eq_some (m_at ts rc) with hk638 | ⟨k636, hk638⟩
                · refine jv_topI (y := (-1)) (by rw [hk638]; rfl) ?_
                  refine jv_goto (q := 144) G dX8_met_140 (by decide) ?_
                  refine jv_istore (q := 146) (lo' := [(11, .int (-1)), (10, .int (nI 1)), (9, .int (-1)), (8, .int (nI (10 * e + k609))), (0, .ref x), (1, .int (nI c)), (2, .int (nI e)), (3, .int (nI 4)), (4, .int ty), (5, .int n), (6, .int s), (7, .int rc)]) G dX8_met_144 (by decide) rfl rfl ?_
                  refine jv_iload (q := 148) G 3 dX8_met_146 rfl rfl ?_
                  refine jv_iconst (q := 149) (v := (-1)) G dX8_met_148 (by decide) rfl ?_
                  refine jv_icmp_eq (q := 152) (tgt := 163) G dX8_met_149 (by decide) rfl (fun c639 => ?_) (fun c639 => ?_)
                  · exact absurd c639 (jv_nI_m1 (by omega))
                  · refine jv_iload (q := 154) G 1 dX8_met_152 rfl rfl ?_
                    refine jv_if_eqN (q := 157) (tgt := 165) G dX8_met_154 (by decide) rfl (by omega) (fun c640 => ?_) (fun c640 => ?_)
                    · omega
                    · refine jv_iload (q := 159) G 0 dX8_met_157 rfl rfl ?_
                      refine jv_iconst (q := 160) (v := (-1)) G dX8_met_159 (by decide) rfl ?_
                      refine jv_icmp_ne (q := 163) (tgt := 165) G dX8_met_160 (by decide) rfl (fun c641 => ?_) (fun c641 => ?_)
                      · exact absurd rfl c641
                      · refine jv_iconst (q := 164) (v := nI 1) G dX8_met_163 (by decide) rfl ?_
                        refine jv_iret G hr dX8_met_164 (Nat.le_of_ble_eq_true rfl) (Nat.le_of_ble_eq_true rfl) ?_
                        have hz : (m_met (decide (e = ec)) tsC ts pk su 4 ty n s rc) = (1, none) := by
                          unfold m_met m_isC m_bd
                          simp only [*, if_true, if_false, Bool.false_eq_true, reduceIte, Option.map_some, decide_true, decide_false, not_true_eq_false, not_false_eq_true, and_true, true_and, and_false, false_and, or_true, true_or, or_false, false_or, Bool.or_true, Bool.or_false, Bool.true_or, Bool.false_or, reduceCtorEq] <;> first | rfl | (simp_all; done) | (split <;> simp_all)
                        exact ⟨by rw [hz], hrs.tr hsc.rs, by rw [hz]; exact (hsc.x hS 32).trans hran⟩
                · refine jv_topI (y := nI (10 * e + k636)) (by rw [hk638]; rfl) ?_
                  obtain ⟨t637, ht637, nt637, lt637⟩ := m_at_some hk638
                  have Tt637 := (hE.2.2 k636 t637 ht637).1
                  have Ot637 := (hE.2.2 k636 t637 ht637).2
                  have Lt637 := hE.2.1
                  have Bt637n := Ot637.1; have Bt637k := Ot637.2.1
                  refine jv_goto (q := 144) G dX8_met_140 (by decide) ?_
                  refine jv_istore (q := 146) (lo' := [(11, .int (nI (10 * e + k636))), (10, .int (nI 1)), (9, .int (-1)), (8, .int (nI (10 * e + k609))), (0, .ref x), (1, .int (nI c)), (2, .int (nI e)), (3, .int (nI 4)), (4, .int ty), (5, .int n), (6, .int s), (7, .int rc)]) G dX8_met_144 (by decide) rfl rfl ?_
                  refine jv_iload (q := 148) G 3 dX8_met_146 rfl rfl ?_
                  refine jv_iconst (q := 149) (v := (-1)) G dX8_met_148 (by decide) rfl ?_
                  refine jv_icmp_eq (q := 152) (tgt := 163) G dX8_met_149 (by decide) rfl (fun c642 => ?_) (fun c642 => ?_)
                  · exact absurd c642 (jv_nI_m1 (by omega))
                  · refine jv_iload (q := 154) G 1 dX8_met_152 rfl rfl ?_
                    refine jv_if_eqN (q := 157) (tgt := 165) G dX8_met_154 (by decide) rfl (by omega) (fun c643 => ?_) (fun c643 => ?_)
                    · omega
                    · refine jv_iload (q := 159) G 0 dX8_met_157 rfl rfl ?_
                      refine jv_iconst (q := 160) (v := (-1)) G dX8_met_159 (by decide) rfl ?_
                      refine jv_icmp_ne (q := 163) (tgt := 165) G dX8_met_160 (by decide) rfl (fun c644 => ?_) (fun c644 => ?_)
                      · refine jv_aload_n (q := 166) G 4 dX8_met_165 rfl rfl rfl ?_
                        refine jv_getQ (q := 169) G dX8_met_166 fl_X8_29 rfl (hsc.S hS).1 (rf_p8 (hsc.S hS)) rfl ?_
                        refine jv_iload (q := 171) G 3 dX8_met_169 rfl rfl ?_
                        refine jv_zald (q := 172) G dX8_met_171 (rf_a8 (hsc.S hS)) rfl (by omega) (by decide) (rt_8 (hsc.T hS Tt610)) rfl ?_
                        refine jv_if_neB (q := 175) (tgt := 193) G dX8_met_172 (by decide) rfl (fun c645 => ?_) (fun c645 => ?_)
                        · refine jv_iload_n (q := 194) G 7 dX8_met_193 rfl rfl rfl ?_
                          refine jv_iconst (q := 195) (v := nI 2) G dX8_met_194 (by decide) rfl ?_
                          refine jv_icmp_neN (q := 198) (tgt := 208) G dX8_met_195 (by decide) rfl (by omega) (by omega) (fun c646 => ?_) (fun c646 => ?_)
                          · refine jv_iload_n (q := 209) G 7 dX8_met_208 rfl rfl rfl ?_
                            refine jv_iconst (q := 210) (v := nI 4) G dX8_met_209 (by decide) rfl ?_
                            refine jv_icmp_neN (q := 213) (tgt := 226) G dX8_met_210 (by decide) rfl (by omega) (by omega) (fun c647 => ?_) (fun c647 => ?_)
                            · omega
                            · refine jv_aload_n (q := 214) G 4 dX8_met_213 rfl rfl rfl ?_
                              refine jv_getQ (q := 217) G dX8_met_214 fl_X8_20 rfl (hsc.S hS).1 (rf_p5 (hsc.S hS)) rfl ?_
                              refine jv_iload (q := 219) G 3 dX8_met_217 rfl rfl ?_
                              refine jv_zald (q := 220) G dX8_met_219 (rf_a5 (hsc.S hS)) rfl (by omega) (by decide) (rt_5 (hsc.T hS Tt610)) rfl ?_
                              refine jv_if_neB (q := 223) (tgt := 226) G dX8_met_220 (by decide) rfl (fun c648 => ?_) (fun c648 => ?_)
                              · refine jv_iload_n (q := 227) G 7 dX8_met_226 rfl rfl rfl ?_
                                refine jv_iconst (q := 228) (v := nI 5) G dX8_met_227 (by decide) rfl ?_
                                refine jv_icmp_neN (q := 231) (tgt := 247) G dX8_met_228 (by decide) rfl (by omega) (by omega) (fun c649 => ?_) (fun c649 => ?_)
                                · refine jv_iload_n (q := 248) G 7 dX8_met_247 rfl rfl rfl ?_
                                  refine jv_iconst (q := 249) (v := nI 2) G dX8_met_248 (by decide) rfl ?_
                                  refine jv_icmp_geN (q := 252) (tgt := 266) G dX8_met_249 (by decide) rfl (by omega) (by omega) (fun c650 => ?_) (fun c650 => ?_)
                                  · refine jv_aload_n (q := 267) G 4 dX8_met_266 rfl rfl rfl ?_
                                    refine jv_iload_n (q := 268) G 6 dX8_met_267 rfl rfl rfl ?_
                                    refine jv_iload (q := 270) G 3 dX8_met_268 rfl rfl ?_
                                    refine jv_iload (q := 272) G 9 dX8_met_270 rfl rfl ?_
                                    refine jv_iload (q := 274) G 10 dX8_met_272 rfl rfl ?_
                                    refine jv_callV (q := 277) (As := [.int (nI e), .int (nI (10 * e + k609)), .int n, .int s]) (rest := []) G Z ml_X8_186 (r_findMethod (d := 11) hlt hsc hS he hE hV ht610 (hg k609 (by omega))) (hsc.S hS).1 dX8_met_274 rfl (by decide) (by decide) (by decide) (by decide) (Nat.le_of_ble_eq_true rfl) rfl rfl (fun v652 h651 y653 => ?_) (fun _ _ hx => hx.elim)
                                    obtain ⟨rfl, hsc⟩ := y653
                                    show jv_V E 14 h651 0 0 (jv_Q E (fun v h' => v = some (.int (nI (m_met (decide (e = ec)) tsC ts pk su 4 ty n s rc).1)) ∧ rs x q h h' ∧ jv_I h' x 32 = jv_oN (m_met (decide (e = ec)) tsC ts pk su 4 ty n s rc).2) jv_no 0 0) 277 [(11, .int (nI (10 * e + k636))), (10, .int (nI 1)), (9, .int (-1)), (8, .int (nI (10 * e + k609))), (0, .ref x), (1, .int (nI c)), (2, .int (nI e)), (3, .int (nI 4)), (4, .int ty), (5, .int n), (6, .int s), (7, .int rc)] [.int (ffE e (m_fm ts 11 k609 n s))]
                                    rcases Option.eq_none_or_eq_some (m_fm ts 11 k609 n s) with hp657 | ⟨p654, hp657⟩
                                    · refine jv_topI (y := (-1)) (by rw [hp657]; rfl) ?_
                                      refine jv_istore (q := 279) (lo' := [(12, .int (-1)), (11, .int (nI (10 * e + k636))), (10, .int (nI 1)), (9, .int (-1)), (8, .int (nI (10 * e + k609))), (0, .ref x), (1, .int (nI c)), (2, .int (nI e)), (3, .int (nI 4)), (4, .int ty), (5, .int n), (6, .int s), (7, .int rc)]) G dX8_met_277 (by decide) rfl rfl ?_
                                      refine jv_iload (q := 281) G 0 dX8_met_279 rfl rfl ?_
                                      refine jv_iconst (q := 282) (v := (-1)) G dX8_met_281 (by decide) rfl ?_
                                      refine jv_icmp_ne (q := 285) (tgt := 287) G dX8_met_282 (by decide) rfl (fun c658 => ?_) (fun c658 => ?_)
                                      · exact absurd rfl c658
                                      · refine jv_iconst (q := 286) (v := nI 2) G dX8_met_285 (by decide) rfl ?_
                                        refine jv_iret G hr dX8_met_286 (Nat.le_of_ble_eq_true rfl) (Nat.le_of_ble_eq_true rfl) ?_
                                        have hz : (m_met (decide (e = ec)) tsC ts pk su 4 ty n s rc) = (2, none) := by
                                          unfold m_met m_isC m_bd
                                          simp only [*, if_true, if_false, Bool.false_eq_true, reduceIte, Option.map_some, decide_true, decide_false, not_true_eq_false, not_false_eq_true, and_true, true_and, and_false, false_and, or_true, true_or, or_false, false_or, Bool.or_true, Bool.or_false, Bool.true_or, Bool.false_or, reduceCtorEq] <;> first | rfl | (simp_all; done) | (split <;> simp_all)
                                        exact ⟨by rw [hz], hrs.tr hsc.rs, by rw [hz]; exact (hsc.x hS 32).trans hran⟩
                                    · refine jv_topI (y := nI (6 * (10 * e + p654.1) + p654.2)) (by rw [hp657]; rfl) ?_
                                      obtain ⟨t655, ht655, m656, hm656⟩ := m_fm_mem hp657
                                      have Tt655 := (hE.2.2 p654.1 t655 ht655).1
                                      have Ot655 := (hE.2.2 p654.1 t655 ht655).2
                                      have Lt655 := hE.2.1
                                      have lt655 := jv_ltGet ht655
                                      have Mm656 := rt_m Tt655 hm656
                                      have Om656 := Ot655.2.2.2.2.2.2 m656 (List.mem_of_getElem? hm656)
                                      have Lm656 := Ot655.2.2.2.2.2.1
                                      have lm656 := jv_ltGet hm656
                                      have Bm656n := Om656.1; have Bm656s := Om656.2.1; have Bm656a := Om656.2.2.1; have Bt655n := Ot655.1; have Bt655k := Ot655.2.1
                                      refine jv_istore (q := 279) (lo' := [(12, .int (nI (6 * (10 * e + p654.1) + p654.2))), (11, .int (nI (10 * e + k636))), (10, .int (nI 1)), (9, .int (-1)), (8, .int (nI (10 * e + k609))), (0, .ref x), (1, .int (nI c)), (2, .int (nI e)), (3, .int (nI 4)), (4, .int ty), (5, .int n), (6, .int s), (7, .int rc)]) G dX8_met_277 (by decide) rfl rfl ?_
                                      refine jv_iload (q := 281) G 0 dX8_met_279 rfl rfl ?_
                                      refine jv_iconst (q := 282) (v := (-1)) G dX8_met_281 (by decide) rfl ?_
                                      refine jv_icmp_ne (q := 285) (tgt := 287) G dX8_met_282 (by decide) rfl (fun c659 => ?_) (fun c659 => ?_)
                                      · refine jv_aload_n (q := 288) G 5 dX8_met_287 rfl rfl rfl ?_
                                        refine jv_iload_n (q := 289) G 6 dX8_met_288 rfl rfl rfl ?_
                                        refine jv_iload_n (q := 290) G 7 dX8_met_289 rfl rfl rfl ?_
                                        refine jv_iload (q := 292) G 0 dX8_met_290 rfl rfl ?_
                                        refine jv_callV_I (q := 295) (h1 := h651) (As := [.int (nI c), .int (nI e), .int (nI (6 * (10 * e + p654.1) + p654.2))]) (rest := []) (ce' := 0) (sl' := 0) (r := jv_bI (m_mr ts pk su t655 m656)) G Z ml_X8_199 (r_mayReach hlt hsc hS hc he hE hV ht655 hm656 hpk hpk5 hsu hsu16) (hsc.S hS).1 dX8_met_292 rfl (by decide) (by decide) (by decide) (by decide) (Nat.le_of_ble_eq_true rfl) rfl rfl rfl rfl ?_
                                        refine jv_if_neB (q := 298) (tgt := 300) G dX8_met_295 (by decide) rfl (fun c660 => ?_) (fun c660 => ?_)
                                        · refine jv_aload_n (q := 301) G 5 dX8_met_300 rfl rfl rfl ?_
                                          refine jv_getQ (q := 304) G dX8_met_301 fl_X8_56 rfl (hsc.S hS).1 (rf_p17 (hsc.S hS)) rfl ?_
                                          refine jv_iload (q := 306) G 0 dX8_met_304 rfl rfl ?_
                                          refine jv_zald (q := 307) G dX8_met_306 (rf_a17 (hsc.S hS)) rfl (by omega) (by decide) (hsc.M hS Mm656).2.2.2.2.1 rfl ?_
                                          refine jv_iload_n (q := 308) G 8 dX8_met_307 rfl rfl rfl ?_
                                          refine jv_iconst (q := 309) (v := nI 1) G dX8_met_308 (by decide) rfl ?_
                                          refine jv_icmp_eqN (q := 312) (tgt := 317) G dX8_met_309 (by decide) rfl (by omega) (by omega) (fun c661 => ?_) (fun c661 => ?_)
                                          · omega
                                          · refine jv_iload_n (q := 313) G 8 dX8_met_312 rfl rfl rfl ?_
                                            refine jv_iconst (q := 314) (v := nI 3) G dX8_met_313 (by decide) rfl ?_
                                            refine jv_icmp_neN (q := 317) (tgt := 321) G dX8_met_314 (by decide) rfl (by omega) (by omega) (fun c662 => ?_) (fun c662 => ?_)
                                            · refine jv_iconst (q := 322) (v := nI 0) G dX8_met_321 (by decide) rfl ?_
                                              refine jv_icmp_eq (q := 325) (tgt := 327) G dX8_met_322 (by decide) rfl (fun c663 => ?_) (fun c663 => ?_)
                                              · refine jv_iload (q := 329) G 2 dX8_met_327 rfl rfl ?_
                                                refine jv_if_neN (q := 332) (tgt := 357) G dX8_met_329 (by decide) rfl (by omega) (fun c664 => ?_) (fun c664 => ?_)
                                                · refine jv_aload_n (q := 358) G 5 dX8_met_357 rfl rfl rfl ?_
                                                  refine jv_getQ (q := 361) G dX8_met_358 fl_X8_20 rfl (hsc.S hS).1 (rf_p5 (hsc.S hS)) rfl ?_
                                                  refine jv_iload (q := 363) G 1 dX8_met_361 rfl rfl ?_
                                                  refine jv_zald (q := 364) G dX8_met_363 (rf_a5 (hsc.S hS)) rfl (by omega) (by decide) (rt_5 (hsc.T hS Tt637)) rfl ?_
                                                  refine jv_if_neB (q := 367) (tgt := 396) G dX8_met_364 (by decide) rfl (fun c665 => ?_) (fun c665 => ?_)
                                                  · refine jv_bipush (q := 398) (v := nI 6) G dX8_met_396 (by decide) rfl ?_
                                                    refine jv_iret G hr dX8_met_398 (Nat.le_of_ble_eq_true rfl) (Nat.le_of_ble_eq_true rfl) ?_
                                                    have hz : (m_met (decide (e = ec)) tsC ts pk su 4 ty n s rc) = (6, none) := by
                                                      unfold m_met m_isC m_bd
                                                      simp only [*, if_true, if_false, Bool.false_eq_true, reduceIte, Option.map_some, decide_true, decide_false, not_true_eq_false, not_false_eq_true, and_true, true_and, and_false, false_and, or_true, true_or, or_false, false_or, Bool.or_true, Bool.or_false, Bool.true_or, Bool.false_or, reduceCtorEq] <;> first | rfl | (simp_all; done) | (split <;> simp_all)
                                                    exact ⟨by rw [hz], hrs.tr hsc.rs, by rw [hz]; exact (hsc.x hS 32).trans hran⟩
                                                  · refine jv_aload_n (q := 368) G 5 dX8_met_367 rfl rfl rfl ?_
                                                    refine jv_getQ (q := 371) G dX8_met_368 fl_X8_23 rfl (hsc.S hS).1 (rf_p6 (hsc.S hS)) rfl ?_
                                                    refine jv_iload (q := 373) G 1 dX8_met_371 rfl rfl ?_
                                                    refine jv_zald (q := 374) G dX8_met_373 (rf_a6 (hsc.S hS)) rfl (by omega) (by decide) (rt_6 (hsc.T hS Tt637)) rfl ?_
                                                    refine jv_if_neB (q := 377) (tgt := 396) G dX8_met_374 (by decide) rfl (fun c666 => ?_) (fun c666 => ?_)
                                                    · refine jv_bipush (q := 398) (v := nI 6) G dX8_met_396 (by decide) rfl ?_
                                                      refine jv_iret G hr dX8_met_398 (Nat.le_of_ble_eq_true rfl) (Nat.le_of_ble_eq_true rfl) ?_
                                                      have hz : (m_met (decide (e = ec)) tsC ts pk su 4 ty n s rc) = (6, none) := by
                                                        unfold m_met m_isC m_bd
                                                        simp only [*, if_true, if_false, Bool.false_eq_true, reduceIte, Option.map_some, decide_true, decide_false, not_true_eq_false, not_false_eq_true, and_true, true_and, and_false, false_and, or_true, true_or, or_false, false_or, Bool.or_true, Bool.or_false, Bool.true_or, Bool.false_or, reduceCtorEq] <;> first | rfl | (simp_all; done) | (split <;> simp_all)
                                                      exact ⟨by rw [hz], hrs.tr hsc.rs, by rw [hz]; exact (hsc.x hS 32).trans hran⟩
                                                    · refine jv_iload (q := 379) G 1 dX8_met_377 rfl rfl ?_
                                                      refine jv_iload (q := 381) G 4 dX8_met_379 rfl rfl ?_
                                                      refine jv_icmp_eqN (q := 384) (tgt := 399) G dX8_met_381 (by decide) rfl (by omega) (by omega) (fun c667 => ?_) (fun c667 => ?_)
                                                      · refine jv_aload_n (q := 400) G 5 dX8_met_399 rfl rfl rfl ?_
                                                        refine jv_iload_n (q := 401) G 7 dX8_met_400 rfl rfl rfl ?_
                                                        refine jv_iload (q := 403) G 0 dX8_met_401 rfl rfl ?_
                                                        refine jv_iload (q := 405) G 1 dX8_met_403 rfl rfl ?_
                                                        refine jv_callV (q := 408) (As := [.int (nI e), .int (nI (6 * (10 * e + p654.1) + p654.2)), .int (nI (10 * e + k636))]) (rest := []) G Z ml_X8_189 (r_selected (d := 11) hlt hsc hS he hE hV ht655 hm656 ht637 (hg k636 (by omega))) (hsc.S hS).1 dX8_met_405 rfl (by decide) (by decide) (by decide) (by decide) (Nat.le_of_ble_eq_true rfl) rfl rfl (fun v669 h668 y670 => ?_) (fun _ _ hx => hx.elim)
                                                        obtain ⟨rfl, hsc⟩ := y670
                                                        show jv_V E 14 h668 0 0 (jv_Q E (fun v h' => v = some (.int (nI (m_met (decide (e = ec)) tsC ts pk su 4 ty n s rc).1)) ∧ rs x q h h' ∧ jv_I h' x 32 = jv_oN (m_met (decide (e = ec)) tsC ts pk su 4 ty n s rc).2) jv_no 0 0) 408 [(12, .int (nI (6 * (10 * e + p654.1) + p654.2))), (11, .int (nI (10 * e + k636))), (10, .int (nI 1)), (9, .int (-1)), (8, .int (nI (10 * e + k609))), (0, .ref x), (1, .int (nI c)), (2, .int (nI e)), (3, .int (nI 4)), (4, .int ty), (5, .int n), (6, .int s), (7, .int rc)] [.int (ffE e (m_sl ts 11 t655 m656 p654.1 p654.2 k636))]
                                                        rcases Option.eq_none_or_eq_some (m_sl ts 11 t655 m656 p654.1 p654.2 k636) with hp674 | ⟨p671, hp674⟩
                                                        · refine jv_topI (y := (-1)) (by rw [hp674]; rfl) ?_
                                                          refine jv_istore (q := 410) (lo' := [(13, .int (-1)), (12, .int (nI (6 * (10 * e + p654.1) + p654.2))), (11, .int (nI (10 * e + k636))), (10, .int (nI 1)), (9, .int (-1)), (8, .int (nI (10 * e + k609))), (0, .ref x), (1, .int (nI c)), (2, .int (nI e)), (3, .int (nI 4)), (4, .int ty), (5, .int n), (6, .int s), (7, .int rc)]) G dX8_met_408 (by decide) rfl rfl ?_
                                                          refine jv_iload (q := 412) G 0 dX8_met_410 rfl rfl ?_
                                                          refine jv_iconst (q := 413) (v := (-1)) G dX8_met_412 (by decide) rfl ?_
                                                          refine jv_icmp_eq (q := 416) (tgt := 426) G dX8_met_413 (by decide) rfl (fun c675 => ?_) (fun c675 => ?_)
                                                          · refine jv_iconst (q := 427) (v := nI 5) G dX8_met_426 (by decide) rfl ?_
                                                            refine jv_iret G hr dX8_met_427 (Nat.le_of_ble_eq_true rfl) (Nat.le_of_ble_eq_true rfl) ?_
                                                            have hz : (m_met (decide (e = ec)) tsC ts pk su 4 ty n s rc) = (5, none) := by
                                                              unfold m_met m_isC m_bd
                                                              simp only [*, if_true, if_false, Bool.false_eq_true, reduceIte, Option.map_some, decide_true, decide_false, not_true_eq_false, not_false_eq_true, and_true, true_and, and_false, false_and, or_true, true_or, or_false, false_or, Bool.or_true, Bool.or_false, Bool.true_or, Bool.false_or, reduceCtorEq] <;> first | rfl | (simp_all; done) | (split <;> simp_all)
                                                            exact ⟨by rw [hz], hrs.tr hsc.rs, by rw [hz]; exact (hsc.x hS 32).trans hran⟩
                                                          · exact absurd rfl c675
                                                        · refine jv_topI (y := nI (6 * (10 * e + p671.1) + p671.2)) (by rw [hp674]; rfl) ?_
                                                          obtain ⟨t672, ht672, m673, hm673⟩ := m_sl_mem ht655 hm656 hp674
                                                          have Tt672 := (hE.2.2 p671.1 t672 ht672).1
                                                          have Ot672 := (hE.2.2 p671.1 t672 ht672).2
                                                          have Lt672 := hE.2.1
                                                          have lt672 := jv_ltGet ht672
                                                          have Mm673 := rt_m Tt672 hm673
                                                          have Om673 := Ot672.2.2.2.2.2.2 m673 (List.mem_of_getElem? hm673)
                                                          have Lm673 := Ot672.2.2.2.2.2.1
                                                          have lm673 := jv_ltGet hm673
                                                          have Bm673n := Om673.1; have Bm673s := Om673.2.1; have Bm673a := Om673.2.2.1; have Bt672n := Ot672.1; have Bt672k := Ot672.2.1
                                                          refine jv_istore (q := 410) (lo' := [(13, .int (nI (6 * (10 * e + p671.1) + p671.2))), (12, .int (nI (6 * (10 * e + p654.1) + p654.2))), (11, .int (nI (10 * e + k636))), (10, .int (nI 1)), (9, .int (-1)), (8, .int (nI (10 * e + k609))), (0, .ref x), (1, .int (nI c)), (2, .int (nI e)), (3, .int (nI 4)), (4, .int ty), (5, .int n), (6, .int s), (7, .int rc)]) G dX8_met_408 (by decide) rfl rfl ?_
                                                          refine jv_iload (q := 412) G 0 dX8_met_410 rfl rfl ?_
                                                          refine jv_iconst (q := 413) (v := (-1)) G dX8_met_412 (by decide) rfl ?_
                                                          refine jv_icmp_eq (q := 416) (tgt := 426) G dX8_met_413 (by decide) rfl (fun c676 => ?_) (fun c676 => ?_)
                                                          · exact absurd c676 (jv_nI_m1 (by omega))
                                                          · refine jv_aload_n (q := 417) G 6 dX8_met_416 rfl rfl rfl ?_
                                                            refine jv_getQ (q := 420) G dX8_met_417 fl_X8_59 rfl (hsc.S hS).1 (rf_p18 (hsc.S hS)) rfl ?_
                                                            refine jv_iload (q := 422) G 0 dX8_met_420 rfl rfl ?_
                                                            refine jv_iald (q := 423) G dX8_met_422 (rf_a18 (hsc.S hS)) rfl (by omega) (by decide) (hsc.M hS Mm673).2.2.2.2.2.1 rfl ?_
                                                            refine jv_if_ge (q := 426) (tgt := 428) G dX8_met_423 (by decide) rfl (fun c677 => ?_) (fun c677 => ?_)
                                                            · refine jv_iload_n (q := 429) G 9 dX8_met_428 rfl rfl rfl ?_
                                                              refine jv_iconst (q := 430) (v := nI 4) G dX8_met_429 (by decide) rfl ?_
                                                              refine jv_icmp_neN (q := 433) (tgt := 446) G dX8_met_430 (by decide) rfl (by omega) (by omega) (fun c678 => ?_) (fun c678 => ?_)
                                                              · omega
                                                              · refine jv_aload_n (q := 434) G 6 dX8_met_433 rfl rfl rfl ?_
                                                                refine jv_getQ (q := 437) G dX8_met_434 fl_X8_53 rfl (hsc.S hS).1 (rf_p16 (hsc.S hS)) rfl ?_
                                                                refine jv_iload (q := 439) G 0 dX8_met_437 rfl rfl ?_
                                                                refine jv_iald (q := 440) G dX8_met_439 (rf_a16 (hsc.S hS)) rfl (by omega) (by decide) (hsc.M hS Mm673).2.2.2.1 rfl ?_
                                                                refine jv_iconst (q := 441) (v := nI 3) G dX8_met_440 (by decide) rfl ?_
                                                                refine jv_icmp_eqN (q := 444) (tgt := 446) G dX8_met_441 (by decide) rfl (by omega) (by omega) (fun c679 => ?_) (fun c679 => ?_)
                                                                · refine jv_aload_n (q := 447) G 6 dX8_met_446 rfl rfl rfl ?_
                                                                  refine jv_aload_n (q := 448) G 6 dX8_met_447 rfl rfl rfl ?_
                                                                  refine jv_getQ (q := 451) G dX8_met_448 fl_X8_17 rfl (hsc.S hS).1 (rf_p4 (hsc.S hS)) rfl ?_
                                                                  refine jv_iload (q := 453) G 0 dX8_met_451 rfl rfl ?_
                                                                  refine jv_callS_I (q := 456) (h1 := h668) (As := [.int (nI (6 * (10 * e + p671.1) + p671.2))]) (rest := [.ref (q 4), .ref x]) (ce' := 0) (sl' := 0) (r := nI ((6 * (10 * e + p671.1) + p671.2) / 6)) G Z ml_X8_183 (r_typeOf hlt (by omega)) dX8_met_453 rfl (by decide) (by decide) (by decide) (by decide) (Nat.le_of_ble_eq_true rfl) rfl rfl rfl rfl ?_
                                                                  refine jv_topI (y := nI (10 * e + p671.1)) (congrArg nI (by omega)) ?_
                                                                  refine jv_iald (q := 457) G dX8_met_456 (rf_a4 (hsc.S hS)) rfl (by omega) (by decide) (rt_4 (hsc.T hS Tt672)) rfl ?_
                                                                  refine jv_putI (q := 460) G dX8_met_457 fl_X8_192 rfl (hsc.S hS).1 rfl ?_
                                                                  have hr1 : rs x q h668 (jv_wI h668 x 32 (nI (mt_n t672))) := rs.rf.wI (nI (mt_n t672)) (Or.inl ⟨rfl, Or.inr (Or.inl rfl)⟩)
                                                                  have hran : jv_I (jv_wI h668 x 32 (nI (mt_n t672))) x 32 = (nI (mt_n t672)) := jv_I_self _ _ _ _
                                                                  have hSb := hsc.S hS
                                                                  have hE := hr1.E hSb (hsc.E hS hE)
                                                                  have hV := hr1.V hSb (hsc.V hS hV)
                                                                  have hEC := hr1.E hSb (hsc.E hS hEC)
                                                                  have hVC := hr1.V hSb (hsc.V hS hVC)
                                                                  have hce := (wx_I hSb 22 (by decide) rfl 32 c (nI (mt_n t672))).trans ((hsc.I2 hS 22 (by decide) rfl (by decide) c).trans hce)
                                                                  have hpk := (wx_I hSb 23 (by decide) rfl 32 c (nI (mt_n t672))).trans ((hsc.I2 hS 23 (by decide) rfl (by decide) c).trans hpk)
                                                                  have hsu := (wx_I hSb 24 (by decide) rfl 32 c (nI (mt_n t672))).trans ((hsc.I2 hS 24 (by decide) rfl (by decide) c).trans hsu)
                                                                  have hrs := (hrs.tr hsc.rs).tr hr1
                                                                  have hS := hr1.S hSb
                                                                  generalize jv_wI h668 x 32 (nI (mt_n t672)) = h680 at hran hE hV hEC hVC hce hpk hsu hrs hS ⊢
                                                                  have hsc : sc x q h680 h680 := sc.rf
                                                                  refine jv_iload_n (q := 461) G 8 dX8_met_460 rfl rfl rfl ?_
                                                                  refine jv_aload_n (q := 462) G 6 dX8_met_461 rfl rfl rfl ?_
                                                                  refine jv_getQ (q := 465) G dX8_met_462 fl_X8_68 rfl (hsc.S hS).1 (rf_p22 (hsc.S hS)) rfl ?_
                                                                  refine jv_iload_n (q := 466) G 7 dX8_met_465 rfl rfl rfl ?_
                                                                  refine jv_iald (q := 467) G dX8_met_466 (rf_a22 (hsc.S hS)) rfl (by omega) (by decide) ((hsc.I2 hS 22 (by decide) rfl (by decide) c).trans hce) rfl ?_
                                                                  refine jv_icmp_eqN (q := 470) (tgt := 495) G dX8_met_467 (by decide) rfl (by omega) (by omega) (fun c681 => ?_) (fun c681 => ?_)
                                                                  · refine jv_iconst (q := 496) (v := nI 0) G dX8_met_495 (by decide) rfl ?_
                                                                    refine jv_iret G hr dX8_met_496 (Nat.le_of_ble_eq_true rfl) (Nat.le_of_ble_eq_true rfl) ?_
                                                                    have hz : (m_met (decide (e = ec)) tsC ts pk su 4 ty n s rc) = (0, some (mt_n t672)) := by
                                                                      unfold m_met m_isC m_bd
                                                                      simp only [*, if_true, if_false, Bool.false_eq_true, reduceIte, Option.map_some, decide_true, decide_false, not_true_eq_false, not_false_eq_true, and_true, true_and, and_false, false_and, or_true, true_or, or_false, false_or, Bool.or_true, Bool.or_false, Bool.true_or, Bool.false_or, reduceCtorEq] <;> first | rfl | (simp_all; done) | (split <;> simp_all)
                                                                    exact ⟨by rw [hz], hrs.tr hsc.rs, by rw [hz]; exact (hsc.x hS 32).trans hran⟩
                                                                  · refine jv_aload_n (q := 471) G 6 dX8_met_470 rfl rfl rfl ?_
                                                                    refine jv_getI (q := 474) G dX8_met_471 fl_X8_192 rfl (hsc.S hS).1 ((hsc.x hS 32).trans hran) rfl ?_
                                                                    refine jv_aload_n (q := 475) G 6 dX8_met_474 rfl rfl rfl ?_
                                                                    refine jv_iload_n (q := 476) G 7 dX8_met_475 rfl rfl rfl ?_
                                                                    refine jv_iload (q := 478) G 10 dX8_met_476 rfl rfl ?_
                                                                    refine jv_iload (q := 480) G 11 dX8_met_478 rfl rfl ?_
                                                                    refine jv_iload (q := 482) G 12 dX8_met_480 rfl rfl ?_
                                                                    refine jv_iload (q := 484) G 13 dX8_met_482 rfl rfl ?_
                                                                    refine jv_callV (q := 487) (As := [.int (nI c), .int ty, .int n, .int s, .int rc]) (rest := [.int (nI (mt_n t672))]) G Z ml_X8_202 (r_ownRun hlt hsc hS hc hec hEC hVC hce hgC) (hsc.S hS).1 dX8_met_484 rfl (by decide) (by decide) (by decide) (by decide) (Nat.le_of_ble_eq_true rfl) rfl rfl (fun v683 h682 y684 => ?_) (fun _ _ hx => hx.elim)
                                                                    obtain ⟨rfl, hsc⟩ := y684
                                                                    show jv_V E 14 h682 0 0 (jv_Q E (fun v h' => v = some (.int (nI (m_met (decide (e = ec)) tsC ts pk su 4 ty n s rc).1)) ∧ rs x q h h' ∧ jv_I h' x 32 = jv_oN (m_met (decide (e = ec)) tsC ts pk su 4 ty n s rc).2) jv_no 0 0) 487 [(13, .int (nI (6 * (10 * e + p671.1) + p671.2))), (12, .int (nI (6 * (10 * e + p654.1) + p654.2))), (11, .int (nI (10 * e + k636))), (10, .int (nI 1)), (9, .int (-1)), (8, .int (nI (10 * e + k609))), (0, .ref x), (1, .int (nI c)), (2, .int (nI e)), (3, .int (nI 4)), (4, .int ty), (5, .int n), (6, .int s), (7, .int rc)] [.int (jv_oN (m_orn tsC ty n s rc)), .int (nI (mt_n t672))]
                                                                    refine jv_icmp_eq (q := 490) (tgt := 495) G dX8_met_487 (by decide) rfl (fun c685 => ?_) (fun c685 => ?_)
                                                                    · refine jv_iconst (q := 496) (v := nI 0) G dX8_met_495 (by decide) rfl ?_
                                                                      refine jv_iret G hr dX8_met_496 (Nat.le_of_ble_eq_true rfl) (Nat.le_of_ble_eq_true rfl) ?_
                                                                      have hz : (m_met (decide (e = ec)) tsC ts pk su 4 ty n s rc) = (0, some (mt_n t672)) := by
                                                                        unfold m_met m_isC m_bd
                                                                        simp only [*, if_true, if_false, Bool.false_eq_true, reduceIte, Option.map_some, decide_true, decide_false, not_true_eq_false, not_false_eq_true, and_true, true_and, and_false, false_and, or_true, true_or, or_false, false_or, Bool.or_true, Bool.or_false, Bool.true_or, Bool.false_or, reduceCtorEq] <;> first | rfl | (simp_all; done) | (split <;> simp_all)
                                                                      exact ⟨by rw [hz], hrs.tr hsc.rs, by rw [hz]; exact (hsc.x hS 32).trans hran⟩
                                                                    · refine jv_bipush (q := 492) (v := nI 8) G dX8_met_490 (by decide) rfl ?_
                                                                      refine jv_goto (q := 496) G dX8_met_492 (by decide) ?_
                                                                      refine jv_iret G hr dX8_met_496 (Nat.le_of_ble_eq_true rfl) (Nat.le_of_ble_eq_true rfl) ?_
                                                                      have hz : (m_met (decide (e = ec)) tsC ts pk su 4 ty n s rc) = (8, some (mt_n t672)) := by
                                                                        unfold m_met m_isC m_bd
                                                                        simp only [*, if_true, if_false, Bool.false_eq_true, reduceIte, Option.map_some, decide_true, decide_false, not_true_eq_false, not_false_eq_true, and_true, true_and, and_false, false_and, or_true, true_or, or_false, false_or, Bool.or_true, Bool.or_false, Bool.true_or, Bool.false_or, reduceCtorEq] <;> first | rfl | (simp_all; done) | (split <;> simp_all)
                                                                      exact ⟨by rw [hz], hrs.tr hsc.rs, by rw [hz]; exact (hsc.x hS 32).trans hran⟩
                                                                · refine jv_iconst (q := 445) (v := nI 3) G dX8_met_444 (by decide) rfl ?_
                                                                  refine jv_iret G hr dX8_met_445 (Nat.le_of_ble_eq_true rfl) (Nat.le_of_ble_eq_true rfl) ?_
                                                                  have hz : (m_met (decide (e = ec)) tsC ts pk su 4 ty n s rc) = (3, none) := by
                                                                    unfold m_met m_isC m_bd
                                                                    simp only [*, if_true, if_false, Bool.false_eq_true, reduceIte, Option.map_some, decide_true, decide_false, not_true_eq_false, not_false_eq_true, and_true, true_and, and_false, false_and, or_true, true_or, or_false, false_or, Bool.or_true, Bool.or_false, Bool.true_or, Bool.false_or, reduceCtorEq] <;> first | rfl | (simp_all; done) | (split <;> simp_all)
                                                                  exact ⟨by rw [hz], hrs.tr hsc.rs, by rw [hz]; exact (hsc.x hS 32).trans hran⟩
                                                            · refine jv_iconst (q := 427) (v := nI 5) G dX8_met_426 (by decide) rfl ?_
                                                              refine jv_iret G hr dX8_met_427 (Nat.le_of_ble_eq_true rfl) (Nat.le_of_ble_eq_true rfl) ?_
                                                              have hz : (m_met (decide (e = ec)) tsC ts pk su 4 ty n s rc) = (5, none) := by
                                                                unfold m_met m_isC m_bd
                                                                simp only [*, if_true, if_false, Bool.false_eq_true, reduceIte, Option.map_some, decide_true, decide_false, not_true_eq_false, not_false_eq_true, and_true, true_and, and_false, false_and, or_true, true_or, or_false, false_or, Bool.or_true, Bool.or_false, Bool.true_or, Bool.false_or, reduceCtorEq] <;> first | rfl | (simp_all; done) | (split <;> simp_all)
                                                              exact ⟨by rw [hz], hrs.tr hsc.rs, by rw [hz]; exact (hsc.x hS 32).trans hran⟩
                                                      · refine jv_aload_n (q := 385) G 5 dX8_met_384 rfl rfl rfl ?_
                                                        refine jv_iload_n (q := 386) G 7 dX8_met_385 rfl rfl rfl ?_
                                                        refine jv_iload (q := 388) G 9 dX8_met_386 rfl rfl ?_
                                                        refine jv_iload (q := 390) G 12 dX8_met_388 rfl rfl ?_
                                                        refine jv_callV_I (q := 393) (h1 := h651) (As := [.int (nI e), .int ty, .int rc]) (rest := []) (ce' := 0) (sl' := 0) (r := jv_bI (m_isA ts ty rc)) G Z ml_X8_167 (r_isAbove hlt hsc hS he hV) (hsc.S hS).1 dX8_met_390 rfl (by decide) (by decide) (by decide) (by decide) (Nat.le_of_ble_eq_true rfl) rfl rfl rfl rfl ?_
                                                        refine jv_if_neB (q := 396) (tgt := 399) G dX8_met_393 (by decide) rfl (fun c686 => ?_) (fun c686 => ?_)
                                                        · refine jv_aload_n (q := 400) G 5 dX8_met_399 rfl rfl rfl ?_
                                                          refine jv_iload_n (q := 401) G 7 dX8_met_400 rfl rfl rfl ?_
                                                          refine jv_iload (q := 403) G 0 dX8_met_401 rfl rfl ?_
                                                          refine jv_iload (q := 405) G 1 dX8_met_403 rfl rfl ?_
                                                          refine jv_callV (q := 408) (As := [.int (nI e), .int (nI (6 * (10 * e + p654.1) + p654.2)), .int (nI (10 * e + k636))]) (rest := []) G Z ml_X8_189 (r_selected (d := 11) hlt hsc hS he hE hV ht655 hm656 ht637 (hg k636 (by omega))) (hsc.S hS).1 dX8_met_405 rfl (by decide) (by decide) (by decide) (by decide) (Nat.le_of_ble_eq_true rfl) rfl rfl (fun v688 h687 y689 => ?_) (fun _ _ hx => hx.elim)
                                                          obtain ⟨rfl, hsc⟩ := y689
                                                          show jv_V E 14 h687 0 0 (jv_Q E (fun v h' => v = some (.int (nI (m_met (decide (e = ec)) tsC ts pk su 4 ty n s rc).1)) ∧ rs x q h h' ∧ jv_I h' x 32 = jv_oN (m_met (decide (e = ec)) tsC ts pk su 4 ty n s rc).2) jv_no 0 0) 408 [(12, .int (nI (6 * (10 * e + p654.1) + p654.2))), (11, .int (nI (10 * e + k636))), (10, .int (nI 1)), (9, .int (-1)), (8, .int (nI (10 * e + k609))), (0, .ref x), (1, .int (nI c)), (2, .int (nI e)), (3, .int (nI 4)), (4, .int ty), (5, .int n), (6, .int s), (7, .int rc)] [.int (ffE e (m_sl ts 11 t655 m656 p654.1 p654.2 k636))]
                                                          rcases Option.eq_none_or_eq_some (m_sl ts 11 t655 m656 p654.1 p654.2 k636) with hp693 | ⟨p690, hp693⟩
                                                          · refine jv_topI (y := (-1)) (by rw [hp693]; rfl) ?_
                                                            refine jv_istore (q := 410) (lo' := [(13, .int (-1)), (12, .int (nI (6 * (10 * e + p654.1) + p654.2))), (11, .int (nI (10 * e + k636))), (10, .int (nI 1)), (9, .int (-1)), (8, .int (nI (10 * e + k609))), (0, .ref x), (1, .int (nI c)), (2, .int (nI e)), (3, .int (nI 4)), (4, .int ty), (5, .int n), (6, .int s), (7, .int rc)]) G dX8_met_408 (by decide) rfl rfl ?_
                                                            refine jv_iload (q := 412) G 0 dX8_met_410 rfl rfl ?_
                                                            refine jv_iconst (q := 413) (v := (-1)) G dX8_met_412 (by decide) rfl ?_
                                                            refine jv_icmp_eq (q := 416) (tgt := 426) G dX8_met_413 (by decide) rfl (fun c694 => ?_) (fun c694 => ?_)
                                                            · refine jv_iconst (q := 427) (v := nI 5) G dX8_met_426 (by decide) rfl ?_
                                                              refine jv_iret G hr dX8_met_427 (Nat.le_of_ble_eq_true rfl) (Nat.le_of_ble_eq_true rfl) ?_
                                                              have hz : (m_met (decide (e = ec)) tsC ts pk su 4 ty n s rc) = (5, none) := by
                                                                unfold m_met m_isC m_bd
                                                                simp only [*, if_true, if_false, Bool.false_eq_true, reduceIte, Option.map_some, decide_true, decide_false, not_true_eq_false, not_false_eq_true, and_true, true_and, and_false, false_and, or_true, true_or, or_false, false_or, Bool.or_true, Bool.or_false, Bool.true_or, Bool.false_or, reduceCtorEq] <;> first | rfl | (simp_all; done) | (split <;> simp_all)
                                                              exact ⟨by rw [hz], hrs.tr hsc.rs, by rw [hz]; exact (hsc.x hS 32).trans hran⟩
                                                            · exact absurd rfl c694
                                                          · refine jv_topI (y := nI (6 * (10 * e + p690.1) + p690.2)) (by rw [hp693]; rfl) ?_
                                                            obtain ⟨t691, ht691, m692, hm692⟩ := m_sl_mem ht655 hm656 hp693
                                                            have Tt691 := (hE.2.2 p690.1 t691 ht691).1
                                                            have Ot691 := (hE.2.2 p690.1 t691 ht691).2
                                                            have Lt691 := hE.2.1
                                                            have lt691 := jv_ltGet ht691
                                                            have Mm692 := rt_m Tt691 hm692
                                                            have Om692 := Ot691.2.2.2.2.2.2 m692 (List.mem_of_getElem? hm692)
                                                            have Lm692 := Ot691.2.2.2.2.2.1
                                                            have lm692 := jv_ltGet hm692
                                                            have Bm692n := Om692.1; have Bm692s := Om692.2.1; have Bm692a := Om692.2.2.1; have Bt691n := Ot691.1; have Bt691k := Ot691.2.1
                                                            refine jv_istore (q := 410) (lo' := [(13, .int (nI (6 * (10 * e + p690.1) + p690.2))), (12, .int (nI (6 * (10 * e + p654.1) + p654.2))), (11, .int (nI (10 * e + k636))), (10, .int (nI 1)), (9, .int (-1)), (8, .int (nI (10 * e + k609))), (0, .ref x), (1, .int (nI c)), (2, .int (nI e)), (3, .int (nI 4)), (4, .int ty), (5, .int n), (6, .int s), (7, .int rc)]) G dX8_met_408 (by decide) rfl rfl ?_
                                                            refine jv_iload (q := 412) G 0 dX8_met_410 rfl rfl ?_
                                                            refine jv_iconst (q := 413) (v := (-1)) G dX8_met_412 (by decide) rfl ?_
                                                            refine jv_icmp_eq (q := 416) (tgt := 426) G dX8_met_413 (by decide) rfl (fun c695 => ?_) (fun c695 => ?_)
                                                            · exact absurd c695 (jv_nI_m1 (by omega))
                                                            · refine jv_aload_n (q := 417) G 6 dX8_met_416 rfl rfl rfl ?_
                                                              refine jv_getQ (q := 420) G dX8_met_417 fl_X8_59 rfl (hsc.S hS).1 (rf_p18 (hsc.S hS)) rfl ?_
                                                              refine jv_iload (q := 422) G 0 dX8_met_420 rfl rfl ?_
                                                              refine jv_iald (q := 423) G dX8_met_422 (rf_a18 (hsc.S hS)) rfl (by omega) (by decide) (hsc.M hS Mm692).2.2.2.2.2.1 rfl ?_
                                                              refine jv_if_ge (q := 426) (tgt := 428) G dX8_met_423 (by decide) rfl (fun c696 => ?_) (fun c696 => ?_)
                                                              · refine jv_iload_n (q := 429) G 9 dX8_met_428 rfl rfl rfl ?_
                                                                refine jv_iconst (q := 430) (v := nI 4) G dX8_met_429 (by decide) rfl ?_
                                                                refine jv_icmp_neN (q := 433) (tgt := 446) G dX8_met_430 (by decide) rfl (by omega) (by omega) (fun c697 => ?_) (fun c697 => ?_)
                                                                · omega
                                                                · refine jv_aload_n (q := 434) G 6 dX8_met_433 rfl rfl rfl ?_
                                                                  refine jv_getQ (q := 437) G dX8_met_434 fl_X8_53 rfl (hsc.S hS).1 (rf_p16 (hsc.S hS)) rfl ?_
                                                                  refine jv_iload (q := 439) G 0 dX8_met_437 rfl rfl ?_
                                                                  refine jv_iald (q := 440) G dX8_met_439 (rf_a16 (hsc.S hS)) rfl (by omega) (by decide) (hsc.M hS Mm692).2.2.2.1 rfl ?_
                                                                  refine jv_iconst (q := 441) (v := nI 3) G dX8_met_440 (by decide) rfl ?_
                                                                  refine jv_icmp_eqN (q := 444) (tgt := 446) G dX8_met_441 (by decide) rfl (by omega) (by omega) (fun c698 => ?_) (fun c698 => ?_)
                                                                  · refine jv_aload_n (q := 447) G 6 dX8_met_446 rfl rfl rfl ?_
                                                                    refine jv_aload_n (q := 448) G 6 dX8_met_447 rfl rfl rfl ?_
                                                                    refine jv_getQ (q := 451) G dX8_met_448 fl_X8_17 rfl (hsc.S hS).1 (rf_p4 (hsc.S hS)) rfl ?_
                                                                    refine jv_iload (q := 453) G 0 dX8_met_451 rfl rfl ?_
                                                                    refine jv_callS_I (q := 456) (h1 := h687) (As := [.int (nI (6 * (10 * e + p690.1) + p690.2))]) (rest := [.ref (q 4), .ref x]) (ce' := 0) (sl' := 0) (r := nI ((6 * (10 * e + p690.1) + p690.2) / 6)) G Z ml_X8_183 (r_typeOf hlt (by omega)) dX8_met_453 rfl (by decide) (by decide) (by decide) (by decide) (Nat.le_of_ble_eq_true rfl) rfl rfl rfl rfl ?_
                                                                    refine jv_topI (y := nI (10 * e + p690.1)) (congrArg nI (by omega)) ?_
                                                                    refine jv_iald (q := 457) G dX8_met_456 (rf_a4 (hsc.S hS)) rfl (by omega) (by decide) (rt_4 (hsc.T hS Tt691)) rfl ?_
                                                                    refine jv_putI (q := 460) G dX8_met_457 fl_X8_192 rfl (hsc.S hS).1 rfl ?_
                                                                    have hr1 : rs x q h687 (jv_wI h687 x 32 (nI (mt_n t691))) := rs.rf.wI (nI (mt_n t691)) (Or.inl ⟨rfl, Or.inr (Or.inl rfl)⟩)
                                                                    have hran : jv_I (jv_wI h687 x 32 (nI (mt_n t691))) x 32 = (nI (mt_n t691)) := jv_I_self _ _ _ _
                                                                    have hSb := hsc.S hS
                                                                    have hE := hr1.E hSb (hsc.E hS hE)
                                                                    have hV := hr1.V hSb (hsc.V hS hV)
                                                                    have hEC := hr1.E hSb (hsc.E hS hEC)
                                                                    have hVC := hr1.V hSb (hsc.V hS hVC)
                                                                    have hce := (wx_I hSb 22 (by decide) rfl 32 c (nI (mt_n t691))).trans ((hsc.I2 hS 22 (by decide) rfl (by decide) c).trans hce)
                                                                    have hpk := (wx_I hSb 23 (by decide) rfl 32 c (nI (mt_n t691))).trans ((hsc.I2 hS 23 (by decide) rfl (by decide) c).trans hpk)
                                                                    have hsu := (wx_I hSb 24 (by decide) rfl 32 c (nI (mt_n t691))).trans ((hsc.I2 hS 24 (by decide) rfl (by decide) c).trans hsu)
                                                                    have hrs := (hrs.tr hsc.rs).tr hr1
                                                                    have hS := hr1.S hSb
                                                                    generalize jv_wI h687 x 32 (nI (mt_n t691)) = h699 at hran hE hV hEC hVC hce hpk hsu hrs hS ⊢
                                                                    have hsc : sc x q h699 h699 := sc.rf
                                                                    refine jv_iload_n (q := 461) G 8 dX8_met_460 rfl rfl rfl ?_
                                                                    refine jv_aload_n (q := 462) G 6 dX8_met_461 rfl rfl rfl ?_
                                                                    refine jv_getQ (q := 465) G dX8_met_462 fl_X8_68 rfl (hsc.S hS).1 (rf_p22 (hsc.S hS)) rfl ?_
                                                                    refine jv_iload_n (q := 466) G 7 dX8_met_465 rfl rfl rfl ?_
                                                                    refine jv_iald (q := 467) G dX8_met_466 (rf_a22 (hsc.S hS)) rfl (by omega) (by decide) ((hsc.I2 hS 22 (by decide) rfl (by decide) c).trans hce) rfl ?_
                                                                    refine jv_icmp_eqN (q := 470) (tgt := 495) G dX8_met_467 (by decide) rfl (by omega) (by omega) (fun c700 => ?_) (fun c700 => ?_)
                                                                    · refine jv_iconst (q := 496) (v := nI 0) G dX8_met_495 (by decide) rfl ?_
                                                                      refine jv_iret G hr dX8_met_496 (Nat.le_of_ble_eq_true rfl) (Nat.le_of_ble_eq_true rfl) ?_
                                                                      have hz : (m_met (decide (e = ec)) tsC ts pk su 4 ty n s rc) = (0, some (mt_n t691)) := by
                                                                        unfold m_met m_isC m_bd
                                                                        simp only [*, if_true, if_false, Bool.false_eq_true, reduceIte, Option.map_some, decide_true, decide_false, not_true_eq_false, not_false_eq_true, and_true, true_and, and_false, false_and, or_true, true_or, or_false, false_or, Bool.or_true, Bool.or_false, Bool.true_or, Bool.false_or, reduceCtorEq] <;> first | rfl | (simp_all; done) | (split <;> simp_all)
                                                                      exact ⟨by rw [hz], hrs.tr hsc.rs, by rw [hz]; exact (hsc.x hS 32).trans hran⟩
                                                                    · refine jv_aload_n (q := 471) G 6 dX8_met_470 rfl rfl rfl ?_
                                                                      refine jv_getI (q := 474) G dX8_met_471 fl_X8_192 rfl (hsc.S hS).1 ((hsc.x hS 32).trans hran) rfl ?_
                                                                      refine jv_aload_n (q := 475) G 6 dX8_met_474 rfl rfl rfl ?_
                                                                      refine jv_iload_n (q := 476) G 7 dX8_met_475 rfl rfl rfl ?_
                                                                      refine jv_iload (q := 478) G 10 dX8_met_476 rfl rfl ?_
                                                                      refine jv_iload (q := 480) G 11 dX8_met_478 rfl rfl ?_
                                                                      refine jv_iload (q := 482) G 12 dX8_met_480 rfl rfl ?_
                                                                      refine jv_iload (q := 484) G 13 dX8_met_482 rfl rfl ?_
                                                                      refine jv_callV (q := 487) (As := [.int (nI c), .int ty, .int n, .int s, .int rc]) (rest := [.int (nI (mt_n t691))]) G Z ml_X8_202 (r_ownRun hlt hsc hS hc hec hEC hVC hce hgC) (hsc.S hS).1 dX8_met_484 rfl (by decide) (by decide) (by decide) (by decide) (Nat.le_of_ble_eq_true rfl) rfl rfl (fun v702 h701 y703 => ?_) (fun _ _ hx => hx.elim)
                                                                      obtain ⟨rfl, hsc⟩ := y703
                                                                      show jv_V E 14 h701 0 0 (jv_Q E (fun v h' => v = some (.int (nI (m_met (decide (e = ec)) tsC ts pk su 4 ty n s rc).1)) ∧ rs x q h h' ∧ jv_I h' x 32 = jv_oN (m_met (decide (e = ec)) tsC ts pk su 4 ty n s rc).2) jv_no 0 0) 487 [(13, .int (nI (6 * (10 * e + p690.1) + p690.2))), (12, .int (nI (6 * (10 * e + p654.1) + p654.2))), (11, .int (nI (10 * e + k636))), (10, .int (nI 1)), (9, .int (-1)), (8, .int (nI (10 * e + k609))), (0, .ref x), (1, .int (nI c)), (2, .int (nI e)), (3, .int (nI 4)), (4, .int ty), (5, .int n), (6, .int s), (7, .int rc)] [.int (jv_oN (m_orn tsC ty n s rc)), .int (nI (mt_n t691))]
                                                                      refine jv_icmp_eq (q := 490) (tgt := 495) G dX8_met_487 (by decide) rfl (fun c704 => ?_) (fun c704 => ?_)
                                                                      · refine jv_iconst (q := 496) (v := nI 0) G dX8_met_495 (by decide) rfl ?_
                                                                        refine jv_iret G hr dX8_met_496 (Nat.le_of_ble_eq_true rfl) (Nat.le_of_ble_eq_true rfl) ?_
                                                                        have hz : (m_met (decide (e = ec)) tsC ts pk su 4 ty n s rc) = (0, some (mt_n t691)) := by
                                                                          unfold m_met m_isC m_bd
                                                                          simp only [*, if_true, if_false, Bool.false_eq_true, reduceIte, Option.map_some, decide_true, decide_false, not_true_eq_false, not_false_eq_true, and_true, true_and, and_false, false_and, or_true, true_or, or_false, false_or, Bool.or_true, Bool.or_false, Bool.true_or, Bool.false_or, reduceCtorEq] <;> first | rfl | (simp_all; done) | (split <;> simp_all)
                                                                        exact ⟨by rw [hz], hrs.tr hsc.rs, by rw [hz]; exact (hsc.x hS 32).trans hran⟩
                                                                      · refine jv_bipush (q := 492) (v := nI 8) G dX8_met_490 (by decide) rfl ?_
                                                                        refine jv_goto (q := 496) G dX8_met_492 (by decide) ?_
                                                                        refine jv_iret G hr dX8_met_496 (Nat.le_of_ble_eq_true rfl) (Nat.le_of_ble_eq_true rfl) ?_
                                                                        have hz : (m_met (decide (e = ec)) tsC ts pk su 4 ty n s rc) = (8, some (mt_n t691)) := by
                                                                          unfold m_met m_isC m_bd
                                                                          simp only [*, if_true, if_false, Bool.false_eq_true, reduceIte, Option.map_some, decide_true, decide_false, not_true_eq_false, not_false_eq_true, and_true, true_and, and_false, false_and, or_true, true_or, or_false, false_or, Bool.or_true, Bool.or_false, Bool.true_or, Bool.false_or, reduceCtorEq] <;> first | rfl | (simp_all; done) | (split <;> simp_all)
                                                                        exact ⟨by rw [hz], hrs.tr hsc.rs, by rw [hz]; exact (hsc.x hS 32).trans hran⟩
                                                                  · refine jv_iconst (q := 445) (v := nI 3) G dX8_met_444 (by decide) rfl ?_
                                                                    refine jv_iret G hr dX8_met_445 (Nat.le_of_ble_eq_true rfl) (Nat.le_of_ble_eq_true rfl) ?_
                                                                    have hz : (m_met (decide (e = ec)) tsC ts pk su 4 ty n s rc) = (3, none) := by
                                                                      unfold m_met m_isC m_bd
                                                                      simp only [*, if_true, if_false, Bool.false_eq_true, reduceIte, Option.map_some, decide_true, decide_false, not_true_eq_false, not_false_eq_true, and_true, true_and, and_false, false_and, or_true, true_or, or_false, false_or, Bool.or_true, Bool.or_false, Bool.true_or, Bool.false_or, reduceCtorEq] <;> first | rfl | (simp_all; done) | (split <;> simp_all)
                                                                    exact ⟨by rw [hz], hrs.tr hsc.rs, by rw [hz]; exact (hsc.x hS 32).trans hran⟩
                                                              · refine jv_iconst (q := 427) (v := nI 5) G dX8_met_426 (by decide) rfl ?_
                                                                refine jv_iret G hr dX8_met_427 (Nat.le_of_ble_eq_true rfl) (Nat.le_of_ble_eq_true rfl) ?_
                                                                have hz : (m_met (decide (e = ec)) tsC ts pk su 4 ty n s rc) = (5, none) := by
                                                                  unfold m_met m_isC m_bd
                                                                  simp only [*, if_true, if_false, Bool.false_eq_true, reduceIte, Option.map_some, decide_true, decide_false, not_true_eq_false, not_false_eq_true, and_true, true_and, and_false, false_and, or_true, true_or, or_false, false_or, Bool.or_true, Bool.or_false, Bool.true_or, Bool.false_or, reduceCtorEq] <;> first | rfl | (simp_all; done) | (split <;> simp_all)
                                                                exact ⟨by rw [hz], hrs.tr hsc.rs, by rw [hz]; exact (hsc.x hS 32).trans hran⟩
                                                        · refine jv_bipush (q := 398) (v := nI 6) G dX8_met_396 (by decide) rfl ?_
                                                          refine jv_iret G hr dX8_met_398 (Nat.le_of_ble_eq_true rfl) (Nat.le_of_ble_eq_true rfl) ?_
                                                          have hz : (m_met (decide (e = ec)) tsC ts pk su 4 ty n s rc) = (6, none) := by
                                                            unfold m_met m_isC m_bd
                                                            simp only [*, if_true, if_false, Bool.false_eq_true, reduceIte, Option.map_some, decide_true, decide_false, not_true_eq_false, not_false_eq_true, and_true, true_and, and_false, false_and, or_true, true_or, or_false, false_or, Bool.or_true, Bool.or_false, Bool.true_or, Bool.false_or, reduceCtorEq] <;> first | rfl | (simp_all; done) | (split <;> simp_all)
                                                          exact ⟨by rw [hz], hrs.tr hsc.rs, by rw [hz]; exact (hsc.x hS 32).trans hran⟩
                                                · omega
                                              · refine jv_iconst (q := 326) (v := nI 4) G dX8_met_325 (by decide) rfl ?_
                                                refine jv_iret G hr dX8_met_326 (Nat.le_of_ble_eq_true rfl) (Nat.le_of_ble_eq_true rfl) ?_
                                                have hz : (m_met (decide (e = ec)) tsC ts pk su 4 ty n s rc) = (4, none) := by
                                                  unfold m_met m_isC m_bd
                                                  simp only [*, if_true, if_false, Bool.false_eq_true, reduceIte, Option.map_some, decide_true, decide_false, not_true_eq_false, not_false_eq_true, and_true, true_and, and_false, false_and, or_true, true_or, or_false, false_or, Bool.or_true, Bool.or_false, Bool.true_or, Bool.false_or, reduceCtorEq] <;> first | rfl | (simp_all; done) | (split <;> simp_all)
                                                exact ⟨by rw [hz], hrs.tr hsc.rs, by rw [hz]; exact (hsc.x hS 32).trans hran⟩
                                            · omega
                                        · refine jv_iconst (q := 299) (v := nI 3) G dX8_met_298 (by decide) rfl ?_
                                          refine jv_iret G hr dX8_met_299 (Nat.le_of_ble_eq_true rfl) (Nat.le_of_ble_eq_true rfl) ?_
                                          have hz : (m_met (decide (e = ec)) tsC ts pk su 4 ty n s rc) = (3, none) := by
                                            unfold m_met m_isC m_bd
                                            simp only [*, if_true, if_false, Bool.false_eq_true, reduceIte, Option.map_some, decide_true, decide_false, not_true_eq_false, not_false_eq_true, and_true, true_and, and_false, false_and, or_true, true_or, or_false, false_or, Bool.or_true, Bool.or_false, Bool.true_or, Bool.false_or, reduceCtorEq] <;> first | rfl | (simp_all; done) | (split <;> simp_all)
                                          exact ⟨by rw [hz], hrs.tr hsc.rs, by rw [hz]; exact (hsc.x hS 32).trans hran⟩
                                      · exact absurd c659 (jv_nI_m1 (by omega))
                                  · omega
                                · omega
                              · refine jv_bipush (q := 225) (v := nI 6) G dX8_met_223 (by decide) rfl ?_
                                refine jv_iret G hr dX8_met_225 (Nat.le_of_ble_eq_true rfl) (Nat.le_of_ble_eq_true rfl) ?_
                                have hz : (m_met (decide (e = ec)) tsC ts pk su 4 ty n s rc) = (6, none) := by
                                  unfold m_met m_isC m_bd
                                  simp only [*, if_true, if_false, Bool.false_eq_true, reduceIte, Option.map_some, decide_true, decide_false, not_true_eq_false, not_false_eq_true, and_true, true_and, and_false, false_and, or_true, true_or, or_false, false_or, Bool.or_true, Bool.or_false, Bool.true_or, Bool.false_or, reduceCtorEq] <;> first | rfl | (simp_all; done) | (split <;> simp_all)
                                exact ⟨by rw [hz], hrs.tr hsc.rs, by rw [hz]; exact (hsc.x hS 32).trans hran⟩
                          · omega
                        · refine jv_aload_n (q := 176) G 4 dX8_met_175 rfl rfl rfl ?_
                          refine jv_getQ (q := 179) G dX8_met_176 fl_X8_26 rfl (hsc.S hS).1 (rf_p7 (hsc.S hS)) rfl ?_
                          refine jv_iload (q := 181) G 3 dX8_met_179 rfl rfl ?_
                          refine jv_iald (q := 182) G dX8_met_181 (rf_a7 (hsc.S hS)) rfl (by omega) (by decide) (rt_7 (hsc.T hS Tt610)) rfl ?_
                          refine jv_aload_n (q := 183) G 4 dX8_met_182 rfl rfl rfl ?_
                          refine jv_getQ (q := 186) G dX8_met_183 fl_X8_71 rfl (hsc.S hS).1 (rf_p23 (hsc.S hS)) rfl ?_
                          refine jv_iload_n (q := 187) G 5 dX8_met_186 rfl rfl rfl ?_
                          refine jv_iald (q := 188) G dX8_met_187 (rf_a23 (hsc.S hS)) rfl (by omega) (by decide) rfl rfl ?_
                          refine jv_icmp_eq (q := 191) (tgt := 193) G dX8_met_188 (by decide) rfl (fun c705 => ?_) (fun c705 => ?_)
                          · refine jv_iload_n (q := 194) G 7 dX8_met_193 rfl rfl rfl ?_
                            refine jv_iconst (q := 195) (v := nI 2) G dX8_met_194 (by decide) rfl ?_
                            refine jv_icmp_neN (q := 198) (tgt := 208) G dX8_met_195 (by decide) rfl (by omega) (by omega) (fun c706 => ?_) (fun c706 => ?_)
                            · refine jv_iload_n (q := 209) G 7 dX8_met_208 rfl rfl rfl ?_
                              refine jv_iconst (q := 210) (v := nI 4) G dX8_met_209 (by decide) rfl ?_
                              refine jv_icmp_neN (q := 213) (tgt := 226) G dX8_met_210 (by decide) rfl (by omega) (by omega) (fun c707 => ?_) (fun c707 => ?_)
                              · omega
                              · refine jv_aload_n (q := 214) G 4 dX8_met_213 rfl rfl rfl ?_
                                refine jv_getQ (q := 217) G dX8_met_214 fl_X8_20 rfl (hsc.S hS).1 (rf_p5 (hsc.S hS)) rfl ?_
                                refine jv_iload (q := 219) G 3 dX8_met_217 rfl rfl ?_
                                refine jv_zald (q := 220) G dX8_met_219 (rf_a5 (hsc.S hS)) rfl (by omega) (by decide) (rt_5 (hsc.T hS Tt610)) rfl ?_
                                refine jv_if_neB (q := 223) (tgt := 226) G dX8_met_220 (by decide) rfl (fun c708 => ?_) (fun c708 => ?_)
                                · refine jv_iload_n (q := 227) G 7 dX8_met_226 rfl rfl rfl ?_
                                  refine jv_iconst (q := 228) (v := nI 5) G dX8_met_227 (by decide) rfl ?_
                                  refine jv_icmp_neN (q := 231) (tgt := 247) G dX8_met_228 (by decide) rfl (by omega) (by omega) (fun c709 => ?_) (fun c709 => ?_)
                                  · refine jv_iload_n (q := 248) G 7 dX8_met_247 rfl rfl rfl ?_
                                    refine jv_iconst (q := 249) (v := nI 2) G dX8_met_248 (by decide) rfl ?_
                                    refine jv_icmp_geN (q := 252) (tgt := 266) G dX8_met_249 (by decide) rfl (by omega) (by omega) (fun c710 => ?_) (fun c710 => ?_)
                                    · refine jv_aload_n (q := 267) G 4 dX8_met_266 rfl rfl rfl ?_
                                      refine jv_iload_n (q := 268) G 6 dX8_met_267 rfl rfl rfl ?_
                                      refine jv_iload (q := 270) G 3 dX8_met_268 rfl rfl ?_
                                      refine jv_iload (q := 272) G 9 dX8_met_270 rfl rfl ?_
                                      refine jv_iload (q := 274) G 10 dX8_met_272 rfl rfl ?_
                                      refine jv_callV (q := 277) (As := [.int (nI e), .int (nI (10 * e + k609)), .int n, .int s]) (rest := []) G Z ml_X8_186 (r_findMethod (d := 11) hlt hsc hS he hE hV ht610 (hg k609 (by omega))) (hsc.S hS).1 dX8_met_274 rfl (by decide) (by decide) (by decide) (by decide) (Nat.le_of_ble_eq_true rfl) rfl rfl (fun v712 h711 y713 => ?_) (fun _ _ hx => hx.elim)
                                      obtain ⟨rfl, hsc⟩ := y713
                                      show jv_V E 14 h711 0 0 (jv_Q E (fun v h' => v = some (.int (nI (m_met (decide (e = ec)) tsC ts pk su 4 ty n s rc).1)) ∧ rs x q h h' ∧ jv_I h' x 32 = jv_oN (m_met (decide (e = ec)) tsC ts pk su 4 ty n s rc).2) jv_no 0 0) 277 [(11, .int (nI (10 * e + k636))), (10, .int (nI 1)), (9, .int (-1)), (8, .int (nI (10 * e + k609))), (0, .ref x), (1, .int (nI c)), (2, .int (nI e)), (3, .int (nI 4)), (4, .int ty), (5, .int n), (6, .int s), (7, .int rc)] [.int (ffE e (m_fm ts 11 k609 n s))]
                                      rcases Option.eq_none_or_eq_some (m_fm ts 11 k609 n s) with hp717 | ⟨p714, hp717⟩
                                      · refine jv_topI (y := (-1)) (by rw [hp717]; rfl) ?_
                                        refine jv_istore (q := 279) (lo' := [(12, .int (-1)), (11, .int (nI (10 * e + k636))), (10, .int (nI 1)), (9, .int (-1)), (8, .int (nI (10 * e + k609))), (0, .ref x), (1, .int (nI c)), (2, .int (nI e)), (3, .int (nI 4)), (4, .int ty), (5, .int n), (6, .int s), (7, .int rc)]) G dX8_met_277 (by decide) rfl rfl ?_
                                        refine jv_iload (q := 281) G 0 dX8_met_279 rfl rfl ?_
                                        refine jv_iconst (q := 282) (v := (-1)) G dX8_met_281 (by decide) rfl ?_
                                        refine jv_icmp_ne (q := 285) (tgt := 287) G dX8_met_282 (by decide) rfl (fun c718 => ?_) (fun c718 => ?_)
                                        · exact absurd rfl c718
                                        · refine jv_iconst (q := 286) (v := nI 2) G dX8_met_285 (by decide) rfl ?_
                                          refine jv_iret G hr dX8_met_286 (Nat.le_of_ble_eq_true rfl) (Nat.le_of_ble_eq_true rfl) ?_
                                          have hz : (m_met (decide (e = ec)) tsC ts pk su 4 ty n s rc) = (2, none) := by
                                            unfold m_met m_isC m_bd
                                            simp only [*, if_true, if_false, Bool.false_eq_true, reduceIte, Option.map_some, decide_true, decide_false, not_true_eq_false, not_false_eq_true, and_true, true_and, and_false, false_and, or_true, true_or, or_false, false_or, Bool.or_true, Bool.or_false, Bool.true_or, Bool.false_or, reduceCtorEq] <;> first | rfl | (simp_all; done) | (split <;> simp_all)
                                          exact ⟨by rw [hz], hrs.tr hsc.rs, by rw [hz]; exact (hsc.x hS 32).trans hran⟩
                                      · refine jv_topI (y := nI (6 * (10 * e + p714.1) + p714.2)) (by rw [hp717]; rfl) ?_
                                        obtain ⟨t715, ht715, m716, hm716⟩ := m_fm_mem hp717
                                        have Tt715 := (hE.2.2 p714.1 t715 ht715).1
                                        have Ot715 := (hE.2.2 p714.1 t715 ht715).2
                                        have Lt715 := hE.2.1
                                        have lt715 := jv_ltGet ht715
                                        have Mm716 := rt_m Tt715 hm716
                                        have Om716 := Ot715.2.2.2.2.2.2 m716 (List.mem_of_getElem? hm716)
                                        have Lm716 := Ot715.2.2.2.2.2.1
                                        have lm716 := jv_ltGet hm716
                                        have Bm716n := Om716.1; have Bm716s := Om716.2.1; have Bm716a := Om716.2.2.1; have Bt715n := Ot715.1; have Bt715k := Ot715.2.1
                                        refine jv_istore (q := 279) (lo' := [(12, .int (nI (6 * (10 * e + p714.1) + p714.2))), (11, .int (nI (10 * e + k636))), (10, .int (nI 1)), (9, .int (-1)), (8, .int (nI (10 * e + k609))), (0, .ref x), (1, .int (nI c)), (2, .int (nI e)), (3, .int (nI 4)), (4, .int ty), (5, .int n), (6, .int s), (7, .int rc)]) G dX8_met_277 (by decide) rfl rfl ?_
                                        refine jv_iload (q := 281) G 0 dX8_met_279 rfl rfl ?_
                                        refine jv_iconst (q := 282) (v := (-1)) G dX8_met_281 (by decide) rfl ?_
                                        refine jv_icmp_ne (q := 285) (tgt := 287) G dX8_met_282 (by decide) rfl (fun c719 => ?_) (fun c719 => ?_)
                                        · refine jv_aload_n (q := 288) G 5 dX8_met_287 rfl rfl rfl ?_
                                          refine jv_iload_n (q := 289) G 6 dX8_met_288 rfl rfl rfl ?_
                                          refine jv_iload_n (q := 290) G 7 dX8_met_289 rfl rfl rfl ?_
                                          refine jv_iload (q := 292) G 0 dX8_met_290 rfl rfl ?_
                                          refine jv_callV_I (q := 295) (h1 := h711) (As := [.int (nI c), .int (nI e), .int (nI (6 * (10 * e + p714.1) + p714.2))]) (rest := []) (ce' := 0) (sl' := 0) (r := jv_bI (m_mr ts pk su t715 m716)) G Z ml_X8_199 (r_mayReach hlt hsc hS hc he hE hV ht715 hm716 hpk hpk5 hsu hsu16) (hsc.S hS).1 dX8_met_292 rfl (by decide) (by decide) (by decide) (by decide) (Nat.le_of_ble_eq_true rfl) rfl rfl rfl rfl ?_
                                          refine jv_if_neB (q := 298) (tgt := 300) G dX8_met_295 (by decide) rfl (fun c720 => ?_) (fun c720 => ?_)
                                          · refine jv_aload_n (q := 301) G 5 dX8_met_300 rfl rfl rfl ?_
                                            refine jv_getQ (q := 304) G dX8_met_301 fl_X8_56 rfl (hsc.S hS).1 (rf_p17 (hsc.S hS)) rfl ?_
                                            refine jv_iload (q := 306) G 0 dX8_met_304 rfl rfl ?_
                                            refine jv_zald (q := 307) G dX8_met_306 (rf_a17 (hsc.S hS)) rfl (by omega) (by decide) (hsc.M hS Mm716).2.2.2.2.1 rfl ?_
                                            refine jv_iload_n (q := 308) G 8 dX8_met_307 rfl rfl rfl ?_
                                            refine jv_iconst (q := 309) (v := nI 1) G dX8_met_308 (by decide) rfl ?_
                                            refine jv_icmp_eqN (q := 312) (tgt := 317) G dX8_met_309 (by decide) rfl (by omega) (by omega) (fun c721 => ?_) (fun c721 => ?_)
                                            · omega
                                            · refine jv_iload_n (q := 313) G 8 dX8_met_312 rfl rfl rfl ?_
                                              refine jv_iconst (q := 314) (v := nI 3) G dX8_met_313 (by decide) rfl ?_
                                              refine jv_icmp_neN (q := 317) (tgt := 321) G dX8_met_314 (by decide) rfl (by omega) (by omega) (fun c722 => ?_) (fun c722 => ?_)
                                              · refine jv_iconst (q := 322) (v := nI 0) G dX8_met_321 (by decide) rfl ?_
                                                refine jv_icmp_eq (q := 325) (tgt := 327) G dX8_met_322 (by decide) rfl (fun c723 => ?_) (fun c723 => ?_)
                                                · refine jv_iload (q := 329) G 2 dX8_met_327 rfl rfl ?_
                                                  refine jv_if_neN (q := 332) (tgt := 357) G dX8_met_329 (by decide) rfl (by omega) (fun c724 => ?_) (fun c724 => ?_)
                                                  · refine jv_aload_n (q := 358) G 5 dX8_met_357 rfl rfl rfl ?_
                                                    refine jv_getQ (q := 361) G dX8_met_358 fl_X8_20 rfl (hsc.S hS).1 (rf_p5 (hsc.S hS)) rfl ?_
                                                    refine jv_iload (q := 363) G 1 dX8_met_361 rfl rfl ?_
                                                    refine jv_zald (q := 364) G dX8_met_363 (rf_a5 (hsc.S hS)) rfl (by omega) (by decide) (rt_5 (hsc.T hS Tt637)) rfl ?_
                                                    refine jv_if_neB (q := 367) (tgt := 396) G dX8_met_364 (by decide) rfl (fun c725 => ?_) (fun c725 => ?_)
                                                    · refine jv_bipush (q := 398) (v := nI 6) G dX8_met_396 (by decide) rfl ?_
                                                      refine jv_iret G hr dX8_met_398 (Nat.le_of_ble_eq_true rfl) (Nat.le_of_ble_eq_true rfl) ?_
                                                      have hz : (m_met (decide (e = ec)) tsC ts pk su 4 ty n s rc) = (6, none) := by
                                                        unfold m_met m_isC m_bd
                                                        simp only [*, if_true, if_false, Bool.false_eq_true, reduceIte, Option.map_some, decide_true, decide_false, not_true_eq_false, not_false_eq_true, and_true, true_and, and_false, false_and, or_true, true_or, or_false, false_or, Bool.or_true, Bool.or_false, Bool.true_or, Bool.false_or, reduceCtorEq] <;> first | rfl | (simp_all; done) | (split <;> simp_all)
                                                      exact ⟨by rw [hz], hrs.tr hsc.rs, by rw [hz]; exact (hsc.x hS 32).trans hran⟩
                                                    · refine jv_aload_n (q := 368) G 5 dX8_met_367 rfl rfl rfl ?_
                                                      refine jv_getQ (q := 371) G dX8_met_368 fl_X8_23 rfl (hsc.S hS).1 (rf_p6 (hsc.S hS)) rfl ?_
                                                      refine jv_iload (q := 373) G 1 dX8_met_371 rfl rfl ?_
                                                      refine jv_zald (q := 374) G dX8_met_373 (rf_a6 (hsc.S hS)) rfl (by omega) (by decide) (rt_6 (hsc.T hS Tt637)) rfl ?_
                                                      refine jv_if_neB (q := 377) (tgt := 396) G dX8_met_374 (by decide) rfl (fun c726 => ?_) (fun c726 => ?_)
                                                      · refine jv_bipush (q := 398) (v := nI 6) G dX8_met_396 (by decide) rfl ?_
                                                        refine jv_iret G hr dX8_met_398 (Nat.le_of_ble_eq_true rfl) (Nat.le_of_ble_eq_true rfl) ?_
                                                        have hz : (m_met (decide (e = ec)) tsC ts pk su 4 ty n s rc) = (6, none) := by
                                                          unfold m_met m_isC m_bd
                                                          simp only [*, if_true, if_false, Bool.false_eq_true, reduceIte, Option.map_some, decide_true, decide_false, not_true_eq_false, not_false_eq_true, and_true, true_and, and_false, false_and, or_true, true_or, or_false, false_or, Bool.or_true, Bool.or_false, Bool.true_or, Bool.false_or, reduceCtorEq] <;> first | rfl | (simp_all; done) | (split <;> simp_all)
                                                        exact ⟨by rw [hz], hrs.tr hsc.rs, by rw [hz]; exact (hsc.x hS 32).trans hran⟩
                                                      · refine jv_iload (q := 379) G 1 dX8_met_377 rfl rfl ?_
                                                        refine jv_iload (q := 381) G 4 dX8_met_379 rfl rfl ?_
                                                        refine jv_icmp_eqN (q := 384) (tgt := 399) G dX8_met_381 (by decide) rfl (by omega) (by omega) (fun c727 => ?_) (fun c727 => ?_)
                                                        · refine jv_aload_n (q := 400) G 5 dX8_met_399 rfl rfl rfl ?_
                                                          refine jv_iload_n (q := 401) G 7 dX8_met_400 rfl rfl rfl ?_
                                                          refine jv_iload (q := 403) G 0 dX8_met_401 rfl rfl ?_
                                                          refine jv_iload (q := 405) G 1 dX8_met_403 rfl rfl ?_
                                                          refine jv_callV (q := 408) (As := [.int (nI e), .int (nI (6 * (10 * e + p714.1) + p714.2)), .int (nI (10 * e + k636))]) (rest := []) G Z ml_X8_189 (r_selected (d := 11) hlt hsc hS he hE hV ht715 hm716 ht637 (hg k636 (by omega))) (hsc.S hS).1 dX8_met_405 rfl (by decide) (by decide) (by decide) (by decide) (Nat.le_of_ble_eq_true rfl) rfl rfl (fun v729 h728 y730 => ?_) (fun _ _ hx => hx.elim)
                                                          obtain ⟨rfl, hsc⟩ := y730
                                                          show jv_V E 14 h728 0 0 (jv_Q E (fun v h' => v = some (.int (nI (m_met (decide (e = ec)) tsC ts pk su 4 ty n s rc).1)) ∧ rs x q h h' ∧ jv_I h' x 32 = jv_oN (m_met (decide (e = ec)) tsC ts pk su 4 ty n s rc).2) jv_no 0 0) 408 [(12, .int (nI (6 * (10 * e + p714.1) + p714.2))), (11, .int (nI (10 * e + k636))), (10, .int (nI 1)), (9, .int (-1)), (8, .int (nI (10 * e + k609))), (0, .ref x), (1, .int (nI c)), (2, .int (nI e)), (3, .int (nI 4)), (4, .int ty), (5, .int n), (6, .int s), (7, .int rc)] [.int (ffE e (m_sl ts 11 t715 m716 p714.1 p714.2 k636))]
                                                          rcases Option.eq_none_or_eq_some (m_sl ts 11 t715 m716 p714.1 p714.2 k636) with hp734 | ⟨p731, hp734⟩
                                                          · refine jv_topI (y := (-1)) (by rw [hp734]; rfl) ?_
                                                            refine jv_istore (q := 410) (lo' := [(13, .int (-1)), (12, .int (nI (6 * (10 * e + p714.1) + p714.2))), (11, .int (nI (10 * e + k636))), (10, .int (nI 1)), (9, .int (-1)), (8, .int (nI (10 * e + k609))), (0, .ref x), (1, .int (nI c)), (2, .int (nI e)), (3, .int (nI 4)), (4, .int ty), (5, .int n), (6, .int s), (7, .int rc)]) G dX8_met_408 (by decide) rfl rfl ?_
                                                            refine jv_iload (q := 412) G 0 dX8_met_410 rfl rfl ?_
                                                            refine jv_iconst (q := 413) (v := (-1)) G dX8_met_412 (by decide) rfl ?_
                                                            refine jv_icmp_eq (q := 416) (tgt := 426) G dX8_met_413 (by decide) rfl (fun c735 => ?_) (fun c735 => ?_)
                                                            · refine jv_iconst (q := 427) (v := nI 5) G dX8_met_426 (by decide) rfl ?_
                                                              refine jv_iret G hr dX8_met_427 (Nat.le_of_ble_eq_true rfl) (Nat.le_of_ble_eq_true rfl) ?_
                                                              have hz : (m_met (decide (e = ec)) tsC ts pk su 4 ty n s rc) = (5, none) := by
                                                                unfold m_met m_isC m_bd
                                                                simp only [*, if_true, if_false, Bool.false_eq_true, reduceIte, Option.map_some, decide_true, decide_false, not_true_eq_false, not_false_eq_true, and_true, true_and, and_false, false_and, or_true, true_or, or_false, false_or, Bool.or_true, Bool.or_false, Bool.true_or, Bool.false_or, reduceCtorEq] <;> first | rfl | (simp_all; done) | (split <;> simp_all)
                                                              exact ⟨by rw [hz], hrs.tr hsc.rs, by rw [hz]; exact (hsc.x hS 32).trans hran⟩
                                                            · exact absurd rfl c735
                                                          · refine jv_topI (y := nI (6 * (10 * e + p731.1) + p731.2)) (by rw [hp734]; rfl) ?_
                                                            obtain ⟨t732, ht732, m733, hm733⟩ := m_sl_mem ht715 hm716 hp734
                                                            have Tt732 := (hE.2.2 p731.1 t732 ht732).1
                                                            have Ot732 := (hE.2.2 p731.1 t732 ht732).2
                                                            have Lt732 := hE.2.1
                                                            have lt732 := jv_ltGet ht732
                                                            have Mm733 := rt_m Tt732 hm733
                                                            have Om733 := Ot732.2.2.2.2.2.2 m733 (List.mem_of_getElem? hm733)
                                                            have Lm733 := Ot732.2.2.2.2.2.1
                                                            have lm733 := jv_ltGet hm733
                                                            have Bm733n := Om733.1; have Bm733s := Om733.2.1; have Bm733a := Om733.2.2.1; have Bt732n := Ot732.1; have Bt732k := Ot732.2.1
                                                            refine jv_istore (q := 410) (lo' := [(13, .int (nI (6 * (10 * e + p731.1) + p731.2))), (12, .int (nI (6 * (10 * e + p714.1) + p714.2))), (11, .int (nI (10 * e + k636))), (10, .int (nI 1)), (9, .int (-1)), (8, .int (nI (10 * e + k609))), (0, .ref x), (1, .int (nI c)), (2, .int (nI e)), (3, .int (nI 4)), (4, .int ty), (5, .int n), (6, .int s), (7, .int rc)]) G dX8_met_408 (by decide) rfl rfl ?_
                                                            refine jv_iload (q := 412) G 0 dX8_met_410 rfl rfl ?_
                                                            refine jv_iconst (q := 413) (v := (-1)) G dX8_met_412 (by decide) rfl ?_
                                                            refine jv_icmp_eq (q := 416) (tgt := 426) G dX8_met_413 (by decide) rfl (fun c736 => ?_) (fun c736 => ?_)
                                                            · exact absurd c736 (jv_nI_m1 (by omega))
                                                            · refine jv_aload_n (q := 417) G 6 dX8_met_416 rfl rfl rfl ?_
                                                              refine jv_getQ (q := 420) G dX8_met_417 fl_X8_59 rfl (hsc.S hS).1 (rf_p18 (hsc.S hS)) rfl ?_
                                                              refine jv_iload (q := 422) G 0 dX8_met_420 rfl rfl ?_
                                                              refine jv_iald (q := 423) G dX8_met_422 (rf_a18 (hsc.S hS)) rfl (by omega) (by decide) (hsc.M hS Mm733).2.2.2.2.2.1 rfl ?_
                                                              refine jv_if_ge (q := 426) (tgt := 428) G dX8_met_423 (by decide) rfl (fun c737 => ?_) (fun c737 => ?_)
                                                              · refine jv_iload_n (q := 429) G 9 dX8_met_428 rfl rfl rfl ?_
                                                                refine jv_iconst (q := 430) (v := nI 4) G dX8_met_429 (by decide) rfl ?_
                                                                refine jv_icmp_neN (q := 433) (tgt := 446) G dX8_met_430 (by decide) rfl (by omega) (by omega) (fun c738 => ?_) (fun c738 => ?_)
                                                                · omega
                                                                · refine jv_aload_n (q := 434) G 6 dX8_met_433 rfl rfl rfl ?_
                                                                  refine jv_getQ (q := 437) G dX8_met_434 fl_X8_53 rfl (hsc.S hS).1 (rf_p16 (hsc.S hS)) rfl ?_
                                                                  refine jv_iload (q := 439) G 0 dX8_met_437 rfl rfl ?_
                                                                  refine jv_iald (q := 440) G dX8_met_439 (rf_a16 (hsc.S hS)) rfl (by omega) (by decide) (hsc.M hS Mm733).2.2.2.1 rfl ?_
                                                                  refine jv_iconst (q := 441) (v := nI 3) G dX8_met_440 (by decide) rfl ?_
                                                                  refine jv_icmp_eqN (q := 444) (tgt := 446) G dX8_met_441 (by decide) rfl (by omega) (by omega) (fun c739 => ?_) (fun c739 => ?_)
                                                                  · refine jv_aload_n (q := 447) G 6 dX8_met_446 rfl rfl rfl ?_
                                                                    refine jv_aload_n (q := 448) G 6 dX8_met_447 rfl rfl rfl ?_
                                                                    refine jv_getQ (q := 451) G dX8_met_448 fl_X8_17 rfl (hsc.S hS).1 (rf_p4 (hsc.S hS)) rfl ?_
                                                                    refine jv_iload (q := 453) G 0 dX8_met_451 rfl rfl ?_
                                                                    refine jv_callS_I (q := 456) (h1 := h728) (As := [.int (nI (6 * (10 * e + p731.1) + p731.2))]) (rest := [.ref (q 4), .ref x]) (ce' := 0) (sl' := 0) (r := nI ((6 * (10 * e + p731.1) + p731.2) / 6)) G Z ml_X8_183 (r_typeOf hlt (by omega)) dX8_met_453 rfl (by decide) (by decide) (by decide) (by decide) (Nat.le_of_ble_eq_true rfl) rfl rfl rfl rfl ?_
                                                                    refine jv_topI (y := nI (10 * e + p731.1)) (congrArg nI (by omega)) ?_
                                                                    refine jv_iald (q := 457) G dX8_met_456 (rf_a4 (hsc.S hS)) rfl (by omega) (by decide) (rt_4 (hsc.T hS Tt732)) rfl ?_
                                                                    refine jv_putI (q := 460) G dX8_met_457 fl_X8_192 rfl (hsc.S hS).1 rfl ?_
                                                                    have hr1 : rs x q h728 (jv_wI h728 x 32 (nI (mt_n t732))) := rs.rf.wI (nI (mt_n t732)) (Or.inl ⟨rfl, Or.inr (Or.inl rfl)⟩)
                                                                    have hran : jv_I (jv_wI h728 x 32 (nI (mt_n t732))) x 32 = (nI (mt_n t732)) := jv_I_self _ _ _ _
                                                                    have hSb := hsc.S hS
                                                                    have hE := hr1.E hSb (hsc.E hS hE)
                                                                    have hV := hr1.V hSb (hsc.V hS hV)
                                                                    have hEC := hr1.E hSb (hsc.E hS hEC)
                                                                    have hVC := hr1.V hSb (hsc.V hS hVC)
                                                                    have hce := (wx_I hSb 22 (by decide) rfl 32 c (nI (mt_n t732))).trans ((hsc.I2 hS 22 (by decide) rfl (by decide) c).trans hce)
                                                                    have hpk := (wx_I hSb 23 (by decide) rfl 32 c (nI (mt_n t732))).trans ((hsc.I2 hS 23 (by decide) rfl (by decide) c).trans hpk)
                                                                    have hsu := (wx_I hSb 24 (by decide) rfl 32 c (nI (mt_n t732))).trans ((hsc.I2 hS 24 (by decide) rfl (by decide) c).trans hsu)
                                                                    have hrs := (hrs.tr hsc.rs).tr hr1
                                                                    have hS := hr1.S hSb
                                                                    generalize jv_wI h728 x 32 (nI (mt_n t732)) = h740 at hran hE hV hEC hVC hce hpk hsu hrs hS ⊢
                                                                    have hsc : sc x q h740 h740 := sc.rf
                                                                    refine jv_iload_n (q := 461) G 8 dX8_met_460 rfl rfl rfl ?_
                                                                    refine jv_aload_n (q := 462) G 6 dX8_met_461 rfl rfl rfl ?_
                                                                    refine jv_getQ (q := 465) G dX8_met_462 fl_X8_68 rfl (hsc.S hS).1 (rf_p22 (hsc.S hS)) rfl ?_
                                                                    refine jv_iload_n (q := 466) G 7 dX8_met_465 rfl rfl rfl ?_
                                                                    refine jv_iald (q := 467) G dX8_met_466 (rf_a22 (hsc.S hS)) rfl (by omega) (by decide) ((hsc.I2 hS 22 (by decide) rfl (by decide) c).trans hce) rfl ?_
                                                                    refine jv_icmp_eqN (q := 470) (tgt := 495) G dX8_met_467 (by decide) rfl (by omega) (by omega) (fun c741 => ?_) (fun c741 => ?_)
                                                                    · refine jv_iconst (q := 496) (v := nI 0) G dX8_met_495 (by decide) rfl ?_
                                                                      refine jv_iret G hr dX8_met_496 (Nat.le_of_ble_eq_true rfl) (Nat.le_of_ble_eq_true rfl) ?_
                                                                      have hz : (m_met (decide (e = ec)) tsC ts pk su 4 ty n s rc) = (0, some (mt_n t732)) := by
                                                                        unfold m_met m_isC m_bd
                                                                        simp only [*, if_true, if_false, Bool.false_eq_true, reduceIte, Option.map_some, decide_true, decide_false, not_true_eq_false, not_false_eq_true, and_true, true_and, and_false, false_and, or_true, true_or, or_false, false_or, Bool.or_true, Bool.or_false, Bool.true_or, Bool.false_or, reduceCtorEq] <;> first | rfl | (simp_all; done) | (split <;> simp_all)
                                                                      exact ⟨by rw [hz], hrs.tr hsc.rs, by rw [hz]; exact (hsc.x hS 32).trans hran⟩
                                                                    · refine jv_aload_n (q := 471) G 6 dX8_met_470 rfl rfl rfl ?_
                                                                      refine jv_getI (q := 474) G dX8_met_471 fl_X8_192 rfl (hsc.S hS).1 ((hsc.x hS 32).trans hran) rfl ?_
                                                                      refine jv_aload_n (q := 475) G 6 dX8_met_474 rfl rfl rfl ?_
                                                                      refine jv_iload_n (q := 476) G 7 dX8_met_475 rfl rfl rfl ?_
                                                                      refine jv_iload (q := 478) G 10 dX8_met_476 rfl rfl ?_
                                                                      refine jv_iload (q := 480) G 11 dX8_met_478 rfl rfl ?_
                                                                      refine jv_iload (q := 482) G 12 dX8_met_480 rfl rfl ?_
                                                                      refine jv_iload (q := 484) G 13 dX8_met_482 rfl rfl ?_
                                                                      refine jv_callV (q := 487) (As := [.int (nI c), .int ty, .int n, .int s, .int rc]) (rest := [.int (nI (mt_n t732))]) G Z ml_X8_202 (r_ownRun hlt hsc hS hc hec hEC hVC hce hgC) (hsc.S hS).1 dX8_met_484 rfl (by decide) (by decide) (by decide) (by decide) (Nat.le_of_ble_eq_true rfl) rfl rfl (fun v743 h742 y744 => ?_) (fun _ _ hx => hx.elim)
                                                                      obtain ⟨rfl, hsc⟩ := y744
                                                                      show jv_V E 14 h742 0 0 (jv_Q E (fun v h' => v = some (.int (nI (m_met (decide (e = ec)) tsC ts pk su 4 ty n s rc).1)) ∧ rs x q h h' ∧ jv_I h' x 32 = jv_oN (m_met (decide (e = ec)) tsC ts pk su 4 ty n s rc).2) jv_no 0 0) 487 [(13, .int (nI (6 * (10 * e + p731.1) + p731.2))), (12, .int (nI (6 * (10 * e + p714.1) + p714.2))), (11, .int (nI (10 * e + k636))), (10, .int (nI 1)), (9, .int (-1)), (8, .int (nI (10 * e + k609))), (0, .ref x), (1, .int (nI c)), (2, .int (nI e)), (3, .int (nI 4)), (4, .int ty), (5, .int n), (6, .int s), (7, .int rc)] [.int (jv_oN (m_orn tsC ty n s rc)), .int (nI (mt_n t732))]
                                                                      refine jv_icmp_eq (q := 490) (tgt := 495) G dX8_met_487 (by decide) rfl (fun c745 => ?_) (fun c745 => ?_)
                                                                      · refine jv_iconst (q := 496) (v := nI 0) G dX8_met_495 (by decide) rfl ?_
                                                                        refine jv_iret G hr dX8_met_496 (Nat.le_of_ble_eq_true rfl) (Nat.le_of_ble_eq_true rfl) ?_
                                                                        have hz : (m_met (decide (e = ec)) tsC ts pk su 4 ty n s rc) = (0, some (mt_n t732)) := by
                                                                          unfold m_met m_isC m_bd
                                                                          simp only [*, if_true, if_false, Bool.false_eq_true, reduceIte, Option.map_some, decide_true, decide_false, not_true_eq_false, not_false_eq_true, and_true, true_and, and_false, false_and, or_true, true_or, or_false, false_or, Bool.or_true, Bool.or_false, Bool.true_or, Bool.false_or, reduceCtorEq] <;> first | rfl | (simp_all; done) | (split <;> simp_all)
                                                                        exact ⟨by rw [hz], hrs.tr hsc.rs, by rw [hz]; exact (hsc.x hS 32).trans hran⟩
                                                                      · refine jv_bipush (q := 492) (v := nI 8) G dX8_met_490 (by decide) rfl ?_
                                                                        refine jv_goto (q := 496) G dX8_met_492 (by decide) ?_
                                                                        refine jv_iret G hr dX8_met_496 (Nat.le_of_ble_eq_true rfl) (Nat.le_of_ble_eq_true rfl) ?_
                                                                        have hz : (m_met (decide (e = ec)) tsC ts pk su 4 ty n s rc) = (8, some (mt_n t732)) := by
                                                                          unfold m_met m_isC m_bd
                                                                          simp only [*, if_true, if_false, Bool.false_eq_true, reduceIte, Option.map_some, decide_true, decide_false, not_true_eq_false, not_false_eq_true, and_true, true_and, and_false, false_and, or_true, true_or, or_false, false_or, Bool.or_true, Bool.or_false, Bool.true_or, Bool.false_or, reduceCtorEq] <;> first | rfl | (simp_all; done) | (split <;> simp_all)
                                                                        exact ⟨by rw [hz], hrs.tr hsc.rs, by rw [hz]; exact (hsc.x hS 32).trans hran⟩
                                                                  · refine jv_iconst (q := 445) (v := nI 3) G dX8_met_444 (by decide) rfl ?_
                                                                    refine jv_iret G hr dX8_met_445 (Nat.le_of_ble_eq_true rfl) (Nat.le_of_ble_eq_true rfl) ?_
                                                                    have hz : (m_met (decide (e = ec)) tsC ts pk su 4 ty n s rc) = (3, none) := by
                                                                      unfold m_met m_isC m_bd
                                                                      simp only [*, if_true, if_false, Bool.false_eq_true, reduceIte, Option.map_some, decide_true, decide_false, not_true_eq_false, not_false_eq_true, and_true, true_and, and_false, false_and, or_true, true_or, or_false, false_or, Bool.or_true, Bool.or_false, Bool.true_or, Bool.false_or, reduceCtorEq] <;> first | rfl | (simp_all; done) | (split <;> simp_all)
                                                                    exact ⟨by rw [hz], hrs.tr hsc.rs, by rw [hz]; exact (hsc.x hS 32).trans hran⟩
                                                              · refine jv_iconst (q := 427) (v := nI 5) G dX8_met_426 (by decide) rfl ?_
                                                                refine jv_iret G hr dX8_met_427 (Nat.le_of_ble_eq_true rfl) (Nat.le_of_ble_eq_true rfl) ?_
                                                                have hz : (m_met (decide (e = ec)) tsC ts pk su 4 ty n s rc) = (5, none) := by
                                                                  unfold m_met m_isC m_bd
                                                                  simp only [*, if_true, if_false, Bool.false_eq_true, reduceIte, Option.map_some, decide_true, decide_false, not_true_eq_false, not_false_eq_true, and_true, true_and, and_false, false_and, or_true, true_or, or_false, false_or, Bool.or_true, Bool.or_false, Bool.true_or, Bool.false_or, reduceCtorEq] <;> first | rfl | (simp_all; done) | (split <;> simp_all)
                                                                exact ⟨by rw [hz], hrs.tr hsc.rs, by rw [hz]; exact (hsc.x hS 32).trans hran⟩
                                                        · refine jv_aload_n (q := 385) G 5 dX8_met_384 rfl rfl rfl ?_
                                                          refine jv_iload_n (q := 386) G 7 dX8_met_385 rfl rfl rfl ?_
                                                          refine jv_iload (q := 388) G 9 dX8_met_386 rfl rfl ?_
                                                          refine jv_iload (q := 390) G 12 dX8_met_388 rfl rfl ?_
                                                          refine jv_callV_I (q := 393) (h1 := h711) (As := [.int (nI e), .int ty, .int rc]) (rest := []) (ce' := 0) (sl' := 0) (r := jv_bI (m_isA ts ty rc)) G Z ml_X8_167 (r_isAbove hlt hsc hS he hV) (hsc.S hS).1 dX8_met_390 rfl (by decide) (by decide) (by decide) (by decide) (Nat.le_of_ble_eq_true rfl) rfl rfl rfl rfl ?_
                                                          refine jv_if_neB (q := 396) (tgt := 399) G dX8_met_393 (by decide) rfl (fun c746 => ?_) (fun c746 => ?_)
                                                          · refine jv_aload_n (q := 400) G 5 dX8_met_399 rfl rfl rfl ?_
                                                            refine jv_iload_n (q := 401) G 7 dX8_met_400 rfl rfl rfl ?_
                                                            refine jv_iload (q := 403) G 0 dX8_met_401 rfl rfl ?_
                                                            refine jv_iload (q := 405) G 1 dX8_met_403 rfl rfl ?_
                                                            refine jv_callV (q := 408) (As := [.int (nI e), .int (nI (6 * (10 * e + p714.1) + p714.2)), .int (nI (10 * e + k636))]) (rest := []) G Z ml_X8_189 (r_selected (d := 11) hlt hsc hS he hE hV ht715 hm716 ht637 (hg k636 (by omega))) (hsc.S hS).1 dX8_met_405 rfl (by decide) (by decide) (by decide) (by decide) (Nat.le_of_ble_eq_true rfl) rfl rfl (fun v748 h747 y749 => ?_) (fun _ _ hx => hx.elim)
                                                            obtain ⟨rfl, hsc⟩ := y749
                                                            show jv_V E 14 h747 0 0 (jv_Q E (fun v h' => v = some (.int (nI (m_met (decide (e = ec)) tsC ts pk su 4 ty n s rc).1)) ∧ rs x q h h' ∧ jv_I h' x 32 = jv_oN (m_met (decide (e = ec)) tsC ts pk su 4 ty n s rc).2) jv_no 0 0) 408 [(12, .int (nI (6 * (10 * e + p714.1) + p714.2))), (11, .int (nI (10 * e + k636))), (10, .int (nI 1)), (9, .int (-1)), (8, .int (nI (10 * e + k609))), (0, .ref x), (1, .int (nI c)), (2, .int (nI e)), (3, .int (nI 4)), (4, .int ty), (5, .int n), (6, .int s), (7, .int rc)] [.int (ffE e (m_sl ts 11 t715 m716 p714.1 p714.2 k636))]
                                                            rcases Option.eq_none_or_eq_some (m_sl ts 11 t715 m716 p714.1 p714.2 k636) with hp753 | ⟨p750, hp753⟩
                                                            · refine jv_topI (y := (-1)) (by rw [hp753]; rfl) ?_
                                                              refine jv_istore (q := 410) (lo' := [(13, .int (-1)), (12, .int (nI (6 * (10 * e + p714.1) + p714.2))), (11, .int (nI (10 * e + k636))), (10, .int (nI 1)), (9, .int (-1)), (8, .int (nI (10 * e + k609))), (0, .ref x), (1, .int (nI c)), (2, .int (nI e)), (3, .int (nI 4)), (4, .int ty), (5, .int n), (6, .int s), (7, .int rc)]) G dX8_met_408 (by decide) rfl rfl ?_
                                                              refine jv_iload (q := 412) G 0 dX8_met_410 rfl rfl ?_
                                                              refine jv_iconst (q := 413) (v := (-1)) G dX8_met_412 (by decide) rfl ?_
                                                              refine jv_icmp_eq (q := 416) (tgt := 426) G dX8_met_413 (by decide) rfl (fun c754 => ?_) (fun c754 => ?_)
                                                              · refine jv_iconst (q := 427) (v := nI 5) G dX8_met_426 (by decide) rfl ?_
                                                                refine jv_iret G hr dX8_met_427 (Nat.le_of_ble_eq_true rfl) (Nat.le_of_ble_eq_true rfl) ?_
                                                                have hz : (m_met (decide (e = ec)) tsC ts pk su 4 ty n s rc) = (5, none) := by
                                                                  unfold m_met m_isC m_bd
                                                                  simp only [*, if_true, if_false, Bool.false_eq_true, reduceIte, Option.map_some, decide_true, decide_false, not_true_eq_false, not_false_eq_true, and_true, true_and, and_false, false_and, or_true, true_or, or_false, false_or, Bool.or_true, Bool.or_false, Bool.true_or, Bool.false_or, reduceCtorEq] <;> first | rfl | (simp_all; done) | (split <;> simp_all)
                                                                exact ⟨by rw [hz], hrs.tr hsc.rs, by rw [hz]; exact (hsc.x hS 32).trans hran⟩
                                                              · exact absurd rfl c754
                                                            · refine jv_topI (y := nI (6 * (10 * e + p750.1) + p750.2)) (by rw [hp753]; rfl) ?_
                                                              obtain ⟨t751, ht751, m752, hm752⟩ := m_sl_mem ht715 hm716 hp753
                                                              have Tt751 := (hE.2.2 p750.1 t751 ht751).1
                                                              have Ot751 := (hE.2.2 p750.1 t751 ht751).2
                                                              have Lt751 := hE.2.1
                                                              have lt751 := jv_ltGet ht751
                                                              have Mm752 := rt_m Tt751 hm752
                                                              have Om752 := Ot751.2.2.2.2.2.2 m752 (List.mem_of_getElem? hm752)
                                                              have Lm752 := Ot751.2.2.2.2.2.1
                                                              have lm752 := jv_ltGet hm752
                                                              have Bm752n := Om752.1; have Bm752s := Om752.2.1; have Bm752a := Om752.2.2.1; have Bt751n := Ot751.1; have Bt751k := Ot751.2.1
                                                              refine jv_istore (q := 410) (lo' := [(13, .int (nI (6 * (10 * e + p750.1) + p750.2))), (12, .int (nI (6 * (10 * e + p714.1) + p714.2))), (11, .int (nI (10 * e + k636))), (10, .int (nI 1)), (9, .int (-1)), (8, .int (nI (10 * e + k609))), (0, .ref x), (1, .int (nI c)), (2, .int (nI e)), (3, .int (nI 4)), (4, .int ty), (5, .int n), (6, .int s), (7, .int rc)]) G dX8_met_408 (by decide) rfl rfl ?_
                                                              refine jv_iload (q := 412) G 0 dX8_met_410 rfl rfl ?_
                                                              refine jv_iconst (q := 413) (v := (-1)) G dX8_met_412 (by decide) rfl ?_
                                                              refine jv_icmp_eq (q := 416) (tgt := 426) G dX8_met_413 (by decide) rfl (fun c755 => ?_) (fun c755 => ?_)
                                                              · exact absurd c755 (jv_nI_m1 (by omega))
                                                              · refine jv_aload_n (q := 417) G 6 dX8_met_416 rfl rfl rfl ?_
                                                                refine jv_getQ (q := 420) G dX8_met_417 fl_X8_59 rfl (hsc.S hS).1 (rf_p18 (hsc.S hS)) rfl ?_
                                                                refine jv_iload (q := 422) G 0 dX8_met_420 rfl rfl ?_
                                                                refine jv_iald (q := 423) G dX8_met_422 (rf_a18 (hsc.S hS)) rfl (by omega) (by decide) (hsc.M hS Mm752).2.2.2.2.2.1 rfl ?_
                                                                refine jv_if_ge (q := 426) (tgt := 428) G dX8_met_423 (by decide) rfl (fun c756 => ?_) (fun c756 => ?_)
                                                                · refine jv_iload_n (q := 429) G 9 dX8_met_428 rfl rfl rfl ?_
                                                                  refine jv_iconst (q := 430) (v := nI 4) G dX8_met_429 (by decide) rfl ?_
                                                                  refine jv_icmp_neN (q := 433) (tgt := 446) G dX8_met_430 (by decide) rfl (by omega) (by omega) (fun c757 => ?_) (fun c757 => ?_)
                                                                  · omega
                                                                  · refine jv_aload_n (q := 434) G 6 dX8_met_433 rfl rfl rfl ?_
                                                                    refine jv_getQ (q := 437) G dX8_met_434 fl_X8_53 rfl (hsc.S hS).1 (rf_p16 (hsc.S hS)) rfl ?_
                                                                    refine jv_iload (q := 439) G 0 dX8_met_437 rfl rfl ?_
                                                                    refine jv_iald (q := 440) G dX8_met_439 (rf_a16 (hsc.S hS)) rfl (by omega) (by decide) (hsc.M hS Mm752).2.2.2.1 rfl ?_
                                                                    refine jv_iconst (q := 441) (v := nI 3) G dX8_met_440 (by decide) rfl ?_
                                                                    refine jv_icmp_eqN (q := 444) (tgt := 446) G dX8_met_441 (by decide) rfl (by omega) (by omega) (fun c758 => ?_) (fun c758 => ?_)
                                                                    · refine jv_aload_n (q := 447) G 6 dX8_met_446 rfl rfl rfl ?_
                                                                      refine jv_aload_n (q := 448) G 6 dX8_met_447 rfl rfl rfl ?_
                                                                      refine jv_getQ (q := 451) G dX8_met_448 fl_X8_17 rfl (hsc.S hS).1 (rf_p4 (hsc.S hS)) rfl ?_
                                                                      refine jv_iload (q := 453) G 0 dX8_met_451 rfl rfl ?_
                                                                      refine jv_callS_I (q := 456) (h1 := h747) (As := [.int (nI (6 * (10 * e + p750.1) + p750.2))]) (rest := [.ref (q 4), .ref x]) (ce' := 0) (sl' := 0) (r := nI ((6 * (10 * e + p750.1) + p750.2) / 6)) G Z ml_X8_183 (r_typeOf hlt (by omega)) dX8_met_453 rfl (by decide) (by decide) (by decide) (by decide) (Nat.le_of_ble_eq_true rfl) rfl rfl rfl rfl ?_
                                                                      refine jv_topI (y := nI (10 * e + p750.1)) (congrArg nI (by omega)) ?_
                                                                      refine jv_iald (q := 457) G dX8_met_456 (rf_a4 (hsc.S hS)) rfl (by omega) (by decide) (rt_4 (hsc.T hS Tt751)) rfl ?_
                                                                      refine jv_putI (q := 460) G dX8_met_457 fl_X8_192 rfl (hsc.S hS).1 rfl ?_
                                                                      have hr1 : rs x q h747 (jv_wI h747 x 32 (nI (mt_n t751))) := rs.rf.wI (nI (mt_n t751)) (Or.inl ⟨rfl, Or.inr (Or.inl rfl)⟩)
                                                                      have hran : jv_I (jv_wI h747 x 32 (nI (mt_n t751))) x 32 = (nI (mt_n t751)) := jv_I_self _ _ _ _
                                                                      have hSb := hsc.S hS
                                                                      have hE := hr1.E hSb (hsc.E hS hE)
                                                                      have hV := hr1.V hSb (hsc.V hS hV)
                                                                      have hEC := hr1.E hSb (hsc.E hS hEC)
                                                                      have hVC := hr1.V hSb (hsc.V hS hVC)
                                                                      have hce := (wx_I hSb 22 (by decide) rfl 32 c (nI (mt_n t751))).trans ((hsc.I2 hS 22 (by decide) rfl (by decide) c).trans hce)
                                                                      have hpk := (wx_I hSb 23 (by decide) rfl 32 c (nI (mt_n t751))).trans ((hsc.I2 hS 23 (by decide) rfl (by decide) c).trans hpk)
                                                                      have hsu := (wx_I hSb 24 (by decide) rfl 32 c (nI (mt_n t751))).trans ((hsc.I2 hS 24 (by decide) rfl (by decide) c).trans hsu)
                                                                      have hrs := (hrs.tr hsc.rs).tr hr1
                                                                      have hS := hr1.S hSb
                                                                      generalize jv_wI h747 x 32 (nI (mt_n t751)) = h759 at hran hE hV hEC hVC hce hpk hsu hrs hS ⊢
                                                                      have hsc : sc x q h759 h759 := sc.rf
                                                                      refine jv_iload_n (q := 461) G 8 dX8_met_460 rfl rfl rfl ?_
                                                                      refine jv_aload_n (q := 462) G 6 dX8_met_461 rfl rfl rfl ?_
                                                                      refine jv_getQ (q := 465) G dX8_met_462 fl_X8_68 rfl (hsc.S hS).1 (rf_p22 (hsc.S hS)) rfl ?_
                                                                      refine jv_iload_n (q := 466) G 7 dX8_met_465 rfl rfl rfl ?_
                                                                      refine jv_iald (q := 467) G dX8_met_466 (rf_a22 (hsc.S hS)) rfl (by omega) (by decide) ((hsc.I2 hS 22 (by decide) rfl (by decide) c).trans hce) rfl ?_
                                                                      refine jv_icmp_eqN (q := 470) (tgt := 495) G dX8_met_467 (by decide) rfl (by omega) (by omega) (fun c760 => ?_) (fun c760 => ?_)
                                                                      · refine jv_iconst (q := 496) (v := nI 0) G dX8_met_495 (by decide) rfl ?_
                                                                        refine jv_iret G hr dX8_met_496 (Nat.le_of_ble_eq_true rfl) (Nat.le_of_ble_eq_true rfl) ?_
                                                                        have hz : (m_met (decide (e = ec)) tsC ts pk su 4 ty n s rc) = (0, some (mt_n t751)) := by
                                                                          unfold m_met m_isC m_bd
                                                                          simp only [*, if_true, if_false, Bool.false_eq_true, reduceIte, Option.map_some, decide_true, decide_false, not_true_eq_false, not_false_eq_true, and_true, true_and, and_false, false_and, or_true, true_or, or_false, false_or, Bool.or_true, Bool.or_false, Bool.true_or, Bool.false_or, reduceCtorEq] <;> first | rfl | (simp_all; done) | (split <;> simp_all)
                                                                        exact ⟨by rw [hz], hrs.tr hsc.rs, by rw [hz]; exact (hsc.x hS 32).trans hran⟩
                                                                      · refine jv_aload_n (q := 471) G 6 dX8_met_470 rfl rfl rfl ?_
                                                                        refine jv_getI (q := 474) G dX8_met_471 fl_X8_192 rfl (hsc.S hS).1 ((hsc.x hS 32).trans hran) rfl ?_
                                                                        refine jv_aload_n (q := 475) G 6 dX8_met_474 rfl rfl rfl ?_
                                                                        refine jv_iload_n (q := 476) G 7 dX8_met_475 rfl rfl rfl ?_
                                                                        refine jv_iload (q := 478) G 10 dX8_met_476 rfl rfl ?_
                                                                        refine jv_iload (q := 480) G 11 dX8_met_478 rfl rfl ?_
                                                                        refine jv_iload (q := 482) G 12 dX8_met_480 rfl rfl ?_
                                                                        refine jv_iload (q := 484) G 13 dX8_met_482 rfl rfl ?_
                                                                        refine jv_callV (q := 487) (As := [.int (nI c), .int ty, .int n, .int s, .int rc]) (rest := [.int (nI (mt_n t751))]) G Z ml_X8_202 (r_ownRun hlt hsc hS hc hec hEC hVC hce hgC) (hsc.S hS).1 dX8_met_484 rfl (by decide) (by decide) (by decide) (by decide) (Nat.le_of_ble_eq_true rfl) rfl rfl (fun v762 h761 y763 => ?_) (fun _ _ hx => hx.elim)
                                                                        obtain ⟨rfl, hsc⟩ := y763
                                                                        show jv_V E 14 h761 0 0 (jv_Q E (fun v h' => v = some (.int (nI (m_met (decide (e = ec)) tsC ts pk su 4 ty n s rc).1)) ∧ rs x q h h' ∧ jv_I h' x 32 = jv_oN (m_met (decide (e = ec)) tsC ts pk su 4 ty n s rc).2) jv_no 0 0) 487 [(13, .int (nI (6 * (10 * e + p750.1) + p750.2))), (12, .int (nI (6 * (10 * e + p714.1) + p714.2))), (11, .int (nI (10 * e + k636))), (10, .int (nI 1)), (9, .int (-1)), (8, .int (nI (10 * e + k609))), (0, .ref x), (1, .int (nI c)), (2, .int (nI e)), (3, .int (nI 4)), (4, .int ty), (5, .int n), (6, .int s), (7, .int rc)] [.int (jv_oN (m_orn tsC ty n s rc)), .int (nI (mt_n t751))]
                                                                        refine jv_icmp_eq (q := 490) (tgt := 495) G dX8_met_487 (by decide) rfl (fun c764 => ?_) (fun c764 => ?_)
                                                                        · refine jv_iconst (q := 496) (v := nI 0) G dX8_met_495 (by decide) rfl ?_
                                                                          refine jv_iret G hr dX8_met_496 (Nat.le_of_ble_eq_true rfl) (Nat.le_of_ble_eq_true rfl) ?_
                                                                          have hz : (m_met (decide (e = ec)) tsC ts pk su 4 ty n s rc) = (0, some (mt_n t751)) := by
                                                                            unfold m_met m_isC m_bd
                                                                            simp only [*, if_true, if_false, Bool.false_eq_true, reduceIte, Option.map_some, decide_true, decide_false, not_true_eq_false, not_false_eq_true, and_true, true_and, and_false, false_and, or_true, true_or, or_false, false_or, Bool.or_true, Bool.or_false, Bool.true_or, Bool.false_or, reduceCtorEq] <;> first | rfl | (simp_all; done) | (split <;> simp_all)
                                                                          exact ⟨by rw [hz], hrs.tr hsc.rs, by rw [hz]; exact (hsc.x hS 32).trans hran⟩
                                                                        · refine jv_bipush (q := 492) (v := nI 8) G dX8_met_490 (by decide) rfl ?_
                                                                          refine jv_goto (q := 496) G dX8_met_492 (by decide) ?_
                                                                          refine jv_iret G hr dX8_met_496 (Nat.le_of_ble_eq_true rfl) (Nat.le_of_ble_eq_true rfl) ?_
                                                                          have hz : (m_met (decide (e = ec)) tsC ts pk su 4 ty n s rc) = (8, some (mt_n t751)) := by
                                                                            unfold m_met m_isC m_bd
                                                                            simp only [*, if_true, if_false, Bool.false_eq_true, reduceIte, Option.map_some, decide_true, decide_false, not_true_eq_false, not_false_eq_true, and_true, true_and, and_false, false_and, or_true, true_or, or_false, false_or, Bool.or_true, Bool.or_false, Bool.true_or, Bool.false_or, reduceCtorEq] <;> first | rfl | (simp_all; done) | (split <;> simp_all)
                                                                          exact ⟨by rw [hz], hrs.tr hsc.rs, by rw [hz]; exact (hsc.x hS 32).trans hran⟩
                                                                    · refine jv_iconst (q := 445) (v := nI 3) G dX8_met_444 (by decide) rfl ?_
                                                                      refine jv_iret G hr dX8_met_445 (Nat.le_of_ble_eq_true rfl) (Nat.le_of_ble_eq_true rfl) ?_
                                                                      have hz : (m_met (decide (e = ec)) tsC ts pk su 4 ty n s rc) = (3, none) := by
                                                                        unfold m_met m_isC m_bd
                                                                        simp only [*, if_true, if_false, Bool.false_eq_true, reduceIte, Option.map_some, decide_true, decide_false, not_true_eq_false, not_false_eq_true, and_true, true_and, and_false, false_and, or_true, true_or, or_false, false_or, Bool.or_true, Bool.or_false, Bool.true_or, Bool.false_or, reduceCtorEq] <;> first | rfl | (simp_all; done) | (split <;> simp_all)
                                                                      exact ⟨by rw [hz], hrs.tr hsc.rs, by rw [hz]; exact (hsc.x hS 32).trans hran⟩
                                                                · refine jv_iconst (q := 427) (v := nI 5) G dX8_met_426 (by decide) rfl ?_
                                                                  refine jv_iret G hr dX8_met_427 (Nat.le_of_ble_eq_true rfl) (Nat.le_of_ble_eq_true rfl) ?_
                                                                  have hz : (m_met (decide (e = ec)) tsC ts pk su 4 ty n s rc) = (5, none) := by
                                                                    unfold m_met m_isC m_bd
                                                                    simp only [*, if_true, if_false, Bool.false_eq_true, reduceIte, Option.map_some, decide_true, decide_false, not_true_eq_false, not_false_eq_true, and_true, true_and, and_false, false_and, or_true, true_or, or_false, false_or, Bool.or_true, Bool.or_false, Bool.true_or, Bool.false_or, reduceCtorEq] <;> first | rfl | (simp_all; done) | (split <;> simp_all)
                                                                  exact ⟨by rw [hz], hrs.tr hsc.rs, by rw [hz]; exact (hsc.x hS 32).trans hran⟩
                                                          · refine jv_bipush (q := 398) (v := nI 6) G dX8_met_396 (by decide) rfl ?_
                                                            refine jv_iret G hr dX8_met_398 (Nat.le_of_ble_eq_true rfl) (Nat.le_of_ble_eq_true rfl) ?_
                                                            have hz : (m_met (decide (e = ec)) tsC ts pk su 4 ty n s rc) = (6, none) := by
                                                              unfold m_met m_isC m_bd
                                                              simp only [*, if_true, if_false, Bool.false_eq_true, reduceIte, Option.map_some, decide_true, decide_false, not_true_eq_false, not_false_eq_true, and_true, true_and, and_false, false_and, or_true, true_or, or_false, false_or, Bool.or_true, Bool.or_false, Bool.true_or, Bool.false_or, reduceCtorEq] <;> first | rfl | (simp_all; done) | (split <;> simp_all)
                                                            exact ⟨by rw [hz], hrs.tr hsc.rs, by rw [hz]; exact (hsc.x hS 32).trans hran⟩
                                                  · omega
                                                · refine jv_iconst (q := 326) (v := nI 4) G dX8_met_325 (by decide) rfl ?_
                                                  refine jv_iret G hr dX8_met_326 (Nat.le_of_ble_eq_true rfl) (Nat.le_of_ble_eq_true rfl) ?_
                                                  have hz : (m_met (decide (e = ec)) tsC ts pk su 4 ty n s rc) = (4, none) := by
                                                    unfold m_met m_isC m_bd
                                                    simp only [*, if_true, if_false, Bool.false_eq_true, reduceIte, Option.map_some, decide_true, decide_false, not_true_eq_false, not_false_eq_true, and_true, true_and, and_false, false_and, or_true, true_or, or_false, false_or, Bool.or_true, Bool.or_false, Bool.true_or, Bool.false_or, reduceCtorEq] <;> first | rfl | (simp_all; done) | (split <;> simp_all)
                                                  exact ⟨by rw [hz], hrs.tr hsc.rs, by rw [hz]; exact (hsc.x hS 32).trans hran⟩
                                              · omega
                                          · refine jv_iconst (q := 299) (v := nI 3) G dX8_met_298 (by decide) rfl ?_
                                            refine jv_iret G hr dX8_met_299 (Nat.le_of_ble_eq_true rfl) (Nat.le_of_ble_eq_true rfl) ?_
                                            have hz : (m_met (decide (e = ec)) tsC ts pk su 4 ty n s rc) = (3, none) := by
                                              unfold m_met m_isC m_bd
                                              simp only [*, if_true, if_false, Bool.false_eq_true, reduceIte, Option.map_some, decide_true, decide_false, not_true_eq_false, not_false_eq_true, and_true, true_and, and_false, false_and, or_true, true_or, or_false, false_or, Bool.or_true, Bool.or_false, Bool.true_or, Bool.false_or, reduceCtorEq] <;> first | rfl | (simp_all; done) | (split <;> simp_all)
                                            exact ⟨by rw [hz], hrs.tr hsc.rs, by rw [hz]; exact (hsc.x hS 32).trans hran⟩
                                        · exact absurd c719 (jv_nI_m1 (by omega))
                                    · omega
                                  · omega
                                · refine jv_bipush (q := 225) (v := nI 6) G dX8_met_223 (by decide) rfl ?_
                                  refine jv_iret G hr dX8_met_225 (Nat.le_of_ble_eq_true rfl) (Nat.le_of_ble_eq_true rfl) ?_
                                  have hz : (m_met (decide (e = ec)) tsC ts pk su 4 ty n s rc) = (6, none) := by
                                    unfold m_met m_isC m_bd
                                    simp only [*, if_true, if_false, Bool.false_eq_true, reduceIte, Option.map_some, decide_true, decide_false, not_true_eq_false, not_false_eq_true, and_true, true_and, and_false, false_and, or_true, true_or, or_false, false_or, Bool.or_true, Bool.or_false, Bool.true_or, Bool.false_or, reduceCtorEq] <;> first | rfl | (simp_all; done) | (split <;> simp_all)
                                  exact ⟨by rw [hz], hrs.tr hsc.rs, by rw [hz]; exact (hsc.x hS 32).trans hran⟩
                            · omega
                          · refine jv_iconst (q := 192) (v := nI 3) G dX8_met_191 (by decide) rfl ?_
                            refine jv_iret G hr dX8_met_192 (Nat.le_of_ble_eq_true rfl) (Nat.le_of_ble_eq_true rfl) ?_
                            have hz : (m_met (decide (e = ec)) tsC ts pk su 4 ty n s rc) = (3, none) := by
                              unfold m_met m_isC m_bd
                              simp only [*, if_true, if_false, Bool.false_eq_true, reduceIte, Option.map_some, decide_true, decide_false, not_true_eq_false, not_false_eq_true, and_true, true_and, and_false, false_and, or_true, true_or, or_false, false_or, Bool.or_true, Bool.or_false, Bool.true_or, Bool.false_or, reduceCtorEq] <;> first | rfl | (simp_all; done) | (split <;> simp_all)
                            exact ⟨by rw [hz], hrs.tr hsc.rs, by rw [hz]; exact (hsc.x hS 32).trans hran⟩
                      · exact absurd c644 (jv_nI_m1 (by omega))
        · exact absurd rfl c632
      · refine jv_aload_n (q := 25) G 1 dX8_met_24 rfl rfl rfl ?_
        refine jv_iload_n (q := 26) G 2 dX8_met_25 rfl rfl rfl ?_
        refine jv_iload_n (q := 27) G 4 dX8_met_26 rfl rfl rfl ?_
        refine jv_iload (q := 29) G 5 dX8_met_27 rfl rfl ?_
        refine jv_iload (q := 31) G 6 dX8_met_29 rfl rfl ?_
        refine jv_iload (q := 33) G 7 dX8_met_31 rfl rfl ?_
        refine jv_callV_I (q := 36) (h1 := h608) (As := [.int (nI c), .int (nI 4), .int ty, .int n, .int s]) (rest := []) (ce' := 0) (sl' := 0) (r := (ffE ec (m_co tsC 4 ty n s))) G Z ml_X8_195 (r_constantOf hlt hsc hS hc hec hEC hce (by decide) hgC) (hsc.S hS).1 dX8_met_33 rfl (by decide) (by decide) (by decide) (by decide) (Nat.le_of_ble_eq_true rfl) rfl rfl rfl rfl ?_
        refine jv_topI (y := (-1)) rfl ?_
        refine jv_goto (q := 40) G dX8_met_36 (by decide) ?_
        refine jv_istore (q := 42) (lo' := [(9, .int (-1)), (8, .int (nI (10 * e + k609))), (0, .ref x), (1, .int (nI c)), (2, .int (nI e)), (3, .int (nI 4)), (4, .int ty), (5, .int n), (6, .int s), (7, .int rc)]) G dX8_met_40 (by decide) rfl rfl ?_
        refine jv_iload (q := 44) G 0 dX8_met_42 rfl rfl ?_
        refine jv_iconst (q := 45) (v := (-1)) G dX8_met_44 (by decide) rfl ?_
        refine jv_icmp_eq (q := 48) (tgt := 111) G dX8_met_45 (by decide) rfl (fun c765 => ?_) (fun c765 => ?_)
        · refine jv_iload_n (q := 112) G 5 dX8_met_111 rfl rfl rfl ?_
          refine jv_iconst (q := 113) (v := nI 2) G dX8_met_112 (by decide) rfl ?_
          refine jv_icmp_eqN (q := 116) (tgt := 121) G dX8_met_113 (by decide) rfl (by omega) (by omega) (fun c766 => ?_) (fun c766 => ?_)
          · omega
          · refine jv_iload_n (q := 117) G 5 dX8_met_116 rfl rfl rfl ?_
            refine jv_iconst (q := 118) (v := nI 4) G dX8_met_117 (by decide) rfl ?_
            refine jv_icmp_neN (q := 121) (tgt := 125) G dX8_met_118 (by decide) rfl (by omega) (by omega) (fun c767 => ?_) (fun c767 => ?_)
            · omega
            · refine jv_iconst (q := 122) (v := nI 1) G dX8_met_121 (by decide) rfl ?_
              refine jv_goto (q := 126) G dX8_met_122 (by decide) ?_
              refine jv_istore (q := 128) (lo' := [(10, .int (nI 1)), (9, .int (-1)), (8, .int (nI (10 * e + k609))), (0, .ref x), (1, .int (nI c)), (2, .int (nI e)), (3, .int (nI 4)), (4, .int ty), (5, .int n), (6, .int s), (7, .int rc)]) G dX8_met_126 (by decide) rfl rfl ?_
              refine jv_iload (q := 130) G 0 dX8_met_128 rfl rfl ?_
              refine jv_if_eqN (q := 133) (tgt := 143) G dX8_met_130 (by decide) rfl (by omega) (fun c768 => ?_) (fun c768 => ?_)
              · omega
              · refine jv_aload_n (q := 134) G 3 dX8_met_133 rfl rfl rfl ?_
                refine jv_iload_n (q := 135) G 5 dX8_met_134 rfl rfl rfl ?_
                refine jv_iload (q := 137) G 10 dX8_met_135 rfl rfl ?_
                refine jv_callV_I (q := 140) (h1 := h608) (As := [.int (nI e), .int rc]) (rest := []) (ce' := 0) (sl' := 0) (r := jv_oN ((m_at ts rc).map (fun k => 10 * e + k))) G Z ml_X8_151 (r_at hlt (hsc.S hS) he (hsc.E hS hE)) (hsc.S hS).1 dX8_met_137 rfl (by decide) (by decide) (by decide) (by decide) (Nat.le_of_ble_eq_true rfl) rfl rfl rfl rfl ?_
                rcases Option.eq_none_or_eq_some (m_at ts rc) with hk771 | ⟨k769, hk771⟩
                · refine jv_topI (y := (-1)) (by rw [hk771]; rfl) ?_
                  refine jv_goto (q := 144) G dX8_met_140 (by decide) ?_
                  refine jv_istore (q := 146) (lo' := [(11, .int (-1)), (10, .int (nI 1)), (9, .int (-1)), (8, .int (nI (10 * e + k609))), (0, .ref x), (1, .int (nI c)), (2, .int (nI e)), (3, .int (nI 4)), (4, .int ty), (5, .int n), (6, .int s), (7, .int rc)]) G dX8_met_144 (by decide) rfl rfl ?_
                  refine jv_iload (q := 148) G 3 dX8_met_146 rfl rfl ?_
                  refine jv_iconst (q := 149) (v := (-1)) G dX8_met_148 (by decide) rfl ?_
                  refine jv_icmp_eq (q := 152) (tgt := 163) G dX8_met_149 (by decide) rfl (fun c772 => ?_) (fun c772 => ?_)
                  · exact absurd c772 (jv_nI_m1 (by omega))
                  · refine jv_iload (q := 154) G 1 dX8_met_152 rfl rfl ?_
                    refine jv_if_eqN (q := 157) (tgt := 165) G dX8_met_154 (by decide) rfl (by omega) (fun c773 => ?_) (fun c773 => ?_)
                    · omega
                    · refine jv_iload (q := 159) G 0 dX8_met_157 rfl rfl ?_
                      refine jv_iconst (q := 160) (v := (-1)) G dX8_met_159 (by decide) rfl ?_
                      refine jv_icmp_ne (q := 163) (tgt := 165) G dX8_met_160 (by decide) rfl (fun c774 => ?_) (fun c774 => ?_)
                      · exact absurd rfl c774
                      · refine jv_iconst (q := 164) (v := nI 1) G dX8_met_163 (by decide) rfl ?_
                        refine jv_iret G hr dX8_met_164 (Nat.le_of_ble_eq_true rfl) (Nat.le_of_ble_eq_true rfl) ?_
                        have hz : (m_met (decide (e = ec)) tsC ts pk su 4 ty n s rc) = (1, none) := by
                          unfold m_met m_isC m_bd
                          simp only [*, if_true, if_false, Bool.false_eq_true, reduceIte, Option.map_some, decide_true, decide_false, not_true_eq_false, not_false_eq_true, and_true, true_and, and_false, false_and, or_true, true_or, or_false, false_or, Bool.or_true, Bool.or_false, Bool.true_or, Bool.false_or, reduceCtorEq] <;> first | rfl | (simp_all; done) | (split <;> simp_all)
                        exact ⟨by rw [hz], hrs.tr hsc.rs, by rw [hz]; exact (hsc.x hS 32).trans hran⟩
                · refine jv_topI (y := nI (10 * e + k769)) (by rw [hk771]; rfl) ?_
                  obtain ⟨t770, ht770, nt770, lt770⟩ := m_at_some hk771
                  have Tt770 := (hE.2.2 k769 t770 ht770).1
                  have Ot770 := (hE.2.2 k769 t770 ht770).2
                  have Lt770 := hE.2.1
                  have Bt770n := Ot770.1; have Bt770k := Ot770.2.1
                  refine jv_goto (q := 144) G dX8_met_140 (by decide) ?_
                  refine jv_istore (q := 146) (lo' := [(11, .int (nI (10 * e + k769))), (10, .int (nI 1)), (9, .int (-1)), (8, .int (nI (10 * e + k609))), (0, .ref x), (1, .int (nI c)), (2, .int (nI e)), (3, .int (nI 4)), (4, .int ty), (5, .int n), (6, .int s), (7, .int rc)]) G dX8_met_144 (by decide) rfl rfl ?_
                  refine jv_iload (q := 148) G 3 dX8_met_146 rfl rfl ?_
                  refine jv_iconst (q := 149) (v := (-1)) G dX8_met_148 (by decide) rfl ?_
                  refine jv_icmp_eq (q := 152) (tgt := 163) G dX8_met_149 (by decide) rfl (fun c775 => ?_) (fun c775 => ?_)
                  · exact absurd c775 (jv_nI_m1 (by omega))
                  · refine jv_iload (q := 154) G 1 dX8_met_152 rfl rfl ?_
                    refine jv_if_eqN (q := 157) (tgt := 165) G dX8_met_154 (by decide) rfl (by omega) (fun c776 => ?_) (fun c776 => ?_)
                    · omega
                    · refine jv_iload (q := 159) G 0 dX8_met_157 rfl rfl ?_
                      refine jv_iconst (q := 160) (v := (-1)) G dX8_met_159 (by decide) rfl ?_
                      refine jv_icmp_ne (q := 163) (tgt := 165) G dX8_met_160 (by decide) rfl (fun c777 => ?_) (fun c777 => ?_)
                      · refine jv_aload_n (q := 166) G 4 dX8_met_165 rfl rfl rfl ?_
                        refine jv_getQ (q := 169) G dX8_met_166 fl_X8_29 rfl (hsc.S hS).1 (rf_p8 (hsc.S hS)) rfl ?_
                        refine jv_iload (q := 171) G 3 dX8_met_169 rfl rfl ?_
                        refine jv_zald (q := 172) G dX8_met_171 (rf_a8 (hsc.S hS)) rfl (by omega) (by decide) (rt_8 (hsc.T hS Tt610)) rfl ?_
                        refine jv_if_neB (q := 175) (tgt := 193) G dX8_met_172 (by decide) rfl (fun c778 => ?_) (fun c778 => ?_)
                        · refine jv_iload_n (q := 194) G 7 dX8_met_193 rfl rfl rfl ?_
                          refine jv_iconst (q := 195) (v := nI 2) G dX8_met_194 (by decide) rfl ?_
                          refine jv_icmp_neN (q := 198) (tgt := 208) G dX8_met_195 (by decide) rfl (by omega) (by omega) (fun c779 => ?_) (fun c779 => ?_)
                          · refine jv_iload_n (q := 209) G 7 dX8_met_208 rfl rfl rfl ?_
                            refine jv_iconst (q := 210) (v := nI 4) G dX8_met_209 (by decide) rfl ?_
                            refine jv_icmp_neN (q := 213) (tgt := 226) G dX8_met_210 (by decide) rfl (by omega) (by omega) (fun c780 => ?_) (fun c780 => ?_)
                            · omega
                            · refine jv_aload_n (q := 214) G 4 dX8_met_213 rfl rfl rfl ?_
                              refine jv_getQ (q := 217) G dX8_met_214 fl_X8_20 rfl (hsc.S hS).1 (rf_p5 (hsc.S hS)) rfl ?_
                              refine jv_iload (q := 219) G 3 dX8_met_217 rfl rfl ?_
                              refine jv_zald (q := 220) G dX8_met_219 (rf_a5 (hsc.S hS)) rfl (by omega) (by decide) (rt_5 (hsc.T hS Tt610)) rfl ?_
                              refine jv_if_neB (q := 223) (tgt := 226) G dX8_met_220 (by decide) rfl (fun c781 => ?_) (fun c781 => ?_)
                              · refine jv_iload_n (q := 227) G 7 dX8_met_226 rfl rfl rfl ?_
                                refine jv_iconst (q := 228) (v := nI 5) G dX8_met_227 (by decide) rfl ?_
                                refine jv_icmp_neN (q := 231) (tgt := 247) G dX8_met_228 (by decide) rfl (by omega) (by omega) (fun c782 => ?_) (fun c782 => ?_)
                                · refine jv_iload_n (q := 248) G 7 dX8_met_247 rfl rfl rfl ?_
                                  refine jv_iconst (q := 249) (v := nI 2) G dX8_met_248 (by decide) rfl ?_
                                  refine jv_icmp_geN (q := 252) (tgt := 266) G dX8_met_249 (by decide) rfl (by omega) (by omega) (fun c783 => ?_) (fun c783 => ?_)
                                  · refine jv_aload_n (q := 267) G 4 dX8_met_266 rfl rfl rfl ?_
                                    refine jv_iload_n (q := 268) G 6 dX8_met_267 rfl rfl rfl ?_
                                    refine jv_iload (q := 270) G 3 dX8_met_268 rfl rfl ?_
                                    refine jv_iload (q := 272) G 9 dX8_met_270 rfl rfl ?_
                                    refine jv_iload (q := 274) G 10 dX8_met_272 rfl rfl ?_
                                    refine jv_callV (q := 277) (As := [.int (nI e), .int (nI (10 * e + k609)), .int n, .int s]) (rest := []) G Z ml_X8_186 (r_findMethod (d := 11) hlt hsc hS he hE hV ht610 (hg k609 (by omega))) (hsc.S hS).1 dX8_met_274 rfl (by decide) (by decide) (by decide) (by decide) (Nat.le_of_ble_eq_true rfl) rfl rfl (fun v785 h784 y786 => ?_) (fun _ _ hx => hx.elim)
                                    obtain ⟨rfl, hsc⟩ := y786
                                    show jv_V E 14 h784 0 0 (jv_Q E (fun v h' => v = some (.int (nI (m_met (decide (e = ec)) tsC ts pk su 4 ty n s rc).1)) ∧ rs x q h h' ∧ jv_I h' x 32 = jv_oN (m_met (decide (e = ec)) tsC ts pk su 4 ty n s rc).2) jv_no 0 0) 277 [(11, .int (nI (10 * e + k769))), (10, .int (nI 1)), (9, .int (-1)), (8, .int (nI (10 * e + k609))), (0, .ref x), (1, .int (nI c)), (2, .int (nI e)), (3, .int (nI 4)), (4, .int ty), (5, .int n), (6, .int s), (7, .int rc)] [.int (ffE e (m_fm ts 11 k609 n s))]
                                    rcases Option.eq_none_or_eq_some (m_fm ts 11 k609 n s) with hp790 | ⟨p787, hp790⟩
                                    · refine jv_topI (y := (-1)) (by rw [hp790]; rfl) ?_
                                      refine jv_istore (q := 279) (lo' := [(12, .int (-1)), (11, .int (nI (10 * e + k769))), (10, .int (nI 1)), (9, .int (-1)), (8, .int (nI (10 * e + k609))), (0, .ref x), (1, .int (nI c)), (2, .int (nI e)), (3, .int (nI 4)), (4, .int ty), (5, .int n), (6, .int s), (7, .int rc)]) G dX8_met_277 (by decide) rfl rfl ?_
                                      refine jv_iload (q := 281) G 0 dX8_met_279 rfl rfl ?_
                                      refine jv_iconst (q := 282) (v := (-1)) G dX8_met_281 (by decide) rfl ?_
                                      refine jv_icmp_ne (q := 285) (tgt := 287) G dX8_met_282 (by decide) rfl (fun c791 => ?_) (fun c791 => ?_)
                                      · exact absurd rfl c791
                                      · refine jv_iconst (q := 286) (v := nI 2) G dX8_met_285 (by decide) rfl ?_
                                        refine jv_iret G hr dX8_met_286 (Nat.le_of_ble_eq_true rfl) (Nat.le_of_ble_eq_true rfl) ?_
                                        have hz : (m_met (decide (e = ec)) tsC ts pk su 4 ty n s rc) = (2, none) := by
                                          unfold m_met m_isC m_bd
                                          simp only [*, if_true, if_false, Bool.false_eq_true, reduceIte, Option.map_some, decide_true, decide_false, not_true_eq_false, not_false_eq_true, and_true, true_and, and_false, false_and, or_true, true_or, or_false, false_or, Bool.or_true, Bool.or_false, Bool.true_or, Bool.false_or, reduceCtorEq] <;> first | rfl | (simp_all; done) | (split <;> simp_all)
                                        exact ⟨by rw [hz], hrs.tr hsc.rs, by rw [hz]; exact (hsc.x hS 32).trans hran⟩
                                    · refine jv_topI (y := nI (6 * (10 * e + p787.1) + p787.2)) (by rw [hp790]; rfl) ?_
                                      obtain ⟨t788, ht788, m789, hm789⟩ := m_fm_mem hp790
                                      have Tt788 := (hE.2.2 p787.1 t788 ht788).1
                                      have Ot788 := (hE.2.2 p787.1 t788 ht788).2
                                      have Lt788 := hE.2.1
                                      have lt788 := jv_ltGet ht788
                                      have Mm789 := rt_m Tt788 hm789
                                      have Om789 := Ot788.2.2.2.2.2.2 m789 (List.mem_of_getElem? hm789)
                                      have Lm789 := Ot788.2.2.2.2.2.1
                                      have lm789 := jv_ltGet hm789
                                      have Bm789n := Om789.1; have Bm789s := Om789.2.1; have Bm789a := Om789.2.2.1; have Bt788n := Ot788.1; have Bt788k := Ot788.2.1
                                      refine jv_istore (q := 279) (lo' := [(12, .int (nI (6 * (10 * e + p787.1) + p787.2))), (11, .int (nI (10 * e + k769))), (10, .int (nI 1)), (9, .int (-1)), (8, .int (nI (10 * e + k609))), (0, .ref x), (1, .int (nI c)), (2, .int (nI e)), (3, .int (nI 4)), (4, .int ty), (5, .int n), (6, .int s), (7, .int rc)]) G dX8_met_277 (by decide) rfl rfl ?_
                                      refine jv_iload (q := 281) G 0 dX8_met_279 rfl rfl ?_
                                      refine jv_iconst (q := 282) (v := (-1)) G dX8_met_281 (by decide) rfl ?_
                                      refine jv_icmp_ne (q := 285) (tgt := 287) G dX8_met_282 (by decide) rfl (fun c792 => ?_) (fun c792 => ?_)
                                      · refine jv_aload_n (q := 288) G 5 dX8_met_287 rfl rfl rfl ?_
                                        refine jv_iload_n (q := 289) G 6 dX8_met_288 rfl rfl rfl ?_
                                        refine jv_iload_n (q := 290) G 7 dX8_met_289 rfl rfl rfl ?_
                                        refine jv_iload (q := 292) G 0 dX8_met_290 rfl rfl ?_
                                        refine jv_callV_I (q := 295) (h1 := h784) (As := [.int (nI c), .int (nI e), .int (nI (6 * (10 * e + p787.1) + p787.2))]) (rest := []) (ce' := 0) (sl' := 0) (r := jv_bI (m_mr ts pk su t788 m789)) G Z ml_X8_199 (r_mayReach hlt hsc hS hc he hE hV ht788 hm789 hpk hpk5 hsu hsu16) (hsc.S hS).1 dX8_met_292 rfl (by decide) (by decide) (by decide) (by decide) (Nat.le_of_ble_eq_true rfl) rfl rfl rfl rfl ?_
                                        refine jv_if_neB (q := 298) (tgt := 300) G dX8_met_295 (by decide) rfl (fun c793 => ?_) (fun c793 => ?_)
                                        · refine jv_aload_n (q := 301) G 5 dX8_met_300 rfl rfl rfl ?_
                                          refine jv_getQ (q := 304) G dX8_met_301 fl_X8_56 rfl (hsc.S hS).1 (rf_p17 (hsc.S hS)) rfl ?_
                                          refine jv_iload (q := 306) G 0 dX8_met_304 rfl rfl ?_
                                          refine jv_zald (q := 307) G dX8_met_306 (rf_a17 (hsc.S hS)) rfl (by omega) (by decide) (hsc.M hS Mm789).2.2.2.2.1 rfl ?_
                                          refine jv_iload_n (q := 308) G 8 dX8_met_307 rfl rfl rfl ?_
                                          refine jv_iconst (q := 309) (v := nI 1) G dX8_met_308 (by decide) rfl ?_
                                          refine jv_icmp_eqN (q := 312) (tgt := 317) G dX8_met_309 (by decide) rfl (by omega) (by omega) (fun c794 => ?_) (fun c794 => ?_)
                                          · omega
                                          · refine jv_iload_n (q := 313) G 8 dX8_met_312 rfl rfl rfl ?_
                                            refine jv_iconst (q := 314) (v := nI 3) G dX8_met_313 (by decide) rfl ?_
                                            refine jv_icmp_neN (q := 317) (tgt := 321) G dX8_met_314 (by decide) rfl (by omega) (by omega) (fun c795 => ?_) (fun c795 => ?_)
                                            · refine jv_iconst (q := 322) (v := nI 0) G dX8_met_321 (by decide) rfl ?_
                                              refine jv_icmp_eq (q := 325) (tgt := 327) G dX8_met_322 (by decide) rfl (fun c796 => ?_) (fun c796 => ?_)
                                              · refine jv_iload (q := 329) G 2 dX8_met_327 rfl rfl ?_
                                                refine jv_if_neN (q := 332) (tgt := 357) G dX8_met_329 (by decide) rfl (by omega) (fun c797 => ?_) (fun c797 => ?_)
                                                · refine jv_aload_n (q := 358) G 5 dX8_met_357 rfl rfl rfl ?_
                                                  refine jv_getQ (q := 361) G dX8_met_358 fl_X8_20 rfl (hsc.S hS).1 (rf_p5 (hsc.S hS)) rfl ?_
                                                  refine jv_iload (q := 363) G 1 dX8_met_361 rfl rfl ?_
                                                  refine jv_zald (q := 364) G dX8_met_363 (rf_a5 (hsc.S hS)) rfl (by omega) (by decide) (rt_5 (hsc.T hS Tt770)) rfl ?_
                                                  refine jv_if_neB (q := 367) (tgt := 396) G dX8_met_364 (by decide) rfl (fun c798 => ?_) (fun c798 => ?_)
                                                  · refine jv_bipush (q := 398) (v := nI 6) G dX8_met_396 (by decide) rfl ?_
                                                    refine jv_iret G hr dX8_met_398 (Nat.le_of_ble_eq_true rfl) (Nat.le_of_ble_eq_true rfl) ?_
                                                    have hz : (m_met (decide (e = ec)) tsC ts pk su 4 ty n s rc) = (6, none) := by
                                                      unfold m_met m_isC m_bd
                                                      simp only [*, if_true, if_false, Bool.false_eq_true, reduceIte, Option.map_some, decide_true, decide_false, not_true_eq_false, not_false_eq_true, and_true, true_and, and_false, false_and, or_true, true_or, or_false, false_or, Bool.or_true, Bool.or_false, Bool.true_or, Bool.false_or, reduceCtorEq] <;> first | rfl | (simp_all; done) | (split <;> simp_all)
                                                    exact ⟨by rw [hz], hrs.tr hsc.rs, by rw [hz]; exact (hsc.x hS 32).trans hran⟩
                                                  · refine jv_aload_n (q := 368) G 5 dX8_met_367 rfl rfl rfl ?_
                                                    refine jv_getQ (q := 371) G dX8_met_368 fl_X8_23 rfl (hsc.S hS).1 (rf_p6 (hsc.S hS)) rfl ?_
                                                    refine jv_iload (q := 373) G 1 dX8_met_371 rfl rfl ?_
                                                    refine jv_zald (q := 374) G dX8_met_373 (rf_a6 (hsc.S hS)) rfl (by omega) (by decide) (rt_6 (hsc.T hS Tt770)) rfl ?_
                                                    refine jv_if_neB (q := 377) (tgt := 396) G dX8_met_374 (by decide) rfl (fun c799 => ?_) (fun c799 => ?_)
                                                    · refine jv_bipush (q := 398) (v := nI 6) G dX8_met_396 (by decide) rfl ?_
                                                      refine jv_iret G hr dX8_met_398 (Nat.le_of_ble_eq_true rfl) (Nat.le_of_ble_eq_true rfl) ?_
                                                      have hz : (m_met (decide (e = ec)) tsC ts pk su 4 ty n s rc) = (6, none) := by
                                                        unfold m_met m_isC m_bd
                                                        simp only [*, if_true, if_false, Bool.false_eq_true, reduceIte, Option.map_some, decide_true, decide_false, not_true_eq_false, not_false_eq_true, and_true, true_and, and_false, false_and, or_true, true_or, or_false, false_or, Bool.or_true, Bool.or_false, Bool.true_or, Bool.false_or, reduceCtorEq] <;> first | rfl | (simp_all; done) | (split <;> simp_all)
                                                      exact ⟨by rw [hz], hrs.tr hsc.rs, by rw [hz]; exact (hsc.x hS 32).trans hran⟩
                                                    · refine jv_iload (q := 379) G 1 dX8_met_377 rfl rfl ?_
                                                      refine jv_iload (q := 381) G 4 dX8_met_379 rfl rfl ?_
                                                      refine jv_icmp_eqN (q := 384) (tgt := 399) G dX8_met_381 (by decide) rfl (by omega) (by omega) (fun c800 => ?_) (fun c800 => ?_)
                                                      · refine jv_aload_n (q := 400) G 5 dX8_met_399 rfl rfl rfl ?_
                                                        refine jv_iload_n (q := 401) G 7 dX8_met_400 rfl rfl rfl ?_
                                                        refine jv_iload (q := 403) G 0 dX8_met_401 rfl rfl ?_
                                                        refine jv_iload (q := 405) G 1 dX8_met_403 rfl rfl ?_
                                                        refine jv_callV (q := 408) (As := [.int (nI e), .int (nI (6 * (10 * e + p787.1) + p787.2)), .int (nI (10 * e + k769))]) (rest := []) G Z ml_X8_189 (r_selected (d := 11) hlt hsc hS he hE hV ht788 hm789 ht770 (hg k769 (by omega))) (hsc.S hS).1 dX8_met_405 rfl (by decide) (by decide) (by decide) (by decide) (Nat.le_of_ble_eq_true rfl) rfl rfl (fun v802 h801 y803 => ?_) (fun _ _ hx => hx.elim)
                                                        obtain ⟨rfl, hsc⟩ := y803
                                                        show jv_V E 14 h801 0 0 (jv_Q E (fun v h' => v = some (.int (nI (m_met (decide (e = ec)) tsC ts pk su 4 ty n s rc).1)) ∧ rs x q h h' ∧ jv_I h' x 32 = jv_oN (m_met (decide (e = ec)) tsC ts pk su 4 ty n s rc).2) jv_no 0 0) 408 [(12, .int (nI (6 * (10 * e + p787.1) + p787.2))), (11, .int (nI (10 * e + k769))), (10, .int (nI 1)), (9, .int (-1)), (8, .int (nI (10 * e + k609))), (0, .ref x), (1, .int (nI c)), (2, .int (nI e)), (3, .int (nI 4)), (4, .int ty), (5, .int n), (6, .int s), (7, .int rc)] [.int (ffE e (m_sl ts 11 t788 m789 p787.1 p787.2 k769))]
                                                        rcases Option.eq_none_or_eq_some (m_sl ts 11 t788 m789 p787.1 p787.2 k769) with hp807 | ⟨p804, hp807⟩
                                                        · refine jv_topI (y := (-1)) (by rw [hp807]; rfl) ?_
                                                          refine jv_istore (q := 410) (lo' := [(13, .int (-1)), (12, .int (nI (6 * (10 * e + p787.1) + p787.2))), (11, .int (nI (10 * e + k769))), (10, .int (nI 1)), (9, .int (-1)), (8, .int (nI (10 * e + k609))), (0, .ref x), (1, .int (nI c)), (2, .int (nI e)), (3, .int (nI 4)), (4, .int ty), (5, .int n), (6, .int s), (7, .int rc)]) G dX8_met_408 (by decide) rfl rfl ?_
                                                          refine jv_iload (q := 412) G 0 dX8_met_410 rfl rfl ?_
                                                          refine jv_iconst (q := 413) (v := (-1)) G dX8_met_412 (by decide) rfl ?_
                                                          refine jv_icmp_eq (q := 416) (tgt := 426) G dX8_met_413 (by decide) rfl (fun c808 => ?_) (fun c808 => ?_)
                                                          · refine jv_iconst (q := 427) (v := nI 5) G dX8_met_426 (by decide) rfl ?_
                                                            refine jv_iret G hr dX8_met_427 (Nat.le_of_ble_eq_true rfl) (Nat.le_of_ble_eq_true rfl) ?_
                                                            have hz : (m_met (decide (e = ec)) tsC ts pk su 4 ty n s rc) = (5, none) := by
                                                              unfold m_met m_isC m_bd
                                                              simp only [*, if_true, if_false, Bool.false_eq_true, reduceIte, Option.map_some, decide_true, decide_false, not_true_eq_false, not_false_eq_true, and_true, true_and, and_false, false_and, or_true, true_or, or_false, false_or, Bool.or_true, Bool.or_false, Bool.true_or, Bool.false_or, reduceCtorEq] <;> first | rfl | (simp_all; done) | (split <;> simp_all)
                                                            exact ⟨by rw [hz], hrs.tr hsc.rs, by rw [hz]; exact (hsc.x hS 32).trans hran⟩
                                                          · exact absurd rfl c808
                                                        · refine jv_topI (y := nI (6 * (10 * e + p804.1) + p804.2)) (by rw [hp807]; rfl) ?_
                                                          obtain ⟨t805, ht805, m806, hm806⟩ := m_sl_mem ht788 hm789 hp807
                                                          have Tt805 := (hE.2.2 p804.1 t805 ht805).1
                                                          have Ot805 := (hE.2.2 p804.1 t805 ht805).2
                                                          have Lt805 := hE.2.1
                                                          have lt805 := jv_ltGet ht805
                                                          have Mm806 := rt_m Tt805 hm806
                                                          have Om806 := Ot805.2.2.2.2.2.2 m806 (List.mem_of_getElem? hm806)
                                                          have Lm806 := Ot805.2.2.2.2.2.1
                                                          have lm806 := jv_ltGet hm806
                                                          have Bm806n := Om806.1; have Bm806s := Om806.2.1; have Bm806a := Om806.2.2.1; have Bt805n := Ot805.1; have Bt805k := Ot805.2.1
                                                          refine jv_istore (q := 410) (lo' := [(13, .int (nI (6 * (10 * e + p804.1) + p804.2))), (12, .int (nI (6 * (10 * e + p787.1) + p787.2))), (11, .int (nI (10 * e + k769))), (10, .int (nI 1)), (9, .int (-1)), (8, .int (nI (10 * e + k609))), (0, .ref x), (1, .int (nI c)), (2, .int (nI e)), (3, .int (nI 4)), (4, .int ty), (5, .int n), (6, .int s), (7, .int rc)]) G dX8_met_408 (by decide) rfl rfl ?_
                                                          refine jv_iload (q := 412) G 0 dX8_met_410 rfl rfl ?_
                                                          refine jv_iconst (q := 413) (v := (-1)) G dX8_met_412 (by decide) rfl ?_
                                                          refine jv_icmp_eq (q := 416) (tgt := 426) G dX8_met_413 (by decide) rfl (fun c809 => ?_) (fun c809 => ?_)
                                                          · exact absurd c809 (jv_nI_m1 (by omega))
                                                          · refine jv_aload_n (q := 417) G 6 dX8_met_416 rfl rfl rfl ?_
                                                            refine jv_getQ (q := 420) G dX8_met_417 fl_X8_59 rfl (hsc.S hS).1 (rf_p18 (hsc.S hS)) rfl ?_
                                                            refine jv_iload (q := 422) G 0 dX8_met_420 rfl rfl ?_
                                                            refine jv_iald (q := 423) G dX8_met_422 (rf_a18 (hsc.S hS)) rfl (by omega) (by decide) (hsc.M hS Mm806).2.2.2.2.2.1 rfl ?_
                                                            refine jv_if_ge (q := 426) (tgt := 428) G dX8_met_423 (by decide) rfl (fun c810 => ?_) (fun c810 => ?_)
                                                            · refine jv_iload_n (q := 429) G 9 dX8_met_428 rfl rfl rfl ?_
                                                              refine jv_iconst (q := 430) (v := nI 4) G dX8_met_429 (by decide) rfl ?_
                                                              refine jv_icmp_neN (q := 433) (tgt := 446) G dX8_met_430 (by decide) rfl (by omega) (by omega) (fun c811 => ?_) (fun c811 => ?_)
                                                              · omega
                                                              · refine jv_aload_n (q := 434) G 6 dX8_met_433 rfl rfl rfl ?_
                                                                refine jv_getQ (q := 437) G dX8_met_434 fl_X8_53 rfl (hsc.S hS).1 (rf_p16 (hsc.S hS)) rfl ?_
                                                                refine jv_iload (q := 439) G 0 dX8_met_437 rfl rfl ?_
                                                                refine jv_iald (q := 440) G dX8_met_439 (rf_a16 (hsc.S hS)) rfl (by omega) (by decide) (hsc.M hS Mm806).2.2.2.1 rfl ?_
                                                                refine jv_iconst (q := 441) (v := nI 3) G dX8_met_440 (by decide) rfl ?_
                                                                refine jv_icmp_eqN (q := 444) (tgt := 446) G dX8_met_441 (by decide) rfl (by omega) (by omega) (fun c812 => ?_) (fun c812 => ?_)
                                                                · refine jv_aload_n (q := 447) G 6 dX8_met_446 rfl rfl rfl ?_
                                                                  refine jv_aload_n (q := 448) G 6 dX8_met_447 rfl rfl rfl ?_
                                                                  refine jv_getQ (q := 451) G dX8_met_448 fl_X8_17 rfl (hsc.S hS).1 (rf_p4 (hsc.S hS)) rfl ?_
                                                                  refine jv_iload (q := 453) G 0 dX8_met_451 rfl rfl ?_
                                                                  refine jv_callS_I (q := 456) (h1 := h801) (As := [.int (nI (6 * (10 * e + p804.1) + p804.2))]) (rest := [.ref (q 4), .ref x]) (ce' := 0) (sl' := 0) (r := nI ((6 * (10 * e + p804.1) + p804.2) / 6)) G Z ml_X8_183 (r_typeOf hlt (by omega)) dX8_met_453 rfl (by decide) (by decide) (by decide) (by decide) (Nat.le_of_ble_eq_true rfl) rfl rfl rfl rfl ?_
                                                                  refine jv_topI (y := nI (10 * e + p804.1)) (congrArg nI (by omega)) ?_
                                                                  refine jv_iald (q := 457) G dX8_met_456 (rf_a4 (hsc.S hS)) rfl (by omega) (by decide) (rt_4 (hsc.T hS Tt805)) rfl ?_
                                                                  refine jv_putI (q := 460) G dX8_met_457 fl_X8_192 rfl (hsc.S hS).1 rfl ?_
                                                                  have hr1 : rs x q h801 (jv_wI h801 x 32 (nI (mt_n t805))) := rs.rf.wI (nI (mt_n t805)) (Or.inl ⟨rfl, Or.inr (Or.inl rfl)⟩)
                                                                  have hran : jv_I (jv_wI h801 x 32 (nI (mt_n t805))) x 32 = (nI (mt_n t805)) := jv_I_self _ _ _ _
                                                                  have hSb := hsc.S hS
                                                                  have hE := hr1.E hSb (hsc.E hS hE)
                                                                  have hV := hr1.V hSb (hsc.V hS hV)
                                                                  have hEC := hr1.E hSb (hsc.E hS hEC)
                                                                  have hVC := hr1.V hSb (hsc.V hS hVC)
                                                                  have hce := (wx_I hSb 22 (by decide) rfl 32 c (nI (mt_n t805))).trans ((hsc.I2 hS 22 (by decide) rfl (by decide) c).trans hce)
                                                                  have hpk := (wx_I hSb 23 (by decide) rfl 32 c (nI (mt_n t805))).trans ((hsc.I2 hS 23 (by decide) rfl (by decide) c).trans hpk)
                                                                  have hsu := (wx_I hSb 24 (by decide) rfl 32 c (nI (mt_n t805))).trans ((hsc.I2 hS 24 (by decide) rfl (by decide) c).trans hsu)
                                                                  have hrs := (hrs.tr hsc.rs).tr hr1
                                                                  have hS := hr1.S hSb
                                                                  generalize jv_wI h801 x 32 (nI (mt_n t805)) = h813 at hran hE hV hEC hVC hce hpk hsu hrs hS ⊢
                                                                  have hsc : sc x q h813 h813 := sc.rf
                                                                  refine jv_iload_n (q := 461) G 8 dX8_met_460 rfl rfl rfl ?_
                                                                  refine jv_aload_n (q := 462) G 6 dX8_met_461 rfl rfl rfl ?_
                                                                  refine jv_getQ (q := 465) G dX8_met_462 fl_X8_68 rfl (hsc.S hS).1 (rf_p22 (hsc.S hS)) rfl ?_
                                                                  refine jv_iload_n (q := 466) G 7 dX8_met_465 rfl rfl rfl ?_
                                                                  refine jv_iald (q := 467) G dX8_met_466 (rf_a22 (hsc.S hS)) rfl (by omega) (by decide) ((hsc.I2 hS 22 (by decide) rfl (by decide) c).trans hce) rfl ?_
                                                                  refine jv_icmp_eqN (q := 470) (tgt := 495) G dX8_met_467 (by decide) rfl (by omega) (by omega) (fun c814 => ?_) (fun c814 => ?_)
                                                                  · refine jv_iconst (q := 496) (v := nI 0) G dX8_met_495 (by decide) rfl ?_
                                                                    refine jv_iret G hr dX8_met_496 (Nat.le_of_ble_eq_true rfl) (Nat.le_of_ble_eq_true rfl) ?_
                                                                    have hz : (m_met (decide (e = ec)) tsC ts pk su 4 ty n s rc) = (0, some (mt_n t805)) := by
                                                                      unfold m_met m_isC m_bd
                                                                      simp only [*, if_true, if_false, Bool.false_eq_true, reduceIte, Option.map_some, decide_true, decide_false, not_true_eq_false, not_false_eq_true, and_true, true_and, and_false, false_and, or_true, true_or, or_false, false_or, Bool.or_true, Bool.or_false, Bool.true_or, Bool.false_or, reduceCtorEq] <;> first | rfl | (simp_all; done) | (split <;> simp_all)
                                                                    exact ⟨by rw [hz], hrs.tr hsc.rs, by rw [hz]; exact (hsc.x hS 32).trans hran⟩
                                                                  · refine jv_aload_n (q := 471) G 6 dX8_met_470 rfl rfl rfl ?_
                                                                    refine jv_getI (q := 474) G dX8_met_471 fl_X8_192 rfl (hsc.S hS).1 ((hsc.x hS 32).trans hran) rfl ?_
                                                                    refine jv_aload_n (q := 475) G 6 dX8_met_474 rfl rfl rfl ?_
                                                                    refine jv_iload_n (q := 476) G 7 dX8_met_475 rfl rfl rfl ?_
                                                                    refine jv_iload (q := 478) G 10 dX8_met_476 rfl rfl ?_
                                                                    refine jv_iload (q := 480) G 11 dX8_met_478 rfl rfl ?_
                                                                    refine jv_iload (q := 482) G 12 dX8_met_480 rfl rfl ?_
                                                                    refine jv_iload (q := 484) G 13 dX8_met_482 rfl rfl ?_
                                                                    refine jv_callV (q := 487) (As := [.int (nI c), .int ty, .int n, .int s, .int rc]) (rest := [.int (nI (mt_n t805))]) G Z ml_X8_202 (r_ownRun hlt hsc hS hc hec hEC hVC hce hgC) (hsc.S hS).1 dX8_met_484 rfl (by decide) (by decide) (by decide) (by decide) (Nat.le_of_ble_eq_true rfl) rfl rfl (fun v816 h815 y817 => ?_) (fun _ _ hx => hx.elim)
                                                                    obtain ⟨rfl, hsc⟩ := y817
                                                                    show jv_V E 14 h815 0 0 (jv_Q E (fun v h' => v = some (.int (nI (m_met (decide (e = ec)) tsC ts pk su 4 ty n s rc).1)) ∧ rs x q h h' ∧ jv_I h' x 32 = jv_oN (m_met (decide (e = ec)) tsC ts pk su 4 ty n s rc).2) jv_no 0 0) 487 [(13, .int (nI (6 * (10 * e + p804.1) + p804.2))), (12, .int (nI (6 * (10 * e + p787.1) + p787.2))), (11, .int (nI (10 * e + k769))), (10, .int (nI 1)), (9, .int (-1)), (8, .int (nI (10 * e + k609))), (0, .ref x), (1, .int (nI c)), (2, .int (nI e)), (3, .int (nI 4)), (4, .int ty), (5, .int n), (6, .int s), (7, .int rc)] [.int (jv_oN (m_orn tsC ty n s rc)), .int (nI (mt_n t805))]
                                                                    refine jv_icmp_eq (q := 490) (tgt := 495) G dX8_met_487 (by decide) rfl (fun c818 => ?_) (fun c818 => ?_)
                                                                    · refine jv_iconst (q := 496) (v := nI 0) G dX8_met_495 (by decide) rfl ?_
                                                                      refine jv_iret G hr dX8_met_496 (Nat.le_of_ble_eq_true rfl) (Nat.le_of_ble_eq_true rfl) ?_
                                                                      have hz : (m_met (decide (e = ec)) tsC ts pk su 4 ty n s rc) = (0, some (mt_n t805)) := by
                                                                        unfold m_met m_isC m_bd
                                                                        simp only [*, if_true, if_false, Bool.false_eq_true, reduceIte, Option.map_some, decide_true, decide_false, not_true_eq_false, not_false_eq_true, and_true, true_and, and_false, false_and, or_true, true_or, or_false, false_or, Bool.or_true, Bool.or_false, Bool.true_or, Bool.false_or, reduceCtorEq] <;> first | rfl | (simp_all; done) | (split <;> simp_all)
                                                                      exact ⟨by rw [hz], hrs.tr hsc.rs, by rw [hz]; exact (hsc.x hS 32).trans hran⟩
                                                                    · refine jv_bipush (q := 492) (v := nI 8) G dX8_met_490 (by decide) rfl ?_
                                                                      refine jv_goto (q := 496) G dX8_met_492 (by decide) ?_
                                                                      refine jv_iret G hr dX8_met_496 (Nat.le_of_ble_eq_true rfl) (Nat.le_of_ble_eq_true rfl) ?_
                                                                      have hz : (m_met (decide (e = ec)) tsC ts pk su 4 ty n s rc) = (8, some (mt_n t805)) := by
                                                                        unfold m_met m_isC m_bd
                                                                        simp only [*, if_true, if_false, Bool.false_eq_true, reduceIte, Option.map_some, decide_true, decide_false, not_true_eq_false, not_false_eq_true, and_true, true_and, and_false, false_and, or_true, true_or, or_false, false_or, Bool.or_true, Bool.or_false, Bool.true_or, Bool.false_or, reduceCtorEq] <;> first | rfl | (simp_all; done) | (split <;> simp_all)
                                                                      exact ⟨by rw [hz], hrs.tr hsc.rs, by rw [hz]; exact (hsc.x hS 32).trans hran⟩
                                                                · refine jv_iconst (q := 445) (v := nI 3) G dX8_met_444 (by decide) rfl ?_
                                                                  refine jv_iret G hr dX8_met_445 (Nat.le_of_ble_eq_true rfl) (Nat.le_of_ble_eq_true rfl) ?_
                                                                  have hz : (m_met (decide (e = ec)) tsC ts pk su 4 ty n s rc) = (3, none) := by
                                                                    unfold m_met m_isC m_bd
                                                                    simp only [*, if_true, if_false, Bool.false_eq_true, reduceIte, Option.map_some, decide_true, decide_false, not_true_eq_false, not_false_eq_true, and_true, true_and, and_false, false_and, or_true, true_or, or_false, false_or, Bool.or_true, Bool.or_false, Bool.true_or, Bool.false_or, reduceCtorEq] <;> first | rfl | (simp_all; done) | (split <;> simp_all)
                                                                  exact ⟨by rw [hz], hrs.tr hsc.rs, by rw [hz]; exact (hsc.x hS 32).trans hran⟩
                                                            · refine jv_iconst (q := 427) (v := nI 5) G dX8_met_426 (by decide) rfl ?_
                                                              refine jv_iret G hr dX8_met_427 (Nat.le_of_ble_eq_true rfl) (Nat.le_of_ble_eq_true rfl) ?_
                                                              have hz : (m_met (decide (e = ec)) tsC ts pk su 4 ty n s rc) = (5, none) := by
                                                                unfold m_met m_isC m_bd
                                                                simp only [*, if_true, if_false, Bool.false_eq_true, reduceIte, Option.map_some, decide_true, decide_false, not_true_eq_false, not_false_eq_true, and_true, true_and, and_false, false_and, or_true, true_or, or_false, false_or, Bool.or_true, Bool.or_false, Bool.true_or, Bool.false_or, reduceCtorEq] <;> first | rfl | (simp_all; done) | (split <;> simp_all)
                                                              exact ⟨by rw [hz], hrs.tr hsc.rs, by rw [hz]; exact (hsc.x hS 32).trans hran⟩
                                                      · refine jv_aload_n (q := 385) G 5 dX8_met_384 rfl rfl rfl ?_
                                                        refine jv_iload_n (q := 386) G 7 dX8_met_385 rfl rfl rfl ?_
                                                        refine jv_iload (q := 388) G 9 dX8_met_386 rfl rfl ?_
                                                        refine jv_iload (q := 390) G 12 dX8_met_388 rfl rfl ?_
                                                        refine jv_callV_I (q := 393) (h1 := h784) (As := [.int (nI e), .int ty, .int rc]) (rest := []) (ce' := 0) (sl' := 0) (r := jv_bI (m_isA ts ty rc)) G Z ml_X8_167 (r_isAbove hlt hsc hS he hV) (hsc.S hS).1 dX8_met_390 rfl (by decide) (by decide) (by decide) (by decide) (Nat.le_of_ble_eq_true rfl) rfl rfl rfl rfl ?_
                                                        refine jv_if_neB (q := 396) (tgt := 399) G dX8_met_393 (by decide) rfl (fun c819 => ?_) (fun c819 => ?_)
                                                        · refine jv_aload_n (q := 400) G 5 dX8_met_399 rfl rfl rfl ?_
                                                          refine jv_iload_n (q := 401) G 7 dX8_met_400 rfl rfl rfl ?_
                                                          refine jv_iload (q := 403) G 0 dX8_met_401 rfl rfl ?_
                                                          refine jv_iload (q := 405) G 1 dX8_met_403 rfl rfl ?_
                                                          refine jv_callV (q := 408) (As := [.int (nI e), .int (nI (6 * (10 * e + p787.1) + p787.2)), .int (nI (10 * e + k769))]) (rest := []) G Z ml_X8_189 (r_selected (d := 11) hlt hsc hS he hE hV ht788 hm789 ht770 (hg k769 (by omega))) (hsc.S hS).1 dX8_met_405 rfl (by decide) (by decide) (by decide) (by decide) (Nat.le_of_ble_eq_true rfl) rfl rfl (fun v821 h820 y822 => ?_) (fun _ _ hx => hx.elim)
                                                          obtain ⟨rfl, hsc⟩ := y822
                                                          show jv_V E 14 h820 0 0 (jv_Q E (fun v h' => v = some (.int (nI (m_met (decide (e = ec)) tsC ts pk su 4 ty n s rc).1)) ∧ rs x q h h' ∧ jv_I h' x 32 = jv_oN (m_met (decide (e = ec)) tsC ts pk su 4 ty n s rc).2) jv_no 0 0) 408 [(12, .int (nI (6 * (10 * e + p787.1) + p787.2))), (11, .int (nI (10 * e + k769))), (10, .int (nI 1)), (9, .int (-1)), (8, .int (nI (10 * e + k609))), (0, .ref x), (1, .int (nI c)), (2, .int (nI e)), (3, .int (nI 4)), (4, .int ty), (5, .int n), (6, .int s), (7, .int rc)] [.int (ffE e (m_sl ts 11 t788 m789 p787.1 p787.2 k769))]
                                                          rcases Option.eq_none_or_eq_some (m_sl ts 11 t788 m789 p787.1 p787.2 k769) with hp826 | ⟨p823, hp826⟩
                                                          · refine jv_topI (y := (-1)) (by rw [hp826]; rfl) ?_
                                                            refine jv_istore (q := 410) (lo' := [(13, .int (-1)), (12, .int (nI (6 * (10 * e + p787.1) + p787.2))), (11, .int (nI (10 * e + k769))), (10, .int (nI 1)), (9, .int (-1)), (8, .int (nI (10 * e + k609))), (0, .ref x), (1, .int (nI c)), (2, .int (nI e)), (3, .int (nI 4)), (4, .int ty), (5, .int n), (6, .int s), (7, .int rc)]) G dX8_met_408 (by decide) rfl rfl ?_
                                                            refine jv_iload (q := 412) G 0 dX8_met_410 rfl rfl ?_
                                                            refine jv_iconst (q := 413) (v := (-1)) G dX8_met_412 (by decide) rfl ?_
                                                            refine jv_icmp_eq (q := 416) (tgt := 426) G dX8_met_413 (by decide) rfl (fun c827 => ?_) (fun c827 => ?_)
                                                            · refine jv_iconst (q := 427) (v := nI 5) G dX8_met_426 (by decide) rfl ?_
                                                              refine jv_iret G hr dX8_met_427 (Nat.le_of_ble_eq_true rfl) (Nat.le_of_ble_eq_true rfl) ?_
                                                              have hz : (m_met (decide (e = ec)) tsC ts pk su 4 ty n s rc) = (5, none) := by
                                                                unfold m_met m_isC m_bd
                                                                simp only [*, if_true, if_false, Bool.false_eq_true, reduceIte, Option.map_some, decide_true, decide_false, not_true_eq_false, not_false_eq_true, and_true, true_and, and_false, false_and, or_true, true_or, or_false, false_or, Bool.or_true, Bool.or_false, Bool.true_or, Bool.false_or, reduceCtorEq] <;> first | rfl | (simp_all; done) | (split <;> simp_all)
                                                              exact ⟨by rw [hz], hrs.tr hsc.rs, by rw [hz]; exact (hsc.x hS 32).trans hran⟩
                                                            · exact absurd rfl c827
                                                          · refine jv_topI (y := nI (6 * (10 * e + p823.1) + p823.2)) (by rw [hp826]; rfl) ?_
                                                            obtain ⟨t824, ht824, m825, hm825⟩ := m_sl_mem ht788 hm789 hp826
                                                            have Tt824 := (hE.2.2 p823.1 t824 ht824).1
                                                            have Ot824 := (hE.2.2 p823.1 t824 ht824).2
                                                            have Lt824 := hE.2.1
                                                            have lt824 := jv_ltGet ht824
                                                            have Mm825 := rt_m Tt824 hm825
                                                            have Om825 := Ot824.2.2.2.2.2.2 m825 (List.mem_of_getElem? hm825)
                                                            have Lm825 := Ot824.2.2.2.2.2.1
                                                            have lm825 := jv_ltGet hm825
                                                            have Bm825n := Om825.1; have Bm825s := Om825.2.1; have Bm825a := Om825.2.2.1; have Bt824n := Ot824.1; have Bt824k := Ot824.2.1
                                                            refine jv_istore (q := 410) (lo' := [(13, .int (nI (6 * (10 * e + p823.1) + p823.2))), (12, .int (nI (6 * (10 * e + p787.1) + p787.2))), (11, .int (nI (10 * e + k769))), (10, .int (nI 1)), (9, .int (-1)), (8, .int (nI (10 * e + k609))), (0, .ref x), (1, .int (nI c)), (2, .int (nI e)), (3, .int (nI 4)), (4, .int ty), (5, .int n), (6, .int s), (7, .int rc)]) G dX8_met_408 (by decide) rfl rfl ?_
                                                            refine jv_iload (q := 412) G 0 dX8_met_410 rfl rfl ?_
                                                            refine jv_iconst (q := 413) (v := (-1)) G dX8_met_412 (by decide) rfl ?_
                                                            refine jv_icmp_eq (q := 416) (tgt := 426) G dX8_met_413 (by decide) rfl (fun c828 => ?_) (fun c828 => ?_)
                                                            · exact absurd c828 (jv_nI_m1 (by omega))
                                                            · refine jv_aload_n (q := 417) G 6 dX8_met_416 rfl rfl rfl ?_
                                                              refine jv_getQ (q := 420) G dX8_met_417 fl_X8_59 rfl (hsc.S hS).1 (rf_p18 (hsc.S hS)) rfl ?_
                                                              refine jv_iload (q := 422) G 0 dX8_met_420 rfl rfl ?_
                                                              refine jv_iald (q := 423) G dX8_met_422 (rf_a18 (hsc.S hS)) rfl (by omega) (by decide) (hsc.M hS Mm825).2.2.2.2.2.1 rfl ?_
                                                              refine jv_if_ge (q := 426) (tgt := 428) G dX8_met_423 (by decide) rfl (fun c829 => ?_) (fun c829 => ?_)
                                                              · refine jv_iload_n (q := 429) G 9 dX8_met_428 rfl rfl rfl ?_
                                                                refine jv_iconst (q := 430) (v := nI 4) G dX8_met_429 (by decide) rfl ?_
                                                                refine jv_icmp_neN (q := 433) (tgt := 446) G dX8_met_430 (by decide) rfl (by omega) (by omega) (fun c830 => ?_) (fun c830 => ?_)
                                                                · omega
                                                                · refine jv_aload_n (q := 434) G 6 dX8_met_433 rfl rfl rfl ?_
                                                                  refine jv_getQ (q := 437) G dX8_met_434 fl_X8_53 rfl (hsc.S hS).1 (rf_p16 (hsc.S hS)) rfl ?_
                                                                  refine jv_iload (q := 439) G 0 dX8_met_437 rfl rfl ?_
                                                                  refine jv_iald (q := 440) G dX8_met_439 (rf_a16 (hsc.S hS)) rfl (by omega) (by decide) (hsc.M hS Mm825).2.2.2.1 rfl ?_
                                                                  refine jv_iconst (q := 441) (v := nI 3) G dX8_met_440 (by decide) rfl ?_
                                                                  refine jv_icmp_eqN (q := 444) (tgt := 446) G dX8_met_441 (by decide) rfl (by omega) (by omega) (fun c831 => ?_) (fun c831 => ?_)
                                                                  · refine jv_aload_n (q := 447) G 6 dX8_met_446 rfl rfl rfl ?_
                                                                    refine jv_aload_n (q := 448) G 6 dX8_met_447 rfl rfl rfl ?_
                                                                    refine jv_getQ (q := 451) G dX8_met_448 fl_X8_17 rfl (hsc.S hS).1 (rf_p4 (hsc.S hS)) rfl ?_
                                                                    refine jv_iload (q := 453) G 0 dX8_met_451 rfl rfl ?_
                                                                    refine jv_callS_I (q := 456) (h1 := h820) (As := [.int (nI (6 * (10 * e + p823.1) + p823.2))]) (rest := [.ref (q 4), .ref x]) (ce' := 0) (sl' := 0) (r := nI ((6 * (10 * e + p823.1) + p823.2) / 6)) G Z ml_X8_183 (r_typeOf hlt (by omega)) dX8_met_453 rfl (by decide) (by decide) (by decide) (by decide) (Nat.le_of_ble_eq_true rfl) rfl rfl rfl rfl ?_
                                                                    refine jv_topI (y := nI (10 * e + p823.1)) (congrArg nI (by omega)) ?_
                                                                    refine jv_iald (q := 457) G dX8_met_456 (rf_a4 (hsc.S hS)) rfl (by omega) (by decide) (rt_4 (hsc.T hS Tt824)) rfl ?_
                                                                    refine jv_putI (q := 460) G dX8_met_457 fl_X8_192 rfl (hsc.S hS).1 rfl ?_
                                                                    have hr1 : rs x q h820 (jv_wI h820 x 32 (nI (mt_n t824))) := rs.rf.wI (nI (mt_n t824)) (Or.inl ⟨rfl, Or.inr (Or.inl rfl)⟩)
                                                                    have hran : jv_I (jv_wI h820 x 32 (nI (mt_n t824))) x 32 = (nI (mt_n t824)) := jv_I_self _ _ _ _
                                                                    have hSb := hsc.S hS
                                                                    have hE := hr1.E hSb (hsc.E hS hE)
                                                                    have hV := hr1.V hSb (hsc.V hS hV)
                                                                    have hEC := hr1.E hSb (hsc.E hS hEC)
                                                                    have hVC := hr1.V hSb (hsc.V hS hVC)
                                                                    have hce := (wx_I hSb 22 (by decide) rfl 32 c (nI (mt_n t824))).trans ((hsc.I2 hS 22 (by decide) rfl (by decide) c).trans hce)
                                                                    have hpk := (wx_I hSb 23 (by decide) rfl 32 c (nI (mt_n t824))).trans ((hsc.I2 hS 23 (by decide) rfl (by decide) c).trans hpk)
                                                                    have hsu := (wx_I hSb 24 (by decide) rfl 32 c (nI (mt_n t824))).trans ((hsc.I2 hS 24 (by decide) rfl (by decide) c).trans hsu)
                                                                    have hrs := (hrs.tr hsc.rs).tr hr1
                                                                    have hS := hr1.S hSb
                                                                    generalize jv_wI h820 x 32 (nI (mt_n t824)) = h832 at hran hE hV hEC hVC hce hpk hsu hrs hS ⊢
                                                                    have hsc : sc x q h832 h832 := sc.rf
                                                                    refine jv_iload_n (q := 461) G 8 dX8_met_460 rfl rfl rfl ?_
                                                                    refine jv_aload_n (q := 462) G 6 dX8_met_461 rfl rfl rfl ?_
                                                                    refine jv_getQ (q := 465) G dX8_met_462 fl_X8_68 rfl (hsc.S hS).1 (rf_p22 (hsc.S hS)) rfl ?_
                                                                    refine jv_iload_n (q := 466) G 7 dX8_met_465 rfl rfl rfl ?_
                                                                    refine jv_iald (q := 467) G dX8_met_466 (rf_a22 (hsc.S hS)) rfl (by omega) (by decide) ((hsc.I2 hS 22 (by decide) rfl (by decide) c).trans hce) rfl ?_
                                                                    refine jv_icmp_eqN (q := 470) (tgt := 495) G dX8_met_467 (by decide) rfl (by omega) (by omega) (fun c833 => ?_) (fun c833 => ?_)
                                                                    · refine jv_iconst (q := 496) (v := nI 0) G dX8_met_495 (by decide) rfl ?_
                                                                      refine jv_iret G hr dX8_met_496 (Nat.le_of_ble_eq_true rfl) (Nat.le_of_ble_eq_true rfl) ?_
                                                                      have hz : (m_met (decide (e = ec)) tsC ts pk su 4 ty n s rc) = (0, some (mt_n t824)) := by
                                                                        unfold m_met m_isC m_bd
                                                                        simp only [*, if_true, if_false, Bool.false_eq_true, reduceIte, Option.map_some, decide_true, decide_false, not_true_eq_false, not_false_eq_true, and_true, true_and, and_false, false_and, or_true, true_or, or_false, false_or, Bool.or_true, Bool.or_false, Bool.true_or, Bool.false_or, reduceCtorEq] <;> first | rfl | (simp_all; done) | (split <;> simp_all)
                                                                      exact ⟨by rw [hz], hrs.tr hsc.rs, by rw [hz]; exact (hsc.x hS 32).trans hran⟩
                                                                    · refine jv_aload_n (q := 471) G 6 dX8_met_470 rfl rfl rfl ?_
                                                                      refine jv_getI (q := 474) G dX8_met_471 fl_X8_192 rfl (hsc.S hS).1 ((hsc.x hS 32).trans hran) rfl ?_
                                                                      refine jv_aload_n (q := 475) G 6 dX8_met_474 rfl rfl rfl ?_
                                                                      refine jv_iload_n (q := 476) G 7 dX8_met_475 rfl rfl rfl ?_
                                                                      refine jv_iload (q := 478) G 10 dX8_met_476 rfl rfl ?_
                                                                      refine jv_iload (q := 480) G 11 dX8_met_478 rfl rfl ?_
                                                                      refine jv_iload (q := 482) G 12 dX8_met_480 rfl rfl ?_
                                                                      refine jv_iload (q := 484) G 13 dX8_met_482 rfl rfl ?_
                                                                      refine jv_callV (q := 487) (As := [.int (nI c), .int ty, .int n, .int s, .int rc]) (rest := [.int (nI (mt_n t824))]) G Z ml_X8_202 (r_ownRun hlt hsc hS hc hec hEC hVC hce hgC) (hsc.S hS).1 dX8_met_484 rfl (by decide) (by decide) (by decide) (by decide) (Nat.le_of_ble_eq_true rfl) rfl rfl (fun v835 h834 y836 => ?_) (fun _ _ hx => hx.elim)
                                                                      obtain ⟨rfl, hsc⟩ := y836
                                                                      show jv_V E 14 h834 0 0 (jv_Q E (fun v h' => v = some (.int (nI (m_met (decide (e = ec)) tsC ts pk su 4 ty n s rc).1)) ∧ rs x q h h' ∧ jv_I h' x 32 = jv_oN (m_met (decide (e = ec)) tsC ts pk su 4 ty n s rc).2) jv_no 0 0) 487 [(13, .int (nI (6 * (10 * e + p823.1) + p823.2))), (12, .int (nI (6 * (10 * e + p787.1) + p787.2))), (11, .int (nI (10 * e + k769))), (10, .int (nI 1)), (9, .int (-1)), (8, .int (nI (10 * e + k609))), (0, .ref x), (1, .int (nI c)), (2, .int (nI e)), (3, .int (nI 4)), (4, .int ty), (5, .int n), (6, .int s), (7, .int rc)] [.int (jv_oN (m_orn tsC ty n s rc)), .int (nI (mt_n t824))]
                                                                      refine jv_icmp_eq (q := 490) (tgt := 495) G dX8_met_487 (by decide) rfl (fun c837 => ?_) (fun c837 => ?_)
                                                                      · refine jv_iconst (q := 496) (v := nI 0) G dX8_met_495 (by decide) rfl ?_
                                                                        refine jv_iret G hr dX8_met_496 (Nat.le_of_ble_eq_true rfl) (Nat.le_of_ble_eq_true rfl) ?_
                                                                        have hz : (m_met (decide (e = ec)) tsC ts pk su 4 ty n s rc) = (0, some (mt_n t824)) := by
                                                                          unfold m_met m_isC m_bd
                                                                          simp only [*, if_true, if_false, Bool.false_eq_true, reduceIte, Option.map_some, decide_true, decide_false, not_true_eq_false, not_false_eq_true, and_true, true_and, and_false, false_and, or_true, true_or, or_false, false_or, Bool.or_true, Bool.or_false, Bool.true_or, Bool.false_or, reduceCtorEq] <;> first | rfl | (simp_all; done) | (split <;> simp_all)
                                                                        exact ⟨by rw [hz], hrs.tr hsc.rs, by rw [hz]; exact (hsc.x hS 32).trans hran⟩
                                                                      · refine jv_bipush (q := 492) (v := nI 8) G dX8_met_490 (by decide) rfl ?_
                                                                        refine jv_goto (q := 496) G dX8_met_492 (by decide) ?_
                                                                        refine jv_iret G hr dX8_met_496 (Nat.le_of_ble_eq_true rfl) (Nat.le_of_ble_eq_true rfl) ?_
                                                                        have hz : (m_met (decide (e = ec)) tsC ts pk su 4 ty n s rc) = (8, some (mt_n t824)) := by
                                                                          unfold m_met m_isC m_bd
                                                                          simp only [*, if_true, if_false, Bool.false_eq_true, reduceIte, Option.map_some, decide_true, decide_false, not_true_eq_false, not_false_eq_true, and_true, true_and, and_false, false_and, or_true, true_or, or_false, false_or, Bool.or_true, Bool.or_false, Bool.true_or, Bool.false_or, reduceCtorEq] <;> first | rfl | (simp_all; done) | (split <;> simp_all)
                                                                        exact ⟨by rw [hz], hrs.tr hsc.rs, by rw [hz]; exact (hsc.x hS 32).trans hran⟩
                                                                  · refine jv_iconst (q := 445) (v := nI 3) G dX8_met_444 (by decide) rfl ?_
                                                                    refine jv_iret G hr dX8_met_445 (Nat.le_of_ble_eq_true rfl) (Nat.le_of_ble_eq_true rfl) ?_
                                                                    have hz : (m_met (decide (e = ec)) tsC ts pk su 4 ty n s rc) = (3, none) := by
                                                                      unfold m_met m_isC m_bd
                                                                      simp only [*, if_true, if_false, Bool.false_eq_true, reduceIte, Option.map_some, decide_true, decide_false, not_true_eq_false, not_false_eq_true, and_true, true_and, and_false, false_and, or_true, true_or, or_false, false_or, Bool.or_true, Bool.or_false, Bool.true_or, Bool.false_or, reduceCtorEq] <;> first | rfl | (simp_all; done) | (split <;> simp_all)
                                                                    exact ⟨by rw [hz], hrs.tr hsc.rs, by rw [hz]; exact (hsc.x hS 32).trans hran⟩
                                                              · refine jv_iconst (q := 427) (v := nI 5) G dX8_met_426 (by decide) rfl ?_
                                                                refine jv_iret G hr dX8_met_427 (Nat.le_of_ble_eq_true rfl) (Nat.le_of_ble_eq_true rfl) ?_
                                                                have hz : (m_met (decide (e = ec)) tsC ts pk su 4 ty n s rc) = (5, none) := by
                                                                  unfold m_met m_isC m_bd
                                                                  simp only [*, if_true, if_false, Bool.false_eq_true, reduceIte, Option.map_some, decide_true, decide_false, not_true_eq_false, not_false_eq_true, and_true, true_and, and_false, false_and, or_true, true_or, or_false, false_or, Bool.or_true, Bool.or_false, Bool.true_or, Bool.false_or, reduceCtorEq] <;> first | rfl | (simp_all; done) | (split <;> simp_all)
                                                                exact ⟨by rw [hz], hrs.tr hsc.rs, by rw [hz]; exact (hsc.x hS 32).trans hran⟩
                                                        · refine jv_bipush (q := 398) (v := nI 6) G dX8_met_396 (by decide) rfl ?_
                                                          refine jv_iret G hr dX8_met_398 (Nat.le_of_ble_eq_true rfl) (Nat.le_of_ble_eq_true rfl) ?_
                                                          have hz : (m_met (decide (e = ec)) tsC ts pk su 4 ty n s rc) = (6, none) := by
                                                            unfold m_met m_isC m_bd
                                                            simp only [*, if_true, if_false, Bool.false_eq_true, reduceIte, Option.map_some, decide_true, decide_false, not_true_eq_false, not_false_eq_true, and_true, true_and, and_false, false_and, or_true, true_or, or_false, false_or, Bool.or_true, Bool.or_false, Bool.true_or, Bool.false_or, reduceCtorEq] <;> first | rfl | (simp_all; done) | (split <;> simp_all)
                                                          exact ⟨by rw [hz], hrs.tr hsc.rs, by rw [hz]; exact (hsc.x hS 32).trans hran⟩
                                                · omega
                                              · refine jv_iconst (q := 326) (v := nI 4) G dX8_met_325 (by decide) rfl ?_
                                                refine jv_iret G hr dX8_met_326 (Nat.le_of_ble_eq_true rfl) (Nat.le_of_ble_eq_true rfl) ?_
                                                have hz : (m_met (decide (e = ec)) tsC ts pk su 4 ty n s rc) = (4, none) := by
                                                  unfold m_met m_isC m_bd
                                                  simp only [*, if_true, if_false, Bool.false_eq_true, reduceIte, Option.map_some, decide_true, decide_false, not_true_eq_false, not_false_eq_true, and_true, true_and, and_false, false_and, or_true, true_or, or_false, false_or, Bool.or_true, Bool.or_false, Bool.true_or, Bool.false_or, reduceCtorEq] <;> first | rfl | (simp_all; done) | (split <;> simp_all)
                                                exact ⟨by rw [hz], hrs.tr hsc.rs, by rw [hz]; exact (hsc.x hS 32).trans hran⟩
                                            · omega
                                        · refine jv_iconst (q := 299) (v := nI 3) G dX8_met_298 (by decide) rfl ?_
                                          refine jv_iret G hr dX8_met_299 (Nat.le_of_ble_eq_true rfl) (Nat.le_of_ble_eq_true rfl) ?_
                                          have hz : (m_met (decide (e = ec)) tsC ts pk su 4 ty n s rc) = (3, none) := by
                                            unfold m_met m_isC m_bd
                                            simp only [*, if_true, if_false, Bool.false_eq_true, reduceIte, Option.map_some, decide_true, decide_false, not_true_eq_false, not_false_eq_true, and_true, true_and, and_false, false_and, or_true, true_or, or_false, false_or, Bool.or_true, Bool.or_false, Bool.true_or, Bool.false_or, reduceCtorEq] <;> first | rfl | (simp_all; done) | (split <;> simp_all)
                                          exact ⟨by rw [hz], hrs.tr hsc.rs, by rw [hz]; exact (hsc.x hS 32).trans hran⟩
                                      · exact absurd c792 (jv_nI_m1 (by omega))
                                  · omega
                                · omega
                              · refine jv_bipush (q := 225) (v := nI 6) G dX8_met_223 (by decide) rfl ?_
                                refine jv_iret G hr dX8_met_225 (Nat.le_of_ble_eq_true rfl) (Nat.le_of_ble_eq_true rfl) ?_
                                have hz : (m_met (decide (e = ec)) tsC ts pk su 4 ty n s rc) = (6, none) := by
                                  unfold m_met m_isC m_bd
                                  simp only [*, if_true, if_false, Bool.false_eq_true, reduceIte, Option.map_some, decide_true, decide_false, not_true_eq_false, not_false_eq_true, and_true, true_and, and_false, false_and, or_true, true_or, or_false, false_or, Bool.or_true, Bool.or_false, Bool.true_or, Bool.false_or, reduceCtorEq] <;> first | rfl | (simp_all; done) | (split <;> simp_all)
                                exact ⟨by rw [hz], hrs.tr hsc.rs, by rw [hz]; exact (hsc.x hS 32).trans hran⟩
                          · omega
                        · refine jv_aload_n (q := 176) G 4 dX8_met_175 rfl rfl rfl ?_
                          refine jv_getQ (q := 179) G dX8_met_176 fl_X8_26 rfl (hsc.S hS).1 (rf_p7 (hsc.S hS)) rfl ?_
                          refine jv_iload (q := 181) G 3 dX8_met_179 rfl rfl ?_
                          refine jv_iald (q := 182) G dX8_met_181 (rf_a7 (hsc.S hS)) rfl (by omega) (by decide) (rt_7 (hsc.T hS Tt610)) rfl ?_
                          refine jv_aload_n (q := 183) G 4 dX8_met_182 rfl rfl rfl ?_
                          refine jv_getQ (q := 186) G dX8_met_183 fl_X8_71 rfl (hsc.S hS).1 (rf_p23 (hsc.S hS)) rfl ?_
                          refine jv_iload_n (q := 187) G 5 dX8_met_186 rfl rfl rfl ?_
                          refine jv_iald (q := 188) G dX8_met_187 (rf_a23 (hsc.S hS)) rfl (by omega) (by decide) rfl rfl ?_
                          refine jv_icmp_eq (q := 191) (tgt := 193) G dX8_met_188 (by decide) rfl (fun c838 => ?_) (fun c838 => ?_)
                          · refine jv_iload_n (q := 194) G 7 dX8_met_193 rfl rfl rfl ?_
                            refine jv_iconst (q := 195) (v := nI 2) G dX8_met_194 (by decide) rfl ?_
                            refine jv_icmp_neN (q := 198) (tgt := 208) G dX8_met_195 (by decide) rfl (by omega) (by omega) (fun c839 => ?_) (fun c839 => ?_)
                            · refine jv_iload_n (q := 209) G 7 dX8_met_208 rfl rfl rfl ?_
                              refine jv_iconst (q := 210) (v := nI 4) G dX8_met_209 (by decide) rfl ?_
                              refine jv_icmp_neN (q := 213) (tgt := 226) G dX8_met_210 (by decide) rfl (by omega) (by omega) (fun c840 => ?_) (fun c840 => ?_)
                              · omega
                              · refine jv_aload_n (q := 214) G 4 dX8_met_213 rfl rfl rfl ?_
                                refine jv_getQ (q := 217) G dX8_met_214 fl_X8_20 rfl (hsc.S hS).1 (rf_p5 (hsc.S hS)) rfl ?_
                                refine jv_iload (q := 219) G 3 dX8_met_217 rfl rfl ?_
                                refine jv_zald (q := 220) G dX8_met_219 (rf_a5 (hsc.S hS)) rfl (by omega) (by decide) (rt_5 (hsc.T hS Tt610)) rfl ?_
                                refine jv_if_neB (q := 223) (tgt := 226) G dX8_met_220 (by decide) rfl (fun c841 => ?_) (fun c841 => ?_)
                                · refine jv_iload_n (q := 227) G 7 dX8_met_226 rfl rfl rfl ?_
                                  refine jv_iconst (q := 228) (v := nI 5) G dX8_met_227 (by decide) rfl ?_
                                  refine jv_icmp_neN (q := 231) (tgt := 247) G dX8_met_228 (by decide) rfl (by omega) (by omega) (fun c842 => ?_) (fun c842 => ?_)
                                  · refine jv_iload_n (q := 248) G 7 dX8_met_247 rfl rfl rfl ?_
                                    refine jv_iconst (q := 249) (v := nI 2) G dX8_met_248 (by decide) rfl ?_
                                    refine jv_icmp_geN (q := 252) (tgt := 266) G dX8_met_249 (by decide) rfl (by omega) (by omega) (fun c843 => ?_) (fun c843 => ?_)
                                    · refine jv_aload_n (q := 267) G 4 dX8_met_266 rfl rfl rfl ?_
                                      refine jv_iload_n (q := 268) G 6 dX8_met_267 rfl rfl rfl ?_
                                      refine jv_iload (q := 270) G 3 dX8_met_268 rfl rfl ?_
                                      refine jv_iload (q := 272) G 9 dX8_met_270 rfl rfl ?_
                                      refine jv_iload (q := 274) G 10 dX8_met_272 rfl rfl ?_
                                      refine jv_callV (q := 277) (As := [.int (nI e), .int (nI (10 * e + k609)), .int n, .int s]) (rest := []) G Z ml_X8_186 (r_findMethod (d := 11) hlt hsc hS he hE hV ht610 (hg k609 (by omega))) (hsc.S hS).1 dX8_met_274 rfl (by decide) (by decide) (by decide) (by decide) (Nat.le_of_ble_eq_true rfl) rfl rfl (fun v845 h844 y846 => ?_) (fun _ _ hx => hx.elim)
                                      obtain ⟨rfl, hsc⟩ := y846
                                      show jv_V E 14 h844 0 0 (jv_Q E (fun v h' => v = some (.int (nI (m_met (decide (e = ec)) tsC ts pk su 4 ty n s rc).1)) ∧ rs x q h h' ∧ jv_I h' x 32 = jv_oN (m_met (decide (e = ec)) tsC ts pk su 4 ty n s rc).2) jv_no 0 0) 277 [(11, .int (nI (10 * e + k769))), (10, .int (nI 1)), (9, .int (-1)), (8, .int (nI (10 * e + k609))), (0, .ref x), (1, .int (nI c)), (2, .int (nI e)), (3, .int (nI 4)), (4, .int ty), (5, .int n), (6, .int s), (7, .int rc)] [.int (ffE e (m_fm ts 11 k609 n s))]
                                      rcases Option.eq_none_or_eq_some (m_fm ts 11 k609 n s) with hp850 | ⟨p847, hp850⟩
                                      · refine jv_topI (y := (-1)) (by rw [hp850]; rfl) ?_
                                        refine jv_istore (q := 279) (lo' := [(12, .int (-1)), (11, .int (nI (10 * e + k769))), (10, .int (nI 1)), (9, .int (-1)), (8, .int (nI (10 * e + k609))), (0, .ref x), (1, .int (nI c)), (2, .int (nI e)), (3, .int (nI 4)), (4, .int ty), (5, .int n), (6, .int s), (7, .int rc)]) G dX8_met_277 (by decide) rfl rfl ?_
                                        refine jv_iload (q := 281) G 0 dX8_met_279 rfl rfl ?_
                                        refine jv_iconst (q := 282) (v := (-1)) G dX8_met_281 (by decide) rfl ?_
                                        refine jv_icmp_ne (q := 285) (tgt := 287) G dX8_met_282 (by decide) rfl (fun c851 => ?_) (fun c851 => ?_)
                                        · exact absurd rfl c851
                                        · refine jv_iconst (q := 286) (v := nI 2) G dX8_met_285 (by decide) rfl ?_
                                          refine jv_iret G hr dX8_met_286 (Nat.le_of_ble_eq_true rfl) (Nat.le_of_ble_eq_true rfl) ?_
                                          have hz : (m_met (decide (e = ec)) tsC ts pk su 4 ty n s rc) = (2, none) := by
                                            unfold m_met m_isC m_bd
                                            simp only [*, if_true, if_false, Bool.false_eq_true, reduceIte, Option.map_some, decide_true, decide_false, not_true_eq_false, not_false_eq_true, and_true, true_and, and_false, false_and, or_true, true_or, or_false, false_or, Bool.or_true, Bool.or_false, Bool.true_or, Bool.false_or, reduceCtorEq] <;> first | rfl | (simp_all; done) | (split <;> simp_all)
                                          exact ⟨by rw [hz], hrs.tr hsc.rs, by rw [hz]; exact (hsc.x hS 32).trans hran⟩
                                      · refine jv_topI (y := nI (6 * (10 * e + p847.1) + p847.2)) (by rw [hp850]; rfl) ?_
                                        obtain ⟨t848, ht848, m849, hm849⟩ := m_fm_mem hp850
                                        have Tt848 := (hE.2.2 p847.1 t848 ht848).1
                                        have Ot848 := (hE.2.2 p847.1 t848 ht848).2
                                        have Lt848 := hE.2.1
                                        have lt848 := jv_ltGet ht848
                                        have Mm849 := rt_m Tt848 hm849
                                        have Om849 := Ot848.2.2.2.2.2.2 m849 (List.mem_of_getElem? hm849)
                                        have Lm849 := Ot848.2.2.2.2.2.1
                                        have lm849 := jv_ltGet hm849
                                        have Bm849n := Om849.1; have Bm849s := Om849.2.1; have Bm849a := Om849.2.2.1; have Bt848n := Ot848.1; have Bt848k := Ot848.2.1
                                        refine jv_istore (q := 279) (lo' := [(12, .int (nI (6 * (10 * e + p847.1) + p847.2))), (11, .int (nI (10 * e + k769))), (10, .int (nI 1)), (9, .int (-1)), (8, .int (nI (10 * e + k609))), (0, .ref x), (1, .int (nI c)), (2, .int (nI e)), (3, .int (nI 4)), (4, .int ty), (5, .int n), (6, .int s), (7, .int rc)]) G dX8_met_277 (by decide) rfl rfl ?_
                                        refine jv_iload (q := 281) G 0 dX8_met_279 rfl rfl ?_
                                        refine jv_iconst (q := 282) (v := (-1)) G dX8_met_281 (by decide) rfl ?_
                                        refine jv_icmp_ne (q := 285) (tgt := 287) G dX8_met_282 (by decide) rfl (fun c852 => ?_) (fun c852 => ?_)
                                        · refine jv_aload_n (q := 288) G 5 dX8_met_287 rfl rfl rfl ?_
                                          refine jv_iload_n (q := 289) G 6 dX8_met_288 rfl rfl rfl ?_
                                          refine jv_iload_n (q := 290) G 7 dX8_met_289 rfl rfl rfl ?_
                                          refine jv_iload (q := 292) G 0 dX8_met_290 rfl rfl ?_
                                          refine jv_callV_I (q := 295) (h1 := h844) (As := [.int (nI c), .int (nI e), .int (nI (6 * (10 * e + p847.1) + p847.2))]) (rest := []) (ce' := 0) (sl' := 0) (r := jv_bI (m_mr ts pk su t848 m849)) G Z ml_X8_199 (r_mayReach hlt hsc hS hc he hE hV ht848 hm849 hpk hpk5 hsu hsu16) (hsc.S hS).1 dX8_met_292 rfl (by decide) (by decide) (by decide) (by decide) (Nat.le_of_ble_eq_true rfl) rfl rfl rfl rfl ?_
                                          refine jv_if_neB (q := 298) (tgt := 300) G dX8_met_295 (by decide) rfl (fun c853 => ?_) (fun c853 => ?_)
                                          · refine jv_aload_n (q := 301) G 5 dX8_met_300 rfl rfl rfl ?_
                                            refine jv_getQ (q := 304) G dX8_met_301 fl_X8_56 rfl (hsc.S hS).1 (rf_p17 (hsc.S hS)) rfl ?_
                                            refine jv_iload (q := 306) G 0 dX8_met_304 rfl rfl ?_
                                            refine jv_zald (q := 307) G dX8_met_306 (rf_a17 (hsc.S hS)) rfl (by omega) (by decide) (hsc.M hS Mm849).2.2.2.2.1 rfl ?_
                                            refine jv_iload_n (q := 308) G 8 dX8_met_307 rfl rfl rfl ?_
                                            refine jv_iconst (q := 309) (v := nI 1) G dX8_met_308 (by decide) rfl ?_
                                            refine jv_icmp_eqN (q := 312) (tgt := 317) G dX8_met_309 (by decide) rfl (by omega) (by omega) (fun c854 => ?_) (fun c854 => ?_)
                                            · omega
                                            · refine jv_iload_n (q := 313) G 8 dX8_met_312 rfl rfl rfl ?_
                                              refine jv_iconst (q := 314) (v := nI 3) G dX8_met_313 (by decide) rfl ?_
                                              refine jv_icmp_neN (q := 317) (tgt := 321) G dX8_met_314 (by decide) rfl (by omega) (by omega) (fun c855 => ?_) (fun c855 => ?_)
                                              · refine jv_iconst (q := 322) (v := nI 0) G dX8_met_321 (by decide) rfl ?_
                                                refine jv_icmp_eq (q := 325) (tgt := 327) G dX8_met_322 (by decide) rfl (fun c856 => ?_) (fun c856 => ?_)
                                                · refine jv_iload (q := 329) G 2 dX8_met_327 rfl rfl ?_
                                                  refine jv_if_neN (q := 332) (tgt := 357) G dX8_met_329 (by decide) rfl (by omega) (fun c857 => ?_) (fun c857 => ?_)
                                                  · refine jv_aload_n (q := 358) G 5 dX8_met_357 rfl rfl rfl ?_
                                                    refine jv_getQ (q := 361) G dX8_met_358 fl_X8_20 rfl (hsc.S hS).1 (rf_p5 (hsc.S hS)) rfl ?_
                                                    refine jv_iload (q := 363) G 1 dX8_met_361 rfl rfl ?_
                                                    refine jv_zald (q := 364) G dX8_met_363 (rf_a5 (hsc.S hS)) rfl (by omega) (by decide) (rt_5 (hsc.T hS Tt770)) rfl ?_
                                                    refine jv_if_neB (q := 367) (tgt := 396) G dX8_met_364 (by decide) rfl (fun c858 => ?_) (fun c858 => ?_)
                                                    · refine jv_bipush (q := 398) (v := nI 6) G dX8_met_396 (by decide) rfl ?_
                                                      refine jv_iret G hr dX8_met_398 (Nat.le_of_ble_eq_true rfl) (Nat.le_of_ble_eq_true rfl) ?_
                                                      have hz : (m_met (decide (e = ec)) tsC ts pk su 4 ty n s rc) = (6, none) := by
                                                        unfold m_met m_isC m_bd
                                                        simp only [*, if_true, if_false, Bool.false_eq_true, reduceIte, Option.map_some, decide_true, decide_false, not_true_eq_false, not_false_eq_true, and_true, true_and, and_false, false_and, or_true, true_or, or_false, false_or, Bool.or_true, Bool.or_false, Bool.true_or, Bool.false_or, reduceCtorEq] <;> first | rfl | (simp_all; done) | (split <;> simp_all)
                                                      exact ⟨by rw [hz], hrs.tr hsc.rs, by rw [hz]; exact (hsc.x hS 32).trans hran⟩
                                                    · refine jv_aload_n (q := 368) G 5 dX8_met_367 rfl rfl rfl ?_
                                                      refine jv_getQ (q := 371) G dX8_met_368 fl_X8_23 rfl (hsc.S hS).1 (rf_p6 (hsc.S hS)) rfl ?_
                                                      refine jv_iload (q := 373) G 1 dX8_met_371 rfl rfl ?_
                                                      refine jv_zald (q := 374) G dX8_met_373 (rf_a6 (hsc.S hS)) rfl (by omega) (by decide) (rt_6 (hsc.T hS Tt770)) rfl ?_
                                                      refine jv_if_neB (q := 377) (tgt := 396) G dX8_met_374 (by decide) rfl (fun c859 => ?_) (fun c859 => ?_)
                                                      · refine jv_bipush (q := 398) (v := nI 6) G dX8_met_396 (by decide) rfl ?_
                                                        refine jv_iret G hr dX8_met_398 (Nat.le_of_ble_eq_true rfl) (Nat.le_of_ble_eq_true rfl) ?_
                                                        have hz : (m_met (decide (e = ec)) tsC ts pk su 4 ty n s rc) = (6, none) := by
                                                          unfold m_met m_isC m_bd
                                                          simp only [*, if_true, if_false, Bool.false_eq_true, reduceIte, Option.map_some, decide_true, decide_false, not_true_eq_false, not_false_eq_true, and_true, true_and, and_false, false_and, or_true, true_or, or_false, false_or, Bool.or_true, Bool.or_false, Bool.true_or, Bool.false_or, reduceCtorEq] <;> first | rfl | (simp_all; done) | (split <;> simp_all)
                                                        exact ⟨by rw [hz], hrs.tr hsc.rs, by rw [hz]; exact (hsc.x hS 32).trans hran⟩
                                                      · refine jv_iload (q := 379) G 1 dX8_met_377 rfl rfl ?_
                                                        refine jv_iload (q := 381) G 4 dX8_met_379 rfl rfl ?_
                                                        refine jv_icmp_eqN (q := 384) (tgt := 399) G dX8_met_381 (by decide) rfl (by omega) (by omega) (fun c860 => ?_) (fun c860 => ?_)
                                                        · refine jv_aload_n (q := 400) G 5 dX8_met_399 rfl rfl rfl ?_
                                                          refine jv_iload_n (q := 401) G 7 dX8_met_400 rfl rfl rfl ?_
                                                          refine jv_iload (q := 403) G 0 dX8_met_401 rfl rfl ?_
                                                          refine jv_iload (q := 405) G 1 dX8_met_403 rfl rfl ?_
                                                          refine jv_callV (q := 408) (As := [.int (nI e), .int (nI (6 * (10 * e + p847.1) + p847.2)), .int (nI (10 * e + k769))]) (rest := []) G Z ml_X8_189 (r_selected (d := 11) hlt hsc hS he hE hV ht848 hm849 ht770 (hg k769 (by omega))) (hsc.S hS).1 dX8_met_405 rfl (by decide) (by decide) (by decide) (by decide) (Nat.le_of_ble_eq_true rfl) rfl rfl (fun v862 h861 y863 => ?_) (fun _ _ hx => hx.elim)
                                                          obtain ⟨rfl, hsc⟩ := y863
                                                          show jv_V E 14 h861 0 0 (jv_Q E (fun v h' => v = some (.int (nI (m_met (decide (e = ec)) tsC ts pk su 4 ty n s rc).1)) ∧ rs x q h h' ∧ jv_I h' x 32 = jv_oN (m_met (decide (e = ec)) tsC ts pk su 4 ty n s rc).2) jv_no 0 0) 408 [(12, .int (nI (6 * (10 * e + p847.1) + p847.2))), (11, .int (nI (10 * e + k769))), (10, .int (nI 1)), (9, .int (-1)), (8, .int (nI (10 * e + k609))), (0, .ref x), (1, .int (nI c)), (2, .int (nI e)), (3, .int (nI 4)), (4, .int ty), (5, .int n), (6, .int s), (7, .int rc)] [.int (ffE e (m_sl ts 11 t848 m849 p847.1 p847.2 k769))]
                                                          rcases Option.eq_none_or_eq_some (m_sl ts 11 t848 m849 p847.1 p847.2 k769) with hp867 | ⟨p864, hp867⟩
                                                          · refine jv_topI (y := (-1)) (by rw [hp867]; rfl) ?_
                                                            refine jv_istore (q := 410) (lo' := [(13, .int (-1)), (12, .int (nI (6 * (10 * e + p847.1) + p847.2))), (11, .int (nI (10 * e + k769))), (10, .int (nI 1)), (9, .int (-1)), (8, .int (nI (10 * e + k609))), (0, .ref x), (1, .int (nI c)), (2, .int (nI e)), (3, .int (nI 4)), (4, .int ty), (5, .int n), (6, .int s), (7, .int rc)]) G dX8_met_408 (by decide) rfl rfl ?_
                                                            refine jv_iload (q := 412) G 0 dX8_met_410 rfl rfl ?_
                                                            refine jv_iconst (q := 413) (v := (-1)) G dX8_met_412 (by decide) rfl ?_
                                                            refine jv_icmp_eq (q := 416) (tgt := 426) G dX8_met_413 (by decide) rfl (fun c868 => ?_) (fun c868 => ?_)
                                                            · refine jv_iconst (q := 427) (v := nI 5) G dX8_met_426 (by decide) rfl ?_
                                                              refine jv_iret G hr dX8_met_427 (Nat.le_of_ble_eq_true rfl) (Nat.le_of_ble_eq_true rfl) ?_
                                                              have hz : (m_met (decide (e = ec)) tsC ts pk su 4 ty n s rc) = (5, none) := by
                                                                unfold m_met m_isC m_bd
                                                                simp only [*, if_true, if_false, Bool.false_eq_true, reduceIte, Option.map_some, decide_true, decide_false, not_true_eq_false, not_false_eq_true, and_true, true_and, and_false, false_and, or_true, true_or, or_false, false_or, Bool.or_true, Bool.or_false, Bool.true_or, Bool.false_or, reduceCtorEq] <;> first | rfl | (simp_all; done) | (split <;> simp_all)
                                                              exact ⟨by rw [hz], hrs.tr hsc.rs, by rw [hz]; exact (hsc.x hS 32).trans hran⟩
                                                            · exact absurd rfl c868
                                                          · refine jv_topI (y := nI (6 * (10 * e + p864.1) + p864.2)) (by rw [hp867]; rfl) ?_
                                                            obtain ⟨t865, ht865, m866, hm866⟩ := m_sl_mem ht848 hm849 hp867
                                                            have Tt865 := (hE.2.2 p864.1 t865 ht865).1
                                                            have Ot865 := (hE.2.2 p864.1 t865 ht865).2
                                                            have Lt865 := hE.2.1
                                                            have lt865 := jv_ltGet ht865
                                                            have Mm866 := rt_m Tt865 hm866
                                                            have Om866 := Ot865.2.2.2.2.2.2 m866 (List.mem_of_getElem? hm866)
                                                            have Lm866 := Ot865.2.2.2.2.2.1
                                                            have lm866 := jv_ltGet hm866
                                                            have Bm866n := Om866.1; have Bm866s := Om866.2.1; have Bm866a := Om866.2.2.1; have Bt865n := Ot865.1; have Bt865k := Ot865.2.1
                                                            refine jv_istore (q := 410) (lo' := [(13, .int (nI (6 * (10 * e + p864.1) + p864.2))), (12, .int (nI (6 * (10 * e + p847.1) + p847.2))), (11, .int (nI (10 * e + k769))), (10, .int (nI 1)), (9, .int (-1)), (8, .int (nI (10 * e + k609))), (0, .ref x), (1, .int (nI c)), (2, .int (nI e)), (3, .int (nI 4)), (4, .int ty), (5, .int n), (6, .int s), (7, .int rc)]) G dX8_met_408 (by decide) rfl rfl ?_
                                                            refine jv_iload (q := 412) G 0 dX8_met_410 rfl rfl ?_
                                                            refine jv_iconst (q := 413) (v := (-1)) G dX8_met_412 (by decide) rfl ?_
                                                            refine jv_icmp_eq (q := 416) (tgt := 426) G dX8_met_413 (by decide) rfl (fun c869 => ?_) (fun c869 => ?_)
                                                            · exact absurd c869 (jv_nI_m1 (by omega))
                                                            · refine jv_aload_n (q := 417) G 6 dX8_met_416 rfl rfl rfl ?_
                                                              refine jv_getQ (q := 420) G dX8_met_417 fl_X8_59 rfl (hsc.S hS).1 (rf_p18 (hsc.S hS)) rfl ?_
                                                              refine jv_iload (q := 422) G 0 dX8_met_420 rfl rfl ?_
                                                              refine jv_iald (q := 423) G dX8_met_422 (rf_a18 (hsc.S hS)) rfl (by omega) (by decide) (hsc.M hS Mm866).2.2.2.2.2.1 rfl ?_
                                                              refine jv_if_ge (q := 426) (tgt := 428) G dX8_met_423 (by decide) rfl (fun c870 => ?_) (fun c870 => ?_)
                                                              · refine jv_iload_n (q := 429) G 9 dX8_met_428 rfl rfl rfl ?_
                                                                refine jv_iconst (q := 430) (v := nI 4) G dX8_met_429 (by decide) rfl ?_
                                                                refine jv_icmp_neN (q := 433) (tgt := 446) G dX8_met_430 (by decide) rfl (by omega) (by omega) (fun c871 => ?_) (fun c871 => ?_)
                                                                · omega
                                                                · refine jv_aload_n (q := 434) G 6 dX8_met_433 rfl rfl rfl ?_
                                                                  refine jv_getQ (q := 437) G dX8_met_434 fl_X8_53 rfl (hsc.S hS).1 (rf_p16 (hsc.S hS)) rfl ?_
                                                                  refine jv_iload (q := 439) G 0 dX8_met_437 rfl rfl ?_
                                                                  refine jv_iald (q := 440) G dX8_met_439 (rf_a16 (hsc.S hS)) rfl (by omega) (by decide) (hsc.M hS Mm866).2.2.2.1 rfl ?_
                                                                  refine jv_iconst (q := 441) (v := nI 3) G dX8_met_440 (by decide) rfl ?_
                                                                  refine jv_icmp_eqN (q := 444) (tgt := 446) G dX8_met_441 (by decide) rfl (by omega) (by omega) (fun c872 => ?_) (fun c872 => ?_)
                                                                  · refine jv_aload_n (q := 447) G 6 dX8_met_446 rfl rfl rfl ?_
                                                                    refine jv_aload_n (q := 448) G 6 dX8_met_447 rfl rfl rfl ?_
                                                                    refine jv_getQ (q := 451) G dX8_met_448 fl_X8_17 rfl (hsc.S hS).1 (rf_p4 (hsc.S hS)) rfl ?_
                                                                    refine jv_iload (q := 453) G 0 dX8_met_451 rfl rfl ?_
                                                                    refine jv_callS_I (q := 456) (h1 := h861) (As := [.int (nI (6 * (10 * e + p864.1) + p864.2))]) (rest := [.ref (q 4), .ref x]) (ce' := 0) (sl' := 0) (r := nI ((6 * (10 * e + p864.1) + p864.2) / 6)) G Z ml_X8_183 (r_typeOf hlt (by omega)) dX8_met_453 rfl (by decide) (by decide) (by decide) (by decide) (Nat.le_of_ble_eq_true rfl) rfl rfl rfl rfl ?_
                                                                    refine jv_topI (y := nI (10 * e + p864.1)) (congrArg nI (by omega)) ?_
                                                                    refine jv_iald (q := 457) G dX8_met_456 (rf_a4 (hsc.S hS)) rfl (by omega) (by decide) (rt_4 (hsc.T hS Tt865)) rfl ?_
                                                                    refine jv_putI (q := 460) G dX8_met_457 fl_X8_192 rfl (hsc.S hS).1 rfl ?_
                                                                    have hr1 : rs x q h861 (jv_wI h861 x 32 (nI (mt_n t865))) := rs.rf.wI (nI (mt_n t865)) (Or.inl ⟨rfl, Or.inr (Or.inl rfl)⟩)
                                                                    have hran : jv_I (jv_wI h861 x 32 (nI (mt_n t865))) x 32 = (nI (mt_n t865)) := jv_I_self _ _ _ _
                                                                    have hSb := hsc.S hS
                                                                    have hE := hr1.E hSb (hsc.E hS hE)
                                                                    have hV := hr1.V hSb (hsc.V hS hV)
                                                                    have hEC := hr1.E hSb (hsc.E hS hEC)
                                                                    have hVC := hr1.V hSb (hsc.V hS hVC)
                                                                    have hce := (wx_I hSb 22 (by decide) rfl 32 c (nI (mt_n t865))).trans ((hsc.I2 hS 22 (by decide) rfl (by decide) c).trans hce)
                                                                    have hpk := (wx_I hSb 23 (by decide) rfl 32 c (nI (mt_n t865))).trans ((hsc.I2 hS 23 (by decide) rfl (by decide) c).trans hpk)
                                                                    have hsu := (wx_I hSb 24 (by decide) rfl 32 c (nI (mt_n t865))).trans ((hsc.I2 hS 24 (by decide) rfl (by decide) c).trans hsu)
                                                                    have hrs := (hrs.tr hsc.rs).tr hr1
                                                                    have hS := hr1.S hSb
                                                                    generalize jv_wI h861 x 32 (nI (mt_n t865)) = h873 at hran hE hV hEC hVC hce hpk hsu hrs hS ⊢
                                                                    have hsc : sc x q h873 h873 := sc.rf
                                                                    refine jv_iload_n (q := 461) G 8 dX8_met_460 rfl rfl rfl ?_
                                                                    refine jv_aload_n (q := 462) G 6 dX8_met_461 rfl rfl rfl ?_
                                                                    refine jv_getQ (q := 465) G dX8_met_462 fl_X8_68 rfl (hsc.S hS).1 (rf_p22 (hsc.S hS)) rfl ?_
                                                                    refine jv_iload_n (q := 466) G 7 dX8_met_465 rfl rfl rfl ?_
                                                                    refine jv_iald (q := 467) G dX8_met_466 (rf_a22 (hsc.S hS)) rfl (by omega) (by decide) ((hsc.I2 hS 22 (by decide) rfl (by decide) c).trans hce) rfl ?_
                                                                    refine jv_icmp_eqN (q := 470) (tgt := 495) G dX8_met_467 (by decide) rfl (by omega) (by omega) (fun c874 => ?_) (fun c874 => ?_)
                                                                    · refine jv_iconst (q := 496) (v := nI 0) G dX8_met_495 (by decide) rfl ?_
                                                                      refine jv_iret G hr dX8_met_496 (Nat.le_of_ble_eq_true rfl) (Nat.le_of_ble_eq_true rfl) ?_
                                                                      have hz : (m_met (decide (e = ec)) tsC ts pk su 4 ty n s rc) = (0, some (mt_n t865)) := by
                                                                        unfold m_met m_isC m_bd
                                                                        simp only [*, if_true, if_false, Bool.false_eq_true, reduceIte, Option.map_some, decide_true, decide_false, not_true_eq_false, not_false_eq_true, and_true, true_and, and_false, false_and, or_true, true_or, or_false, false_or, Bool.or_true, Bool.or_false, Bool.true_or, Bool.false_or, reduceCtorEq] <;> first | rfl | (simp_all; done) | (split <;> simp_all)
                                                                      exact ⟨by rw [hz], hrs.tr hsc.rs, by rw [hz]; exact (hsc.x hS 32).trans hran⟩
                                                                    · refine jv_aload_n (q := 471) G 6 dX8_met_470 rfl rfl rfl ?_
                                                                      refine jv_getI (q := 474) G dX8_met_471 fl_X8_192 rfl (hsc.S hS).1 ((hsc.x hS 32).trans hran) rfl ?_
                                                                      refine jv_aload_n (q := 475) G 6 dX8_met_474 rfl rfl rfl ?_
                                                                      refine jv_iload_n (q := 476) G 7 dX8_met_475 rfl rfl rfl ?_
                                                                      refine jv_iload (q := 478) G 10 dX8_met_476 rfl rfl ?_
                                                                      refine jv_iload (q := 480) G 11 dX8_met_478 rfl rfl ?_
                                                                      refine jv_iload (q := 482) G 12 dX8_met_480 rfl rfl ?_
                                                                      refine jv_iload (q := 484) G 13 dX8_met_482 rfl rfl ?_
                                                                      refine jv_callV (q := 487) (As := [.int (nI c), .int ty, .int n, .int s, .int rc]) (rest := [.int (nI (mt_n t865))]) G Z ml_X8_202 (r_ownRun hlt hsc hS hc hec hEC hVC hce hgC) (hsc.S hS).1 dX8_met_484 rfl (by decide) (by decide) (by decide) (by decide) (Nat.le_of_ble_eq_true rfl) rfl rfl (fun v876 h875 y877 => ?_) (fun _ _ hx => hx.elim)
                                                                      obtain ⟨rfl, hsc⟩ := y877
                                                                      show jv_V E 14 h875 0 0 (jv_Q E (fun v h' => v = some (.int (nI (m_met (decide (e = ec)) tsC ts pk su 4 ty n s rc).1)) ∧ rs x q h h' ∧ jv_I h' x 32 = jv_oN (m_met (decide (e = ec)) tsC ts pk su 4 ty n s rc).2) jv_no 0 0) 487 [(13, .int (nI (6 * (10 * e + p864.1) + p864.2))), (12, .int (nI (6 * (10 * e + p847.1) + p847.2))), (11, .int (nI (10 * e + k769))), (10, .int (nI 1)), (9, .int (-1)), (8, .int (nI (10 * e + k609))), (0, .ref x), (1, .int (nI c)), (2, .int (nI e)), (3, .int (nI 4)), (4, .int ty), (5, .int n), (6, .int s), (7, .int rc)] [.int (jv_oN (m_orn tsC ty n s rc)), .int (nI (mt_n t865))]
                                                                      refine jv_icmp_eq (q := 490) (tgt := 495) G dX8_met_487 (by decide) rfl (fun c878 => ?_) (fun c878 => ?_)
                                                                      · refine jv_iconst (q := 496) (v := nI 0) G dX8_met_495 (by decide) rfl ?_
                                                                        refine jv_iret G hr dX8_met_496 (Nat.le_of_ble_eq_true rfl) (Nat.le_of_ble_eq_true rfl) ?_
                                                                        have hz : (m_met (decide (e = ec)) tsC ts pk su 4 ty n s rc) = (0, some (mt_n t865)) := by
                                                                          unfold m_met m_isC m_bd
                                                                          simp only [*, if_true, if_false, Bool.false_eq_true, reduceIte, Option.map_some, decide_true, decide_false, not_true_eq_false, not_false_eq_true, and_true, true_and, and_false, false_and, or_true, true_or, or_false, false_or, Bool.or_true, Bool.or_false, Bool.true_or, Bool.false_or, reduceCtorEq] <;> first | rfl | (simp_all; done) | (split <;> simp_all)
                                                                        exact ⟨by rw [hz], hrs.tr hsc.rs, by rw [hz]; exact (hsc.x hS 32).trans hran⟩
                                                                      · refine jv_bipush (q := 492) (v := nI 8) G dX8_met_490 (by decide) rfl ?_
                                                                        refine jv_goto (q := 496) G dX8_met_492 (by decide) ?_
                                                                        refine jv_iret G hr dX8_met_496 (Nat.le_of_ble_eq_true rfl) (Nat.le_of_ble_eq_true rfl) ?_
                                                                        have hz : (m_met (decide (e = ec)) tsC ts pk su 4 ty n s rc) = (8, some (mt_n t865)) := by
                                                                          unfold m_met m_isC m_bd
                                                                          simp only [*, if_true, if_false, Bool.false_eq_true, reduceIte, Option.map_some, decide_true, decide_false, not_true_eq_false, not_false_eq_true, and_true, true_and, and_false, false_and, or_true, true_or, or_false, false_or, Bool.or_true, Bool.or_false, Bool.true_or, Bool.false_or, reduceCtorEq] <;> first | rfl | (simp_all; done) | (split <;> simp_all)
                                                                        exact ⟨by rw [hz], hrs.tr hsc.rs, by rw [hz]; exact (hsc.x hS 32).trans hran⟩
                                                                  · refine jv_iconst (q := 445) (v := nI 3) G dX8_met_444 (by decide) rfl ?_
                                                                    refine jv_iret G hr dX8_met_445 (Nat.le_of_ble_eq_true rfl) (Nat.le_of_ble_eq_true rfl) ?_
                                                                    have hz : (m_met (decide (e = ec)) tsC ts pk su 4 ty n s rc) = (3, none) := by
                                                                      unfold m_met m_isC m_bd
                                                                      simp only [*, if_true, if_false, Bool.false_eq_true, reduceIte, Option.map_some, decide_true, decide_false, not_true_eq_false, not_false_eq_true, and_true, true_and, and_false, false_and, or_true, true_or, or_false, false_or, Bool.or_true, Bool.or_false, Bool.true_or, Bool.false_or, reduceCtorEq] <;> first | rfl | (simp_all; done) | (split <;> simp_all)
                                                                    exact ⟨by rw [hz], hrs.tr hsc.rs, by rw [hz]; exact (hsc.x hS 32).trans hran⟩
                                                              · refine jv_iconst (q := 427) (v := nI 5) G dX8_met_426 (by decide) rfl ?_
                                                                refine jv_iret G hr dX8_met_427 (Nat.le_of_ble_eq_true rfl) (Nat.le_of_ble_eq_true rfl) ?_
                                                                have hz : (m_met (decide (e = ec)) tsC ts pk su 4 ty n s rc) = (5, none) := by
                                                                  unfold m_met m_isC m_bd
                                                                  simp only [*, if_true, if_false, Bool.false_eq_true, reduceIte, Option.map_some, decide_true, decide_false, not_true_eq_false, not_false_eq_true, and_true, true_and, and_false, false_and, or_true, true_or, or_false, false_or, Bool.or_true, Bool.or_false, Bool.true_or, Bool.false_or, reduceCtorEq] <;> first | rfl | (simp_all; done) | (split <;> simp_all)
                                                                exact ⟨by rw [hz], hrs.tr hsc.rs, by rw [hz]; exact (hsc.x hS 32).trans hran⟩
                                                        · refine jv_aload_n (q := 385) G 5 dX8_met_384 rfl rfl rfl ?_
                                                          refine jv_iload_n (q := 386) G 7 dX8_met_385 rfl rfl rfl ?_
                                                          refine jv_iload (q := 388) G 9 dX8_met_386 rfl rfl ?_
                                                          refine jv_iload (q := 390) G 12 dX8_met_388 rfl rfl ?_
                                                          refine jv_callV_I (q := 393) (h1 := h844) (As := [.int (nI e), .int ty, .int rc]) (rest := []) (ce' := 0) (sl' := 0) (r := jv_bI (m_isA ts ty rc)) G Z ml_X8_167 (r_isAbove hlt hsc hS he hV) (hsc.S hS).1 dX8_met_390 rfl (by decide) (by decide) (by decide) (by decide) (Nat.le_of_ble_eq_true rfl) rfl rfl rfl rfl ?_
                                                          refine jv_if_neB (q := 396) (tgt := 399) G dX8_met_393 (by decide) rfl (fun c879 => ?_) (fun c879 => ?_)
                                                          · refine jv_aload_n (q := 400) G 5 dX8_met_399 rfl rfl rfl ?_
                                                            refine jv_iload_n (q := 401) G 7 dX8_met_400 rfl rfl rfl ?_
                                                            refine jv_iload (q := 403) G 0 dX8_met_401 rfl rfl ?_
                                                            refine jv_iload (q := 405) G 1 dX8_met_403 rfl rfl ?_
                                                            refine jv_callV (q := 408) (As := [.int (nI e), .int (nI (6 * (10 * e + p847.1) + p847.2)), .int (nI (10 * e + k769))]) (rest := []) G Z ml_X8_189 (r_selected (d := 11) hlt hsc hS he hE hV ht848 hm849 ht770 (hg k769 (by omega))) (hsc.S hS).1 dX8_met_405 rfl (by decide) (by decide) (by decide) (by decide) (Nat.le_of_ble_eq_true rfl) rfl rfl (fun v881 h880 y882 => ?_) (fun _ _ hx => hx.elim)
                                                            obtain ⟨rfl, hsc⟩ := y882
                                                            show jv_V E 14 h880 0 0 (jv_Q E (fun v h' => v = some (.int (nI (m_met (decide (e = ec)) tsC ts pk su 4 ty n s rc).1)) ∧ rs x q h h' ∧ jv_I h' x 32 = jv_oN (m_met (decide (e = ec)) tsC ts pk su 4 ty n s rc).2) jv_no 0 0) 408 [(12, .int (nI (6 * (10 * e + p847.1) + p847.2))), (11, .int (nI (10 * e + k769))), (10, .int (nI 1)), (9, .int (-1)), (8, .int (nI (10 * e + k609))), (0, .ref x), (1, .int (nI c)), (2, .int (nI e)), (3, .int (nI 4)), (4, .int ty), (5, .int n), (6, .int s), (7, .int rc)] [.int (ffE e (m_sl ts 11 t848 m849 p847.1 p847.2 k769))]
                                                            rcases Option.eq_none_or_eq_some (m_sl ts 11 t848 m849 p847.1 p847.2 k769) with hp886 | ⟨p883, hp886⟩
                                                            · refine jv_topI (y := (-1)) (by rw [hp886]; rfl) ?_
                                                              refine jv_istore (q := 410) (lo' := [(13, .int (-1)), (12, .int (nI (6 * (10 * e + p847.1) + p847.2))), (11, .int (nI (10 * e + k769))), (10, .int (nI 1)), (9, .int (-1)), (8, .int (nI (10 * e + k609))), (0, .ref x), (1, .int (nI c)), (2, .int (nI e)), (3, .int (nI 4)), (4, .int ty), (5, .int n), (6, .int s), (7, .int rc)]) G dX8_met_408 (by decide) rfl rfl ?_
                                                              refine jv_iload (q := 412) G 0 dX8_met_410 rfl rfl ?_
                                                              refine jv_iconst (q := 413) (v := (-1)) G dX8_met_412 (by decide) rfl ?_
                                                              refine jv_icmp_eq (q := 416) (tgt := 426) G dX8_met_413 (by decide) rfl (fun c887 => ?_) (fun c887 => ?_)
                                                              · refine jv_iconst (q := 427) (v := nI 5) G dX8_met_426 (by decide) rfl ?_
                                                                refine jv_iret G hr dX8_met_427 (Nat.le_of_ble_eq_true rfl) (Nat.le_of_ble_eq_true rfl) ?_
                                                                have hz : (m_met (decide (e = ec)) tsC ts pk su 4 ty n s rc) = (5, none) := by
                                                                  unfold m_met m_isC m_bd
                                                                  simp only [*, if_true, if_false, Bool.false_eq_true, reduceIte, Option.map_some, decide_true, decide_false, not_true_eq_false, not_false_eq_true, and_true, true_and, and_false, false_and, or_true, true_or, or_false, false_or, Bool.or_true, Bool.or_false, Bool.true_or, Bool.false_or, reduceCtorEq] <;> first | rfl | (simp_all; done) | (split <;> simp_all)
                                                                exact ⟨by rw [hz], hrs.tr hsc.rs, by rw [hz]; exact (hsc.x hS 32).trans hran⟩
                                                              · exact absurd rfl c887
                                                            · refine jv_topI (y := nI (6 * (10 * e + p883.1) + p883.2)) (by rw [hp886]; rfl) ?_
                                                              obtain ⟨t884, ht884, m885, hm885⟩ := m_sl_mem ht848 hm849 hp886
                                                              have Tt884 := (hE.2.2 p883.1 t884 ht884).1
                                                              have Ot884 := (hE.2.2 p883.1 t884 ht884).2
                                                              have Lt884 := hE.2.1
                                                              have lt884 := jv_ltGet ht884
                                                              have Mm885 := rt_m Tt884 hm885
                                                              have Om885 := Ot884.2.2.2.2.2.2 m885 (List.mem_of_getElem? hm885)
                                                              have Lm885 := Ot884.2.2.2.2.2.1
                                                              have lm885 := jv_ltGet hm885
                                                              have Bm885n := Om885.1; have Bm885s := Om885.2.1; have Bm885a := Om885.2.2.1; have Bt884n := Ot884.1; have Bt884k := Ot884.2.1
                                                              refine jv_istore (q := 410) (lo' := [(13, .int (nI (6 * (10 * e + p883.1) + p883.2))), (12, .int (nI (6 * (10 * e + p847.1) + p847.2))), (11, .int (nI (10 * e + k769))), (10, .int (nI 1)), (9, .int (-1)), (8, .int (nI (10 * e + k609))), (0, .ref x), (1, .int (nI c)), (2, .int (nI e)), (3, .int (nI 4)), (4, .int ty), (5, .int n), (6, .int s), (7, .int rc)]) G dX8_met_408 (by decide) rfl rfl ?_
                                                              refine jv_iload (q := 412) G 0 dX8_met_410 rfl rfl ?_
                                                              refine jv_iconst (q := 413) (v := (-1)) G dX8_met_412 (by decide) rfl ?_
                                                              refine jv_icmp_eq (q := 416) (tgt := 426) G dX8_met_413 (by decide) rfl (fun c888 => ?_) (fun c888 => ?_)
                                                              · exact absurd c888 (jv_nI_m1 (by omega))
                                                              · refine jv_aload_n (q := 417) G 6 dX8_met_416 rfl rfl rfl ?_
                                                                refine jv_getQ (q := 420) G dX8_met_417 fl_X8_59 rfl (hsc.S hS).1 (rf_p18 (hsc.S hS)) rfl ?_
                                                                refine jv_iload (q := 422) G 0 dX8_met_420 rfl rfl ?_
                                                                refine jv_iald (q := 423) G dX8_met_422 (rf_a18 (hsc.S hS)) rfl (by omega) (by decide) (hsc.M hS Mm885).2.2.2.2.2.1 rfl ?_
                                                                refine jv_if_ge (q := 426) (tgt := 428) G dX8_met_423 (by decide) rfl (fun c889 => ?_) (fun c889 => ?_)
                                                                · refine jv_iload_n (q := 429) G 9 dX8_met_428 rfl rfl rfl ?_
                                                                  refine jv_iconst (q := 430) (v := nI 4) G dX8_met_429 (by decide) rfl ?_
                                                                  refine jv_icmp_neN (q := 433) (tgt := 446) G dX8_met_430 (by decide) rfl (by omega) (by omega) (fun c890 => ?_) (fun c890 => ?_)
                                                                  · omega
                                                                  · refine jv_aload_n (q := 434) G 6 dX8_met_433 rfl rfl rfl ?_
                                                                    refine jv_getQ (q := 437) G dX8_met_434 fl_X8_53 rfl (hsc.S hS).1 (rf_p16 (hsc.S hS)) rfl ?_
                                                                    refine jv_iload (q := 439) G 0 dX8_met_437 rfl rfl ?_
                                                                    refine jv_iald (q := 440) G dX8_met_439 (rf_a16 (hsc.S hS)) rfl (by omega) (by decide) (hsc.M hS Mm885).2.2.2.1 rfl ?_
                                                                    refine jv_iconst (q := 441) (v := nI 3) G dX8_met_440 (by decide) rfl ?_
                                                                    refine jv_icmp_eqN (q := 444) (tgt := 446) G dX8_met_441 (by decide) rfl (by omega) (by omega) (fun c891 => ?_) (fun c891 => ?_)
                                                                    · refine jv_aload_n (q := 447) G 6 dX8_met_446 rfl rfl rfl ?_
                                                                      refine jv_aload_n (q := 448) G 6 dX8_met_447 rfl rfl rfl ?_
                                                                      refine jv_getQ (q := 451) G dX8_met_448 fl_X8_17 rfl (hsc.S hS).1 (rf_p4 (hsc.S hS)) rfl ?_
                                                                      refine jv_iload (q := 453) G 0 dX8_met_451 rfl rfl ?_
                                                                      refine jv_callS_I (q := 456) (h1 := h880) (As := [.int (nI (6 * (10 * e + p883.1) + p883.2))]) (rest := [.ref (q 4), .ref x]) (ce' := 0) (sl' := 0) (r := nI ((6 * (10 * e + p883.1) + p883.2) / 6)) G Z ml_X8_183 (r_typeOf hlt (by omega)) dX8_met_453 rfl (by decide) (by decide) (by decide) (by decide) (Nat.le_of_ble_eq_true rfl) rfl rfl rfl rfl ?_
                                                                      refine jv_topI (y := nI (10 * e + p883.1)) (congrArg nI (by omega)) ?_
                                                                      refine jv_iald (q := 457) G dX8_met_456 (rf_a4 (hsc.S hS)) rfl (by omega) (by decide) (rt_4 (hsc.T hS Tt884)) rfl ?_
                                                                      refine jv_putI (q := 460) G dX8_met_457 fl_X8_192 rfl (hsc.S hS).1 rfl ?_
                                                                      have hr1 : rs x q h880 (jv_wI h880 x 32 (nI (mt_n t884))) := rs.rf.wI (nI (mt_n t884)) (Or.inl ⟨rfl, Or.inr (Or.inl rfl)⟩)
                                                                      have hran : jv_I (jv_wI h880 x 32 (nI (mt_n t884))) x 32 = (nI (mt_n t884)) := jv_I_self _ _ _ _
                                                                      have hSb := hsc.S hS
                                                                      have hE := hr1.E hSb (hsc.E hS hE)
                                                                      have hV := hr1.V hSb (hsc.V hS hV)
                                                                      have hEC := hr1.E hSb (hsc.E hS hEC)
                                                                      have hVC := hr1.V hSb (hsc.V hS hVC)
                                                                      have hce := (wx_I hSb 22 (by decide) rfl 32 c (nI (mt_n t884))).trans ((hsc.I2 hS 22 (by decide) rfl (by decide) c).trans hce)
                                                                      have hpk := (wx_I hSb 23 (by decide) rfl 32 c (nI (mt_n t884))).trans ((hsc.I2 hS 23 (by decide) rfl (by decide) c).trans hpk)
                                                                      have hsu := (wx_I hSb 24 (by decide) rfl 32 c (nI (mt_n t884))).trans ((hsc.I2 hS 24 (by decide) rfl (by decide) c).trans hsu)
                                                                      have hrs := (hrs.tr hsc.rs).tr hr1
                                                                      have hS := hr1.S hSb
                                                                      generalize jv_wI h880 x 32 (nI (mt_n t884)) = h892 at hran hE hV hEC hVC hce hpk hsu hrs hS ⊢
                                                                      have hsc : sc x q h892 h892 := sc.rf
                                                                      refine jv_iload_n (q := 461) G 8 dX8_met_460 rfl rfl rfl ?_
                                                                      refine jv_aload_n (q := 462) G 6 dX8_met_461 rfl rfl rfl ?_
                                                                      refine jv_getQ (q := 465) G dX8_met_462 fl_X8_68 rfl (hsc.S hS).1 (rf_p22 (hsc.S hS)) rfl ?_
                                                                      refine jv_iload_n (q := 466) G 7 dX8_met_465 rfl rfl rfl ?_
                                                                      refine jv_iald (q := 467) G dX8_met_466 (rf_a22 (hsc.S hS)) rfl (by omega) (by decide) ((hsc.I2 hS 22 (by decide) rfl (by decide) c).trans hce) rfl ?_
                                                                      refine jv_icmp_eqN (q := 470) (tgt := 495) G dX8_met_467 (by decide) rfl (by omega) (by omega) (fun c893 => ?_) (fun c893 => ?_)
                                                                      · refine jv_iconst (q := 496) (v := nI 0) G dX8_met_495 (by decide) rfl ?_
                                                                        refine jv_iret G hr dX8_met_496 (Nat.le_of_ble_eq_true rfl) (Nat.le_of_ble_eq_true rfl) ?_
                                                                        have hz : (m_met (decide (e = ec)) tsC ts pk su 4 ty n s rc) = (0, some (mt_n t884)) := by
                                                                          unfold m_met m_isC m_bd
                                                                          simp only [*, if_true, if_false, Bool.false_eq_true, reduceIte, Option.map_some, decide_true, decide_false, not_true_eq_false, not_false_eq_true, and_true, true_and, and_false, false_and, or_true, true_or, or_false, false_or, Bool.or_true, Bool.or_false, Bool.true_or, Bool.false_or, reduceCtorEq] <;> first | rfl | (simp_all; done) | (split <;> simp_all)
                                                                        exact ⟨by rw [hz], hrs.tr hsc.rs, by rw [hz]; exact (hsc.x hS 32).trans hran⟩
                                                                      · refine jv_aload_n (q := 471) G 6 dX8_met_470 rfl rfl rfl ?_
                                                                        refine jv_getI (q := 474) G dX8_met_471 fl_X8_192 rfl (hsc.S hS).1 ((hsc.x hS 32).trans hran) rfl ?_
                                                                        refine jv_aload_n (q := 475) G 6 dX8_met_474 rfl rfl rfl ?_
                                                                        refine jv_iload_n (q := 476) G 7 dX8_met_475 rfl rfl rfl ?_
                                                                        refine jv_iload (q := 478) G 10 dX8_met_476 rfl rfl ?_
                                                                        refine jv_iload (q := 480) G 11 dX8_met_478 rfl rfl ?_
                                                                        refine jv_iload (q := 482) G 12 dX8_met_480 rfl rfl ?_
                                                                        refine jv_iload (q := 484) G 13 dX8_met_482 rfl rfl ?_
                                                                        refine jv_callV (q := 487) (As := [.int (nI c), .int ty, .int n, .int s, .int rc]) (rest := [.int (nI (mt_n t884))]) G Z ml_X8_202 (r_ownRun hlt hsc hS hc hec hEC hVC hce hgC) (hsc.S hS).1 dX8_met_484 rfl (by decide) (by decide) (by decide) (by decide) (Nat.le_of_ble_eq_true rfl) rfl rfl (fun v895 h894 y896 => ?_) (fun _ _ hx => hx.elim)
                                                                        obtain ⟨rfl, hsc⟩ := y896
                                                                        show jv_V E 14 h894 0 0 (jv_Q E (fun v h' => v = some (.int (nI (m_met (decide (e = ec)) tsC ts pk su 4 ty n s rc).1)) ∧ rs x q h h' ∧ jv_I h' x 32 = jv_oN (m_met (decide (e = ec)) tsC ts pk su 4 ty n s rc).2) jv_no 0 0) 487 [(13, .int (nI (6 * (10 * e + p883.1) + p883.2))), (12, .int (nI (6 * (10 * e + p847.1) + p847.2))), (11, .int (nI (10 * e + k769))), (10, .int (nI 1)), (9, .int (-1)), (8, .int (nI (10 * e + k609))), (0, .ref x), (1, .int (nI c)), (2, .int (nI e)), (3, .int (nI 4)), (4, .int ty), (5, .int n), (6, .int s), (7, .int rc)] [.int (jv_oN (m_orn tsC ty n s rc)), .int (nI (mt_n t884))]
                                                                        refine jv_icmp_eq (q := 490) (tgt := 495) G dX8_met_487 (by decide) rfl (fun c897 => ?_) (fun c897 => ?_)
                                                                        · refine jv_iconst (q := 496) (v := nI 0) G dX8_met_495 (by decide) rfl ?_
                                                                          refine jv_iret G hr dX8_met_496 (Nat.le_of_ble_eq_true rfl) (Nat.le_of_ble_eq_true rfl) ?_
                                                                          have hz : (m_met (decide (e = ec)) tsC ts pk su 4 ty n s rc) = (0, some (mt_n t884)) := by
                                                                            unfold m_met m_isC m_bd
                                                                            simp only [*, if_true, if_false, Bool.false_eq_true, reduceIte, Option.map_some, decide_true, decide_false, not_true_eq_false, not_false_eq_true, and_true, true_and, and_false, false_and, or_true, true_or, or_false, false_or, Bool.or_true, Bool.or_false, Bool.true_or, Bool.false_or, reduceCtorEq] <;> first | rfl | (simp_all; done) | (split <;> simp_all)
                                                                          exact ⟨by rw [hz], hrs.tr hsc.rs, by rw [hz]; exact (hsc.x hS 32).trans hran⟩
                                                                        · refine jv_bipush (q := 492) (v := nI 8) G dX8_met_490 (by decide) rfl ?_
                                                                          refine jv_goto (q := 496) G dX8_met_492 (by decide) ?_
                                                                          refine jv_iret G hr dX8_met_496 (Nat.le_of_ble_eq_true rfl) (Nat.le_of_ble_eq_true rfl) ?_
                                                                          have hz : (m_met (decide (e = ec)) tsC ts pk su 4 ty n s rc) = (8, some (mt_n t884)) := by
                                                                            unfold m_met m_isC m_bd
                                                                            simp only [*, if_true, if_false, Bool.false_eq_true, reduceIte, Option.map_some, decide_true, decide_false, not_true_eq_false, not_false_eq_true, and_true, true_and, and_false, false_and, or_true, true_or, or_false, false_or, Bool.or_true, Bool.or_false, Bool.true_or, Bool.false_or, reduceCtorEq] <;> first | rfl | (simp_all; done) | (split <;> simp_all)
                                                                          exact ⟨by rw [hz], hrs.tr hsc.rs, by rw [hz]; exact (hsc.x hS 32).trans hran⟩
                                                                    · refine jv_iconst (q := 445) (v := nI 3) G dX8_met_444 (by decide) rfl ?_
                                                                      refine jv_iret G hr dX8_met_445 (Nat.le_of_ble_eq_true rfl) (Nat.le_of_ble_eq_true rfl) ?_
                                                                      have hz : (m_met (decide (e = ec)) tsC ts pk su 4 ty n s rc) = (3, none) := by
                                                                        unfold m_met m_isC m_bd
                                                                        simp only [*, if_true, if_false, Bool.false_eq_true, reduceIte, Option.map_some, decide_true, decide_false, not_true_eq_false, not_false_eq_true, and_true, true_and, and_false, false_and, or_true, true_or, or_false, false_or, Bool.or_true, Bool.or_false, Bool.true_or, Bool.false_or, reduceCtorEq] <;> first | rfl | (simp_all; done) | (split <;> simp_all)
                                                                      exact ⟨by rw [hz], hrs.tr hsc.rs, by rw [hz]; exact (hsc.x hS 32).trans hran⟩
                                                                · refine jv_iconst (q := 427) (v := nI 5) G dX8_met_426 (by decide) rfl ?_
                                                                  refine jv_iret G hr dX8_met_427 (Nat.le_of_ble_eq_true rfl) (Nat.le_of_ble_eq_true rfl) ?_
                                                                  have hz : (m_met (decide (e = ec)) tsC ts pk su 4 ty n s rc) = (5, none) := by
                                                                    unfold m_met m_isC m_bd
                                                                    simp only [*, if_true, if_false, Bool.false_eq_true, reduceIte, Option.map_some, decide_true, decide_false, not_true_eq_false, not_false_eq_true, and_true, true_and, and_false, false_and, or_true, true_or, or_false, false_or, Bool.or_true, Bool.or_false, Bool.true_or, Bool.false_or, reduceCtorEq] <;> first | rfl | (simp_all; done) | (split <;> simp_all)
                                                                  exact ⟨by rw [hz], hrs.tr hsc.rs, by rw [hz]; exact (hsc.x hS 32).trans hran⟩
                                                          · refine jv_bipush (q := 398) (v := nI 6) G dX8_met_396 (by decide) rfl ?_
                                                            refine jv_iret G hr dX8_met_398 (Nat.le_of_ble_eq_true rfl) (Nat.le_of_ble_eq_true rfl) ?_
                                                            have hz : (m_met (decide (e = ec)) tsC ts pk su 4 ty n s rc) = (6, none) := by
                                                              unfold m_met m_isC m_bd
                                                              simp only [*, if_true, if_false, Bool.false_eq_true, reduceIte, Option.map_some, decide_true, decide_false, not_true_eq_false, not_false_eq_true, and_true, true_and, and_false, false_and, or_true, true_or, or_false, false_or, Bool.or_true, Bool.or_false, Bool.true_or, Bool.false_or, reduceCtorEq] <;> first | rfl | (simp_all; done) | (split <;> simp_all)
                                                            exact ⟨by rw [hz], hrs.tr hsc.rs, by rw [hz]; exact (hsc.x hS 32).trans hran⟩
                                                  · omega
                                                · refine jv_iconst (q := 326) (v := nI 4) G dX8_met_325 (by decide) rfl ?_
                                                  refine jv_iret G hr dX8_met_326 (Nat.le_of_ble_eq_true rfl) (Nat.le_of_ble_eq_true rfl) ?_
                                                  have hz : (m_met (decide (e = ec)) tsC ts pk su 4 ty n s rc) = (4, none) := by
                                                    unfold m_met m_isC m_bd
                                                    simp only [*, if_true, if_false, Bool.false_eq_true, reduceIte, Option.map_some, decide_true, decide_false, not_true_eq_false, not_false_eq_true, and_true, true_and, and_false, false_and, or_true, true_or, or_false, false_or, Bool.or_true, Bool.or_false, Bool.true_or, Bool.false_or, reduceCtorEq] <;> first | rfl | (simp_all; done) | (split <;> simp_all)
                                                  exact ⟨by rw [hz], hrs.tr hsc.rs, by rw [hz]; exact (hsc.x hS 32).trans hran⟩
                                              · omega
                                          · refine jv_iconst (q := 299) (v := nI 3) G dX8_met_298 (by decide) rfl ?_
                                            refine jv_iret G hr dX8_met_299 (Nat.le_of_ble_eq_true rfl) (Nat.le_of_ble_eq_true rfl) ?_
                                            have hz : (m_met (decide (e = ec)) tsC ts pk su 4 ty n s rc) = (3, none) := by
                                              unfold m_met m_isC m_bd
                                              simp only [*, if_true, if_false, Bool.false_eq_true, reduceIte, Option.map_some, decide_true, decide_false, not_true_eq_false, not_false_eq_true, and_true, true_and, and_false, false_and, or_true, true_or, or_false, false_or, Bool.or_true, Bool.or_false, Bool.true_or, Bool.false_or, reduceCtorEq] <;> first | rfl | (simp_all; done) | (split <;> simp_all)
                                            exact ⟨by rw [hz], hrs.tr hsc.rs, by rw [hz]; exact (hsc.x hS 32).trans hran⟩
                                        · exact absurd c852 (jv_nI_m1 (by omega))
                                    · omega
                                  · omega
                                · refine jv_bipush (q := 225) (v := nI 6) G dX8_met_223 (by decide) rfl ?_
                                  refine jv_iret G hr dX8_met_225 (Nat.le_of_ble_eq_true rfl) (Nat.le_of_ble_eq_true rfl) ?_
                                  have hz : (m_met (decide (e = ec)) tsC ts pk su 4 ty n s rc) = (6, none) := by
                                    unfold m_met m_isC m_bd
                                    simp only [*, if_true, if_false, Bool.false_eq_true, reduceIte, Option.map_some, decide_true, decide_false, not_true_eq_false, not_false_eq_true, and_true, true_and, and_false, false_and, or_true, true_or, or_false, false_or, Bool.or_true, Bool.or_false, Bool.true_or, Bool.false_or, reduceCtorEq] <;> first | rfl | (simp_all; done) | (split <;> simp_all)
                                  exact ⟨by rw [hz], hrs.tr hsc.rs, by rw [hz]; exact (hsc.x hS 32).trans hran⟩
                            · omega
                          · refine jv_iconst (q := 192) (v := nI 3) G dX8_met_191 (by decide) rfl ?_
                            refine jv_iret G hr dX8_met_192 (Nat.le_of_ble_eq_true rfl) (Nat.le_of_ble_eq_true rfl) ?_
                            have hz : (m_met (decide (e = ec)) tsC ts pk su 4 ty n s rc) = (3, none) := by
                              unfold m_met m_isC m_bd
                              simp only [*, if_true, if_false, Bool.false_eq_true, reduceIte, Option.map_some, decide_true, decide_false, not_true_eq_false, not_false_eq_true, and_true, true_and, and_false, false_and, or_true, true_or, or_false, false_or, Bool.or_true, Bool.or_false, Bool.true_or, Bool.false_or, reduceCtorEq] <;> first | rfl | (simp_all; done) | (split <;> simp_all)
                            exact ⟨by rw [hz], hrs.tr hsc.rs, by rw [hz]; exact (hsc.x hS 32).trans hran⟩
                      · exact absurd c777 (jv_nI_m1 (by omega))
        · exact absurd rfl c765
  · refine jv_aload_n (q := 1) G 0 dX8_met_0 rfl rfl rfl ?_
    refine jv_iconst (q := 2) (v := (-1)) G dX8_met_1 (by decide) rfl ?_
    refine jv_putI (q := 5) G dX8_met_2 fl_X8_192 rfl (hsc.S hS).1 rfl ?_
    have hr1 : rs x q h (jv_wI h x 32 (-1)) := rs.rf.wI (-1) (Or.inl ⟨rfl, Or.inr (Or.inl rfl)⟩)
    have hran : jv_I (jv_wI h x 32 (-1)) x 32 = (-1) := jv_I_self _ _ _ _
    have hSb := hsc.S hS
    have hE := hr1.E hSb (hsc.E hS hE)
    have hV := hr1.V hSb (hsc.V hS hV)
    have hEC := hr1.E hSb (hsc.E hS hEC)
    have hVC := hr1.V hSb (hsc.V hS hVC)
    have hce := (wx_I hSb 22 (by decide) rfl 32 c (-1)).trans ((hsc.I2 hS 22 (by decide) rfl (by decide) c).trans hce)
    have hpk := (wx_I hSb 23 (by decide) rfl 32 c (-1)).trans ((hsc.I2 hS 23 (by decide) rfl (by decide) c).trans hpk)
    have hsu := (wx_I hSb 24 (by decide) rfl 32 c (-1)).trans ((hsc.I2 hS 24 (by decide) rfl (by decide) c).trans hsu)
    have hrs := (hrs.tr hsc.rs).tr hr1
    have hS := hr1.S hSb
    generalize jv_wI h x 32 (-1) = h898 at hran hE hV hEC hVC hce hpk hsu hrs hS ⊢
    have hsc : sc x q h898 h898 := sc.rf
    refine jv_aload_n (q := 6) G 0 dX8_met_5 rfl rfl rfl ?_
    refine jv_iload_n (q := 7) G 2 dX8_met_6 rfl rfl rfl ?_
    refine jv_iload (q := 9) G 4 dX8_met_7 rfl rfl ?_
    refine jv_callV_I (q := 12) (h1 := h898) (As := [.int (nI e), .int ty]) (rest := []) (ce' := 0) (sl' := 0) (r := jv_oN ((m_at ts ty).map (fun k => 10 * e + k))) G Z ml_X8_151 (r_at hlt (hsc.S hS) he (hsc.E hS hE)) (hsc.S hS).1 dX8_met_9 rfl (by decide) (by decide) (by decide) (by decide) (Nat.le_of_ble_eq_true rfl) rfl rfl rfl rfl ?_
    rcases Option.eq_none_or_eq_some (m_at ts ty) with hk901 | ⟨k899, hk901⟩
    · refine jv_topI (y := (-1)) (by rw [hk901]; rfl) ?_
      refine jv_istore (q := 14) (lo' := [(8, .int (-1)), (0, .ref x), (1, .int (nI c)), (2, .int (nI e)), (3, .int (nI 5)), (4, .int ty), (5, .int n), (6, .int s), (7, .int rc)]) G dX8_met_12 (by decide) rfl rfl ?_
      refine jv_iload_n (q := 15) G 3 dX8_met_14 rfl rfl rfl ?_
      refine jv_aload_n (q := 16) G 1 dX8_met_15 rfl rfl rfl ?_
      refine jv_getQ (q := 19) G dX8_met_16 fl_X8_68 rfl (hsc.S hS).1 (rf_p22 (hsc.S hS)) rfl ?_
      refine jv_iload_n (q := 20) G 2 dX8_met_19 rfl rfl rfl ?_
      refine jv_iald (q := 21) G dX8_met_20 (rf_a22 (hsc.S hS)) rfl (by omega) (by decide) ((hsc.I2 hS 22 (by decide) rfl (by decide) c).trans hce) rfl ?_
      refine jv_icmp_eqN (q := 24) (tgt := 39) G dX8_met_21 (by decide) rfl (by omega) (by omega) (fun c902 => ?_) (fun c902 => ?_)
      · refine jv_iconst (q := 40) (v := (-1)) G dX8_met_39 (by decide) rfl ?_
        refine jv_istore (q := 42) (lo' := [(9, .int (-1)), (8, .int (-1)), (0, .ref x), (1, .int (nI c)), (2, .int (nI e)), (3, .int (nI 5)), (4, .int ty), (5, .int n), (6, .int s), (7, .int rc)]) G dX8_met_40 (by decide) rfl rfl ?_
        refine jv_iload (q := 44) G 0 dX8_met_42 rfl rfl ?_
        refine jv_iconst (q := 45) (v := (-1)) G dX8_met_44 (by decide) rfl ?_
        refine jv_icmp_eq (q := 48) (tgt := 111) G dX8_met_45 (by decide) rfl (fun c903 => ?_) (fun c903 => ?_)
        · refine jv_iload_n (q := 112) G 5 dX8_met_111 rfl rfl rfl ?_
          refine jv_iconst (q := 113) (v := nI 2) G dX8_met_112 (by decide) rfl ?_
          refine jv_icmp_eqN (q := 116) (tgt := 121) G dX8_met_113 (by decide) rfl (by omega) (by omega) (fun c904 => ?_) (fun c904 => ?_)
          · omega
          · refine jv_iload_n (q := 117) G 5 dX8_met_116 rfl rfl rfl ?_
            refine jv_iconst (q := 118) (v := nI 4) G dX8_met_117 (by decide) rfl ?_
            refine jv_icmp_neN (q := 121) (tgt := 125) G dX8_met_118 (by decide) rfl (by omega) (by omega) (fun c905 => ?_) (fun c905 => ?_)
            · refine jv_iconst (q := 126) (v := nI 0) G dX8_met_125 (by decide) rfl ?_
              refine jv_istore (q := 128) (lo' := [(10, .int (nI 0)), (9, .int (-1)), (8, .int (-1)), (0, .ref x), (1, .int (nI c)), (2, .int (nI e)), (3, .int (nI 5)), (4, .int ty), (5, .int n), (6, .int s), (7, .int rc)]) G dX8_met_126 (by decide) rfl rfl ?_
              refine jv_iload (q := 130) G 0 dX8_met_128 rfl rfl ?_
              refine jv_if_eqN (q := 133) (tgt := 143) G dX8_met_130 (by decide) rfl (by omega) (fun c906 => ?_) (fun c906 => ?_)
              · refine jv_iconst (q := 144) (v := (-1)) G dX8_met_143 (by decide) rfl ?_
                refine jv_istore (q := 146) (lo' := [(11, .int (-1)), (10, .int (nI 0)), (9, .int (-1)), (8, .int (-1)), (0, .ref x), (1, .int (nI c)), (2, .int (nI e)), (3, .int (nI 5)), (4, .int ty), (5, .int n), (6, .int s), (7, .int rc)]) G dX8_met_144 (by decide) rfl rfl ?_
                refine jv_iload (q := 148) G 3 dX8_met_146 rfl rfl ?_
                refine jv_iconst (q := 149) (v := (-1)) G dX8_met_148 (by decide) rfl ?_
                refine jv_icmp_eq (q := 152) (tgt := 163) G dX8_met_149 (by decide) rfl (fun c907 => ?_) (fun c907 => ?_)
                · refine jv_iconst (q := 164) (v := nI 1) G dX8_met_163 (by decide) rfl ?_
                  refine jv_iret G hr dX8_met_164 (Nat.le_of_ble_eq_true rfl) (Nat.le_of_ble_eq_true rfl) ?_
                  have hz : (m_met (decide (e = ec)) tsC ts pk su 5 ty n s rc) = (1, none) := by
                    unfold m_met m_isC m_bd
                    simp only [*, if_true, if_false, Bool.false_eq_true, reduceIte, Option.map_some, decide_true, decide_false, not_true_eq_false, not_false_eq_true, and_true, true_and, and_false, false_and, or_true, true_or, or_false, false_or, Bool.or_true, Bool.or_false, Bool.true_or, Bool.false_or, reduceCtorEq] <;> first | rfl | (simp_all; done) | (split <;> simp_all)
                  exact ⟨by rw [hz], hrs.tr hsc.rs, by rw [hz]; exact (hsc.x hS 32).trans hran⟩
                · exact absurd rfl c907
              · omega
            · omega
        · exact absurd rfl c903
      · refine jv_aload_n (q := 25) G 1 dX8_met_24 rfl rfl rfl ?_
        refine jv_iload_n (q := 26) G 2 dX8_met_25 rfl rfl rfl ?_
        refine jv_iload_n (q := 27) G 4 dX8_met_26 rfl rfl rfl ?_
        refine jv_iload (q := 29) G 5 dX8_met_27 rfl rfl ?_
        refine jv_iload (q := 31) G 6 dX8_met_29 rfl rfl ?_
        refine jv_iload (q := 33) G 7 dX8_met_31 rfl rfl ?_
        refine jv_callV_I (q := 36) (h1 := h898) (As := [.int (nI c), .int (nI 5), .int ty, .int n, .int s]) (rest := []) (ce' := 0) (sl' := 0) (r := (ffE ec (m_co tsC 5 ty n s))) G Z ml_X8_195 (r_constantOf hlt hsc hS hc hec hEC hce (by decide) hgC) (hsc.S hS).1 dX8_met_33 rfl (by decide) (by decide) (by decide) (by decide) (Nat.le_of_ble_eq_true rfl) rfl rfl rfl rfl ?_
        refine jv_topI (y := (-1)) rfl ?_
        refine jv_goto (q := 40) G dX8_met_36 (by decide) ?_
        refine jv_istore (q := 42) (lo' := [(9, .int (-1)), (8, .int (-1)), (0, .ref x), (1, .int (nI c)), (2, .int (nI e)), (3, .int (nI 5)), (4, .int ty), (5, .int n), (6, .int s), (7, .int rc)]) G dX8_met_40 (by decide) rfl rfl ?_
        refine jv_iload (q := 44) G 0 dX8_met_42 rfl rfl ?_
        refine jv_iconst (q := 45) (v := (-1)) G dX8_met_44 (by decide) rfl ?_
        refine jv_icmp_eq (q := 48) (tgt := 111) G dX8_met_45 (by decide) rfl (fun c908 => ?_) (fun c908 => ?_)
        · refine jv_iload_n (q := 112) G 5 dX8_met_111 rfl rfl rfl ?_
          refine jv_iconst (q := 113) (v := nI 2) G dX8_met_112 (by decide) rfl ?_
          refine jv_icmp_eqN (q := 116) (tgt := 121) G dX8_met_113 (by decide) rfl (by omega) (by omega) (fun c909 => ?_) (fun c909 => ?_)
          · omega
          · refine jv_iload_n (q := 117) G 5 dX8_met_116 rfl rfl rfl ?_
            refine jv_iconst (q := 118) (v := nI 4) G dX8_met_117 (by decide) rfl ?_
            refine jv_icmp_neN (q := 121) (tgt := 125) G dX8_met_118 (by decide) rfl (by omega) (by omega) (fun c910 => ?_) (fun c910 => ?_)
            · refine jv_iconst (q := 126) (v := nI 0) G dX8_met_125 (by decide) rfl ?_
              refine jv_istore (q := 128) (lo' := [(10, .int (nI 0)), (9, .int (-1)), (8, .int (-1)), (0, .ref x), (1, .int (nI c)), (2, .int (nI e)), (3, .int (nI 5)), (4, .int ty), (5, .int n), (6, .int s), (7, .int rc)]) G dX8_met_126 (by decide) rfl rfl ?_
              refine jv_iload (q := 130) G 0 dX8_met_128 rfl rfl ?_
              refine jv_if_eqN (q := 133) (tgt := 143) G dX8_met_130 (by decide) rfl (by omega) (fun c911 => ?_) (fun c911 => ?_)
              · refine jv_iconst (q := 144) (v := (-1)) G dX8_met_143 (by decide) rfl ?_
                refine jv_istore (q := 146) (lo' := [(11, .int (-1)), (10, .int (nI 0)), (9, .int (-1)), (8, .int (-1)), (0, .ref x), (1, .int (nI c)), (2, .int (nI e)), (3, .int (nI 5)), (4, .int ty), (5, .int n), (6, .int s), (7, .int rc)]) G dX8_met_144 (by decide) rfl rfl ?_
                refine jv_iload (q := 148) G 3 dX8_met_146 rfl rfl ?_
                refine jv_iconst (q := 149) (v := (-1)) G dX8_met_148 (by decide) rfl ?_
                refine jv_icmp_eq (q := 152) (tgt := 163) G dX8_met_149 (by decide) rfl (fun c912 => ?_) (fun c912 => ?_)
                · refine jv_iconst (q := 164) (v := nI 1) G dX8_met_163 (by decide) rfl ?_
                  refine jv_iret G hr dX8_met_164 (Nat.le_of_ble_eq_true rfl) (Nat.le_of_ble_eq_true rfl) ?_
                  have hz : (m_met (decide (e = ec)) tsC ts pk su 5 ty n s rc) = (1, none) := by
                    unfold m_met m_isC m_bd
                    simp only [*, if_true, if_false, Bool.false_eq_true, reduceIte, Option.map_some, decide_true, decide_false, not_true_eq_false, not_false_eq_true, and_true, true_and, and_false, false_and, or_true, true_or, or_false, false_or, Bool.or_true, Bool.or_false, Bool.true_or, Bool.false_or, reduceCtorEq] <;> first | rfl | (simp_all; done) | (split <;> simp_all)
                  exact ⟨by rw [hz], hrs.tr hsc.rs, by rw [hz]; exact (hsc.x hS 32).trans hran⟩
                · exact absurd rfl c912
              · omega
            · omega
        · exact absurd rfl c908
    · refine jv_topI (y := nI (10 * e + k899)) (by rw [hk901]; rfl) ?_
      obtain ⟨t900, ht900, nt900, lt900⟩ := m_at_some hk901
      have Tt900 := (hE.2.2 k899 t900 ht900).1
      have Ot900 := (hE.2.2 k899 t900 ht900).2
      have Lt900 := hE.2.1
      have Bt900n := Ot900.1; have Bt900k := Ot900.2.1
      refine jv_istore (q := 14) (lo' := [(8, .int (nI (10 * e + k899))), (0, .ref x), (1, .int (nI c)), (2, .int (nI e)), (3, .int (nI 5)), (4, .int ty), (5, .int n), (6, .int s), (7, .int rc)]) G dX8_met_12 (by decide) rfl rfl ?_
      refine jv_iload_n (q := 15) G 3 dX8_met_14 rfl rfl rfl ?_
      refine jv_aload_n (q := 16) G 1 dX8_met_15 rfl rfl rfl ?_
      refine jv_getQ (q := 19) G dX8_met_16 fl_X8_68 rfl (hsc.S hS).1 (rf_p22 (hsc.S hS)) rfl ?_
      refine jv_iload_n (q := 20) G 2 dX8_met_19 rfl rfl rfl ?_
      refine jv_iald (q := 21) G dX8_met_20 (rf_a22 (hsc.S hS)) rfl (by omega) (by decide) ((hsc.I2 hS 22 (by decide) rfl (by decide) c).trans hce) rfl ?_
      refine jv_icmp_eqN (q := 24) (tgt := 39) G dX8_met_21 (by decide) rfl (by omega) (by omega) (fun c913 => ?_) (fun c913 => ?_)
      · refine jv_iconst (q := 40) (v := (-1)) G dX8_met_39 (by decide) rfl ?_
        refine jv_istore (q := 42) (lo' := [(9, .int (-1)), (8, .int (nI (10 * e + k899))), (0, .ref x), (1, .int (nI c)), (2, .int (nI e)), (3, .int (nI 5)), (4, .int ty), (5, .int n), (6, .int s), (7, .int rc)]) G dX8_met_40 (by decide) rfl rfl ?_
        refine jv_iload (q := 44) G 0 dX8_met_42 rfl rfl ?_
        refine jv_iconst (q := 45) (v := (-1)) G dX8_met_44 (by decide) rfl ?_
        refine jv_icmp_eq (q := 48) (tgt := 111) G dX8_met_45 (by decide) rfl (fun c914 => ?_) (fun c914 => ?_)
        · refine jv_iload_n (q := 112) G 5 dX8_met_111 rfl rfl rfl ?_
          refine jv_iconst (q := 113) (v := nI 2) G dX8_met_112 (by decide) rfl ?_
          refine jv_icmp_eqN (q := 116) (tgt := 121) G dX8_met_113 (by decide) rfl (by omega) (by omega) (fun c915 => ?_) (fun c915 => ?_)
          · omega
          · refine jv_iload_n (q := 117) G 5 dX8_met_116 rfl rfl rfl ?_
            refine jv_iconst (q := 118) (v := nI 4) G dX8_met_117 (by decide) rfl ?_
            refine jv_icmp_neN (q := 121) (tgt := 125) G dX8_met_118 (by decide) rfl (by omega) (by omega) (fun c916 => ?_) (fun c916 => ?_)
            · refine jv_iconst (q := 126) (v := nI 0) G dX8_met_125 (by decide) rfl ?_
              refine jv_istore (q := 128) (lo' := [(10, .int (nI 0)), (9, .int (-1)), (8, .int (nI (10 * e + k899))), (0, .ref x), (1, .int (nI c)), (2, .int (nI e)), (3, .int (nI 5)), (4, .int ty), (5, .int n), (6, .int s), (7, .int rc)]) G dX8_met_126 (by decide) rfl rfl ?_
              refine jv_iload (q := 130) G 0 dX8_met_128 rfl rfl ?_
              refine jv_if_eqN (q := 133) (tgt := 143) G dX8_met_130 (by decide) rfl (by omega) (fun c917 => ?_) (fun c917 => ?_)
              · refine jv_iconst (q := 144) (v := (-1)) G dX8_met_143 (by decide) rfl ?_
                refine jv_istore (q := 146) (lo' := [(11, .int (-1)), (10, .int (nI 0)), (9, .int (-1)), (8, .int (nI (10 * e + k899))), (0, .ref x), (1, .int (nI c)), (2, .int (nI e)), (3, .int (nI 5)), (4, .int ty), (5, .int n), (6, .int s), (7, .int rc)]) G dX8_met_144 (by decide) rfl rfl ?_
                refine jv_iload (q := 148) G 3 dX8_met_146 rfl rfl ?_
                refine jv_iconst (q := 149) (v := (-1)) G dX8_met_148 (by decide) rfl ?_
                refine jv_icmp_eq (q := 152) (tgt := 163) G dX8_met_149 (by decide) rfl (fun c918 => ?_) (fun c918 => ?_)
                · exact absurd c918 (jv_nI_m1 (by omega))
                · refine jv_iload (q := 154) G 1 dX8_met_152 rfl rfl ?_
                  refine jv_if_eqN (q := 157) (tgt := 165) G dX8_met_154 (by decide) rfl (by omega) (fun c919 => ?_) (fun c919 => ?_)
                  · refine jv_aload_n (q := 166) G 4 dX8_met_165 rfl rfl rfl ?_
                    refine jv_getQ (q := 169) G dX8_met_166 fl_X8_29 rfl (hsc.S hS).1 (rf_p8 (hsc.S hS)) rfl ?_
                    refine jv_iload (q := 171) G 3 dX8_met_169 rfl rfl ?_
                    refine jv_zald (q := 172) G dX8_met_171 (rf_a8 (hsc.S hS)) rfl (by omega) (by decide) (rt_8 (hsc.T hS Tt900)) rfl ?_
                    refine jv_if_neB (q := 175) (tgt := 193) G dX8_met_172 (by decide) rfl (fun c920 => ?_) (fun c920 => ?_)
                    · refine jv_iload_n (q := 194) G 7 dX8_met_193 rfl rfl rfl ?_
                      refine jv_iconst (q := 195) (v := nI 2) G dX8_met_194 (by decide) rfl ?_
                      refine jv_icmp_neN (q := 198) (tgt := 208) G dX8_met_195 (by decide) rfl (by omega) (by omega) (fun c921 => ?_) (fun c921 => ?_)
                      · refine jv_iload_n (q := 209) G 7 dX8_met_208 rfl rfl rfl ?_
                        refine jv_iconst (q := 210) (v := nI 4) G dX8_met_209 (by decide) rfl ?_
                        refine jv_icmp_neN (q := 213) (tgt := 226) G dX8_met_210 (by decide) rfl (by omega) (by omega) (fun c922 => ?_) (fun c922 => ?_)
                        · refine jv_iload_n (q := 227) G 7 dX8_met_226 rfl rfl rfl ?_
                          refine jv_iconst (q := 228) (v := nI 5) G dX8_met_227 (by decide) rfl ?_
                          refine jv_icmp_neN (q := 231) (tgt := 247) G dX8_met_228 (by decide) rfl (by omega) (by omega) (fun c923 => ?_) (fun c923 => ?_)
                          · omega
                          · refine jv_aload_n (q := 232) G 4 dX8_met_231 rfl rfl rfl ?_
                            refine jv_getQ (q := 235) G dX8_met_232 fl_X8_23 rfl (hsc.S hS).1 (rf_p6 (hsc.S hS)) rfl ?_
                            refine jv_iload (q := 237) G 3 dX8_met_235 rfl rfl ?_
                            refine jv_zald (q := 238) G dX8_met_237 (rf_a6 (hsc.S hS)) rfl (by omega) (by decide) (rt_6 (hsc.T hS Tt900)) rfl ?_
                            refine jv_if_eqB (q := 241) (tgt := 245) G dX8_met_238 (by decide) rfl (fun c924 => ?_) (fun c924 => ?_)
                            · refine jv_iconst (q := 246) (v := nI 0) G dX8_met_245 (by decide) rfl ?_
                              refine jv_iret G hr dX8_met_246 (Nat.le_of_ble_eq_true rfl) (Nat.le_of_ble_eq_true rfl) ?_
                              have hz : (m_met (decide (e = ec)) tsC ts pk su 5 ty n s rc) = (0, none) := by
                                unfold m_met m_isC m_bd
                                simp only [*, if_true, if_false, Bool.false_eq_true, reduceIte, Option.map_some, decide_true, decide_false, not_true_eq_false, not_false_eq_true, and_true, true_and, and_false, false_and, or_true, true_or, or_false, false_or, Bool.or_true, Bool.or_false, Bool.true_or, Bool.false_or, reduceCtorEq] <;> first | rfl | (simp_all; done) | (split <;> simp_all)
                              exact ⟨by rw [hz], hrs.tr hsc.rs, by rw [hz]; exact (hsc.x hS 32).trans hran⟩
                            · refine jv_iconst (q := 242) (v := nI 5) G dX8_met_241 (by decide) rfl ?_
                              refine jv_goto (q := 246) G dX8_met_242 (by decide) ?_
                              refine jv_iret G hr dX8_met_246 (Nat.le_of_ble_eq_true rfl) (Nat.le_of_ble_eq_true rfl) ?_
                              have hz : (m_met (decide (e = ec)) tsC ts pk su 5 ty n s rc) = (5, none) := by
                                unfold m_met m_isC m_bd
                                simp only [*, if_true, if_false, Bool.false_eq_true, reduceIte, Option.map_some, decide_true, decide_false, not_true_eq_false, not_false_eq_true, and_true, true_and, and_false, false_and, or_true, true_or, or_false, false_or, Bool.or_true, Bool.or_false, Bool.true_or, Bool.false_or, reduceCtorEq] <;> first | rfl | (simp_all; done) | (split <;> simp_all)
                              exact ⟨by rw [hz], hrs.tr hsc.rs, by rw [hz]; exact (hsc.x hS 32).trans hran⟩
                        · omega
                      · omega
                    · refine jv_aload_n (q := 176) G 4 dX8_met_175 rfl rfl rfl ?_
                      refine jv_getQ (q := 179) G dX8_met_176 fl_X8_26 rfl (hsc.S hS).1 (rf_p7 (hsc.S hS)) rfl ?_
                      refine jv_iload (q := 181) G 3 dX8_met_179 rfl rfl ?_
                      refine jv_iald (q := 182) G dX8_met_181 (rf_a7 (hsc.S hS)) rfl (by omega) (by decide) (rt_7 (hsc.T hS Tt900)) rfl ?_
                      refine jv_aload_n (q := 183) G 4 dX8_met_182 rfl rfl rfl ?_
                      refine jv_getQ (q := 186) G dX8_met_183 fl_X8_71 rfl (hsc.S hS).1 (rf_p23 (hsc.S hS)) rfl ?_
                      refine jv_iload_n (q := 187) G 5 dX8_met_186 rfl rfl rfl ?_
                      refine jv_iald (q := 188) G dX8_met_187 (rf_a23 (hsc.S hS)) rfl (by omega) (by decide) rfl rfl ?_
                      refine jv_icmp_eq (q := 191) (tgt := 193) G dX8_met_188 (by decide) rfl (fun c925 => ?_) (fun c925 => ?_)
                      · refine jv_iload_n (q := 194) G 7 dX8_met_193 rfl rfl rfl ?_
                        refine jv_iconst (q := 195) (v := nI 2) G dX8_met_194 (by decide) rfl ?_
                        refine jv_icmp_neN (q := 198) (tgt := 208) G dX8_met_195 (by decide) rfl (by omega) (by omega) (fun c926 => ?_) (fun c926 => ?_)
                        · refine jv_iload_n (q := 209) G 7 dX8_met_208 rfl rfl rfl ?_
                          refine jv_iconst (q := 210) (v := nI 4) G dX8_met_209 (by decide) rfl ?_
                          refine jv_icmp_neN (q := 213) (tgt := 226) G dX8_met_210 (by decide) rfl (by omega) (by omega) (fun c927 => ?_) (fun c927 => ?_)
                          · refine jv_iload_n (q := 227) G 7 dX8_met_226 rfl rfl rfl ?_
                            refine jv_iconst (q := 228) (v := nI 5) G dX8_met_227 (by decide) rfl ?_
                            refine jv_icmp_neN (q := 231) (tgt := 247) G dX8_met_228 (by decide) rfl (by omega) (by omega) (fun c928 => ?_) (fun c928 => ?_)
                            · omega
                            · refine jv_aload_n (q := 232) G 4 dX8_met_231 rfl rfl rfl ?_
                              refine jv_getQ (q := 235) G dX8_met_232 fl_X8_23 rfl (hsc.S hS).1 (rf_p6 (hsc.S hS)) rfl ?_
                              refine jv_iload (q := 237) G 3 dX8_met_235 rfl rfl ?_
                              refine jv_zald (q := 238) G dX8_met_237 (rf_a6 (hsc.S hS)) rfl (by omega) (by decide) (rt_6 (hsc.T hS Tt900)) rfl ?_
                              refine jv_if_eqB (q := 241) (tgt := 245) G dX8_met_238 (by decide) rfl (fun c929 => ?_) (fun c929 => ?_)
                              · refine jv_iconst (q := 246) (v := nI 0) G dX8_met_245 (by decide) rfl ?_
                                refine jv_iret G hr dX8_met_246 (Nat.le_of_ble_eq_true rfl) (Nat.le_of_ble_eq_true rfl) ?_
                                have hz : (m_met (decide (e = ec)) tsC ts pk su 5 ty n s rc) = (0, none) := by
                                  unfold m_met m_isC m_bd
                                  simp only [*, if_true, if_false, Bool.false_eq_true, reduceIte, Option.map_some, decide_true, decide_false, not_true_eq_false, not_false_eq_true, and_true, true_and, and_false, false_and, or_true, true_or, or_false, false_or, Bool.or_true, Bool.or_false, Bool.true_or, Bool.false_or, reduceCtorEq] <;> first | rfl | (simp_all; done) | (split <;> simp_all)
                                exact ⟨by rw [hz], hrs.tr hsc.rs, by rw [hz]; exact (hsc.x hS 32).trans hran⟩
                              · refine jv_iconst (q := 242) (v := nI 5) G dX8_met_241 (by decide) rfl ?_
                                refine jv_goto (q := 246) G dX8_met_242 (by decide) ?_
                                refine jv_iret G hr dX8_met_246 (Nat.le_of_ble_eq_true rfl) (Nat.le_of_ble_eq_true rfl) ?_
                                have hz : (m_met (decide (e = ec)) tsC ts pk su 5 ty n s rc) = (5, none) := by
                                  unfold m_met m_isC m_bd
                                  simp only [*, if_true, if_false, Bool.false_eq_true, reduceIte, Option.map_some, decide_true, decide_false, not_true_eq_false, not_false_eq_true, and_true, true_and, and_false, false_and, or_true, true_or, or_false, false_or, Bool.or_true, Bool.or_false, Bool.true_or, Bool.false_or, reduceCtorEq] <;> first | rfl | (simp_all; done) | (split <;> simp_all)
                                exact ⟨by rw [hz], hrs.tr hsc.rs, by rw [hz]; exact (hsc.x hS 32).trans hran⟩
                          · omega
                        · omega
                      · refine jv_iconst (q := 192) (v := nI 3) G dX8_met_191 (by decide) rfl ?_
                        refine jv_iret G hr dX8_met_192 (Nat.le_of_ble_eq_true rfl) (Nat.le_of_ble_eq_true rfl) ?_
                        have hz : (m_met (decide (e = ec)) tsC ts pk su 5 ty n s rc) = (3, none) := by
                          unfold m_met m_isC m_bd
                          simp only [*, if_true, if_false, Bool.false_eq_true, reduceIte, Option.map_some, decide_true, decide_false, not_true_eq_false, not_false_eq_true, and_true, true_and, and_false, false_and, or_true, true_or, or_false, false_or, Bool.or_true, Bool.or_false, Bool.true_or, Bool.false_or, reduceCtorEq] <;> first | rfl | (simp_all; done) | (split <;> simp_all)
                        exact ⟨by rw [hz], hrs.tr hsc.rs, by rw [hz]; exact (hsc.x hS 32).trans hran⟩
                  · omega
              · omega
            · omega
        · exact absurd rfl c914
      · refine jv_aload_n (q := 25) G 1 dX8_met_24 rfl rfl rfl ?_
        refine jv_iload_n (q := 26) G 2 dX8_met_25 rfl rfl rfl ?_
        refine jv_iload_n (q := 27) G 4 dX8_met_26 rfl rfl rfl ?_
        refine jv_iload (q := 29) G 5 dX8_met_27 rfl rfl ?_
        refine jv_iload (q := 31) G 6 dX8_met_29 rfl rfl ?_
        refine jv_iload (q := 33) G 7 dX8_met_31 rfl rfl ?_
        refine jv_callV_I (q := 36) (h1 := h898) (As := [.int (nI c), .int (nI 5), .int ty, .int n, .int s]) (rest := []) (ce' := 0) (sl' := 0) (r := (ffE ec (m_co tsC 5 ty n s))) G Z ml_X8_195 (r_constantOf hlt hsc hS hc hec hEC hce (by decide) hgC) (hsc.S hS).1 dX8_met_33 rfl (by decide) (by decide) (by decide) (by decide) (Nat.le_of_ble_eq_true rfl) rfl rfl rfl rfl ?_
        refine jv_topI (y := (-1)) rfl ?_
        refine jv_goto (q := 40) G dX8_met_36 (by decide) ?_
        refine jv_istore (q := 42) (lo' := [(9, .int (-1)), (8, .int (nI (10 * e + k899))), (0, .ref x), (1, .int (nI c)), (2, .int (nI e)), (3, .int (nI 5)), (4, .int ty), (5, .int n), (6, .int s), (7, .int rc)]) G dX8_met_40 (by decide) rfl rfl ?_
        refine jv_iload (q := 44) G 0 dX8_met_42 rfl rfl ?_
        refine jv_iconst (q := 45) (v := (-1)) G dX8_met_44 (by decide) rfl ?_
        refine jv_icmp_eq (q := 48) (tgt := 111) G dX8_met_45 (by decide) rfl (fun c930 => ?_) (fun c930 => ?_)
        · refine jv_iload_n (q := 112) G 5 dX8_met_111 rfl rfl rfl ?_
          refine jv_iconst (q := 113) (v := nI 2) G dX8_met_112 (by decide) rfl ?_
          refine jv_icmp_eqN (q := 116) (tgt := 121) G dX8_met_113 (by decide) rfl (by omega) (by omega) (fun c931 => ?_) (fun c931 => ?_)
          · omega
          · refine jv_iload_n (q := 117) G 5 dX8_met_116 rfl rfl rfl ?_
            refine jv_iconst (q := 118) (v := nI 4) G dX8_met_117 (by decide) rfl ?_
            refine jv_icmp_neN (q := 121) (tgt := 125) G dX8_met_118 (by decide) rfl (by omega) (by omega) (fun c932 => ?_) (fun c932 => ?_)
            · refine jv_iconst (q := 126) (v := nI 0) G dX8_met_125 (by decide) rfl ?_
              refine jv_istore (q := 128) (lo' := [(10, .int (nI 0)), (9, .int (-1)), (8, .int (nI (10 * e + k899))), (0, .ref x), (1, .int (nI c)), (2, .int (nI e)), (3, .int (nI 5)), (4, .int ty), (5, .int n), (6, .int s), (7, .int rc)]) G dX8_met_126 (by decide) rfl rfl ?_
              refine jv_iload (q := 130) G 0 dX8_met_128 rfl rfl ?_
              refine jv_if_eqN (q := 133) (tgt := 143) G dX8_met_130 (by decide) rfl (by omega) (fun c933 => ?_) (fun c933 => ?_)
              · refine jv_iconst (q := 144) (v := (-1)) G dX8_met_143 (by decide) rfl ?_
                refine jv_istore (q := 146) (lo' := [(11, .int (-1)), (10, .int (nI 0)), (9, .int (-1)), (8, .int (nI (10 * e + k899))), (0, .ref x), (1, .int (nI c)), (2, .int (nI e)), (3, .int (nI 5)), (4, .int ty), (5, .int n), (6, .int s), (7, .int rc)]) G dX8_met_144 (by decide) rfl rfl ?_
                refine jv_iload (q := 148) G 3 dX8_met_146 rfl rfl ?_
                refine jv_iconst (q := 149) (v := (-1)) G dX8_met_148 (by decide) rfl ?_
                refine jv_icmp_eq (q := 152) (tgt := 163) G dX8_met_149 (by decide) rfl (fun c934 => ?_) (fun c934 => ?_)
                · exact absurd c934 (jv_nI_m1 (by omega))
                · refine jv_iload (q := 154) G 1 dX8_met_152 rfl rfl ?_
                  refine jv_if_eqN (q := 157) (tgt := 165) G dX8_met_154 (by decide) rfl (by omega) (fun c935 => ?_) (fun c935 => ?_)
                  · refine jv_aload_n (q := 166) G 4 dX8_met_165 rfl rfl rfl ?_
                    refine jv_getQ (q := 169) G dX8_met_166 fl_X8_29 rfl (hsc.S hS).1 (rf_p8 (hsc.S hS)) rfl ?_
                    refine jv_iload (q := 171) G 3 dX8_met_169 rfl rfl ?_
                    refine jv_zald (q := 172) G dX8_met_171 (rf_a8 (hsc.S hS)) rfl (by omega) (by decide) (rt_8 (hsc.T hS Tt900)) rfl ?_
                    refine jv_if_neB (q := 175) (tgt := 193) G dX8_met_172 (by decide) rfl (fun c936 => ?_) (fun c936 => ?_)
                    · refine jv_iload_n (q := 194) G 7 dX8_met_193 rfl rfl rfl ?_
                      refine jv_iconst (q := 195) (v := nI 2) G dX8_met_194 (by decide) rfl ?_
                      refine jv_icmp_neN (q := 198) (tgt := 208) G dX8_met_195 (by decide) rfl (by omega) (by omega) (fun c937 => ?_) (fun c937 => ?_)
                      · refine jv_iload_n (q := 209) G 7 dX8_met_208 rfl rfl rfl ?_
                        refine jv_iconst (q := 210) (v := nI 4) G dX8_met_209 (by decide) rfl ?_
                        refine jv_icmp_neN (q := 213) (tgt := 226) G dX8_met_210 (by decide) rfl (by omega) (by omega) (fun c938 => ?_) (fun c938 => ?_)
                        · refine jv_iload_n (q := 227) G 7 dX8_met_226 rfl rfl rfl ?_
                          refine jv_iconst (q := 228) (v := nI 5) G dX8_met_227 (by decide) rfl ?_
                          refine jv_icmp_neN (q := 231) (tgt := 247) G dX8_met_228 (by decide) rfl (by omega) (by omega) (fun c939 => ?_) (fun c939 => ?_)
                          · omega
                          · refine jv_aload_n (q := 232) G 4 dX8_met_231 rfl rfl rfl ?_
                            refine jv_getQ (q := 235) G dX8_met_232 fl_X8_23 rfl (hsc.S hS).1 (rf_p6 (hsc.S hS)) rfl ?_
                            refine jv_iload (q := 237) G 3 dX8_met_235 rfl rfl ?_
                            refine jv_zald (q := 238) G dX8_met_237 (rf_a6 (hsc.S hS)) rfl (by omega) (by decide) (rt_6 (hsc.T hS Tt900)) rfl ?_
                            refine jv_if_eqB (q := 241) (tgt := 245) G dX8_met_238 (by decide) rfl (fun c940 => ?_) (fun c940 => ?_)
                            · refine jv_iconst (q := 246) (v := nI 0) G dX8_met_245 (by decide) rfl ?_
                              refine jv_iret G hr dX8_met_246 (Nat.le_of_ble_eq_true rfl) (Nat.le_of_ble_eq_true rfl) ?_
                              have hz : (m_met (decide (e = ec)) tsC ts pk su 5 ty n s rc) = (0, none) := by
                                unfold m_met m_isC m_bd
                                simp only [*, if_true, if_false, Bool.false_eq_true, reduceIte, Option.map_some, decide_true, decide_false, not_true_eq_false, not_false_eq_true, and_true, true_and, and_false, false_and, or_true, true_or, or_false, false_or, Bool.or_true, Bool.or_false, Bool.true_or, Bool.false_or, reduceCtorEq] <;> first | rfl | (simp_all; done) | (split <;> simp_all)
                              exact ⟨by rw [hz], hrs.tr hsc.rs, by rw [hz]; exact (hsc.x hS 32).trans hran⟩
                            · refine jv_iconst (q := 242) (v := nI 5) G dX8_met_241 (by decide) rfl ?_
                              refine jv_goto (q := 246) G dX8_met_242 (by decide) ?_
                              refine jv_iret G hr dX8_met_246 (Nat.le_of_ble_eq_true rfl) (Nat.le_of_ble_eq_true rfl) ?_
                              have hz : (m_met (decide (e = ec)) tsC ts pk su 5 ty n s rc) = (5, none) := by
                                unfold m_met m_isC m_bd
                                simp only [*, if_true, if_false, Bool.false_eq_true, reduceIte, Option.map_some, decide_true, decide_false, not_true_eq_false, not_false_eq_true, and_true, true_and, and_false, false_and, or_true, true_or, or_false, false_or, Bool.or_true, Bool.or_false, Bool.true_or, Bool.false_or, reduceCtorEq] <;> first | rfl | (simp_all; done) | (split <;> simp_all)
                              exact ⟨by rw [hz], hrs.tr hsc.rs, by rw [hz]; exact (hsc.x hS 32).trans hran⟩
                        · omega
                      · omega
                    · refine jv_aload_n (q := 176) G 4 dX8_met_175 rfl rfl rfl ?_
                      refine jv_getQ (q := 179) G dX8_met_176 fl_X8_26 rfl (hsc.S hS).1 (rf_p7 (hsc.S hS)) rfl ?_
                      refine jv_iload (q := 181) G 3 dX8_met_179 rfl rfl ?_
                      refine jv_iald (q := 182) G dX8_met_181 (rf_a7 (hsc.S hS)) rfl (by omega) (by decide) (rt_7 (hsc.T hS Tt900)) rfl ?_
                      refine jv_aload_n (q := 183) G 4 dX8_met_182 rfl rfl rfl ?_
                      refine jv_getQ (q := 186) G dX8_met_183 fl_X8_71 rfl (hsc.S hS).1 (rf_p23 (hsc.S hS)) rfl ?_
                      refine jv_iload_n (q := 187) G 5 dX8_met_186 rfl rfl rfl ?_
                      refine jv_iald (q := 188) G dX8_met_187 (rf_a23 (hsc.S hS)) rfl (by omega) (by decide) rfl rfl ?_
                      refine jv_icmp_eq (q := 191) (tgt := 193) G dX8_met_188 (by decide) rfl (fun c941 => ?_) (fun c941 => ?_)
                      · refine jv_iload_n (q := 194) G 7 dX8_met_193 rfl rfl rfl ?_
                        refine jv_iconst (q := 195) (v := nI 2) G dX8_met_194 (by decide) rfl ?_
                        refine jv_icmp_neN (q := 198) (tgt := 208) G dX8_met_195 (by decide) rfl (by omega) (by omega) (fun c942 => ?_) (fun c942 => ?_)
                        · refine jv_iload_n (q := 209) G 7 dX8_met_208 rfl rfl rfl ?_
                          refine jv_iconst (q := 210) (v := nI 4) G dX8_met_209 (by decide) rfl ?_
                          refine jv_icmp_neN (q := 213) (tgt := 226) G dX8_met_210 (by decide) rfl (by omega) (by omega) (fun c943 => ?_) (fun c943 => ?_)
                          · refine jv_iload_n (q := 227) G 7 dX8_met_226 rfl rfl rfl ?_
                            refine jv_iconst (q := 228) (v := nI 5) G dX8_met_227 (by decide) rfl ?_
                            refine jv_icmp_neN (q := 231) (tgt := 247) G dX8_met_228 (by decide) rfl (by omega) (by omega) (fun c944 => ?_) (fun c944 => ?_)
                            · omega
                            · refine jv_aload_n (q := 232) G 4 dX8_met_231 rfl rfl rfl ?_
                              refine jv_getQ (q := 235) G dX8_met_232 fl_X8_23 rfl (hsc.S hS).1 (rf_p6 (hsc.S hS)) rfl ?_
                              refine jv_iload (q := 237) G 3 dX8_met_235 rfl rfl ?_
                              refine jv_zald (q := 238) G dX8_met_237 (rf_a6 (hsc.S hS)) rfl (by omega) (by decide) (rt_6 (hsc.T hS Tt900)) rfl ?_
                              refine jv_if_eqB (q := 241) (tgt := 245) G dX8_met_238 (by decide) rfl (fun c945 => ?_) (fun c945 => ?_)
                              · refine jv_iconst (q := 246) (v := nI 0) G dX8_met_245 (by decide) rfl ?_
                                refine jv_iret G hr dX8_met_246 (Nat.le_of_ble_eq_true rfl) (Nat.le_of_ble_eq_true rfl) ?_
                                have hz : (m_met (decide (e = ec)) tsC ts pk su 5 ty n s rc) = (0, none) := by
                                  unfold m_met m_isC m_bd
                                  simp only [*, if_true, if_false, Bool.false_eq_true, reduceIte, Option.map_some, decide_true, decide_false, not_true_eq_false, not_false_eq_true, and_true, true_and, and_false, false_and, or_true, true_or, or_false, false_or, Bool.or_true, Bool.or_false, Bool.true_or, Bool.false_or, reduceCtorEq] <;> first | rfl | (simp_all; done) | (split <;> simp_all)
                                exact ⟨by rw [hz], hrs.tr hsc.rs, by rw [hz]; exact (hsc.x hS 32).trans hran⟩
                              · refine jv_iconst (q := 242) (v := nI 5) G dX8_met_241 (by decide) rfl ?_
                                refine jv_goto (q := 246) G dX8_met_242 (by decide) ?_
                                refine jv_iret G hr dX8_met_246 (Nat.le_of_ble_eq_true rfl) (Nat.le_of_ble_eq_true rfl) ?_
                                have hz : (m_met (decide (e = ec)) tsC ts pk su 5 ty n s rc) = (5, none) := by
                                  unfold m_met m_isC m_bd
                                  simp only [*, if_true, if_false, Bool.false_eq_true, reduceIte, Option.map_some, decide_true, decide_false, not_true_eq_false, not_false_eq_true, and_true, true_and, and_false, false_and, or_true, true_or, or_false, false_or, Bool.or_true, Bool.or_false, Bool.true_or, Bool.false_or, reduceCtorEq] <;> first | rfl | (simp_all; done) | (split <;> simp_all)
                                exact ⟨by rw [hz], hrs.tr hsc.rs, by rw [hz]; exact (hsc.x hS 32).trans hran⟩
                          · omega
                        · omega
                      · refine jv_iconst (q := 192) (v := nI 3) G dX8_met_191 (by decide) rfl ?_
                        refine jv_iret G hr dX8_met_192 (Nat.le_of_ble_eq_true rfl) (Nat.le_of_ble_eq_true rfl) ?_
                        have hz : (m_met (decide (e = ec)) tsC ts pk su 5 ty n s rc) = (3, none) := by
                          unfold m_met m_isC m_bd
                          simp only [*, if_true, if_false, Bool.false_eq_true, reduceIte, Option.map_some, decide_true, decide_false, not_true_eq_false, not_false_eq_true, and_true, true_and, and_false, false_and, or_true, true_or, or_false, false_or, Bool.or_true, Bool.or_false, Bool.true_or, Bool.false_or, reduceCtorEq] <;> first | rfl | (simp_all; done) | (split <;> simp_all)
                        exact ⟨by rw [hz], hrs.tr hsc.rs, by rw [hz]; exact (hsc.x hS 32).trans hran⟩
                  · omega
              · omega
            · omega
        · exact absurd rfl c930
