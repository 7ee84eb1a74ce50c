theorem m_co_mem {ts : List mT} {kd : Nat} {ty n s : Int32} {p : Nat × Nat} (h : m_co ts kd ty n s = some p) : ∃ t, ts[p.1]? = some t ∧ ∃ m, (mt_m t)[p.2]? = some m := by
  unfold m_co at h
  split at h
  · split at h
    · cases h
    · split at h
      · cases h
      · split at h
        · cases h; rename_i hp _; exact m_ff_mem hp
        · cases h
  · cases h
def m_nm (ts : List mT) (p : Nat × Nat) : Option Nat := (ts[p.1]?).map mt_n
/-- what a use meets (0 well, 1 no type, 2 no member, 3 no access, 4 static, 5 abstract, 6 shape, 8 other, 9 old), and the type whose method ran -/
def m_met (own : Bool) (tsC ts : List mT) (pk : Nat) (su : Option Nat) (kd : Nat) (ty n s rc : Int32) : Nat × Option Nat := match (if own then none else m_co tsC kd ty n s) with
  | some pc => match m_at ts ty with
    | none => (9, none)
    | some k => match m_ff ts 11 k n s with
      | none => (9, none)
      | some p => if m_isC ts p then (if m_bd ts p = m_bd tsC pc then (0, none) else (9, none)) else (9, none)
  | none => match m_at ts ty with
    | none => (1, none)
    | some k => match (if kd = 2 ∨ kd = 4 then m_at ts rc else some 0) with
      | none => (1, none)
      | some kr => match ts[k]? with
        | none => (1, none)
        | some t => if mt_p t = false ∧ ¬ mt_k t = pk then (3, none) else
          if kd = 2 ∧ mt_i t = true then (6, none) else if kd = 4 ∧ mt_i t = false then (6, none) else
          if kd = 5 then (if mt_a t then (5, none) else (0, none)) else
          match (if kd < 2 then m_ff ts 11 k n s else m_fm ts 11 k n s) with
          | none => (2, none)
          | some p => match ts[p.1]? with
            | none => (2, none)
            | some td => match (mt_m td)[p.2]? with
              | none => (2, none)
              | some md => if m_mr ts pk su td md = false then (3, none) else
                if ¬ mm_t md = (decide (kd = 1) || decide (kd = 3)) then (4, none) else
                if ¬ (kd = 2 ∨ kd = 4) then (0, if kd = 3 then some (mt_n td) else none) else
                match ts[kr]? with
                | none => (6, none)
                | some tr => if mt_i tr then (6, none) else if mt_a tr then (6, none) else if ¬ kr = k ∧ m_isA ts ty rc = false then (6, none) else
                  match m_sl ts 11 td md p.1 p.2 kr with
                  | none => (5, none)
                  | some o => match ts[o.1]? with
                    | none => (5, none)
                    | some to => match (mt_m to)[o.2]? with
                      | none => (5, none)
                      | some mo => if ¬ 0 ≤ mm_b mo then (5, none) else if kd = 4 ∧ ¬ mm_a mo = 3 then (3, none) else
                        (if own = false ∧ ¬ nI (mt_n to) = jv_oN (m_orn tsC ty n s rc) then 8 else 0, some (mt_n to))
theorem wx_I {x : Nat} {q : Nat → Nat} {h : jv_H} (hS : rf_S x q h) (k : Nat) (hk : k < 42) (hr : rf_arr k = true) (j i : Nat) (v : Int32) : jv_I (jv_wI h x j v) (q k) i = jv_I h (q k) i := by rw [jv_I_wI, if_neg (fun z => rf_x hS hk hr z.1)]
set_option maxHeartbeats 4000000 in
set_option maxRecDepth 100000 in
theorem r_met0 {lA : Launch} (hlt : lA.stackTraces = false) {D : jv_D} {base : Nat} {x : Nat} {q : Nat → Nat} {h : jv_H} {c e ec pk : Nat} {su : Option Nat} {ty n s rc : Int32} {tsC ts : List mT} (hS : rf_S x q h) (hc : c < 13) (he : e < 8) (hec : ec < 8) (hE : rf_E q h e ts) (hV : rf_V q h e ts) (hEC : rf_E q h ec tsC) (hVC : rf_V q h ec tsC) (hce : jv_I h (q 22) c = nI ec) (hpk : jv_I h (q 23) c = nI pk) (hpk5 : pk < 5) (hsu : jv_I h (q 24) c = jv_oN su) (hsu16 : ∀ u, su = some u → u < 16) (hg : ∀ k, k < ts.length → m_hg ts 11 k) (hgC : ∀ k, k < tsC.length → m_hg tsC 11 k) : jv_Met lA D base yX8_met (.code yX8_met cX8_met 14 (some .int)) 15 0 0 [.ref x, .int (nI c), .int (nI e), .int (nI 0), .int ty, .int n, .int s, .int rc] h (fun v h' => v = some (.int (nI (m_met (decide (e = ec)) tsC ts pk su 0 ty n s rc).1)) ∧ rs x q h h' ∧ jv_I h' x 32 = jv_oN (m_met (decide (e = ec)) tsC ts pk su 0 ty n s rc).2 ∧ jv_I h' x 0 = jv_I h x 0 ∧ jv_I h' (q 22) c = nI ec ∧ jv_I h' (q 23) c = nI pk ∧ jv_I h' (q 24) c = jv_oN su) jv_no := by
  refine jv_ofV (lo := [(0, .ref x), (1, .int (nI c)), (2, .int (nI e)), (3, .int (nI 0)), (4, .int ty), (5, .int n), (6, .int s), (7, .int rc)]) hlt (by decide) (Nat.le_of_ble_eq_true rfl) rfl (fun E hEl hEd hEz Z G hr ht hnm => ?_)
  subst hEl; subst hEd; subst hEz
  have hlen := hE.2.1
  have hlenC := hEC.2.1
  have hrs : rs x q h h := rs.rf
  have hx0 : jv_I h x 0 = jv_I h x 0 := rfl
  have hsc : sc x q h h := sc.rf
  have hco : m_co tsC 0 ty n s = none := rfl
  refine jv_aload_n (q := 1) G 0 dX8_met_0 rfl rfl rfl ?_
  refine jv_iconst (q := 2) (v := (-1)) G dX8_met_1 (by decide) rfl ?_
  refine jv_putI (q := 5) G dX8_met_2 fl_X8_192 rfl (hsc.S hS).1 rfl ?_
  have hr1 : rs x q h (jv_wI h x 32 (-1)) := rs.rf.wI (-1) (Or.inl ⟨rfl, Or.inr (Or.inl rfl)⟩)
  have hran : jv_I (jv_wI h x 32 (-1)) x 32 = (-1) := jv_I_self _ _ _ _
  have hSb := hsc.S hS
  have hE := hr1.E hSb (hsc.E hS hE)
  have hV := hr1.V hSb (hsc.V hS hV)
  have hEC := hr1.E hSb (hsc.E hS hEC)
  have hVC := hr1.V hSb (hsc.V hS hVC)
  have hce := (wx_I hSb 22 (by decide) rfl 32 c (-1)).trans ((hsc.I2 hS 22 (by decide) rfl (by decide) c).trans hce)
  have hpk := (wx_I hSb 23 (by decide) rfl 32 c (-1)).trans ((hsc.I2 hS 23 (by decide) rfl (by decide) c).trans hpk)
  have hsu := (wx_I hSb 24 (by decide) rfl 32 c (-1)).trans ((hsc.I2 hS 24 (by decide) rfl (by decide) c).trans hsu)
  have hrs := (hrs.tr hsc.rs).tr hr1
  have hx0 : jv_I (jv_wI h x 32 (-1)) x 0 = jv_I h x 0 := by rw [jv_I_wI, if_neg (fun z => by cases z.2)] <;> exact (hsc.x hS 0).trans hx0
  have hS := hr1.S hSb
  generalize jv_wI h x 32 (-1) = h1 at hran hx0 hE hV hEC hVC hce hpk hsu hrs hS ⊢
  have hsc : sc x q h1 h1 := sc.rf
  refine jv_aload_n (q := 6) G 0 dX8_met_5 rfl rfl rfl ?_
  refine jv_iload_n (q := 7) G 2 dX8_met_6 rfl rfl rfl ?_
  refine jv_iload (q := 9) G 4 dX8_met_7 rfl rfl ?_
  refine jv_callV_I (q := 12) (h1 := h1) (As := [.int (nI e), .int ty]) (rest := []) (ce' := 0) (sl' := 0) (r := jv_oN ((m_at ts ty).map (fun k => 10 * e + k))) G Z ml_X8_151 (r_at hlt (hsc.S hS) he (hsc.E hS hE)) (hsc.S hS).1 dX8_met_9 rfl (by decide) (by decide) (by decide) (by decide) (Nat.le_of_ble_eq_true rfl) rfl rfl rfl rfl ?_
  rcases Option.eq_none_or_eq_some (m_at ts ty) with hk4 | ⟨k2, hk4⟩
  · refine jv_topI (y := (-1)) (by rw [hk4]; rfl) ?_
    refine jv_istore (q := 14) (lo' := [(8, .int (-1)), (0, .ref x), (1, .int (nI c)), (2, .int (nI e)), (3, .int (nI 0)), (4, .int ty), (5, .int n), (6, .int s), (7, .int rc)]) G dX8_met_12 (by decide) rfl rfl ?_
    refine jv_iload_n (q := 15) G 3 dX8_met_14 rfl rfl rfl ?_
    refine jv_aload_n (q := 16) G 1 dX8_met_15 rfl rfl rfl ?_
    refine jv_getQ (q := 19) G dX8_met_16 fl_X8_68 rfl (hsc.S hS).1 (rf_p22 (hsc.S hS)) rfl ?_
    refine jv_iload_n (q := 20) G 2 dX8_met_19 rfl rfl rfl ?_
    refine jv_iald (q := 21) G dX8_met_20 (rf_a22 (hsc.S hS)) rfl (by omega) (by decide) ((hsc.I2 hS 22 (by decide) rfl (by decide) c).trans hce) rfl ?_
    refine jv_icmp_eqN (q := 24) (tgt := 39) G dX8_met_21 (by decide) rfl (by omega) (by omega) (fun c5 => ?_) (fun c5 => ?_)
    · refine jv_iconst (q := 40) (v := (-1)) G dX8_met_39 (by decide) rfl ?_
      refine jv_istore (q := 42) (lo' := [(9, .int (-1)), (8, .int (-1)), (0, .ref x), (1, .int (nI c)), (2, .int (nI e)), (3, .int (nI 0)), (4, .int ty), (5, .int n), (6, .int s), (7, .int rc)]) G dX8_met_40 (by decide) rfl rfl ?_
      refine jv_iload (q := 44) G 0 dX8_met_42 rfl rfl ?_
      refine jv_iconst (q := 45) (v := (-1)) G dX8_met_44 (by decide) rfl ?_
      refine jv_icmp_eq (q := 48) (tgt := 111) G dX8_met_45 (by decide) rfl (fun c6 => ?_) (fun c6 => ?_)
      · refine jv_iload_n (q := 112) G 5 dX8_met_111 rfl rfl rfl ?_
        refine jv_iconst (q := 113) (v := nI 2) G dX8_met_112 (by decide) rfl ?_
        refine jv_icmp_eqN (q := 116) (tgt := 121) G dX8_met_113 (by decide) rfl (by omega) (by omega) (fun c7 => ?_) (fun c7 => ?_)
        · omega
        · refine jv_iload_n (q := 117) G 5 dX8_met_116 rfl rfl rfl ?_
          refine jv_iconst (q := 118) (v := nI 4) G dX8_met_117 (by decide) rfl ?_
          refine jv_icmp_neN (q := 121) (tgt := 125) G dX8_met_118 (by decide) rfl (by omega) (by omega) (fun c8 => ?_) (fun c8 => ?_)
          · refine jv_iconst (q := 126) (v := nI 0) G dX8_met_125 (by decide) rfl ?_
            refine jv_istore (q := 128) (lo' := [(10, .int (nI 0)), (9, .int (-1)), (8, .int (-1)), (0, .ref x), (1, .int (nI c)), (2, .int (nI e)), (3, .int (nI 0)), (4, .int ty), (5, .int n), (6, .int s), (7, .int rc)]) G dX8_met_126 (by decide) rfl rfl ?_
            refine jv_iload (q := 130) G 0 dX8_met_128 rfl rfl ?_
            refine jv_if_eqN (q := 133) (tgt := 143) G dX8_met_130 (by decide) rfl (by omega) (fun c9 => ?_) (fun c9 => ?_)
            · refine jv_iconst (q := 144) (v := (-1)) G dX8_met_143 (by decide) rfl ?_
              refine jv_istore (q := 146) (lo' := [(11, .int (-1)), (10, .int (nI 0)), (9, .int (-1)), (8, .int (-1)), (0, .ref x), (1, .int (nI c)), (2, .int (nI e)), (3, .int (nI 0)), (4, .int ty), (5, .int n), (6, .int s), (7, .int rc)]) G dX8_met_144 (by decide) rfl rfl ?_
              refine jv_iload (q := 148) G 3 dX8_met_146 rfl rfl ?_
              refine jv_iconst (q := 149) (v := (-1)) G dX8_met_148 (by decide) rfl ?_
              refine jv_icmp_eq (q := 152) (tgt := 163) G dX8_met_149 (by decide) rfl (fun c10 => ?_) (fun c10 => ?_)
              · refine jv_iconst (q := 164) (v := nI 1) G dX8_met_163 (by decide) rfl ?_
                refine jv_iret G hr dX8_met_164 (Nat.le_of_ble_eq_true rfl) (Nat.le_of_ble_eq_true rfl) ?_
                have hz : (m_met (decide (e = ec)) tsC ts pk su 0 ty n s rc) = (1, none) := by
                  unfold m_met m_isC m_bd
                  simp only [*, if_true, if_false, Bool.false_eq_true, reduceIte, Option.map_some, decide_true, decide_false, not_true_eq_false, not_false_eq_true, eq_self, ne_eq, Nat.reduceLT, Nat.lt_irrefl, Nat.reduceEqDiff, and_true, true_and, and_false, false_and, or_true, true_or, or_false, false_or, Bool.or_true, Bool.or_false, Bool.true_or, Bool.false_or, reduceCtorEq] <;> rfl
                exact ⟨by rw [hz], hrs.tr hsc.rs, by rw [hz]; exact (hsc.x hS 32).trans hran, (hsc.x hS 0).trans hx0, (hsc.I2 hS 22 (by decide) rfl (by decide) c).trans hce, (hsc.I2 hS 23 (by decide) rfl (by decide) c).trans hpk, (hsc.I2 hS 24 (by decide) rfl (by decide) c).trans hsu⟩
              · exact absurd rfl c10
            · omega
          · omega
      · exact absurd rfl c6
    · refine jv_aload_n (q := 25) G 1 dX8_met_24 rfl rfl rfl ?_
      refine jv_iload_n (q := 26) G 2 dX8_met_25 rfl rfl rfl ?_
      refine jv_iload_n (q := 27) G 4 dX8_met_26 rfl rfl rfl ?_
      refine jv_iload (q := 29) G 5 dX8_met_27 rfl rfl ?_
      refine jv_iload (q := 31) G 6 dX8_met_29 rfl rfl ?_
      refine jv_iload (q := 33) G 7 dX8_met_31 rfl rfl ?_
      refine jv_callV_I (q := 36) (h1 := h1) (As := [.int (nI c), .int (nI 0), .int ty, .int n, .int s]) (rest := []) (ce' := 0) (sl' := 0) (r := (ffE ec (m_co tsC 0 ty n s))) G Z ml_X8_195 (r_constantOf hlt hsc hS hc hec hEC hce (by decide) hgC) (hsc.S hS).1 dX8_met_33 rfl (by decide) (by decide) (by decide) (by decide) (Nat.le_of_ble_eq_true rfl) rfl rfl rfl rfl ?_
      refine jv_topI (y := (-1)) rfl ?_
      refine jv_goto (q := 40) G dX8_met_36 (by decide) ?_
      refine jv_istore (q := 42) (lo' := [(9, .int (-1)), (8, .int (-1)), (0, .ref x), (1, .int (nI c)), (2, .int (nI e)), (3, .int (nI 0)), (4, .int ty), (5, .int n), (6, .int s), (7, .int rc)]) G dX8_met_40 (by decide) rfl rfl ?_
      refine jv_iload (q := 44) G 0 dX8_met_42 rfl rfl ?_
      refine jv_iconst (q := 45) (v := (-1)) G dX8_met_44 (by decide) rfl ?_
      refine jv_icmp_eq (q := 48) (tgt := 111) G dX8_met_45 (by decide) rfl (fun c11 => ?_) (fun c11 => ?_)
      · refine jv_iload_n (q := 112) G 5 dX8_met_111 rfl rfl rfl ?_
        refine jv_iconst (q := 113) (v := nI 2) G dX8_met_112 (by decide) rfl ?_
        refine jv_icmp_eqN (q := 116) (tgt := 121) G dX8_met_113 (by decide) rfl (by omega) (by omega) (fun c12 => ?_) (fun c12 => ?_)
        · omega
        · refine jv_iload_n (q := 117) G 5 dX8_met_116 rfl rfl rfl ?_
          refine jv_iconst (q := 118) (v := nI 4) G dX8_met_117 (by decide) rfl ?_
          refine jv_icmp_neN (q := 121) (tgt := 125) G dX8_met_118 (by decide) rfl (by omega) (by omega) (fun c13 => ?_) (fun c13 => ?_)
          · refine jv_iconst (q := 126) (v := nI 0) G dX8_met_125 (by decide) rfl ?_
            refine jv_istore (q := 128) (lo' := [(10, .int (nI 0)), (9, .int (-1)), (8, .int (-1)), (0, .ref x), (1, .int (nI c)), (2, .int (nI e)), (3, .int (nI 0)), (4, .int ty), (5, .int n), (6, .int s), (7, .int rc)]) G dX8_met_126 (by decide) rfl rfl ?_
            refine jv_iload (q := 130) G 0 dX8_met_128 rfl rfl ?_
            refine jv_if_eqN (q := 133) (tgt := 143) G dX8_met_130 (by decide) rfl (by omega) (fun c14 => ?_) (fun c14 => ?_)
            · refine jv_iconst (q := 144) (v := (-1)) G dX8_met_143 (by decide) rfl ?_
              refine jv_istore (q := 146) (lo' := [(11, .int (-1)), (10, .int (nI 0)), (9, .int (-1)), (8, .int (-1)), (0, .ref x), (1, .int (nI c)), (2, .int (nI e)), (3, .int (nI 0)), (4, .int ty), (5, .int n), (6, .int s), (7, .int rc)]) G dX8_met_144 (by decide) rfl rfl ?_
              refine jv_iload (q := 148) G 3 dX8_met_146 rfl rfl ?_
              refine jv_iconst (q := 149) (v := (-1)) G dX8_met_148 (by decide) rfl ?_
              refine jv_icmp_eq (q := 152) (tgt := 163) G dX8_met_149 (by decide) rfl (fun c15 => ?_) (fun c15 => ?_)
              · refine jv_iconst (q := 164) (v := nI 1) G dX8_met_163 (by decide) rfl ?_
                refine jv_iret G hr dX8_met_164 (Nat.le_of_ble_eq_true rfl) (Nat.le_of_ble_eq_true rfl) ?_
                have hz : (m_met (decide (e = ec)) tsC ts pk su 0 ty n s rc) = (1, none) := by
                  unfold m_met m_isC m_bd
                  simp only [*, if_true, if_false, Bool.false_eq_true, reduceIte, Option.map_some, decide_true, decide_false, not_true_eq_false, not_false_eq_true, eq_self, ne_eq, Nat.reduceLT, Nat.lt_irrefl, Nat.reduceEqDiff, and_true, true_and, and_false, false_and, or_true, true_or, or_false, false_or, Bool.or_true, Bool.or_false, Bool.true_or, Bool.false_or, reduceCtorEq] <;> rfl
                exact ⟨by rw [hz], hrs.tr hsc.rs, by rw [hz]; exact (hsc.x hS 32).trans hran, (hsc.x hS 0).trans hx0, (hsc.I2 hS 22 (by decide) rfl (by decide) c).trans hce, (hsc.I2 hS 23 (by decide) rfl (by decide) c).trans hpk, (hsc.I2 hS 24 (by decide) rfl (by decide) c).trans hsu⟩
              · exact absurd rfl c15
            · omega
          · omega
      · exact absurd rfl c11
  · refine jv_topI (y := nI (10 * e + k2)) (by rw [hk4]; rfl) ?_
    obtain ⟨t3, ht3, nt3, lt3⟩ := m_at_some hk4
    have Tt3 := (hE.2.2 k2 t3 ht3).1
    have Ot3 := (hE.2.2 k2 t3 ht3).2
    have Lt3 := hE.2.1
    have Bt3n := Ot3.1; have Bt3k := Ot3.2.1
    refine jv_istore (q := 14) (lo' := [(8, .int (nI (10 * e + k2))), (0, .ref x), (1, .int (nI c)), (2, .int (nI e)), (3, .int (nI 0)), (4, .int ty), (5, .int n), (6, .int s), (7, .int rc)]) G dX8_met_12 (by decide) rfl rfl ?_
    refine jv_iload_n (q := 15) G 3 dX8_met_14 rfl rfl rfl ?_
    refine jv_aload_n (q := 16) G 1 dX8_met_15 rfl rfl rfl ?_
    refine jv_getQ (q := 19) G dX8_met_16 fl_X8_68 rfl (hsc.S hS).1 (rf_p22 (hsc.S hS)) rfl ?_
    refine jv_iload_n (q := 20) G 2 dX8_met_19 rfl rfl rfl ?_
    refine jv_iald (q := 21) G dX8_met_20 (rf_a22 (hsc.S hS)) rfl (by omega) (by decide) ((hsc.I2 hS 22 (by decide) rfl (by decide) c).trans hce) rfl ?_
    refine jv_icmp_eqN (q := 24) (tgt := 39) G dX8_met_21 (by decide) rfl (by omega) (by omega) (fun c16 => ?_) (fun c16 => ?_)
    · refine jv_iconst (q := 40) (v := (-1)) G dX8_met_39 (by decide) rfl ?_
      refine jv_istore (q := 42) (lo' := [(9, .int (-1)), (8, .int (nI (10 * e + k2))), (0, .ref x), (1, .int (nI c)), (2, .int (nI e)), (3, .int (nI 0)), (4, .int ty), (5, .int n), (6, .int s), (7, .int rc)]) G dX8_met_40 (by decide) rfl rfl ?_
      refine jv_iload (q := 44) G 0 dX8_met_42 rfl rfl ?_
      refine jv_iconst (q := 45) (v := (-1)) G dX8_met_44 (by decide) rfl ?_
      refine jv_icmp_eq (q := 48) (tgt := 111) G dX8_met_45 (by decide) rfl (fun c17 => ?_) (fun c17 => ?_)
      · refine jv_iload_n (q := 112) G 5 dX8_met_111 rfl rfl rfl ?_
        refine jv_iconst (q := 113) (v := nI 2) G dX8_met_112 (by decide) rfl ?_
        refine jv_icmp_eqN (q := 116) (tgt := 121) G dX8_met_113 (by decide) rfl (by omega) (by omega) (fun c18 => ?_) (fun c18 => ?_)
        · omega
        · refine jv_iload_n (q := 117) G 5 dX8_met_116 rfl rfl rfl ?_
          refine jv_iconst (q := 118) (v := nI 4) G dX8_met_117 (by decide) rfl ?_
          refine jv_icmp_neN (q := 121) (tgt := 125) G dX8_met_118 (by decide) rfl (by omega) (by omega) (fun c19 => ?_) (fun c19 => ?_)
          · refine jv_iconst (q := 126) (v := nI 0) G dX8_met_125 (by decide) rfl ?_
            refine jv_istore (q := 128) (lo' := [(10, .int (nI 0)), (9, .int (-1)), (8, .int (nI (10 * e + k2))), (0, .ref x), (1, .int (nI c)), (2, .int (nI e)), (3, .int (nI 0)), (4, .int ty), (5, .int n), (6, .int s), (7, .int rc)]) G dX8_met_126 (by decide) rfl rfl ?_
            refine jv_iload (q := 130) G 0 dX8_met_128 rfl rfl ?_
            refine jv_if_eqN (q := 133) (tgt := 143) G dX8_met_130 (by decide) rfl (by omega) (fun c20 => ?_) (fun c20 => ?_)
            · refine jv_iconst (q := 144) (v := (-1)) G dX8_met_143 (by decide) rfl ?_
              refine jv_istore (q := 146) (lo' := [(11, .int (-1)), (10, .int (nI 0)), (9, .int (-1)), (8, .int (nI (10 * e + k2))), (0, .ref x), (1, .int (nI c)), (2, .int (nI e)), (3, .int (nI 0)), (4, .int ty), (5, .int n), (6, .int s), (7, .int rc)]) G dX8_met_144 (by decide) rfl rfl ?_
              refine jv_iload (q := 148) G 3 dX8_met_146 rfl rfl ?_
              refine jv_iconst (q := 149) (v := (-1)) G dX8_met_148 (by decide) rfl ?_
              refine jv_icmp_eq (q := 152) (tgt := 163) G dX8_met_149 (by decide) rfl (fun c21 => ?_) (fun c21 => ?_)
              · exact absurd c21 (jv_nI_m1 (by omega))
              · refine jv_iload (q := 154) G 1 dX8_met_152 rfl rfl ?_
                refine jv_if_eqN (q := 157) (tgt := 165) G dX8_met_154 (by decide) rfl (by omega) (fun c22 => ?_) (fun c22 => ?_)
                · refine jv_aload_n (q := 166) G 4 dX8_met_165 rfl rfl rfl ?_
                  refine jv_getQ (q := 169) G dX8_met_166 fl_X8_29 rfl (hsc.S hS).1 (rf_p8 (hsc.S hS)) rfl ?_
                  refine jv_iload (q := 171) G 3 dX8_met_169 rfl rfl ?_
                  refine jv_zald (q := 172) G dX8_met_171 (rf_a8 (hsc.S hS)) rfl (by omega) (by decide) (rt_8 (hsc.T hS Tt3)) rfl ?_
                  refine jv_if_neB (q := 175) (tgt := 193) G dX8_met_172 (by decide) rfl (fun c23 => ?_) (fun c23 => ?_)
                  · refine jv_iload_n (q := 194) G 7 dX8_met_193 rfl rfl rfl ?_
                    refine jv_iconst (q := 195) (v := nI 2) G dX8_met_194 (by decide) rfl ?_
                    refine jv_icmp_neN (q := 198) (tgt := 208) G dX8_met_195 (by decide) rfl (by omega) (by omega) (fun c24 => ?_) (fun c24 => ?_)
                    · refine jv_iload_n (q := 209) G 7 dX8_met_208 rfl rfl rfl ?_
                      refine jv_iconst (q := 210) (v := nI 4) G dX8_met_209 (by decide) rfl ?_
                      refine jv_icmp_neN (q := 213) (tgt := 226) G dX8_met_210 (by decide) rfl (by omega) (by omega) (fun c25 => ?_) (fun c25 => ?_)
                      · refine jv_iload_n (q := 227) G 7 dX8_met_226 rfl rfl rfl ?_
                        refine jv_iconst (q := 228) (v := nI 5) G dX8_met_227 (by decide) rfl ?_
                        refine jv_icmp_neN (q := 231) (tgt := 247) G dX8_met_228 (by decide) rfl (by omega) (by omega) (fun c26 => ?_) (fun c26 => ?_)
                        · refine jv_iload_n (q := 248) G 7 dX8_met_247 rfl rfl rfl ?_
                          refine jv_iconst (q := 249) (v := nI 2) G dX8_met_248 (by decide) rfl ?_
                          refine jv_icmp_geN (q := 252) (tgt := 266) G dX8_met_249 (by decide) rfl (by omega) (by omega) (fun c27 => ?_) (fun c27 => ?_)
                          · omega
                          · refine jv_aload_n (q := 253) G 4 dX8_met_252 rfl rfl rfl ?_
                            refine jv_iload_n (q := 254) G 6 dX8_met_253 rfl rfl rfl ?_
                            refine jv_iload (q := 256) G 3 dX8_met_254 rfl rfl ?_
                            refine jv_iload (q := 258) G 9 dX8_met_256 rfl rfl ?_
                            refine jv_iload (q := 260) G 10 dX8_met_258 rfl rfl ?_
                            refine jv_callV_I (q := 263) (h1 := h1) (As := [.int (nI e), .int (nI (10 * e + k2)), .int n, .int s]) (rest := []) (ce' := 0) (sl' := 0) (r := (ffE e (m_ff ts 11 k2 n s))) G Z ml_X8_173 (r_findField hlt hsc hS he hE 11 k2 (hg k2 (by omega)) (by omega)) (hsc.S hS).1 dX8_met_260 rfl (by decide) (by decide) (by decide) (by decide) (Nat.le_of_ble_eq_true rfl) rfl rfl rfl rfl ?_
                            rcases Option.eq_none_or_eq_some (m_ff ts 11 k2 n s) with hp31 | ⟨p28, hp31⟩
                            · refine jv_topI (y := (-1)) (by rw [hp31]; rfl) ?_
                              refine jv_goto (q := 277) G dX8_met_263 (by decide) ?_
                              refine jv_istore (q := 279) (lo' := [(12, .int (-1)), (11, .int (-1)), (10, .int (nI 0)), (9, .int (-1)), (8, .int (nI (10 * e + k2))), (0, .ref x), (1, .int (nI c)), (2, .int (nI e)), (3, .int (nI 0)), (4, .int ty), (5, .int n), (6, .int s), (7, .int rc)]) G dX8_met_277 (by decide) rfl rfl ?_
                              refine jv_iload (q := 281) G 0 dX8_met_279 rfl rfl ?_
                              refine jv_iconst (q := 282) (v := (-1)) G dX8_met_281 (by decide) rfl ?_
                              refine jv_icmp_ne (q := 285) (tgt := 287) G dX8_met_282 (by decide) rfl (fun c32 => ?_) (fun c32 => ?_)
                              · exact absurd rfl c32
                              · refine jv_iconst (q := 286) (v := nI 2) G dX8_met_285 (by decide) rfl ?_
                                refine jv_iret G hr dX8_met_286 (Nat.le_of_ble_eq_true rfl) (Nat.le_of_ble_eq_true rfl) ?_
                                have hz : (m_met (decide (e = ec)) tsC ts pk su 0 ty n s rc) = (2, none) := by
                                  unfold m_met m_isC m_bd
                                  simp only [*, if_true, if_false, Bool.false_eq_true, reduceIte, Option.map_some, decide_true, decide_false, not_true_eq_false, not_false_eq_true, eq_self, ne_eq, Nat.reduceLT, Nat.lt_irrefl, Nat.reduceEqDiff, and_true, true_and, and_false, false_and, or_true, true_or, or_false, false_or, Bool.or_true, Bool.or_false, Bool.true_or, Bool.false_or, reduceCtorEq] <;> rfl
                                exact ⟨by rw [hz], hrs.tr hsc.rs, by rw [hz]; exact (hsc.x hS 32).trans hran, (hsc.x hS 0).trans hx0, (hsc.I2 hS 22 (by decide) rfl (by decide) c).trans hce, (hsc.I2 hS 23 (by decide) rfl (by decide) c).trans hpk, (hsc.I2 hS 24 (by decide) rfl (by decide) c).trans hsu⟩
                            · refine jv_topI (y := nI (6 * (10 * e + p28.1) + p28.2)) (by rw [hp31]; rfl) ?_
                              obtain ⟨t29, ht29, m30, hm30⟩ := m_ff_mem hp31
                              have Tt29 := (hE.2.2 p28.1 t29 ht29).1
                              have Ot29 := (hE.2.2 p28.1 t29 ht29).2
                              have Lt29 := hE.2.1
                              have lt29 := jv_ltGet ht29
                              have Mm30 := rt_m Tt29 hm30
                              have Om30 := Ot29.2.2.2.2.2.2 m30 (List.mem_of_getElem? hm30)
                              have Lm30 := Ot29.2.2.2.2.2.1
                              have lm30 := jv_ltGet hm30
                              have Bm30n := Om30.1; have Bm30s := Om30.2.1; have Bm30a := Om30.2.2.1; have Bt29n := Ot29.1; have Bt29k := Ot29.2.1
                              refine jv_goto (q := 277) G dX8_met_263 (by decide) ?_
                              refine jv_istore (q := 279) (lo' := [(12, .int (nI (6 * (10 * e + p28.1) + p28.2))), (11, .int (-1)), (10, .int (nI 0)), (9, .int (-1)), (8, .int (nI (10 * e + k2))), (0, .ref x), (1, .int (nI c)), (2, .int (nI e)), (3, .int (nI 0)), (4, .int ty), (5, .int n), (6, .int s), (7, .int rc)]) G dX8_met_277 (by decide) rfl rfl ?_
                              refine jv_iload (q := 281) G 0 dX8_met_279 rfl rfl ?_
                              refine jv_iconst (q := 282) (v := (-1)) G dX8_met_281 (by decide) rfl ?_
                              refine jv_icmp_ne (q := 285) (tgt := 287) G dX8_met_282 (by decide) rfl (fun c33 => ?_) (fun c33 => ?_)
                              · refine jv_aload_n (q := 288) G 5 dX8_met_287 rfl rfl rfl ?_
                                refine jv_iload_n (q := 289) G 6 dX8_met_288 rfl rfl rfl ?_
                                refine jv_iload_n (q := 290) G 7 dX8_met_289 rfl rfl rfl ?_
                                refine jv_iload (q := 292) G 0 dX8_met_290 rfl rfl ?_
                                refine jv_callV_I (q := 295) (h1 := h1) (As := [.int (nI c), .int (nI e), .int (nI (6 * (10 * e + p28.1) + p28.2))]) (rest := []) (ce' := 0) (sl' := 0) (r := jv_bI (m_mr ts pk su t29 m30)) G Z ml_X8_199 (r_mayReach hlt hsc hS hc he hE hV ht29 hm30 hpk hpk5 hsu hsu16) (hsc.S hS).1 dX8_met_292 rfl (by decide) (by decide) (by decide) (by decide) (Nat.le_of_ble_eq_true rfl) rfl rfl rfl rfl ?_
                                refine jv_if_neB (q := 298) (tgt := 300) G dX8_met_295 (by decide) rfl (fun c34 => ?_) (fun c34 => ?_)
                                · refine jv_aload_n (q := 301) G 5 dX8_met_300 rfl rfl rfl ?_
                                  refine jv_getQ (q := 304) G dX8_met_301 fl_X8_56 rfl (hsc.S hS).1 (rf_p17 (hsc.S hS)) rfl ?_
                                  refine jv_iload (q := 306) G 0 dX8_met_304 rfl rfl ?_
                                  refine jv_zald (q := 307) G dX8_met_306 (rf_a17 (hsc.S hS)) rfl (by omega) (by decide) (hsc.M hS Mm30).2.2.2.2.1 rfl ?_
                                  refine jv_iload_n (q := 308) G 8 dX8_met_307 rfl rfl rfl ?_
                                  refine jv_iconst (q := 309) (v := nI 1) G dX8_met_308 (by decide) rfl ?_
                                  refine jv_icmp_eqN (q := 312) (tgt := 317) G dX8_met_309 (by decide) rfl (by omega) (by omega) (fun c35 => ?_) (fun c35 => ?_)
                                  · omega
                                  · refine jv_iload_n (q := 313) G 8 dX8_met_312 rfl rfl rfl ?_
                                    refine jv_iconst (q := 314) (v := nI 3) G dX8_met_313 (by decide) rfl ?_
                                    refine jv_icmp_neN (q := 317) (tgt := 321) G dX8_met_314 (by decide) rfl (by omega) (by omega) (fun c36 => ?_) (fun c36 => ?_)
                                    · refine jv_iconst (q := 322) (v := nI 0) G dX8_met_321 (by decide) rfl ?_
                                      refine jv_topI (y := jv_bI false) rfl ?_
                                      refine jv_icmp_eqB (q := 325) (tgt := 327) G dX8_met_322 (by decide) rfl (fun c37 => ?_) (fun c37 => ?_)
                                      · refine jv_iload (q := 329) G 2 dX8_met_327 rfl rfl ?_
                                        refine jv_if_neN (q := 332) (tgt := 357) G dX8_met_329 (by decide) rfl (by omega) (fun c38 => ?_) (fun c38 => ?_)
                                        · omega
                                        · refine jv_aload_n (q := 333) G 5 dX8_met_332 rfl rfl rfl ?_
                                          refine jv_iload_n (q := 334) G 8 dX8_met_333 rfl rfl rfl ?_
                                          refine jv_iconst (q := 335) (v := nI 3) G dX8_met_334 (by decide) rfl ?_
                                          refine jv_icmp_neN (q := 338) (tgt := 351) G dX8_met_335 (by decide) rfl (by omega) (by omega) (fun c39 => ?_) (fun c39 => ?_)
                                          · refine jv_iconst (q := 352) (v := (-1)) G dX8_met_351 (by decide) rfl ?_
                                            refine jv_putI (q := 355) G dX8_met_352 fl_X8_192 rfl (hsc.S hS).1 rfl ?_
                                            have hr1 : rs x q h1 (jv_wI h1 x 32 (-1)) := rs.rf.wI (-1) (Or.inl ⟨rfl, Or.inr (Or.inl rfl)⟩)
                                            have hran : jv_I (jv_wI h1 x 32 (-1)) x 32 = (-1) := jv_I_self _ _ _ _
                                            have hSb := hsc.S hS
                                            have hE := hr1.E hSb (hsc.E hS hE)
                                            have hV := hr1.V hSb (hsc.V hS hV)
                                            have hEC := hr1.E hSb (hsc.E hS hEC)
                                            have hVC := hr1.V hSb (hsc.V hS hVC)
                                            have hce := (wx_I hSb 22 (by decide) rfl 32 c (-1)).trans ((hsc.I2 hS 22 (by decide) rfl (by decide) c).trans hce)
                                            have hpk := (wx_I hSb 23 (by decide) rfl 32 c (-1)).trans ((hsc.I2 hS 23 (by decide) rfl (by decide) c).trans hpk)
                                            have hsu := (wx_I hSb 24 (by decide) rfl 32 c (-1)).trans ((hsc.I2 hS 24 (by decide) rfl (by decide) c).trans hsu)
                                            have hrs := (hrs.tr hsc.rs).tr hr1
                                            have hx0 : jv_I (jv_wI h1 x 32 (-1)) x 0 = jv_I h x 0 := by rw [jv_I_wI, if_neg (fun z => by cases z.2)] <;> exact (hsc.x hS 0).trans hx0
                                            have hS := hr1.S hSb
                                            generalize jv_wI h1 x 32 (-1) = h40 at hran hx0 hE hV hEC hVC hce hpk hsu hrs hS ⊢
                                            have hsc : sc x q h40 h40 := sc.rf
                                            refine jv_iconst (q := 356) (v := nI 0) G dX8_met_355 (by decide) rfl ?_
                                            refine jv_iret G hr dX8_met_356 (Nat.le_of_ble_eq_true rfl) (Nat.le_of_ble_eq_true rfl) ?_
                                            have hz : (m_met (decide (e = ec)) tsC ts pk su 0 ty n s rc) = (0, none) := by
                                              unfold m_met m_isC m_bd
                                              simp only [*, if_true, if_false, Bool.false_eq_true, reduceIte, Option.map_some, decide_true, decide_false, not_true_eq_false, not_false_eq_true, eq_self, ne_eq, Nat.reduceLT, Nat.lt_irrefl, Nat.reduceEqDiff, and_true, true_and, and_false, false_and, or_true, true_or, or_false, false_or, Bool.or_true, Bool.or_false, Bool.true_or, Bool.false_or, reduceCtorEq] <;> rfl
                                            exact ⟨by rw [hz], hrs.tr hsc.rs, by rw [hz]; exact (hsc.x hS 32).trans hran, (hsc.x hS 0).trans hx0, (hsc.I2 hS 22 (by decide) rfl (by decide) c).trans hce, (hsc.I2 hS 23 (by decide) rfl (by decide) c).trans hpk, (hsc.I2 hS 24 (by decide) rfl (by decide) c).trans hsu⟩
                                          · omega
                                      · refine jv_iconst (q := 326) (v := nI 4) G dX8_met_325 (by decide) rfl ?_
                                        refine jv_iret G hr dX8_met_326 (Nat.le_of_ble_eq_true rfl) (Nat.le_of_ble_eq_true rfl) ?_
                                        have hz : (m_met (decide (e = ec)) tsC ts pk su 0 ty n s rc) = (4, none) := by
                                          unfold m_met m_isC m_bd
                                          simp only [*, if_true, if_false, Bool.false_eq_true, reduceIte, Option.map_some, decide_true, decide_false, not_true_eq_false, not_false_eq_true, eq_self, ne_eq, Nat.reduceLT, Nat.lt_irrefl, Nat.reduceEqDiff, and_true, true_and, and_false, false_and, or_true, true_or, or_false, false_or, Bool.or_true, Bool.or_false, Bool.true_or, Bool.false_or, reduceCtorEq] <;> rfl
                                        exact ⟨by rw [hz], hrs.tr hsc.rs, by rw [hz]; exact (hsc.x hS 32).trans hran, (hsc.x hS 0).trans hx0, (hsc.I2 hS 22 (by decide) rfl (by decide) c).trans hce, (hsc.I2 hS 23 (by decide) rfl (by decide) c).trans hpk, (hsc.I2 hS 24 (by decide) rfl (by decide) c).trans hsu⟩
                                    · omega
                                · refine jv_iconst (q := 299) (v := nI 3) G dX8_met_298 (by decide) rfl ?_
                                  refine jv_iret G hr dX8_met_299 (Nat.le_of_ble_eq_true rfl) (Nat.le_of_ble_eq_true rfl) ?_
                                  have hz : (m_met (decide (e = ec)) tsC ts pk su 0 ty n s rc) = (3, none) := by
                                    unfold m_met m_isC m_bd
                                    simp only [*, if_true, if_false, Bool.false_eq_true, reduceIte, Option.map_some, decide_true, decide_false, not_true_eq_false, not_false_eq_true, eq_self, ne_eq, Nat.reduceLT, Nat.lt_irrefl, Nat.reduceEqDiff, and_true, true_and, and_false, false_and, or_true, true_or, or_false, false_or, Bool.or_true, Bool.or_false, Bool.true_or, Bool.false_or, reduceCtorEq] <;> rfl
                                  exact ⟨by rw [hz], hrs.tr hsc.rs, by rw [hz]; exact (hsc.x hS 32).trans hran, (hsc.x hS 0).trans hx0, (hsc.I2 hS 22 (by decide) rfl (by decide) c).trans hce, (hsc.I2 hS 23 (by decide) rfl (by decide) c).trans hpk, (hsc.I2 hS 24 (by decide) rfl (by decide) c).trans hsu⟩
                              · exact absurd c33 (jv_nI_m1 (by omega))
                        · omega
                      · omega
                    · omega
                  · refine jv_aload_n (q := 176) G 4 dX8_met_175 rfl rfl rfl ?_
                    refine jv_getQ (q := 179) G dX8_met_176 fl_X8_26 rfl (hsc.S hS).1 (rf_p7 (hsc.S hS)) rfl ?_
                    refine jv_iload (q := 181) G 3 dX8_met_179 rfl rfl ?_
                    refine jv_iald (q := 182) G dX8_met_181 (rf_a7 (hsc.S hS)) rfl (by omega) (by decide) (rt_7 (hsc.T hS Tt3)) rfl ?_
                    refine jv_aload_n (q := 183) G 4 dX8_met_182 rfl rfl rfl ?_
                    refine jv_getQ (q := 186) G dX8_met_183 fl_X8_71 rfl (hsc.S hS).1 (rf_p23 (hsc.S hS)) rfl ?_
                    refine jv_iload_n (q := 187) G 5 dX8_met_186 rfl rfl rfl ?_
                    refine jv_iald (q := 188) G dX8_met_187 (rf_a23 (hsc.S hS)) rfl (by omega) (by decide) ((hsc.I2 hS 23 (by decide) rfl (by decide) c).trans hpk) rfl ?_
                    refine jv_icmp_eqN (q := 191) (tgt := 193) G dX8_met_188 (by decide) rfl (by omega) (by omega) (fun c41 => ?_) (fun c41 => ?_)
                    · refine jv_iload_n (q := 194) G 7 dX8_met_193 rfl rfl rfl ?_
                      refine jv_iconst (q := 195) (v := nI 2) G dX8_met_194 (by decide) rfl ?_
                      refine jv_icmp_neN (q := 198) (tgt := 208) G dX8_met_195 (by decide) rfl (by omega) (by omega) (fun c42 => ?_) (fun c42 => ?_)
                      · refine jv_iload_n (q := 209) G 7 dX8_met_208 rfl rfl rfl ?_
                        refine jv_iconst (q := 210) (v := nI 4) G dX8_met_209 (by decide) rfl ?_
                        refine jv_icmp_neN (q := 213) (tgt := 226) G dX8_met_210 (by decide) rfl (by omega) (by omega) (fun c43 => ?_) (fun c43 => ?_)
                        · refine jv_iload_n (q := 227) G 7 dX8_met_226 rfl rfl rfl ?_
                          refine jv_iconst (q := 228) (v := nI 5) G dX8_met_227 (by decide) rfl ?_
                          refine jv_icmp_neN (q := 231) (tgt := 247) G dX8_met_228 (by decide) rfl (by omega) (by omega) (fun c44 => ?_) (fun c44 => ?_)
                          · refine jv_iload_n (q := 248) G 7 dX8_met_247 rfl rfl rfl ?_
                            refine jv_iconst (q := 249) (v := nI 2) G dX8_met_248 (by decide) rfl ?_
                            refine jv_icmp_geN (q := 252) (tgt := 266) G dX8_met_249 (by decide) rfl (by omega) (by omega) (fun c45 => ?_) (fun c45 => ?_)
                            · omega
                            · refine jv_aload_n (q := 253) G 4 dX8_met_252 rfl rfl rfl ?_
                              refine jv_iload_n (q := 254) G 6 dX8_met_253 rfl rfl rfl ?_
                              refine jv_iload (q := 256) G 3 dX8_met_254 rfl rfl ?_
                              refine jv_iload (q := 258) G 9 dX8_met_256 rfl rfl ?_
                              refine jv_iload (q := 260) G 10 dX8_met_258 rfl rfl ?_
                              refine jv_callV_I (q := 263) (h1 := h1) (As := [.int (nI e), .int (nI (10 * e + k2)), .int n, .int s]) (rest := []) (ce' := 0) (sl' := 0) (r := (ffE e (m_ff ts 11 k2 n s))) G Z ml_X8_173 (r_findField hlt hsc hS he hE 11 k2 (hg k2 (by omega)) (by omega)) (hsc.S hS).1 dX8_met_260 rfl (by decide) (by decide) (by decide) (by decide) (Nat.le_of_ble_eq_true rfl) rfl rfl rfl rfl ?_
                              rcases Option.eq_none_or_eq_some (m_ff ts 11 k2 n s) with hp49 | ⟨p46, hp49⟩
                              · refine jv_topI (y := (-1)) (by rw [hp49]; rfl) ?_
                                refine jv_goto (q := 277) G dX8_met_263 (by decide) ?_
                                refine jv_istore (q := 279) (lo' := [(12, .int (-1)), (11, .int (-1)), (10, .int (nI 0)), (9, .int (-1)), (8, .int (nI (10 * e + k2))), (0, .ref x), (1, .int (nI c)), (2, .int (nI e)), (3, .int (nI 0)), (4, .int ty), (5, .int n), (6, .int s), (7, .int rc)]) G dX8_met_277 (by decide) rfl rfl ?_
                                refine jv_iload (q := 281) G 0 dX8_met_279 rfl rfl ?_
                                refine jv_iconst (q := 282) (v := (-1)) G dX8_met_281 (by decide) rfl ?_
                                refine jv_icmp_ne (q := 285) (tgt := 287) G dX8_met_282 (by decide) rfl (fun c50 => ?_) (fun c50 => ?_)
                                · exact absurd rfl c50
                                · refine jv_iconst (q := 286) (v := nI 2) G dX8_met_285 (by decide) rfl ?_
                                  refine jv_iret G hr dX8_met_286 (Nat.le_of_ble_eq_true rfl) (Nat.le_of_ble_eq_true rfl) ?_
                                  have hz : (m_met (decide (e = ec)) tsC ts pk su 0 ty n s rc) = (2, none) := by
                                    unfold m_met m_isC m_bd
                                    simp only [*, if_true, if_false, Bool.false_eq_true, reduceIte, Option.map_some, decide_true, decide_false, not_true_eq_false, not_false_eq_true, eq_self, ne_eq, Nat.reduceLT, Nat.lt_irrefl, Nat.reduceEqDiff, and_true, true_and, and_false, false_and, or_true, true_or, or_false, false_or, Bool.or_true, Bool.or_false, Bool.true_or, Bool.false_or, reduceCtorEq] <;> rfl
                                  exact ⟨by rw [hz], hrs.tr hsc.rs, by rw [hz]; exact (hsc.x hS 32).trans hran, (hsc.x hS 0).trans hx0, (hsc.I2 hS 22 (by decide) rfl (by decide) c).trans hce, (hsc.I2 hS 23 (by decide) rfl (by decide) c).trans hpk, (hsc.I2 hS 24 (by decide) rfl (by decide) c).trans hsu⟩
                              · refine jv_topI (y := nI (6 * (10 * e + p46.1) + p46.2)) (by rw [hp49]; rfl) ?_
                                obtain ⟨t47, ht47, m48, hm48⟩ := m_ff_mem hp49
                                have Tt47 := (hE.2.2 p46.1 t47 ht47).1
                                have Ot47 := (hE.2.2 p46.1 t47 ht47).2
                                have Lt47 := hE.2.1
                                have lt47 := jv_ltGet ht47
                                have Mm48 := rt_m Tt47 hm48
                                have Om48 := Ot47.2.2.2.2.2.2 m48 (List.mem_of_getElem? hm48)
                                have Lm48 := Ot47.2.2.2.2.2.1
                                have lm48 := jv_ltGet hm48
                                have Bm48n := Om48.1; have Bm48s := Om48.2.1; have Bm48a := Om48.2.2.1; have Bt47n := Ot47.1; have Bt47k := Ot47.2.1
                                refine jv_goto (q := 277) G dX8_met_263 (by decide) ?_
                                refine jv_istore (q := 279) (lo' := [(12, .int (nI (6 * (10 * e + p46.1) + p46.2))), (11, .int (-1)), (10, .int (nI 0)), (9, .int (-1)), (8, .int (nI (10 * e + k2))), (0, .ref x), (1, .int (nI c)), (2, .int (nI e)), (3, .int (nI 0)), (4, .int ty), (5, .int n), (6, .int s), (7, .int rc)]) G dX8_met_277 (by decide) rfl rfl ?_
                                refine jv_iload (q := 281) G 0 dX8_met_279 rfl rfl ?_
                                refine jv_iconst (q := 282) (v := (-1)) G dX8_met_281 (by decide) rfl ?_
                                refine jv_icmp_ne (q := 285) (tgt := 287) G dX8_met_282 (by decide) rfl (fun c51 => ?_) (fun c51 => ?_)
                                · refine jv_aload_n (q := 288) G 5 dX8_met_287 rfl rfl rfl ?_
                                  refine jv_iload_n (q := 289) G 6 dX8_met_288 rfl rfl rfl ?_
                                  refine jv_iload_n (q := 290) G 7 dX8_met_289 rfl rfl rfl ?_
                                  refine jv_iload (q := 292) G 0 dX8_met_290 rfl rfl ?_
                                  refine jv_callV_I (q := 295) (h1 := h1) (As := [.int (nI c), .int (nI e), .int (nI (6 * (10 * e + p46.1) + p46.2))]) (rest := []) (ce' := 0) (sl' := 0) (r := jv_bI (m_mr ts pk su t47 m48)) G Z ml_X8_199 (r_mayReach hlt hsc hS hc he hE hV ht47 hm48 hpk hpk5 hsu hsu16) (hsc.S hS).1 dX8_met_292 rfl (by decide) (by decide) (by decide) (by decide) (Nat.le_of_ble_eq_true rfl) rfl rfl rfl rfl ?_
                                  refine jv_if_neB (q := 298) (tgt := 300) G dX8_met_295 (by decide) rfl (fun c52 => ?_) (fun c52 => ?_)
                                  · refine jv_aload_n (q := 301) G 5 dX8_met_300 rfl rfl rfl ?_
                                    refine jv_getQ (q := 304) G dX8_met_301 fl_X8_56 rfl (hsc.S hS).1 (rf_p17 (hsc.S hS)) rfl ?_
                                    refine jv_iload (q := 306) G 0 dX8_met_304 rfl rfl ?_
                                    refine jv_zald (q := 307) G dX8_met_306 (rf_a17 (hsc.S hS)) rfl (by omega) (by decide) (hsc.M hS Mm48).2.2.2.2.1 rfl ?_
                                    refine jv_iload_n (q := 308) G 8 dX8_met_307 rfl rfl rfl ?_
                                    refine jv_iconst (q := 309) (v := nI 1) G dX8_met_308 (by decide) rfl ?_
                                    refine jv_icmp_eqN (q := 312) (tgt := 317) G dX8_met_309 (by decide) rfl (by omega) (by omega) (fun c53 => ?_) (fun c53 => ?_)
                                    · omega
                                    · refine jv_iload_n (q := 313) G 8 dX8_met_312 rfl rfl rfl ?_
                                      refine jv_iconst (q := 314) (v := nI 3) G dX8_met_313 (by decide) rfl ?_
                                      refine jv_icmp_neN (q := 317) (tgt := 321) G dX8_met_314 (by decide) rfl (by omega) (by omega) (fun c54 => ?_) (fun c54 => ?_)
                                      · refine jv_iconst (q := 322) (v := nI 0) G dX8_met_321 (by decide) rfl ?_
                                        refine jv_topI (y := jv_bI false) rfl ?_
                                        refine jv_icmp_eqB (q := 325) (tgt := 327) G dX8_met_322 (by decide) rfl (fun c55 => ?_) (fun c55 => ?_)
                                        · refine jv_iload (q := 329) G 2 dX8_met_327 rfl rfl ?_
                                          refine jv_if_neN (q := 332) (tgt := 357) G dX8_met_329 (by decide) rfl (by omega) (fun c56 => ?_) (fun c56 => ?_)
                                          · omega
                                          · refine jv_aload_n (q := 333) G 5 dX8_met_332 rfl rfl rfl ?_
                                            refine jv_iload_n (q := 334) G 8 dX8_met_333 rfl rfl rfl ?_
                                            refine jv_iconst (q := 335) (v := nI 3) G dX8_met_334 (by decide) rfl ?_
                                            refine jv_icmp_neN (q := 338) (tgt := 351) G dX8_met_335 (by decide) rfl (by omega) (by omega) (fun c57 => ?_) (fun c57 => ?_)
                                            · refine jv_iconst (q := 352) (v := (-1)) G dX8_met_351 (by decide) rfl ?_
                                              refine jv_putI (q := 355) G dX8_met_352 fl_X8_192 rfl (hsc.S hS).1 rfl ?_
                                              have hr1 : rs x q h1 (jv_wI h1 x 32 (-1)) := rs.rf.wI (-1) (Or.inl ⟨rfl, Or.inr (Or.inl rfl)⟩)
                                              have hran : jv_I (jv_wI h1 x 32 (-1)) x 32 = (-1) := jv_I_self _ _ _ _
                                              have hSb := hsc.S hS
                                              have hE := hr1.E hSb (hsc.E hS hE)
                                              have hV := hr1.V hSb (hsc.V hS hV)
                                              have hEC := hr1.E hSb (hsc.E hS hEC)
                                              have hVC := hr1.V hSb (hsc.V hS hVC)
                                              have hce := (wx_I hSb 22 (by decide) rfl 32 c (-1)).trans ((hsc.I2 hS 22 (by decide) rfl (by decide) c).trans hce)
                                              have hpk := (wx_I hSb 23 (by decide) rfl 32 c (-1)).trans ((hsc.I2 hS 23 (by decide) rfl (by decide) c).trans hpk)
                                              have hsu := (wx_I hSb 24 (by decide) rfl 32 c (-1)).trans ((hsc.I2 hS 24 (by decide) rfl (by decide) c).trans hsu)
                                              have hrs := (hrs.tr hsc.rs).tr hr1
                                              have hx0 : jv_I (jv_wI h1 x 32 (-1)) x 0 = jv_I h x 0 := by rw [jv_I_wI, if_neg (fun z => by cases z.2)] <;> exact (hsc.x hS 0).trans hx0
                                              have hS := hr1.S hSb
                                              generalize jv_wI h1 x 32 (-1) = h58 at hran hx0 hE hV hEC hVC hce hpk hsu hrs hS ⊢
                                              have hsc : sc x q h58 h58 := sc.rf
                                              refine jv_iconst (q := 356) (v := nI 0) G dX8_met_355 (by decide) rfl ?_
                                              refine jv_iret G hr dX8_met_356 (Nat.le_of_ble_eq_true rfl) (Nat.le_of_ble_eq_true rfl) ?_
                                              have hz : (m_met (decide (e = ec)) tsC ts pk su 0 ty n s rc) = (0, none) := by
                                                unfold m_met m_isC m_bd
                                                simp only [*, if_true, if_false, Bool.false_eq_true, reduceIte, Option.map_some, decide_true, decide_false, not_true_eq_false, not_false_eq_true, eq_self, ne_eq, Nat.reduceLT, Nat.lt_irrefl, Nat.reduceEqDiff, and_true, true_and, and_false, false_and, or_true, true_or, or_false, false_or, Bool.or_true, Bool.or_false, Bool.true_or, Bool.false_or, reduceCtorEq] <;> rfl
                                              exact ⟨by rw [hz], hrs.tr hsc.rs, by rw [hz]; exact (hsc.x hS 32).trans hran, (hsc.x hS 0).trans hx0, (hsc.I2 hS 22 (by decide) rfl (by decide) c).trans hce, (hsc.I2 hS 23 (by decide) rfl (by decide) c).trans hpk, (hsc.I2 hS 24 (by decide) rfl (by decide) c).trans hsu⟩
                                            · omega
                                        · refine jv_iconst (q := 326) (v := nI 4) G dX8_met_325 (by decide) rfl ?_
                                          refine jv_iret G hr dX8_met_326 (Nat.le_of_ble_eq_true rfl) (Nat.le_of_ble_eq_true rfl) ?_
                                          have hz : (m_met (decide (e = ec)) tsC ts pk su 0 ty n s rc) = (4, none) := by
                                            unfold m_met m_isC m_bd
                                            simp only [*, if_true, if_false, Bool.false_eq_true, reduceIte, Option.map_some, decide_true, decide_false, not_true_eq_false, not_false_eq_true, eq_self, ne_eq, Nat.reduceLT, Nat.lt_irrefl, Nat.reduceEqDiff, and_true, true_and, and_false, false_and, or_true, true_or, or_false, false_or, Bool.or_true, Bool.or_false, Bool.true_or, Bool.false_or, reduceCtorEq] <;> rfl
                                          exact ⟨by rw [hz], hrs.tr hsc.rs, by rw [hz]; exact (hsc.x hS 32).trans hran, (hsc.x hS 0).trans hx0, (hsc.I2 hS 22 (by decide) rfl (by decide) c).trans hce, (hsc.I2 hS 23 (by decide) rfl (by decide) c).trans hpk, (hsc.I2 hS 24 (by decide) rfl (by decide) c).trans hsu⟩
                                      · omega
                                  · refine jv_iconst (q := 299) (v := nI 3) G dX8_met_298 (by decide) rfl ?_
                                    refine jv_iret G hr dX8_met_299 (Nat.le_of_ble_eq_true rfl) (Nat.le_of_ble_eq_true rfl) ?_
                                    have hz : (m_met (decide (e = ec)) tsC ts pk su 0 ty n s rc) = (3, none) := by
                                      unfold m_met m_isC m_bd
                                      simp only [*, if_true, if_false, Bool.false_eq_true, reduceIte, Option.map_some, decide_true, decide_false, not_true_eq_false, not_false_eq_true, eq_self, ne_eq, Nat.reduceLT, Nat.lt_irrefl, Nat.reduceEqDiff, and_true, true_and, and_false, false_and, or_true, true_or, or_false, false_or, Bool.or_true, Bool.or_false, Bool.true_or, Bool.false_or, reduceCtorEq] <;> rfl
                                    exact ⟨by rw [hz], hrs.tr hsc.rs, by rw [hz]; exact (hsc.x hS 32).trans hran, (hsc.x hS 0).trans hx0, (hsc.I2 hS 22 (by decide) rfl (by decide) c).trans hce, (hsc.I2 hS 23 (by decide) rfl (by decide) c).trans hpk, (hsc.I2 hS 24 (by decide) rfl (by decide) c).trans hsu⟩
                                · exact absurd c51 (jv_nI_m1 (by omega))
                          · omega
                        · omega
                      · omega
                    · refine jv_iconst (q := 192) (v := nI 3) G dX8_met_191 (by decide) rfl ?_
                      refine jv_iret G hr dX8_met_192 (Nat.le_of_ble_eq_true rfl) (Nat.le_of_ble_eq_true rfl) ?_
                      have hz : (m_met (decide (e = ec)) tsC ts pk su 0 ty n s rc) = (3, none) := by
                        unfold m_met m_isC m_bd
                        simp only [*, if_true, if_false, Bool.false_eq_true, reduceIte, Option.map_some, decide_true, decide_false, not_true_eq_false, not_false_eq_true, eq_self, ne_eq, Nat.reduceLT, Nat.lt_irrefl, Nat.reduceEqDiff, and_true, true_and, and_false, false_and, or_true, true_or, or_false, false_or, Bool.or_true, Bool.or_false, Bool.true_or, Bool.false_or, reduceCtorEq] <;> rfl
                      exact ⟨by rw [hz], hrs.tr hsc.rs, by rw [hz]; exact (hsc.x hS 32).trans hran, (hsc.x hS 0).trans hx0, (hsc.I2 hS 22 (by decide) rfl (by decide) c).trans hce, (hsc.I2 hS 23 (by decide) rfl (by decide) c).trans hpk, (hsc.I2 hS 24 (by decide) rfl (by decide) c).trans hsu⟩
                · omega
            · omega
          · omega
      · exact absurd rfl c17
    · refine jv_aload_n (q := 25) G 1 dX8_met_24 rfl rfl rfl ?_
      refine jv_iload_n (q := 26) G 2 dX8_met_25 rfl rfl rfl ?_
      refine jv_iload_n (q := 27) G 4 dX8_met_26 rfl rfl rfl ?_
      refine jv_iload (q := 29) G 5 dX8_met_27 rfl rfl ?_
      refine jv_iload (q := 31) G 6 dX8_met_29 rfl rfl ?_
      refine jv_iload (q := 33) G 7 dX8_met_31 rfl rfl ?_
      refine jv_callV_I (q := 36) (h1 := h1) (As := [.int (nI c), .int (nI 0), .int ty, .int n, .int s]) (rest := []) (ce' := 0) (sl' := 0) (r := (ffE ec (m_co tsC 0 ty n s))) G Z ml_X8_195 (r_constantOf hlt hsc hS hc hec hEC hce (by decide) hgC) (hsc.S hS).1 dX8_met_33 rfl (by decide) (by decide) (by decide) (by decide) (Nat.le_of_ble_eq_true rfl) rfl rfl rfl rfl ?_
      refine jv_topI (y := (-1)) rfl ?_
      refine jv_goto (q := 40) G dX8_met_36 (by decide) ?_
      refine jv_istore (q := 42) (lo' := [(9, .int (-1)), (8, .int (nI (10 * e + k2))), (0, .ref x), (1, .int (nI c)), (2, .int (nI e)), (3, .int (nI 0)), (4, .int ty), (5, .int n), (6, .int s), (7, .int rc)]) G dX8_met_40 (by decide) rfl rfl ?_
      refine jv_iload (q := 44) G 0 dX8_met_42 rfl rfl ?_
      refine jv_iconst (q := 45) (v := (-1)) G dX8_met_44 (by decide) rfl ?_
      refine jv_icmp_eq (q := 48) (tgt := 111) G dX8_met_45 (by decide) rfl (fun c59 => ?_) (fun c59 => ?_)
      · refine jv_iload_n (q := 112) G 5 dX8_met_111 rfl rfl rfl ?_
        refine jv_iconst (q := 113) (v := nI 2) G dX8_met_112 (by decide) rfl ?_
        refine jv_icmp_eqN (q := 116) (tgt := 121) G dX8_met_113 (by decide) rfl (by omega) (by omega) (fun c60 => ?_) (fun c60 => ?_)
        · omega
        · refine jv_iload_n (q := 117) G 5 dX8_met_116 rfl rfl rfl ?_
          refine jv_iconst (q := 118) (v := nI 4) G dX8_met_117 (by decide) rfl ?_
          refine jv_icmp_neN (q := 121) (tgt := 125) G dX8_met_118 (by decide) rfl (by omega) (by omega) (fun c61 => ?_) (fun c61 => ?_)
          · refine jv_iconst (q := 126) (v := nI 0) G dX8_met_125 (by decide) rfl ?_
            refine jv_istore (q := 128) (lo' := [(10, .int (nI 0)), (9, .int (-1)), (8, .int (nI (10 * e + k2))), (0, .ref x), (1, .int (nI c)), (2, .int (nI e)), (3, .int (nI 0)), (4, .int ty), (5, .int n), (6, .int s), (7, .int rc)]) G dX8_met_126 (by decide) rfl rfl ?_
            refine jv_iload (q := 130) G 0 dX8_met_128 rfl rfl ?_
            refine jv_if_eqN (q := 133) (tgt := 143) G dX8_met_130 (by decide) rfl (by omega) (fun c62 => ?_) (fun c62 => ?_)
            · refine jv_iconst (q := 144) (v := (-1)) G dX8_met_143 (by decide) rfl ?_
              refine jv_istore (q := 146) (lo' := [(11, .int (-1)), (10, .int (nI 0)), (9, .int (-1)), (8, .int (nI (10 * e + k2))), (0, .ref x), (1, .int (nI c)), (2, .int (nI e)), (3, .int (nI 0)), (4, .int ty), (5, .int n), (6, .int s), (7, .int rc)]) G dX8_met_144 (by decide) rfl rfl ?_
              refine jv_iload (q := 148) G 3 dX8_met_146 rfl rfl ?_
              refine jv_iconst (q := 149) (v := (-1)) G dX8_met_148 (by decide) rfl ?_
              refine jv_icmp_eq (q := 152) (tgt := 163) G dX8_met_149 (by decide) rfl (fun c63 => ?_) (fun c63 => ?_)
              · exact absurd c63 (jv_nI_m1 (by omega))
              · refine jv_iload (q := 154) G 1 dX8_met_152 rfl rfl ?_
                refine jv_if_eqN (q := 157) (tgt := 165) G dX8_met_154 (by decide) rfl (by omega) (fun c64 => ?_) (fun c64 => ?_)
                · refine jv_aload_n (q := 166) G 4 dX8_met_165 rfl rfl rfl ?_
                  refine jv_getQ (q := 169) G dX8_met_166 fl_X8_29 rfl (hsc.S hS).1 (rf_p8 (hsc.S hS)) rfl ?_
                  refine jv_iload (q := 171) G 3 dX8_met_169 rfl rfl ?_
                  refine jv_zald (q := 172) G dX8_met_171 (rf_a8 (hsc.S hS)) rfl (by omega) (by decide) (rt_8 (hsc.T hS Tt3)) rfl ?_
                  refine jv_if_neB (q := 175) (tgt := 193) G dX8_met_172 (by decide) rfl (fun c65 => ?_) (fun c65 => ?_)
                  · refine jv_iload_n (q := 194) G 7 dX8_met_193 rfl rfl rfl ?_
                    refine jv_iconst (q := 195) (v := nI 2) G dX8_met_194 (by decide) rfl ?_
                    refine jv_icmp_neN (q := 198) (tgt := 208) G dX8_met_195 (by decide) rfl (by omega) (by omega) (fun c66 => ?_) (fun c66 => ?_)
                    · refine jv_iload_n (q := 209) G 7 dX8_met_208 rfl rfl rfl ?_
                      refine jv_iconst (q := 210) (v := nI 4) G dX8_met_209 (by decide) rfl ?_
                      refine jv_icmp_neN (q := 213) (tgt := 226) G dX8_met_210 (by decide) rfl (by omega) (by omega) (fun c67 => ?_) (fun c67 => ?_)
                      · refine jv_iload_n (q := 227) G 7 dX8_met_226 rfl rfl rfl ?_
                        refine jv_iconst (q := 228) (v := nI 5) G dX8_met_227 (by decide) rfl ?_
                        refine jv_icmp_neN (q := 231) (tgt := 247) G dX8_met_228 (by decide) rfl (by omega) (by omega) (fun c68 => ?_) (fun c68 => ?_)
                        · refine jv_iload_n (q := 248) G 7 dX8_met_247 rfl rfl rfl ?_
                          refine jv_iconst (q := 249) (v := nI 2) G dX8_met_248 (by decide) rfl ?_
                          refine jv_icmp_geN (q := 252) (tgt := 266) G dX8_met_249 (by decide) rfl (by omega) (by omega) (fun c69 => ?_) (fun c69 => ?_)
                          · omega
                          · refine jv_aload_n (q := 253) G 4 dX8_met_252 rfl rfl rfl ?_
                            refine jv_iload_n (q := 254) G 6 dX8_met_253 rfl rfl rfl ?_
                            refine jv_iload (q := 256) G 3 dX8_met_254 rfl rfl ?_
                            refine jv_iload (q := 258) G 9 dX8_met_256 rfl rfl ?_
                            refine jv_iload (q := 260) G 10 dX8_met_258 rfl rfl ?_
                            refine jv_callV_I (q := 263) (h1 := h1) (As := [.int (nI e), .int (nI (10 * e + k2)), .int n, .int s]) (rest := []) (ce' := 0) (sl' := 0) (r := (ffE e (m_ff ts 11 k2 n s))) G Z ml_X8_173 (r_findField hlt hsc hS he hE 11 k2 (hg k2 (by omega)) (by omega)) (hsc.S hS).1 dX8_met_260 rfl (by decide) (by decide) (by decide) (by decide) (Nat.le_of_ble_eq_true rfl) rfl rfl rfl rfl ?_
                            rcases Option.eq_none_or_eq_some (m_ff ts 11 k2 n s) with hp73 | ⟨p70, hp73⟩
                            · refine jv_topI (y := (-1)) (by rw [hp73]; rfl) ?_
                              refine jv_goto (q := 277) G dX8_met_263 (by decide) ?_
                              refine jv_istore (q := 279) (lo' := [(12, .int (-1)), (11, .int (-1)), (10, .int (nI 0)), (9, .int (-1)), (8, .int (nI (10 * e + k2))), (0, .ref x), (1, .int (nI c)), (2, .int (nI e)), (3, .int (nI 0)), (4, .int ty), (5, .int n), (6, .int s), (7, .int rc)]) G dX8_met_277 (by decide) rfl rfl ?_
                              refine jv_iload (q := 281) G 0 dX8_met_279 rfl rfl ?_
                              refine jv_iconst (q := 282) (v := (-1)) G dX8_met_281 (by decide) rfl ?_
                              refine jv_icmp_ne (q := 285) (tgt := 287) G dX8_met_282 (by decide) rfl (fun c74 => ?_) (fun c74 => ?_)
                              · exact absurd rfl c74
                              · refine jv_iconst (q := 286) (v := nI 2) G dX8_met_285 (by decide) rfl ?_
                                refine jv_iret G hr dX8_met_286 (Nat.le_of_ble_eq_true rfl) (Nat.le_of_ble_eq_true rfl) ?_
                                have hz : (m_met (decide (e = ec)) tsC ts pk su 0 ty n s rc) = (2, none) := by
                                  unfold m_met m_isC m_bd
                                  simp only [*, if_true, if_false, Bool.false_eq_true, reduceIte, Option.map_some, decide_true, decide_false, not_true_eq_false, not_false_eq_true, eq_self, ne_eq, Nat.reduceLT, Nat.lt_irrefl, Nat.reduceEqDiff, and_true, true_and, and_false, false_and, or_true, true_or, or_false, false_or, Bool.or_true, Bool.or_false, Bool.true_or, Bool.false_or, reduceCtorEq] <;> rfl
                                exact ⟨by rw [hz], hrs.tr hsc.rs, by rw [hz]; exact (hsc.x hS 32).trans hran, (hsc.x hS 0).trans hx0, (hsc.I2 hS 22 (by decide) rfl (by decide) c).trans hce, (hsc.I2 hS 23 (by decide) rfl (by decide) c).trans hpk, (hsc.I2 hS 24 (by decide) rfl (by decide) c).trans hsu⟩
                            · refine jv_topI (y := nI (6 * (10 * e + p70.1) + p70.2)) (by rw [hp73]; rfl) ?_
                              obtain ⟨t71, ht71, m72, hm72⟩ := m_ff_mem hp73
                              have Tt71 := (hE.2.2 p70.1 t71 ht71).1
                              have Ot71 := (hE.2.2 p70.1 t71 ht71).2
                              have Lt71 := hE.2.1
                              have lt71 := jv_ltGet ht71
                              have Mm72 := rt_m Tt71 hm72
                              have Om72 := Ot71.2.2.2.2.2.2 m72 (List.mem_of_getElem? hm72)
                              have Lm72 := Ot71.2.2.2.2.2.1
                              have lm72 := jv_ltGet hm72
                              have Bm72n := Om72.1; have Bm72s := Om72.2.1; have Bm72a := Om72.2.2.1; have Bt71n := Ot71.1; have Bt71k := Ot71.2.1
                              refine jv_goto (q := 277) G dX8_met_263 (by decide) ?_
                              refine jv_istore (q := 279) (lo' := [(12, .int (nI (6 * (10 * e + p70.1) + p70.2))), (11, .int (-1)), (10, .int (nI 0)), (9, .int (-1)), (8, .int (nI (10 * e + k2))), (0, .ref x), (1, .int (nI c)), (2, .int (nI e)), (3, .int (nI 0)), (4, .int ty), (5, .int n), (6, .int s), (7, .int rc)]) G dX8_met_277 (by decide) rfl rfl ?_
                              refine jv_iload (q := 281) G 0 dX8_met_279 rfl rfl ?_
                              refine jv_iconst (q := 282) (v := (-1)) G dX8_met_281 (by decide) rfl ?_
                              refine jv_icmp_ne (q := 285) (tgt := 287) G dX8_met_282 (by decide) rfl (fun c75 => ?_) (fun c75 => ?_)
                              · refine jv_aload_n (q := 288) G 5 dX8_met_287 rfl rfl rfl ?_
                                refine jv_iload_n (q := 289) G 6 dX8_met_288 rfl rfl rfl ?_
                                refine jv_iload_n (q := 290) G 7 dX8_met_289 rfl rfl rfl ?_
                                refine jv_iload (q := 292) G 0 dX8_met_290 rfl rfl ?_
                                refine jv_callV_I (q := 295) (h1 := h1) (As := [.int (nI c), .int (nI e), .int (nI (6 * (10 * e + p70.1) + p70.2))]) (rest := []) (ce' := 0) (sl' := 0) (r := jv_bI (m_mr ts pk su t71 m72)) G Z ml_X8_199 (r_mayReach hlt hsc hS hc he hE hV ht71 hm72 hpk hpk5 hsu hsu16) (hsc.S hS).1 dX8_met_292 rfl (by decide) (by decide) (by decide) (by decide) (Nat.le_of_ble_eq_true rfl) rfl rfl rfl rfl ?_
                                refine jv_if_neB (q := 298) (tgt := 300) G dX8_met_295 (by decide) rfl (fun c76 => ?_) (fun c76 => ?_)
                                · refine jv_aload_n (q := 301) G 5 dX8_met_300 rfl rfl rfl ?_
                                  refine jv_getQ (q := 304) G dX8_met_301 fl_X8_56 rfl (hsc.S hS).1 (rf_p17 (hsc.S hS)) rfl ?_
                                  refine jv_iload (q := 306) G 0 dX8_met_304 rfl rfl ?_
                                  refine jv_zald (q := 307) G dX8_met_306 (rf_a17 (hsc.S hS)) rfl (by omega) (by decide) (hsc.M hS Mm72).2.2.2.2.1 rfl ?_
                                  refine jv_iload_n (q := 308) G 8 dX8_met_307 rfl rfl rfl ?_
                                  refine jv_iconst (q := 309) (v := nI 1) G dX8_met_308 (by decide) rfl ?_
                                  refine jv_icmp_eqN (q := 312) (tgt := 317) G dX8_met_309 (by decide) rfl (by omega) (by omega) (fun c77 => ?_) (fun c77 => ?_)
                                  · omega
                                  · refine jv_iload_n (q := 313) G 8 dX8_met_312 rfl rfl rfl ?_
                                    refine jv_iconst (q := 314) (v := nI 3) G dX8_met_313 (by decide) rfl ?_
                                    refine jv_icmp_neN (q := 317) (tgt := 321) G dX8_met_314 (by decide) rfl (by omega) (by omega) (fun c78 => ?_) (fun c78 => ?_)
                                    · refine jv_iconst (q := 322) (v := nI 0) G dX8_met_321 (by decide) rfl ?_
                                      refine jv_topI (y := jv_bI false) rfl ?_
                                      refine jv_icmp_eqB (q := 325) (tgt := 327) G dX8_met_322 (by decide) rfl (fun c79 => ?_) (fun c79 => ?_)
                                      · refine jv_iload (q := 329) G 2 dX8_met_327 rfl rfl ?_
                                        refine jv_if_neN (q := 332) (tgt := 357) G dX8_met_329 (by decide) rfl (by omega) (fun c80 => ?_) (fun c80 => ?_)
                                        · omega
                                        · refine jv_aload_n (q := 333) G 5 dX8_met_332 rfl rfl rfl ?_
                                          refine jv_iload_n (q := 334) G 8 dX8_met_333 rfl rfl rfl ?_
                                          refine jv_iconst (q := 335) (v := nI 3) G dX8_met_334 (by decide) rfl ?_
                                          refine jv_icmp_neN (q := 338) (tgt := 351) G dX8_met_335 (by decide) rfl (by omega) (by omega) (fun c81 => ?_) (fun c81 => ?_)
                                          · refine jv_iconst (q := 352) (v := (-1)) G dX8_met_351 (by decide) rfl ?_
                                            refine jv_putI (q := 355) G dX8_met_352 fl_X8_192 rfl (hsc.S hS).1 rfl ?_
                                            have hr1 : rs x q h1 (jv_wI h1 x 32 (-1)) := rs.rf.wI (-1) (Or.inl ⟨rfl, Or.inr (Or.inl rfl)⟩)
                                            have hran : jv_I (jv_wI h1 x 32 (-1)) x 32 = (-1) := jv_I_self _ _ _ _
                                            have hSb := hsc.S hS
                                            have hE := hr1.E hSb (hsc.E hS hE)
                                            have hV := hr1.V hSb (hsc.V hS hV)
                                            have hEC := hr1.E hSb (hsc.E hS hEC)
                                            have hVC := hr1.V hSb (hsc.V hS hVC)
                                            have hce := (wx_I hSb 22 (by decide) rfl 32 c (-1)).trans ((hsc.I2 hS 22 (by decide) rfl (by decide) c).trans hce)
                                            have hpk := (wx_I hSb 23 (by decide) rfl 32 c (-1)).trans ((hsc.I2 hS 23 (by decide) rfl (by decide) c).trans hpk)
                                            have hsu := (wx_I hSb 24 (by decide) rfl 32 c (-1)).trans ((hsc.I2 hS 24 (by decide) rfl (by decide) c).trans hsu)
                                            have hrs := (hrs.tr hsc.rs).tr hr1
                                            have hx0 : jv_I (jv_wI h1 x 32 (-1)) x 0 = jv_I h x 0 := by rw [jv_I_wI, if_neg (fun z => by cases z.2)] <;> exact (hsc.x hS 0).trans hx0
                                            have hS := hr1.S hSb
                                            generalize jv_wI h1 x 32 (-1) = h82 at hran hx0 hE hV hEC hVC hce hpk hsu hrs hS ⊢
                                            have hsc : sc x q h82 h82 := sc.rf
                                            refine jv_iconst (q := 356) (v := nI 0) G dX8_met_355 (by decide) rfl ?_
                                            refine jv_iret G hr dX8_met_356 (Nat.le_of_ble_eq_true rfl) (Nat.le_of_ble_eq_true rfl) ?_
                                            have hz : (m_met (decide (e = ec)) tsC ts pk su 0 ty n s rc) = (0, none) := by
                                              unfold m_met m_isC m_bd
                                              simp only [*, if_true, if_false, Bool.false_eq_true, reduceIte, Option.map_some, decide_true, decide_false, not_true_eq_false, not_false_eq_true, eq_self, ne_eq, Nat.reduceLT, Nat.lt_irrefl, Nat.reduceEqDiff, and_true, true_and, and_false, false_and, or_true, true_or, or_false, false_or, Bool.or_true, Bool.or_false, Bool.true_or, Bool.false_or, reduceCtorEq] <;> rfl
                                            exact ⟨by rw [hz], hrs.tr hsc.rs, by rw [hz]; exact (hsc.x hS 32).trans hran, (hsc.x hS 0).trans hx0, (hsc.I2 hS 22 (by decide) rfl (by decide) c).trans hce, (hsc.I2 hS 23 (by decide) rfl (by decide) c).trans hpk, (hsc.I2 hS 24 (by decide) rfl (by decide) c).trans hsu⟩
                                          · omega
                                      · refine jv_iconst (q := 326) (v := nI 4) G dX8_met_325 (by decide) rfl ?_
                                        refine jv_iret G hr dX8_met_326 (Nat.le_of_ble_eq_true rfl) (Nat.le_of_ble_eq_true rfl) ?_
                                        have hz : (m_met (decide (e = ec)) tsC ts pk su 0 ty n s rc) = (4, none) := by
                                          unfold m_met m_isC m_bd
                                          simp only [*, if_true, if_false, Bool.false_eq_true, reduceIte, Option.map_some, decide_true, decide_false, not_true_eq_false, not_false_eq_true, eq_self, ne_eq, Nat.reduceLT, Nat.lt_irrefl, Nat.reduceEqDiff, and_true, true_and, and_false, false_and, or_true, true_or, or_false, false_or, Bool.or_true, Bool.or_false, Bool.true_or, Bool.false_or, reduceCtorEq] <;> rfl
                                        exact ⟨by rw [hz], hrs.tr hsc.rs, by rw [hz]; exact (hsc.x hS 32).trans hran, (hsc.x hS 0).trans hx0, (hsc.I2 hS 22 (by decide) rfl (by decide) c).trans hce, (hsc.I2 hS 23 (by decide) rfl (by decide) c).trans hpk, (hsc.I2 hS 24 (by decide) rfl (by decide) c).trans hsu⟩
                                    · omega
                                · refine jv_iconst (q := 299) (v := nI 3) G dX8_met_298 (by decide) rfl ?_
                                  refine jv_iret G hr dX8_met_299 (Nat.le_of_ble_eq_true rfl) (Nat.le_of_ble_eq_true rfl) ?_
                                  have hz : (m_met (decide (e = ec)) tsC ts pk su 0 ty n s rc) = (3, none) := by
                                    unfold m_met m_isC m_bd
                                    simp only [*, if_true, if_false, Bool.false_eq_true, reduceIte, Option.map_some, decide_true, decide_false, not_true_eq_false, not_false_eq_true, eq_self, ne_eq, Nat.reduceLT, Nat.lt_irrefl, Nat.reduceEqDiff, and_true, true_and, and_false, false_and, or_true, true_or, or_false, false_or, Bool.or_true, Bool.or_false, Bool.true_or, Bool.false_or, reduceCtorEq] <;> rfl
                                  exact ⟨by rw [hz], hrs.tr hsc.rs, by rw [hz]; exact (hsc.x hS 32).trans hran, (hsc.x hS 0).trans hx0, (hsc.I2 hS 22 (by decide) rfl (by decide) c).trans hce, (hsc.I2 hS 23 (by decide) rfl (by decide) c).trans hpk, (hsc.I2 hS 24 (by decide) rfl (by decide) c).trans hsu⟩
                              · exact absurd c75 (jv_nI_m1 (by omega))
                        · omega
                      · omega
                    · omega
                  · refine jv_aload_n (q := 176) G 4 dX8_met_175 rfl rfl rfl ?_
                    refine jv_getQ (q := 179) G dX8_met_176 fl_X8_26 rfl (hsc.S hS).1 (rf_p7 (hsc.S hS)) rfl ?_
                    refine jv_iload (q := 181) G 3 dX8_met_179 rfl rfl ?_
                    refine jv_iald (q := 182) G dX8_met_181 (rf_a7 (hsc.S hS)) rfl (by omega) (by decide) (rt_7 (hsc.T hS Tt3)) rfl ?_
                    refine jv_aload_n (q := 183) G 4 dX8_met_182 rfl rfl rfl ?_
                    refine jv_getQ (q := 186) G dX8_met_183 fl_X8_71 rfl (hsc.S hS).1 (rf_p23 (hsc.S hS)) rfl ?_
                    refine jv_iload_n (q := 187) G 5 dX8_met_186 rfl rfl rfl ?_
                    refine jv_iald (q := 188) G dX8_met_187 (rf_a23 (hsc.S hS)) rfl (by omega) (by decide) ((hsc.I2 hS 23 (by decide) rfl (by decide) c).trans hpk) rfl ?_
                    refine jv_icmp_eqN (q := 191) (tgt := 193) G dX8_met_188 (by decide) rfl (by omega) (by omega) (fun c83 => ?_) (fun c83 => ?_)
                    · refine jv_iload_n (q := 194) G 7 dX8_met_193 rfl rfl rfl ?_
                      refine jv_iconst (q := 195) (v := nI 2) G dX8_met_194 (by decide) rfl ?_
                      refine jv_icmp_neN (q := 198) (tgt := 208) G dX8_met_195 (by decide) rfl (by omega) (by omega) (fun c84 => ?_) (fun c84 => ?_)
                      · refine jv_iload_n (q := 209) G 7 dX8_met_208 rfl rfl rfl ?_
                        refine jv_iconst (q := 210) (v := nI 4) G dX8_met_209 (by decide) rfl ?_
                        refine jv_icmp_neN (q := 213) (tgt := 226) G dX8_met_210 (by decide) rfl (by omega) (by omega) (fun c85 => ?_) (fun c85 => ?_)
                        · refine jv_iload_n (q := 227) G 7 dX8_met_226 rfl rfl rfl ?_
                          refine jv_iconst (q := 228) (v := nI 5) G dX8_met_227 (by decide) rfl ?_
                          refine jv_icmp_neN (q := 231) (tgt := 247) G dX8_met_228 (by decide) rfl (by omega) (by omega) (fun c86 => ?_) (fun c86 => ?_)
                          · refine jv_iload_n (q := 248) G 7 dX8_met_247 rfl rfl rfl ?_
                            refine jv_iconst (q := 249) (v := nI 2) G dX8_met_248 (by decide) rfl ?_
                            refine jv_icmp_geN (q := 252) (tgt := 266) G dX8_met_249 (by decide) rfl (by omega) (by omega) (fun c87 => ?_) (fun c87 => ?_)
                            · omega
                            · refine jv_aload_n (q := 253) G 4 dX8_met_252 rfl rfl rfl ?_
                              refine jv_iload_n (q := 254) G 6 dX8_met_253 rfl rfl rfl ?_
                              refine jv_iload (q := 256) G 3 dX8_met_254 rfl rfl ?_
                              refine jv_iload (q := 258) G 9 dX8_met_256 rfl rfl ?_
                              refine jv_iload (q := 260) G 10 dX8_met_258 rfl rfl ?_
                              refine jv_callV_I (q := 263) (h1 := h1) (As := [.int (nI e), .int (nI (10 * e + k2)), .int n, .int s]) (rest := []) (ce' := 0) (sl' := 0) (r := (ffE e (m_ff ts 11 k2 n s))) G Z ml_X8_173 (r_findField hlt hsc hS he hE 11 k2 (hg k2 (by omega)) (by omega)) (hsc.S hS).1 dX8_met_260 rfl (by decide) (by decide) (by decide) (by decide) (Nat.le_of_ble_eq_true rfl) rfl rfl rfl rfl ?_
                              rcases Option.eq_none_or_eq_some (m_ff ts 11 k2 n s) with hp91 | ⟨p88, hp91⟩
                              · refine jv_topI (y := (-1)) (by rw [hp91]; rfl) ?_
                                refine jv_goto (q := 277) G dX8_met_263 (by decide) ?_
                                refine jv_istore (q := 279) (lo' := [(12, .int (-1)), (11, .int (-1)), (10, .int (nI 0)), (9, .int (-1)), (8, .int (nI (10 * e + k2))), (0, .ref x), (1, .int (nI c)), (2, .int (nI e)), (3, .int (nI 0)), (4, .int ty), (5, .int n), (6, .int s), (7, .int rc)]) G dX8_met_277 (by decide) rfl rfl ?_
                                refine jv_iload (q := 281) G 0 dX8_met_279 rfl rfl ?_
                                refine jv_iconst (q := 282) (v := (-1)) G dX8_met_281 (by decide) rfl ?_
                                refine jv_icmp_ne (q := 285) (tgt := 287) G dX8_met_282 (by decide) rfl (fun c92 => ?_) (fun c92 => ?_)
                                · exact absurd rfl c92
                                · refine jv_iconst (q := 286) (v := nI 2) G dX8_met_285 (by decide) rfl ?_
                                  refine jv_iret G hr dX8_met_286 (Nat.le_of_ble_eq_true rfl) (Nat.le_of_ble_eq_true rfl) ?_
                                  have hz : (m_met (decide (e = ec)) tsC ts pk su 0 ty n s rc) = (2, none) := by
                                    unfold m_met m_isC m_bd
                                    simp only [*, if_true, if_false, Bool.false_eq_true, reduceIte, Option.map_some, decide_true, decide_false, not_true_eq_false, not_false_eq_true, eq_self, ne_eq, Nat.reduceLT, Nat.lt_irrefl, Nat.reduceEqDiff, and_true, true_and, and_false, false_and, or_true, true_or, or_false, false_or, Bool.or_true, Bool.or_false, Bool.true_or, Bool.false_or, reduceCtorEq] <;> rfl
                                  exact ⟨by rw [hz], hrs.tr hsc.rs, by rw [hz]; exact (hsc.x hS 32).trans hran, (hsc.x hS 0).trans hx0, (hsc.I2 hS 22 (by decide) rfl (by decide) c).trans hce, (hsc.I2 hS 23 (by decide) rfl (by decide) c).trans hpk, (hsc.I2 hS 24 (by decide) rfl (by decide) c).trans hsu⟩
                              · refine jv_topI (y := nI (6 * (10 * e + p88.1) + p88.2)) (by rw [hp91]; rfl) ?_
                                obtain ⟨t89, ht89, m90, hm90⟩ := m_ff_mem hp91
                                have Tt89 := (hE.2.2 p88.1 t89 ht89).1
                                have Ot89 := (hE.2.2 p88.1 t89 ht89).2
                                have Lt89 := hE.2.1
                                have lt89 := jv_ltGet ht89
                                have Mm90 := rt_m Tt89 hm90
                                have Om90 := Ot89.2.2.2.2.2.2 m90 (List.mem_of_getElem? hm90)
                                have Lm90 := Ot89.2.2.2.2.2.1
                                have lm90 := jv_ltGet hm90
                                have Bm90n := Om90.1; have Bm90s := Om90.2.1; have Bm90a := Om90.2.2.1; have Bt89n := Ot89.1; have Bt89k := Ot89.2.1
                                refine jv_goto (q := 277) G dX8_met_263 (by decide) ?_
                                refine jv_istore (q := 279) (lo' := [(12, .int (nI (6 * (10 * e + p88.1) + p88.2))), (11, .int (-1)), (10, .int (nI 0)), (9, .int (-1)), (8, .int (nI (10 * e + k2))), (0, .ref x), (1, .int (nI c)), (2, .int (nI e)), (3, .int (nI 0)), (4, .int ty), (5, .int n), (6, .int s), (7, .int rc)]) G dX8_met_277 (by decide) rfl rfl ?_
                                refine jv_iload (q := 281) G 0 dX8_met_279 rfl rfl ?_
                                refine jv_iconst (q := 282) (v := (-1)) G dX8_met_281 (by decide) rfl ?_
                                refine jv_icmp_ne (q := 285) (tgt := 287) G dX8_met_282 (by decide) rfl (fun c93 => ?_) (fun c93 => ?_)
                                · refine jv_aload_n (q := 288) G 5 dX8_met_287 rfl rfl rfl ?_
                                  refine jv_iload_n (q := 289) G 6 dX8_met_288 rfl rfl rfl ?_
                                  refine jv_iload_n (q := 290) G 7 dX8_met_289 rfl rfl rfl ?_
                                  refine jv_iload (q := 292) G 0 dX8_met_290 rfl rfl ?_
                                  refine jv_callV_I (q := 295) (h1 := h1) (As := [.int (nI c), .int (nI e), .int (nI (6 * (10 * e + p88.1) + p88.2))]) (rest := []) (ce' := 0) (sl' := 0) (r := jv_bI (m_mr ts pk su t89 m90)) G Z ml_X8_199 (r_mayReach hlt hsc hS hc he hE hV ht89 hm90 hpk hpk5 hsu hsu16) (hsc.S hS).1 dX8_met_292 rfl (by decide) (by decide) (by decide) (by decide) (Nat.le_of_ble_eq_true rfl) rfl rfl rfl rfl ?_
                                  refine jv_if_neB (q := 298) (tgt := 300) G dX8_met_295 (by decide) rfl (fun c94 => ?_) (fun c94 => ?_)
                                  · refine jv_aload_n (q := 301) G 5 dX8_met_300 rfl rfl rfl ?_
                                    refine jv_getQ (q := 304) G dX8_met_301 fl_X8_56 rfl (hsc.S hS).1 (rf_p17 (hsc.S hS)) rfl ?_
                                    refine jv_iload (q := 306) G 0 dX8_met_304 rfl rfl ?_
                                    refine jv_zald (q := 307) G dX8_met_306 (rf_a17 (hsc.S hS)) rfl (by omega) (by decide) (hsc.M hS Mm90).2.2.2.2.1 rfl ?_
                                    refine jv_iload_n (q := 308) G 8 dX8_met_307 rfl rfl rfl ?_
                                    refine jv_iconst (q := 309) (v := nI 1) G dX8_met_308 (by decide) rfl ?_
                                    refine jv_icmp_eqN (q := 312) (tgt := 317) G dX8_met_309 (by decide) rfl (by omega) (by omega) (fun c95 => ?_) (fun c95 => ?_)
                                    · omega
                                    · refine jv_iload_n (q := 313) G 8 dX8_met_312 rfl rfl rfl ?_
                                      refine jv_iconst (q := 314) (v := nI 3) G dX8_met_313 (by decide) rfl ?_
                                      refine jv_icmp_neN (q := 317) (tgt := 321) G dX8_met_314 (by decide) rfl (by omega) (by omega) (fun c96 => ?_) (fun c96 => ?_)
                                      · refine jv_iconst (q := 322) (v := nI 0) G dX8_met_321 (by decide) rfl ?_
                                        refine jv_topI (y := jv_bI false) rfl ?_
                                        refine jv_icmp_eqB (q := 325) (tgt := 327) G dX8_met_322 (by decide) rfl (fun c97 => ?_) (fun c97 => ?_)
                                        · refine jv_iload (q := 329) G 2 dX8_met_327 rfl rfl ?_
                                          refine jv_if_neN (q := 332) (tgt := 357) G dX8_met_329 (by decide) rfl (by omega) (fun c98 => ?_) (fun c98 => ?_)
                                          · omega
                                          · refine jv_aload_n (q := 333) G 5 dX8_met_332 rfl rfl rfl ?_
                                            refine jv_iload_n (q := 334) G 8 dX8_met_333 rfl rfl rfl ?_
                                            refine jv_iconst (q := 335) (v := nI 3) G dX8_met_334 (by decide) rfl ?_
                                            refine jv_icmp_neN (q := 338) (tgt := 351) G dX8_met_335 (by decide) rfl (by omega) (by omega) (fun c99 => ?_) (fun c99 => ?_)
                                            · refine jv_iconst (q := 352) (v := (-1)) G dX8_met_351 (by decide) rfl ?_
                                              refine jv_putI (q := 355) G dX8_met_352 fl_X8_192 rfl (hsc.S hS).1 rfl ?_
                                              have hr1 : rs x q h1 (jv_wI h1 x 32 (-1)) := rs.rf.wI (-1) (Or.inl ⟨rfl, Or.inr (Or.inl rfl)⟩)
                                              have hran : jv_I (jv_wI h1 x 32 (-1)) x 32 = (-1) := jv_I_self _ _ _ _
                                              have hSb := hsc.S hS
                                              have hE := hr1.E hSb (hsc.E hS hE)
                                              have hV := hr1.V hSb (hsc.V hS hV)
                                              have hEC := hr1.E hSb (hsc.E hS hEC)
                                              have hVC := hr1.V hSb (hsc.V hS hVC)
                                              have hce := (wx_I hSb 22 (by decide) rfl 32 c (-1)).trans ((hsc.I2 hS 22 (by decide) rfl (by decide) c).trans hce)
                                              have hpk := (wx_I hSb 23 (by decide) rfl 32 c (-1)).trans ((hsc.I2 hS 23 (by decide) rfl (by decide) c).trans hpk)
                                              have hsu := (wx_I hSb 24 (by decide) rfl 32 c (-1)).trans ((hsc.I2 hS 24 (by decide) rfl (by decide) c).trans hsu)
                                              have hrs := (hrs.tr hsc.rs).tr hr1
                                              have hx0 : jv_I (jv_wI h1 x 32 (-1)) x 0 = jv_I h x 0 := by rw [jv_I_wI, if_neg (fun z => by cases z.2)] <;> exact (hsc.x hS 0).trans hx0
                                              have hS := hr1.S hSb
                                              generalize jv_wI h1 x 32 (-1) = h100 at hran hx0 hE hV hEC hVC hce hpk hsu hrs hS ⊢
                                              have hsc : sc x q h100 h100 := sc.rf
                                              refine jv_iconst (q := 356) (v := nI 0) G dX8_met_355 (by decide) rfl ?_
                                              refine jv_iret G hr dX8_met_356 (Nat.le_of_ble_eq_true rfl) (Nat.le_of_ble_eq_true rfl) ?_
                                              have hz : (m_met (decide (e = ec)) tsC ts pk su 0 ty n s rc) = (0, none) := by
                                                unfold m_met m_isC m_bd
                                                simp only [*, if_true, if_false, Bool.false_eq_true, reduceIte, Option.map_some, decide_true, decide_false, not_true_eq_false, not_false_eq_true, eq_self, ne_eq, Nat.reduceLT, Nat.lt_irrefl, Nat.reduceEqDiff, and_true, true_and, and_false, false_and, or_true, true_or, or_false, false_or, Bool.or_true, Bool.or_false, Bool.true_or, Bool.false_or, reduceCtorEq] <;> rfl
                                              exact ⟨by rw [hz], hrs.tr hsc.rs, by rw [hz]; exact (hsc.x hS 32).trans hran, (hsc.x hS 0).trans hx0, (hsc.I2 hS 22 (by decide) rfl (by decide) c).trans hce, (hsc.I2 hS 23 (by decide) rfl (by decide) c).trans hpk, (hsc.I2 hS 24 (by decide) rfl (by decide) c).trans hsu⟩
                                            · omega
                                        · refine jv_iconst (q := 326) (v := nI 4) G dX8_met_325 (by decide) rfl ?_
                                          refine jv_iret G hr dX8_met_326 (Nat.le_of_ble_eq_true rfl) (Nat.le_of_ble_eq_true rfl) ?_
                                          have hz : (m_met (decide (e = ec)) tsC ts pk su 0 ty n s rc) = (4, none) := by
                                            unfold m_met m_isC m_bd
                                            simp only [*, if_true, if_false, Bool.false_eq_true, reduceIte, Option.map_some, decide_true, decide_false, not_true_eq_false, not_false_eq_true, eq_self, ne_eq, Nat.reduceLT, Nat.lt_irrefl, Nat.reduceEqDiff, and_true, true_and, and_false, false_and, or_true, true_or, or_false, false_or, Bool.or_true, Bool.or_false, Bool.true_or, Bool.false_or, reduceCtorEq] <;> rfl
                                          exact ⟨by rw [hz], hrs.tr hsc.rs, by rw [hz]; exact (hsc.x hS 32).trans hran, (hsc.x hS 0).trans hx0, (hsc.I2 hS 22 (by decide) rfl (by decide) c).trans hce, (hsc.I2 hS 23 (by decide) rfl (by decide) c).trans hpk, (hsc.I2 hS 24 (by decide) rfl (by decide) c).trans hsu⟩
                                      · omega
                                  · refine jv_iconst (q := 299) (v := nI 3) G dX8_met_298 (by decide) rfl ?_
                                    refine jv_iret G hr dX8_met_299 (Nat.le_of_ble_eq_true rfl) (Nat.le_of_ble_eq_true rfl) ?_
                                    have hz : (m_met (decide (e = ec)) tsC ts pk su 0 ty n s rc) = (3, none) := by
                                      unfold m_met m_isC m_bd
                                      simp only [*, if_true, if_false, Bool.false_eq_true, reduceIte, Option.map_some, decide_true, decide_false, not_true_eq_false, not_false_eq_true, eq_self, ne_eq, Nat.reduceLT, Nat.lt_irrefl, Nat.reduceEqDiff, and_true, true_and, and_false, false_and, or_true, true_or, or_false, false_or, Bool.or_true, Bool.or_false, Bool.true_or, Bool.false_or, reduceCtorEq] <;> rfl
                                    exact ⟨by rw [hz], hrs.tr hsc.rs, by rw [hz]; exact (hsc.x hS 32).trans hran, (hsc.x hS 0).trans hx0, (hsc.I2 hS 22 (by decide) rfl (by decide) c).trans hce, (hsc.I2 hS 23 (by decide) rfl (by decide) c).trans hpk, (hsc.I2 hS 24 (by decide) rfl (by decide) c).trans hsu⟩
                                · exact absurd c93 (jv_nI_m1 (by omega))
                          · omega
                        · omega
                      · omega
                    · refine jv_iconst (q := 192) (v := nI 3) G dX8_met_191 (by decide) rfl ?_
                      refine jv_iret G hr dX8_met_192 (Nat.le_of_ble_eq_true rfl) (Nat.le_of_ble_eq_true rfl) ?_
                      have hz : (m_met (decide (e = ec)) tsC ts pk su 0 ty n s rc) = (3, none) := by
                        unfold m_met m_isC m_bd
                        simp only [*, if_true, if_false, Bool.false_eq_true, reduceIte, Option.map_some, decide_true, decide_false, not_true_eq_false, not_false_eq_true, eq_self, ne_eq, Nat.reduceLT, Nat.lt_irrefl, Nat.reduceEqDiff, and_true, true_and, and_false, false_and, or_true, true_or, or_false, false_or, Bool.or_true, Bool.or_false, Bool.true_or, Bool.false_or, reduceCtorEq] <;> rfl
                      exact ⟨by rw [hz], hrs.tr hsc.rs, by rw [hz]; exact (hsc.x hS 32).trans hran, (hsc.x hS 0).trans hx0, (hsc.I2 hS 22 (by decide) rfl (by decide) c).trans hce, (hsc.I2 hS 23 (by decide) rfl (by decide) c).trans hpk, (hsc.I2 hS 24 (by decide) rfl (by decide) c).trans hsu⟩
                · omega
            · omega
          · omega
      · exact absurd rfl c59
