def m_isC (ts : List mT) (p : Nat × Nat) : Bool := match ts[p.1]? with
  | none => false
  | some t => match (mt_m t)[p.2]? with
    | none => false
    | some m => mm_c m
def m_bd (ts : List mT) (p : Nat × Nat) : Int32 := match ts[p.1]? with
  | none => 0
  | some t => match (mt_m t)[p.2]? with
    | none => 0
    | some m => mm_b m
/-- the constant that a use of kind kd copies: its place -/
def m_co (ts : List mT) (kd : Nat) (ty n s : Int32) : Option (Nat × Nat) := if kd = 1 then match m_at ts ty with
    | none => none
    | some k => match m_ff ts 11 k n s with
      | none => none
      | some p => if m_isC ts p then some p else none
  else none
/-- the name of the type whose method runs, by an edition's own -/
def m_orn (ts : List mT) (ty n s rc : Int32) : Option Nat := match m_at ts ty, m_at ts rc with
  | some k, some kr => match ts[kr]? with
    | none => none
    | some tr => if mt_i tr then none else match m_fm ts 11 k n s with
      | none => none
      | some p => match ts[p.1]? with
        | none => none
        | some td => match (mt_m td)[p.2]? with
          | none => none
          | some md => match m_sl ts 11 td md p.1 p.2 kr with
            | none => none
            | some o => (ts[o.1]?).map mt_n
  | _, _ => none
set_option maxHeartbeats 4000000 in
set_option maxRecDepth 100000 in
theorem r_constantOf {lA : Launch} (hlt : lA.stackTraces = false) {D : jv_D} {base : Nat} {x : Nat} {q : Nat → Nat} {h0 h : jv_H} {c ec kd : Nat} {ty n s : Int32} {ts : List mT} (hsc : sc x q h0 h) (hS : rf_S x q h0) (hc : c < 13) (hec : ec < 8) (hE : rf_E q h0 ec ts) (hce : jv_I h0 (q 22) c = nI ec) (hkd : kd < 6) (hg : ∀ k, k < ts.length → m_hg ts 11 k) : jv_Met lA D base yX8_constantOf (.code yX8_constantOf cX8_constantOf 8 (some .int)) 14 0 0 [.ref x, .int (nI c), .int (nI kd), .int ty, .int n, .int s] h (jv_rI (ffE ec (m_co ts kd ty n s)) h) jv_no := by
  refine jv_ofV (lo := [(0, .ref x), (1, .int (nI c)), (2, .int (nI kd)), (3, .int ty), (4, .int n), (5, .int s)]) hlt (by decide) (Nat.le_of_ble_eq_true rfl) rfl (fun E hEl hEd hEz Z G hr ht hnm => ?_)
  subst hEl; subst hEd; subst hEz
  have hlen := hE.2.1
  refine jv_iload_n (q := 1) G 2 dX8_constantOf_0 rfl rfl rfl ?_
  refine jv_iconst (q := 2) (v := nI 1) G dX8_constantOf_1 (by decide) rfl ?_
  refine jv_icmp_eqN (q := 5) (tgt := 7) G dX8_constantOf_2 (by decide) rfl (by omega) (by omega) (fun c1 => ?_) (fun c1 => ?_)
  · refine jv_aload_n (q := 8) G 0 dX8_constantOf_7 rfl rfl rfl ?_
    refine jv_aload_n (q := 9) G 0 dX8_constantOf_8 rfl rfl rfl ?_
    refine jv_getQ (q := 12) G dX8_constantOf_9 fl_X8_68 rfl (hsc.S hS).1 (rf_p22 (hsc.S hS)) rfl ?_
    refine jv_iload_n (q := 13) G 1 dX8_constantOf_12 rfl rfl rfl ?_
    refine jv_iald (q := 14) G dX8_constantOf_13 (rf_a22 (hsc.S hS)) rfl (by omega) (by decide) ((hsc.I2 hS 22 (by decide) rfl (by decide) c).trans hce) rfl ?_
    refine jv_iload_n (q := 15) G 3 dX8_constantOf_14 rfl rfl rfl ?_
    refine jv_callV_I (q := 18) (h1 := h) (As := [.int (nI ec), .int ty]) (rest := []) (ce' := 0) (sl' := 0) (r := jv_oN ((m_at ts ty).map (fun k => 10 * ec + k))) G Z ml_X8_151 (r_at hlt (hsc.S hS) hec (hsc.E hS hE)) (hsc.S hS).1 dX8_constantOf_15 rfl (by decide) (by decide) (by decide) (by decide) (Nat.le_of_ble_eq_true rfl) rfl rfl rfl rfl ?_
    rcases Option.eq_none_or_eq_some (m_at ts ty) with hk4 | ⟨k2, hk4⟩
    · refine jv_topI (y := (-1)) (by rw [hk4]; rfl) ?_
      refine jv_istore (q := 20) (lo' := [(6, .int (-1)), (0, .ref x), (1, .int (nI c)), (2, .int (nI kd)), (3, .int ty), (4, .int n), (5, .int s)]) G dX8_constantOf_18 (by decide) rfl rfl ?_
      refine jv_iload (q := 22) G 0 dX8_constantOf_20 rfl rfl ?_
      refine jv_iconst (q := 23) (v := (-1)) G dX8_constantOf_22 (by decide) rfl ?_
      refine jv_icmp_ne (q := 26) (tgt := 30) G dX8_constantOf_23 (by decide) rfl (fun c5 => ?_) (fun c5 => ?_)
      · exact absurd rfl c5
      · refine jv_iconst (q := 27) (v := (-1)) G dX8_constantOf_26 (by decide) rfl ?_
        refine jv_goto (q := 46) G dX8_constantOf_27 (by decide) ?_
        refine jv_istore (q := 48) (lo' := [(7, .int (-1)), (6, .int (-1)), (0, .ref x), (1, .int (nI c)), (2, .int (nI kd)), (3, .int ty), (4, .int n), (5, .int s)]) G dX8_constantOf_46 (by decide) rfl rfl ?_
        refine jv_iload (q := 50) G 0 dX8_constantOf_48 rfl rfl ?_
        refine jv_iconst (q := 51) (v := (-1)) G dX8_constantOf_50 (by decide) rfl ?_
        refine jv_icmp_eq (q := 54) (tgt := 69) G dX8_constantOf_51 (by decide) rfl (fun c6 => ?_) (fun c6 => ?_)
        · refine jv_iconst (q := 70) (v := (-1)) G dX8_constantOf_69 (by decide) rfl ?_
          refine jv_iret G hr dX8_constantOf_70 (Nat.le_of_ble_eq_true rfl) (Nat.le_of_ble_eq_true rfl) ?_
          refine ⟨?_, rfl⟩
          unfold m_co m_isC
          simp only [*, if_true, if_false, Bool.false_eq_true, reduceIte, Option.map_some] <;> rfl
        · exact absurd rfl c6
    · refine jv_topI (y := nI (10 * ec + k2)) (by rw [hk4]; rfl) ?_
      obtain ⟨t3, ht3, nt3, lt3⟩ := m_at_some hk4
      have Tt3 := (hE.2.2 k2 t3 ht3).1
      have Ot3 := (hE.2.2 k2 t3 ht3).2
      have Lt3 := hE.2.1
      have Bt3n := Ot3.1; have Bt3k := Ot3.2.1
      refine jv_istore (q := 20) (lo' := [(6, .int (nI (10 * ec + k2))), (0, .ref x), (1, .int (nI c)), (2, .int (nI kd)), (3, .int ty), (4, .int n), (5, .int s)]) G dX8_constantOf_18 (by decide) rfl rfl ?_
      refine jv_iload (q := 22) G 0 dX8_constantOf_20 rfl rfl ?_
      refine jv_iconst (q := 23) (v := (-1)) G dX8_constantOf_22 (by decide) rfl ?_
      refine jv_icmp_ne (q := 26) (tgt := 30) G dX8_constantOf_23 (by decide) rfl (fun c7 => ?_) (fun c7 => ?_)
      · refine jv_aload_n (q := 31) G 1 dX8_constantOf_30 rfl rfl rfl ?_
        refine jv_aload_n (q := 32) G 1 dX8_constantOf_31 rfl rfl rfl ?_
        refine jv_getQ (q := 35) G dX8_constantOf_32 fl_X8_68 rfl (hsc.S hS).1 (rf_p22 (hsc.S hS)) rfl ?_
        refine jv_iload_n (q := 36) G 2 dX8_constantOf_35 rfl rfl rfl ?_
        refine jv_iald (q := 37) G dX8_constantOf_36 (rf_a22 (hsc.S hS)) rfl (by omega) (by decide) ((hsc.I2 hS 22 (by decide) rfl (by decide) c).trans hce) rfl ?_
        refine jv_iload (q := 39) G 0 dX8_constantOf_37 rfl rfl ?_
        refine jv_iload (q := 41) G 5 dX8_constantOf_39 rfl rfl ?_
        refine jv_iload (q := 43) G 6 dX8_constantOf_41 rfl rfl ?_
        refine jv_callV_I (q := 46) (h1 := h) (As := [.int (nI ec), .int (nI (10 * ec + k2)), .int n, .int s]) (rest := []) (ce' := 0) (sl' := 0) (r := (ffE ec (m_ff ts 11 k2 n s))) G Z ml_X8_173 (r_findField hlt hsc hS hec hE 11 k2 (hg k2 (by omega)) (by omega)) (hsc.S hS).1 dX8_constantOf_43 rfl (by decide) (by decide) (by decide) (by decide) (Nat.le_of_ble_eq_true rfl) rfl rfl rfl rfl ?_
        rcases Option.eq_none_or_eq_some (m_ff ts 11 k2 n s) with hp11 | ⟨p8, hp11⟩
        · refine jv_topI (y := (-1)) (by rw [hp11]; rfl) ?_
          refine jv_istore (q := 48) (lo' := [(7, .int (-1)), (6, .int (nI (10 * ec + k2))), (0, .ref x), (1, .int (nI c)), (2, .int (nI kd)), (3, .int ty), (4, .int n), (5, .int s)]) G dX8_constantOf_46 (by decide) rfl rfl ?_
          refine jv_iload (q := 50) G 0 dX8_constantOf_48 rfl rfl ?_
          refine jv_iconst (q := 51) (v := (-1)) G dX8_constantOf_50 (by decide) rfl ?_
          refine jv_icmp_eq (q := 54) (tgt := 69) G dX8_constantOf_51 (by decide) rfl (fun c12 => ?_) (fun c12 => ?_)
          · refine jv_iconst (q := 70) (v := (-1)) G dX8_constantOf_69 (by decide) rfl ?_
            refine jv_iret G hr dX8_constantOf_70 (Nat.le_of_ble_eq_true rfl) (Nat.le_of_ble_eq_true rfl) ?_
            refine ⟨?_, rfl⟩
            unfold m_co m_isC
            simp only [*, if_true, if_false, Bool.false_eq_true, reduceIte, Option.map_some] <;> rfl
          · exact absurd rfl c12
        · refine jv_topI (y := nI (6 * (10 * ec + p8.1) + p8.2)) (by rw [hp11]; rfl) ?_
          obtain ⟨t9, ht9, m10, hm10⟩ := m_ff_mem hp11
          have Tt9 := (hE.2.2 p8.1 t9 ht9).1
          have Ot9 := (hE.2.2 p8.1 t9 ht9).2
          have Lt9 := hE.2.1
          have lt9 := jv_ltGet ht9
          have Mm10 := rt_m Tt9 hm10
          have Om10 := Ot9.2.2.2.2.2.2 m10 (List.mem_of_getElem? hm10)
          have Lm10 := Ot9.2.2.2.2.2.1
          have lm10 := jv_ltGet hm10
          have Bm10n := Om10.1; have Bm10s := Om10.2.1; have Bm10a := Om10.2.2.1; have Bt9n := Ot9.1; have Bt9k := Ot9.2.1
          refine jv_istore (q := 48) (lo' := [(7, .int (nI (6 * (10 * ec + p8.1) + p8.2))), (6, .int (nI (10 * ec + k2))), (0, .ref x), (1, .int (nI c)), (2, .int (nI kd)), (3, .int ty), (4, .int n), (5, .int s)]) G dX8_constantOf_46 (by decide) rfl rfl ?_
          refine jv_iload (q := 50) G 0 dX8_constantOf_48 rfl rfl ?_
          refine jv_iconst (q := 51) (v := (-1)) G dX8_constantOf_50 (by decide) rfl ?_
          refine jv_icmp_eq (q := 54) (tgt := 69) G dX8_constantOf_51 (by decide) rfl (fun c13 => ?_) (fun c13 => ?_)
          · exact absurd c13 (jv_nI_m1 (by omega))
          · refine jv_aload_n (q := 55) G 2 dX8_constantOf_54 rfl rfl rfl ?_
            refine jv_getQ (q := 58) G dX8_constantOf_55 fl_X8_62 rfl (hsc.S hS).1 (rf_p19 (hsc.S hS)) rfl ?_
            refine jv_iload (q := 60) G 0 dX8_constantOf_58 rfl rfl ?_
            refine jv_zald (q := 61) G dX8_constantOf_60 (rf_a19 (hsc.S hS)) rfl (by omega) (by decide) (hsc.M hS Mm10).2.2.2.2.2.2 rfl ?_
            refine jv_if_eqB (q := 64) (tgt := 69) G dX8_constantOf_61 (by decide) rfl (fun c14 => ?_) (fun c14 => ?_)
            · refine jv_iconst (q := 70) (v := (-1)) G dX8_constantOf_69 (by decide) rfl ?_
              refine jv_iret G hr dX8_constantOf_70 (Nat.le_of_ble_eq_true rfl) (Nat.le_of_ble_eq_true rfl) ?_
              refine ⟨?_, rfl⟩
              unfold m_co m_isC
              simp only [*, if_true, if_false, Bool.false_eq_true, reduceIte, Option.map_some] <;> rfl
            · refine jv_iload (q := 66) G 0 dX8_constantOf_64 rfl rfl ?_
              refine jv_goto (q := 70) G dX8_constantOf_66 (by decide) ?_
              refine jv_iret G hr dX8_constantOf_70 (Nat.le_of_ble_eq_true rfl) (Nat.le_of_ble_eq_true rfl) ?_
              refine ⟨?_, rfl⟩
              unfold m_co m_isC
              simp only [*, if_true, if_false, Bool.false_eq_true, reduceIte, Option.map_some] <;> rfl
      · exact absurd c7 (jv_nI_m1 (by omega))
  · refine jv_iconst (q := 6) (v := (-1)) G dX8_constantOf_5 (by decide) rfl ?_
    refine jv_iret G hr dX8_constantOf_6 (Nat.le_of_ble_eq_true rfl) (Nat.le_of_ble_eq_true rfl) ?_
    refine ⟨?_, rfl⟩
    unfold m_co m_isC
    simp only [*, if_true, if_false, Bool.false_eq_true, reduceIte, Option.map_some] <;> rfl
set_option maxHeartbeats 4000000 in
set_option maxRecDepth 100000 in
theorem r_ownRun {lA : Launch} (hlt : lA.stackTraces = false) {D : jv_D} {base : Nat} {x : Nat} {q : Nat → Nat} {h0 h : jv_H} {c ec : Nat} {ty n s rc : Int32} {ts : List mT} (hsc : sc x q h0 h) (hS : rf_S x q h0) (hc : c < 13) (hec : ec < 8) (hE : rf_E q h0 ec ts) (hV : rf_V q h0 ec ts) (hce : jv_I h0 (q 22) c = nI ec) (hg : ∀ k, k < ts.length → m_hg ts 11 k) : jv_Met lA D base yX8_ownRun (.code yX8_ownRun cX8_ownRun 11 (some .int)) 5 0 0 [.ref x, .int (nI c), .int ty, .int n, .int s, .int rc] h (fun v h' => v = some (.int (jv_oN (m_orn ts ty n s rc))) ∧ sc x q h0 h') jv_no := by
  refine jv_ofV (lo := [(0, .ref x), (1, .int (nI c)), (2, .int ty), (3, .int n), (4, .int s), (5, .int rc)]) hlt (by decide) (Nat.le_of_ble_eq_true rfl) rfl (fun E hEl hEd hEz Z G hr ht hnm => ?_)
  subst hEl; subst hEd; subst hEz
  have hlen := hE.2.1
  refine jv_aload_n (q := 1) G 0 dX8_ownRun_0 rfl rfl rfl ?_
  refine jv_getQ (q := 4) G dX8_ownRun_1 fl_X8_68 rfl (hsc.S hS).1 (rf_p22 (hsc.S hS)) rfl ?_
  refine jv_iload_n (q := 5) G 1 dX8_ownRun_4 rfl rfl rfl ?_
  refine jv_iald (q := 6) G dX8_ownRun_5 (rf_a22 (hsc.S hS)) rfl (by omega) (by decide) ((hsc.I2 hS 22 (by decide) rfl (by decide) c).trans hce) rfl ?_
  refine jv_istore (q := 8) (lo' := [(6, .int (nI ec)), (0, .ref x), (1, .int (nI c)), (2, .int ty), (3, .int n), (4, .int s), (5, .int rc)]) G dX8_ownRun_6 (by decide) rfl rfl ?_
  refine jv_aload_n (q := 9) G 1 dX8_ownRun_8 rfl rfl rfl ?_
  refine jv_iload (q := 11) G 0 dX8_ownRun_9 rfl rfl ?_
  refine jv_iload_n (q := 12) G 3 dX8_ownRun_11 rfl rfl rfl ?_
  refine jv_callV_I (q := 15) (h1 := h) (As := [.int (nI ec), .int ty]) (rest := []) (ce' := 0) (sl' := 0) (r := jv_oN ((m_at ts ty).map (fun k => 10 * ec + k))) G Z ml_X8_151 (r_at hlt (hsc.S hS) hec (hsc.E hS hE)) (hsc.S hS).1 dX8_ownRun_12 rfl (by decide) (by decide) (by decide) (by decide) (Nat.le_of_ble_eq_true rfl) rfl rfl rfl rfl ?_
  rcases Option.eq_none_or_eq_some (m_at ts ty) with hk3 | ⟨k1, hk3⟩
  · refine jv_topI (y := (-1)) (by rw [hk3]; rfl) ?_
    refine jv_istore (q := 17) (lo' := [(7, .int (-1)), (6, .int (nI ec)), (0, .ref x), (1, .int (nI c)), (2, .int ty), (3, .int n), (4, .int s), (5, .int rc)]) G dX8_ownRun_15 (by decide) rfl rfl ?_
    refine jv_aload_n (q := 18) G 2 dX8_ownRun_17 rfl rfl rfl ?_
    refine jv_iload (q := 20) G 1 dX8_ownRun_18 rfl rfl ?_
    refine jv_iload (q := 22) G 7 dX8_ownRun_20 rfl rfl ?_
    refine jv_callV_I (q := 25) (h1 := h) (As := [.int (nI ec), .int rc]) (rest := []) (ce' := 0) (sl' := 0) (r := jv_oN ((m_at ts rc).map (fun k => 10 * ec + k))) G Z ml_X8_151 (r_at hlt (hsc.S hS) hec (hsc.E hS hE)) (hsc.S hS).1 dX8_ownRun_22 rfl (by decide) (by decide) (by decide) (by decide) (Nat.le_of_ble_eq_true rfl) rfl rfl rfl rfl ?_
    rcases Option.eq_none_or_eq_some (m_at ts rc) with hk6 | ⟨k4, hk6⟩
    · refine jv_topI (y := (-1)) (by rw [hk6]; rfl) ?_
      refine jv_istore (q := 27) (lo' := [(8, .int (-1)), (7, .int (-1)), (6, .int (nI ec)), (0, .ref x), (1, .int (nI c)), (2, .int ty), (3, .int n), (4, .int s), (5, .int rc)]) G dX8_ownRun_25 (by decide) rfl rfl ?_
      refine jv_iload (q := 29) G 1 dX8_ownRun_27 rfl rfl ?_
      refine jv_iconst (q := 30) (v := (-1)) G dX8_ownRun_29 (by decide) rfl ?_
      refine jv_icmp_eq (q := 33) (tgt := 49) G dX8_ownRun_30 (by decide) rfl (fun c7 => ?_) (fun c7 => ?_)
      · refine jv_iconst (q := 50) (v := (-1)) G dX8_ownRun_49 (by decide) rfl ?_
        refine jv_goto (q := 64) G dX8_ownRun_50 (by decide) ?_
        refine jv_istore (q := 66) (lo' := [(9, .int (-1)), (8, .int (-1)), (7, .int (-1)), (6, .int (nI ec)), (0, .ref x), (1, .int (nI c)), (2, .int ty), (3, .int n), (4, .int s), (5, .int rc)]) G dX8_ownRun_64 (by decide) rfl rfl ?_
        refine jv_iload (q := 68) G 0 dX8_ownRun_66 rfl rfl ?_
        refine jv_iconst (q := 69) (v := (-1)) G dX8_ownRun_68 (by decide) rfl ?_
        refine jv_icmp_ne (q := 72) (tgt := 76) G dX8_ownRun_69 (by decide) rfl (fun c8 => ?_) (fun c8 => ?_)
        · exact absurd rfl c8
        · refine jv_iconst (q := 73) (v := (-1)) G dX8_ownRun_72 (by decide) rfl ?_
          refine jv_goto (q := 86) G dX8_ownRun_73 (by decide) ?_
          refine jv_istore (q := 88) (lo' := [(10, .int (-1)), (9, .int (-1)), (8, .int (-1)), (7, .int (-1)), (6, .int (nI ec)), (0, .ref x), (1, .int (nI c)), (2, .int ty), (3, .int n), (4, .int s), (5, .int rc)]) G dX8_ownRun_86 (by decide) rfl rfl ?_
          refine jv_iload (q := 90) G 0 dX8_ownRun_88 rfl rfl ?_
          refine jv_iconst (q := 91) (v := (-1)) G dX8_ownRun_90 (by decide) rfl ?_
          refine jv_icmp_ne (q := 94) (tgt := 98) G dX8_ownRun_91 (by decide) rfl (fun c9 => ?_) (fun c9 => ?_)
          · exact absurd rfl c9
          · refine jv_iconst (q := 95) (v := (-1)) G dX8_ownRun_94 (by decide) rfl ?_
            refine jv_goto (q := 108) G dX8_ownRun_95 (by decide) ?_
            refine jv_iret G hr dX8_ownRun_108 (Nat.le_of_ble_eq_true rfl) (Nat.le_of_ble_eq_true rfl) ?_
            refine ⟨?_, hsc⟩
            unfold m_orn
            simp only [*, if_true, if_false, Bool.false_eq_true, reduceIte, Option.map_some] <;> rfl
      · exact absurd rfl c7
    · refine jv_topI (y := nI (10 * ec + k4)) (by rw [hk6]; rfl) ?_
      obtain ⟨t5, ht5, nt5, lt5⟩ := m_at_some hk6
      have Tt5 := (hE.2.2 k4 t5 ht5).1
      have Ot5 := (hE.2.2 k4 t5 ht5).2
      have Lt5 := hE.2.1
      have Bt5n := Ot5.1; have Bt5k := Ot5.2.1
      refine jv_istore (q := 27) (lo' := [(8, .int (nI (10 * ec + k4))), (7, .int (-1)), (6, .int (nI ec)), (0, .ref x), (1, .int (nI c)), (2, .int ty), (3, .int n), (4, .int s), (5, .int rc)]) G dX8_ownRun_25 (by decide) rfl rfl ?_
      refine jv_iload (q := 29) G 1 dX8_ownRun_27 rfl rfl ?_
      refine jv_iconst (q := 30) (v := (-1)) G dX8_ownRun_29 (by decide) rfl ?_
      refine jv_icmp_eq (q := 33) (tgt := 49) G dX8_ownRun_30 (by decide) rfl (fun c10 => ?_) (fun c10 => ?_)
      · refine jv_iconst (q := 50) (v := (-1)) G dX8_ownRun_49 (by decide) rfl ?_
        refine jv_goto (q := 64) G dX8_ownRun_50 (by decide) ?_
        refine jv_istore (q := 66) (lo' := [(9, .int (-1)), (8, .int (nI (10 * ec + k4))), (7, .int (-1)), (6, .int (nI ec)), (0, .ref x), (1, .int (nI c)), (2, .int ty), (3, .int n), (4, .int s), (5, .int rc)]) G dX8_ownRun_64 (by decide) rfl rfl ?_
        refine jv_iload (q := 68) G 0 dX8_ownRun_66 rfl rfl ?_
        refine jv_iconst (q := 69) (v := (-1)) G dX8_ownRun_68 (by decide) rfl ?_
        refine jv_icmp_ne (q := 72) (tgt := 76) G dX8_ownRun_69 (by decide) rfl (fun c11 => ?_) (fun c11 => ?_)
        · exact absurd rfl c11
        · refine jv_iconst (q := 73) (v := (-1)) G dX8_ownRun_72 (by decide) rfl ?_
          refine jv_goto (q := 86) G dX8_ownRun_73 (by decide) ?_
          refine jv_istore (q := 88) (lo' := [(10, .int (-1)), (9, .int (-1)), (8, .int (nI (10 * ec + k4))), (7, .int (-1)), (6, .int (nI ec)), (0, .ref x), (1, .int (nI c)), (2, .int ty), (3, .int n), (4, .int s), (5, .int rc)]) G dX8_ownRun_86 (by decide) rfl rfl ?_
          refine jv_iload (q := 90) G 0 dX8_ownRun_88 rfl rfl ?_
          refine jv_iconst (q := 91) (v := (-1)) G dX8_ownRun_90 (by decide) rfl ?_
          refine jv_icmp_ne (q := 94) (tgt := 98) G dX8_ownRun_91 (by decide) rfl (fun c12 => ?_) (fun c12 => ?_)
          · exact absurd rfl c12
          · refine jv_iconst (q := 95) (v := (-1)) G dX8_ownRun_94 (by decide) rfl ?_
            refine jv_goto (q := 108) G dX8_ownRun_95 (by decide) ?_
            refine jv_iret G hr dX8_ownRun_108 (Nat.le_of_ble_eq_true rfl) (Nat.le_of_ble_eq_true rfl) ?_
            refine ⟨?_, hsc⟩
            unfold m_orn
            simp only [*, if_true, if_false, Bool.false_eq_true, reduceIte, Option.map_some] <;> rfl
      · exact absurd rfl c10
  · refine jv_topI (y := nI (10 * ec + k1)) (by rw [hk3]; rfl) ?_
    obtain ⟨t2, ht2, nt2, lt2⟩ := m_at_some hk3
    have Tt2 := (hE.2.2 k1 t2 ht2).1
    have Ot2 := (hE.2.2 k1 t2 ht2).2
    have Lt2 := hE.2.1
    have Bt2n := Ot2.1; have Bt2k := Ot2.2.1
    refine jv_istore (q := 17) (lo' := [(7, .int (nI (10 * ec + k1))), (6, .int (nI ec)), (0, .ref x), (1, .int (nI c)), (2, .int ty), (3, .int n), (4, .int s), (5, .int rc)]) G dX8_ownRun_15 (by decide) rfl rfl ?_
    refine jv_aload_n (q := 18) G 2 dX8_ownRun_17 rfl rfl rfl ?_
    refine jv_iload (q := 20) G 1 dX8_ownRun_18 rfl rfl ?_
    refine jv_iload (q := 22) G 7 dX8_ownRun_20 rfl rfl ?_
    refine jv_callV_I (q := 25) (h1 := h) (As := [.int (nI ec), .int rc]) (rest := []) (ce' := 0) (sl' := 0) (r := jv_oN ((m_at ts rc).map (fun k => 10 * ec + k))) G Z ml_X8_151 (r_at hlt (hsc.S hS) hec (hsc.E hS hE)) (hsc.S hS).1 dX8_ownRun_22 rfl (by decide) (by decide) (by decide) (by decide) (Nat.le_of_ble_eq_true rfl) rfl rfl rfl rfl ?_
    rcases Option.eq_none_or_eq_some (m_at ts rc) with hk15 | ⟨k13, hk15⟩
    · refine jv_topI (y := (-1)) (by rw [hk15]; rfl) ?_
      refine jv_istore (q := 27) (lo' := [(8, .int (-1)), (7, .int (nI (10 * ec + k1))), (6, .int (nI ec)), (0, .ref x), (1, .int (nI c)), (2, .int ty), (3, .int n), (4, .int s), (5, .int rc)]) G dX8_ownRun_25 (by decide) rfl rfl ?_
      refine jv_iload (q := 29) G 1 dX8_ownRun_27 rfl rfl ?_
      refine jv_iconst (q := 30) (v := (-1)) G dX8_ownRun_29 (by decide) rfl ?_
      refine jv_icmp_eq (q := 33) (tgt := 49) G dX8_ownRun_30 (by decide) rfl (fun c16 => ?_) (fun c16 => ?_)
      · exact absurd c16 (jv_nI_m1 (by omega))
      · refine jv_iload (q := 35) G 0 dX8_ownRun_33 rfl rfl ?_
        refine jv_iconst (q := 36) (v := (-1)) G dX8_ownRun_35 (by decide) rfl ?_
        refine jv_icmp_eq (q := 39) (tgt := 49) G dX8_ownRun_36 (by decide) rfl (fun c17 => ?_) (fun c17 => ?_)
        · refine jv_iconst (q := 50) (v := (-1)) G dX8_ownRun_49 (by decide) rfl ?_
          refine jv_goto (q := 64) G dX8_ownRun_50 (by decide) ?_
          refine jv_istore (q := 66) (lo' := [(9, .int (-1)), (8, .int (-1)), (7, .int (nI (10 * ec + k1))), (6, .int (nI ec)), (0, .ref x), (1, .int (nI c)), (2, .int ty), (3, .int n), (4, .int s), (5, .int rc)]) G dX8_ownRun_64 (by decide) rfl rfl ?_
          refine jv_iload (q := 68) G 0 dX8_ownRun_66 rfl rfl ?_
          refine jv_iconst (q := 69) (v := (-1)) G dX8_ownRun_68 (by decide) rfl ?_
          refine jv_icmp_ne (q := 72) (tgt := 76) G dX8_ownRun_69 (by decide) rfl (fun c18 => ?_) (fun c18 => ?_)
          · exact absurd rfl c18
          · refine jv_iconst (q := 73) (v := (-1)) G dX8_ownRun_72 (by decide) rfl ?_
            refine jv_goto (q := 86) G dX8_ownRun_73 (by decide) ?_
            refine jv_istore (q := 88) (lo' := [(10, .int (-1)), (9, .int (-1)), (8, .int (-1)), (7, .int (nI (10 * ec + k1))), (6, .int (nI ec)), (0, .ref x), (1, .int (nI c)), (2, .int ty), (3, .int n), (4, .int s), (5, .int rc)]) G dX8_ownRun_86 (by decide) rfl rfl ?_
            refine jv_iload (q := 90) G 0 dX8_ownRun_88 rfl rfl ?_
            refine jv_iconst (q := 91) (v := (-1)) G dX8_ownRun_90 (by decide) rfl ?_
            refine jv_icmp_ne (q := 94) (tgt := 98) G dX8_ownRun_91 (by decide) rfl (fun c19 => ?_) (fun c19 => ?_)
            · exact absurd rfl c19
            · refine jv_iconst (q := 95) (v := (-1)) G dX8_ownRun_94 (by decide) rfl ?_
              refine jv_goto (q := 108) G dX8_ownRun_95 (by decide) ?_
              refine jv_iret G hr dX8_ownRun_108 (Nat.le_of_ble_eq_true rfl) (Nat.le_of_ble_eq_true rfl) ?_
              refine ⟨?_, hsc⟩
              unfold m_orn
              simp only [*, if_true, if_false, Bool.false_eq_true, reduceIte, Option.map_some] <;> rfl
        · exact absurd rfl c17
    · refine jv_topI (y := nI (10 * ec + k13)) (by rw [hk15]; rfl) ?_
      obtain ⟨t14, ht14, nt14, lt14⟩ := m_at_some hk15
      have Tt14 := (hE.2.2 k13 t14 ht14).1
      have Ot14 := (hE.2.2 k13 t14 ht14).2
      have Lt14 := hE.2.1
      have Bt14n := Ot14.1; have Bt14k := Ot14.2.1
      refine jv_istore (q := 27) (lo' := [(8, .int (nI (10 * ec + k13))), (7, .int (nI (10 * ec + k1))), (6, .int (nI ec)), (0, .ref x), (1, .int (nI c)), (2, .int ty), (3, .int n), (4, .int s), (5, .int rc)]) G dX8_ownRun_25 (by decide) rfl rfl ?_
      refine jv_iload (q := 29) G 1 dX8_ownRun_27 rfl rfl ?_
      refine jv_iconst (q := 30) (v := (-1)) G dX8_ownRun_29 (by decide) rfl ?_
      refine jv_icmp_eq (q := 33) (tgt := 49) G dX8_ownRun_30 (by decide) rfl (fun c20 => ?_) (fun c20 => ?_)
      · exact absurd c20 (jv_nI_m1 (by omega))
      · refine jv_iload (q := 35) G 0 dX8_ownRun_33 rfl rfl ?_
        refine jv_iconst (q := 36) (v := (-1)) G dX8_ownRun_35 (by decide) rfl ?_
        refine jv_icmp_eq (q := 39) (tgt := 49) G dX8_ownRun_36 (by decide) rfl (fun c21 => ?_) (fun c21 => ?_)
        · exact absurd c21 (jv_nI_m1 (by omega))
        · refine jv_aload_n (q := 40) G 3 dX8_ownRun_39 rfl rfl rfl ?_
          refine jv_getQ (q := 43) G dX8_ownRun_40 fl_X8_20 rfl (hsc.S hS).1 (rf_p5 (hsc.S hS)) rfl ?_
          refine jv_iload (q := 45) G 0 dX8_ownRun_43 rfl rfl ?_
          refine jv_zald (q := 46) G dX8_ownRun_45 (rf_a5 (hsc.S hS)) rfl (by omega) (by decide) (rt_5 (hsc.T hS Tt14)) rfl ?_
          refine jv_if_eqB (q := 49) (tgt := 53) G dX8_ownRun_46 (by decide) rfl (fun c22 => ?_) (fun c22 => ?_)
          · refine jv_aload_n (q := 54) G 3 dX8_ownRun_53 rfl rfl rfl ?_
            refine jv_iload (q := 56) G 2 dX8_ownRun_54 rfl rfl ?_
            refine jv_iload (q := 58) G 1 dX8_ownRun_56 rfl rfl ?_
            refine jv_iload_n (q := 59) G 6 dX8_ownRun_58 rfl rfl rfl ?_
            refine jv_iload (q := 61) G 7 dX8_ownRun_59 rfl rfl ?_
            refine jv_callV (q := 64) (As := [.int (nI ec), .int (nI (10 * ec + k1)), .int n, .int s]) (rest := []) G Z ml_X8_186 (r_findMethod (d := 11) hlt hsc hS hec hE hV ht2 (hg k1 (by omega))) (hsc.S hS).1 dX8_ownRun_61 rfl (by decide) (by decide) (by decide) (by decide) (Nat.le_of_ble_eq_true rfl) rfl rfl (fun v24 h23 y25 => ?_) (fun _ _ hx => hx.elim)
            obtain ⟨rfl, hsc⟩ := y25
            show jv_V E 11 h23 0 0 (jv_Q E (fun v h' => v = some (.int (jv_oN (m_orn ts ty n s rc))) ∧ sc x q h0 h') jv_no 0 0) 64 [(8, .int (nI (10 * ec + k13))), (7, .int (nI (10 * ec + k1))), (6, .int (nI ec)), (0, .ref x), (1, .int (nI c)), (2, .int ty), (3, .int n), (4, .int s), (5, .int rc)] [.int (ffE ec (m_fm ts 11 k1 n s))]
            rcases Option.eq_none_or_eq_some (m_fm ts 11 k1 n s) with hp29 | ⟨p26, hp29⟩
            · refine jv_topI (y := (-1)) (by rw [hp29]; rfl) ?_
              refine jv_istore (q := 66) (lo' := [(9, .int (-1)), (8, .int (nI (10 * ec + k13))), (7, .int (nI (10 * ec + k1))), (6, .int (nI ec)), (0, .ref x), (1, .int (nI c)), (2, .int ty), (3, .int n), (4, .int s), (5, .int rc)]) G dX8_ownRun_64 (by decide) rfl rfl ?_
              refine jv_iload (q := 68) G 0 dX8_ownRun_66 rfl rfl ?_
              refine jv_iconst (q := 69) (v := (-1)) G dX8_ownRun_68 (by decide) rfl ?_
              refine jv_icmp_ne (q := 72) (tgt := 76) G dX8_ownRun_69 (by decide) rfl (fun c30 => ?_) (fun c30 => ?_)
              · exact absurd rfl c30
              · refine jv_iconst (q := 73) (v := (-1)) G dX8_ownRun_72 (by decide) rfl ?_
                refine jv_goto (q := 86) G dX8_ownRun_73 (by decide) ?_
                refine jv_istore (q := 88) (lo' := [(10, .int (-1)), (9, .int (-1)), (8, .int (nI (10 * ec + k13))), (7, .int (nI (10 * ec + k1))), (6, .int (nI ec)), (0, .ref x), (1, .int (nI c)), (2, .int ty), (3, .int n), (4, .int s), (5, .int rc)]) G dX8_ownRun_86 (by decide) rfl rfl ?_
                refine jv_iload (q := 90) G 0 dX8_ownRun_88 rfl rfl ?_
                refine jv_iconst (q := 91) (v := (-1)) G dX8_ownRun_90 (by decide) rfl ?_
                refine jv_icmp_ne (q := 94) (tgt := 98) G dX8_ownRun_91 (by decide) rfl (fun c31 => ?_) (fun c31 => ?_)
                · exact absurd rfl c31
                · refine jv_iconst (q := 95) (v := (-1)) G dX8_ownRun_94 (by decide) rfl ?_
                  refine jv_goto (q := 108) G dX8_ownRun_95 (by decide) ?_
                  refine jv_iret G hr dX8_ownRun_108 (Nat.le_of_ble_eq_true rfl) (Nat.le_of_ble_eq_true rfl) ?_
                  refine ⟨?_, hsc⟩
                  unfold m_orn
                  simp only [*, if_true, if_false, Bool.false_eq_true, reduceIte, Option.map_some] <;> rfl
            · refine jv_topI (y := nI (6 * (10 * ec + p26.1) + p26.2)) (by rw [hp29]; rfl) ?_
              obtain ⟨t27, ht27, m28, hm28⟩ := m_fm_mem hp29
              have Tt27 := (hE.2.2 p26.1 t27 ht27).1
              have Ot27 := (hE.2.2 p26.1 t27 ht27).2
              have Lt27 := hE.2.1
              have lt27 := jv_ltGet ht27
              have Mm28 := rt_m Tt27 hm28
              have Om28 := Ot27.2.2.2.2.2.2 m28 (List.mem_of_getElem? hm28)
              have Lm28 := Ot27.2.2.2.2.2.1
              have lm28 := jv_ltGet hm28
              have Bm28n := Om28.1; have Bm28s := Om28.2.1; have Bm28a := Om28.2.2.1; have Bt27n := Ot27.1; have Bt27k := Ot27.2.1
              refine jv_istore (q := 66) (lo' := [(9, .int (nI (6 * (10 * ec + p26.1) + p26.2))), (8, .int (nI (10 * ec + k13))), (7, .int (nI (10 * ec + k1))), (6, .int (nI ec)), (0, .ref x), (1, .int (nI c)), (2, .int ty), (3, .int n), (4, .int s), (5, .int rc)]) G dX8_ownRun_64 (by decide) rfl rfl ?_
              refine jv_iload (q := 68) G 0 dX8_ownRun_66 rfl rfl ?_
              refine jv_iconst (q := 69) (v := (-1)) G dX8_ownRun_68 (by decide) rfl ?_
              refine jv_icmp_ne (q := 72) (tgt := 76) G dX8_ownRun_69 (by decide) rfl (fun c32 => ?_) (fun c32 => ?_)
              · refine jv_aload_n (q := 77) G 4 dX8_ownRun_76 rfl rfl rfl ?_
                refine jv_iload (q := 79) G 3 dX8_ownRun_77 rfl rfl ?_
                refine jv_iload (q := 81) G 0 dX8_ownRun_79 rfl rfl ?_
                refine jv_iload (q := 83) G 1 dX8_ownRun_81 rfl rfl ?_
                refine jv_callV (q := 86) (As := [.int (nI ec), .int (nI (6 * (10 * ec + p26.1) + p26.2)), .int (nI (10 * ec + k13))]) (rest := []) G Z ml_X8_189 (r_selected (d := 11) hlt hsc hS hec hE hV ht27 hm28 ht14 (hg k13 (by omega))) (hsc.S hS).1 dX8_ownRun_83 rfl (by decide) (by decide) (by decide) (by decide) (Nat.le_of_ble_eq_true rfl) rfl rfl (fun v34 h33 y35 => ?_) (fun _ _ hx => hx.elim)
                obtain ⟨rfl, hsc⟩ := y35
                show jv_V E 11 h33 0 0 (jv_Q E (fun v h' => v = some (.int (jv_oN (m_orn ts ty n s rc))) ∧ sc x q h0 h') jv_no 0 0) 86 [(9, .int (nI (6 * (10 * ec + p26.1) + p26.2))), (8, .int (nI (10 * ec + k13))), (7, .int (nI (10 * ec + k1))), (6, .int (nI ec)), (0, .ref x), (1, .int (nI c)), (2, .int ty), (3, .int n), (4, .int s), (5, .int rc)] [.int (ffE ec (m_sl ts 11 t27 m28 p26.1 p26.2 k13))]
                rcases Option.eq_none_or_eq_some (m_sl ts 11 t27 m28 p26.1 p26.2 k13) with hp39 | ⟨p36, hp39⟩
                · refine jv_topI (y := (-1)) (by rw [hp39]; rfl) ?_
                  refine jv_istore (q := 88) (lo' := [(10, .int (-1)), (9, .int (nI (6 * (10 * ec + p26.1) + p26.2))), (8, .int (nI (10 * ec + k13))), (7, .int (nI (10 * ec + k1))), (6, .int (nI ec)), (0, .ref x), (1, .int (nI c)), (2, .int ty), (3, .int n), (4, .int s), (5, .int rc)]) G dX8_ownRun_86 (by decide) rfl rfl ?_
                  refine jv_iload (q := 90) G 0 dX8_ownRun_88 rfl rfl ?_
                  refine jv_iconst (q := 91) (v := (-1)) G dX8_ownRun_90 (by decide) rfl ?_
                  refine jv_icmp_ne (q := 94) (tgt := 98) G dX8_ownRun_91 (by decide) rfl (fun c40 => ?_) (fun c40 => ?_)
                  · exact absurd rfl c40
                  · refine jv_iconst (q := 95) (v := (-1)) G dX8_ownRun_94 (by decide) rfl ?_
                    refine jv_goto (q := 108) G dX8_ownRun_95 (by decide) ?_
                    refine jv_iret G hr dX8_ownRun_108 (Nat.le_of_ble_eq_true rfl) (Nat.le_of_ble_eq_true rfl) ?_
                    refine ⟨?_, hsc⟩
                    unfold m_orn
                    simp only [*, if_true, if_false, Bool.false_eq_true, reduceIte, Option.map_some] <;> rfl
                · refine jv_topI (y := nI (6 * (10 * ec + p36.1) + p36.2)) (by rw [hp39]; rfl) ?_
                  obtain ⟨t37, ht37, m38, hm38⟩ := m_sl_mem ht27 hm28 hp39
                  have Tt37 := (hE.2.2 p36.1 t37 ht37).1
                  have Ot37 := (hE.2.2 p36.1 t37 ht37).2
                  have Lt37 := hE.2.1
                  have lt37 := jv_ltGet ht37
                  have Mm38 := rt_m Tt37 hm38
                  have Om38 := Ot37.2.2.2.2.2.2 m38 (List.mem_of_getElem? hm38)
                  have Lm38 := Ot37.2.2.2.2.2.1
                  have lm38 := jv_ltGet hm38
                  have Bm38n := Om38.1; have Bm38s := Om38.2.1; have Bm38a := Om38.2.2.1; have Bt37n := Ot37.1; have Bt37k := Ot37.2.1
                  refine jv_istore (q := 88) (lo' := [(10, .int (nI (6 * (10 * ec + p36.1) + p36.2))), (9, .int (nI (6 * (10 * ec + p26.1) + p26.2))), (8, .int (nI (10 * ec + k13))), (7, .int (nI (10 * ec + k1))), (6, .int (nI ec)), (0, .ref x), (1, .int (nI c)), (2, .int ty), (3, .int n), (4, .int s), (5, .int rc)]) G dX8_ownRun_86 (by decide) rfl rfl ?_
                  refine jv_iload (q := 90) G 0 dX8_ownRun_88 rfl rfl ?_
                  refine jv_iconst (q := 91) (v := (-1)) G dX8_ownRun_90 (by decide) rfl ?_
                  refine jv_icmp_ne (q := 94) (tgt := 98) G dX8_ownRun_91 (by decide) rfl (fun c41 => ?_) (fun c41 => ?_)
                  · refine jv_aload_n (q := 99) G 5 dX8_ownRun_98 rfl rfl rfl ?_
                    refine jv_getQ (q := 102) G dX8_ownRun_99 fl_X8_17 rfl (hsc.S hS).1 (rf_p4 (hsc.S hS)) rfl ?_
                    refine jv_iload (q := 104) G 0 dX8_ownRun_102 rfl rfl ?_
                    refine jv_callS_I (q := 107) (h1 := h33) (As := [.int (nI (6 * (10 * ec + p36.1) + p36.2))]) (rest := [.ref (q 4)]) (ce' := 0) (sl' := 0) (r := nI ((6 * (10 * ec + p36.1) + p36.2) / 6)) G Z ml_X8_183 (r_typeOf hlt (by omega)) dX8_ownRun_104 rfl (by decide) (by decide) (by decide) (by decide) (Nat.le_of_ble_eq_true rfl) rfl rfl rfl rfl ?_
                    refine jv_topI (y := nI (10 * ec + p36.1)) (congrArg nI (by omega)) ?_
                    refine jv_iald (q := 108) G dX8_ownRun_107 (rf_a4 (hsc.S hS)) rfl (by omega) (by decide) (rt_4 (hsc.T hS Tt37)) rfl ?_
                    refine jv_iret G hr dX8_ownRun_108 (Nat.le_of_ble_eq_true rfl) (Nat.le_of_ble_eq_true rfl) ?_
                    refine ⟨?_, hsc⟩
                    unfold m_orn
                    simp only [*, if_true, if_false, Bool.false_eq_true, reduceIte, Option.map_some] <;> rfl
                  · exact absurd c41 (jv_nI_m1 (by omega))
              · exact absurd c32 (jv_nI_m1 (by omega))
          · refine jv_iconst (q := 50) (v := (-1)) G dX8_ownRun_49 (by decide) rfl ?_
            refine jv_goto (q := 64) G dX8_ownRun_50 (by decide) ?_
            refine jv_istore (q := 66) (lo' := [(9, .int (-1)), (8, .int (nI (10 * ec + k13))), (7, .int (nI (10 * ec + k1))), (6, .int (nI ec)), (0, .ref x), (1, .int (nI c)), (2, .int ty), (3, .int n), (4, .int s), (5, .int rc)]) G dX8_ownRun_64 (by decide) rfl rfl ?_
            refine jv_iload (q := 68) G 0 dX8_ownRun_66 rfl rfl ?_
            refine jv_iconst (q := 69) (v := (-1)) G dX8_ownRun_68 (by decide) rfl ?_
            refine jv_icmp_ne (q := 72) (tgt := 76) G dX8_ownRun_69 (by decide) rfl (fun c42 => ?_) (fun c42 => ?_)
            · exact absurd rfl c42
            · refine jv_iconst (q := 73) (v := (-1)) G dX8_ownRun_72 (by decide) rfl ?_
              refine jv_goto (q := 86) G dX8_ownRun_73 (by decide) ?_
              refine jv_istore (q := 88) (lo' := [(10, .int (-1)), (9, .int (-1)), (8, .int (nI (10 * ec + k13))), (7, .int (nI (10 * ec + k1))), (6, .int (nI ec)), (0, .ref x), (1, .int (nI c)), (2, .int ty), (3, .int n), (4, .int s), (5, .int rc)]) G dX8_ownRun_86 (by decide) rfl rfl ?_
              refine jv_iload (q := 90) G 0 dX8_ownRun_88 rfl rfl ?_
              refine jv_iconst (q := 91) (v := (-1)) G dX8_ownRun_90 (by decide) rfl ?_
              refine jv_icmp_ne (q := 94) (tgt := 98) G dX8_ownRun_91 (by decide) rfl (fun c43 => ?_) (fun c43 => ?_)
              · exact absurd rfl c43
              · refine jv_iconst (q := 95) (v := (-1)) G dX8_ownRun_94 (by decide) rfl ?_
                refine jv_goto (q := 108) G dX8_ownRun_95 (by decide) ?_
                refine jv_iret G hr dX8_ownRun_108 (Nat.le_of_ble_eq_true rfl) (Nat.le_of_ble_eq_true rfl) ?_
                refine ⟨?_, hsc⟩
                unfold m_orn
                simp only [*, if_true, if_false, Bool.false_eq_true, reduceIte, Option.map_some] <;> rfl
