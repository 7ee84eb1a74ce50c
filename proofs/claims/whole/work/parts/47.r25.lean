set_option maxHeartbeats 4000000 in
set_option maxRecDepth 100000 in
theorem r_lr_loop {E : jv_E} {x : Nat} {q : Nat → Nat} {h : jv_H} {e i : Nat} {ts : List mT} {t : mT} (hS : rf_S x q h) (he : e < 8) (hE : rf_E q h e ts) (hti : ts[i]? = some t) (hlt : (jv_l E).stackTraces = false) (G : jv_C E cX8_leansRight RX8 5) (Z : jv_rm E = jv_room 2 0 0) (hr : (jv_mt E).sig.returnType = some .boolean) (hu : m_lu ts t = true) : ∀ (m j : Nat), j + m = (mt_f t).length → (∀ (j' : Nat) v, j' < j → (mt_f t)[j']? = some v → m_lf ts v = true) → jv_V E 5 h 0 0 (jv_Q E (jv_rI (jv_bI (m_lr ts t)) h) jv_no 0 0) 40 [(3, .int (nI j)), (0, .ref x), (1, .int (nI e)), (2, .int (nI (10 * e + i)))] [] := by
  have hsc : sc x q h h := sc.rf
  have hT := (hE.2.2 i t hti).1; have hO := (hE.2.2 i t hti).2
  have hl3 := hO.2.2.2.1; have hil := jv_ltGet hti; have hl10 := hE.2.1
  intro m
  induction m with
  | zero =>
    intro j hm hj
    refine jv_iload_n (q := 41) G 0 dX8_leansRight_40 rfl rfl rfl ?_
    refine jv_aload_n (q := 42) G 1 dX8_leansRight_41 rfl rfl rfl ?_
    refine jv_getQ (q := 45) G dX8_leansRight_42 fl_X8_35 rfl hS.1 (rf_p10 hS) rfl ?_
    refine jv_iload_n (q := 46) G 3 dX8_leansRight_45 rfl rfl rfl ?_
    refine jv_iald (q := 47) G dX8_leansRight_46 (rf_a10 hS) rfl (by omega) (by decide) (rt_10 hT) rfl ?_
    refine jv_icmp_geN (q := 50) (tgt := 91) G dX8_leansRight_47 (by decide) rfl (by omega) (by omega) (fun c1 => ?_) (fun c1 => ?_)
    · refine jv_iconst (q := 92) (v := nI 1) G dX8_leansRight_91 (by decide) rfl ?_
      refine jv_topI (y := jv_bI true) rfl ?_
      refine jv_zret G hr dX8_leansRight_92 (Nat.le_of_ble_eq_true rfl) (Nat.le_of_ble_eq_true rfl) ?_
      refine ⟨?_, rfl⟩
      rw [show m_lr ts t = true from by
        unfold m_lr
        rw [hu, Bool.true_and, List.all_eq_true]
        intro v hv
        obtain ⟨j', hj'⟩ := List.getElem?_of_mem hv
        exact hj j' v (by have := jv_ltGet hj'; omega) hj']
    · omega
  | succ m ih =>
    intro j hm hj
    obtain ⟨v, hv⟩ := jv_getLt (l := mt_f t) (k := j) (by omega)
    have hv11 := rt_11 hT hv
    refine jv_iload_n (q := 41) G 0 dX8_leansRight_40 rfl rfl rfl ?_
    refine jv_aload_n (q := 42) G 1 dX8_leansRight_41 rfl rfl rfl ?_
    refine jv_getQ (q := 45) G dX8_leansRight_42 fl_X8_35 rfl hS.1 (rf_p10 hS) rfl ?_
    refine jv_iload_n (q := 46) G 3 dX8_leansRight_45 rfl rfl rfl ?_
    refine jv_iald (q := 47) G dX8_leansRight_46 (rf_a10 hS) rfl (by omega) (by decide) (rt_10 hT) rfl ?_
    refine jv_icmp_geN (q := 50) (tgt := 91) G dX8_leansRight_47 (by decide) rfl (by omega) (by omega) (fun c1 => ?_) (fun c1 => ?_)
    · omega
    · refine jv_aload_n (q := 51) G 1 dX8_leansRight_50 rfl rfl rfl ?_
      refine jv_iload_n (q := 52) G 2 dX8_leansRight_51 rfl rfl rfl ?_
      refine jv_aload_n (q := 53) G 1 dX8_leansRight_52 rfl rfl rfl ?_
      refine jv_getQ (q := 56) G dX8_leansRight_53 fl_X8_38 rfl hS.1 (rf_p11 hS) rfl ?_
      refine jv_iconst (q := 57) (v := nI 3) G dX8_leansRight_56 (by decide) rfl ?_
      refine jv_iload_n (q := 58) G 3 dX8_leansRight_57 rfl rfl rfl ?_
      refine jv_imulN (q := 59) G dX8_leansRight_58 rfl ?_
      refine jv_iload_n (q := 60) G 0 dX8_leansRight_59 rfl rfl rfl ?_
      refine jv_iaddN (q := 61) G dX8_leansRight_60 rfl ?_
      refine jv_iald (q := 62) G dX8_leansRight_61 (rf_a11 hS) rfl (by omega) (by decide) hv11 rfl ?_
      refine jv_callV_I (q := 65) (h1 := h) (As := [.int (nI e), .int (nI v)]) (rest := []) (ce' := 0) (sl' := 0) (r := jv_oN ((m_at ts (nI v)).map (fun k => 10 * e + k))) G Z ml_X8_151 (r_at hlt (hsc.S hS) (by omega) (hsc.E hS hE)) hS.1 dX8_leansRight_62 rfl (by decide) (by decide) (by decide) (by decide) (Nat.le_of_ble_eq_true rfl) rfl rfl rfl rfl ?_
      rcases Option.eq_none_or_eq_some (m_at ts (nI v)) with hk4 | ⟨k2, hk4⟩
      · refine jv_topI (y := (-1)) (by rw [hk4]; rfl) ?_
        refine jv_istore (q := 67) (lo' := [(4, .int (-1)), (3, .int (nI j)), (0, .ref x), (1, .int (nI e)), (2, .int (nI (10 * e + i)))]) G dX8_leansRight_65 (by decide) rfl rfl ?_
        refine jv_iload (q := 69) G 0 dX8_leansRight_67 rfl rfl ?_
        refine jv_iconst (q := 70) (v := (-1)) G dX8_leansRight_69 (by decide) rfl ?_
        refine jv_icmp_eq (q := 73) (tgt := 83) G dX8_leansRight_70 (by decide) rfl (fun c5 => ?_) (fun c5 => ?_)
        · refine jv_iconst (q := 84) (v := nI 0) G dX8_leansRight_83 (by decide) rfl ?_
          refine jv_topI (y := jv_bI false) rfl ?_
          refine jv_zret G hr dX8_leansRight_84 (Nat.le_of_ble_eq_true rfl) (Nat.le_of_ble_eq_true rfl) ?_
          refine ⟨?_, rfl⟩
          rw [show m_lr ts t = false from by
            have hf : m_lf ts v = false := by
              unfold m_lf
              simp only [*]
              first | done | (rfl)
            unfold m_lr
            rw [hu, Bool.true_and, List.all_eq_false]
            exact ⟨v, List.mem_of_getElem? hv, by rw [hf]; decide⟩]
        · exact absurd rfl c5
      · refine jv_topI (y := nI (10 * e + k2)) (by rw [hk4]; rfl) ?_
        obtain ⟨t3, ht3, nt3, lt3⟩ := m_at_some hk4
        have Tt3 := (hE.2.2 k2 t3 ht3).1
        have Ot3 := (hE.2.2 k2 t3 ht3).2
        have Lt3 := hE.2.1
        have Bt3n := Ot3.1; have Bt3k := Ot3.2.1
        refine jv_istore (q := 67) (lo' := [(4, .int (nI (10 * e + k2))), (3, .int (nI j)), (0, .ref x), (1, .int (nI e)), (2, .int (nI (10 * e + i)))]) G dX8_leansRight_65 (by decide) rfl rfl ?_
        refine jv_iload (q := 69) G 0 dX8_leansRight_67 rfl rfl ?_
        refine jv_iconst (q := 70) (v := (-1)) G dX8_leansRight_69 (by decide) rfl ?_
        refine jv_icmp_eq (q := 73) (tgt := 83) G dX8_leansRight_70 (by decide) rfl (fun c6 => ?_) (fun c6 => ?_)
        · exact absurd c6 (jv_nI_m1 (by omega))
        · refine jv_aload_n (q := 74) G 2 dX8_leansRight_73 rfl rfl rfl ?_
          refine jv_getQ (q := 77) G dX8_leansRight_74 fl_X8_20 rfl hS.1 (rf_p5 hS) rfl ?_
          refine jv_iload (q := 79) G 0 dX8_leansRight_77 rfl rfl ?_
          refine jv_zald (q := 80) G dX8_leansRight_79 (rf_a5 hS) rfl (by omega) (by decide) (rt_5 (hsc.T hS Tt3)) rfl ?_
          refine jv_if_neB (q := 83) (tgt := 85) G dX8_leansRight_80 (by decide) rfl (fun c7 => ?_) (fun c7 => ?_)
          · refine jv_iinc (q := 88) (lo' := [(3, .int (nI (j + 1))), (4, .int (nI (10 * e + k2))), (0, .ref x), (1, .int (nI e)), (2, .int (nI (10 * e + i)))]) (v := nI (j + 1)) G 1 dX8_leansRight_85 rfl (nI_1 j) (by decide) rfl rfl ?_
            refine jv_goto (q := 40) G dX8_leansRight_88 (by decide) ?_
            refine jv_lo [0, 2, 3, 4] (lo' := [(3, .int (nI (j + 1))), (0, .ref x), (1, .int (nI e)), (2, .int (nI (10 * e + i)))]) rfl ?_
            refine ih (j + 1) (by omega) (fun j' v' hj' hv' => ?_)
            by_cases hjj : j' = j
            · subst hjj
              cases hv.symm.trans hv'
              unfold m_lf
              simp only [*]
              first | done | (simpa using c7)
            · exact hj j' v' (by omega) hv'
          · refine jv_iconst (q := 84) (v := nI 0) G dX8_leansRight_83 (by decide) rfl ?_
            refine jv_topI (y := jv_bI false) rfl ?_
            refine jv_zret G hr dX8_leansRight_84 (Nat.le_of_ble_eq_true rfl) (Nat.le_of_ble_eq_true rfl) ?_
            refine ⟨?_, rfl⟩
            rw [show m_lr ts t = false from by
              have hf : m_lf ts v = false := by
                unfold m_lf
                simp only [*]
                first | done | (simpa using c7)
              unfold m_lr
              rw [hu, Bool.true_and, List.all_eq_false]
              exact ⟨v, List.mem_of_getElem? hv, by rw [hf]; decide⟩]
set_option maxHeartbeats 4000000 in
set_option maxRecDepth 100000 in
theorem r_leansRight {lA : Launch} (hlt : lA.stackTraces = false) {D : jv_D} {base : Nat} {x : Nat} {q : Nat → Nat} {h : jv_H} {e i : Nat} {ts : List mT} {t : mT} (hS : rf_S x q h) (he : e < 8) (hE : rf_E q h e ts) (hti : ts[i]? = some t) : jv_Met lA D base yX8_leansRight (.code yX8_leansRight cX8_leansRight 5 (some .boolean)) 2 0 0 [.ref x, .int (nI e), .int (nI (10 * e + i))] h (jv_rI (jv_bI (m_lr ts t)) h) jv_no := by
  refine jv_ofV (lo := [(0, .ref x), (1, .int (nI e)), (2, .int (nI (10 * e + i)))]) hlt (by decide) (Nat.le_of_ble_eq_true rfl) rfl (fun E hEl hEd hEz Z G hr ht hnm => ?_)
  subst hEl; subst hEd; subst hEz
  have hsc : sc x q h h := sc.rf
  have hT := (hE.2.2 i t hti).1; have hO := (hE.2.2 i t hti).2
  have hl3 := hO.2.2.2.1; have hil := jv_ltGet hti; have hl10 := hE.2.1
  cases hu : mt_u t with
  | none =>
    refine jv_aload_n (q := 1) G 0 dX8_leansRight_0 rfl rfl rfl ?_
    refine jv_getQ (q := 4) G dX8_leansRight_1 fl_X8_32 rfl hS.1 (rf_p9 hS) rfl ?_
    refine jv_iload_n (q := 5) G 2 dX8_leansRight_4 rfl rfl rfl ?_
    refine jv_iald (q := 6) G dX8_leansRight_5 (rf_a9 hS) rfl (by omega) (by decide) ((rt_9 hT).trans (congrArg jv_oN hu)) rfl ?_
    refine jv_iconst (q := 7) (v := (-1)) G dX8_leansRight_6 (by decide) rfl ?_
    refine jv_icmp_eq (q := 10) (tgt := 38) G dX8_leansRight_7 (by decide) rfl (fun c1 => ?_) (fun c1 => ?_)
    · refine jv_iconst (q := 39) (v := nI 0) G dX8_leansRight_38 (by decide) rfl ?_
      refine jv_istore_n (q := 40) (lo' := [(3, .int (nI 0)), (0, .ref x), (1, .int (nI e)), (2, .int (nI (10 * e + i)))]) G dX8_leansRight_39 rfl (by decide) rfl rfl ?_
      refine jv_lo [0, 1, 2, 3] (lo' := [(3, .int (nI 0)), (0, .ref x), (1, .int (nI e)), (2, .int (nI (10 * e + i)))]) rfl ?_
      have hlu : m_lu ts t = true := by
        unfold m_lu
        simp only [*]
        first | done | exact rfl
      exact r_lr_loop hS he hE hti hlt G Z hr hlu (mt_f t).length 0 (by omega) (fun j' v hj => by omega)
    · exact absurd rfl c1
  | some u =>
    have hu16 := (hO.2.2.1 u hu).1
    refine jv_aload_n (q := 1) G 0 dX8_leansRight_0 rfl rfl rfl ?_
    refine jv_getQ (q := 4) G dX8_leansRight_1 fl_X8_32 rfl hS.1 (rf_p9 hS) rfl ?_
    refine jv_iload_n (q := 5) G 2 dX8_leansRight_4 rfl rfl rfl ?_
    refine jv_iald (q := 6) G dX8_leansRight_5 (rf_a9 hS) rfl (by omega) (by decide) ((rt_9 hT).trans (congrArg jv_oN hu)) rfl ?_
    refine jv_iconst (q := 7) (v := (-1)) G dX8_leansRight_6 (by decide) rfl ?_
    refine jv_icmp_eq (q := 10) (tgt := 38) G dX8_leansRight_7 (by decide) rfl (fun c2 => ?_) (fun c2 => ?_)
    · exact absurd c2 (jv_nI_m1 (by omega))
    · refine jv_aload_n (q := 11) G 0 dX8_leansRight_10 rfl rfl rfl ?_
      refine jv_iload_n (q := 12) G 1 dX8_leansRight_11 rfl rfl rfl ?_
      refine jv_aload_n (q := 13) G 0 dX8_leansRight_12 rfl rfl rfl ?_
      refine jv_getQ (q := 16) G dX8_leansRight_13 fl_X8_32 rfl hS.1 (rf_p9 hS) rfl ?_
      refine jv_iload_n (q := 17) G 2 dX8_leansRight_16 rfl rfl rfl ?_
      refine jv_iald (q := 18) G dX8_leansRight_17 (rf_a9 hS) rfl (by omega) (by decide) ((rt_9 hT).trans (congrArg jv_oN hu)) rfl ?_
      refine jv_callV_I (q := 21) (h1 := h) (As := [.int (nI e), .int (nI u)]) (rest := []) (ce' := 0) (sl' := 0) (r := jv_oN ((m_at ts (nI u)).map (fun k => 10 * e + k))) G Z ml_X8_151 (r_at hlt (hsc.S hS) (by omega) (hsc.E hS hE)) hS.1 dX8_leansRight_18 rfl (by decide) (by decide) (by decide) (by decide) (Nat.le_of_ble_eq_true rfl) rfl rfl rfl rfl ?_
      rcases Option.eq_none_or_eq_some (m_at ts (nI u)) with hk5 | ⟨k3, hk5⟩
      · refine jv_topI (y := (-1)) (by rw [hk5]; rfl) ?_
        refine jv_istore_n (q := 22) (lo' := [(3, .int (-1)), (0, .ref x), (1, .int (nI e)), (2, .int (nI (10 * e + i)))]) G dX8_leansRight_21 rfl (by decide) rfl rfl ?_
        refine jv_iload_n (q := 23) G 0 dX8_leansRight_22 rfl rfl rfl ?_
        refine jv_iconst (q := 24) (v := (-1)) G dX8_leansRight_23 (by decide) rfl ?_
        refine jv_icmp_eq (q := 27) (tgt := 36) G dX8_leansRight_24 (by decide) rfl (fun c6 => ?_) (fun c6 => ?_)
        · refine jv_iconst (q := 37) (v := nI 0) G dX8_leansRight_36 (by decide) rfl ?_
          refine jv_topI (y := jv_bI false) rfl ?_
          refine jv_zret G hr dX8_leansRight_37 (Nat.le_of_ble_eq_true rfl) (Nat.le_of_ble_eq_true rfl) ?_
          refine ⟨?_, rfl⟩
          rw [show m_lr ts t = false from by
            have hf : m_lu ts t = false := by
              unfold m_lu
              simp only [*]
              first | done | (rfl)
            unfold m_lr
            rw [hf, Bool.false_and]]
        · exact absurd rfl c6
      · refine jv_topI (y := nI (10 * e + k3)) (by rw [hk5]; rfl) ?_
        obtain ⟨t4, ht4, nt4, lt4⟩ := m_at_some hk5
        have Tt4 := (hE.2.2 k3 t4 ht4).1
        have Ot4 := (hE.2.2 k3 t4 ht4).2
        have Lt4 := hE.2.1
        have Bt4n := Ot4.1; have Bt4k := Ot4.2.1
        refine jv_istore_n (q := 22) (lo' := [(3, .int (nI (10 * e + k3))), (0, .ref x), (1, .int (nI e)), (2, .int (nI (10 * e + i)))]) G dX8_leansRight_21 rfl (by decide) rfl rfl ?_
        refine jv_iload_n (q := 23) G 0 dX8_leansRight_22 rfl rfl rfl ?_
        refine jv_iconst (q := 24) (v := (-1)) G dX8_leansRight_23 (by decide) rfl ?_
        refine jv_icmp_eq (q := 27) (tgt := 36) G dX8_leansRight_24 (by decide) rfl (fun c7 => ?_) (fun c7 => ?_)
        · exact absurd c7 (jv_nI_m1 (by omega))
        · refine jv_aload_n (q := 28) G 1 dX8_leansRight_27 rfl rfl rfl ?_
          refine jv_getQ (q := 31) G dX8_leansRight_28 fl_X8_20 rfl hS.1 (rf_p5 hS) rfl ?_
          refine jv_iload_n (q := 32) G 0 dX8_leansRight_31 rfl rfl rfl ?_
          refine jv_zald (q := 33) G dX8_leansRight_32 (rf_a5 hS) rfl (by omega) (by decide) (rt_5 (hsc.T hS Tt4)) rfl ?_
          refine jv_if_eqB (q := 36) (tgt := 38) G dX8_leansRight_33 (by decide) rfl (fun c8 => ?_) (fun c8 => ?_)
          · refine jv_iconst (q := 39) (v := nI 0) G dX8_leansRight_38 (by decide) rfl ?_
            refine jv_istore_n (q := 40) (lo' := [(3, .int (nI 0)), (0, .ref x), (1, .int (nI e)), (2, .int (nI (10 * e + i)))]) G dX8_leansRight_39 rfl (by decide) rfl rfl ?_
            refine jv_lo [0, 1, 2, 3] (lo' := [(3, .int (nI 0)), (0, .ref x), (1, .int (nI e)), (2, .int (nI (10 * e + i)))]) rfl ?_
            have hlu : m_lu ts t = true := by
              unfold m_lu
              simp only [*]
              first | done | exact (by simpa using c8)
            exact r_lr_loop hS he hE hti hlt G Z hr hlu (mt_f t).length 0 (by omega) (fun j' v hj => by omega)
          · refine jv_iconst (q := 37) (v := nI 0) G dX8_leansRight_36 (by decide) rfl ?_
            refine jv_topI (y := jv_bI false) rfl ?_
            refine jv_zret G hr dX8_leansRight_37 (Nat.le_of_ble_eq_true rfl) (Nat.le_of_ble_eq_true rfl) ?_
            refine ⟨?_, rfl⟩
            rw [show m_lr ts t = false from by
              have hf : m_lu ts t = false := by
                unfold m_lu
                simp only [*]
                first | done | (simpa using c8)
              unfold m_lr
              rw [hf, Bool.false_and]]
