theorem in16_t {a : Int32} (h : rr_in a (nI 0) (nI 15) = true) : ∃ k, k < 16 ∧ a = nI k ∧ m_16 a = some k := by
  simp only [rr_in, Bool.and_eq_true, Bool.not_eq_true', decide_eq_false_iff_not] at h
  exact m_16_s h.1 h.2
theorem in16_f {a : Int32} (h : rr_in a (nI 0) (nI 15) = false) : m_16 a = none := by
  apply m_16_n
  by_cases h1 : a < 0
  · exact Or.inl h1
  · by_cases h2 : (15 : Int32) < a
    · exact Or.inr h2
    · exfalso
      have : rr_in a (nI 0) (nI 15) = true := by
        simp only [rr_in, Bool.and_eq_true, Bool.not_eq_true', decide_eq_false_iff_not]
        exact ⟨h1, h2⟩
      rw [h] at this; cases this
set_option maxHeartbeats 4000000 in
set_option maxRecDepth 100000 in
theorem r_isAbove {lA : Launch} (hlt : lA.stackTraces = false) {D : jv_D} {base : Nat} {x : Nat} {q : Nat → Nat} {h0 h : jv_H} {e : Nat} {u l : Int32} {ts : List mT} (hsc : sc x q h0 h) (hS : rf_S x q h0) (he : e < 8) (hV : rf_V q h0 e ts) : jv_Met lA D base yX8_isAbove (.code yX8_isAbove cX8_isAbove 4 (some .boolean)) 2 0 0 [.ref x, .int (nI e), .int u, .int l] h (jv_rI (jv_bI (m_isA ts u l)) h) jv_no := by
  refine jv_ofV (lo := [(0, .ref x), (1, .int (nI e)), (2, .int u), (3, .int l)]) hlt (by decide) (Nat.le_of_ble_eq_true rfl) rfl (fun E hEl hEd hEz Z G hr ht hnm => ?_)
  subst hEl; subst hEd; subst hEz
  refine jv_iload_n (q := 1) G 2 dX8_isAbove_0 rfl rfl rfl ?_
  refine jv_iconst (q := 2) (v := nI 0) G dX8_isAbove_1 (by decide) rfl ?_
  refine jv_bipush (q := 4) (v := nI 15) G dX8_isAbove_2 (by decide) rfl ?_
  refine jv_callS_I (q := 7) (h1 := h) (As := [.int u, .int (nI 0), .int (nI 15)]) (rest := []) (ce' := 0) (sl' := 0) (r := jv_bI (rr_in u (nI 0) (nI 15))) G Z ml_X8_147 (r_isIn hlt) dX8_isAbove_4 rfl (by decide) (by decide) (by decide) (by decide) (Nat.le_of_ble_eq_true rfl) rfl rfl rfl rfl ?_
  refine jv_if_eqB (q := 10) (tgt := 44) G dX8_isAbove_7 (by decide) rfl (fun c1 => ?_) (fun c1 => ?_)
  · have zu := in16_f c1
    refine jv_iconst (q := 45) (v := nI 0) G dX8_isAbove_44 (by decide) rfl ?_
    refine jv_topI (y := jv_bI false) rfl ?_
    refine jv_zret G hr dX8_isAbove_45 (Nat.le_of_ble_eq_true rfl) (Nat.le_of_ble_eq_true rfl) ?_
    refine ⟨?_, rfl⟩; simp [m_isA, *]
  · obtain ⟨a, ha, ea, zu⟩ := in16_t c1
    subst ea
    refine jv_iload_n (q := 11) G 3 dX8_isAbove_10 rfl rfl rfl ?_
    refine jv_iconst (q := 12) (v := nI 0) G dX8_isAbove_11 (by decide) rfl ?_
    refine jv_bipush (q := 14) (v := nI 15) G dX8_isAbove_12 (by decide) rfl ?_
    refine jv_callS_I (q := 17) (h1 := h) (As := [.int l, .int (nI 0), .int (nI 15)]) (rest := []) (ce' := 0) (sl' := 0) (r := jv_bI (rr_in l (nI 0) (nI 15))) G Z ml_X8_147 (r_isIn hlt) dX8_isAbove_14 rfl (by decide) (by decide) (by decide) (by decide) (Nat.le_of_ble_eq_true rfl) rfl rfl rfl rfl ?_
    refine jv_if_eqB (q := 20) (tgt := 44) G dX8_isAbove_17 (by decide) rfl (fun c2 => ?_) (fun c2 => ?_)
    · have zl := in16_f c2
      refine jv_iconst (q := 45) (v := nI 0) G dX8_isAbove_44 (by decide) rfl ?_
      refine jv_topI (y := jv_bI false) rfl ?_
      refine jv_zret G hr dX8_isAbove_45 (Nat.le_of_ble_eq_true rfl) (Nat.le_of_ble_eq_true rfl) ?_
      refine ⟨?_, rfl⟩; simp [m_isA, *]
    · obtain ⟨b, hb, eb, zl⟩ := in16_t c2
      subst eb
      refine jv_aload_n (q := 21) G 0 dX8_isAbove_20 rfl rfl rfl ?_
      refine jv_getQ (q := 24) G dX8_isAbove_21 fl_X8_65 rfl (hsc.S hS).1 (rf_p20 (hsc.S hS)) rfl ?_
      refine jv_sipush (q := 27) (v := nI 256) G dX8_isAbove_24 (by decide) rfl ?_
      refine jv_iload_n (q := 28) G 1 dX8_isAbove_27 rfl rfl rfl ?_
      refine jv_imulN (q := 29) G dX8_isAbove_28 rfl ?_
      refine jv_bipush (q := 31) (v := nI 16) G dX8_isAbove_29 (by decide) rfl ?_
      refine jv_iload_n (q := 32) G 2 dX8_isAbove_31 rfl rfl rfl ?_
      refine jv_imulN (q := 33) G dX8_isAbove_32 rfl ?_
      refine jv_iaddN (q := 34) G dX8_isAbove_33 rfl ?_
      refine jv_iload_n (q := 35) G 3 dX8_isAbove_34 rfl rfl rfl ?_
      refine jv_iaddN (q := 36) G dX8_isAbove_35 rfl ?_
      refine jv_zald (q := 37) G dX8_isAbove_36 (rf_a20 (hsc.S hS)) rfl (by omega) (by decide) (hsc.V hS hV a b ha hb) rfl ?_
      refine jv_if_eqB (q := 40) (tgt := 44) G dX8_isAbove_37 (by decide) rfl (fun c3 => ?_) (fun c3 => ?_)
      · refine jv_iconst (q := 45) (v := nI 0) G dX8_isAbove_44 (by decide) rfl ?_
        refine jv_topI (y := jv_bI false) rfl ?_
        refine jv_zret G hr dX8_isAbove_45 (Nat.le_of_ble_eq_true rfl) (Nat.le_of_ble_eq_true rfl) ?_
        refine ⟨?_, rfl⟩; simp [m_isA, *]
      · refine jv_iconst (q := 41) (v := nI 1) G dX8_isAbove_40 (by decide) rfl ?_
        refine jv_goto (q := 45) G dX8_isAbove_41 (by decide) ?_
        refine jv_topI (y := jv_bI true) rfl ?_
        refine jv_zret G hr dX8_isAbove_45 (Nat.le_of_ble_eq_true rfl) (Nat.le_of_ble_eq_true rfl) ?_
        refine ⟨?_, rfl⟩; simp [m_isA, *]
