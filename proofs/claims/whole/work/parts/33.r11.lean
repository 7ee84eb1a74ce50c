def m_mu (M : mA) (C : mC) (e : Nat) (U : mU) : Nat × Option Nat := m_met (decide (e = mc_e C)) (ma_t M (mc_e C)) (ma_t M e) (mc_p C) (mc_u C) (mu_k U) (mu_t U) (mu_n U) (mu_s U) (mu_r U)
def m_ix1 (n : Nat) (e : Int32) : Option Nat := if rr_lt e n then some e.toNatClampNeg else none
def m_opF (M : mA) (e : Int32) : Nat := match m_ix1 M.1.length e with
  | none => 1
  | some k => if ma_s M k then 2 else 0
def m_seF (M : mA) (e : Int32) : Nat := match m_ix1 M.1.length e with
  | none => 1
  | some k => if ma_s M k then 0 else 2
theorem rr_lt_t {a : Int32} {n : Nat} (hn : n < 2 ^ 31) (h : rr_lt a n = true) : ∃ k, k < n ∧ a = nI k ∧ m_ix1 n a = some k := by
  have h0 := h
  simp only [rr_lt, Bool.and_eq_true, Bool.not_eq_true', decide_eq_false_iff_not] at h
  obtain ⟨k, hk, e⟩ := nI_of h.1
  refine ⟨k, ?_, e, ?_⟩
  · rcases Nat.lt_or_ge k n with q | q
    · exact q
    · exact absurd (by rw [e]; exact nI_le q hk) h.2
  · unfold m_ix1; rw [if_pos h0, e, nI_clamp hk]
theorem rr_lt_f {a : Int32} {n : Nat} (h : rr_lt a n = false) : m_ix1 n a = none := by
  unfold m_ix1; rw [if_neg (by rw [h]; decide)]
set_option maxHeartbeats 4000000 in
set_option maxRecDepth 100000 in
theorem r_meetsUse {lA : Launch} (hlt : lA.stackTraces = false) {D : jv_D} {base : Nat} {x : Nat} {q : Nat → Nat} {h : jv_H} {M : mA} {C : mC} {U : mU} {c e u : Nat} (hR : rf_R x q h M) (hC : M.2[c]? = some C) (hu : (mc_l C)[u]? = some U) (he : e < 8) (hse : ma_s M e = true) : jv_Met lA D base yX8_meetsUse (.code yX8_meetsUse cX8_meetsUse 5 (some .int)) 16 0 0 [.ref x, .int (nI c), .int (nI e), .int (nI u)] h (fun v h' => v = some (.int (nI (m_mu M C e U).1)) ∧ rs x q h h' ∧ jv_I h' x 32 = jv_oN (m_mu M C e U).2 ∧ jv_I h' x 0 = jv_I h x 0) jv_no := by
  refine jv_ofV (lo := [(0, .ref x), (1, .int (nI c)), (2, .int (nI e)), (3, .int (nI u))]) hlt (by decide) (Nat.le_of_ble_eq_true rfl) rfl (fun E hEl hEd hEz Z G hr ht hnm => ?_)
  subst hEl; subst hEd; subst hEz
  obtain ⟨hS, ⟨hn8, hn⟩, ⟨hm12, hm⟩, hD, hV, hCs⟩ := id hR
  obtain ⟨hC1, hok⟩ := hCs c C hC
  have hcl := jv_ltGet hC
  have hul := jv_ltGet hu
  have hl20 := hok.2.2.2.2.1
  have hec : mc_e C < 8 := by have := hok.1; omega
  have hk6 := hok.2.2.2.2.2 U (List.mem_of_getElem? hu)
  obtain ⟨u1, u2, u3, u4, u5⟩ := hC1.2.2.2.2 u U hu
  refine jv_bipush (q := 2) (v := nI 20) G dX8_meetsUse_0 (by decide) rfl ?_
  refine jv_iload_n (q := 3) G 1 dX8_meetsUse_2 rfl rfl rfl ?_
  refine jv_imulN (q := 4) G dX8_meetsUse_3 rfl ?_
  refine jv_iload_n (q := 5) G 3 dX8_meetsUse_4 rfl rfl rfl ?_
  refine jv_iaddN (q := 6) G dX8_meetsUse_5 rfl ?_
  refine jv_istore (q := 8) (lo' := [(4, .int (nI ((20 * c) + u))), (0, .ref x), (1, .int (nI c)), (2, .int (nI e)), (3, .int (nI u))]) G dX8_meetsUse_6 (by decide) rfl rfl ?_
  refine jv_aload_n (q := 9) G 1 dX8_meetsUse_8 rfl rfl rfl ?_
  refine jv_iload_n (q := 10) G 2 dX8_meetsUse_9 rfl rfl rfl ?_
  refine jv_iload_n (q := 11) G 3 dX8_meetsUse_10 rfl rfl rfl ?_
  refine jv_aload_n (q := 12) G 1 dX8_meetsUse_11 rfl rfl rfl ?_
  refine jv_getQ (q := 15) G dX8_meetsUse_12 fl_X8_80 rfl hS.1 (rf_p26 hS) rfl ?_
  refine jv_iload (q := 17) G 0 dX8_meetsUse_15 rfl rfl ?_
  refine jv_iald (q := 18) G dX8_meetsUse_17 (rf_a26 hS) rfl (by omega) (by decide) u1 rfl ?_
  refine jv_aload_n (q := 19) G 1 dX8_meetsUse_18 rfl rfl rfl ?_
  refine jv_getQ (q := 22) G dX8_meetsUse_19 fl_X8_83 rfl hS.1 (rf_p27 hS) rfl ?_
  refine jv_iload (q := 24) G 0 dX8_meetsUse_22 rfl rfl ?_
  refine jv_iald (q := 25) G dX8_meetsUse_24 (rf_a27 hS) rfl (by omega) (by decide) u2 rfl ?_
  refine jv_aload_n (q := 26) G 1 dX8_meetsUse_25 rfl rfl rfl ?_
  refine jv_getQ (q := 29) G dX8_meetsUse_26 fl_X8_86 rfl hS.1 (rf_p28 hS) rfl ?_
  refine jv_iload (q := 31) G 0 dX8_meetsUse_29 rfl rfl ?_
  refine jv_iald (q := 32) G dX8_meetsUse_31 (rf_a28 hS) rfl (by omega) (by decide) u3 rfl ?_
  refine jv_aload_n (q := 33) G 1 dX8_meetsUse_32 rfl rfl rfl ?_
  refine jv_getQ (q := 36) G dX8_meetsUse_33 fl_X8_89 rfl hS.1 (rf_p29 hS) rfl ?_
  refine jv_iload (q := 38) G 0 dX8_meetsUse_36 rfl rfl ?_
  refine jv_iald (q := 39) G dX8_meetsUse_38 (rf_a29 hS) rfl (by omega) (by decide) u4 rfl ?_
  refine jv_aload_n (q := 40) G 1 dX8_meetsUse_39 rfl rfl rfl ?_
  refine jv_getQ (q := 43) G dX8_meetsUse_40 fl_X8_92 rfl hS.1 (rf_p30 hS) rfl ?_
  refine jv_iload (q := 45) G 0 dX8_meetsUse_43 rfl rfl ?_
  refine jv_iald (q := 46) G dX8_meetsUse_45 (rf_a30 hS) rfl (by omega) (by decide) u5 rfl ?_
  refine jv_callV (q := 49) (As := [.int (nI c), .int (nI e), .int (nI (mu_k U)), .int (mu_t U), .int (mu_n U), .int (mu_s U), .int (mu_r U)]) (rest := []) G Z ml_X8_208 (r_met hlt hS (by omega) (by omega) (by omega) (hD e he).2 (hV e he hse).1 (hD _ hec).2 (hV _ hec hok.2.1).1 hC1.1 hC1.2.1 hok.2.2.1 hC1.2.2.1 hok.2.2.2.1 hk6 (hV e he hse).2 (hV _ hec hok.2.1).2) hS.1 dX8_meetsUse_46 rfl (by decide) (by decide) (by decide) (by decide) (Nat.le_of_ble_eq_true rfl) rfl rfl (fun v2 h1 y3 => ?_) (fun _ _ hx => hx.elim)
  obtain ⟨rfl, hrs, hran, hx0⟩ := y3
  show jv_V E 5 h1 0 0 (jv_Q E (fun v h' => v = some (.int (nI (m_mu M C e U).1)) ∧ rs x q h h' ∧ jv_I h' x 32 = jv_oN (m_mu M C e U).2 ∧ jv_I h' x 0 = jv_I h x 0) jv_no 0 0) 49 [(4, .int (nI ((20 * c) + u))), (0, .ref x), (1, .int (nI c)), (2, .int (nI e)), (3, .int (nI u))] [.int (nI ((m_mu M C e U).1))]
  refine jv_iret G hr dX8_meetsUse_49 (Nat.le_of_ble_eq_true rfl) (Nat.le_of_ble_eq_true rfl) ?_
  exact ⟨rfl, hrs, hran, hx0⟩
set_option maxHeartbeats 4000000 in
set_option maxRecDepth 100000 in
theorem r_openFault {lA : Launch} (hlt : lA.stackTraces = false) {D : jv_D} {base : Nat} {x : Nat} {q : Nat → Nat} {h : jv_H} {M : mA} {e : Int32} (hR : rf_R x q h M) : jv_Met lA D base yX8_openFault (.code yX8_openFault cX8_openFault 2 (some .int)) 2 0 0 [.ref x, .int e] h (jv_rI (nI (m_opF M e)) h) jv_no := by
  refine jv_ofV (lo := [(0, .ref x), (1, .int e)]) hlt (by decide) (Nat.le_of_ble_eq_true rfl) rfl (fun E hEl hEd hEz Z G hr ht hnm => ?_)
  subst hEl; subst hEd; subst hEz
  obtain ⟨hS, ⟨hn8, hn⟩, ⟨hm12, hm⟩, hD, hV, hCs⟩ := id hR
  refine jv_aload_n (q := 1) G 0 dX8_openFault_0 rfl rfl rfl ?_
  refine jv_iload_n (q := 2) G 1 dX8_openFault_1 rfl rfl rfl ?_
  refine jv_callV_I (q := 5) (h1 := h) (As := [.int e]) (rest := []) (ce' := 0) (sl' := 0) (r := jv_bI (rr_lt e M.1.length)) G Z ml_X8_132 (r_isEdition hlt hS hn) hS.1 dX8_openFault_2 rfl (by decide) (by decide) (by decide) (by decide) (Nat.le_of_ble_eq_true rfl) rfl rfl rfl rfl ?_
  refine jv_if_neB (q := 8) (tgt := 12) G dX8_openFault_5 (by decide) rfl (fun c1 => ?_) (fun c1 => ?_)
  · obtain ⟨k_e, hk_e, ek_e, ze⟩ := rr_lt_t (by omega) c1
    subst ek_e
    refine jv_aload_n (q := 13) G 0 dX8_openFault_12 rfl rfl rfl ?_
    refine jv_getQ (q := 16) G dX8_openFault_13 fl_X8_7 rfl hS.1 (rf_p2 hS) rfl ?_
    refine jv_iload_n (q := 17) G 1 dX8_openFault_16 rfl rfl rfl ?_
    refine jv_zald (q := 18) G dX8_openFault_17 (rf_a2 hS) rfl (by omega) (by decide) (hD k_e (by omega)).1 rfl ?_
    refine jv_if_eqB (q := 21) (tgt := 25) G dX8_openFault_18 (by decide) rfl (fun c2 => ?_) (fun c2 => ?_)
    · refine jv_iconst (q := 26) (v := nI 0) G dX8_openFault_25 (by decide) rfl ?_
      refine jv_iret G hr dX8_openFault_26 (Nat.le_of_ble_eq_true rfl) (Nat.le_of_ble_eq_true rfl) ?_
      refine ⟨?_, rfl⟩; unfold m_opF; simp only [*, if_true, if_false, Bool.false_eq_true, reduceIte]
    · refine jv_iconst (q := 22) (v := nI 2) G dX8_openFault_21 (by decide) rfl ?_
      refine jv_goto (q := 26) G dX8_openFault_22 (by decide) ?_
      refine jv_iret G hr dX8_openFault_26 (Nat.le_of_ble_eq_true rfl) (Nat.le_of_ble_eq_true rfl) ?_
      refine ⟨?_, rfl⟩; unfold m_opF; simp only [*, if_true, if_false, Bool.false_eq_true, reduceIte]
  · have ze := rr_lt_f c1
    refine jv_iconst (q := 9) (v := nI 1) G dX8_openFault_8 (by decide) rfl ?_
    refine jv_goto (q := 26) G dX8_openFault_9 (by decide) ?_
    refine jv_iret G hr dX8_openFault_26 (Nat.le_of_ble_eq_true rfl) (Nat.le_of_ble_eq_true rfl) ?_
    refine ⟨?_, rfl⟩; unfold m_opF; simp only [*, if_true, if_false, Bool.false_eq_true, reduceIte]
set_option maxHeartbeats 4000000 in
set_option maxRecDepth 100000 in
theorem r_sealedFault {lA : Launch} (hlt : lA.stackTraces = false) {D : jv_D} {base : Nat} {x : Nat} {q : Nat → Nat} {h : jv_H} {M : mA} {e : Int32} (hR : rf_R x q h M) : jv_Met lA D base yX8_sealedFault (.code yX8_sealedFault cX8_sealedFault 2 (some .int)) 2 0 0 [.ref x, .int e] h (jv_rI (nI (m_seF M e)) h) jv_no := by
  refine jv_ofV (lo := [(0, .ref x), (1, .int e)]) hlt (by decide) (Nat.le_of_ble_eq_true rfl) rfl (fun E hEl hEd hEz Z G hr ht hnm => ?_)
  subst hEl; subst hEd; subst hEz
  obtain ⟨hS, ⟨hn8, hn⟩, ⟨hm12, hm⟩, hD, hV, hCs⟩ := id hR
  refine jv_aload_n (q := 1) G 0 dX8_sealedFault_0 rfl rfl rfl ?_
  refine jv_iload_n (q := 2) G 1 dX8_sealedFault_1 rfl rfl rfl ?_
  refine jv_callV_I (q := 5) (h1 := h) (As := [.int e]) (rest := []) (ce' := 0) (sl' := 0) (r := jv_bI (rr_lt e M.1.length)) G Z ml_X8_132 (r_isEdition hlt hS hn) hS.1 dX8_sealedFault_2 rfl (by decide) (by decide) (by decide) (by decide) (Nat.le_of_ble_eq_true rfl) rfl rfl rfl rfl ?_
  refine jv_if_neB (q := 8) (tgt := 12) G dX8_sealedFault_5 (by decide) rfl (fun c1 => ?_) (fun c1 => ?_)
  · obtain ⟨k_e, hk_e, ek_e, ze⟩ := rr_lt_t (by omega) c1
    subst ek_e
    refine jv_aload_n (q := 13) G 0 dX8_sealedFault_12 rfl rfl rfl ?_
    refine jv_getQ (q := 16) G dX8_sealedFault_13 fl_X8_7 rfl hS.1 (rf_p2 hS) rfl ?_
    refine jv_iload_n (q := 17) G 1 dX8_sealedFault_16 rfl rfl rfl ?_
    refine jv_zald (q := 18) G dX8_sealedFault_17 (rf_a2 hS) rfl (by omega) (by decide) (hD k_e (by omega)).1 rfl ?_
    refine jv_if_neB (q := 21) (tgt := 25) G dX8_sealedFault_18 (by decide) rfl (fun c2 => ?_) (fun c2 => ?_)
    · refine jv_iconst (q := 26) (v := nI 0) G dX8_sealedFault_25 (by decide) rfl ?_
      refine jv_iret G hr dX8_sealedFault_26 (Nat.le_of_ble_eq_true rfl) (Nat.le_of_ble_eq_true rfl) ?_
      refine ⟨?_, rfl⟩; unfold m_seF; simp only [*, if_true, if_false, Bool.false_eq_true, reduceIte]
    · refine jv_iconst (q := 22) (v := nI 2) G dX8_sealedFault_21 (by decide) rfl ?_
      refine jv_goto (q := 26) G dX8_sealedFault_22 (by decide) ?_
      refine jv_iret G hr dX8_sealedFault_26 (Nat.le_of_ble_eq_true rfl) (Nat.le_of_ble_eq_true rfl) ?_
      refine ⟨?_, rfl⟩; unfold m_seF; simp only [*, if_true, if_false, Bool.false_eq_true, reduceIte]
  · have ze := rr_lt_f c1
    refine jv_iconst (q := 9) (v := nI 1) G dX8_sealedFault_8 (by decide) rfl ?_
    refine jv_goto (q := 26) G dX8_sealedFault_9 (by decide) ?_
    refine jv_iret G hr dX8_sealedFault_26 (Nat.le_of_ble_eq_true rfl) (Nat.le_of_ble_eq_true rfl) ?_
    refine ⟨?_, rfl⟩; unfold m_seF; simp only [*, if_true, if_false, Bool.false_eq_true, reduceIte]
def m_paF (M : mA) (a b : Int32) : Nat := match m_ix1 M.1.length a, m_ix1 M.1.length b with
  | some i, some j => if ma_s M i && ma_s M j then 0 else 2
  | _, _ => 1
set_option maxHeartbeats 4000000 in
set_option maxRecDepth 100000 in
theorem r_pairFault {lA : Launch} (hlt : lA.stackTraces = false) {D : jv_D} {base : Nat} {x : Nat} {q : Nat → Nat} {h : jv_H} {M : mA} {a b : Int32} (hR : rf_R x q h M) : jv_Met lA D base yX8_pairFault (.code yX8_pairFault cX8_pairFault 3 (some .int)) 2 0 0 [.ref x, .int a, .int b] h (jv_rI (nI (m_paF M a b)) h) jv_no := by
  refine jv_ofV (lo := [(0, .ref x), (1, .int a), (2, .int b)]) hlt (by decide) (Nat.le_of_ble_eq_true rfl) rfl (fun E hEl hEd hEz Z G hr ht hnm => ?_)
  subst hEl; subst hEd; subst hEz
  obtain ⟨hS, ⟨hn8, hn⟩, ⟨hm12, hm⟩, hD, hV, hCs⟩ := id hR
  refine jv_aload_n (q := 1) G 0 dX8_pairFault_0 rfl rfl rfl ?_
  refine jv_iload_n (q := 2) G 1 dX8_pairFault_1 rfl rfl rfl ?_
  refine jv_callV_I (q := 5) (h1 := h) (As := [.int a]) (rest := []) (ce' := 0) (sl' := 0) (r := jv_bI (rr_lt a M.1.length)) G Z ml_X8_132 (r_isEdition hlt hS hn) hS.1 dX8_pairFault_2 rfl (by decide) (by decide) (by decide) (by decide) (Nat.le_of_ble_eq_true rfl) rfl rfl rfl rfl ?_
  refine jv_if_eqB (q := 8) (tgt := 16) G dX8_pairFault_5 (by decide) rfl (fun c1 => ?_) (fun c1 => ?_)
  · have za := rr_lt_f c1
    refine jv_iconst (q := 17) (v := nI 1) G dX8_pairFault_16 (by decide) rfl ?_
    refine jv_goto (q := 43) G dX8_pairFault_17 (by decide) ?_
    refine jv_iret G hr dX8_pairFault_43 (Nat.le_of_ble_eq_true rfl) (Nat.le_of_ble_eq_true rfl) ?_
    refine ⟨?_, rfl⟩; unfold m_paF; simp only [*, if_true, if_false, Bool.false_eq_true, reduceIte, Bool.and_true, Bool.and_false, Bool.true_and, Bool.false_and]
  · obtain ⟨k_a, hk_a, ek_a, za⟩ := rr_lt_t (by omega) c1
    subst ek_a
    refine jv_aload_n (q := 9) G 0 dX8_pairFault_8 rfl rfl rfl ?_
    refine jv_iload_n (q := 10) G 2 dX8_pairFault_9 rfl rfl rfl ?_
    refine jv_callV_I (q := 13) (h1 := h) (As := [.int b]) (rest := []) (ce' := 0) (sl' := 0) (r := jv_bI (rr_lt b M.1.length)) G Z ml_X8_132 (r_isEdition hlt hS hn) hS.1 dX8_pairFault_10 rfl (by decide) (by decide) (by decide) (by decide) (Nat.le_of_ble_eq_true rfl) rfl rfl rfl rfl ?_
    refine jv_if_neB (q := 16) (tgt := 20) G dX8_pairFault_13 (by decide) rfl (fun c2 => ?_) (fun c2 => ?_)
    · obtain ⟨k_b, hk_b, ek_b, zb⟩ := rr_lt_t (by omega) c2
      subst ek_b
      refine jv_aload_n (q := 21) G 0 dX8_pairFault_20 rfl rfl rfl ?_
      refine jv_getQ (q := 24) G dX8_pairFault_21 fl_X8_7 rfl hS.1 (rf_p2 hS) rfl ?_
      refine jv_iload_n (q := 25) G 1 dX8_pairFault_24 rfl rfl rfl ?_
      refine jv_zald (q := 26) G dX8_pairFault_25 (rf_a2 hS) rfl (by omega) (by decide) (hD k_a (by omega)).1 rfl ?_
      refine jv_if_eqB (q := 29) (tgt := 38) G dX8_pairFault_26 (by decide) rfl (fun c3 => ?_) (fun c3 => ?_)
      · refine jv_iconst (q := 39) (v := nI 2) G dX8_pairFault_38 (by decide) rfl ?_
        refine jv_goto (q := 43) G dX8_pairFault_39 (by decide) ?_
        refine jv_iret G hr dX8_pairFault_43 (Nat.le_of_ble_eq_true rfl) (Nat.le_of_ble_eq_true rfl) ?_
        refine ⟨?_, rfl⟩; unfold m_paF; simp only [*, if_true, if_false, Bool.false_eq_true, reduceIte, Bool.and_true, Bool.and_false, Bool.true_and, Bool.false_and]
      · refine jv_aload_n (q := 30) G 0 dX8_pairFault_29 rfl rfl rfl ?_
        refine jv_getQ (q := 33) G dX8_pairFault_30 fl_X8_7 rfl hS.1 (rf_p2 hS) rfl ?_
        refine jv_iload_n (q := 34) G 2 dX8_pairFault_33 rfl rfl rfl ?_
        refine jv_zald (q := 35) G dX8_pairFault_34 (rf_a2 hS) rfl (by omega) (by decide) (hD k_b (by omega)).1 rfl ?_
        refine jv_if_neB (q := 38) (tgt := 42) G dX8_pairFault_35 (by decide) rfl (fun c4 => ?_) (fun c4 => ?_)
        · refine jv_iconst (q := 43) (v := nI 0) G dX8_pairFault_42 (by decide) rfl ?_
          refine jv_iret G hr dX8_pairFault_43 (Nat.le_of_ble_eq_true rfl) (Nat.le_of_ble_eq_true rfl) ?_
          refine ⟨?_, rfl⟩; unfold m_paF; simp only [*, if_true, if_false, Bool.false_eq_true, reduceIte, Bool.and_true, Bool.and_false, Bool.true_and, Bool.false_and]
        · refine jv_iconst (q := 39) (v := nI 2) G dX8_pairFault_38 (by decide) rfl ?_
          refine jv_goto (q := 43) G dX8_pairFault_39 (by decide) ?_
          refine jv_iret G hr dX8_pairFault_43 (Nat.le_of_ble_eq_true rfl) (Nat.le_of_ble_eq_true rfl) ?_
          refine ⟨?_, rfl⟩; unfold m_paF; simp only [*, if_true, if_false, Bool.false_eq_true, reduceIte, Bool.and_true, Bool.and_false, Bool.true_and, Bool.false_and]
    · have zb := rr_lt_f c2
      refine jv_iconst (q := 17) (v := nI 1) G dX8_pairFault_16 (by decide) rfl ?_
      refine jv_goto (q := 43) G dX8_pairFault_17 (by decide) ?_
      refine jv_iret G hr dX8_pairFault_43 (Nat.le_of_ble_eq_true rfl) (Nat.le_of_ble_eq_true rfl) ?_
      refine ⟨?_, rfl⟩; unfold m_paF; simp only [*, if_true, if_false, Bool.false_eq_true, reduceIte, Bool.and_true, Bool.and_false, Bool.true_and, Bool.false_and]
