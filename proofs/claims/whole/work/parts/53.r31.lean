theorem FW.rs {x : Nat} {q : Nat → Nat} {h0 h : jv_H} (a : FW scr xcr x q h0 h) : rs x q h0 h := by
  refine ⟨a.1, a.2.1, a.2.2.1, fun c j n => ?_⟩
  by_cases hx : c = x
  · subst hx
    exact a.ax j (fun z => n (Or.inl ⟨rfl, z⟩))
  · by_cases hk : ∃ k, k < 42 ∧ rf_arr k = true ∧ c = q k
    · obtain ⟨k, h1, h2, rfl⟩ := hk
      refine a.2.2.2.1 k j h1 h2 (fun z => n ?_)
      unfold scr at z
      have hz : k = 31 ∨ k = 34 ∨ k = 35 ∨ k = 36 ∨ k = 37 ∨ k = 38 ∨ k = 39 ∨ k = 40 ∨ k = 41 ∨ ((k = 22 ∨ k = 23 ∨ k = 24) ∧ j = 12) := by omega
      unfold rx
      rcases hz with rfl | rfl | rfl | rfl | rfl | rfl | rfl | rfl | rfl | ⟨rfl | rfl | rfl, rfl⟩ <;> simp
    · exact a.2.2.2.2.2 c j hx (fun k h1 h2 e => hk ⟨k, h1, h2, e⟩)
def w_D (k j n : Nat) : Prop := 34 ≤ k ∧ k ≤ 39 ∧ j = n
theorem rf_D.snoc {x : Nat} {q : Nat → Nat} {h0 h : jv_H} {X : Nat → Prop} {L : List mR} {r : mR} (d : rf_D q h0 L) (a : FW (fun k j => w_D k j L.length) X x q h0 h) (hr : ∀ c, c < 6 → jv_I h (q (34 + c)) L.length = m_col r c) : rf_D q h (L ++ [r]) := by
  intro i r' hi c hc
  by_cases hil : i = L.length
  · subst hil
    rw [List.getElem?_append_right (Nat.le_refl _), Nat.sub_self] at hi
    cases hi
    exact hr c hc
  · have h1 := jv_ltGet hi
    rw [List.length_append, List.length_singleton] at h1
    rw [List.getElem?_append_left (by omega)] at hi
    refine (a.2.2.2.1 (34 + c) i (by omega) ?_ (fun w => hil w.2.2)).trans (d i r' hi c hc)
    have hc6 : c = 0 ∨ c = 1 ∨ c = 2 ∨ c = 3 ∨ c = 4 ∨ c = 5 := by omega
    rcases hc6 with rfl | rfl | rfl | rfl | rfl | rfl <;> rfl
set_option maxHeartbeats 4000000 in
set_option maxRecDepth 100000 in
theorem r_tell {lA : Launch} (hlt : lA.stackTraces = false) {D : jv_D} {base : Nat} {x : Nat} {q : Nat → Nat} {h : jv_H} {L : List mR} {r : mR} (hS : rf_S x q h) (hD : rf_D q h L) (hx : jv_I h x 33 = nI L.length) (hL : L.length < 1400) : jv_Met lA D base yX8_tell (.code yX8_tell cX8_tell 7 none) 1 0 0 [.ref x, .int (m_col r 0), .int (m_col r 1), .int (m_col r 2), .int (m_col r 3), .int (m_col r 4), .int (m_col r 5)] h (fun v h' => v = none ∧ FW (fun k j => w_D k j L.length) (fun j => j = 33) x q h h' ∧ rf_D q h' (L ++ [r]) ∧ jv_I h' x 33 = nI (L.length + 1)) jv_no := by
  refine jv_ofV (lo := [(0, .ref x), (1, .int (m_col r 0)), (2, .int (m_col r 1)), (3, .int (m_col r 2)), (4, .int (m_col r 3)), (5, .int (m_col r 4)), (6, .int (m_col r 5))]) hlt (by decide) (Nat.le_of_ble_eq_true rfl) rfl (fun E hEl hEd hEz Z G hr ht hnm => ?_)
  subst hEl; subst hEd; subst hEz
  have hF : FW (fun k j => w_D k j L.length) (fun j => j = 33) x q h h := FW.rf
  have hSn := hS
  refine jv_aload_n (q := 1) G 0 dX8_tell_0 rfl rfl rfl ?_
  refine jv_getQ (q := 4) G dX8_tell_1 fl_X8_98 rfl hS.1 (rf_p34 hS) rfl ?_
  refine jv_aload_n (q := 5) G 0 dX8_tell_4 rfl rfl rfl ?_
  refine jv_getI (q := 8) G dX8_tell_5 fl_X8_218 rfl hS.1 hx rfl ?_
  refine jv_iload_n (q := 9) G 1 dX8_tell_8 rfl rfl rfl ?_
  refine jv_iast (q := 10) G dX8_tell_9 (rf_a34 hS) rfl (by omega) (by decide) rfl ?_
  have hF := hF.wq hS (k := 34) (j := L.length) (by decide) rfl ⟨by decide, by decide, rfl⟩ (m_col r 0)
  have hSn2 := hF.S hS
  have hx := (xI_q hSn (k := 34) (h := h) (by decide) rfl 33 (L.length) (m_col r 0)).trans hx
  have c_34_1 : jv_I (jv_wI h (q 34) L.length (m_col r 0)) (q 34) (L.length) = m_col r 0 := jv_I_self _ _ _ _
  generalize jv_wI h (q 34) L.length (m_col r 0) = h1 at hF hSn2 hx c_34_1 ⊢
  clear hSn; have hSn := hSn2; clear hSn2
  refine jv_aload_n (q := 11) G 0 dX8_tell_10 rfl rfl rfl ?_
  refine jv_getQ (q := 14) G dX8_tell_11 fl_X8_101 rfl hSn.1 (rf_p35 hSn) rfl ?_
  refine jv_aload_n (q := 15) G 0 dX8_tell_14 rfl rfl rfl ?_
  refine jv_getI (q := 18) G dX8_tell_15 fl_X8_218 rfl hSn.1 hx rfl ?_
  refine jv_iload_n (q := 19) G 2 dX8_tell_18 rfl rfl rfl ?_
  refine jv_iast (q := 20) G dX8_tell_19 (rf_a35 hSn) rfl (by omega) (by decide) rfl ?_
  have hF := hF.wq hS (k := 35) (j := L.length) (by decide) rfl ⟨by decide, by decide, rfl⟩ (m_col r 1)
  have hSn2 := hF.S hS
  have c_34_1 := (qI_q hSn (k := 34) (k' := 35) (h := h1) (by decide) rfl (by decide) rfl (L.length) (L.length) (m_col r 1)).trans ((if_neg (fun e => absurd e.1 (by decide))).trans c_34_1)
  have hx := (xI_q hSn (k := 35) (h := h1) (by decide) rfl 33 (L.length) (m_col r 1)).trans hx
  have c_35_2 : jv_I (jv_wI h1 (q 35) L.length (m_col r 1)) (q 35) (L.length) = m_col r 1 := jv_I_self _ _ _ _
  generalize jv_wI h1 (q 35) L.length (m_col r 1) = h2 at hF hSn2 c_34_1 hx c_35_2 ⊢
  clear hSn; have hSn := hSn2; clear hSn2
  refine jv_aload_n (q := 21) G 0 dX8_tell_20 rfl rfl rfl ?_
  refine jv_getQ (q := 24) G dX8_tell_21 fl_X8_104 rfl hSn.1 (rf_p36 hSn) rfl ?_
  refine jv_aload_n (q := 25) G 0 dX8_tell_24 rfl rfl rfl ?_
  refine jv_getI (q := 28) G dX8_tell_25 fl_X8_218 rfl hSn.1 hx rfl ?_
  refine jv_iload_n (q := 29) G 3 dX8_tell_28 rfl rfl rfl ?_
  refine jv_iast (q := 30) G dX8_tell_29 (rf_a36 hSn) rfl (by omega) (by decide) rfl ?_
  have hF := hF.wq hS (k := 36) (j := L.length) (by decide) rfl ⟨by decide, by decide, rfl⟩ (m_col r 2)
  have hSn2 := hF.S hS
  have c_34_1 := (qI_q hSn (k := 34) (k' := 36) (h := h2) (by decide) rfl (by decide) rfl (L.length) (L.length) (m_col r 2)).trans ((if_neg (fun e => absurd e.1 (by decide))).trans c_34_1)
  have c_35_2 := (qI_q hSn (k := 35) (k' := 36) (h := h2) (by decide) rfl (by decide) rfl (L.length) (L.length) (m_col r 2)).trans ((if_neg (fun e => absurd e.1 (by decide))).trans c_35_2)
  have hx := (xI_q hSn (k := 36) (h := h2) (by decide) rfl 33 (L.length) (m_col r 2)).trans hx
  have c_36_3 : jv_I (jv_wI h2 (q 36) L.length (m_col r 2)) (q 36) (L.length) = m_col r 2 := jv_I_self _ _ _ _
  generalize jv_wI h2 (q 36) L.length (m_col r 2) = h3 at hF hSn2 c_34_1 c_35_2 hx c_36_3 ⊢
  clear hSn; have hSn := hSn2; clear hSn2
  refine jv_aload_n (q := 31) G 0 dX8_tell_30 rfl rfl rfl ?_
  refine jv_getQ (q := 34) G dX8_tell_31 fl_X8_107 rfl hSn.1 (rf_p37 hSn) rfl ?_
  refine jv_aload_n (q := 35) G 0 dX8_tell_34 rfl rfl rfl ?_
  refine jv_getI (q := 38) G dX8_tell_35 fl_X8_218 rfl hSn.1 hx rfl ?_
  refine jv_iload (q := 40) G 4 dX8_tell_38 rfl rfl ?_
  refine jv_iast (q := 41) G dX8_tell_40 (rf_a37 hSn) rfl (by omega) (by decide) rfl ?_
  have hF := hF.wq hS (k := 37) (j := L.length) (by decide) rfl ⟨by decide, by decide, rfl⟩ (m_col r 3)
  have hSn2 := hF.S hS
  have c_34_1 := (qI_q hSn (k := 34) (k' := 37) (h := h3) (by decide) rfl (by decide) rfl (L.length) (L.length) (m_col r 3)).trans ((if_neg (fun e => absurd e.1 (by decide))).trans c_34_1)
  have c_35_2 := (qI_q hSn (k := 35) (k' := 37) (h := h3) (by decide) rfl (by decide) rfl (L.length) (L.length) (m_col r 3)).trans ((if_neg (fun e => absurd e.1 (by decide))).trans c_35_2)
  have c_36_3 := (qI_q hSn (k := 36) (k' := 37) (h := h3) (by decide) rfl (by decide) rfl (L.length) (L.length) (m_col r 3)).trans ((if_neg (fun e => absurd e.1 (by decide))).trans c_36_3)
  have hx := (xI_q hSn (k := 37) (h := h3) (by decide) rfl 33 (L.length) (m_col r 3)).trans hx
  have c_37_4 : jv_I (jv_wI h3 (q 37) L.length (m_col r 3)) (q 37) (L.length) = m_col r 3 := jv_I_self _ _ _ _
  generalize jv_wI h3 (q 37) L.length (m_col r 3) = h4 at hF hSn2 c_34_1 c_35_2 c_36_3 hx c_37_4 ⊢
  clear hSn; have hSn := hSn2; clear hSn2
  refine jv_aload_n (q := 42) G 0 dX8_tell_41 rfl rfl rfl ?_
  refine jv_getQ (q := 45) G dX8_tell_42 fl_X8_110 rfl hSn.1 (rf_p38 hSn) rfl ?_
  refine jv_aload_n (q := 46) G 0 dX8_tell_45 rfl rfl rfl ?_
  refine jv_getI (q := 49) G dX8_tell_46 fl_X8_218 rfl hSn.1 hx rfl ?_
  refine jv_iload (q := 51) G 5 dX8_tell_49 rfl rfl ?_
  refine jv_iast (q := 52) G dX8_tell_51 (rf_a38 hSn) rfl (by omega) (by decide) rfl ?_
  have hF := hF.wq hS (k := 38) (j := L.length) (by decide) rfl ⟨by decide, by decide, rfl⟩ (m_col r 4)
  have hSn2 := hF.S hS
  have c_34_1 := (qI_q hSn (k := 34) (k' := 38) (h := h4) (by decide) rfl (by decide) rfl (L.length) (L.length) (m_col r 4)).trans ((if_neg (fun e => absurd e.1 (by decide))).trans c_34_1)
  have c_35_2 := (qI_q hSn (k := 35) (k' := 38) (h := h4) (by decide) rfl (by decide) rfl (L.length) (L.length) (m_col r 4)).trans ((if_neg (fun e => absurd e.1 (by decide))).trans c_35_2)
  have c_36_3 := (qI_q hSn (k := 36) (k' := 38) (h := h4) (by decide) rfl (by decide) rfl (L.length) (L.length) (m_col r 4)).trans ((if_neg (fun e => absurd e.1 (by decide))).trans c_36_3)
  have c_37_4 := (qI_q hSn (k := 37) (k' := 38) (h := h4) (by decide) rfl (by decide) rfl (L.length) (L.length) (m_col r 4)).trans ((if_neg (fun e => absurd e.1 (by decide))).trans c_37_4)
  have hx := (xI_q hSn (k := 38) (h := h4) (by decide) rfl 33 (L.length) (m_col r 4)).trans hx
  have c_38_5 : jv_I (jv_wI h4 (q 38) L.length (m_col r 4)) (q 38) (L.length) = m_col r 4 := jv_I_self _ _ _ _
  generalize jv_wI h4 (q 38) L.length (m_col r 4) = h5 at hF hSn2 c_34_1 c_35_2 c_36_3 c_37_4 hx c_38_5 ⊢
  clear hSn; have hSn := hSn2; clear hSn2
  refine jv_aload_n (q := 53) G 0 dX8_tell_52 rfl rfl rfl ?_
  refine jv_getQ (q := 56) G dX8_tell_53 fl_X8_113 rfl hSn.1 (rf_p39 hSn) rfl ?_
  refine jv_aload_n (q := 57) G 0 dX8_tell_56 rfl rfl rfl ?_
  refine jv_getI (q := 60) G dX8_tell_57 fl_X8_218 rfl hSn.1 hx rfl ?_
  refine jv_iload (q := 62) G 6 dX8_tell_60 rfl rfl ?_
  refine jv_iast (q := 63) G dX8_tell_62 (rf_a39 hSn) rfl (by omega) (by decide) rfl ?_
  have hF := hF.wq hS (k := 39) (j := L.length) (by decide) rfl ⟨by decide, by decide, rfl⟩ (m_col r 5)
  have hSn2 := hF.S hS
  have c_34_1 := (qI_q hSn (k := 34) (k' := 39) (h := h5) (by decide) rfl (by decide) rfl (L.length) (L.length) (m_col r 5)).trans ((if_neg (fun e => absurd e.1 (by decide))).trans c_34_1)
  have c_35_2 := (qI_q hSn (k := 35) (k' := 39) (h := h5) (by decide) rfl (by decide) rfl (L.length) (L.length) (m_col r 5)).trans ((if_neg (fun e => absurd e.1 (by decide))).trans c_35_2)
  have c_36_3 := (qI_q hSn (k := 36) (k' := 39) (h := h5) (by decide) rfl (by decide) rfl (L.length) (L.length) (m_col r 5)).trans ((if_neg (fun e => absurd e.1 (by decide))).trans c_36_3)
  have c_37_4 := (qI_q hSn (k := 37) (k' := 39) (h := h5) (by decide) rfl (by decide) rfl (L.length) (L.length) (m_col r 5)).trans ((if_neg (fun e => absurd e.1 (by decide))).trans c_37_4)
  have c_38_5 := (qI_q hSn (k := 38) (k' := 39) (h := h5) (by decide) rfl (by decide) rfl (L.length) (L.length) (m_col r 5)).trans ((if_neg (fun e => absurd e.1 (by decide))).trans c_38_5)
  have hx := (xI_q hSn (k := 39) (h := h5) (by decide) rfl 33 (L.length) (m_col r 5)).trans hx
  have c_39_6 : jv_I (jv_wI h5 (q 39) L.length (m_col r 5)) (q 39) (L.length) = m_col r 5 := jv_I_self _ _ _ _
  generalize jv_wI h5 (q 39) L.length (m_col r 5) = h6 at hF hSn2 c_34_1 c_35_2 c_36_3 c_37_4 c_38_5 hx c_39_6 ⊢
  clear hSn; have hSn := hSn2; clear hSn2
  refine jv_aload_n (q := 64) G 0 dX8_tell_63 rfl rfl rfl ?_
  refine jv_dup (q := 65) G dX8_tell_64 rfl rfl ?_
  refine jv_getI (q := 68) G dX8_tell_65 fl_X8_218 rfl hSn.1 hx rfl ?_
  refine jv_iconst (q := 69) (v := nI 1) G dX8_tell_68 (by decide) rfl ?_
  refine jv_iaddN (q := 70) G dX8_tell_69 rfl ?_
  refine jv_putI (q := 73) G dX8_tell_70 fl_X8_218 rfl hSn.1 rfl ?_
  have hF := hF.wx hS (j := 33) rfl (nI (L.length + 1))
  have hSn2 := hF.S hS
  have c_34_1 := (qI_x hSn (k := 34) (h := h6) (by decide) rfl (L.length) (33) (nI (L.length + 1))).trans c_34_1
  have c_35_2 := (qI_x hSn (k := 35) (h := h6) (by decide) rfl (L.length) (33) (nI (L.length + 1))).trans c_35_2
  have c_36_3 := (qI_x hSn (k := 36) (h := h6) (by decide) rfl (L.length) (33) (nI (L.length + 1))).trans c_36_3
  have c_37_4 := (qI_x hSn (k := 37) (h := h6) (by decide) rfl (L.length) (33) (nI (L.length + 1))).trans c_37_4
  have c_38_5 := (qI_x hSn (k := 38) (h := h6) (by decide) rfl (L.length) (33) (nI (L.length + 1))).trans c_38_5
  have c_39_6 := (qI_x hSn (k := 39) (h := h6) (by decide) rfl (L.length) (33) (nI (L.length + 1))).trans c_39_6
  have c_x33_7 : jv_I (jv_wI h6 x 33 (nI (L.length + 1))) x 33 = nI (L.length + 1) := jv_I_self _ _ _ _
  generalize jv_wI h6 x 33 (nI (L.length + 1)) = h7 at hF hSn2 c_34_1 c_35_2 c_36_3 c_37_4 c_38_5 c_39_6 c_x33_7 ⊢
  clear hSn; have hSn := hSn2; clear hSn2
  refine jv_vret G hr dX8_tell_73 (Nat.le_of_ble_eq_true rfl) (Nat.le_of_ble_eq_true rfl) ?_
  refine ⟨rfl, hF, hD.snoc hF (fun c hc => ?_), c_x33_7⟩
  have hc6 : c = 0 ∨ c = 1 ∨ c = 2 ∨ c = 3 ∨ c = 4 ∨ c = 5 := by omega
  rcases hc6 with rfl | rfl | rfl | rfl | rfl | rfl
  · exact c_34_1
  · exact c_35_2
  · exact c_36_3
  · exact c_37_4
  · exact c_38_5
  · exact c_39_6
set_option maxHeartbeats 4000000 in
set_option maxRecDepth 100000 in
theorem r_isLike {lA : Launch} (hlt : lA.stackTraces = false) {D : jv_D} {base : Nat} {x : Nat} {q : Nat → Nat} {h : jv_H} {i j : Nat} {m o : mM} (hS : rf_S x q h) (hi : i < 480) (hj : j < 480) (hm : rf_M q h i m) (ho : rf_M q h j o) : jv_Met lA D base yX8_isLike (.code yX8_isLike cX8_isLike 3 (some .boolean)) 1 0 0 [.ref x, .int (nI i), .int (nI j)] h (jv_rI (jv_bI (m_like m o)) h) jv_no := by
  refine jv_ofV (lo := [(0, .ref x), (1, .int (nI i)), (2, .int (nI j))]) hlt (by decide) (Nat.le_of_ble_eq_true rfl) rfl (fun E hEl hEd hEz Z G hr ht hnm => ?_)
  subst hEl; subst hEd; subst hEz
  refine jv_aload_n (q := 1) G 0 dX8_isLike_0 rfl rfl rfl ?_
  refine jv_getQ (q := 4) G dX8_isLike_1 fl_X8_56 rfl hS.1 (rf_p17 hS) rfl ?_
  refine jv_iload_n (q := 5) G 1 dX8_isLike_4 rfl rfl rfl ?_
  refine jv_zald (q := 6) G dX8_isLike_5 (rf_a17 hS) rfl (by omega) (by decide) hm.2.2.2.2.1 rfl ?_
  refine jv_aload_n (q := 7) G 0 dX8_isLike_6 rfl rfl rfl ?_
  refine jv_getQ (q := 10) G dX8_isLike_7 fl_X8_56 rfl hS.1 (rf_p17 hS) rfl ?_
  refine jv_iload_n (q := 11) G 2 dX8_isLike_10 rfl rfl rfl ?_
  refine jv_zald (q := 12) G dX8_isLike_11 (rf_a17 hS) rfl (by omega) (by decide) ho.2.2.2.2.1 rfl ?_
  refine jv_icmp_neB (q := 15) (tgt := 49) G dX8_isLike_12 (by decide) rfl (fun c1 => ?_) (fun c1 => ?_)
  · refine jv_iconst (q := 50) (v := nI 0) G dX8_isLike_49 (by decide) rfl ?_
    refine jv_topI (y := jv_bI false) rfl ?_
    refine jv_zret G hr dX8_isLike_50 (Nat.le_of_ble_eq_true rfl) (Nat.le_of_ble_eq_true rfl) ?_
    refine ⟨?_, rfl⟩; unfold m_like; simp only [*, decide_true, decide_false, Bool.and_true, Bool.true_and, Bool.and_false, Bool.false_and]
  · refine jv_aload_n (q := 16) G 0 dX8_isLike_15 rfl rfl rfl ?_
    refine jv_getQ (q := 19) G dX8_isLike_16 fl_X8_59 rfl hS.1 (rf_p18 hS) rfl ?_
    refine jv_iload_n (q := 20) G 1 dX8_isLike_19 rfl rfl rfl ?_
    refine jv_iald (q := 21) G dX8_isLike_20 (rf_a18 hS) rfl (by omega) (by decide) hm.2.2.2.2.2.1 rfl ?_
    refine jv_aload_n (q := 22) G 0 dX8_isLike_21 rfl rfl rfl ?_
    refine jv_getQ (q := 25) G dX8_isLike_22 fl_X8_59 rfl hS.1 (rf_p18 hS) rfl ?_
    refine jv_iload_n (q := 26) G 2 dX8_isLike_25 rfl rfl rfl ?_
    refine jv_iald (q := 27) G dX8_isLike_26 (rf_a18 hS) rfl (by omega) (by decide) ho.2.2.2.2.2.1 rfl ?_
    refine jv_icmp_ne (q := 30) (tgt := 49) G dX8_isLike_27 (by decide) rfl (fun c2 => ?_) (fun c2 => ?_)
    · refine jv_iconst (q := 50) (v := nI 0) G dX8_isLike_49 (by decide) rfl ?_
      refine jv_topI (y := jv_bI false) rfl ?_
      refine jv_zret G hr dX8_isLike_50 (Nat.le_of_ble_eq_true rfl) (Nat.le_of_ble_eq_true rfl) ?_
      refine ⟨?_, rfl⟩; unfold m_like; simp only [*, decide_true, decide_false, Bool.and_true, Bool.true_and, Bool.and_false, Bool.false_and]
    · refine jv_aload_n (q := 31) G 0 dX8_isLike_30 rfl rfl rfl ?_
      refine jv_getQ (q := 34) G dX8_isLike_31 fl_X8_62 rfl hS.1 (rf_p19 hS) rfl ?_
      refine jv_iload_n (q := 35) G 1 dX8_isLike_34 rfl rfl rfl ?_
      refine jv_zald (q := 36) G dX8_isLike_35 (rf_a19 hS) rfl (by omega) (by decide) hm.2.2.2.2.2.2 rfl ?_
      refine jv_aload_n (q := 37) G 0 dX8_isLike_36 rfl rfl rfl ?_
      refine jv_getQ (q := 40) G dX8_isLike_37 fl_X8_62 rfl hS.1 (rf_p19 hS) rfl ?_
      refine jv_iload_n (q := 41) G 2 dX8_isLike_40 rfl rfl rfl ?_
      refine jv_zald (q := 42) G dX8_isLike_41 (rf_a19 hS) rfl (by omega) (by decide) ho.2.2.2.2.2.2 rfl ?_
      refine jv_icmp_neB (q := 45) (tgt := 49) G dX8_isLike_42 (by decide) rfl (fun c3 => ?_) (fun c3 => ?_)
      · refine jv_iconst (q := 50) (v := nI 0) G dX8_isLike_49 (by decide) rfl ?_
        refine jv_topI (y := jv_bI false) rfl ?_
        refine jv_zret G hr dX8_isLike_50 (Nat.le_of_ble_eq_true rfl) (Nat.le_of_ble_eq_true rfl) ?_
        refine ⟨?_, rfl⟩; unfold m_like; simp only [*, decide_true, decide_false, Bool.and_true, Bool.true_and, Bool.and_false, Bool.false_and]
      · refine jv_iconst (q := 46) (v := nI 1) G dX8_isLike_45 (by decide) rfl ?_
        refine jv_goto (q := 50) G dX8_isLike_46 (by decide) ?_
        refine jv_topI (y := jv_bI true) rfl ?_
        refine jv_zret G hr dX8_isLike_50 (Nat.le_of_ble_eq_true rfl) (Nat.le_of_ble_eq_true rfl) ?_
        refine ⟨?_, rfl⟩; unfold m_like; simp only [*, decide_true, decide_false, Bool.and_true, Bool.true_and, Bool.and_false, Bool.false_and]
set_option maxHeartbeats 4000000 in
set_option maxRecDepth 100000 in
theorem r_mo_tail {E : jv_E} {Q : State → Prop} {x : Nat} {q : Nat → Nat} {h : jv_H} {a b t i K : Nat} {A B : List mT} {T : Nat → Bool} {ta : mT} (hS : rf_S x q h) (ha : a < 8) (hb : b < 8) (ht16 : t < 16) (hK : K < 128) (hEA : rf_E q h a A) (hEB : rf_E q h b B) (hVA : rf_V q h a A) (hVB : rf_V q h b B) (htk : rf_tk q h b B T) (hti : A[i]? = some ta) {j : Nat} {m : mM} (hkj : m_kj ta K = some j) (hmj : (mt_m ta)[j]? = some m) (hlt : (jv_l E).stackTraces = false) (G : jv_C E cX8_moveOne RX8 15) (Z : jv_rm E = jv_room 3 0 0) {u : Nat} (hu : u < 16) (hnr : m_near A B t u = true) (hKn : m_gp A B T t K m u = false → jv_V E 15 h 0 0 Q 228 [(10, .int (nI u)), (0, .ref x), (1, .int (nI a)), (2, .int (nI b)), (3, .int (nI t)), (5, .int (nI (K / 64))), (6, .int (nI (K % 64 / 4))), (7, .int (nI (K % 4))), (8, .int (nI (6 * (10 * a + i) + j)))] []) (hKs : ∀ (ib : Nat) tb (jb : Nat) ob, m_at B (nI u) = some ib → B[ib]? = some tb → m_kj tb K = some jb → (mt_m tb)[jb]? = some ob → m_gp A B T t K m u = true → jv_V E 15 h 0 0 Q 210 [(13, .int (nI (6 * (10 * b + ib) + jb))), (10, .int (nI u)), (8, .int (nI (6 * (10 * a + i) + j))), (0, .ref x)] []) : jv_V E 15 h 0 0 Q 112 [(11, .int (nI 1)), (10, .int (nI u)), (0, .ref x), (1, .int (nI a)), (2, .int (nI b)), (3, .int (nI t)), (5, .int (nI (K / 64))), (6, .int (nI (K % 64 / 4))), (7, .int (nI (K % 4))), (8, .int (nI (6 * (10 * a + i) + j)))] [] := by
  have hsc : sc x q h h := sc.rf
  have hla := hEA.2.1; have hlb := hEB.2.1; have hil := jv_ltGet hti; have hOa := (hEA.2.2 i ta hti).2; have hTa := (hEA.2.2 i ta hti).1
  have hl6 := hOa.2.2.2.2.2.1; have hjl := jv_ltGet hmj; have hMm := rt_m hTa hmj
  refine jv_aload_n (q := 113) G 2 dX8_moveOne_112 rfl rfl rfl ?_
  refine jv_iload_n (q := 114) G 4 dX8_moveOne_113 rfl rfl rfl ?_
  refine jv_iload (q := 116) G 1 dX8_moveOne_114 rfl rfl ?_
  refine jv_callV_I (q := 119) (h1 := h) (As := [.int (nI b), .int (nI u)]) (rest := []) (ce' := 0) (sl' := 0) (r := jv_oN ((m_at B (nI u)).map (fun k => 10 * b + k))) G Z ml_X8_151 (r_at hlt hS (by omega) hEB) hS.1 dX8_moveOne_116 rfl (by decide) (by decide) (by decide) (by decide) (Nat.le_of_ble_eq_true rfl) rfl rfl rfl rfl ?_
  rcases Option.eq_none_or_eq_some (m_at B (nI u)) with hk3 | ⟨k1, hk3⟩
  · refine jv_topI (y := (-1)) (by rw [hk3]; rfl) ?_
    refine jv_istore (q := 121) (lo' := [(12, .int (-1)), (11, .int (nI 1)), (10, .int (nI u)), (0, .ref x), (1, .int (nI a)), (2, .int (nI b)), (3, .int (nI t)), (5, .int (nI (K / 64))), (6, .int (nI (K % 64 / 4))), (7, .int (nI (K % 4))), (8, .int (nI (6 * (10 * a + i) + j)))]) G dX8_moveOne_119 (by decide) rfl rfl ?_
    refine jv_iload (q := 123) G 1 dX8_moveOne_121 rfl rfl ?_
    refine jv_if_eqN (q := 126) (tgt := 228) G dX8_moveOne_123 (by decide) rfl (by omega) (fun c4 => ?_) (fun c4 => ?_)
    · omega
    · refine jv_iload (q := 128) G 0 dX8_moveOne_126 rfl rfl ?_
      refine jv_iconst (q := 129) (v := (-1)) G dX8_moveOne_128 (by decide) rfl ?_
      refine jv_icmp_ne (q := 132) (tgt := 135) G dX8_moveOne_129 (by decide) rfl (fun c5 => ?_) (fun c5 => ?_)
      · exact absurd rfl c5
      · refine jv_goto (q := 228) G dX8_moveOne_132 (by decide) ?_
        refine jv_lo [2, 3, 4, 5, 6, 7, 8, 9, 10] (lo' := [(10, .int (nI u)), (0, .ref x), (1, .int (nI a)), (2, .int (nI b)), (3, .int (nI t)), (5, .int (nI (K / 64))), (6, .int (nI (K % 64 / 4))), (7, .int (nI (K % 4))), (8, .int (nI (6 * (10 * a + i) + j)))]) rfl ?_
        have ybu : m_km (m_ty1 B u) K = none := by rw [ty1_n (by assumption)]; rfl
        refine hKn ?_
        unfold m_gp
        simp only [*, Bool.true_and, Bool.and_true, Bool.false_and, Bool.and_false, Bool.not_true, Bool.not_false, Option.isNone_none, Option.isNone_some]
  · refine jv_topI (y := nI (10 * b + k1)) (by rw [hk3]; rfl) ?_
    obtain ⟨t2, ht2, nt2, lt2⟩ := m_at_some hk3
    have Tt2 := (hEB.2.2 k1 t2 ht2).1
    have Ot2 := (hEB.2.2 k1 t2 ht2).2
    have Lt2 := hEB.2.1
    have Bt2n := Ot2.1; have Bt2k := Ot2.2.1
    refine jv_istore (q := 121) (lo' := [(12, .int (nI (10 * b + k1))), (11, .int (nI 1)), (10, .int (nI u)), (0, .ref x), (1, .int (nI a)), (2, .int (nI b)), (3, .int (nI t)), (5, .int (nI (K / 64))), (6, .int (nI (K % 64 / 4))), (7, .int (nI (K % 4))), (8, .int (nI (6 * (10 * a + i) + j)))]) G dX8_moveOne_119 (by decide) rfl rfl ?_
    refine jv_iload (q := 123) G 1 dX8_moveOne_121 rfl rfl ?_
    refine jv_if_eqN (q := 126) (tgt := 228) G dX8_moveOne_123 (by decide) rfl (by omega) (fun c6 => ?_) (fun c6 => ?_)
    · omega
    · refine jv_iload (q := 128) G 0 dX8_moveOne_126 rfl rfl ?_
      refine jv_iconst (q := 129) (v := (-1)) G dX8_moveOne_128 (by decide) rfl ?_
      refine jv_icmp_ne (q := 132) (tgt := 135) G dX8_moveOne_129 (by decide) rfl (fun c7 => ?_) (fun c7 => ?_)
      · refine jv_aload_n (q := 136) G 3 dX8_moveOne_135 rfl rfl rfl ?_
        refine jv_iload (q := 138) G 0 dX8_moveOne_136 rfl rfl ?_
        refine jv_iload (q := 140) G 7 dX8_moveOne_138 rfl rfl ?_
        refine jv_iload (q := 142) G 8 dX8_moveOne_140 rfl rfl ?_
        refine jv_iload (q := 144) G 9 dX8_moveOne_142 rfl rfl ?_
        refine jv_callV_I (q := 147) (h1 := h) (As := [.int (nI (10 * b + k1)), .int (nI (K / 64)), .int (nI (K % 64 / 4)), .int (nI (K % 4))]) (rest := []) (ce' := 0) (sl' := 0) (r := jv_oN ((m_own t2 (nI (K / 64)) (nI (K % 64 / 4)) (nI (K % 4))).map (fun j => 6 * (10 * b + k1) + j))) G Z ml_X8_155 (r_own hlt hS (by omega) Tt2 Ot2) hS.1 dX8_moveOne_144 rfl (by decide) (by decide) (by decide) (by decide) (Nat.le_of_ble_eq_true rfl) rfl rfl rfl rfl ?_
        rcases Option.eq_none_or_eq_some (m_kj t2 K) with hj10 | ⟨j8, hj10⟩
        · refine jv_topI (y := (-1)) (by rw [show m_own t2 (nI (K / 64)) (nI (K % 64 / 4)) (nI (K % 4)) = none from hj10]; rfl) ?_
          refine jv_istore (q := 149) (lo' := [(13, .int (-1)), (12, .int (nI (10 * b + k1))), (11, .int (nI 1)), (10, .int (nI u)), (0, .ref x), (1, .int (nI a)), (2, .int (nI b)), (3, .int (nI t)), (5, .int (nI (K / 64))), (6, .int (nI (K % 64 / 4))), (7, .int (nI (K % 4))), (8, .int (nI (6 * (10 * a + i) + j)))]) G dX8_moveOne_147 (by decide) rfl rfl ?_
          refine jv_aload_n (q := 150) G 4 dX8_moveOne_149 rfl rfl rfl ?_
          refine jv_iload_n (q := 151) G 5 dX8_moveOne_150 rfl rfl rfl ?_
          refine jv_iload (q := 153) G 3 dX8_moveOne_151 rfl rfl ?_
          refine jv_callV_I (q := 156) (h1 := h) (As := [.int (nI a), .int (nI u)]) (rest := []) (ce' := 0) (sl' := 0) (r := jv_oN ((m_at A (nI u)).map (fun k => 10 * a + k))) G Z ml_X8_151 (r_at hlt hS (by omega) hEA) hS.1 dX8_moveOne_153 rfl (by decide) (by decide) (by decide) (by decide) (Nat.le_of_ble_eq_true rfl) rfl rfl rfl rfl ?_
          rcases Option.eq_none_or_eq_some (m_at A (nI u)) with hk13 | ⟨k11, hk13⟩
          · refine jv_topI (y := (-1)) (by rw [hk13]; rfl) ?_
            refine jv_istore (q := 158) (lo' := [(14, .int (-1)), (13, .int (-1)), (12, .int (nI (10 * b + k1))), (11, .int (nI 1)), (10, .int (nI u)), (0, .ref x), (1, .int (nI a)), (2, .int (nI b)), (3, .int (nI t)), (5, .int (nI (K / 64))), (6, .int (nI (K % 64 / 4))), (7, .int (nI (K % 4))), (8, .int (nI (6 * (10 * a + i) + j)))]) G dX8_moveOne_156 (by decide) rfl rfl ?_
            refine jv_iload (q := 160) G 1 dX8_moveOne_158 rfl rfl ?_
            refine jv_iconst (q := 161) (v := (-1)) G dX8_moveOne_160 (by decide) rfl ?_
            refine jv_icmp_eq (q := 164) (tgt := 228) G dX8_moveOne_161 (by decide) rfl (fun c14 => ?_) (fun c14 => ?_)
            · refine jv_lo [4, 5, 6, 7, 8, 9, 10, 11, 12] (lo' := [(10, .int (nI u)), (0, .ref x), (1, .int (nI a)), (2, .int (nI b)), (3, .int (nI t)), (5, .int (nI (K / 64))), (6, .int (nI (K % 64 / 4))), (7, .int (nI (K % 4))), (8, .int (nI (6 * (10 * a + i) + j)))]) rfl ?_
              have ybu : m_km (m_ty1 B u) K = none := by rw [ty1_s (by assumption) ht2]; exact km_n hj10
              have yau : m_km (m_ty1 A u) K = none := by rw [ty1_n (by assumption)]; rfl
              refine hKn ?_
              unfold m_gp
              simp only [*, Bool.true_and, Bool.and_true, Bool.false_and, Bool.and_false, Bool.not_true, Bool.not_false, Option.isNone_none, Option.isNone_some]
            · exact absurd rfl c14
          · refine jv_topI (y := nI (10 * a + k11)) (by rw [hk13]; rfl) ?_
            obtain ⟨t12, ht12, nt12, lt12⟩ := m_at_some hk13
            have Tt12 := (hEA.2.2 k11 t12 ht12).1
            have Ot12 := (hEA.2.2 k11 t12 ht12).2
            have Lt12 := hEA.2.1
            have Bt12n := Ot12.1; have Bt12k := Ot12.2.1
            refine jv_istore (q := 158) (lo' := [(14, .int (nI (10 * a + k11))), (13, .int (-1)), (12, .int (nI (10 * b + k1))), (11, .int (nI 1)), (10, .int (nI u)), (0, .ref x), (1, .int (nI a)), (2, .int (nI b)), (3, .int (nI t)), (5, .int (nI (K / 64))), (6, .int (nI (K % 64 / 4))), (7, .int (nI (K % 4))), (8, .int (nI (6 * (10 * a + i) + j)))]) G dX8_moveOne_156 (by decide) rfl rfl ?_
            refine jv_iload (q := 160) G 1 dX8_moveOne_158 rfl rfl ?_
            refine jv_iconst (q := 161) (v := (-1)) G dX8_moveOne_160 (by decide) rfl ?_
            refine jv_icmp_eq (q := 164) (tgt := 228) G dX8_moveOne_161 (by decide) rfl (fun c15 => ?_) (fun c15 => ?_)
            · refine jv_lo [4, 5, 6, 7, 8, 9, 10, 11, 12] (lo' := [(10, .int (nI u)), (0, .ref x), (1, .int (nI a)), (2, .int (nI b)), (3, .int (nI t)), (5, .int (nI (K / 64))), (6, .int (nI (K % 64 / 4))), (7, .int (nI (K % 4))), (8, .int (nI (6 * (10 * a + i) + j)))]) rfl ?_
              have ybu : m_km (m_ty1 B u) K = none := by rw [ty1_s (by assumption) ht2]; exact km_n hj10
              refine hKn ?_
              unfold m_gp
              simp only [*, Bool.true_and, Bool.and_true, Bool.false_and, Bool.and_false, Bool.not_true, Bool.not_false, Option.isNone_none, Option.isNone_some]
            · exact absurd rfl c15
        · refine jv_topI (y := nI (6 * (10 * b + k1) + j8)) (by rw [show m_own t2 (nI (K / 64)) (nI (K % 64 / 4)) (nI (K % 4)) = some j8 from hj10]; rfl) ?_
          obtain ⟨m9, hm9, km9⟩ := kj_some Ot2 hK hj10
          have Mm9 := rt_m Tt2 hm9
          have Lm9 := Ot2.2.2.2.2.2.1
          have lm9 := jv_ltGet hm9
          have hnu : mt_n t2 = u := (nI_eq (by omega) (by omega)).mp nt2
          have htk1 : jv_I h (q 40) (6 * (10 * b + k1) + j8) = jv_bI (T (128 * u + K)) := by
            rw [← hnu, ← km9]; exact htk _ _ _ _ ht2 hm9
          refine jv_istore (q := 149) (lo' := [(13, .int (nI (6 * (10 * b + k1) + j8))), (12, .int (nI (10 * b + k1))), (11, .int (nI 1)), (10, .int (nI u)), (0, .ref x), (1, .int (nI a)), (2, .int (nI b)), (3, .int (nI t)), (5, .int (nI (K / 64))), (6, .int (nI (K % 64 / 4))), (7, .int (nI (K % 4))), (8, .int (nI (6 * (10 * a + i) + j)))]) G dX8_moveOne_147 (by decide) rfl rfl ?_
          refine jv_aload_n (q := 150) G 4 dX8_moveOne_149 rfl rfl rfl ?_
          refine jv_iload_n (q := 151) G 5 dX8_moveOne_150 rfl rfl rfl ?_
          refine jv_iload (q := 153) G 3 dX8_moveOne_151 rfl rfl ?_
          refine jv_callV_I (q := 156) (h1 := h) (As := [.int (nI a), .int (nI u)]) (rest := []) (ce' := 0) (sl' := 0) (r := jv_oN ((m_at A (nI u)).map (fun k => 10 * a + k))) G Z ml_X8_151 (r_at hlt hS (by omega) hEA) hS.1 dX8_moveOne_153 rfl (by decide) (by decide) (by decide) (by decide) (Nat.le_of_ble_eq_true rfl) rfl rfl rfl rfl ?_
          rcases Option.eq_none_or_eq_some (m_at A (nI u)) with hk18 | ⟨k16, hk18⟩
          · refine jv_topI (y := (-1)) (by rw [hk18]; rfl) ?_
            refine jv_istore (q := 158) (lo' := [(14, .int (-1)), (13, .int (nI (6 * (10 * b + k1) + j8))), (12, .int (nI (10 * b + k1))), (11, .int (nI 1)), (10, .int (nI u)), (0, .ref x), (1, .int (nI a)), (2, .int (nI b)), (3, .int (nI t)), (5, .int (nI (K / 64))), (6, .int (nI (K % 64 / 4))), (7, .int (nI (K % 4))), (8, .int (nI (6 * (10 * a + i) + j)))]) G dX8_moveOne_156 (by decide) rfl rfl ?_
            refine jv_iload (q := 160) G 1 dX8_moveOne_158 rfl rfl ?_
            refine jv_iconst (q := 161) (v := (-1)) G dX8_moveOne_160 (by decide) rfl ?_
            refine jv_icmp_eq (q := 164) (tgt := 228) G dX8_moveOne_161 (by decide) rfl (fun c19 => ?_) (fun c19 => ?_)
            · exact absurd c19 (jv_nI_m1 (by omega))
            · refine jv_aload_n (q := 165) G 5 dX8_moveOne_164 rfl rfl rfl ?_
              refine jv_getQ (q := 168) G dX8_moveOne_165 fl_X8_116 rfl hS.1 (rf_p40 hS) rfl ?_
              refine jv_iload (q := 170) G 1 dX8_moveOne_168 rfl rfl ?_
              refine jv_zald (q := 171) G dX8_moveOne_170 (rf_a40 hS) rfl (by omega) (by decide) htk1 rfl ?_
              refine jv_if_neB (q := 174) (tgt := 228) G dX8_moveOne_171 (by decide) rfl (fun c20 => ?_) (fun c20 => ?_)
              · refine jv_lo [4, 5, 6, 7, 8, 9, 10, 11, 12] (lo' := [(10, .int (nI u)), (0, .ref x), (1, .int (nI a)), (2, .int (nI b)), (3, .int (nI t)), (5, .int (nI (K / 64))), (6, .int (nI (K % 64 / 4))), (7, .int (nI (K % 4))), (8, .int (nI (6 * (10 * a + i) + j)))]) rfl ?_
                have ybu : m_km (m_ty1 B u) K = some m9 := by rw [ty1_s (by assumption) ht2]; exact km_s hj10 hm9
                have yau : m_km (m_ty1 A u) K = none := by rw [ty1_n (by assumption)]; rfl
                refine hKn ?_
                unfold m_gp
                simp only [*, Bool.true_and, Bool.and_true, Bool.false_and, Bool.and_false, Bool.not_true, Bool.not_false, Option.isNone_none, Option.isNone_some]
              · refine jv_aload_n (q := 175) G 5 dX8_moveOne_174 rfl rfl rfl ?_
                refine jv_iload (q := 177) G 12 dX8_moveOne_175 rfl rfl ?_
                refine jv_iload (q := 179) G 1 dX8_moveOne_177 rfl rfl ?_
                refine jv_callV_I (q := 182) (h1 := h) (As := [.int (nI (6 * (10 * a + i) + j)), .int (nI (6 * (10 * b + k1) + j8))]) (rest := []) (ce' := 0) (sl' := 0) (r := jv_bI (m_like m m9)) G Z ml_X8_225 (r_isLike hlt hS (by omega) (by omega) hMm Mm9) hS.1 dX8_moveOne_179 rfl (by decide) (by decide) (by decide) (by decide) (Nat.le_of_ble_eq_true rfl) rfl rfl rfl rfl ?_
                refine jv_if_eqB (q := 185) (tgt := 228) G dX8_moveOne_182 (by decide) rfl (fun c21 => ?_) (fun c21 => ?_)
                · refine jv_lo [4, 5, 6, 7, 8, 9, 10, 11, 12] (lo' := [(10, .int (nI u)), (0, .ref x), (1, .int (nI a)), (2, .int (nI b)), (3, .int (nI t)), (5, .int (nI (K / 64))), (6, .int (nI (K % 64 / 4))), (7, .int (nI (K % 4))), (8, .int (nI (6 * (10 * a + i) + j)))]) rfl ?_
                  have ybu : m_km (m_ty1 B u) K = some m9 := by rw [ty1_s (by assumption) ht2]; exact km_s hj10 hm9
                  have yau : m_km (m_ty1 A u) K = none := by rw [ty1_n (by assumption)]; rfl
                  refine hKn ?_
                  unfold m_gp
                  simp only [*, Bool.true_and, Bool.and_true, Bool.false_and, Bool.and_false, Bool.not_true, Bool.not_false, Option.isNone_none, Option.isNone_some]
                · refine jv_iload (q := 187) G 0 dX8_moveOne_185 rfl rfl ?_
                  refine jv_iconst (q := 188) (v := (-1)) G dX8_moveOne_187 (by decide) rfl ?_
                  refine jv_icmp_eq (q := 191) (tgt := 210) G dX8_moveOne_188 (by decide) rfl (fun c22 => ?_) (fun c22 => ?_)
                  · refine jv_lo [1, 4, 12, 5] (lo' := [(13, .int (nI (6 * (10 * b + k1) + j8))), (10, .int (nI u)), (8, .int (nI (6 * (10 * a + i) + j))), (0, .ref x)]) rfl ?_
                    have ybu : m_km (m_ty1 B u) K = some m9 := by rw [ty1_s (by assumption) ht2]; exact km_s hj10 hm9
                    have yau : m_km (m_ty1 A u) K = none := by rw [ty1_n (by assumption)]; rfl
                    refine hKs k1 t2 j8 m9 (by assumption) ht2 hj10 hm9 ?_
                    unfold m_gp
                    simp only [*, Bool.true_and, Bool.and_true, Bool.false_and, Bool.and_false, Bool.not_true, Bool.not_false, Option.isNone_none, Option.isNone_some]
                  · exact absurd rfl c22
          · refine jv_topI (y := nI (10 * a + k16)) (by rw [hk18]; rfl) ?_
            obtain ⟨t17, ht17, nt17, lt17⟩ := m_at_some hk18
            have Tt17 := (hEA.2.2 k16 t17 ht17).1
            have Ot17 := (hEA.2.2 k16 t17 ht17).2
            have Lt17 := hEA.2.1
            have Bt17n := Ot17.1; have Bt17k := Ot17.2.1
            refine jv_istore (q := 158) (lo' := [(14, .int (nI (10 * a + k16))), (13, .int (nI (6 * (10 * b + k1) + j8))), (12, .int (nI (10 * b + k1))), (11, .int (nI 1)), (10, .int (nI u)), (0, .ref x), (1, .int (nI a)), (2, .int (nI b)), (3, .int (nI t)), (5, .int (nI (K / 64))), (6, .int (nI (K % 64 / 4))), (7, .int (nI (K % 4))), (8, .int (nI (6 * (10 * a + i) + j)))]) G dX8_moveOne_156 (by decide) rfl rfl ?_
            refine jv_iload (q := 160) G 1 dX8_moveOne_158 rfl rfl ?_
            refine jv_iconst (q := 161) (v := (-1)) G dX8_moveOne_160 (by decide) rfl ?_
            refine jv_icmp_eq (q := 164) (tgt := 228) G dX8_moveOne_161 (by decide) rfl (fun c23 => ?_) (fun c23 => ?_)
            · exact absurd c23 (jv_nI_m1 (by omega))
            · refine jv_aload_n (q := 165) G 5 dX8_moveOne_164 rfl rfl rfl ?_
              refine jv_getQ (q := 168) G dX8_moveOne_165 fl_X8_116 rfl hS.1 (rf_p40 hS) rfl ?_
              refine jv_iload (q := 170) G 1 dX8_moveOne_168 rfl rfl ?_
              refine jv_zald (q := 171) G dX8_moveOne_170 (rf_a40 hS) rfl (by omega) (by decide) htk1 rfl ?_
              refine jv_if_neB (q := 174) (tgt := 228) G dX8_moveOne_171 (by decide) rfl (fun c24 => ?_) (fun c24 => ?_)
              · refine jv_lo [4, 5, 6, 7, 8, 9, 10, 11, 12] (lo' := [(10, .int (nI u)), (0, .ref x), (1, .int (nI a)), (2, .int (nI b)), (3, .int (nI t)), (5, .int (nI (K / 64))), (6, .int (nI (K % 64 / 4))), (7, .int (nI (K % 4))), (8, .int (nI (6 * (10 * a + i) + j)))]) rfl ?_
                have ybu : m_km (m_ty1 B u) K = some m9 := by rw [ty1_s (by assumption) ht2]; exact km_s hj10 hm9
                refine hKn ?_
                unfold m_gp
                simp only [*, Bool.true_and, Bool.and_true, Bool.false_and, Bool.and_false, Bool.not_true, Bool.not_false, Option.isNone_none, Option.isNone_some]
              · refine jv_aload_n (q := 175) G 5 dX8_moveOne_174 rfl rfl rfl ?_
                refine jv_iload (q := 177) G 12 dX8_moveOne_175 rfl rfl ?_
                refine jv_iload (q := 179) G 1 dX8_moveOne_177 rfl rfl ?_
                refine jv_callV_I (q := 182) (h1 := h) (As := [.int (nI (6 * (10 * a + i) + j)), .int (nI (6 * (10 * b + k1) + j8))]) (rest := []) (ce' := 0) (sl' := 0) (r := jv_bI (m_like m m9)) G Z ml_X8_225 (r_isLike hlt hS (by omega) (by omega) hMm Mm9) hS.1 dX8_moveOne_179 rfl (by decide) (by decide) (by decide) (by decide) (Nat.le_of_ble_eq_true rfl) rfl rfl rfl rfl ?_
                refine jv_if_eqB (q := 185) (tgt := 228) G dX8_moveOne_182 (by decide) rfl (fun c25 => ?_) (fun c25 => ?_)
                · refine jv_lo [4, 5, 6, 7, 8, 9, 10, 11, 12] (lo' := [(10, .int (nI u)), (0, .ref x), (1, .int (nI a)), (2, .int (nI b)), (3, .int (nI t)), (5, .int (nI (K / 64))), (6, .int (nI (K % 64 / 4))), (7, .int (nI (K % 4))), (8, .int (nI (6 * (10 * a + i) + j)))]) rfl ?_
                  have ybu : m_km (m_ty1 B u) K = some m9 := by rw [ty1_s (by assumption) ht2]; exact km_s hj10 hm9
                  refine hKn ?_
                  unfold m_gp
                  simp only [*, Bool.true_and, Bool.and_true, Bool.false_and, Bool.and_false, Bool.not_true, Bool.not_false, Option.isNone_none, Option.isNone_some]
                · refine jv_iload (q := 187) G 0 dX8_moveOne_185 rfl rfl ?_
                  refine jv_iconst (q := 188) (v := (-1)) G dX8_moveOne_187 (by decide) rfl ?_
                  refine jv_icmp_eq (q := 191) (tgt := 210) G dX8_moveOne_188 (by decide) rfl (fun c26 => ?_) (fun c26 => ?_)
                  · exact absurd c26 (jv_nI_m1 (by omega))
                  · refine jv_aload_n (q := 192) G 5 dX8_moveOne_191 rfl rfl rfl ?_
                    refine jv_iload (q := 194) G 0 dX8_moveOne_192 rfl rfl ?_
                    refine jv_iload (q := 196) G 9 dX8_moveOne_194 rfl rfl ?_
                    refine jv_iload (q := 198) G 10 dX8_moveOne_196 rfl rfl ?_
                    refine jv_iload (q := 200) G 11 dX8_moveOne_198 rfl rfl ?_
                    refine jv_callV_I (q := 203) (h1 := h) (As := [.int (nI (10 * a + k16)), .int (nI (K / 64)), .int (nI (K % 64 / 4)), .int (nI (K % 4))]) (rest := []) (ce' := 0) (sl' := 0) (r := jv_oN ((m_own t17 (nI (K / 64)) (nI (K % 64 / 4)) (nI (K % 4))).map (fun j => 6 * (10 * a + k16) + j))) G Z ml_X8_155 (r_own hlt hS (by omega) Tt17 Ot17) hS.1 dX8_moveOne_200 rfl (by decide) (by decide) (by decide) (by decide) (Nat.le_of_ble_eq_true rfl) rfl rfl rfl rfl ?_
                    rcases Option.eq_none_or_eq_some (m_kj t17 K) with hj29 | ⟨j27, hj29⟩
                    · refine jv_topI (y := (-1)) (by rw [show m_own t17 (nI (K / 64)) (nI (K % 64 / 4)) (nI (K % 4)) = none from hj29]; rfl) ?_
                      refine jv_iconst (q := 204) (v := (-1)) G dX8_moveOne_203 (by decide) rfl ?_
                      refine jv_icmp_eq (q := 207) (tgt := 210) G dX8_moveOne_204 (by decide) rfl (fun c30 => ?_) (fun c30 => ?_)
                      · refine jv_lo [1, 4, 12, 5] (lo' := [(13, .int (nI (6 * (10 * b + k1) + j8))), (10, .int (nI u)), (8, .int (nI (6 * (10 * a + i) + j))), (0, .ref x)]) rfl ?_
                        have ybu : m_km (m_ty1 B u) K = some m9 := by rw [ty1_s (by assumption) ht2]; exact km_s hj10 hm9
                        have yau : m_km (m_ty1 A u) K = none := by rw [ty1_s (by assumption) ht17]; exact km_n hj29
                        refine hKs k1 t2 j8 m9 (by assumption) ht2 hj10 hm9 ?_
                        unfold m_gp
                        simp only [*, Bool.true_and, Bool.and_true, Bool.false_and, Bool.and_false, Bool.not_true, Bool.not_false, Option.isNone_none, Option.isNone_some]
                      · exact absurd rfl c30
                    · refine jv_topI (y := nI (6 * (10 * a + k16) + j27)) (by rw [show m_own t17 (nI (K / 64)) (nI (K % 64 / 4)) (nI (K % 4)) = some j27 from hj29]; rfl) ?_
                      obtain ⟨m28, hm28, km28⟩ := kj_some Ot17 hK hj29
                      have Mm28 := rt_m Tt17 hm28
                      have Lm28 := Ot17.2.2.2.2.2.1
                      have lm28 := jv_ltGet hm28
                      refine jv_iconst (q := 204) (v := (-1)) G dX8_moveOne_203 (by decide) rfl ?_
                      refine jv_icmp_eq (q := 207) (tgt := 210) G dX8_moveOne_204 (by decide) rfl (fun c31 => ?_) (fun c31 => ?_)
                      · exact absurd c31 (jv_nI_m1 (by omega))
                      · refine jv_goto (q := 228) G dX8_moveOne_207 (by decide) ?_
                        refine jv_lo [4, 5, 6, 7, 8, 9, 10, 11, 12] (lo' := [(10, .int (nI u)), (0, .ref x), (1, .int (nI a)), (2, .int (nI b)), (3, .int (nI t)), (5, .int (nI (K / 64))), (6, .int (nI (K % 64 / 4))), (7, .int (nI (K % 4))), (8, .int (nI (6 * (10 * a + i) + j)))]) rfl ?_
                        have ybu : m_km (m_ty1 B u) K = some m9 := by rw [ty1_s (by assumption) ht2]; exact km_s hj10 hm9
                        have yau : m_km (m_ty1 A u) K = some m28 := by rw [ty1_s (by assumption) ht17]; exact km_s hj29 hm28
                        refine hKn ?_
                        unfold m_gp
                        simp only [*, Bool.true_and, Bool.and_true, Bool.false_and, Bool.and_false, Bool.not_true, Bool.not_false, Option.isNone_none, Option.isNone_some]
      · exact absurd c7 (jv_nI_m1 (by omega))
set_option maxHeartbeats 4000000 in
set_option maxRecDepth 100000 in
theorem r_mo_loop {E : jv_E} {Q : State → Prop} {x : Nat} {q : Nat → Nat} {h : jv_H} {a b t i K : Nat} {A B : List mT} {T : Nat → Bool} {ta : mT} (hS : rf_S x q h) (ha : a < 8) (hb : b < 8) (ht16 : t < 16) (hK : K < 128) (hEA : rf_E q h a A) (hEB : rf_E q h b B) (hVA : rf_V q h a A) (hVB : rf_V q h b B) (htk : rf_tk q h b B T) (hti : A[i]? = some ta) {j : Nat} {m : mM} (hkj : m_kj ta K = some j) (hmj : (mt_m ta)[j]? = some m) (hlt : (jv_l E).stackTraces = false) (G : jv_C E cX8_moveOne RX8 15) (Z : jv_rm E = jv_room 3 0 0) (hK0 : (∀ v, v < 16 → m_gp A B T t K m v = false) → jv_V E 15 h 0 0 Q 234 [(0, .ref x)] []) (hKs : ∀ (u ib : Nat) tb (jb : Nat) ob, u < 16 → (∀ v, v < u → m_gp A B T t K m v = false) → m_at B (nI u) = some ib → B[ib]? = some tb → m_kj tb K = some jb → (mt_m tb)[jb]? = some ob → m_gp A B T t K m u = true → jv_V E 15 h 0 0 Q 210 [(13, .int (nI (6 * (10 * b + ib) + jb))), (10, .int (nI u)), (8, .int (nI (6 * (10 * a + i) + j))), (0, .ref x)] []) : ∀ (n u : Nat), u + n = 16 → (∀ v, v < u → m_gp A B T t K m v = false) → jv_V E 15 h 0 0 Q 54 [(10, .int (nI u)), (0, .ref x), (1, .int (nI a)), (2, .int (nI b)), (3, .int (nI t)), (5, .int (nI (K / 64))), (6, .int (nI (K % 64 / 4))), (7, .int (nI (K % 4))), (8, .int (nI (6 * (10 * a + i) + j)))] [] := by
  have hsc : sc x q h h := sc.rf
  have hla := hEA.2.1; have hlb := hEB.2.1; have hil := jv_ltGet hti; have hOa := (hEA.2.2 i ta hti).2; have hTa := (hEA.2.2 i ta hti).1
  have hl6 := hOa.2.2.2.2.2.1; have hjl := jv_ltGet hmj; have hMm := rt_m hTa hmj
  intro n
  induction n with
  | zero =>
    intro u hn hv
    refine jv_iload (q := 56) G 0 dX8_moveOne_54 rfl rfl ?_
    refine jv_bipush (q := 58) (v := nI 16) G dX8_moveOne_56 (by decide) rfl ?_
    refine jv_icmp_geN (q := 61) (tgt := 234) G dX8_moveOne_58 (by decide) rfl (by omega) (by omega) (fun c1 => ?_) (fun c1 => ?_)
    · refine jv_lo [1] (lo' := [(0, .ref x)]) rfl ?_
      exact hK0 (fun v hv2 => hv v (by omega))
    · omega
  | succ n ih =>
    intro u hn hv
    have hu : u < 16 := by omega
    have next : m_gp A B T t K m u = false → jv_V E 15 h 0 0 Q 228 [(10, .int (nI u)), (0, .ref x), (1, .int (nI a)), (2, .int (nI b)), (3, .int (nI t)), (5, .int (nI (K / 64))), (6, .int (nI (K % 64 / 4))), (7, .int (nI (K % 4))), (8, .int (nI (6 * (10 * a + i) + j)))] [] := by
      intro hgp
      refine jv_iinc (q := 231) (lo' := [(10, .int (nI (u + 1))), (0, .ref x), (1, .int (nI a)), (2, .int (nI b)), (3, .int (nI t)), (5, .int (nI (K / 64))), (6, .int (nI (K % 64 / 4))), (7, .int (nI (K % 4))), (8, .int (nI (6 * (10 * a + i) + j)))]) (v := nI (u + 1)) G 0 dX8_moveOne_228 rfl (nI_1 u) (by decide) rfl rfl ?_
      refine jv_goto (q := 54) G dX8_moveOne_231 (by decide) ?_
      refine jv_lo [0, 1, 2, 3, 4, 5, 6, 7, 8] (lo' := [(10, .int (nI (u + 1))), (0, .ref x), (1, .int (nI a)), (2, .int (nI b)), (3, .int (nI t)), (5, .int (nI (K / 64))), (6, .int (nI (K % 64 / 4))), (7, .int (nI (K % 4))), (8, .int (nI (6 * (10 * a + i) + j)))]) rfl ?_
      refine ih (u + 1) (by omega) (fun v hv2 => ?_)
      by_cases e : v = u
      · subst e; exact hgp
      · exact hv v (by omega)
    refine jv_iload (q := 56) G 0 dX8_moveOne_54 rfl rfl ?_
    refine jv_bipush (q := 58) (v := nI 16) G dX8_moveOne_56 (by decide) rfl ?_
    refine jv_icmp_geN (q := 61) (tgt := 234) G dX8_moveOne_58 (by decide) rfl (by omega) (by omega) (fun c1 => ?_) (fun c1 => ?_)
    · omega
    · refine jv_aload_n (q := 62) G 1 dX8_moveOne_61 rfl rfl rfl ?_
      refine jv_iload_n (q := 63) G 2 dX8_moveOne_62 rfl rfl rfl ?_
      refine jv_iload (q := 65) G 0 dX8_moveOne_63 rfl rfl ?_
      refine jv_iload_n (q := 66) G 4 dX8_moveOne_65 rfl rfl rfl ?_
      refine jv_callV_I (q := 69) (h1 := h) (As := [.int (nI a), .int (nI u), .int (nI t)]) (rest := []) (ce' := 0) (sl' := 0) (r := jv_bI (m_isA A (nI u) (nI t))) G Z ml_X8_167 (r_isAbove hlt hsc hS (by omega) hVA) hS.1 dX8_moveOne_66 rfl (by decide) (by decide) (by decide) (by decide) (Nat.le_of_ble_eq_true rfl) rfl rfl rfl rfl ?_
      refine jv_topI (y := jv_bI (m_abv A u t)) (by rw [m_isA_nI (by omega) (by omega)]) ?_
      refine jv_if_neB (q := 72) (tgt := 105) G dX8_moveOne_69 (by decide) rfl (fun c2 => ?_) (fun c2 => ?_)
      · refine jv_iconst (q := 106) (v := nI 1) G dX8_moveOne_105 (by decide) rfl ?_
        refine jv_goto (q := 110) G dX8_moveOne_106 (by decide) ?_
        refine jv_istore (q := 112) (lo' := [(11, .int (nI 1)), (10, .int (nI u)), (0, .ref x), (1, .int (nI a)), (2, .int (nI b)), (3, .int (nI t)), (5, .int (nI (K / 64))), (6, .int (nI (K % 64 / 4))), (7, .int (nI (K % 4))), (8, .int (nI (6 * (10 * a + i) + j)))]) G dX8_moveOne_110 (by decide) rfl rfl ?_
        refine jv_lo [0, 1, 2, 3, 4, 5, 6, 7, 8, 9] (lo' := [(11, .int (nI 1)), (10, .int (nI u)), (0, .ref x), (1, .int (nI a)), (2, .int (nI b)), (3, .int (nI t)), (5, .int (nI (K / 64))), (6, .int (nI (K % 64 / 4))), (7, .int (nI (K % 4))), (8, .int (nI (6 * (10 * a + i) + j)))]) rfl ?_
        have hnr : m_near A B t u = true := by unfold m_near; simp only [*, Bool.true_or, Bool.or_true]
        exact r_mo_tail hS ha hb ht16 hK hEA hEB hVA hVB htk hti hkj hmj hlt G Z hu hnr next (fun ib tb jb ob h1 h2 h3 h4 h5 => hKs u ib tb jb ob hu hv h1 h2 h3 h4 h5)
      · refine jv_aload_n (q := 73) G 1 dX8_moveOne_72 rfl rfl rfl ?_
        refine jv_iload_n (q := 74) G 2 dX8_moveOne_73 rfl rfl rfl ?_
        refine jv_iload_n (q := 75) G 4 dX8_moveOne_74 rfl rfl rfl ?_
        refine jv_iload (q := 77) G 0 dX8_moveOne_75 rfl rfl ?_
        refine jv_callV_I (q := 80) (h1 := h) (As := [.int (nI a), .int (nI t), .int (nI u)]) (rest := []) (ce' := 0) (sl' := 0) (r := jv_bI (m_isA A (nI t) (nI u))) G Z ml_X8_167 (r_isAbove hlt hsc hS (by omega) hVA) hS.1 dX8_moveOne_77 rfl (by decide) (by decide) (by decide) (by decide) (Nat.le_of_ble_eq_true rfl) rfl rfl rfl rfl ?_
        refine jv_topI (y := jv_bI (m_abv A t u)) (by rw [m_isA_nI (by omega) (by omega)]) ?_
        refine jv_if_neB (q := 83) (tgt := 105) G dX8_moveOne_80 (by decide) rfl (fun c3 => ?_) (fun c3 => ?_)
        · refine jv_iconst (q := 106) (v := nI 1) G dX8_moveOne_105 (by decide) rfl ?_
          refine jv_goto (q := 110) G dX8_moveOne_106 (by decide) ?_
          refine jv_istore (q := 112) (lo' := [(11, .int (nI 1)), (10, .int (nI u)), (0, .ref x), (1, .int (nI a)), (2, .int (nI b)), (3, .int (nI t)), (5, .int (nI (K / 64))), (6, .int (nI (K % 64 / 4))), (7, .int (nI (K % 4))), (8, .int (nI (6 * (10 * a + i) + j)))]) G dX8_moveOne_110 (by decide) rfl rfl ?_
          refine jv_lo [0, 1, 2, 3, 4, 5, 6, 7, 8, 9] (lo' := [(11, .int (nI 1)), (10, .int (nI u)), (0, .ref x), (1, .int (nI a)), (2, .int (nI b)), (3, .int (nI t)), (5, .int (nI (K / 64))), (6, .int (nI (K % 64 / 4))), (7, .int (nI (K % 4))), (8, .int (nI (6 * (10 * a + i) + j)))]) rfl ?_
          have hnr : m_near A B t u = true := by unfold m_near; simp only [*, Bool.true_or, Bool.or_true]
          exact r_mo_tail hS ha hb ht16 hK hEA hEB hVA hVB htk hti hkj hmj hlt G Z hu hnr next (fun ib tb jb ob h1 h2 h3 h4 h5 => hKs u ib tb jb ob hu hv h1 h2 h3 h4 h5)
        · refine jv_aload_n (q := 84) G 1 dX8_moveOne_83 rfl rfl rfl ?_
          refine jv_iload_n (q := 85) G 3 dX8_moveOne_84 rfl rfl rfl ?_
          refine jv_iload (q := 87) G 0 dX8_moveOne_85 rfl rfl ?_
          refine jv_iload_n (q := 88) G 4 dX8_moveOne_87 rfl rfl rfl ?_
          refine jv_callV_I (q := 91) (h1 := h) (As := [.int (nI b), .int (nI u), .int (nI t)]) (rest := []) (ce' := 0) (sl' := 0) (r := jv_bI (m_isA B (nI u) (nI t))) G Z ml_X8_167 (r_isAbove hlt hsc hS (by omega) hVB) hS.1 dX8_moveOne_88 rfl (by decide) (by decide) (by decide) (by decide) (Nat.le_of_ble_eq_true rfl) rfl rfl rfl rfl ?_
          refine jv_topI (y := jv_bI (m_abv B u t)) (by rw [m_isA_nI (by omega) (by omega)]) ?_
          refine jv_if_neB (q := 94) (tgt := 105) G dX8_moveOne_91 (by decide) rfl (fun c4 => ?_) (fun c4 => ?_)
          · refine jv_iconst (q := 106) (v := nI 1) G dX8_moveOne_105 (by decide) rfl ?_
            refine jv_goto (q := 110) G dX8_moveOne_106 (by decide) ?_
            refine jv_istore (q := 112) (lo' := [(11, .int (nI 1)), (10, .int (nI u)), (0, .ref x), (1, .int (nI a)), (2, .int (nI b)), (3, .int (nI t)), (5, .int (nI (K / 64))), (6, .int (nI (K % 64 / 4))), (7, .int (nI (K % 4))), (8, .int (nI (6 * (10 * a + i) + j)))]) G dX8_moveOne_110 (by decide) rfl rfl ?_
            refine jv_lo [0, 1, 2, 3, 4, 5, 6, 7, 8, 9] (lo' := [(11, .int (nI 1)), (10, .int (nI u)), (0, .ref x), (1, .int (nI a)), (2, .int (nI b)), (3, .int (nI t)), (5, .int (nI (K / 64))), (6, .int (nI (K % 64 / 4))), (7, .int (nI (K % 4))), (8, .int (nI (6 * (10 * a + i) + j)))]) rfl ?_
            have hnr : m_near A B t u = true := by unfold m_near; simp only [*, Bool.true_or, Bool.or_true]
            exact r_mo_tail hS ha hb ht16 hK hEA hEB hVA hVB htk hti hkj hmj hlt G Z hu hnr next (fun ib tb jb ob h1 h2 h3 h4 h5 => hKs u ib tb jb ob hu hv h1 h2 h3 h4 h5)
          · refine jv_aload_n (q := 95) G 1 dX8_moveOne_94 rfl rfl rfl ?_
            refine jv_iload_n (q := 96) G 3 dX8_moveOne_95 rfl rfl rfl ?_
            refine jv_iload_n (q := 97) G 4 dX8_moveOne_96 rfl rfl rfl ?_
            refine jv_iload (q := 99) G 0 dX8_moveOne_97 rfl rfl ?_
            refine jv_callV_I (q := 102) (h1 := h) (As := [.int (nI b), .int (nI t), .int (nI u)]) (rest := []) (ce' := 0) (sl' := 0) (r := jv_bI (m_isA B (nI t) (nI u))) G Z ml_X8_167 (r_isAbove hlt hsc hS (by omega) hVB) hS.1 dX8_moveOne_99 rfl (by decide) (by decide) (by decide) (by decide) (Nat.le_of_ble_eq_true rfl) rfl rfl rfl rfl ?_
            refine jv_topI (y := jv_bI (m_abv B t u)) (by rw [m_isA_nI (by omega) (by omega)]) ?_
            refine jv_if_eqB (q := 105) (tgt := 109) G dX8_moveOne_102 (by decide) rfl (fun c5 => ?_) (fun c5 => ?_)
            · refine jv_iconst (q := 110) (v := nI 0) G dX8_moveOne_109 (by decide) rfl ?_
              refine jv_istore (q := 112) (lo' := [(11, .int (nI 0)), (10, .int (nI u)), (0, .ref x), (1, .int (nI a)), (2, .int (nI b)), (3, .int (nI t)), (5, .int (nI (K / 64))), (6, .int (nI (K % 64 / 4))), (7, .int (nI (K % 4))), (8, .int (nI (6 * (10 * a + i) + j)))]) G dX8_moveOne_110 (by decide) rfl rfl ?_
              have hnr : m_near A B t u = false := by unfold m_near; simp only [*, Bool.or_false]
              refine jv_aload_n (q := 113) G 2 dX8_moveOne_112 rfl rfl rfl ?_
              refine jv_iload_n (q := 114) G 4 dX8_moveOne_113 rfl rfl rfl ?_
              refine jv_iload (q := 116) G 1 dX8_moveOne_114 rfl rfl ?_
              refine jv_callV_I (q := 119) (h1 := h) (As := [.int (nI b), .int (nI u)]) (rest := []) (ce' := 0) (sl' := 0) (r := jv_oN ((m_at B (nI u)).map (fun k => 10 * b + k))) G Z ml_X8_151 (r_at hlt hS (by omega) hEB) hS.1 dX8_moveOne_116 rfl (by decide) (by decide) (by decide) (by decide) (Nat.le_of_ble_eq_true rfl) rfl rfl rfl rfl ?_
              rcases Option.eq_none_or_eq_some (m_at B (nI u)) with hk8 | ⟨k6, hk8⟩
              · refine jv_topI (y := (-1)) (by rw [hk8]; rfl) ?_
                refine jv_istore (q := 121) (lo' := [(12, .int (-1)), (11, .int (nI 0)), (10, .int (nI u)), (0, .ref x), (1, .int (nI a)), (2, .int (nI b)), (3, .int (nI t)), (5, .int (nI (K / 64))), (6, .int (nI (K % 64 / 4))), (7, .int (nI (K % 4))), (8, .int (nI (6 * (10 * a + i) + j)))]) G dX8_moveOne_119 (by decide) rfl rfl ?_
                refine jv_iload (q := 123) G 1 dX8_moveOne_121 rfl rfl ?_
                refine jv_if_eqN (q := 126) (tgt := 228) G dX8_moveOne_123 (by decide) rfl (by omega) (fun c9 => ?_) (fun c9 => ?_)
                · refine jv_lo [2, 3, 4, 5, 6, 7, 8, 9, 10] (lo' := [(10, .int (nI u)), (0, .ref x), (1, .int (nI a)), (2, .int (nI b)), (3, .int (nI t)), (5, .int (nI (K / 64))), (6, .int (nI (K % 64 / 4))), (7, .int (nI (K % 4))), (8, .int (nI (6 * (10 * a + i) + j)))]) rfl ?_
                  exact next (by unfold m_gp; rw [hnr, Bool.false_and])
                · omega
              · refine jv_topI (y := nI (10 * b + k6)) (by rw [hk8]; rfl) ?_
                obtain ⟨t7, ht7, nt7, lt7⟩ := m_at_some hk8
                have Tt7 := (hEB.2.2 k6 t7 ht7).1
                have Ot7 := (hEB.2.2 k6 t7 ht7).2
                have Lt7 := hEB.2.1
                have Bt7n := Ot7.1; have Bt7k := Ot7.2.1
                refine jv_istore (q := 121) (lo' := [(12, .int (nI (10 * b + k6))), (11, .int (nI 0)), (10, .int (nI u)), (0, .ref x), (1, .int (nI a)), (2, .int (nI b)), (3, .int (nI t)), (5, .int (nI (K / 64))), (6, .int (nI (K % 64 / 4))), (7, .int (nI (K % 4))), (8, .int (nI (6 * (10 * a + i) + j)))]) G dX8_moveOne_119 (by decide) rfl rfl ?_
                refine jv_iload (q := 123) G 1 dX8_moveOne_121 rfl rfl ?_
                refine jv_if_eqN (q := 126) (tgt := 228) G dX8_moveOne_123 (by decide) rfl (by omega) (fun c10 => ?_) (fun c10 => ?_)
                · refine jv_lo [2, 3, 4, 5, 6, 7, 8, 9, 10] (lo' := [(10, .int (nI u)), (0, .ref x), (1, .int (nI a)), (2, .int (nI b)), (3, .int (nI t)), (5, .int (nI (K / 64))), (6, .int (nI (K % 64 / 4))), (7, .int (nI (K % 4))), (8, .int (nI (6 * (10 * a + i) + j)))]) rfl ?_
                  exact next (by unfold m_gp; rw [hnr, Bool.false_and])
                · omega
            · refine jv_iconst (q := 106) (v := nI 1) G dX8_moveOne_105 (by decide) rfl ?_
              refine jv_goto (q := 110) G dX8_moveOne_106 (by decide) ?_
              refine jv_istore (q := 112) (lo' := [(11, .int (nI 1)), (10, .int (nI u)), (0, .ref x), (1, .int (nI a)), (2, .int (nI b)), (3, .int (nI t)), (5, .int (nI (K / 64))), (6, .int (nI (K % 64 / 4))), (7, .int (nI (K % 4))), (8, .int (nI (6 * (10 * a + i) + j)))]) G dX8_moveOne_110 (by decide) rfl rfl ?_
              refine jv_lo [0, 1, 2, 3, 4, 5, 6, 7, 8, 9] (lo' := [(11, .int (nI 1)), (10, .int (nI u)), (0, .ref x), (1, .int (nI a)), (2, .int (nI b)), (3, .int (nI t)), (5, .int (nI (K / 64))), (6, .int (nI (K % 64 / 4))), (7, .int (nI (K % 4))), (8, .int (nI (6 * (10 * a + i) + j)))]) rfl ?_
              have hnr : m_near A B t u = true := by unfold m_near; simp only [*, Bool.true_or, Bool.or_true]
              exact r_mo_tail hS ha hb ht16 hK hEA hEB hVA hVB htk hti hkj hmj hlt G Z hu hnr next (fun ib tb jb ob h1 h2 h3 h4 h5 => hKs u ib tb jb ob hu hv h1 h2 h3 h4 h5)
set_option maxHeartbeats 4000000 in
set_option maxRecDepth 100000 in
theorem r_moveOne {lA : Launch} (hlt : lA.stackTraces = false) {D : jv_D} {base : Nat} {x : Nat} {q : Nat → Nat} {h : jv_H} {a b t i K : Nat} {A B : List mT} {T : Nat → Bool} {ta : mT} (hS : rf_S x q h) (ha : a < 8) (hb : b < 8) (ht16 : t < 16) (hK : K < 128) (hEA : rf_E q h a A) (hEB : rf_E q h b B) (hVA : rf_V q h a A) (hVB : rf_V q h b B) (htk : rf_tk q h b B T) (hti : A[i]? = some ta) {V : Nat → Option Nat} (hwh : rf_wh q h a A V) (hat : m_at A (nI t) = some i) (huA : m_uq A) (huB : m_uq B) (hkA : ∀ (i : Nat) t, A[i]? = some t → m_uk t) (hkB : ∀ (i : Nat) t, B[i]? = some t → m_uk t) : jv_Met lA D base yX8_moveOne (.code yX8_moveOne cX8_moveOne 15 none) 3 0 0 [.ref x, .int (nI a), .int (nI b), .int (nI t), .int (nI (10 * a + i)), .int (nI (K / 64)), .int (nI (K % 64 / 4)), .int (nI (K % 4))] h (fun v h' => v = none ∧ FW (fun k _ => k = 40 ∨ k = 41) (fun _ => False) x q h h' ∧ rf_tk q h' b B (m_stp A B (T, V) t K).1 ∧ rf_wh q h' a A (m_stp A B (T, V) t K).2) jv_no := by
  refine jv_ofV (lo := [(0, .ref x), (1, .int (nI a)), (2, .int (nI b)), (3, .int (nI t)), (4, .int (nI (10 * a + i))), (5, .int (nI (K / 64))), (6, .int (nI (K % 64 / 4))), (7, .int (nI (K % 4)))]) hlt (by decide) (Nat.le_of_ble_eq_true rfl) rfl (fun E hEl hEd hEz Z G hr ht hnm => ?_)
  subst hEl; subst hEd; subst hEz
  have hsc : sc x q h h := sc.rf
  have hla := hEA.2.1; have hlb := hEB.2.1; have hil := jv_ltGet hti; have hOa := (hEA.2.2 i ta hti).2; have hTa := (hEA.2.2 i ta hti).1
  have zat : m_ty1 A t = some ta := ty1_s hat hti
  refine jv_aload_n (q := 1) G 0 dX8_moveOne_0 rfl rfl rfl ?_
  refine jv_iload (q := 3) G 4 dX8_moveOne_1 rfl rfl ?_
  refine jv_iload (q := 5) G 5 dX8_moveOne_3 rfl rfl ?_
  refine jv_iload (q := 7) G 6 dX8_moveOne_5 rfl rfl ?_
  refine jv_iload (q := 9) G 7 dX8_moveOne_7 rfl rfl ?_
  refine jv_callV_I (q := 12) (h1 := h) (As := [.int (nI (10 * a + i)), .int (nI (K / 64)), .int (nI (K % 64 / 4)), .int (nI (K % 4))]) (rest := []) (ce' := 0) (sl' := 0) (r := jv_oN ((m_own ta (nI (K / 64)) (nI (K % 64 / 4)) (nI (K % 4))).map (fun j => 6 * (10 * a + i) + j))) G Z ml_X8_155 (r_own hlt hS (by omega) hTa hOa) hS.1 dX8_moveOne_9 rfl (by decide) (by decide) (by decide) (by decide) (Nat.le_of_ble_eq_true rfl) rfl rfl rfl rfl ?_
  rcases Option.eq_none_or_eq_some (m_kj ta K) with hj3 | ⟨j1, hj3⟩
  · refine jv_topI (y := (-1)) (by rw [show m_own ta (nI (K / 64)) (nI (K % 64 / 4)) (nI (K % 4)) = none from hj3]; rfl) ?_
    refine jv_istore (q := 14) (lo' := [(8, .int (-1)), (0, .ref x), (1, .int (nI a)), (2, .int (nI b)), (3, .int (nI t)), (4, .int (nI (10 * a + i))), (5, .int (nI (K / 64))), (6, .int (nI (K % 64 / 4))), (7, .int (nI (K % 4)))]) G dX8_moveOne_12 (by decide) rfl rfl ?_
    refine jv_aload_n (q := 15) G 1 dX8_moveOne_14 rfl rfl rfl ?_
    refine jv_iload_n (q := 16) G 3 dX8_moveOne_15 rfl rfl rfl ?_
    refine jv_iload_n (q := 17) G 4 dX8_moveOne_16 rfl rfl rfl ?_
    refine jv_callV_I (q := 20) (h1 := h) (As := [.int (nI b), .int (nI t)]) (rest := []) (ce' := 0) (sl' := 0) (r := jv_oN ((m_at B (nI t)).map (fun k => 10 * b + k))) G Z ml_X8_151 (r_at hlt hS (by omega) hEB) hS.1 dX8_moveOne_17 rfl (by decide) (by decide) (by decide) (by decide) (Nat.le_of_ble_eq_true rfl) rfl rfl rfl rfl ?_
    rcases Option.eq_none_or_eq_some (m_at B (nI t)) with hk6 | ⟨k4, hk6⟩
    · refine jv_topI (y := (-1)) (by rw [hk6]; rfl) ?_
      refine jv_istore (q := 22) (lo' := [(9, .int (-1)), (8, .int (-1)), (0, .ref x), (1, .int (nI a)), (2, .int (nI b)), (3, .int (nI t)), (4, .int (nI (10 * a + i))), (5, .int (nI (K / 64))), (6, .int (nI (K % 64 / 4))), (7, .int (nI (K % 4)))]) G dX8_moveOne_20 (by decide) rfl rfl ?_
      refine jv_iload (q := 24) G 1 dX8_moveOne_22 rfl rfl ?_
      refine jv_iconst (q := 25) (v := (-1)) G dX8_moveOne_24 (by decide) rfl ?_
      refine jv_icmp_eq (q := 28) (tgt := 50) G dX8_moveOne_25 (by decide) rfl (fun c7 => ?_) (fun c7 => ?_)
      · refine jv_vret G hr dX8_moveOne_50 (Nat.le_of_ble_eq_true rfl) (Nat.le_of_ble_eq_true rfl) ?_
        have ybt : m_km (m_ty1 B t) K = none := by rw [ty1_n (by assumption)]; rfl
        have yat : m_km (m_ty1 A t) K = none := by rw [zat]; exact km_n hj3
        refine ⟨rfl, FW.rf, ?_, ?_⟩
        · rw [stp_n (s := (T, V)) (goal_0 yat)]; exact htk
        · rw [stp_n (s := (T, V)) (goal_0 yat)]; exact hwh
      · exact absurd rfl c7
    · refine jv_topI (y := nI (10 * b + k4)) (by rw [hk6]; rfl) ?_
      obtain ⟨t5, ht5, nt5, lt5⟩ := m_at_some hk6
      have Tt5 := (hEB.2.2 k4 t5 ht5).1
      have Ot5 := (hEB.2.2 k4 t5 ht5).2
      have Lt5 := hEB.2.1
      have Bt5n := Ot5.1; have Bt5k := Ot5.2.1
      refine jv_istore (q := 22) (lo' := [(9, .int (nI (10 * b + k4))), (8, .int (-1)), (0, .ref x), (1, .int (nI a)), (2, .int (nI b)), (3, .int (nI t)), (4, .int (nI (10 * a + i))), (5, .int (nI (K / 64))), (6, .int (nI (K % 64 / 4))), (7, .int (nI (K % 4)))]) G dX8_moveOne_20 (by decide) rfl rfl ?_
      refine jv_iload (q := 24) G 1 dX8_moveOne_22 rfl rfl ?_
      refine jv_iconst (q := 25) (v := (-1)) G dX8_moveOne_24 (by decide) rfl ?_
      refine jv_icmp_eq (q := 28) (tgt := 50) G dX8_moveOne_25 (by decide) rfl (fun c8 => ?_) (fun c8 => ?_)
      · refine jv_vret G hr dX8_moveOne_50 (Nat.le_of_ble_eq_true rfl) (Nat.le_of_ble_eq_true rfl) ?_
        have yat : m_km (m_ty1 A t) K = none := by rw [zat]; exact km_n hj3
        refine ⟨rfl, FW.rf, ?_, ?_⟩
        · rw [stp_n (s := (T, V)) (goal_0 yat)]; exact htk
        · rw [stp_n (s := (T, V)) (goal_0 yat)]; exact hwh
      · exact absurd rfl c8
  · refine jv_topI (y := nI (6 * (10 * a + i) + j1)) (by rw [show m_own ta (nI (K / 64)) (nI (K % 64 / 4)) (nI (K % 4)) = some j1 from hj3]; rfl) ?_
    obtain ⟨m2, hm2, km2⟩ := kj_some hOa hK hj3
    have Mm2 := rt_m hTa hm2
    have Lm2 := hOa.2.2.2.2.2.1
    have lm2 := jv_ltGet hm2
    refine jv_istore (q := 14) (lo' := [(8, .int (nI (6 * (10 * a + i) + j1))), (0, .ref x), (1, .int (nI a)), (2, .int (nI b)), (3, .int (nI t)), (4, .int (nI (10 * a + i))), (5, .int (nI (K / 64))), (6, .int (nI (K % 64 / 4))), (7, .int (nI (K % 4)))]) G dX8_moveOne_12 (by decide) rfl rfl ?_
    refine jv_aload_n (q := 15) G 1 dX8_moveOne_14 rfl rfl rfl ?_
    refine jv_iload_n (q := 16) G 3 dX8_moveOne_15 rfl rfl rfl ?_
    refine jv_iload_n (q := 17) G 4 dX8_moveOne_16 rfl rfl rfl ?_
    refine jv_callV_I (q := 20) (h1 := h) (As := [.int (nI b), .int (nI t)]) (rest := []) (ce' := 0) (sl' := 0) (r := jv_oN ((m_at B (nI t)).map (fun k => 10 * b + k))) G Z ml_X8_151 (r_at hlt hS (by omega) hEB) hS.1 dX8_moveOne_17 rfl (by decide) (by decide) (by decide) (by decide) (Nat.le_of_ble_eq_true rfl) rfl rfl rfl rfl ?_
    rcases Option.eq_none_or_eq_some (m_at B (nI t)) with hk11 | ⟨k9, hk11⟩
    · refine jv_topI (y := (-1)) (by rw [hk11]; rfl) ?_
      refine jv_istore (q := 22) (lo' := [(9, .int (-1)), (8, .int (nI (6 * (10 * a + i) + j1))), (0, .ref x), (1, .int (nI a)), (2, .int (nI b)), (3, .int (nI t)), (4, .int (nI (10 * a + i))), (5, .int (nI (K / 64))), (6, .int (nI (K % 64 / 4))), (7, .int (nI (K % 4)))]) G dX8_moveOne_20 (by decide) rfl rfl ?_
      refine jv_iload (q := 24) G 1 dX8_moveOne_22 rfl rfl ?_
      refine jv_iconst (q := 25) (v := (-1)) G dX8_moveOne_24 (by decide) rfl ?_
      refine jv_icmp_eq (q := 28) (tgt := 50) G dX8_moveOne_25 (by decide) rfl (fun c12 => ?_) (fun c12 => ?_)
      · exact absurd c12 (jv_nI_m1 (by omega))
      · refine jv_iload (q := 30) G 0 dX8_moveOne_28 rfl rfl ?_
        refine jv_iconst (q := 31) (v := (-1)) G dX8_moveOne_30 (by decide) rfl ?_
        refine jv_icmp_eq (q := 34) (tgt := 51) G dX8_moveOne_31 (by decide) rfl (fun c13 => ?_) (fun c13 => ?_)
        · refine jv_iconst (q := 52) (v := nI 0) G dX8_moveOne_51 (by decide) rfl ?_
          refine jv_istore (q := 54) (lo' := [(10, .int (nI 0)), (9, .int (-1)), (8, .int (nI (6 * (10 * a + i) + j1))), (0, .ref x), (1, .int (nI a)), (2, .int (nI b)), (3, .int (nI t)), (4, .int (nI (10 * a + i))), (5, .int (nI (K / 64))), (6, .int (nI (K % 64 / 4))), (7, .int (nI (K % 4)))]) G dX8_moveOne_52 (by decide) rfl rfl ?_
          have ybt : m_km (m_ty1 B t) K = none := by rw [ty1_n (by assumption)]; rfl
          have yat : m_km (m_ty1 A t) K = some m2 := by rw [zat]; exact km_s hj3 hm2
          refine jv_lo [0, 3, 4, 5, 6, 8, 9, 10, 2] (lo' := [(10, .int (nI 0)), (0, .ref x), (1, .int (nI a)), (2, .int (nI b)), (3, .int (nI t)), (5, .int (nI (K / 64))), (6, .int (nI (K % 64 / 4))), (7, .int (nI (K % 4))), (8, .int (nI (6 * (10 * a + i) + j1)))]) rfl ?_
          have hg := goal_2 (T := T) yat ybt
          refine r_mo_loop hS ha hb ht16 hK hEA hEB hVA hVB htk hti hj3 hm2 hlt G Z (fun hno => ?_) (fun u ib tb jb ob hu hv h1 h2 h3 h4 h5 => ?_) 16 0 (by omega) (fun v hv => by omega)
          · refine jv_vret G hr dX8_moveOne_234 (Nat.le_of_ble_eq_true rfl) (Nat.le_of_ble_eq_true rfl) ?_
            have hz := hg.trans (sf_none.mpr (fun j _ hj => hno j (by omega)))
            refine ⟨rfl, FW.rf, ?_, ?_⟩
            · rw [stp_n (s := (T, V)) hz]; exact htk
            · rw [stp_n (s := (T, V)) hz]; exact hwh
          · have hl1 := jv_ltGet h2; have hl2 := jv_ltGet h4; have hl3 := (hEB.2.2 ib tb h2).2.2.2.2.2.2.1; have hl4 := hOa.2.2.2.2.2.1; have hl5 := jv_ltGet hm2
            refine jv_aload_n (q := 211) G 3 dX8_moveOne_210 rfl rfl rfl ?_
            refine jv_getQ (q := 214) G dX8_moveOne_211 fl_X8_116 rfl hS.1 (rf_p40 hS) rfl ?_
            refine jv_iload (q := 216) G 0 dX8_moveOne_214 rfl rfl ?_
            refine jv_iconst (q := 217) (v := nI 1) G dX8_moveOne_216 (by decide) rfl ?_
            refine jv_topI (y := jv_bI true) rfl ?_
            refine jv_zast (q := 218) G dX8_moveOne_217 (rf_a40 hS) rfl (by omega) (by decide) rfl ?_
            refine jv_aload_n (q := 219) G 3 dX8_moveOne_218 rfl rfl rfl ?_
            refine jv_getQ (q := 222) G dX8_moveOne_219 fl_X8_119 rfl hS.1 (rf_p41 hS) rfl ?_
            refine jv_iload (q := 224) G 2 dX8_moveOne_222 rfl rfl ?_
            refine jv_iload (q := 226) G 1 dX8_moveOne_224 rfl rfl ?_
            refine jv_iast (q := 227) G dX8_moveOne_226 (rf_a41 hS) rfl (by omega) (by decide) rfl ?_
            refine jv_vret G hr dX8_moveOne_227 (Nat.le_of_ble_eq_true rfl) (Nat.le_of_ble_eq_true rfl) ?_
            have hz := hg.trans (sf_first hu h5 hv)
            have hF1 := FW.rf.wq (W := fun k _ => k = 40 ∨ k = 41) (X := (fun _ => False)) hS (k := 40) (j := 6 * (10 * b + ib) + jb) (by decide) rfl (Or.inl rfl) (jv_bI true)
            have hS1 := hF1.S hS
            have hF2 := hF1.wq hS (k := 41) (j := 6 * (10 * a + i) + j1) (by decide) rfl (Or.inr rfl) (nI u)
            refine ⟨rfl, hF2, ?_, ?_⟩
            · rw [stp_s (s := (T, V)) hz]
              intro i' t' j' m' hi' hj'
              have e1 := jv_ltGet hi'; have e2 := jv_ltGet hj'; have e3 := (hEB.2.2 i' t' hi').2
              have e4 := e3.2.2.2.2.2.1
              rw [qI_q hS1 (by decide) rfl (by decide) rfl, if_neg (fun e => absurd e.1 (by decide)), qI_q hS (by decide) rfl (by decide) rfl]
              have kob := kj_some (hEB.2.2 ib tb h2).2 hK h3
              obtain ⟨ob', hob, kob⟩ := kob
              cases h4.symm.trans hob
              have hnu : mt_n tb = u := by
                obtain ⟨t9, h9, n9, -⟩ := m_at_some h1
                cases h2.symm.trans h9
                exact (nI_eq (by have := (hEB.2.2 ib tb h2).2.1; omega) (by omega)).mp n9
              by_cases hc : i' = ib ∧ j' = jb
              · obtain ⟨rfl, rfl⟩ := hc
                cases h2.symm.trans hi'
                cases h4.symm.trans hj'
                rw [if_pos ⟨rfl, rfl⟩]
                show jv_bI true = jv_bI (if 128 * mt_n tb + kk ob = 128 * u + K then true else T _)
                rw [if_pos (by omega)]
              · rw [if_neg (by omega)]
                show _ = jv_bI (if 128 * mt_n t' + kk m' = 128 * u + K then true else T _)
                rw [if_neg (fun e => hc ?_)]
                · exact htk i' t' j' m' hi' hj'
                · have := kk_lt (e3.2.2.2.2.2.2 m' (List.mem_of_getElem? hj'))
                  have hi : i' = ib := huB i' ib t' tb hi' h2 (by omega)
                  subst hi
                  cases h2.symm.trans hi'
                  exact ⟨rfl, hkB i' tb h2 j' jb m' ob hj' h4 (by omega)⟩
            · rw [stp_s (s := (T, V)) hz]
              intro i' t' j' m' hi' hj'
              have e1 := jv_ltGet hi'; have e2 := jv_ltGet hj'; have e3 := (hEA.2.2 i' t' hi').2
              have e4 := e3.2.2.2.2.2.1
              have hnt : mt_n ta = t := by
                obtain ⟨t9, h9, n9, -⟩ := m_at_some hat
                cases hti.symm.trans h9
                exact (nI_eq (by have := hOa.1; omega) (by omega)).mp n9
              rw [qI_q hS1 (by decide) rfl (by decide) rfl]
              by_cases hc : i' = i ∧ j' = j1
              · obtain ⟨rfl, rfl⟩ := hc
                cases hti.symm.trans hi'
                cases hm2.symm.trans hj'
                rw [if_pos ⟨rfl, rfl⟩]
                show nI u = jv_oN (if 128 * mt_n ta + kk m2 = 128 * t + K then some u else V _)
                rw [if_pos (by omega)]; rfl
              · rw [if_neg (by omega), qI_q hS (by decide) rfl (by decide) rfl, if_neg (fun e => absurd e.1 (by decide))]
                show _ = jv_oN (if 128 * mt_n t' + kk m' = 128 * t + K then some u else V _)
                rw [if_neg (fun e => hc ?_)]
                · exact hwh i' t' j' m' hi' hj'
                · have := kk_lt (e3.2.2.2.2.2.2 m' (List.mem_of_getElem? hj'))
                  have hi : i' = i := huA i' i t' ta hi' hti (by omega)
                  subst hi
                  cases hti.symm.trans hi'
                  exact ⟨rfl, hkA i' ta hti j' j1 m' m2 hj' hm2 (by omega)⟩
        · exact absurd rfl c13
    · refine jv_topI (y := nI (10 * b + k9)) (by rw [hk11]; rfl) ?_
      obtain ⟨t10, ht10, nt10, lt10⟩ := m_at_some hk11
      have Tt10 := (hEB.2.2 k9 t10 ht10).1
      have Ot10 := (hEB.2.2 k9 t10 ht10).2
      have Lt10 := hEB.2.1
      have Bt10n := Ot10.1; have Bt10k := Ot10.2.1
      refine jv_istore (q := 22) (lo' := [(9, .int (nI (10 * b + k9))), (8, .int (nI (6 * (10 * a + i) + j1))), (0, .ref x), (1, .int (nI a)), (2, .int (nI b)), (3, .int (nI t)), (4, .int (nI (10 * a + i))), (5, .int (nI (K / 64))), (6, .int (nI (K % 64 / 4))), (7, .int (nI (K % 4)))]) G dX8_moveOne_20 (by decide) rfl rfl ?_
      refine jv_iload (q := 24) G 1 dX8_moveOne_22 rfl rfl ?_
      refine jv_iconst (q := 25) (v := (-1)) G dX8_moveOne_24 (by decide) rfl ?_
      refine jv_icmp_eq (q := 28) (tgt := 50) G dX8_moveOne_25 (by decide) rfl (fun c14 => ?_) (fun c14 => ?_)
      · exact absurd c14 (jv_nI_m1 (by omega))
      · refine jv_iload (q := 30) G 0 dX8_moveOne_28 rfl rfl ?_
        refine jv_iconst (q := 31) (v := (-1)) G dX8_moveOne_30 (by decide) rfl ?_
        refine jv_icmp_eq (q := 34) (tgt := 51) G dX8_moveOne_31 (by decide) rfl (fun c15 => ?_) (fun c15 => ?_)
        · exact absurd c15 (jv_nI_m1 (by omega))
        · refine jv_aload_n (q := 35) G 2 dX8_moveOne_34 rfl rfl rfl ?_
          refine jv_iload (q := 37) G 0 dX8_moveOne_35 rfl rfl ?_
          refine jv_iload (q := 39) G 7 dX8_moveOne_37 rfl rfl ?_
          refine jv_iload (q := 41) G 8 dX8_moveOne_39 rfl rfl ?_
          refine jv_iload (q := 43) G 9 dX8_moveOne_41 rfl rfl ?_
          refine jv_callV_I (q := 46) (h1 := h) (As := [.int (nI (10 * b + k9)), .int (nI (K / 64)), .int (nI (K % 64 / 4)), .int (nI (K % 4))]) (rest := []) (ce' := 0) (sl' := 0) (r := jv_oN ((m_own t10 (nI (K / 64)) (nI (K % 64 / 4)) (nI (K % 4))).map (fun j => 6 * (10 * b + k9) + j))) G Z ml_X8_155 (r_own hlt hS (by omega) Tt10 Ot10) hS.1 dX8_moveOne_43 rfl (by decide) (by decide) (by decide) (by decide) (Nat.le_of_ble_eq_true rfl) rfl rfl rfl rfl ?_
          rcases Option.eq_none_or_eq_some (m_kj t10 K) with hj18 | ⟨j16, hj18⟩
          · refine jv_topI (y := (-1)) (by rw [show m_own t10 (nI (K / 64)) (nI (K % 64 / 4)) (nI (K % 4)) = none from hj18]; rfl) ?_
            refine jv_iconst (q := 47) (v := (-1)) G dX8_moveOne_46 (by decide) rfl ?_
            refine jv_icmp_eq (q := 50) (tgt := 51) G dX8_moveOne_47 (by decide) rfl (fun c19 => ?_) (fun c19 => ?_)
            · refine jv_iconst (q := 52) (v := nI 0) G dX8_moveOne_51 (by decide) rfl ?_
              refine jv_istore (q := 54) (lo' := [(10, .int (nI 0)), (9, .int (nI (10 * b + k9))), (8, .int (nI (6 * (10 * a + i) + j1))), (0, .ref x), (1, .int (nI a)), (2, .int (nI b)), (3, .int (nI t)), (4, .int (nI (10 * a + i))), (5, .int (nI (K / 64))), (6, .int (nI (K % 64 / 4))), (7, .int (nI (K % 4)))]) G dX8_moveOne_52 (by decide) rfl rfl ?_
              have ybt : m_km (m_ty1 B t) K = none := by rw [ty1_s (by assumption) ht10]; exact km_n hj18
              have yat : m_km (m_ty1 A t) K = some m2 := by rw [zat]; exact km_s hj3 hm2
              refine jv_lo [0, 3, 4, 5, 6, 8, 9, 10, 2] (lo' := [(10, .int (nI 0)), (0, .ref x), (1, .int (nI a)), (2, .int (nI b)), (3, .int (nI t)), (5, .int (nI (K / 64))), (6, .int (nI (K % 64 / 4))), (7, .int (nI (K % 4))), (8, .int (nI (6 * (10 * a + i) + j1)))]) rfl ?_
              have hg := goal_2 (T := T) yat ybt
              refine r_mo_loop hS ha hb ht16 hK hEA hEB hVA hVB htk hti hj3 hm2 hlt G Z (fun hno => ?_) (fun u ib tb jb ob hu hv h1 h2 h3 h4 h5 => ?_) 16 0 (by omega) (fun v hv => by omega)
              · refine jv_vret G hr dX8_moveOne_234 (Nat.le_of_ble_eq_true rfl) (Nat.le_of_ble_eq_true rfl) ?_
                have hz := hg.trans (sf_none.mpr (fun j _ hj => hno j (by omega)))
                refine ⟨rfl, FW.rf, ?_, ?_⟩
                · rw [stp_n (s := (T, V)) hz]; exact htk
                · rw [stp_n (s := (T, V)) hz]; exact hwh
              · have hl1 := jv_ltGet h2; have hl2 := jv_ltGet h4; have hl3 := (hEB.2.2 ib tb h2).2.2.2.2.2.2.1; have hl4 := hOa.2.2.2.2.2.1; have hl5 := jv_ltGet hm2
                refine jv_aload_n (q := 211) G 3 dX8_moveOne_210 rfl rfl rfl ?_
                refine jv_getQ (q := 214) G dX8_moveOne_211 fl_X8_116 rfl hS.1 (rf_p40 hS) rfl ?_
                refine jv_iload (q := 216) G 0 dX8_moveOne_214 rfl rfl ?_
                refine jv_iconst (q := 217) (v := nI 1) G dX8_moveOne_216 (by decide) rfl ?_
                refine jv_topI (y := jv_bI true) rfl ?_
                refine jv_zast (q := 218) G dX8_moveOne_217 (rf_a40 hS) rfl (by omega) (by decide) rfl ?_
                refine jv_aload_n (q := 219) G 3 dX8_moveOne_218 rfl rfl rfl ?_
                refine jv_getQ (q := 222) G dX8_moveOne_219 fl_X8_119 rfl hS.1 (rf_p41 hS) rfl ?_
                refine jv_iload (q := 224) G 2 dX8_moveOne_222 rfl rfl ?_
                refine jv_iload (q := 226) G 1 dX8_moveOne_224 rfl rfl ?_
                refine jv_iast (q := 227) G dX8_moveOne_226 (rf_a41 hS) rfl (by omega) (by decide) rfl ?_
                refine jv_vret G hr dX8_moveOne_227 (Nat.le_of_ble_eq_true rfl) (Nat.le_of_ble_eq_true rfl) ?_
                have hz := hg.trans (sf_first hu h5 hv)
                have hF1 := FW.rf.wq (W := fun k _ => k = 40 ∨ k = 41) (X := (fun _ => False)) hS (k := 40) (j := 6 * (10 * b + ib) + jb) (by decide) rfl (Or.inl rfl) (jv_bI true)
                have hS1 := hF1.S hS
                have hF2 := hF1.wq hS (k := 41) (j := 6 * (10 * a + i) + j1) (by decide) rfl (Or.inr rfl) (nI u)
                refine ⟨rfl, hF2, ?_, ?_⟩
                · rw [stp_s (s := (T, V)) hz]
                  intro i' t' j' m' hi' hj'
                  have e1 := jv_ltGet hi'; have e2 := jv_ltGet hj'; have e3 := (hEB.2.2 i' t' hi').2
                  have e4 := e3.2.2.2.2.2.1
                  rw [qI_q hS1 (by decide) rfl (by decide) rfl, if_neg (fun e => absurd e.1 (by decide)), qI_q hS (by decide) rfl (by decide) rfl]
                  have kob := kj_some (hEB.2.2 ib tb h2).2 hK h3
                  obtain ⟨ob', hob, kob⟩ := kob
                  cases h4.symm.trans hob
                  have hnu : mt_n tb = u := by
                    obtain ⟨t9, h9, n9, -⟩ := m_at_some h1
                    cases h2.symm.trans h9
                    exact (nI_eq (by have := (hEB.2.2 ib tb h2).2.1; omega) (by omega)).mp n9
                  by_cases hc : i' = ib ∧ j' = jb
                  · obtain ⟨rfl, rfl⟩ := hc
                    cases h2.symm.trans hi'
                    cases h4.symm.trans hj'
                    rw [if_pos ⟨rfl, rfl⟩]
                    show jv_bI true = jv_bI (if 128 * mt_n tb + kk ob = 128 * u + K then true else T _)
                    rw [if_pos (by omega)]
                  · rw [if_neg (by omega)]
                    show _ = jv_bI (if 128 * mt_n t' + kk m' = 128 * u + K then true else T _)
                    rw [if_neg (fun e => hc ?_)]
                    · exact htk i' t' j' m' hi' hj'
                    · have := kk_lt (e3.2.2.2.2.2.2 m' (List.mem_of_getElem? hj'))
                      have hi : i' = ib := huB i' ib t' tb hi' h2 (by omega)
                      subst hi
                      cases h2.symm.trans hi'
                      exact ⟨rfl, hkB i' tb h2 j' jb m' ob hj' h4 (by omega)⟩
                · rw [stp_s (s := (T, V)) hz]
                  intro i' t' j' m' hi' hj'
                  have e1 := jv_ltGet hi'; have e2 := jv_ltGet hj'; have e3 := (hEA.2.2 i' t' hi').2
                  have e4 := e3.2.2.2.2.2.1
                  have hnt : mt_n ta = t := by
                    obtain ⟨t9, h9, n9, -⟩ := m_at_some hat
                    cases hti.symm.trans h9
                    exact (nI_eq (by have := hOa.1; omega) (by omega)).mp n9
                  rw [qI_q hS1 (by decide) rfl (by decide) rfl]
                  by_cases hc : i' = i ∧ j' = j1
                  · obtain ⟨rfl, rfl⟩ := hc
                    cases hti.symm.trans hi'
                    cases hm2.symm.trans hj'
                    rw [if_pos ⟨rfl, rfl⟩]
                    show nI u = jv_oN (if 128 * mt_n ta + kk m2 = 128 * t + K then some u else V _)
                    rw [if_pos (by omega)]; rfl
                  · rw [if_neg (by omega), qI_q hS (by decide) rfl (by decide) rfl, if_neg (fun e => absurd e.1 (by decide))]
                    show _ = jv_oN (if 128 * mt_n t' + kk m' = 128 * t + K then some u else V _)
                    rw [if_neg (fun e => hc ?_)]
                    · exact hwh i' t' j' m' hi' hj'
                    · have := kk_lt (e3.2.2.2.2.2.2 m' (List.mem_of_getElem? hj'))
                      have hi : i' = i := huA i' i t' ta hi' hti (by omega)
                      subst hi
                      cases hti.symm.trans hi'
                      exact ⟨rfl, hkA i' ta hti j' j1 m' m2 hj' hm2 (by omega)⟩
            · exact absurd rfl c19
          · refine jv_topI (y := nI (6 * (10 * b + k9) + j16)) (by rw [show m_own t10 (nI (K / 64)) (nI (K % 64 / 4)) (nI (K % 4)) = some j16 from hj18]; rfl) ?_
            obtain ⟨m17, hm17, km17⟩ := kj_some Ot10 hK hj18
            have Mm17 := rt_m Tt10 hm17
            have Lm17 := Ot10.2.2.2.2.2.1
            have lm17 := jv_ltGet hm17
            refine jv_iconst (q := 47) (v := (-1)) G dX8_moveOne_46 (by decide) rfl ?_
            refine jv_icmp_eq (q := 50) (tgt := 51) G dX8_moveOne_47 (by decide) rfl (fun c20 => ?_) (fun c20 => ?_)
            · exact absurd c20 (jv_nI_m1 (by omega))
            · refine jv_vret G hr dX8_moveOne_50 (Nat.le_of_ble_eq_true rfl) (Nat.le_of_ble_eq_true rfl) ?_
              have ybt : m_km (m_ty1 B t) K = some m17 := by rw [ty1_s (by assumption) ht10]; exact km_s hj18 hm17
              have yat : m_km (m_ty1 A t) K = some m2 := by rw [zat]; exact km_s hj3 hm2
              refine ⟨rfl, FW.rf, ?_, ?_⟩
              · rw [stp_n (s := (T, V)) (goal_1 yat ybt)]; exact htk
              · rw [stp_n (s := (T, V)) (goal_1 yat ybt)]; exact hwh
