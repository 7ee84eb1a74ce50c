def m_count (M : mA) (w : Int32) : Int32 := if w = 0 then nI M.1.length else if w = nI 1 then nI M.2.length else -1
def m_uses (M : mA) (c : Int32) : Nat × Nat := match m_ix1 M.2.length c with
  | none => (1, 0)
  | some k => (0, ((M.2[k]?).map (fun C => (mc_l C).length)).getD 0)
set_option maxHeartbeats 4000000 in
set_option maxRecDepth 100000 in
theorem r_count {lA : Launch} (hlt : lA.stackTraces = false) {D : jv_D} {base : Nat} {x : Nat} {q : Nat → Nat} {h : jv_H} {M : mA} {w : Int32} (hR : rf_R x q h M) : jv_Met lA D base yX8_count (.code yX8_count cX8_count 2 (some .int)) 1 0 0 [.ref x, .int w] h (fun v h' => v = some (.int (m_count M w)) ∧ jv_I h' x 0 = nI (0) ∧ rs x q h h') jv_no := by
  refine jv_ofV (lo := [(0, .ref x), (1, .int w)]) hlt (by decide) (Nat.le_of_ble_eq_true rfl) rfl (fun E hEl hEd hEz Z G hr ht hnm => ?_)
  subst hEl; subst hEd; subst hEz
  obtain ⟨hS, ⟨hn8, hn⟩, ⟨hm12, hm⟩, hD, hV, hCs⟩ := id hR
  have hrs : rs x q h h := rs.rf
  refine jv_aload_n (q := 1) G 0 dX8_count_0 rfl rfl rfl ?_
  refine jv_iconst (q := 2) (v := nI 0) G dX8_count_1 (by decide) rfl ?_
  refine jv_putI (q := 5) G dX8_count_2 fl_X8_122 rfl hS.1 rfl ?_
  have hr1 : rs x q h (jv_wI h x 0 (nI 0)) := rs.rf.wI (nI 0) (Or.inl ⟨rfl, Or.inl rfl⟩)
  have hth : jv_I (jv_wI h x 0 (nI 0)) x 0 = (nI 0) := jv_I_self _ _ _ _
  have hR := hr1.R hR
  have hrs := hrs.tr hr1
  generalize jv_wI h x 0 (nI 0) = h1 at hth hR hrs ⊢
  obtain ⟨hS, ⟨hn8, hn⟩, ⟨hm12, hm⟩, hD, hV, hCs⟩ := id hR
  refine jv_iload_n (q := 6) G 1 dX8_count_5 rfl rfl rfl ?_
  refine jv_if_ne (q := 9) (tgt := 16) G dX8_count_6 (by decide) rfl (fun c2 => ?_) (fun c2 => ?_)
  · refine jv_iload_n (q := 17) G 1 dX8_count_16 rfl rfl rfl ?_
    refine jv_iconst (q := 18) (v := nI 1) G dX8_count_17 (by decide) rfl ?_
    refine jv_icmp_ne (q := 21) (tgt := 28) G dX8_count_18 (by decide) rfl (fun c3 => ?_) (fun c3 => ?_)
    · refine jv_iconst (q := 29) (v := (-1)) G dX8_count_28 (by decide) rfl ?_
      refine jv_iret G hr dX8_count_29 (Nat.le_of_ble_eq_true rfl) (Nat.le_of_ble_eq_true rfl) ?_
      refine ⟨?_, hth, hrs⟩
      unfold m_count; first | (simp only [*, if_true, if_false, reduceIte]; done) | (simp_all; done) | (simp only [*, if_true, if_false, reduceIte] <;> rfl)
    · refine jv_aload_n (q := 22) G 0 dX8_count_21 rfl rfl rfl ?_
      refine jv_getI (q := 25) G dX8_count_22 fl_X8_129 rfl hS.1 hm rfl ?_
      refine jv_goto (q := 29) G dX8_count_25 (by decide) ?_
      refine jv_iret G hr dX8_count_29 (Nat.le_of_ble_eq_true rfl) (Nat.le_of_ble_eq_true rfl) ?_
      refine ⟨?_, hth, hrs⟩
      unfold m_count; first | (simp only [*, if_true, if_false, reduceIte]; done) | (simp_all; done) | (simp only [*, if_true, if_false, reduceIte] <;> rfl)
  · refine jv_aload_n (q := 10) G 0 dX8_count_9 rfl rfl rfl ?_
    refine jv_getI (q := 13) G dX8_count_10 fl_X8_126 rfl hS.1 hn rfl ?_
    refine jv_goto (q := 29) G dX8_count_13 (by decide) ?_
    refine jv_iret G hr dX8_count_29 (Nat.le_of_ble_eq_true rfl) (Nat.le_of_ble_eq_true rfl) ?_
    refine ⟨?_, hth, hrs⟩
    unfold m_count; first | (simp only [*, if_true, if_false, reduceIte]; done) | (simp_all; done) | (simp only [*, if_true, if_false, reduceIte] <;> rfl)
set_option maxHeartbeats 4000000 in
set_option maxRecDepth 100000 in
theorem r_uses {lA : Launch} (hlt : lA.stackTraces = false) {D : jv_D} {base : Nat} {x : Nat} {q : Nat → Nat} {h : jv_H} {M : mA} {c : Int32} (hR : rf_R x q h M) : jv_Met lA D base yX8_uses (.code yX8_uses cX8_uses 2 (some .int)) 2 0 0 [.ref x, .int c] h (fun v h' => v = some (.int (nI (m_uses M c).2)) ∧ jv_I h' x 0 = nI ((m_uses M c).1) ∧ rs x q h h') jv_no := by
  refine jv_ofV (lo := [(0, .ref x), (1, .int c)]) hlt (by decide) (Nat.le_of_ble_eq_true rfl) rfl (fun E hEl hEd hEz Z G hr ht hnm => ?_)
  subst hEl; subst hEd; subst hEz
  obtain ⟨hS, ⟨hn8, hn⟩, ⟨hm12, hm⟩, hD, hV, hCs⟩ := id hR
  have hrs : rs x q h h := rs.rf
  refine jv_aload_n (q := 1) G 0 dX8_uses_0 rfl rfl rfl ?_
  refine jv_aload_n (q := 2) G 0 dX8_uses_1 rfl rfl rfl ?_
  refine jv_iload_n (q := 3) G 1 dX8_uses_2 rfl rfl rfl ?_
  refine jv_callV_I (q := 6) (h1 := h) (As := [.int c]) (rest := [.ref x]) (ce' := 0) (sl' := 0) (r := jv_bI (rr_lt c M.2.length)) G Z ml_X8_205 (r_isCaller hlt hS hm) hS.1 dX8_uses_3 rfl (by decide) (by decide) (by decide) (by decide) (Nat.le_of_ble_eq_true rfl) rfl rfl rfl rfl ?_
  refine jv_if_neB (q := 9) (tgt := 13) G dX8_uses_6 (by decide) rfl (fun c1 => ?_) (fun c1 => ?_)
  · obtain ⟨k_c, hk_c, ek_c, zc⟩ := rr_lt_t (by omega) c1
    subst ek_c
    obtain ⟨C, hC⟩ := jv_getLt (l := M.2) (k := k_c) (by omega)
    obtain ⟨hC1, hok⟩ := hCs k_c C hC
    have hl20 := hok.2.2.2.2.1
    refine jv_iconst (q := 14) (v := nI 0) G dX8_uses_13 (by decide) rfl ?_
    refine jv_putI (q := 17) G dX8_uses_14 fl_X8_122 rfl hS.1 rfl ?_
    have hr1 : rs x q h (jv_wI h x 0 (nI 0)) := rs.rf.wI (nI 0) (Or.inl ⟨rfl, Or.inl rfl⟩)
    have hth : jv_I (jv_wI h x 0 (nI 0)) x 0 = (nI 0) := jv_I_self _ _ _ _
    have hR := hr1.R hR
    have hrs := hrs.tr hr1
    generalize jv_wI h x 0 (nI 0) = h2 at hth hR hrs ⊢
    obtain ⟨hS, ⟨hn8, hn⟩, ⟨hm12, hm⟩, hD, hV, hCs⟩ := id hR
    obtain ⟨hC1, hok⟩ := hCs k_c C hC
    refine jv_aload_n (q := 18) G 0 dX8_uses_17 rfl rfl rfl ?_
    refine jv_getI (q := 21) G dX8_uses_18 fl_X8_122 rfl hS.1 hth rfl ?_
    refine jv_if_leN (q := 24) (tgt := 28) G dX8_uses_21 (by decide) rfl (by omega) (fun c3 => ?_) (fun c3 => ?_)
    · refine jv_aload_n (q := 29) G 0 dX8_uses_28 rfl rfl rfl ?_
      refine jv_getQ (q := 32) G dX8_uses_29 fl_X8_77 rfl hS.1 (rf_p25 hS) rfl ?_
      refine jv_iload_n (q := 33) G 1 dX8_uses_32 rfl rfl rfl ?_
      refine jv_iald (q := 34) G dX8_uses_33 (rf_a25 hS) rfl (by omega) (by decide) hC1.2.2.2.1 rfl ?_
      refine jv_iret G hr dX8_uses_34 (Nat.le_of_ble_eq_true rfl) (Nat.le_of_ble_eq_true rfl) ?_
      refine ⟨?_, ?_, hrs⟩
      · unfold m_uses; simp only [*, if_true, if_false, Bool.false_eq_true, reduceIte] <;> rfl
      · rw [hth]; unfold m_uses; simp only [*, if_true, if_false, Bool.false_eq_true, reduceIte] <;> rfl
    · omega
  · have zc := rr_lt_f c1
    refine jv_iconst (q := 10) (v := nI 1) G dX8_uses_9 (by decide) rfl ?_
    refine jv_goto (q := 14) G dX8_uses_10 (by decide) ?_
    refine jv_putI (q := 17) G dX8_uses_14 fl_X8_122 rfl hS.1 rfl ?_
    have hr1 : rs x q h (jv_wI h x 0 (nI 1)) := rs.rf.wI (nI 1) (Or.inl ⟨rfl, Or.inl rfl⟩)
    have hth : jv_I (jv_wI h x 0 (nI 1)) x 0 = (nI 1) := jv_I_self _ _ _ _
    have hR := hr1.R hR
    have hrs := hrs.tr hr1
    generalize jv_wI h x 0 (nI 1) = h4 at hth hR hrs ⊢
    obtain ⟨hS, ⟨hn8, hn⟩, ⟨hm12, hm⟩, hD, hV, hCs⟩ := id hR
    refine jv_aload_n (q := 18) G 0 dX8_uses_17 rfl rfl rfl ?_
    refine jv_getI (q := 21) G dX8_uses_18 fl_X8_122 rfl hS.1 hth rfl ?_
    refine jv_if_leN (q := 24) (tgt := 28) G dX8_uses_21 (by decide) rfl (by omega) (fun c5 => ?_) (fun c5 => ?_)
    · omega
    · refine jv_iconst (q := 25) (v := nI 0) G dX8_uses_24 (by decide) rfl ?_
      refine jv_goto (q := 34) G dX8_uses_25 (by decide) ?_
      refine jv_iret G hr dX8_uses_34 (Nat.le_of_ble_eq_true rfl) (Nat.le_of_ble_eq_true rfl) ?_
      refine ⟨?_, ?_, hrs⟩
      · unfold m_uses; simp only [*, if_true, if_false, Bool.false_eq_true, reduceIte] <;> rfl
      · rw [hth]; unfold m_uses; simp only [*, if_true, if_false, Bool.false_eq_true, reduceIte] <;> rfl
