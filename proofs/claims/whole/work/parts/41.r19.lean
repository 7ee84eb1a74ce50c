theorem w_C3 {e k j : Nat} (h : ∃ i, i < 10 ∧ o_T (10 * e + i) k j) : k ≠ 2 ∧ k ≠ 3 ∧ o_E e k j := by
  obtain ⟨i, hi, o⟩ := h
  unfold o_T k_t k_m at o
  unfold o_E k_t k_m
  omega
theorem w_CT {i i' k j : Nat} (o : o_T i k j) (o' : o_T i' k j) : i = i' := by
  unfold o_T k_t k_m at o o'
  omega
set_option maxHeartbeats 4000000 in
set_option maxRecDepth 100000 in
theorem r_cp_loop {E : jv_E} {x : Nat} {q : Nat → Nat} {h : jv_H} {f e : Nat} {ts : List mT} {Q : State → Prop} (hlt : (jv_l E).stackTraces = false) (G : jv_C E cX8_copy RX8 4) (Z : jv_rm E = jv_room 3 0 0) (hS0 : rf_S x q h) (hf : f < 8) (he : e < 8) (hfe : f ≠ e) (hE : rf_E q h f ts) (hK : ∀ h2, FW (fun k j => ∃ i, i < 10 ∧ o_T (10 * e + i) k j) (fun _ => False) x q h h2 → (∀ i t, ts[i]? = some t → rf_T q h2 (10 * e + i) t) → jv_V E 4 h2 0 0 Q 113 [(2, .int (nI e))] []) : ∀ (m k : Nat) (h1 : jv_H), k + m = ts.length → FW (fun k j => ∃ i, i < 10 ∧ o_T (10 * e + i) k j) (fun _ => False) x q h h1 → (∀ i t, i < k → ts[i]? = some t → rf_T q h1 (10 * e + i) t) → jv_V E 4 h1 0 0 Q 81 [(3, .int (nI k)), (0, .ref x), (1, .int (nI f)), (2, .int (nI e))] [] := by
  have hl := hE.2.1
  intro m
  induction m with
  | zero =>
    intro k h1 hk hF hj
    have hS := hF.S hS0
    have h3 : jv_I h1 (q 3) f = nI ts.length := (hF.aq 3 f (fun z => (w_C3 z).2.1 rfl)).trans hE.1
    refine jv_iload_n (q := 82) G 0 dX8_copy_81 rfl rfl rfl ?_
    refine jv_aload_n (q := 83) G 1 dX8_copy_82 rfl rfl rfl ?_
    refine jv_getQ (q := 86) G dX8_copy_83 fl_X8_13 rfl hS.1 (rf_p3 hS) rfl ?_
    refine jv_iload_n (q := 87) G 2 dX8_copy_86 rfl rfl rfl ?_
    refine jv_iald (q := 88) G dX8_copy_87 (rf_a3 hS) rfl (by omega) (by decide) h3 rfl ?_
    refine jv_icmp_geN (q := 91) (tgt := 113) G dX8_copy_88 (by decide) rfl (by omega) (by omega) (fun c1 => ?_) (fun c1 => ?_)
    · refine jv_lo [3] (lo' := [(2, .int (nI e))]) rfl ?_
      exact hK _ hF (fun i t ht => hj i t (by have := jv_ltGet ht; omega) ht)
    · omega
  | succ m ih =>
    intro k h1 hk hF hj
    have hS := hF.S hS0
    have h3 : jv_I h1 (q 3) f = nI ts.length := (hF.aq 3 f (fun z => (w_C3 z).2.1 rfl)).trans hE.1
    refine jv_iload_n (q := 82) G 0 dX8_copy_81 rfl rfl rfl ?_
    refine jv_aload_n (q := 83) G 1 dX8_copy_82 rfl rfl rfl ?_
    refine jv_getQ (q := 86) G dX8_copy_83 fl_X8_13 rfl hS.1 (rf_p3 hS) rfl ?_
    refine jv_iload_n (q := 87) G 2 dX8_copy_86 rfl rfl rfl ?_
    refine jv_iald (q := 88) G dX8_copy_87 (rf_a3 hS) rfl (by omega) (by decide) h3 rfl ?_
    refine jv_icmp_geN (q := 91) (tgt := 113) G dX8_copy_88 (by decide) rfl (by omega) (by omega) (fun c1 => ?_) (fun c1 => ?_)
    · omega
    · refine jv_aload_n (q := 92) G 1 dX8_copy_91 rfl rfl rfl ?_
      refine jv_bipush (q := 94) (v := nI 10) G dX8_copy_92 (by decide) rfl ?_
      refine jv_iload_n (q := 95) G 2 dX8_copy_94 rfl rfl rfl ?_
      refine jv_imulN (q := 96) G dX8_copy_95 rfl ?_
      refine jv_iload_n (q := 97) G 0 dX8_copy_96 rfl rfl rfl ?_
      refine jv_iaddN (q := 98) G dX8_copy_97 rfl ?_
      refine jv_bipush (q := 100) (v := nI 10) G dX8_copy_98 (by decide) rfl ?_
      refine jv_iload_n (q := 101) G 3 dX8_copy_100 rfl rfl rfl ?_
      refine jv_imulN (q := 102) G dX8_copy_101 rfl ?_
      refine jv_iload_n (q := 103) G 0 dX8_copy_102 rfl rfl rfl ?_
      refine jv_iaddN (q := 104) G dX8_copy_103 rfl ?_
      refine jv_callV (q := 107) (As := [.int (nI ((10 * f) + k)), .int (nI ((10 * e) + k))]) (rest := []) G Z ml_X8_136 (r_moveType hlt hS (by omega) (by omega) (by omega)) hS.1 dX8_copy_104 rfl (by decide) (by decide) (by decide) (by decide) (Nat.le_of_ble_eq_true rfl) rfl rfl (fun v3 h2 y4 => ?_) (fun _ _ hx => hx.elim)
      obtain ⟨rfl, hFm, hMm⟩ := y4
      show jv_V E 4 h2 0 0 Q 107 [(3, .int (nI k)), (0, .ref x), (1, .int (nI f)), (2, .int (nI e))] []
      refine jv_iinc (q := 110) (lo' := [(3, .int (nI (k + 1))), (0, .ref x), (1, .int (nI f)), (2, .int (nI e))]) (v := nI (k + 1)) G 0 dX8_copy_107 rfl (nI_1 k) (by decide) rfl rfl ?_
      refine jv_goto (q := 81) G dX8_copy_110 (by decide) ?_
      refine jv_lo [0, 1, 2, 3] (lo' := [(3, .int (nI (k + 1))), (0, .ref x), (1, .int (nI f)), (2, .int (nI e))]) rfl ?_
      have hF2 := hF.tr (hFm.mono (W' := (fun k j => ∃ i, i < 10 ∧ o_T (10 * e + i) k j)) (X' := (fun _ => False)) (fun k' j o => ⟨k, by omega, o⟩) (fun _ z => z))
      refine ih (k + 1) _ (by omega) hF2 (fun i t hi ht => ?_)
      by_cases hik : i = k
      · subst hik
        refine hMm t (hE.2.2 i t ht).2 (hF.T (hE.2.2 i t ht).2 (fun k' j o z => ?_) (hE.2.2 i t ht).1)
        obtain ⟨i', hi', o'⟩ := z
        have := w_CT o o'
        omega
      · refine hFm.T (hE.2.2 i t ht).2 (fun k' j o z => ?_) (hj i t (by omega) ht)
        have := w_CT o z
        omega
set_option maxHeartbeats 4000000 in
set_option maxRecDepth 100000 in
theorem r_copy {lA : Launch} (hlt : lA.stackTraces = false) {D : jv_D} {base : Nat} {x : Nat} {q : Nat → Nat} {h : jv_H} {M : mA} {e : Int32} (hR : rf_R x q h M) : jv_Met lA D base yX8_copy (.code yX8_copy cX8_copy 4 (some .int)) 3 0 0 [.ref x, .int e] h (pO x q h (m_cy M e)) jv_no := by
  refine jv_ofV (lo := [(0, .ref x), (1, .int e)]) hlt (by decide) (Nat.le_of_ble_eq_true rfl) rfl (fun E hEl hEd hEz Z G hr ht hnm => ?_)
  subst hEl; subst hEd; subst hEz
  obtain ⟨hS, ⟨hn8, hn⟩, ⟨hm12, hm⟩, hD, hV, hCs⟩ := id hR
  have hS0 := hS
  have hrs : rs x q h h := rs.rf
  refine jv_aload_n (q := 1) G 0 dX8_copy_0 rfl rfl rfl ?_
  refine jv_aload_n (q := 2) G 0 dX8_copy_1 rfl rfl rfl ?_
  refine jv_iload_n (q := 3) G 1 dX8_copy_2 rfl rfl rfl ?_
  refine jv_callV_I (q := 6) (h1 := h) (As := [.int e]) (rest := [.ref x]) (ce' := 0) (sl' := 0) (r := jv_bI (rr_lt e M.1.length)) G Z ml_X8_132 (r_isEdition hlt hS hn) hS.1 dX8_copy_3 rfl (by decide) (by decide) (by decide) (by decide) (Nat.le_of_ble_eq_true rfl) rfl rfl rfl rfl ?_
  refine jv_if_neB (q := 9) (tgt := 13) G dX8_copy_6 (by decide) rfl (fun c1 => ?_) (fun c1 => ?_)
  · obtain ⟨k_e, hk_e, ek_e, ze⟩ := rr_lt_t (by omega) c1
    subst ek_e
    refine jv_aload_n (q := 14) G 0 dX8_copy_13 rfl rfl rfl ?_
    refine jv_getQ (q := 17) G dX8_copy_14 fl_X8_7 rfl hS.1 (rf_p2 hS) rfl ?_
    refine jv_iload_n (q := 18) G 1 dX8_copy_17 rfl rfl rfl ?_
    refine jv_zald (q := 19) G dX8_copy_18 (rf_a2 hS) rfl (by omega) (by decide) (hD k_e (by omega)).1 rfl ?_
    refine jv_if_neB (q := 22) (tgt := 26) G dX8_copy_19 (by decide) rfl (fun c2 => ?_) (fun c2 => ?_)
    · refine jv_aload_n (q := 27) G 0 dX8_copy_26 rfl rfl rfl ?_
      refine jv_getI (q := 30) G dX8_copy_27 fl_X8_126 rfl hS.1 hn rfl ?_
      refine jv_bipush (q := 32) (v := nI 8) G dX8_copy_30 (by decide) rfl ?_
      refine jv_icmp_neN (q := 35) (tgt := 39) G dX8_copy_32 (by decide) rfl (by omega) (by omega) (fun c3 => ?_) (fun c3 => ?_)
      · refine jv_iconst (q := 40) (v := nI 0) G dX8_copy_39 (by decide) rfl ?_
        refine jv_putI (q := 43) G dX8_copy_40 fl_X8_122 rfl hS.1 rfl ?_
        have hr1 : rs x q h (jv_wI h x 0 (nI 0)) := rs.rf.wI (nI 0) (Or.inl ⟨rfl, Or.inl rfl⟩)
        have hth : jv_I (jv_wI h x 0 (nI 0)) x 0 = (nI 0) := jv_I_self _ _ _ _
        have hR := hr1.R hR
        have hrs := hrs.tr hr1
        generalize jv_wI h x 0 (nI 0) = h4 at hth hR hrs ⊢
        obtain ⟨hS, ⟨hn8, hn⟩, ⟨hm12, hm⟩, hD, hV, hCs⟩ := id hR
        have hsc : sc x q h4 h4 := sc.rf
        refine jv_aload_n (q := 44) G 0 dX8_copy_43 rfl rfl rfl ?_
        refine jv_getI (q := 47) G dX8_copy_44 fl_X8_122 rfl hS.1 hth rfl ?_
        refine jv_if_leN (q := 50) (tgt := 52) G dX8_copy_47 (by decide) rfl (by omega) (fun c5 => ?_) (fun c5 => ?_)
        · refine jv_aload_n (q := 53) G 0 dX8_copy_52 rfl rfl rfl ?_
          refine jv_getI (q := 56) G dX8_copy_53 fl_X8_126 rfl hS.1 hn rfl ?_
          refine jv_istore_n (q := 57) (lo' := [(2, .int (nI M.1.length)), (0, .ref x), (1, .int (nI k_e))]) G dX8_copy_56 rfl (by decide) rfl rfl ?_
          refine jv_aload_n (q := 58) G 1 dX8_copy_57 rfl rfl rfl ?_
          refine jv_dup (q := 59) G dX8_copy_58 rfl rfl ?_
          refine jv_getI (q := 62) G dX8_copy_59 fl_X8_126 rfl hS.1 hn rfl ?_
          refine jv_iconst (q := 63) (v := nI 1) G dX8_copy_62 (by decide) rfl ?_
          refine jv_iaddN (q := 64) G dX8_copy_63 rfl ?_
          refine jv_putI (q := 67) G dX8_copy_64 fl_X8_126 rfl hS.1 rfl ?_
          refine jv_aload_n (q := 68) G 1 dX8_copy_67 rfl rfl rfl ?_
          refine jv_getQ (q := 71) G dX8_copy_68 fl_X8_13 rfl hS.1 (rf_p3 hS) rfl ?_
          refine jv_iload_n (q := 72) G 0 dX8_copy_71 rfl rfl rfl ?_
          refine jv_aload_n (q := 73) G 1 dX8_copy_72 rfl rfl rfl ?_
          refine jv_getQ (q := 76) G dX8_copy_73 fl_X8_13 rfl hS.1 (rf_p3 hS) rfl ?_
          refine jv_iload_n (q := 77) G 2 dX8_copy_76 rfl rfl rfl ?_
          refine jv_iald (q := 78) G dX8_copy_77 (rf_a3 hS) rfl (by omega) (by decide) rfl rfl ?_
          refine jv_iast (q := 79) G dX8_copy_78 (rf_a3 hS) rfl (by omega) (by decide) rfl ?_
          refine jv_iconst (q := 80) (v := nI 0) G dX8_copy_79 (by decide) rfl ?_
          refine jv_istore_n (q := 81) (lo' := [(3, .int (nI 0)), (2, .int (nI M.1.length)), (0, .ref x), (1, .int (nI k_e))]) G dX8_copy_80 rfl (by decide) rfl rfl ?_
          refine jv_lo [0, 2, 3, 1] (lo' := [(3, .int (nI 0)), (0, .ref x), (1, .int (nI k_e)), (2, .int (nI M.1.length))]) rfl ?_
          have hFa := (show FW (w_E M.1.length) (fun j => xcr j ∨ j = 1) x q h4 (jv_wI (jv_wI h4 x 1 (nI (M.1.length + 1))) (q 3) M.1.length (jv_I (jv_wI h4 x 1 (nI (M.1.length + 1))) (q 3) k_e)) from ((FW.rf.wx hS (Or.inr rfl) _).wq hS (by decide) rfl (Or.inl (Or.inl ⟨Or.inr rfl, rfl⟩)) _))
          have p0 : jv_I (jv_wI (jv_wI h4 x 1 (nI (M.1.length + 1))) (q 3) M.1.length (jv_I (jv_wI h4 x 1 (nI (M.1.length + 1))) (q 3) k_e)) x 0 = nI 0 := ((xI_q hS (by decide) rfl _ _ _).trans ((xI_x _ _ _).trans (if_neg (by decide)))).trans hth
          have p1 : jv_I (jv_wI (jv_wI h4 x 1 (nI (M.1.length + 1))) (q 3) M.1.length (jv_I (jv_wI h4 x 1 (nI (M.1.length + 1))) (q 3) k_e)) x 1 = nI (M.1.length + 1) := ((xI_q hS (by decide) rfl _ _ _).trans ((xI_x _ _ _).trans (if_pos rfl)))
          have p2 : jv_I (jv_wI (jv_wI h4 x 1 (nI (M.1.length + 1))) (q 3) M.1.length (jv_I (jv_wI h4 x 1 (nI (M.1.length + 1))) (q 3) k_e)) (q 2) M.1.length = jv_bI false := by rw [(((qI_q hS (by decide) rfl (by decide) rfl _ _ _).trans (if_neg (fun e => absurd e.1 (by decide)))).trans (qI_x hS (by decide) rfl _ _ _)), (hD _ (by omega)).1, (ma_out (Nat.le_refl _)).2]
          have p3 : jv_I (jv_wI (jv_wI h4 x 1 (nI (M.1.length + 1))) (q 3) M.1.length (jv_I (jv_wI h4 x 1 (nI (M.1.length + 1))) (q 3) k_e)) (q 3) M.1.length = nI (ma_t M k_e).length := ((qI_q hS (by decide) rfl (by decide) rfl _ _ _).trans (if_pos ⟨rfl, rfl⟩)).trans ((qI_x hS (by decide) rfl _ _ _).trans (hD k_e (by omega)).2.1)
          have hSa := hFa.S hS
          have hEa : rf_E q (jv_wI (jv_wI h4 x 1 (nI (M.1.length + 1))) (q 3) M.1.length (jv_I (jv_wI h4 x 1 (nI (M.1.length + 1))) (q 3) k_e)) k_e (ma_t M k_e) := hFa.E (fun k j o => w_E_ne (by omega) o) (hD k_e (by omega)).2
          generalize jv_wI (jv_wI h4 x 1 (nI (M.1.length + 1))) (q 3) M.1.length (jv_I (jv_wI h4 x 1 (nI (M.1.length + 1))) (q 3) k_e) = ha1 at *
          refine r_cp_loop hlt G Z hSa (by omega) (by omega) (by omega) hEa (fun h2 hF2 hj2 => ?_) (ma_t M k_e).length 0 _ (by omega) FW.rf (fun i t hi => by omega)
          refine jv_iload_n (q := 114) G 0 dX8_copy_113 rfl rfl rfl ?_
          refine jv_iret G hr dX8_copy_114 (Nat.le_of_ble_eq_true rfl) (Nat.le_of_ble_eq_true rfl) ?_
          have hF2' := hF2.mono (W' := w_E M.1.length) (X' := (fun j => xcr j ∨ j = 1)) (fun k j o => Or.inl (w_C3 o).2.2) (fun _ z => z.elim)
          have hn3 : ∀ k j, k = 2 ∨ k = 3 → ¬ (fun k j => ∃ i, i < 10 ∧ o_T (10 * M.1.length + i) k j) k j := fun k j hk z => by have := w_C3 z; omega
          refine pO.mk (M' := (M.1 ++ [(false, ma_t M k_e)], M.2)) (th := 0) ?_ rfl ((hF2.ax 0 (fun z => z)).trans p0) ?_ (((hrs.FW hS0).fr.tr hFa.fr).tr hF2.fr)
          · unfold m_cy; simp only [*, if_true, if_false, Bool.false_eq_true, reduceIte]
          · exact rf_R.add hR (by omega) (hFa.tr hF2') ((hF2.ax 1 (fun z => z)).trans p1) ((hF2.aq 2 _ (hn3 _ _ (Or.inl rfl))).trans p2) ⟨(hF2.aq 3 _ (hn3 _ _ (Or.inr rfl))).trans p3, hEa.2.1, fun k t ht => ⟨hj2 k t ht, (hEa.2.2 k t ht).2⟩⟩
        · omega
      · refine jv_iconst (q := 36) (v := nI 3) G dX8_copy_35 (by decide) rfl ?_
        refine jv_goto (q := 40) G dX8_copy_36 (by decide) ?_
        refine jv_putI (q := 43) G dX8_copy_40 fl_X8_122 rfl hS.1 rfl ?_
        have hr1 : rs x q h (jv_wI h x 0 (nI 3)) := rs.rf.wI (nI 3) (Or.inl ⟨rfl, Or.inl rfl⟩)
        have hth : jv_I (jv_wI h x 0 (nI 3)) x 0 = (nI 3) := jv_I_self _ _ _ _
        have hR := hr1.R hR
        have hrs := hrs.tr hr1
        generalize jv_wI h x 0 (nI 3) = h6 at hth hR hrs ⊢
        obtain ⟨hS, ⟨hn8, hn⟩, ⟨hm12, hm⟩, hD, hV, hCs⟩ := id hR
        have hsc : sc x q h6 h6 := sc.rf
        refine jv_aload_n (q := 44) G 0 dX8_copy_43 rfl rfl rfl ?_
        refine jv_getI (q := 47) G dX8_copy_44 fl_X8_122 rfl hS.1 hth rfl ?_
        refine jv_if_leN (q := 50) (tgt := 52) G dX8_copy_47 (by decide) rfl (by omega) (fun c7 => ?_) (fun c7 => ?_)
        · omega
        · refine jv_iconst (q := 51) (v := nI 0) G dX8_copy_50 (by decide) rfl ?_
          refine jv_iret G hr dX8_copy_51 (Nat.le_of_ble_eq_true rfl) (Nat.le_of_ble_eq_true rfl) ?_
          refine pO.no (M := M) hS0 ?_ rfl hth hR hrs
          unfold m_cy
          first
            | (simp only [*, if_true, if_false, Bool.false_eq_true, reduceIte]; done)
            | (rw [ze]; dsimp only; rw [if_pos (by assumption), if_pos (by assumption)])
    · refine jv_iconst (q := 23) (v := nI 2) G dX8_copy_22 (by decide) rfl ?_
      refine jv_goto (q := 40) G dX8_copy_23 (by decide) ?_
      refine jv_putI (q := 43) G dX8_copy_40 fl_X8_122 rfl hS.1 rfl ?_
      have hr1 : rs x q h (jv_wI h x 0 (nI 2)) := rs.rf.wI (nI 2) (Or.inl ⟨rfl, Or.inl rfl⟩)
      have hth : jv_I (jv_wI h x 0 (nI 2)) x 0 = (nI 2) := jv_I_self _ _ _ _
      have hR := hr1.R hR
      have hrs := hrs.tr hr1
      generalize jv_wI h x 0 (nI 2) = h8 at hth hR hrs ⊢
      obtain ⟨hS, ⟨hn8, hn⟩, ⟨hm12, hm⟩, hD, hV, hCs⟩ := id hR
      have hsc : sc x q h8 h8 := sc.rf
      refine jv_aload_n (q := 44) G 0 dX8_copy_43 rfl rfl rfl ?_
      refine jv_getI (q := 47) G dX8_copy_44 fl_X8_122 rfl hS.1 hth rfl ?_
      refine jv_if_leN (q := 50) (tgt := 52) G dX8_copy_47 (by decide) rfl (by omega) (fun c9 => ?_) (fun c9 => ?_)
      · omega
      · refine jv_iconst (q := 51) (v := nI 0) G dX8_copy_50 (by decide) rfl ?_
        refine jv_iret G hr dX8_copy_51 (Nat.le_of_ble_eq_true rfl) (Nat.le_of_ble_eq_true rfl) ?_
        refine pO.no (M := M) hS0 ?_ rfl hth hR hrs
        unfold m_cy
        first
          | (simp only [*, if_true, if_false, Bool.false_eq_true, reduceIte]; done)
          | (rw [ze]; dsimp only; rw [if_pos (by assumption), if_pos (by assumption)])
  · have ze := rr_lt_f c1
    refine jv_iconst (q := 10) (v := nI 1) G dX8_copy_9 (by decide) rfl ?_
    refine jv_goto (q := 40) G dX8_copy_10 (by decide) ?_
    refine jv_putI (q := 43) G dX8_copy_40 fl_X8_122 rfl hS.1 rfl ?_
    have hr1 : rs x q h (jv_wI h x 0 (nI 1)) := rs.rf.wI (nI 1) (Or.inl ⟨rfl, Or.inl rfl⟩)
    have hth : jv_I (jv_wI h x 0 (nI 1)) x 0 = (nI 1) := jv_I_self _ _ _ _
    have hR := hr1.R hR
    have hrs := hrs.tr hr1
    generalize jv_wI h x 0 (nI 1) = h10 at hth hR hrs ⊢
    obtain ⟨hS, ⟨hn8, hn⟩, ⟨hm12, hm⟩, hD, hV, hCs⟩ := id hR
    have hsc : sc x q h10 h10 := sc.rf
    refine jv_aload_n (q := 44) G 0 dX8_copy_43 rfl rfl rfl ?_
    refine jv_getI (q := 47) G dX8_copy_44 fl_X8_122 rfl hS.1 hth rfl ?_
    refine jv_if_leN (q := 50) (tgt := 52) G dX8_copy_47 (by decide) rfl (by omega) (fun c11 => ?_) (fun c11 => ?_)
    · omega
    · refine jv_iconst (q := 51) (v := nI 0) G dX8_copy_50 (by decide) rfl ?_
      refine jv_iret G hr dX8_copy_51 (Nat.le_of_ble_eq_true rfl) (Nat.le_of_ble_eq_true rfl) ?_
      refine pO.no (M := M) hS0 ?_ rfl hth hR hrs
      unfold m_cy
      first
        | (simp only [*, if_true, if_false, Bool.false_eq_true, reduceIte]; done)
        | (rw [ze]; dsimp only; rw [if_pos (by assumption), if_pos (by assumption)])
