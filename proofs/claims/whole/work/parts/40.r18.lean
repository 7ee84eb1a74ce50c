set_option maxHeartbeats 4000000 in
set_option maxRecDepth 100000 in
theorem r_moveMember {lA : Launch} (hlt : lA.stackTraces = false) {D : jv_D} {base : Nat} {x : Nat} {q : Nat → Nat} {h : jv_H} {a b : Nat} (hS : rf_S x q h) (ha : a < 480) (hb : b < 480) : jv_Met lA D base yX8_moveMember (.code yX8_moveMember cX8_moveMember 3 none) 1 0 0 [.ref x, .int (nI a), .int (nI b)] h (fun v h' => v = none ∧ FW (o_M b) (fun _ => False) x q h h' ∧ ∀ m, rf_M q h a m → rf_M q h' b m) jv_no := by
  refine jv_ofV (lo := [(0, .ref x), (1, .int (nI a)), (2, .int (nI b))]) hlt (by decide) (Nat.le_of_ble_eq_true rfl) rfl (fun E hEl hEd hEz Z G hr ht hnm => ?_)
  subst hEl; subst hEd; subst hEz
  refine jv_aload_n (q := 1) G 0 dX8_moveMember_0 rfl rfl rfl ?_
  refine jv_getQ (q := 4) G dX8_moveMember_1 fl_X8_44 rfl hS.1 (rf_p13 hS) rfl ?_
  refine jv_iload_n (q := 5) G 2 dX8_moveMember_4 rfl rfl rfl ?_
  refine jv_aload_n (q := 6) G 0 dX8_moveMember_5 rfl rfl rfl ?_
  refine jv_getQ (q := 9) G dX8_moveMember_6 fl_X8_44 rfl hS.1 (rf_p13 hS) rfl ?_
  refine jv_iload_n (q := 10) G 1 dX8_moveMember_9 rfl rfl rfl ?_
  refine jv_iald (q := 11) G dX8_moveMember_10 (rf_a13 hS) rfl (by omega) (by decide) rfl rfl ?_
  refine jv_iast (q := 12) G dX8_moveMember_11 (rf_a13 hS) rfl (by omega) (by decide) rfl ?_
  refine jv_aload_n (q := 13) G 0 dX8_moveMember_12 rfl rfl rfl ?_
  refine jv_getQ (q := 16) G dX8_moveMember_13 fl_X8_47 rfl hS.1 (rf_p14 hS) rfl ?_
  refine jv_iload_n (q := 17) G 2 dX8_moveMember_16 rfl rfl rfl ?_
  refine jv_aload_n (q := 18) G 0 dX8_moveMember_17 rfl rfl rfl ?_
  refine jv_getQ (q := 21) G dX8_moveMember_18 fl_X8_47 rfl hS.1 (rf_p14 hS) rfl ?_
  refine jv_iload_n (q := 22) G 1 dX8_moveMember_21 rfl rfl rfl ?_
  refine jv_iald (q := 23) G dX8_moveMember_22 (rf_a14 hS) rfl (by omega) (by decide) rfl rfl ?_
  refine jv_topI (y := (jv_I h (q 14) a)) ((qI_q hS (by decide) rfl (by decide) rfl _ _ _).trans (if_neg (fun e => absurd e.1 (by decide)))) ?_
  refine jv_iast (q := 24) G dX8_moveMember_23 (rf_a14 hS) rfl (by omega) (by decide) rfl ?_
  refine jv_aload_n (q := 25) G 0 dX8_moveMember_24 rfl rfl rfl ?_
  refine jv_getQ (q := 28) G dX8_moveMember_25 fl_X8_50 rfl hS.1 (rf_p15 hS) rfl ?_
  refine jv_iload_n (q := 29) G 2 dX8_moveMember_28 rfl rfl rfl ?_
  refine jv_aload_n (q := 30) G 0 dX8_moveMember_29 rfl rfl rfl ?_
  refine jv_getQ (q := 33) G dX8_moveMember_30 fl_X8_50 rfl hS.1 (rf_p15 hS) rfl ?_
  refine jv_iload_n (q := 34) G 1 dX8_moveMember_33 rfl rfl rfl ?_
  refine jv_iald (q := 35) G dX8_moveMember_34 (rf_a15 hS) rfl (by omega) (by decide) rfl rfl ?_
  refine jv_topI (y := (jv_I h (q 15) a)) (((qI_q hS (by decide) rfl (by decide) rfl _ _ _).trans (if_neg (fun e => absurd e.1 (by decide)))).trans ((qI_q hS (by decide) rfl (by decide) rfl _ _ _).trans (if_neg (fun e => absurd e.1 (by decide))))) ?_
  refine jv_iast (q := 36) G dX8_moveMember_35 (rf_a15 hS) rfl (by omega) (by decide) rfl ?_
  refine jv_aload_n (q := 37) G 0 dX8_moveMember_36 rfl rfl rfl ?_
  refine jv_getQ (q := 40) G dX8_moveMember_37 fl_X8_53 rfl hS.1 (rf_p16 hS) rfl ?_
  refine jv_iload_n (q := 41) G 2 dX8_moveMember_40 rfl rfl rfl ?_
  refine jv_aload_n (q := 42) G 0 dX8_moveMember_41 rfl rfl rfl ?_
  refine jv_getQ (q := 45) G dX8_moveMember_42 fl_X8_53 rfl hS.1 (rf_p16 hS) rfl ?_
  refine jv_iload_n (q := 46) G 1 dX8_moveMember_45 rfl rfl rfl ?_
  refine jv_iald (q := 47) G dX8_moveMember_46 (rf_a16 hS) rfl (by omega) (by decide) rfl rfl ?_
  refine jv_topI (y := (jv_I h (q 16) a)) ((((qI_q hS (by decide) rfl (by decide) rfl _ _ _).trans (if_neg (fun e => absurd e.1 (by decide)))).trans ((qI_q hS (by decide) rfl (by decide) rfl _ _ _).trans (if_neg (fun e => absurd e.1 (by decide))))).trans ((qI_q hS (by decide) rfl (by decide) rfl _ _ _).trans (if_neg (fun e => absurd e.1 (by decide))))) ?_
  refine jv_iast (q := 48) G dX8_moveMember_47 (rf_a16 hS) rfl (by omega) (by decide) rfl ?_
  refine jv_aload_n (q := 49) G 0 dX8_moveMember_48 rfl rfl rfl ?_
  refine jv_getQ (q := 52) G dX8_moveMember_49 fl_X8_56 rfl hS.1 (rf_p17 hS) rfl ?_
  refine jv_iload_n (q := 53) G 2 dX8_moveMember_52 rfl rfl rfl ?_
  refine jv_aload_n (q := 54) G 0 dX8_moveMember_53 rfl rfl rfl ?_
  refine jv_getQ (q := 57) G dX8_moveMember_54 fl_X8_56 rfl hS.1 (rf_p17 hS) rfl ?_
  refine jv_iload_n (q := 58) G 1 dX8_moveMember_57 rfl rfl rfl ?_
  refine jv_zald (q := 59) G dX8_moveMember_58 (rf_a17 hS) rfl (by omega) (by decide) rfl rfl ?_
  refine jv_topI (y := (jv_I h (q 17) a)) (((((qI_q hS (by decide) rfl (by decide) rfl _ _ _).trans (if_neg (fun e => absurd e.1 (by decide)))).trans ((qI_q hS (by decide) rfl (by decide) rfl _ _ _).trans (if_neg (fun e => absurd e.1 (by decide))))).trans ((qI_q hS (by decide) rfl (by decide) rfl _ _ _).trans (if_neg (fun e => absurd e.1 (by decide))))).trans ((qI_q hS (by decide) rfl (by decide) rfl _ _ _).trans (if_neg (fun e => absurd e.1 (by decide))))) ?_
  refine jv_zastI (q := 60) G dX8_moveMember_59 (rf_a17 hS) rfl (by omega) (by decide) rfl ?_
  refine jv_aload_n (q := 61) G 0 dX8_moveMember_60 rfl rfl rfl ?_
  refine jv_getQ (q := 64) G dX8_moveMember_61 fl_X8_59 rfl hS.1 (rf_p18 hS) rfl ?_
  refine jv_iload_n (q := 65) G 2 dX8_moveMember_64 rfl rfl rfl ?_
  refine jv_aload_n (q := 66) G 0 dX8_moveMember_65 rfl rfl rfl ?_
  refine jv_getQ (q := 69) G dX8_moveMember_66 fl_X8_59 rfl hS.1 (rf_p18 hS) rfl ?_
  refine jv_iload_n (q := 70) G 1 dX8_moveMember_69 rfl rfl rfl ?_
  refine jv_iald (q := 71) G dX8_moveMember_70 (rf_a18 hS) rfl (by omega) (by decide) rfl rfl ?_
  refine jv_topI (y := (jv_I h (q 18) a)) ((((((qI_q hS (by decide) rfl (by decide) rfl _ _ _).trans (if_neg (fun e => absurd e.1 (by decide)))).trans ((qI_q hS (by decide) rfl (by decide) rfl _ _ _).trans (if_neg (fun e => absurd e.1 (by decide))))).trans ((qI_q hS (by decide) rfl (by decide) rfl _ _ _).trans (if_neg (fun e => absurd e.1 (by decide))))).trans ((qI_q hS (by decide) rfl (by decide) rfl _ _ _).trans (if_neg (fun e => absurd e.1 (by decide))))).trans ((qI_q hS (by decide) rfl (by decide) rfl _ _ _).trans (if_neg (fun e => absurd e.1 (by decide))))) ?_
  refine jv_iast (q := 72) G dX8_moveMember_71 (rf_a18 hS) rfl (by omega) (by decide) rfl ?_
  refine jv_aload_n (q := 73) G 0 dX8_moveMember_72 rfl rfl rfl ?_
  refine jv_getQ (q := 76) G dX8_moveMember_73 fl_X8_62 rfl hS.1 (rf_p19 hS) rfl ?_
  refine jv_iload_n (q := 77) G 2 dX8_moveMember_76 rfl rfl rfl ?_
  refine jv_aload_n (q := 78) G 0 dX8_moveMember_77 rfl rfl rfl ?_
  refine jv_getQ (q := 81) G dX8_moveMember_78 fl_X8_62 rfl hS.1 (rf_p19 hS) rfl ?_
  refine jv_iload_n (q := 82) G 1 dX8_moveMember_81 rfl rfl rfl ?_
  refine jv_zald (q := 83) G dX8_moveMember_82 (rf_a19 hS) rfl (by omega) (by decide) rfl rfl ?_
  refine jv_topI (y := (jv_I h (q 19) a)) (((((((qI_q hS (by decide) rfl (by decide) rfl _ _ _).trans (if_neg (fun e => absurd e.1 (by decide)))).trans ((qI_q hS (by decide) rfl (by decide) rfl _ _ _).trans (if_neg (fun e => absurd e.1 (by decide))))).trans ((qI_q hS (by decide) rfl (by decide) rfl _ _ _).trans (if_neg (fun e => absurd e.1 (by decide))))).trans ((qI_q hS (by decide) rfl (by decide) rfl _ _ _).trans (if_neg (fun e => absurd e.1 (by decide))))).trans ((qI_q hS (by decide) rfl (by decide) rfl _ _ _).trans (if_neg (fun e => absurd e.1 (by decide))))).trans ((qI_q hS (by decide) rfl (by decide) rfl _ _ _).trans (if_neg (fun e => absurd e.1 (by decide))))) ?_
  refine jv_zastI (q := 84) G dX8_moveMember_83 (rf_a19 hS) rfl (by omega) (by decide) rfl ?_
  refine jv_vret G hr dX8_moveMember_84 (Nat.le_of_ble_eq_true rfl) (Nat.le_of_ble_eq_true rfl) ?_
  refine ⟨rfl, (show FW (o_M b) (fun _ => False) x q h (jv_wI (jv_wI (jv_wI (jv_wI (jv_wI (jv_wI (jv_wI h (q 13) b (jv_I h (q 13) a)) (q 14) b (jv_I h (q 14) a)) (q 15) b (jv_I h (q 15) a)) (q 16) b (jv_I h (q 16) a)) (q 17) b ((jv_I h (q 17) a) &&& 1)) (q 18) b (jv_I h (q 18) a)) (q 19) b ((jv_I h (q 19) a) &&& 1)) from (((((((FW.rf.wq hS (by decide) rfl ⟨by unfold k_m; omega, rfl⟩ _).wq hS (by decide) rfl ⟨by unfold k_m; omega, rfl⟩ _).wq hS (by decide) rfl ⟨by unfold k_m; omega, rfl⟩ _).wq hS (by decide) rfl ⟨by unfold k_m; omega, rfl⟩ _).wq hS (by decide) rfl ⟨by unfold k_m; omega, rfl⟩ _).wq hS (by decide) rfl ⟨by unfold k_m; omega, rfl⟩ _).wq hS (by decide) rfl ⟨by unfold k_m; omega, rfl⟩ _)), fun m r => ?_⟩
  obtain ⟨r1, r2, r3, r4, r5, r6, r7⟩ := r
  exact ⟨((((((((qI_q hS (by decide) rfl (by decide) rfl _ _ _).trans (if_neg (fun e => absurd e.1 (by decide)))).trans ((qI_q hS (by decide) rfl (by decide) rfl _ _ _).trans (if_neg (fun e => absurd e.1 (by decide))))).trans ((qI_q hS (by decide) rfl (by decide) rfl _ _ _).trans (if_neg (fun e => absurd e.1 (by decide))))).trans ((qI_q hS (by decide) rfl (by decide) rfl _ _ _).trans (if_neg (fun e => absurd e.1 (by decide))))).trans ((qI_q hS (by decide) rfl (by decide) rfl _ _ _).trans (if_neg (fun e => absurd e.1 (by decide))))).trans ((qI_q hS (by decide) rfl (by decide) rfl _ _ _).trans (if_neg (fun e => absurd e.1 (by decide))))).trans ((qI_q hS (by decide) rfl (by decide) rfl _ _ _).trans (if_pos ⟨rfl, rfl⟩))).trans r1, (((((((qI_q hS (by decide) rfl (by decide) rfl _ _ _).trans (if_neg (fun e => absurd e.1 (by decide)))).trans ((qI_q hS (by decide) rfl (by decide) rfl _ _ _).trans (if_neg (fun e => absurd e.1 (by decide))))).trans ((qI_q hS (by decide) rfl (by decide) rfl _ _ _).trans (if_neg (fun e => absurd e.1 (by decide))))).trans ((qI_q hS (by decide) rfl (by decide) rfl _ _ _).trans (if_neg (fun e => absurd e.1 (by decide))))).trans ((qI_q hS (by decide) rfl (by decide) rfl _ _ _).trans (if_neg (fun e => absurd e.1 (by decide))))).trans ((qI_q hS (by decide) rfl (by decide) rfl _ _ _).trans (if_pos ⟨rfl, rfl⟩))).trans r2, ((((((qI_q hS (by decide) rfl (by decide) rfl _ _ _).trans (if_neg (fun e => absurd e.1 (by decide)))).trans ((qI_q hS (by decide) rfl (by decide) rfl _ _ _).trans (if_neg (fun e => absurd e.1 (by decide))))).trans ((qI_q hS (by decide) rfl (by decide) rfl _ _ _).trans (if_neg (fun e => absurd e.1 (by decide))))).trans ((qI_q hS (by decide) rfl (by decide) rfl _ _ _).trans (if_neg (fun e => absurd e.1 (by decide))))).trans ((qI_q hS (by decide) rfl (by decide) rfl _ _ _).trans (if_pos ⟨rfl, rfl⟩))).trans r3, (((((qI_q hS (by decide) rfl (by decide) rfl _ _ _).trans (if_neg (fun e => absurd e.1 (by decide)))).trans ((qI_q hS (by decide) rfl (by decide) rfl _ _ _).trans (if_neg (fun e => absurd e.1 (by decide))))).trans ((qI_q hS (by decide) rfl (by decide) rfl _ _ _).trans (if_neg (fun e => absurd e.1 (by decide))))).trans ((qI_q hS (by decide) rfl (by decide) rfl _ _ _).trans (if_pos ⟨rfl, rfl⟩))).trans r4, ((((qI_q hS (by decide) rfl (by decide) rfl _ _ _).trans (if_neg (fun e => absurd e.1 (by decide)))).trans ((qI_q hS (by decide) rfl (by decide) rfl _ _ _).trans (if_neg (fun e => absurd e.1 (by decide))))).trans ((qI_q hS (by decide) rfl (by decide) rfl _ _ _).trans (if_pos ⟨rfl, rfl⟩))).trans ((congrArg (· &&& 1) r5).trans (jv_bI_and _)), (((qI_q hS (by decide) rfl (by decide) rfl _ _ _).trans (if_neg (fun e => absurd e.1 (by decide)))).trans ((qI_q hS (by decide) rfl (by decide) rfl _ _ _).trans (if_pos ⟨rfl, rfl⟩))).trans r6, ((qI_q hS (by decide) rfl (by decide) rfl _ _ _).trans (if_pos ⟨rfl, rfl⟩)).trans ((congrArg (· &&& 1) r7).trans (jv_bI_and _))⟩
set_option maxHeartbeats 4000000 in
set_option maxRecDepth 100000 in
theorem r_mt1 {E : jv_E} {x : Nat} {q : Nat → Nat} {h : jv_H} {a b : Nat} {Q : State → Prop} (hlt : (jv_l E).stackTraces = false) (G : jv_C E cX8_moveType RX8 4) (Z : jv_rm E = jv_room 2 0 0) (hS0 : rf_S x q h) (ha : a < 80) (hb : b < 80) (hab : a ≠ b) (hK : ∀ h2, FW (fun k j => k = 11 ∧ 3 * b ≤ j ∧ j < 3 * b + 3) (fun _ => False) x q h h2 → (∀ j, j < 3 → jv_I h2 (q 11) (3 * b + j) = jv_I h (q 11) (3 * a + j)) → jv_V E 4 h2 0 0 Q 117 [(0, .ref x), (1, .int (nI a)), (2, .int (nI b))] []) : ∀ (m i : Nat) (h1 : jv_H), i + m = 3 → FW (fun k j => k = 11 ∧ 3 * b ≤ j ∧ j < 3 * b + 3) (fun _ => False) x q h h1 → (∀ j, j < i → jv_I h1 (q 11) (3 * b + j) = jv_I h (q 11) (3 * a + j)) → jv_V E 4 h1 0 0 Q 86 [(3, .int (nI i)), (0, .ref x), (1, .int (nI a)), (2, .int (nI b))] [] := by
  intro m
  induction m with
  | zero =>
    intro i h1 hi hF hj
    have hS := hF.S hS0
    refine jv_iload_n (q := 87) G 0 dX8_moveType_86 rfl rfl rfl ?_
    refine jv_iconst (q := 88) (v := nI 3) G dX8_moveType_87 (by decide) rfl ?_
    refine jv_icmp_geN (q := 91) (tgt := 117) G dX8_moveType_88 (by decide) rfl (by omega) (by omega) (fun c1 => ?_) (fun c1 => ?_)
    · refine jv_lo [1, 2, 3] (lo' := [(0, .ref x), (1, .int (nI a)), (2, .int (nI b))]) rfl ?_
      exact hK _ hF (fun j hj2 => hj j (by omega))
    · omega
  | succ m ih =>
    intro i h1 hi hF hj
    have hS := hF.S hS0
    refine jv_iload_n (q := 87) G 0 dX8_moveType_86 rfl rfl rfl ?_
    refine jv_iconst (q := 88) (v := nI 3) G dX8_moveType_87 (by decide) rfl ?_
    refine jv_icmp_geN (q := 91) (tgt := 117) G dX8_moveType_88 (by decide) rfl (by omega) (by omega) (fun c1 => ?_) (fun c1 => ?_)
    · omega
    · refine jv_aload_n (q := 92) G 1 dX8_moveType_91 rfl rfl rfl ?_
      refine jv_getQ (q := 95) G dX8_moveType_92 fl_X8_38 rfl hS.1 (rf_p11 hS) rfl ?_
      refine jv_iconst (q := 96) (v := nI 3) G dX8_moveType_95 (by decide) rfl ?_
      refine jv_iload_n (q := 97) G 3 dX8_moveType_96 rfl rfl rfl ?_
      refine jv_imulN (q := 98) G dX8_moveType_97 rfl ?_
      refine jv_iload_n (q := 99) G 0 dX8_moveType_98 rfl rfl rfl ?_
      refine jv_iaddN (q := 100) G dX8_moveType_99 rfl ?_
      refine jv_aload_n (q := 101) G 1 dX8_moveType_100 rfl rfl rfl ?_
      refine jv_getQ (q := 104) G dX8_moveType_101 fl_X8_38 rfl hS.1 (rf_p11 hS) rfl ?_
      refine jv_iconst (q := 105) (v := nI 3) G dX8_moveType_104 (by decide) rfl ?_
      refine jv_iload_n (q := 106) G 2 dX8_moveType_105 rfl rfl rfl ?_
      refine jv_imulN (q := 107) G dX8_moveType_106 rfl ?_
      refine jv_iload_n (q := 108) G 0 dX8_moveType_107 rfl rfl rfl ?_
      refine jv_iaddN (q := 109) G dX8_moveType_108 rfl ?_
      refine jv_iald (q := 110) G dX8_moveType_109 (rf_a11 hS) rfl (by omega) (by decide) rfl rfl ?_
      refine jv_iast (q := 111) G dX8_moveType_110 (rf_a11 hS) rfl (by omega) (by decide) rfl ?_
      refine jv_iinc (q := 114) (lo' := [(3, .int (nI (i + 1))), (0, .ref x), (1, .int (nI a)), (2, .int (nI b))]) (v := nI (i + 1)) G 0 dX8_moveType_111 rfl (nI_1 i) (by decide) rfl rfl ?_
      refine jv_goto (q := 86) G dX8_moveType_114 (by decide) ?_
      refine jv_lo [0, 1, 2, 3] (lo' := [(3, .int (nI (i + 1))), (0, .ref x), (1, .int (nI a)), (2, .int (nI b))]) rfl ?_
      have hF2 := hF.wq hS0 (k := 11) (j := 3 * b + i) (by decide) rfl ⟨rfl, by omega, by omega⟩ (jv_I h1 (q 11) (3 * a + i))
      refine ih (i + 1) _ (by omega) hF2 (fun j hj2 => ?_)
      rw [qI_q hS (by decide) rfl (by decide) rfl]
      by_cases hji : j = i
      · subst hji
        rw [if_pos ⟨rfl, rfl⟩]
        exact hF.aq 11 _ (by omega)
      · rw [if_neg (by omega)]
        exact hj j (by omega)
set_option maxHeartbeats 4000000 in
set_option maxRecDepth 100000 in
theorem r_mt2 {E : jv_E} {x : Nat} {q : Nat → Nat} {h : jv_H} {a b : Nat} {Q : State → Prop} (hlt : (jv_l E).stackTraces = false) (G : jv_C E cX8_moveType RX8 4) (Z : jv_rm E = jv_room 2 0 0) (hS0 : rf_S x q h) (ha : a < 80) (hb : b < 80) (hab : a ≠ b) (hK : ∀ h2, FW (fun k j => k_m k ∧ 6 * b ≤ j ∧ j < 6 * b + 6) (fun _ => False) x q h h2 → (∀ j, j < 6 → ∀ m, rf_M q h (6 * a + j) m → rf_M q h2 (6 * b + j) m) → jv_V E 4 h2 0 0 Q 159 [(0, .ref x), (1, .int (nI a)), (2, .int (nI b))] []) : ∀ (m i : Nat) (h1 : jv_H), i + m = 6 → FW (fun k j => k_m k ∧ 6 * b ≤ j ∧ j < 6 * b + 6) (fun _ => False) x q h h1 → (∀ j, j < i → ∀ m, rf_M q h (6 * a + j) m → rf_M q h1 (6 * b + j) m) → jv_V E 4 h1 0 0 Q 131 [(3, .int (nI i)), (0, .ref x), (1, .int (nI a)), (2, .int (nI b))] [] := by
  intro m
  induction m with
  | zero =>
    intro i h1 hi hF hj
    have hS := hF.S hS0
    refine jv_iload_n (q := 132) G 0 dX8_moveType_131 rfl rfl rfl ?_
    refine jv_bipush (q := 134) (v := nI 6) G dX8_moveType_132 (by decide) rfl ?_
    refine jv_icmp_geN (q := 137) (tgt := 159) G dX8_moveType_134 (by decide) rfl (by omega) (by omega) (fun c1 => ?_) (fun c1 => ?_)
    · refine jv_lo [1, 2, 3] (lo' := [(0, .ref x), (1, .int (nI a)), (2, .int (nI b))]) rfl ?_
      exact hK _ hF (fun j hj2 => hj j (by omega))
    · omega
  | succ m ih =>
    intro i h1 hi hF hj
    have hS := hF.S hS0
    refine jv_iload_n (q := 132) G 0 dX8_moveType_131 rfl rfl rfl ?_
    refine jv_bipush (q := 134) (v := nI 6) G dX8_moveType_132 (by decide) rfl ?_
    refine jv_icmp_geN (q := 137) (tgt := 159) G dX8_moveType_134 (by decide) rfl (by omega) (by omega) (fun c1 => ?_) (fun c1 => ?_)
    · omega
    · refine jv_aload_n (q := 138) G 1 dX8_moveType_137 rfl rfl rfl ?_
      refine jv_bipush (q := 140) (v := nI 6) G dX8_moveType_138 (by decide) rfl ?_
      refine jv_iload_n (q := 141) G 2 dX8_moveType_140 rfl rfl rfl ?_
      refine jv_imulN (q := 142) G dX8_moveType_141 rfl ?_
      refine jv_iload_n (q := 143) G 0 dX8_moveType_142 rfl rfl rfl ?_
      refine jv_iaddN (q := 144) G dX8_moveType_143 rfl ?_
      refine jv_bipush (q := 146) (v := nI 6) G dX8_moveType_144 (by decide) rfl ?_
      refine jv_iload_n (q := 147) G 3 dX8_moveType_146 rfl rfl rfl ?_
      refine jv_imulN (q := 148) G dX8_moveType_147 rfl ?_
      refine jv_iload_n (q := 149) G 0 dX8_moveType_148 rfl rfl rfl ?_
      refine jv_iaddN (q := 150) G dX8_moveType_149 rfl ?_
      refine jv_callV (q := 153) (As := [.int (nI ((6 * a) + i)), .int (nI ((6 * b) + i))]) (rest := []) G Z ml_X8_140 (r_moveMember hlt hS (by omega) (by omega)) hS.1 dX8_moveType_150 rfl (by decide) (by decide) (by decide) (by decide) (Nat.le_of_ble_eq_true rfl) rfl rfl (fun v3 h2 y4 => ?_) (fun _ _ hx => hx.elim)
      obtain ⟨rfl, hFm, hMm⟩ := y4
      show jv_V E 4 h2 0 0 Q 153 [(3, .int (nI i)), (0, .ref x), (1, .int (nI a)), (2, .int (nI b))] []
      refine jv_iinc (q := 156) (lo' := [(3, .int (nI (i + 1))), (0, .ref x), (1, .int (nI a)), (2, .int (nI b))]) (v := nI (i + 1)) G 0 dX8_moveType_153 rfl (nI_1 i) (by decide) rfl rfl ?_
      refine jv_goto (q := 131) G dX8_moveType_156 (by decide) ?_
      refine jv_lo [0, 1, 2, 3] (lo' := [(3, .int (nI (i + 1))), (0, .ref x), (1, .int (nI a)), (2, .int (nI b))]) rfl ?_
      have hF2 := hF.tr (hFm.mono (W' := (fun k j => k_m k ∧ 6 * b ≤ j ∧ j < 6 * b + 6)) (X' := (fun _ => False)) (fun k j o => ⟨o.1, by have := o.2; omega, by have := o.2; omega⟩) (fun _ z => z))
      refine ih (i + 1) _ (by omega) hF2 (fun j hj2 m hm => ?_)
      by_cases hji : j = i
      · subst hji
        exact hMm m (hF.M (fun k j' o z => by have := o.2; omega) hm)
      · exact hFm.M (fun k j' o z => by have := o.2; have := z.2; omega) (hj j (by omega) m hm)
set_option maxHeartbeats 4000000 in
set_option maxRecDepth 100000 in
theorem r_moveType {lA : Launch} (hlt : lA.stackTraces = false) {D : jv_D} {base : Nat} {x : Nat} {q : Nat → Nat} {h : jv_H} {a b : Nat} (hS : rf_S x q h) (ha : a < 80) (hb : b < 80) (hab : a ≠ b) : jv_Met lA D base yX8_moveType (.code yX8_moveType cX8_moveType 4 none) 2 0 0 [.ref x, .int (nI a), .int (nI b)] h (fun v h' => v = none ∧ FW (o_T b) (fun _ => False) x q h h' ∧ ∀ t, mt_ok t → rf_T q h a t → rf_T q h' b t) jv_no := by
  refine jv_ofV (lo := [(0, .ref x), (1, .int (nI a)), (2, .int (nI b))]) hlt (by decide) (Nat.le_of_ble_eq_true rfl) rfl (fun E hEl hEd hEz Z G hr ht hnm => ?_)
  subst hEl; subst hEd; subst hEz
  refine jv_aload_n (q := 1) G 0 dX8_moveType_0 rfl rfl rfl ?_
  refine jv_getQ (q := 4) G dX8_moveType_1 fl_X8_17 rfl hS.1 (rf_p4 hS) rfl ?_
  refine jv_iload_n (q := 5) G 2 dX8_moveType_4 rfl rfl rfl ?_
  refine jv_aload_n (q := 6) G 0 dX8_moveType_5 rfl rfl rfl ?_
  refine jv_getQ (q := 9) G dX8_moveType_6 fl_X8_17 rfl hS.1 (rf_p4 hS) rfl ?_
  refine jv_iload_n (q := 10) G 1 dX8_moveType_9 rfl rfl rfl ?_
  refine jv_iald (q := 11) G dX8_moveType_10 (rf_a4 hS) rfl (by omega) (by decide) rfl rfl ?_
  refine jv_iast (q := 12) G dX8_moveType_11 (rf_a4 hS) rfl (by omega) (by decide) rfl ?_
  refine jv_aload_n (q := 13) G 0 dX8_moveType_12 rfl rfl rfl ?_
  refine jv_getQ (q := 16) G dX8_moveType_13 fl_X8_20 rfl hS.1 (rf_p5 hS) rfl ?_
  refine jv_iload_n (q := 17) G 2 dX8_moveType_16 rfl rfl rfl ?_
  refine jv_aload_n (q := 18) G 0 dX8_moveType_17 rfl rfl rfl ?_
  refine jv_getQ (q := 21) G dX8_moveType_18 fl_X8_20 rfl hS.1 (rf_p5 hS) rfl ?_
  refine jv_iload_n (q := 22) G 1 dX8_moveType_21 rfl rfl rfl ?_
  refine jv_zald (q := 23) G dX8_moveType_22 (rf_a5 hS) rfl (by omega) (by decide) rfl rfl ?_
  refine jv_topI (y := (jv_I h (q 5) a)) ((qI_q hS (by decide) rfl (by decide) rfl _ _ _).trans (if_neg (fun e => absurd e.1 (by decide)))) ?_
  refine jv_zastI (q := 24) G dX8_moveType_23 (rf_a5 hS) rfl (by omega) (by decide) rfl ?_
  refine jv_aload_n (q := 25) G 0 dX8_moveType_24 rfl rfl rfl ?_
  refine jv_getQ (q := 28) G dX8_moveType_25 fl_X8_23 rfl hS.1 (rf_p6 hS) rfl ?_
  refine jv_iload_n (q := 29) G 2 dX8_moveType_28 rfl rfl rfl ?_
  refine jv_aload_n (q := 30) G 0 dX8_moveType_29 rfl rfl rfl ?_
  refine jv_getQ (q := 33) G dX8_moveType_30 fl_X8_23 rfl hS.1 (rf_p6 hS) rfl ?_
  refine jv_iload_n (q := 34) G 1 dX8_moveType_33 rfl rfl rfl ?_
  refine jv_zald (q := 35) G dX8_moveType_34 (rf_a6 hS) rfl (by omega) (by decide) rfl rfl ?_
  refine jv_topI (y := (jv_I h (q 6) a)) (((qI_q hS (by decide) rfl (by decide) rfl _ _ _).trans (if_neg (fun e => absurd e.1 (by decide)))).trans ((qI_q hS (by decide) rfl (by decide) rfl _ _ _).trans (if_neg (fun e => absurd e.1 (by decide))))) ?_
  refine jv_zastI (q := 36) G dX8_moveType_35 (rf_a6 hS) rfl (by omega) (by decide) rfl ?_
  refine jv_aload_n (q := 37) G 0 dX8_moveType_36 rfl rfl rfl ?_
  refine jv_getQ (q := 40) G dX8_moveType_37 fl_X8_26 rfl hS.1 (rf_p7 hS) rfl ?_
  refine jv_iload_n (q := 41) G 2 dX8_moveType_40 rfl rfl rfl ?_
  refine jv_aload_n (q := 42) G 0 dX8_moveType_41 rfl rfl rfl ?_
  refine jv_getQ (q := 45) G dX8_moveType_42 fl_X8_26 rfl hS.1 (rf_p7 hS) rfl ?_
  refine jv_iload_n (q := 46) G 1 dX8_moveType_45 rfl rfl rfl ?_
  refine jv_iald (q := 47) G dX8_moveType_46 (rf_a7 hS) rfl (by omega) (by decide) rfl rfl ?_
  refine jv_topI (y := (jv_I h (q 7) a)) ((((qI_q hS (by decide) rfl (by decide) rfl _ _ _).trans (if_neg (fun e => absurd e.1 (by decide)))).trans ((qI_q hS (by decide) rfl (by decide) rfl _ _ _).trans (if_neg (fun e => absurd e.1 (by decide))))).trans ((qI_q hS (by decide) rfl (by decide) rfl _ _ _).trans (if_neg (fun e => absurd e.1 (by decide))))) ?_
  refine jv_iast (q := 48) G dX8_moveType_47 (rf_a7 hS) rfl (by omega) (by decide) rfl ?_
  refine jv_aload_n (q := 49) G 0 dX8_moveType_48 rfl rfl rfl ?_
  refine jv_getQ (q := 52) G dX8_moveType_49 fl_X8_29 rfl hS.1 (rf_p8 hS) rfl ?_
  refine jv_iload_n (q := 53) G 2 dX8_moveType_52 rfl rfl rfl ?_
  refine jv_aload_n (q := 54) G 0 dX8_moveType_53 rfl rfl rfl ?_
  refine jv_getQ (q := 57) G dX8_moveType_54 fl_X8_29 rfl hS.1 (rf_p8 hS) rfl ?_
  refine jv_iload_n (q := 58) G 1 dX8_moveType_57 rfl rfl rfl ?_
  refine jv_zald (q := 59) G dX8_moveType_58 (rf_a8 hS) rfl (by omega) (by decide) rfl rfl ?_
  refine jv_topI (y := (jv_I h (q 8) a)) (((((qI_q hS (by decide) rfl (by decide) rfl _ _ _).trans (if_neg (fun e => absurd e.1 (by decide)))).trans ((qI_q hS (by decide) rfl (by decide) rfl _ _ _).trans (if_neg (fun e => absurd e.1 (by decide))))).trans ((qI_q hS (by decide) rfl (by decide) rfl _ _ _).trans (if_neg (fun e => absurd e.1 (by decide))))).trans ((qI_q hS (by decide) rfl (by decide) rfl _ _ _).trans (if_neg (fun e => absurd e.1 (by decide))))) ?_
  refine jv_zastI (q := 60) G dX8_moveType_59 (rf_a8 hS) rfl (by omega) (by decide) rfl ?_
  refine jv_aload_n (q := 61) G 0 dX8_moveType_60 rfl rfl rfl ?_
  refine jv_getQ (q := 64) G dX8_moveType_61 fl_X8_32 rfl hS.1 (rf_p9 hS) rfl ?_
  refine jv_iload_n (q := 65) G 2 dX8_moveType_64 rfl rfl rfl ?_
  refine jv_aload_n (q := 66) G 0 dX8_moveType_65 rfl rfl rfl ?_
  refine jv_getQ (q := 69) G dX8_moveType_66 fl_X8_32 rfl hS.1 (rf_p9 hS) rfl ?_
  refine jv_iload_n (q := 70) G 1 dX8_moveType_69 rfl rfl rfl ?_
  refine jv_iald (q := 71) G dX8_moveType_70 (rf_a9 hS) rfl (by omega) (by decide) rfl rfl ?_
  refine jv_topI (y := (jv_I h (q 9) a)) ((((((qI_q hS (by decide) rfl (by decide) rfl _ _ _).trans (if_neg (fun e => absurd e.1 (by decide)))).trans ((qI_q hS (by decide) rfl (by decide) rfl _ _ _).trans (if_neg (fun e => absurd e.1 (by decide))))).trans ((qI_q hS (by decide) rfl (by decide) rfl _ _ _).trans (if_neg (fun e => absurd e.1 (by decide))))).trans ((qI_q hS (by decide) rfl (by decide) rfl _ _ _).trans (if_neg (fun e => absurd e.1 (by decide))))).trans ((qI_q hS (by decide) rfl (by decide) rfl _ _ _).trans (if_neg (fun e => absurd e.1 (by decide))))) ?_
  refine jv_iast (q := 72) G dX8_moveType_71 (rf_a9 hS) rfl (by omega) (by decide) rfl ?_
  refine jv_aload_n (q := 73) G 0 dX8_moveType_72 rfl rfl rfl ?_
  refine jv_getQ (q := 76) G dX8_moveType_73 fl_X8_35 rfl hS.1 (rf_p10 hS) rfl ?_
  refine jv_iload_n (q := 77) G 2 dX8_moveType_76 rfl rfl rfl ?_
  refine jv_aload_n (q := 78) G 0 dX8_moveType_77 rfl rfl rfl ?_
  refine jv_getQ (q := 81) G dX8_moveType_78 fl_X8_35 rfl hS.1 (rf_p10 hS) rfl ?_
  refine jv_iload_n (q := 82) G 1 dX8_moveType_81 rfl rfl rfl ?_
  refine jv_iald (q := 83) G dX8_moveType_82 (rf_a10 hS) rfl (by omega) (by decide) rfl rfl ?_
  refine jv_topI (y := (jv_I h (q 10) a)) (((((((qI_q hS (by decide) rfl (by decide) rfl _ _ _).trans (if_neg (fun e => absurd e.1 (by decide)))).trans ((qI_q hS (by decide) rfl (by decide) rfl _ _ _).trans (if_neg (fun e => absurd e.1 (by decide))))).trans ((qI_q hS (by decide) rfl (by decide) rfl _ _ _).trans (if_neg (fun e => absurd e.1 (by decide))))).trans ((qI_q hS (by decide) rfl (by decide) rfl _ _ _).trans (if_neg (fun e => absurd e.1 (by decide))))).trans ((qI_q hS (by decide) rfl (by decide) rfl _ _ _).trans (if_neg (fun e => absurd e.1 (by decide))))).trans ((qI_q hS (by decide) rfl (by decide) rfl _ _ _).trans (if_neg (fun e => absurd e.1 (by decide))))) ?_
  refine jv_iast (q := 84) G dX8_moveType_83 (rf_a10 hS) rfl (by omega) (by decide) rfl ?_
  refine jv_iconst (q := 85) (v := nI 0) G dX8_moveType_84 (by decide) rfl ?_
  refine jv_istore_n (q := 86) (lo' := [(3, .int (nI 0)), (0, .ref x), (1, .int (nI a)), (2, .int (nI b))]) G dX8_moveType_85 rfl (by decide) rfl rfl ?_
  have hFa := (show FW (o_T b) (fun _ => False) x q h (jv_wI (jv_wI (jv_wI (jv_wI (jv_wI (jv_wI (jv_wI h (q 4) b (jv_I h (q 4) a)) (q 5) b ((jv_I h (q 5) a) &&& 1)) (q 6) b ((jv_I h (q 6) a) &&& 1)) (q 7) b (jv_I h (q 7) a)) (q 8) b ((jv_I h (q 8) a) &&& 1)) (q 9) b (jv_I h (q 9) a)) (q 10) b (jv_I h (q 10) a)) from (((((((FW.rf.wq hS (by decide) rfl (Or.inl ⟨by unfold k_t; omega, rfl⟩) _).wq hS (by decide) rfl (Or.inl ⟨by unfold k_t; omega, rfl⟩) _).wq hS (by decide) rfl (Or.inl ⟨by unfold k_t; omega, rfl⟩) _).wq hS (by decide) rfl (Or.inl ⟨by unfold k_t; omega, rfl⟩) _).wq hS (by decide) rfl (Or.inl ⟨by unfold k_t; omega, rfl⟩) _).wq hS (by decide) rfl (Or.inl ⟨by unfold k_t; omega, rfl⟩) _).wq hS (by decide) rfl (Or.inl ⟨by unfold k_t; omega, rfl⟩) _))
  have c4 : jv_I (jv_wI (jv_wI (jv_wI (jv_wI (jv_wI (jv_wI (jv_wI h (q 4) b (jv_I h (q 4) a)) (q 5) b ((jv_I h (q 5) a) &&& 1)) (q 6) b ((jv_I h (q 6) a) &&& 1)) (q 7) b (jv_I h (q 7) a)) (q 8) b ((jv_I h (q 8) a) &&& 1)) (q 9) b (jv_I h (q 9) a)) (q 10) b (jv_I h (q 10) a)) (q 4) b = jv_I h (q 4) a := ((((((((qI_q hS (by decide) rfl (by decide) rfl _ _ _).trans (if_neg (fun e => absurd e.1 (by decide)))).trans ((qI_q hS (by decide) rfl (by decide) rfl _ _ _).trans (if_neg (fun e => absurd e.1 (by decide))))).trans ((qI_q hS (by decide) rfl (by decide) rfl _ _ _).trans (if_neg (fun e => absurd e.1 (by decide))))).trans ((qI_q hS (by decide) rfl (by decide) rfl _ _ _).trans (if_neg (fun e => absurd e.1 (by decide))))).trans ((qI_q hS (by decide) rfl (by decide) rfl _ _ _).trans (if_neg (fun e => absurd e.1 (by decide))))).trans ((qI_q hS (by decide) rfl (by decide) rfl _ _ _).trans (if_neg (fun e => absurd e.1 (by decide))))).trans ((qI_q hS (by decide) rfl (by decide) rfl _ _ _).trans (if_pos ⟨rfl, rfl⟩)))
  have c5 : jv_I (jv_wI (jv_wI (jv_wI (jv_wI (jv_wI (jv_wI (jv_wI h (q 4) b (jv_I h (q 4) a)) (q 5) b ((jv_I h (q 5) a) &&& 1)) (q 6) b ((jv_I h (q 6) a) &&& 1)) (q 7) b (jv_I h (q 7) a)) (q 8) b ((jv_I h (q 8) a) &&& 1)) (q 9) b (jv_I h (q 9) a)) (q 10) b (jv_I h (q 10) a)) (q 5) b = (jv_I h (q 5) a) &&& 1 := (((((((qI_q hS (by decide) rfl (by decide) rfl _ _ _).trans (if_neg (fun e => absurd e.1 (by decide)))).trans ((qI_q hS (by decide) rfl (by decide) rfl _ _ _).trans (if_neg (fun e => absurd e.1 (by decide))))).trans ((qI_q hS (by decide) rfl (by decide) rfl _ _ _).trans (if_neg (fun e => absurd e.1 (by decide))))).trans ((qI_q hS (by decide) rfl (by decide) rfl _ _ _).trans (if_neg (fun e => absurd e.1 (by decide))))).trans ((qI_q hS (by decide) rfl (by decide) rfl _ _ _).trans (if_neg (fun e => absurd e.1 (by decide))))).trans ((qI_q hS (by decide) rfl (by decide) rfl _ _ _).trans (if_pos ⟨rfl, rfl⟩)))
  have c6 : jv_I (jv_wI (jv_wI (jv_wI (jv_wI (jv_wI (jv_wI (jv_wI h (q 4) b (jv_I h (q 4) a)) (q 5) b ((jv_I h (q 5) a) &&& 1)) (q 6) b ((jv_I h (q 6) a) &&& 1)) (q 7) b (jv_I h (q 7) a)) (q 8) b ((jv_I h (q 8) a) &&& 1)) (q 9) b (jv_I h (q 9) a)) (q 10) b (jv_I h (q 10) a)) (q 6) b = (jv_I h (q 6) a) &&& 1 := ((((((qI_q hS (by decide) rfl (by decide) rfl _ _ _).trans (if_neg (fun e => absurd e.1 (by decide)))).trans ((qI_q hS (by decide) rfl (by decide) rfl _ _ _).trans (if_neg (fun e => absurd e.1 (by decide))))).trans ((qI_q hS (by decide) rfl (by decide) rfl _ _ _).trans (if_neg (fun e => absurd e.1 (by decide))))).trans ((qI_q hS (by decide) rfl (by decide) rfl _ _ _).trans (if_neg (fun e => absurd e.1 (by decide))))).trans ((qI_q hS (by decide) rfl (by decide) rfl _ _ _).trans (if_pos ⟨rfl, rfl⟩)))
  have c7 : jv_I (jv_wI (jv_wI (jv_wI (jv_wI (jv_wI (jv_wI (jv_wI h (q 4) b (jv_I h (q 4) a)) (q 5) b ((jv_I h (q 5) a) &&& 1)) (q 6) b ((jv_I h (q 6) a) &&& 1)) (q 7) b (jv_I h (q 7) a)) (q 8) b ((jv_I h (q 8) a) &&& 1)) (q 9) b (jv_I h (q 9) a)) (q 10) b (jv_I h (q 10) a)) (q 7) b = jv_I h (q 7) a := (((((qI_q hS (by decide) rfl (by decide) rfl _ _ _).trans (if_neg (fun e => absurd e.1 (by decide)))).trans ((qI_q hS (by decide) rfl (by decide) rfl _ _ _).trans (if_neg (fun e => absurd e.1 (by decide))))).trans ((qI_q hS (by decide) rfl (by decide) rfl _ _ _).trans (if_neg (fun e => absurd e.1 (by decide))))).trans ((qI_q hS (by decide) rfl (by decide) rfl _ _ _).trans (if_pos ⟨rfl, rfl⟩)))
  have c8 : jv_I (jv_wI (jv_wI (jv_wI (jv_wI (jv_wI (jv_wI (jv_wI h (q 4) b (jv_I h (q 4) a)) (q 5) b ((jv_I h (q 5) a) &&& 1)) (q 6) b ((jv_I h (q 6) a) &&& 1)) (q 7) b (jv_I h (q 7) a)) (q 8) b ((jv_I h (q 8) a) &&& 1)) (q 9) b (jv_I h (q 9) a)) (q 10) b (jv_I h (q 10) a)) (q 8) b = (jv_I h (q 8) a) &&& 1 := ((((qI_q hS (by decide) rfl (by decide) rfl _ _ _).trans (if_neg (fun e => absurd e.1 (by decide)))).trans ((qI_q hS (by decide) rfl (by decide) rfl _ _ _).trans (if_neg (fun e => absurd e.1 (by decide))))).trans ((qI_q hS (by decide) rfl (by decide) rfl _ _ _).trans (if_pos ⟨rfl, rfl⟩)))
  have c9 : jv_I (jv_wI (jv_wI (jv_wI (jv_wI (jv_wI (jv_wI (jv_wI h (q 4) b (jv_I h (q 4) a)) (q 5) b ((jv_I h (q 5) a) &&& 1)) (q 6) b ((jv_I h (q 6) a) &&& 1)) (q 7) b (jv_I h (q 7) a)) (q 8) b ((jv_I h (q 8) a) &&& 1)) (q 9) b (jv_I h (q 9) a)) (q 10) b (jv_I h (q 10) a)) (q 9) b = jv_I h (q 9) a := (((qI_q hS (by decide) rfl (by decide) rfl _ _ _).trans (if_neg (fun e => absurd e.1 (by decide)))).trans ((qI_q hS (by decide) rfl (by decide) rfl _ _ _).trans (if_pos ⟨rfl, rfl⟩)))
  have c10 : jv_I (jv_wI (jv_wI (jv_wI (jv_wI (jv_wI (jv_wI (jv_wI h (q 4) b (jv_I h (q 4) a)) (q 5) b ((jv_I h (q 5) a) &&& 1)) (q 6) b ((jv_I h (q 6) a) &&& 1)) (q 7) b (jv_I h (q 7) a)) (q 8) b ((jv_I h (q 8) a) &&& 1)) (q 9) b (jv_I h (q 9) a)) (q 10) b (jv_I h (q 10) a)) (q 10) b = jv_I h (q 10) a := ((qI_q hS (by decide) rfl (by decide) rfl _ _ _).trans (if_pos ⟨rfl, rfl⟩))
  refine jv_lo [0, 1, 2, 3] (lo' := [(3, .int (nI 0)), (0, .ref x), (1, .int (nI a)), (2, .int (nI b))]) rfl ?_
  have hSa := hFa.S hS
  generalize jv_wI (jv_wI (jv_wI (jv_wI (jv_wI (jv_wI (jv_wI h (q 4) b (jv_I h (q 4) a)) (q 5) b ((jv_I h (q 5) a) &&& 1)) (q 6) b ((jv_I h (q 6) a) &&& 1)) (q 7) b (jv_I h (q 7) a)) (q 8) b ((jv_I h (q 8) a) &&& 1)) (q 9) b (jv_I h (q 9) a)) (q 10) b (jv_I h (q 10) a) = ha1 at *
  refine r_mt1 hlt G Z hSa ha hb hab (fun h2 hF2 hj2 => ?_) 3 0 _ (by omega) FW.rf (fun j hj => by omega)
  have hS2 := hF2.S hSa
  refine jv_aload_n (q := 118) G 0 dX8_moveType_117 rfl rfl rfl ?_
  refine jv_getQ (q := 121) G dX8_moveType_118 fl_X8_41 rfl hS2.1 (rf_p12 hS2) rfl ?_
  refine jv_iload_n (q := 122) G 2 dX8_moveType_121 rfl rfl rfl ?_
  refine jv_aload_n (q := 123) G 0 dX8_moveType_122 rfl rfl rfl ?_
  refine jv_getQ (q := 126) G dX8_moveType_123 fl_X8_41 rfl hS2.1 (rf_p12 hS2) rfl ?_
  refine jv_iload_n (q := 127) G 1 dX8_moveType_126 rfl rfl rfl ?_
  refine jv_iald (q := 128) G dX8_moveType_127 (rf_a12 hS2) rfl (by omega) (by decide) rfl rfl ?_
  refine jv_iast (q := 129) G dX8_moveType_128 (rf_a12 hS2) rfl (by omega) (by decide) rfl ?_
  refine jv_iconst (q := 130) (v := nI 0) G dX8_moveType_129 (by decide) rfl ?_
  refine jv_istore_n (q := 131) (lo' := [(3, .int (nI 0)), (0, .ref x), (1, .int (nI a)), (2, .int (nI b))]) G dX8_moveType_130 rfl (by decide) rfl rfl ?_
  refine jv_lo [0, 1, 2, 3] (lo' := [(3, .int (nI 0)), (0, .ref x), (1, .int (nI a)), (2, .int (nI b))]) rfl ?_
  refine r_mt2 hlt G Z ((FW.rf.wq (W := o_T b) (X := fun _ => False) hS2 (k := 12) (by decide) rfl (Or.inl ⟨by unfold k_t; omega, rfl⟩) _).S hS2) ha hb hab (fun h3 hF3 hj3 => ?_) 6 0 _ (by omega) FW.rf (fun j hj => by omega)
  refine jv_vret G hr dX8_moveType_159 (Nat.le_of_ble_eq_true rfl) (Nat.le_of_ble_eq_true rfl) ?_
  have hFb := FW.rf.wq (W := o_T b) (X := fun _ => False) hS2 (k := 12) (by decide) rfl (Or.inl ⟨by unfold k_t; omega, rfl⟩) (jv_I h2 (q 12) a)
  have hF2' := hF2.mono (W' := o_T b) (X' := fun _ => False) (fun k j o => Or.inr (Or.inl o)) (fun _ z => z)
  have hF3' := hF3.mono (W' := o_T b) (X' := fun _ => False) (fun k j o => Or.inr (Or.inr o)) (fun _ z => z)
  refine ⟨rfl, ((hFa.tr hF2').tr hFb).tr hF3', fun t ho r => ?_⟩
  obtain ⟨r1, r2, r3, r4, r5, r6, r7, r8, r9, r10⟩ := r
  have g : ∀ k, k_t k → k ≠ 12 → k < 42 → rf_arr k = true → jv_I h3 (q k) b = jv_I ha1 (q k) b := fun k hk h12 h42 hr => by
    rw [hF3.aq k b (by unfold k_t at hk; unfold k_m; omega) h42 hr, qI_q hS2 h42 hr (by decide) rfl, if_neg (fun e => h12 e.1), hF2.aq k b (by unfold k_t at hk; omega) h42 hr]
  have g11 : ∀ j, jv_I h3 (q 11) j = jv_I h2 (q 11) j := fun j => by
    rw [hF3.aq 11 j (by unfold k_m; omega), qI_q hS2 (by decide) rfl (by decide) rfl, if_neg (fun e => absurd e.1 (by decide))]
  have g13 : ∀ j, j < 6 → ∀ k, k_m k → k < 42 → rf_arr k = true → jv_I (jv_wI h2 (q 12) b (jv_I h2 (q 12) a)) (q k) (6 * a + j) = jv_I h (q k) (6 * a + j) := fun j hj k hk h42 hr => by
    rw [qI_q hS2 h42 hr (by decide) rfl, if_neg (by unfold k_m at hk; omega), hF2.aq k _ (by unfold k_m at hk; omega) h42 hr, hFa.aq k _ (by unfold o_T k_t k_m; unfold k_m at hk; omega) h42 hr]
  have g12 : jv_I h3 (q 12) b = jv_I h (q 12) a := by
    rw [hF3.aq 12 b (by unfold k_m; omega), qI_q hS2 (by decide) rfl (by decide) rfl, if_pos ⟨rfl, rfl⟩, hF2.aq 12 a (by omega), hFa.aq 12 a (by unfold o_T k_t k_m; omega)]
  refine ⟨?_, ?_, ?_, ?_, ?_, ?_, ?_, ?_, fun j v e => ?_, fun j m e => ?_⟩
  · exact ((g 4 (by unfold k_t; omega) (by decide) (by decide) rfl).trans c4).trans r1
  · exact ((g 5 (by unfold k_t; omega) (by decide) (by decide) rfl).trans c5).trans ((congrArg (· &&& 1) r2).trans (jv_bI_and _))
  · exact ((g 6 (by unfold k_t; omega) (by decide) (by decide) rfl).trans c6).trans ((congrArg (· &&& 1) r3).trans (jv_bI_and _))
  · exact ((g 7 (by unfold k_t; omega) (by decide) (by decide) rfl).trans c7).trans r4
  · exact ((g 8 (by unfold k_t; omega) (by decide) (by decide) rfl).trans c8).trans ((congrArg (· &&& 1) r5).trans (jv_bI_and _))
  · exact ((g 9 (by unfold k_t; omega) (by decide) (by decide) rfl).trans c9).trans r6
  · exact ((g 10 (by unfold k_t; omega) (by decide) (by decide) rfl).trans c10).trans r7
  · exact g12.trans r8
  · have h1 := jv_ltGet e
    have h3l := ho.2.2.2.1
    rw [g11, hj2 j (by omega), hFa.aq 11 _ (by unfold o_T k_t k_m; omega)]
    exact r9 j v e
  · have h1 := jv_ltGet e
    have h6l := ho.2.2.2.2.2.1
    refine hj3 j (by omega) m ?_
    obtain ⟨s1, s2, s3, s4, s5, s6, s7⟩ := r10 j m e
    exact ⟨(g13 j (by omega) 13 (by unfold k_m; omega) (by decide) rfl).trans s1, (g13 j (by omega) 14 (by unfold k_m; omega) (by decide) rfl).trans s2, (g13 j (by omega) 15 (by unfold k_m; omega) (by decide) rfl).trans s3, (g13 j (by omega) 16 (by unfold k_m; omega) (by decide) rfl).trans s4, (g13 j (by omega) 17 (by unfold k_m; omega) (by decide) rfl).trans s5, (g13 j (by omega) 18 (by unfold k_m; omega) (by decide) rfl).trans s6, (g13 j (by omega) 19 (by unfold k_m; omega) (by decide) rfl).trans s7⟩
