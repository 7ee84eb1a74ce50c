theorem pC_h {z : Nat → Nat → Nat} {T : Nat → Nat} {N : Nat → Nat → Nat} {tO : Nat → Nat} {h h1 : jv_H} {M : mA} (hR : cl_R z T N tO h1 M) (f : sF cs h h1) {code : Nat} {val : Int32} {v : Option Value} (e : code = 0) (hv : v = some (.int val)) : pC z tO h (code, val, M) v h1 := ⟨e, hv, ⟨T, N, hR⟩, f⟩
set_option maxHeartbeats 4000000 in
set_option maxRecDepth 100000 in
theorem k_count {lA : Launch} (hlt : lA.stackTraces = false) {D : jv_D} {base : Nat} {z : Nat → Nat → Nat} {T : Nat → Nat} {N : Nat → Nat → Nat} {tO : Nat → Nat} {h : jv_H} {M : mA} (hR : cl_R z T N tO h M) {p0 : Int32} : jv_Met lA D base yX7_count (.code yX7_count cX7_count 2 (some .int)) 1 0 0 [.ref (z 6 0), .int p0] h (jv_rI (m_count M p0) h) jv_no := by
  refine jv_ofV (lo := [(0, .ref (z 6 0)), (1, .int p0)]) hlt (by decide) (Nat.le_of_ble_eq_true rfl) rfl (fun E hEl hEd hEz Z G hr ht hnm => ?_)
  subst hEl; subst hEd; subst hEz
  have hl8 := hR.1.2.1.2.1; have hl12 := hR.1.2.1.2.2.2
  refine jv_iload_n (q := 1) G 1 dX7_count_0 rfl rfl rfl ?_
  by_cases c0 : p0 = nI 0
  · subst c0
    refine jv_lsw (off := 27) (tgt := 28) G dX7_count_1 (by decide) (by decide) (by decide) ?_
    refine jv_aload_n (q := 29) G 0 dX7_count_28 rfl rfl rfl ?_
    refine jv_getI (q := 32) G dX7_count_29 fl_X7_252 rfl hR.1.1.1 hR.1.2.1.1 rfl ?_
    refine jv_iret G hr dX7_count_32 (Nat.le_of_ble_eq_true rfl) (Nat.le_of_ble_eq_true rfl) ?_
    exact ⟨rfl, rfl⟩
  · by_cases c1 : p0 = nI 1
    · subst c1
      refine jv_lsw (off := 32) (tgt := 33) G dX7_count_1 (by decide) (by decide) (by decide) ?_
      refine jv_aload_n (q := 34) G 0 dX7_count_33 rfl rfl rfl ?_
      refine jv_getI (q := 37) G dX7_count_34 fl_X7_181 rfl hR.1.1.1 hR.1.2.1.2.2.1 rfl ?_
      refine jv_iret G hr dX7_count_37 (Nat.le_of_ble_eq_true rfl) (Nat.le_of_ble_eq_true rfl) ?_
      exact ⟨rfl, rfl⟩
    · obtain ⟨a0, a1⟩ := n_01 c0 c1
      refine jv_lsw (off := 37) (tgt := 38) G dX7_count_1 (by decide) (by show (if (0 : Int) = p0.toInt then (27 : Int) else if (1 : Int) = p0.toInt then 32 else 37) = 37; rw [if_neg a0, if_neg a1]) (by decide) ?_
      refine jv_iconst (q := 39) (v := (-1)) G dX7_count_38 (by decide) rfl ?_
      refine jv_iret G hr dX7_count_39 (Nat.le_of_ble_eq_true rfl) (Nat.le_of_ble_eq_true rfl) ?_
      exact ⟨by unfold m_count; rw [if_neg (show ¬ p0 = 0 from c0), if_neg c1], rfl⟩
set_option maxHeartbeats 4000000 in
set_option maxRecDepth 100000 in
theorem k_look {lA : Launch} (hlt : lA.stackTraces = false) {D : jv_D} {base : Nat} {z : Nat → Nat → Nat} {T : Nat → Nat} {N : Nat → Nat → Nat} {tO : Nat → Nat} {h : jv_H} {M : mA} (hR : cl_R z T N tO h M) {p0 : Int32} {p1 : Int32} : jv_Met lA D base yX7_look (.code yX7_look cX7_look 4 (some .int)) 3 1 6 [.ref (z 6 0), .int p0, .int p1] h (pC z tO h (m_eF M p0, m_look M p0 p1, M)) (pX z tO h ["java/lang/IndexOutOfBoundsException"] (m_eF M p0, m_look M p0 p1, M)) := by
  refine jv_ofV (lo := [(0, .ref (z 6 0)), (1, .int p0), (2, .int p1)]) hlt (by decide) (Nat.le_of_ble_eq_true rfl) rfl (fun E hEl hEd hEz Z G hr ht hnm => ?_)
  subst hEl; subst hEd; subst hEz
  have hl8 := hR.1.2.1.2.1; have hl12 := hR.1.2.1.2.2.2
  refine jv_aload_n (q := 1) G 0 dX7_look_0 rfl rfl rfl ?_
  refine jv_iload_n (q := 2) G 1 dX7_look_1 rfl rfl rfl ?_
  refine jv_callV (q := 5) (As := [.int p0]) (rest := []) G Z ml_X7_220 (k_editionAt hlt hR) hR.1.1.1 dX7_look_2 rfl (by decide) (by decide) (by decide) (by decide) (Nat.le_of_ble_eq_true rfl) rfl rfl (fun v2 h1 y3 => ?_) (fun cx hx yx => jv_out G ht (Nat.le_of_ble_eq_true rfl) (Nat.le_of_ble_eq_true rfl) (by obtain ⟨y1, y2, rfl⟩ := yx; exact pX_c hR (eF_1 y1) (by decide) y2))
  obtain ⟨u0, hu0, rfl, zu0, rfl, rfl⟩ := y3
  show jv_V E 4 h (0 + 1) (0 + 6) (jv_Q E (pC z tO h (m_eF M (nI u0), m_look M (nI u0) p1, M)) (pX z tO h ["java/lang/IndexOutOfBoundsException"] (m_eF M (nI u0), m_look M (nI u0) p1, M)) 1 6) 5 [(0, .ref (z 6 0)), (1, .int (nI u0)), (2, .int p1)] [.ref (z 0 u0)]
  have q8u0 : u0 < 8 := by omega
  refine jv_astore_n (q := 6) (lo' := [(3, .ref (z 0 u0)), (0, .ref (z 6 0)), (1, .int (nI u0)), (2, .int p1)]) G dX7_look_5 rfl (by decide) rfl rfl ?_
  refine jv_iload_n (q := 7) G 3 dX7_look_6 rfl rfl rfl ?_
  have hEu0 := (hR.1.2.2.1 u0 q8u0).1
  by_cases c0 : p1 = nI 0
  · subst c0
    refine jv_tsIn (tgt := 32) (off := 25) G dX7_look_7 (by decide) (by decide) rfl (by decide) ?_
    refine jv_aload_n (q := 33) G 0 dX7_look_32 rfl rfl rfl ?_
    refine jv_getZ (q := 36) G dX7_look_33 fl_X7_155 rfl (hR.1.2.2.1 u0 q8u0).1.1.1 (hR.1.2.2.1 u0 q8u0).2.2.1 rfl ?_
    refine jv_if_eqB (q := 39) (tgt := 43) G dX7_look_36 (by decide) rfl (fun c4 => ?_) (fun c4 => ?_)
    · refine jv_iconst (q := 44) (v := nI 0) G dX7_look_43 (by decide) rfl ?_
      refine jv_iret G hr dX7_look_44 (Nat.le_of_ble_eq_true rfl) (Nat.le_of_ble_eq_true rfl) ?_
      exact pC_c hR (eF_0 zu0) (by rw [look_eq zu0, if_pos (show nI 0 = 0 from rfl), c4]; rfl)
    · refine jv_iconst (q := 40) (v := nI 1) G dX7_look_39 (by decide) rfl ?_
      refine jv_goto (q := 44) G dX7_look_40 (by decide) ?_
      refine jv_iret G hr dX7_look_44 (Nat.le_of_ble_eq_true rfl) (Nat.le_of_ble_eq_true rfl) ?_
      exact pC_c hR (eF_0 zu0) (by rw [look_eq zu0, if_pos (show nI 0 = 0 from rfl), c4]; rfl)
  · by_cases c1 : p1 = nI 1
    · subst c1
      refine jv_tsIn (tgt := 45) (off := 38) G dX7_look_7 (by decide) (by decide) rfl (by decide) ?_
      refine jv_aload_n (q := 46) G 0 dX7_look_45 rfl rfl rfl ?_
      refine jv_getI (q := 49) G dX7_look_46 fl_X7_85 rfl (hR.1.2.2.1 u0 q8u0).1.1.1 (hR.1.2.2.1 u0 q8u0).1.2.2.1 rfl ?_
      refine jv_iret G hr dX7_look_49 (Nat.le_of_ble_eq_true rfl) (Nat.le_of_ble_eq_true rfl) ?_
      exact pC_c hR (eF_0 zu0) (by rw [look_eq zu0, if_neg (by decide), if_pos rfl])
    · by_cases c2 : p1 = nI 2
      · subst c2
        refine jv_tsIn (tgt := 50) (off := 43) G dX7_look_7 (by decide) (by decide) rfl (by decide) ?_
        refine jv_aload_n (q := 51) G 0 dX7_look_50 rfl rfl rfl ?_
        refine jv_callV_I (q := 54) (h1 := h) (As := []) (rest := []) (ce' := 0 + 1) (sl' := 0 + 6) (r := nI (m_sm (m_ml (ma_t M u0)) (ma_t M u0).length)) G Z ml_X7_278 (k_countMembers hlt hEu0) (hR.1.2.2.1 u0 q8u0).1.1.1 dX7_look_51 rfl (by decide) (by decide) (by decide) (by decide) (Nat.le_of_ble_eq_true rfl) rfl rfl rfl rfl ?_
        refine jv_iret G hr dX7_look_54 (Nat.le_of_ble_eq_true rfl) (Nat.le_of_ble_eq_true rfl) ?_
        exact pC_c hR (eF_0 zu0) (by rw [look_eq zu0, if_neg (by decide), if_neg (by decide), if_pos rfl])
      · refine jv_tsOut (tgt := 55) G dX7_look_7 (n_012 c0 c1 c2) (by decide) ?_
        refine jv_iconst (q := 56) (v := (-1)) G dX7_look_55 (by decide) rfl ?_
        refine jv_iret G hr dX7_look_56 (Nat.le_of_ble_eq_true rfl) (Nat.le_of_ble_eq_true rfl) ?_
        exact pC_c hR (eF_0 zu0) (by rw [look_eq zu0, if_neg (show ¬ p1 = 0 from c0), if_neg c1, if_neg c2])
set_option maxHeartbeats 4000000 in
set_option maxRecDepth 100000 in
theorem k_best_loop {E : jv_E} {Q : State → Prop} {z : Nat → Nat → Nat} {T : Nat → Nat} {N : Nat → Nat → Nat} {tO : Nat → Nat} {h : jv_H} {M : mA} (hR : cl_R z T N tO h M) {p1 : Bool} {u0 : Nat} {C : mC} (hC : M.2[u0]? = some C) (q8u0 : u0 < 12) (hlt : (jv_l E).stackTraces = false) (G : jv_C E cX7_best RX7 7) (Z : jv_rm E = jv_room 8 1 6) (hk : jv_V E 7 h (0 + 1) (0 + 6) Q 85 [(4, .int (jv_oN (m_bst (fun e => m_wl M C e (mc_l C).length) p1 M.1.length)))] []) : ∀ (n i : Nat), i + n = M.1.length → jv_V E 7 h (0 + 1) (0 + 6) Q 12 [(5, .int (nI i)), (4, .int (jv_oN (m_bst (fun e => m_wl M C e (mc_l C).length) p1 i))), (0, .ref (z 6 0)), (2, .int (jv_bI p1)), (3, .ref (z 3 u0))] [] := by
  have hl8 := hR.1.2.1.2.1; have hl12 := hR.1.2.1.2.2.2
  obtain ⟨⟨ca1, ca2, ca3⟩, cok⟩ := hR.2.1.2 u0 C hC
  have lc := hR.2.1.1 u0 q8u0
  have l20 := cok.2.2.2.2.1; have ce8 : mc_e C < 8 := by have := cok.1; omega
  have soC := (hR.1.2.2.2 (mc_e C) ce8).2.2 cok.2.1
  intro n
  induction n with
  | zero =>
    intro i hn
    have hbl : ∀ k, (m_bst (fun e => m_wl M C e (mc_l C).length) p1 i) = some k → k < 2 ^ 31 := fun k q => by have := bst_lt q; omega
    refine jv_iload (q := 14) G 0 dX7_best_12 rfl rfl ?_
    refine jv_aload_n (q := 15) G 2 dX7_best_14 rfl rfl rfl ?_
    refine jv_getI (q := 18) G dX7_best_15 fl_X7_252 rfl hR.1.1.1 hR.1.2.1.1 rfl ?_
    refine jv_icmp_geN (q := 21) (tgt := 85) G dX7_best_18 (by decide) rfl (by omega) (by omega) (fun c1 => ?_) (fun c1 => ?_)
    · refine jv_lo [1] (lo' := [(4, .int (jv_oN (m_bst (fun e => m_wl M C e (mc_l C).length) p1 i)))]) rfl ?_
      rw [show M.1.length = i by omega] at hk; exact hk
    · omega
  | succ n ih =>
    intro i hn
    have hbl : ∀ k, (m_bst (fun e => m_wl M C e (mc_l C).length) p1 i) = some k → k < 2 ^ 31 := fun k q => by have := bst_lt q; omega
    have q8i : i < 8 := by omega
    refine jv_iload (q := 14) G 0 dX7_best_12 rfl rfl ?_
    refine jv_aload_n (q := 15) G 2 dX7_best_14 rfl rfl rfl ?_
    refine jv_getI (q := 18) G dX7_best_15 fl_X7_252 rfl hR.1.1.1 hR.1.2.1.1 rfl ?_
    refine jv_icmp_geN (q := 21) (tgt := 85) G dX7_best_18 (by decide) rfl (by omega) (by omega) (fun c1 => ?_) (fun c1 => ?_)
    · omega
    · refine jv_iload (q := 23) G 1 dX7_best_21 rfl rfl ?_
      refine jv_iconst (q := 24) (v := (-1)) G dX7_best_23 (by decide) rfl ?_
      refine jv_icmp_eq (q := 27) (tgt := 31) G dX7_best_24 (by decide) rfl (fun c2 => ?_) (fun c2 => ?_)
      · have bn : (m_bst (fun e => m_wl M C e (mc_l C).length) p1 i).isNone = true := by
          rw [(jv_oN_m1 hbl).mp c2]; rfl
        refine jv_iconst (q := 32) (v := nI 1) G dX7_best_31 (by decide) rfl ?_
        refine jv_goto (q := 36) G dX7_best_32 (by decide) ?_
        refine jv_topI (y := jv_bI true) rfl ?_
        refine jv_istore (q := 38) (lo' := [(6, .int (jv_bI true)), (5, .int (nI i)), (4, .int (jv_oN (m_bst (fun e => m_wl M C e (mc_l C).length) p1 i))), (0, .ref (z 6 0)), (2, .int (jv_bI p1)), (3, .ref (z 3 u0))]) G dX7_best_36 (by decide) rfl rfl ?_
        refine jv_iload (q := 40) G 0 dX7_best_38 rfl rfl ?_
        refine jv_if_eqB (q := 43) (tgt := 79) G dX7_best_40 (by decide) rfl (fun c3 => ?_) (fun c3 => ?_)
        · cases c3
        · refine jv_aload_n (q := 44) G 3 dX7_best_43 rfl rfl rfl ?_
          refine jv_getQ (q := 47) G dX7_best_44 fl_X7_11 rfl hR.1.1.1 hR.1.1.2.1 rfl ?_
          refine jv_iload (q := 49) G 1 dX7_best_47 rfl rfl ?_
          refine jv_aaldQ (q := 50) G dX7_best_49 hR.1.1.2.2.1 rfl (by omega) (by decide) (hR.1.1.2.2.2.2.2.2.2.2.2.1 i q8i) rfl ?_
          refine jv_getZ (q := 53) G dX7_best_50 fl_X7_155 rfl (hR.1.2.2.1 i q8i).1.1.1 (hR.1.2.2.1 i q8i).2.2.1 rfl ?_
          refine jv_if_eqB (q := 56) (tgt := 79) G dX7_best_53 (by decide) rfl (fun c4 => ?_) (fun c4 => ?_)
          · refine jv_iinc (q := 82) (lo' := [(5, .int (nI (i + 1))), (6, .int (jv_bI true)), (4, .int (jv_oN (m_bst (fun e => m_wl M C e (mc_l C).length) p1 i))), (0, .ref (z 6 0)), (2, .int (jv_bI p1)), (3, .ref (z 3 u0))]) (v := nI (i + 1)) G 1 dX7_best_79 rfl (nI_1 i) (by decide) rfl rfl ?_
            refine jv_goto (q := 12) G dX7_best_82 (by decide) ?_
            refine jv_lo [0, 2, 3, 4, 5] (lo' := [(5, .int (nI (i + 1))), (4, .int (jv_oN (m_bst (fun e => m_wl M C e (mc_l C).length) p1 i))), (0, .ref (z 6 0)), (2, .int (jv_bI p1)), (3, .ref (z 3 u0))]) rfl ?_
            have pe : m_wl M C i (mc_l C).length = false := wl_no c4 _
            have eb : (m_bst (fun e => m_wl M C e (mc_l C).length) p1 (i + 1)) = (m_bst (fun e => m_wl M C e (mc_l C).length) p1 i) := by
              rw [m_bst, bn]; simp only [pe, Bool.or_true, Bool.true_or, Bool.or_false, Bool.false_or, Bool.and_true, Bool.and_false, Bool.not_true, Bool.not_false, Bool.true_and, Bool.false_and, if_true, Bool.false_eq_true, if_false, reduceIte]
            have q := ih (i + 1) (by omega)
            rw [eb] at q; exact q
          · refine jv_aload_n (q := 57) G 5 dX7_best_56 rfl rfl rfl ?_
            refine jv_aload_n (q := 58) G 3 dX7_best_57 rfl rfl rfl ?_
            refine jv_getQ (q := 61) G dX7_best_58 fl_X7_11 rfl hR.1.1.1 hR.1.1.2.1 rfl ?_
            refine jv_iload (q := 63) G 1 dX7_best_61 rfl rfl ?_
            refine jv_aaldQ (q := 64) G dX7_best_63 hR.1.1.2.2.1 rfl (by omega) (by decide) (hR.1.1.2.2.2.2.2.2.2.2.2.1 i q8i) rfl ?_
            refine jv_iconst (q := 65) (v := nI 0) G dX7_best_64 (by decide) rfl ?_
            have hEi := (hR.1.2.2.1 i q8i).1; have hUi := (hR.1.2.2.1 i q8i).2.2.2 c4; have soi := (hR.1.2.2.2 i q8i).2.2 c4
            refine jv_callV_I (q := 68) (h1 := h) (As := [.ref (z 0 i), .int (nI 0)]) (rest := []) (ce' := 0 + 1) (sl' := 0 + 6) (r := nI (fb_ct (c_hm (decide (i = mc_e C)) (ma_t M i) (m_Us (ma_t M i)) (mc_p C) (mc_u C) ((mc_l C).map (c_U M C)) (nI 0)) ((mc_l C).map (c_U M C)).length)) G Z ml_X7_248 (k_howMany (us := (mc_l C).map (c_U M C)) (w := nI 0) hlt hEi hUi lc ca1 cok.2.2.1 q8i ce8 (by rw [List.length_map]; exact ca2) (by rw [List.length_map]; exact l20) (fun j x hx => by rw [List.getElem?_map] at hx; obtain ⟨U, hU, rfl⟩ := Option.map_eq_some_iff.mp hx; exact ca3 j U hU)) lc.1 dX7_best_65 rfl (by decide) (by decide) (by decide) (by decide) (Nat.le_of_ble_eq_true rfl) rfl rfl rfl rfl ?_
            have hct : fb_ct (c_hm (decide (i = mc_e C)) (ma_t M i) (m_Us (ma_t M i)) (mc_p C) (mc_u C) ((mc_l C).map (c_U M C)) (nI 0)) ((mc_l C).map (c_U M C)).length = fb_ct (m_mtp M C i (nI 0)) (mc_l C).length := by rw [List.length_map, fb_ct_cong (fun j _ => hm_eq soC soi cok.2.2.2.1 cok.2.2.2.2.2 j)]
            have hcl := fb_ct_le (m_mtp M C i (nI 0)) (mc_l C).length
            have hwl := wl_ct (M := M) (C := C) (i := i) c4 (fun j U hU => mux_lt soC soi cok.2.2.2.1 (cok.2.2.2.2.2 U (List.mem_of_getElem? hU))) (mc_l C).length (Nat.le_refl _)
            refine jv_topI (y := nI (fb_ct (m_mtp M C i (nI 0)) (mc_l C).length)) (by rw [hct]) ?_
            refine jv_aload_n (q := 69) G 5 dX7_best_68 rfl rfl rfl ?_
            refine jv_getI (q := 72) G dX7_best_69 fl_X7_196 rfl lc.1 ca2 rfl ?_
            refine jv_icmp_neN (q := 75) (tgt := 79) G dX7_best_72 (by decide) rfl (by omega) (by omega) (fun c5 => ?_) (fun c5 => ?_)
            · refine jv_iinc (q := 82) (lo' := [(5, .int (nI (i + 1))), (6, .int (jv_bI true)), (4, .int (jv_oN (m_bst (fun e => m_wl M C e (mc_l C).length) p1 i))), (0, .ref (z 6 0)), (2, .int (jv_bI p1)), (3, .ref (z 3 u0))]) (v := nI (i + 1)) G 1 dX7_best_79 rfl (nI_1 i) (by decide) rfl rfl ?_
              refine jv_goto (q := 12) G dX7_best_82 (by decide) ?_
              refine jv_lo [0, 2, 3, 4, 5] (lo' := [(5, .int (nI (i + 1))), (4, .int (jv_oN (m_bst (fun e => m_wl M C e (mc_l C).length) p1 i))), (0, .ref (z 6 0)), (2, .int (jv_bI p1)), (3, .ref (z 3 u0))]) rfl ?_
              have pe : m_wl M C i (mc_l C).length = false := by rw [hwl]; exact decide_eq_false c5
              have eb : (m_bst (fun e => m_wl M C e (mc_l C).length) p1 (i + 1)) = (m_bst (fun e => m_wl M C e (mc_l C).length) p1 i) := by
                rw [m_bst, bn]; simp only [pe, Bool.or_true, Bool.true_or, Bool.or_false, Bool.false_or, Bool.and_true, Bool.and_false, Bool.not_true, Bool.not_false, Bool.true_and, Bool.false_and, if_true, Bool.false_eq_true, if_false, reduceIte]
              have q := ih (i + 1) (by omega)
              rw [eb] at q; exact q
            · refine jv_iload (q := 77) G 1 dX7_best_75 rfl rfl ?_
              refine jv_istore (q := 79) (lo' := [(4, .int (nI i)), (6, .int (jv_bI true)), (5, .int (nI i)), (0, .ref (z 6 0)), (2, .int (jv_bI p1)), (3, .ref (z 3 u0))]) G dX7_best_77 (by decide) rfl rfl ?_
              refine jv_iinc (q := 82) (lo' := [(5, .int (nI (i + 1))), (4, .int (nI i)), (6, .int (jv_bI true)), (0, .ref (z 6 0)), (2, .int (jv_bI p1)), (3, .ref (z 3 u0))]) (v := nI (i + 1)) G 2 dX7_best_79 rfl (nI_1 i) (by decide) rfl rfl ?_
              refine jv_goto (q := 12) G dX7_best_82 (by decide) ?_
              refine jv_lo [0, 1, 3, 4, 5] (lo' := [(5, .int (nI (i + 1))), (4, .int (nI i)), (0, .ref (z 6 0)), (2, .int (jv_bI p1)), (3, .ref (z 3 u0))]) rfl ?_
              have pe : m_wl M C i (mc_l C).length = true := by rw [hwl]; exact decide_eq_true c5
              have eb : (m_bst (fun e => m_wl M C e (mc_l C).length) p1 (i + 1)) = some i := by
                rw [m_bst, bn]; simp only [pe, Bool.or_true, Bool.true_or, Bool.or_false, Bool.false_or, Bool.and_true, Bool.and_false, Bool.not_true, Bool.not_false, Bool.true_and, Bool.false_and, if_true, Bool.false_eq_true, if_false, reduceIte]
              have q := ih (i + 1) (by omega)
              rw [eb] at q; exact q
      · have bn : (m_bst (fun e => m_wl M C e (mc_l C).length) p1 i).isNone = false := by
          cases q : (m_bst (fun e => m_wl M C e (mc_l C).length) p1 i) with
          | none => rw [q] at c2; exact absurd rfl c2
          | some k => rfl
        refine jv_iload_n (q := 28) G 3 dX7_best_27 rfl rfl rfl ?_
        refine jv_if_neB (q := 31) (tgt := 35) G dX7_best_28 (by decide) rfl (fun c6 => ?_) (fun c6 => ?_)
        · refine jv_iconst (q := 36) (v := nI 0) G dX7_best_35 (by decide) rfl ?_
          refine jv_topI (y := jv_bI false) rfl ?_
          refine jv_istore (q := 38) (lo' := [(6, .int (jv_bI false)), (5, .int (nI i)), (4, .int (jv_oN (m_bst (fun e => m_wl M C e (mc_l C).length) p1 i))), (0, .ref (z 6 0)), (2, .int (jv_bI p1)), (3, .ref (z 3 u0))]) G dX7_best_36 (by decide) rfl rfl ?_
          refine jv_iload (q := 40) G 0 dX7_best_38 rfl rfl ?_
          refine jv_if_eqB (q := 43) (tgt := 79) G dX7_best_40 (by decide) rfl (fun c7 => ?_) (fun c7 => ?_)
          · refine jv_iinc (q := 82) (lo' := [(5, .int (nI (i + 1))), (6, .int (jv_bI false)), (4, .int (jv_oN (m_bst (fun e => m_wl M C e (mc_l C).length) p1 i))), (0, .ref (z 6 0)), (2, .int (jv_bI p1)), (3, .ref (z 3 u0))]) (v := nI (i + 1)) G 1 dX7_best_79 rfl (nI_1 i) (by decide) rfl rfl ?_
            refine jv_goto (q := 12) G dX7_best_82 (by decide) ?_
            refine jv_lo [0, 2, 3, 4, 5] (lo' := [(5, .int (nI (i + 1))), (4, .int (jv_oN (m_bst (fun e => m_wl M C e (mc_l C).length) p1 i))), (0, .ref (z 6 0)), (2, .int (jv_bI p1)), (3, .ref (z 3 u0))]) rfl ?_
            skip
            have eb : (m_bst (fun e => m_wl M C e (mc_l C).length) p1 (i + 1)) = (m_bst (fun e => m_wl M C e (mc_l C).length) p1 i) := by
              rw [m_bst, bn]; simp only [c6, Bool.or_true, Bool.true_or, Bool.or_false, Bool.false_or, Bool.and_true, Bool.and_false, Bool.not_true, Bool.not_false, Bool.true_and, Bool.false_and, if_true, Bool.false_eq_true, if_false, reduceIte]
            have q := ih (i + 1) (by omega)
            rw [eb] at q; exact q
          · cases c7
        · refine jv_iconst (q := 32) (v := nI 1) G dX7_best_31 (by decide) rfl ?_
          refine jv_goto (q := 36) G dX7_best_32 (by decide) ?_
          refine jv_topI (y := jv_bI true) rfl ?_
          refine jv_istore (q := 38) (lo' := [(6, .int (jv_bI true)), (5, .int (nI i)), (4, .int (jv_oN (m_bst (fun e => m_wl M C e (mc_l C).length) p1 i))), (0, .ref (z 6 0)), (2, .int (jv_bI p1)), (3, .ref (z 3 u0))]) G dX7_best_36 (by decide) rfl rfl ?_
          refine jv_iload (q := 40) G 0 dX7_best_38 rfl rfl ?_
          refine jv_if_eqB (q := 43) (tgt := 79) G dX7_best_40 (by decide) rfl (fun c8 => ?_) (fun c8 => ?_)
          · cases c8
          · refine jv_aload_n (q := 44) G 3 dX7_best_43 rfl rfl rfl ?_
            refine jv_getQ (q := 47) G dX7_best_44 fl_X7_11 rfl hR.1.1.1 hR.1.1.2.1 rfl ?_
            refine jv_iload (q := 49) G 1 dX7_best_47 rfl rfl ?_
            refine jv_aaldQ (q := 50) G dX7_best_49 hR.1.1.2.2.1 rfl (by omega) (by decide) (hR.1.1.2.2.2.2.2.2.2.2.2.1 i q8i) rfl ?_
            refine jv_getZ (q := 53) G dX7_best_50 fl_X7_155 rfl (hR.1.2.2.1 i q8i).1.1.1 (hR.1.2.2.1 i q8i).2.2.1 rfl ?_
            refine jv_if_eqB (q := 56) (tgt := 79) G dX7_best_53 (by decide) rfl (fun c9 => ?_) (fun c9 => ?_)
            · refine jv_iinc (q := 82) (lo' := [(5, .int (nI (i + 1))), (6, .int (jv_bI true)), (4, .int (jv_oN (m_bst (fun e => m_wl M C e (mc_l C).length) p1 i))), (0, .ref (z 6 0)), (2, .int (jv_bI p1)), (3, .ref (z 3 u0))]) (v := nI (i + 1)) G 1 dX7_best_79 rfl (nI_1 i) (by decide) rfl rfl ?_
              refine jv_goto (q := 12) G dX7_best_82 (by decide) ?_
              refine jv_lo [0, 2, 3, 4, 5] (lo' := [(5, .int (nI (i + 1))), (4, .int (jv_oN (m_bst (fun e => m_wl M C e (mc_l C).length) p1 i))), (0, .ref (z 6 0)), (2, .int (jv_bI p1)), (3, .ref (z 3 u0))]) rfl ?_
              have pe : m_wl M C i (mc_l C).length = false := wl_no c9 _
              have eb : (m_bst (fun e => m_wl M C e (mc_l C).length) p1 (i + 1)) = (m_bst (fun e => m_wl M C e (mc_l C).length) p1 i) := by
                rw [m_bst, bn]; simp only [c6, pe, Bool.or_true, Bool.true_or, Bool.or_false, Bool.false_or, Bool.and_true, Bool.and_false, Bool.not_true, Bool.not_false, Bool.true_and, Bool.false_and, if_true, Bool.false_eq_true, if_false, reduceIte]
              have q := ih (i + 1) (by omega)
              rw [eb] at q; exact q
            · refine jv_aload_n (q := 57) G 5 dX7_best_56 rfl rfl rfl ?_
              refine jv_aload_n (q := 58) G 3 dX7_best_57 rfl rfl rfl ?_
              refine jv_getQ (q := 61) G dX7_best_58 fl_X7_11 rfl hR.1.1.1 hR.1.1.2.1 rfl ?_
              refine jv_iload (q := 63) G 1 dX7_best_61 rfl rfl ?_
              refine jv_aaldQ (q := 64) G dX7_best_63 hR.1.1.2.2.1 rfl (by omega) (by decide) (hR.1.1.2.2.2.2.2.2.2.2.2.1 i q8i) rfl ?_
              refine jv_iconst (q := 65) (v := nI 0) G dX7_best_64 (by decide) rfl ?_
              have hEi := (hR.1.2.2.1 i q8i).1; have hUi := (hR.1.2.2.1 i q8i).2.2.2 c9; have soi := (hR.1.2.2.2 i q8i).2.2 c9
              refine jv_callV_I (q := 68) (h1 := h) (As := [.ref (z 0 i), .int (nI 0)]) (rest := []) (ce' := 0 + 1) (sl' := 0 + 6) (r := nI (fb_ct (c_hm (decide (i = mc_e C)) (ma_t M i) (m_Us (ma_t M i)) (mc_p C) (mc_u C) ((mc_l C).map (c_U M C)) (nI 0)) ((mc_l C).map (c_U M C)).length)) G Z ml_X7_248 (k_howMany (us := (mc_l C).map (c_U M C)) (w := nI 0) hlt hEi hUi lc ca1 cok.2.2.1 q8i ce8 (by rw [List.length_map]; exact ca2) (by rw [List.length_map]; exact l20) (fun j x hx => by rw [List.getElem?_map] at hx; obtain ⟨U, hU, rfl⟩ := Option.map_eq_some_iff.mp hx; exact ca3 j U hU)) lc.1 dX7_best_65 rfl (by decide) (by decide) (by decide) (by decide) (Nat.le_of_ble_eq_true rfl) rfl rfl rfl rfl ?_
              have hct : fb_ct (c_hm (decide (i = mc_e C)) (ma_t M i) (m_Us (ma_t M i)) (mc_p C) (mc_u C) ((mc_l C).map (c_U M C)) (nI 0)) ((mc_l C).map (c_U M C)).length = fb_ct (m_mtp M C i (nI 0)) (mc_l C).length := by rw [List.length_map, fb_ct_cong (fun j _ => hm_eq soC soi cok.2.2.2.1 cok.2.2.2.2.2 j)]
              have hcl := fb_ct_le (m_mtp M C i (nI 0)) (mc_l C).length
              have hwl := wl_ct (M := M) (C := C) (i := i) c9 (fun j U hU => mux_lt soC soi cok.2.2.2.1 (cok.2.2.2.2.2 U (List.mem_of_getElem? hU))) (mc_l C).length (Nat.le_refl _)
              refine jv_topI (y := nI (fb_ct (m_mtp M C i (nI 0)) (mc_l C).length)) (by rw [hct]) ?_
              refine jv_aload_n (q := 69) G 5 dX7_best_68 rfl rfl rfl ?_
              refine jv_getI (q := 72) G dX7_best_69 fl_X7_196 rfl lc.1 ca2 rfl ?_
              refine jv_icmp_neN (q := 75) (tgt := 79) G dX7_best_72 (by decide) rfl (by omega) (by omega) (fun c10 => ?_) (fun c10 => ?_)
              · refine jv_iinc (q := 82) (lo' := [(5, .int (nI (i + 1))), (6, .int (jv_bI true)), (4, .int (jv_oN (m_bst (fun e => m_wl M C e (mc_l C).length) p1 i))), (0, .ref (z 6 0)), (2, .int (jv_bI p1)), (3, .ref (z 3 u0))]) (v := nI (i + 1)) G 1 dX7_best_79 rfl (nI_1 i) (by decide) rfl rfl ?_
                refine jv_goto (q := 12) G dX7_best_82 (by decide) ?_
                refine jv_lo [0, 2, 3, 4, 5] (lo' := [(5, .int (nI (i + 1))), (4, .int (jv_oN (m_bst (fun e => m_wl M C e (mc_l C).length) p1 i))), (0, .ref (z 6 0)), (2, .int (jv_bI p1)), (3, .ref (z 3 u0))]) rfl ?_
                have pe : m_wl M C i (mc_l C).length = false := by rw [hwl]; exact decide_eq_false c10
                have eb : (m_bst (fun e => m_wl M C e (mc_l C).length) p1 (i + 1)) = (m_bst (fun e => m_wl M C e (mc_l C).length) p1 i) := by
                  rw [m_bst, bn]; simp only [c6, pe, Bool.or_true, Bool.true_or, Bool.or_false, Bool.false_or, Bool.and_true, Bool.and_false, Bool.not_true, Bool.not_false, Bool.true_and, Bool.false_and, if_true, Bool.false_eq_true, if_false, reduceIte]
                have q := ih (i + 1) (by omega)
                rw [eb] at q; exact q
              · refine jv_iload (q := 77) G 1 dX7_best_75 rfl rfl ?_
                refine jv_istore (q := 79) (lo' := [(4, .int (nI i)), (6, .int (jv_bI true)), (5, .int (nI i)), (0, .ref (z 6 0)), (2, .int (jv_bI p1)), (3, .ref (z 3 u0))]) G dX7_best_77 (by decide) rfl rfl ?_
                refine jv_iinc (q := 82) (lo' := [(5, .int (nI (i + 1))), (4, .int (nI i)), (6, .int (jv_bI true)), (0, .ref (z 6 0)), (2, .int (jv_bI p1)), (3, .ref (z 3 u0))]) (v := nI (i + 1)) G 2 dX7_best_79 rfl (nI_1 i) (by decide) rfl rfl ?_
                refine jv_goto (q := 12) G dX7_best_82 (by decide) ?_
                refine jv_lo [0, 1, 3, 4, 5] (lo' := [(5, .int (nI (i + 1))), (4, .int (nI i)), (0, .ref (z 6 0)), (2, .int (jv_bI p1)), (3, .ref (z 3 u0))]) rfl ?_
                have pe : m_wl M C i (mc_l C).length = true := by rw [hwl]; exact decide_eq_true c10
                have eb : (m_bst (fun e => m_wl M C e (mc_l C).length) p1 (i + 1)) = some i := by
                  rw [m_bst, bn]; simp only [c6, pe, Bool.or_true, Bool.true_or, Bool.or_false, Bool.false_or, Bool.and_true, Bool.and_false, Bool.not_true, Bool.not_false, Bool.true_and, Bool.false_and, if_true, Bool.false_eq_true, if_false, reduceIte]
                have q := ih (i + 1) (by omega)
                rw [eb] at q; exact q
set_option maxHeartbeats 4000000 in
set_option maxRecDepth 100000 in
theorem k_best {lA : Launch} (hlt : lA.stackTraces = false) {D : jv_D} {base : Nat} {z : Nat → Nat → Nat} {T : Nat → Nat} {N : Nat → Nat → Nat} {tO : Nat → Nat} {h : jv_H} {M : mA} (hR : cl_R z T N tO h M) {p0 : Int32} {p1 : Bool} : jv_Met lA D base yX7_best (.code yX7_best cX7_best 7 (some .int)) 8 1 6 [.ref (z 6 0), .int p0, .int (jv_bI p1)] h (pC z tO h (m_cF M p0, m_best M p0 p1, M)) (pX z tO h ["java/lang/IndexOutOfBoundsException"] (m_cF M p0, m_best M p0 p1, M)) := by
  refine jv_ofV (lo := [(0, .ref (z 6 0)), (1, .int p0), (2, .int (jv_bI p1))]) hlt (by decide) (Nat.le_of_ble_eq_true rfl) rfl (fun E hEl hEd hEz Z G hr ht hnm => ?_)
  subst hEl; subst hEd; subst hEz
  have hl8 := hR.1.2.1.2.1; have hl12 := hR.1.2.1.2.2.2
  refine jv_aload_n (q := 1) G 0 dX7_best_0 rfl rfl rfl ?_
  refine jv_iload_n (q := 2) G 1 dX7_best_1 rfl rfl rfl ?_
  refine jv_callV (q := 5) (As := [.int p0]) (rest := []) G Z ml_X7_190 (k_callerAt hlt hR) hR.1.1.1 dX7_best_2 rfl (by decide) (by decide) (by decide) (by decide) (Nat.le_of_ble_eq_true rfl) rfl rfl (fun v2 h1 y3 => ?_) (fun cx hx yx => jv_out G ht (Nat.le_of_ble_eq_true rfl) (Nat.le_of_ble_eq_true rfl) (by obtain ⟨y1, y2, rfl⟩ := yx; exact pX_c hR (cF_1 y1) (by decide) y2))
  obtain ⟨u0, hu0, rfl, zu0, rfl, rfl⟩ := y3
  show jv_V E 7 h (0 + 1) (0 + 6) (jv_Q E (pC z tO h (m_cF M (nI u0), m_best M (nI u0) p1, M)) (pX z tO h ["java/lang/IndexOutOfBoundsException"] (m_cF M (nI u0), m_best M (nI u0) p1, M)) 1 6) 5 [(0, .ref (z 6 0)), (1, .int (nI u0)), (2, .int (jv_bI p1))] [.ref (z 3 u0)]
  have q8u0 : u0 < 12 := by omega
  obtain ⟨C, hC⟩ := jv_getLt (l := M.2) hu0
  obtain ⟨⟨ca1, ca2, ca3⟩, cok⟩ := hR.2.1.2 u0 C hC
  have lc := hR.2.1.1 u0 q8u0
  have l20 := cok.2.2.2.2.1; have ce8 : mc_e C < 8 := by have := cok.1; omega
  have soC := (hR.1.2.2.2 (mc_e C) ce8).2.2 cok.2.1
  refine jv_astore_n (q := 6) (lo' := [(3, .ref (z 3 u0)), (0, .ref (z 6 0)), (1, .int (nI u0)), (2, .int (jv_bI p1))]) G dX7_best_5 rfl (by decide) rfl rfl ?_
  refine jv_iconst (q := 7) (v := (-1)) G dX7_best_6 (by decide) rfl ?_
  refine jv_istore (q := 9) (lo' := [(4, .int (-1)), (3, .ref (z 3 u0)), (0, .ref (z 6 0)), (1, .int (nI u0)), (2, .int (jv_bI p1))]) G dX7_best_7 (by decide) rfl rfl ?_
  refine jv_iconst (q := 10) (v := nI 0) G dX7_best_9 (by decide) rfl ?_
  refine jv_istore (q := 12) (lo' := [(5, .int (nI 0)), (4, .int (-1)), (3, .ref (z 3 u0)), (0, .ref (z 6 0)), (1, .int (nI u0)), (2, .int (jv_bI p1))]) G dX7_best_10 (by decide) rfl rfl ?_
  refine jv_lo [0, 1, 3, 5, 2] (lo' := [(5, .int (nI 0)), (4, .int (-1)), (0, .ref (z 6 0)), (2, .int (jv_bI p1)), (3, .ref (z 3 u0))]) rfl ?_
  show jv_V E 7 h (0 + 1) (0 + 6) (jv_Q E (pC z tO h (m_cF M (nI u0), m_best M (nI u0) p1, M)) (pX z tO h ["java/lang/IndexOutOfBoundsException"] (m_cF M (nI u0), m_best M (nI u0) p1, M)) 1 6) 12 [(5, .int (nI 0)), (4, .int (jv_oN (m_bst (fun e => m_wl M C e (mc_l C).length) p1 0))), (0, .ref (z 6 0)), (2, .int (jv_bI p1)), (3, .ref (z 3 u0))] []
  refine k_best_loop hR hC q8u0 hlt G Z ?_ M.1.length 0 (by omega)
  refine jv_iload (q := 87) G 0 dX7_best_85 rfl rfl ?_
  refine jv_iret G hr dX7_best_87 (Nat.le_of_ble_eq_true rfl) (Nat.le_of_ble_eq_true rfl) ?_
  exact pC_c hR (cF_0 zu0) (by rw [best_eq zu0 hC])
set_option maxHeartbeats 4000000 in
set_option maxRecDepth 100000 in
theorem k_differ {lA : Launch} (hlt : lA.stackTraces = false) {D : jv_D} {base : Nat} {z : Nat → Nat → Nat} {T : Nat → Nat} {N : Nat → Nat → Nat} {tO : Nat → Nat} {h : jv_H} {M : mA} (hR : cl_R z T N tO h M) {p0 : Int32} {p1 : Int32} : jv_Met lA D base yX7_differ (.code yX7_differ cX7_differ 3 (some .int)) 7 4 24 [.ref (z 6 0), .int p0, .int p1] h (pC z tO h (m_paF M p0 p1, m_differ M p0 p1, M)) (pX z tO h ["java/lang/IndexOutOfBoundsException", "java/lang/IllegalStateException"] (m_paF M p0 p1, m_differ M p0 p1, M)) := by
  refine jv_ofV (lo := [(0, .ref (z 6 0)), (1, .int p0), (2, .int p1)]) hlt (by decide) (Nat.le_of_ble_eq_true rfl) rfl (fun E hEl hEd hEz Z G hr ht hnm => ?_)
  subst hEl; subst hEd; subst hEz
  have hl8 := hR.1.2.1.2.1; have hl12 := hR.1.2.1.2.2.2
  refine jv_aload_n (q := 1) G 0 dX7_differ_0 rfl rfl rfl ?_
  refine jv_iload_n (q := 2) G 1 dX7_differ_1 rfl rfl rfl ?_
  refine jv_iload_n (q := 3) G 2 dX7_differ_2 rfl rfl rfl ?_
  refine jv_callV (q := 6) (As := [.int p0, .int p1]) (rest := []) G Z ml_X7_255 (k_refuseUnfitPair hlt hR) hR.1.1.1 dX7_differ_3 rfl (by decide) (by decide) (by decide) (by decide) (Nat.le_of_ble_eq_true rfl) rfl rfl (fun v2 h1 y3 => ?_) (fun cx hx yx => jv_out G ht (Nat.le_of_ble_eq_true rfl) (Nat.le_of_ble_eq_true rfl) (by obtain ⟨rfl, y1 | y1⟩ := yx; exact pX_c hR y1.1 (by decide) y1.2; exact pX_c hR y1.1 (by decide) y1.2))
  obtain ⟨u0, u1, hu0, hu1, rfl, rfl, zu0, zu1, hs0, hs1, rfl, rfl⟩ := y3
  show jv_V E 3 h (0 + 4) (0 + 24) (jv_Q E (pC z tO h (m_paF M (nI u0) (nI u1), m_differ M (nI u0) (nI u1), M)) (pX z tO h ["java/lang/IndexOutOfBoundsException", "java/lang/IllegalStateException"] (m_paF M (nI u0) (nI u1), m_differ M (nI u0) (nI u1), M)) 4 24) 6 [(0, .ref (z 6 0)), (1, .int (nI u0)), (2, .int (nI u1))] []
  have q8u0 : u0 < 8 := by omega
  have q8u1 : u1 < 8 := by omega
  have hEu0 := (hR.1.2.2.1 u0 q8u0).1; have hUu0 := (hR.1.2.2.1 u0 q8u0).2.2.2 hs0; have sou0 := (hR.1.2.2.2 u0 q8u0).2.2 hs0
  have hEu1 := (hR.1.2.2.1 u1 q8u1).1; have hUu1 := (hR.1.2.2.1 u1 q8u1).2.2.2 hs1; have sou1 := (hR.1.2.2.2 u1 q8u1).2.2 hs1
  refine jv_aload_n (q := 7) G 0 dX7_differ_6 rfl rfl rfl ?_
  refine jv_getQ (q := 10) G dX7_differ_7 fl_X7_24 rfl hR.1.1.1 hR.1.1.2.2.2.2.2.1 rfl ?_
  refine jv_aload_n (q := 11) G 0 dX7_differ_10 rfl rfl rfl ?_
  refine jv_getQ (q := 14) G dX7_differ_11 fl_X7_11 rfl hR.1.1.1 hR.1.1.2.1 rfl ?_
  refine jv_iload_n (q := 15) G 1 dX7_differ_14 rfl rfl rfl ?_
  refine jv_aaldQ (q := 16) G dX7_differ_15 hR.1.1.2.2.1 rfl (by omega) (by decide) (hR.1.1.2.2.2.2.2.2.2.2.2.1 u0 q8u0) rfl ?_
  refine jv_aload_n (q := 17) G 0 dX7_differ_16 rfl rfl rfl ?_
  refine jv_getQ (q := 20) G dX7_differ_17 fl_X7_11 rfl hR.1.1.1 hR.1.1.2.1 rfl ?_
  refine jv_iload_n (q := 21) G 2 dX7_differ_20 rfl rfl rfl ?_
  refine jv_aaldQ (q := 22) G dX7_differ_21 hR.1.1.2.2.1 rfl (by omega) (by decide) (hR.1.1.2.2.2.2.2.2.2.2.2.1 u1 q8u1) rfl ?_
  refine jv_callV (q := 25) (As := [.ref (z 0 u0), .ref (z 0 u1)]) (rest := []) G Z ml_X7_259 (k_compare hlt hEu0 hEu1 hUu0 hUu1 (ha_abv sou0) (ha_abv sou1) (fun i t ht => sou0.uk ht) (fun i t ht => sou1.uk ht) sou0.1.2.1 hR.2.2.1.1 rfl rfl (hcv_of hR q8u0 q8u1)) hR.2.2.1.1.1 dX7_differ_22 rfl (by decide) (by decide) (by decide) (by decide) (Nat.le_of_ble_eq_true rfl) rfl rfl (fun v5 h4 y6 => ?_) (fun _ _ hx => hx.elim)
  obtain ⟨rfl, hFk, k1, k2, kd⟩ := y6
  show jv_V E 3 h4 (0 + 4) (0 + 24) (jv_Q E (pC z tO h (m_paF M (nI u0) (nI u1), m_differ M (nI u0) (nI u1), M)) (pX z tO h ["java/lang/IndexOutOfBoundsException", "java/lang/IllegalStateException"] (m_paF M (nI u0) (nI u1), m_differ M (nI u0) (nI u1), M)) 4 24) 25 [(0, .ref (z 6 0)), (1, .int (nI u0)), (2, .int (nI u1))] []
  have sfk := sk_F hR.2.2.1.1 hFk
  have hR1 := cl_R.K hR sfk ⟨kd.1, Or.inr ⟨u0, u1, hu0, hu1, hs0, hs1, k1, k2, kd⟩⟩
  refine jv_aload_n (q := 26) G 0 dX7_differ_25 rfl rfl rfl ?_
  refine jv_getQ (q := 29) G dX7_differ_26 fl_X7_24 rfl hR1.1.1.1 hR1.1.1.2.2.2.2.2.1 rfl ?_
  refine jv_getI (q := 32) G dX7_differ_29 fl_X7_263 rfl hR1.2.2.1.1.1 kd.2.2.2 rfl ?_
  refine jv_iret G hr dX7_differ_32 (Nat.le_of_ble_eq_true rfl) (Nat.le_of_ble_eq_true rfl) ?_
  exact pC_h hR1 (sfk.mono ks_cs) (pa_0 zu0 zu1 hs0 hs1) (by rw [differ_eq zu0 zu1]; rfl)
theorem cmp_eq {M : mA} {a b : Int32} {i j : Nat} (h1 : m_ix1 M.1.length a = some i) (h2 : m_ix1 M.1.length b = some j) (hA : m_so (ma_t M i)) (hB : m_so (ma_t M j)) (hkc : ∀ t ∈ ma_t M i, m_kc t) : m_cmp M a b = jv_bI (c_fit (ma_t M i) (ma_t M j)) := by
  unfold m_cmp c_fit
  rw [h1, h2, fit_eq hA hB hkc (own := decide (j = i)) (fun q => by rw [of_decide_eq_true q])]
set_option maxHeartbeats 4000000 in
set_option maxRecDepth 100000 in
theorem k_compatible {lA : Launch} (hlt : lA.stackTraces = false) {D : jv_D} {base : Nat} {z : Nat → Nat → Nat} {T : Nat → Nat} {N : Nat → Nat → Nat} {tO : Nat → Nat} {h : jv_H} {M : mA} (hR : cl_R z T N tO h M) {p0 : Int32} {p1 : Int32} : jv_Met lA D base yX7_compatible (.code yX7_compatible cX7_compatible 4 (some .boolean)) 8 4 24 [.ref (z 6 0), .int p0, .int p1] h (pC z tO h (m_paF M p0 p1, m_cmp M p0 p1, M)) (pX z tO h ["java/lang/IndexOutOfBoundsException", "java/lang/IllegalStateException"] (m_paF M p0 p1, m_cmp M p0 p1, M)) := by
  refine jv_ofV (lo := [(0, .ref (z 6 0)), (1, .int p0), (2, .int p1)]) hlt (by decide) (Nat.le_of_ble_eq_true rfl) rfl (fun E hEl hEd hEz Z G hr ht hnm => ?_)
  subst hEl; subst hEd; subst hEz
  have hl8 := hR.1.2.1.2.1; have hl12 := hR.1.2.1.2.2.2
  refine jv_aload_n (q := 1) G 0 dX7_compatible_0 rfl rfl rfl ?_
  refine jv_iload_n (q := 2) G 1 dX7_compatible_1 rfl rfl rfl ?_
  refine jv_iload_n (q := 3) G 2 dX7_compatible_2 rfl rfl rfl ?_
  refine jv_callV (q := 6) (As := [.int p0, .int p1]) (rest := []) G Z ml_X7_255 (k_refuseUnfitPair hlt hR) hR.1.1.1 dX7_compatible_3 rfl (by decide) (by decide) (by decide) (by decide) (Nat.le_of_ble_eq_true rfl) rfl rfl (fun v2 h1 y3 => ?_) (fun cx hx yx => jv_out G ht (Nat.le_of_ble_eq_true rfl) (Nat.le_of_ble_eq_true rfl) (by obtain ⟨rfl, y1 | y1⟩ := yx; exact pX_c hR y1.1 (by decide) y1.2; exact pX_c hR y1.1 (by decide) y1.2))
  obtain ⟨u0, u1, hu0, hu1, rfl, rfl, zu0, zu1, hs0, hs1, rfl, rfl⟩ := y3
  show jv_V E 4 h (0 + 4) (0 + 24) (jv_Q E (pC z tO h (m_paF M (nI u0) (nI u1), m_cmp M (nI u0) (nI u1), M)) (pX z tO h ["java/lang/IndexOutOfBoundsException", "java/lang/IllegalStateException"] (m_paF M (nI u0) (nI u1), m_cmp M (nI u0) (nI u1), M)) 4 24) 6 [(0, .ref (z 6 0)), (1, .int (nI u0)), (2, .int (nI u1))] []
  have q8u0 : u0 < 8 := by omega
  have q8u1 : u1 < 8 := by omega
  have hEu0 := (hR.1.2.2.1 u0 q8u0).1; have hUu0 := (hR.1.2.2.1 u0 q8u0).2.2.2 hs0; have sou0 := (hR.1.2.2.2 u0 q8u0).2.2 hs0
  have hEu1 := (hR.1.2.2.1 u1 q8u1).1; have hUu1 := (hR.1.2.2.1 u1 q8u1).2.2.2 hs1; have sou1 := (hR.1.2.2.2 u1 q8u1).2.2 hs1
  refine jv_iload_n (q := 7) G 1 dX7_compatible_6 rfl rfl rfl ?_
  refine jv_bipush (q := 9) (v := nI 8) G dX7_compatible_7 (by decide) rfl ?_
  refine jv_imulN (q := 10) G dX7_compatible_9 rfl ?_
  refine jv_iload_n (q := 11) G 2 dX7_compatible_10 rfl rfl rfl ?_
  refine jv_iaddN (q := 12) G dX7_compatible_11 rfl ?_
  refine jv_istore_n (q := 13) (lo' := [(3, .int (nI ((u0 * 8) + u1))), (0, .ref (z 6 0)), (1, .int (nI u0)), (2, .int (nI u1))]) G dX7_compatible_12 rfl (by decide) rfl rfl ?_
  have hkc0 : ∀ t ∈ ma_t M u0, m_kc t := fun t ht => ((hR.1.2.2.2 u0 q8u0).2.1 t ht).2.2
  rcases hR.2.2.2.1 u0 u1 q8u0 q8u1 with fz | ⟨-, -, -, -, fz⟩
  all_goals rw [show 8 * u0 + u1 = (u0 * 8) + u1 by omega] at fz
  · refine jv_aload_n (q := 14) G 1 dX7_compatible_13 rfl rfl rfl ?_
    refine jv_getQ (q := 17) G dX7_compatible_14 fl_X7_35 rfl hR.1.1.1 hR.1.1.2.2.2.2.2.2.2.1 rfl ?_
    refine jv_iload_n (q := 18) G 0 dX7_compatible_17 rfl rfl rfl ?_
    refine jv_iald (q := 19) G dX7_compatible_18 hR.1.1.2.2.2.2.2.2.2.2.1 rfl (by omega) (by decide) fz rfl ?_
    refine jv_if_neN (q := 22) (tgt := 55) G dX7_compatible_19 (by decide) rfl (by omega) (fun c4 => ?_) (fun c4 => ?_)
    · omega
    · refine jv_aload_n (q := 23) G 1 dX7_compatible_22 rfl rfl rfl ?_
      refine jv_getQ (q := 26) G dX7_compatible_23 fl_X7_35 rfl hR.1.1.1 hR.1.1.2.2.2.2.2.2.2.1 rfl ?_
      refine jv_iload_n (q := 27) G 0 dX7_compatible_26 rfl rfl rfl ?_
      refine jv_aload_n (q := 28) G 1 dX7_compatible_27 rfl rfl rfl ?_
      refine jv_getQ (q := 31) G dX7_compatible_28 fl_X7_31 rfl hR.1.1.1 hR.1.1.2.2.2.2.2.2.1 rfl ?_
      refine jv_aload_n (q := 32) G 1 dX7_compatible_31 rfl rfl rfl ?_
      refine jv_getQ (q := 35) G dX7_compatible_32 fl_X7_11 rfl hR.1.1.1 hR.1.1.2.1 rfl ?_
      refine jv_iload_n (q := 36) G 2 dX7_compatible_35 rfl rfl rfl ?_
      refine jv_aaldQ (q := 37) G dX7_compatible_36 hR.1.1.2.2.1 rfl (by omega) (by decide) (hR.1.1.2.2.2.2.2.2.2.2.2.1 u0 q8u0) rfl ?_
      refine jv_aload_n (q := 38) G 1 dX7_compatible_37 rfl rfl rfl ?_
      refine jv_getQ (q := 41) G dX7_compatible_38 fl_X7_11 rfl hR.1.1.1 hR.1.1.2.1 rfl ?_
      refine jv_iload_n (q := 42) G 3 dX7_compatible_41 rfl rfl rfl ?_
      refine jv_aaldQ (q := 43) G dX7_compatible_42 hR.1.1.2.2.1 rfl (by omega) (by decide) (hR.1.1.2.2.2.2.2.2.2.2.2.1 u1 q8u1) rfl ?_
      refine jv_callV (q := 46) (As := [.ref (z 0 u0), .ref (z 0 u1)]) (rest := [.int (nI ((u0 * 8) + u1)), .ref (z 6 5)]) G Z ml_X7_274 (k_allFit hlt hEu0 hEu1 hUu0 hUu1 hR.2.2.2.2.1 q8u0) hR.2.2.2.2.1.1 dX7_compatible_43 rfl (by decide) (by decide) (by decide) (by decide) (Nat.le_of_ble_eq_true rfl) rfl rfl (fun v6 h5 y7 => ?_) (fun _ _ hx => hx.elim)
      obtain ⟨rfl, hFp⟩ := y7
      show jv_V E 4 h5 (0 + 4) (0 + 24) (jv_Q E (pC z tO h (m_paF M (nI u0) (nI u1), m_cmp M (nI u0) (nI u1), M)) (pX z tO h ["java/lang/IndexOutOfBoundsException", "java/lang/IllegalStateException"] (m_paF M (nI u0) (nI u1), m_cmp M (nI u0) (nI u1), M)) 4 24) 46 [(3, .int (nI ((u0 * 8) + u1))), (0, .ref (z 6 0)), (1, .int (nI u0)), (2, .int (nI u1))] [.int (jv_bI (c_fit (ma_t M u0) (ma_t M u1))), .int (nI ((u0 * 8) + u1)), .ref (z 6 5)]
      have hR1 := cl_R.P hR hFp; have sfp := sp_F hR.2.2.2.2.1 hFp
      refine jv_if_eqB (q := 49) (tgt := 53) G dX7_compatible_46 (by decide) rfl (fun c8 => ?_) (fun c8 => ?_)
      · refine jv_iconst (q := 54) (v := nI 1) G dX7_compatible_53 (by decide) rfl ?_
        refine jv_iast (q := 55) G dX7_compatible_54 hR1.1.1.2.2.2.2.2.2.2.2.1 rfl (by omega) (by decide) rfl ?_
        obtain ⟨hR2, sf2⟩ := cl_R.F hR1 hu0 hu1 hs0 hs1 (i := (u0 * 8) + u1) (by omega)
        have ef : (if c_fit (ma_t M u0) (ma_t M u1) then 2 else 1) = 1 := by rw [c8]; rfl
        rw [ef] at hR2 sf2
        have fz2 : jv_I (jv_wI h5 (z 6 5) ((u0 * 8) + u1) (nI 1)) (z 6 5) ((u0 * 8) + u1) = nI 1 := jv_I_self _ _ _ _
        generalize jv_wI h5 (z 6 5) ((u0 * 8) + u1) (nI 1) = h9 at hR2 sf2 fz2 ⊢
        refine jv_aload_n (q := 56) G 1 dX7_compatible_55 rfl rfl rfl ?_
        refine jv_getQ (q := 59) G dX7_compatible_56 fl_X7_35 rfl hR2.1.1.1 hR2.1.1.2.2.2.2.2.2.2.1 rfl ?_
        refine jv_iload_n (q := 60) G 0 dX7_compatible_59 rfl rfl rfl ?_
        refine jv_iald (q := 61) G dX7_compatible_60 hR2.1.1.2.2.2.2.2.2.2.2.1 rfl (by omega) (by decide) fz2 rfl ?_
        refine jv_iconst (q := 62) (v := nI 2) G dX7_compatible_61 (by decide) rfl ?_
        refine jv_icmp_neN (q := 65) (tgt := 69) G dX7_compatible_62 (by decide) rfl (by omega) (by omega) (fun c9 => ?_) (fun c9 => ?_)
        · refine jv_iconst (q := 70) (v := nI 0) G dX7_compatible_69 (by decide) rfl ?_
          refine jv_topI (y := jv_bI false) rfl ?_
          refine jv_zret G hr dX7_compatible_70 (Nat.le_of_ble_eq_true rfl) (Nat.le_of_ble_eq_true rfl) ?_
          exact pC_h hR2 ((sfp.mono us_cs).tr (sf2.mono as_cs)) (pa_0 zu0 zu1 hs0 hs1) (by rw [cmp_eq zu0 zu1 sou0 sou1 hkc0, c8])
        · omega
      · refine jv_iconst (q := 50) (v := nI 2) G dX7_compatible_49 (by decide) rfl ?_
        refine jv_goto (q := 54) G dX7_compatible_50 (by decide) ?_
        refine jv_iast (q := 55) G dX7_compatible_54 hR1.1.1.2.2.2.2.2.2.2.2.1 rfl (by omega) (by decide) rfl ?_
        obtain ⟨hR2, sf2⟩ := cl_R.F hR1 hu0 hu1 hs0 hs1 (i := (u0 * 8) + u1) (by omega)
        have ef : (if c_fit (ma_t M u0) (ma_t M u1) then 2 else 1) = 2 := by rw [c8]; rfl
        rw [ef] at hR2 sf2
        have fz2 : jv_I (jv_wI h5 (z 6 5) ((u0 * 8) + u1) (nI 2)) (z 6 5) ((u0 * 8) + u1) = nI 2 := jv_I_self _ _ _ _
        generalize jv_wI h5 (z 6 5) ((u0 * 8) + u1) (nI 2) = h9 at hR2 sf2 fz2 ⊢
        refine jv_aload_n (q := 56) G 1 dX7_compatible_55 rfl rfl rfl ?_
        refine jv_getQ (q := 59) G dX7_compatible_56 fl_X7_35 rfl hR2.1.1.1 hR2.1.1.2.2.2.2.2.2.2.1 rfl ?_
        refine jv_iload_n (q := 60) G 0 dX7_compatible_59 rfl rfl rfl ?_
        refine jv_iald (q := 61) G dX7_compatible_60 hR2.1.1.2.2.2.2.2.2.2.2.1 rfl (by omega) (by decide) fz2 rfl ?_
        refine jv_iconst (q := 62) (v := nI 2) G dX7_compatible_61 (by decide) rfl ?_
        refine jv_icmp_neN (q := 65) (tgt := 69) G dX7_compatible_62 (by decide) rfl (by omega) (by omega) (fun c10 => ?_) (fun c10 => ?_)
        · omega
        · refine jv_iconst (q := 66) (v := nI 1) G dX7_compatible_65 (by decide) rfl ?_
          refine jv_goto (q := 70) G dX7_compatible_66 (by decide) ?_
          refine jv_topI (y := jv_bI true) rfl ?_
          refine jv_zret G hr dX7_compatible_70 (Nat.le_of_ble_eq_true rfl) (Nat.le_of_ble_eq_true rfl) ?_
          exact pC_h hR2 ((sfp.mono us_cs).tr (sf2.mono as_cs)) (pa_0 zu0 zu1 hs0 hs1) (by rw [cmp_eq zu0 zu1 sou0 sou1 hkc0, c8])
  · have fb : (if c_fit (ma_t M u0) (ma_t M u1) then 2 else 1) < 3 := by split <;> omega
    have fb0 : ¬ (if c_fit (ma_t M u0) (ma_t M u1) then 2 else 1) = 0 := by split <;> omega
    refine jv_aload_n (q := 14) G 1 dX7_compatible_13 rfl rfl rfl ?_
    refine jv_getQ (q := 17) G dX7_compatible_14 fl_X7_35 rfl hR.1.1.1 hR.1.1.2.2.2.2.2.2.2.1 rfl ?_
    refine jv_iload_n (q := 18) G 0 dX7_compatible_17 rfl rfl rfl ?_
    refine jv_iald (q := 19) G dX7_compatible_18 hR.1.1.2.2.2.2.2.2.2.2.1 rfl (by omega) (by decide) fz rfl ?_
    refine jv_if_neN (q := 22) (tgt := 55) G dX7_compatible_19 (by decide) rfl (by omega) (fun c11 => ?_) (fun c11 => ?_)
    · refine jv_aload_n (q := 56) G 1 dX7_compatible_55 rfl rfl rfl ?_
      refine jv_getQ (q := 59) G dX7_compatible_56 fl_X7_35 rfl hR.1.1.1 hR.1.1.2.2.2.2.2.2.2.1 rfl ?_
      refine jv_iload_n (q := 60) G 0 dX7_compatible_59 rfl rfl rfl ?_
      refine jv_iald (q := 61) G dX7_compatible_60 hR.1.1.2.2.2.2.2.2.2.2.1 rfl (by omega) (by decide) fz rfl ?_
      refine jv_iconst (q := 62) (v := nI 2) G dX7_compatible_61 (by decide) rfl ?_
      refine jv_icmp_neN (q := 65) (tgt := 69) G dX7_compatible_62 (by decide) rfl (by omega) (by omega) (fun c12 => ?_) (fun c12 => ?_)
      · refine jv_iconst (q := 70) (v := nI 0) G dX7_compatible_69 (by decide) rfl ?_
        refine jv_topI (y := jv_bI false) rfl ?_
        refine jv_zret G hr dX7_compatible_70 (Nat.le_of_ble_eq_true rfl) (Nat.le_of_ble_eq_true rfl) ?_
        refine pC_c hR (pa_0 zu0 zu1 hs0 hs1) ?_
        rw [cmp_eq zu0 zu1 sou0 sou1 hkc0]
        cases hq : c_fit (ma_t M u0) (ma_t M u1) with
        | true => rw [hq] at c12; exact absurd rfl c12
        | false => rfl
      · refine jv_iconst (q := 66) (v := nI 1) G dX7_compatible_65 (by decide) rfl ?_
        refine jv_goto (q := 70) G dX7_compatible_66 (by decide) ?_
        refine jv_topI (y := jv_bI true) rfl ?_
        refine jv_zret G hr dX7_compatible_70 (Nat.le_of_ble_eq_true rfl) (Nat.le_of_ble_eq_true rfl) ?_
        refine pC_c hR (pa_0 zu0 zu1 hs0 hs1) ?_
        rw [cmp_eq zu0 zu1 sou0 sou1 hkc0]
        cases hq : c_fit (ma_t M u0) (ma_t M u1) with
        | true => rfl
        | false => rw [hq] at c12; cases c12
    · exact absurd c11 fb0
