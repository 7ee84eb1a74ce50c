theorem wd_M {i k j : Nat} (o : o_M i k j) : ¬ (fun k _ => 34 ≤ k ∧ k ≤ 39) k j := by unfold o_M k_m at o; dsimp only; omega
theorem wd_T {i k j : Nat} (o : o_T i k j) : ¬ (fun k _ => 34 ≤ k ∧ k ≤ 39) k j := by unfold o_T k_t k_m at o; dsimp only; omega
theorem wd_E {i k j : Nat} (o : o_E i k j) : ¬ (fun k _ => 34 ≤ k ∧ k ≤ 39) k j := by unfold o_E k_t k_m at o; dsimp only; omega
set_option maxHeartbeats 4000000 in
set_option maxRecDepth 100000 in
theorem r_tellMember0 {lA : Launch} (hlt : lA.stackTraces = false) {D : jv_D} {base : Nat} {x : Nat} {q : Nat → Nat} {h : jv_H} {a b t i K : Nat} {A B : List mT} {s : mS} {tx : mT} {L : List mR} (hS0 : rf_S x q h) (ha : a < 8) (hb : b < 8) (ht16 : t < 16) (hK : K < 128) (hEA : rf_E q h a A) (hEB : rf_E q h b B) (htk : rf_tk q h b B s.1) (hwh : rf_wh q h a A s.2) (hs16 : ∀ z u, s.2 z = some u → u < 16) (hD : rf_D q h L) (hx : jv_I h x 33 = nI L.length) (hL : L.length < 1390) (hti : A[i]? = some tx) (hnx : mt_n tx = t) : jv_Met lA D base yX8_tellMember (.code yX8_tellMember cX8_tellMember 9 none) 2 0 0 [.ref x, .int (nI t), .int (nI (10 * a + i)), .int (-1), .int (nI (K / 64)), .int (nI (K % 64 / 4)), .int (nI (K % 4))] h (fun v h' => v = none ∧ FW (fun k _ => 34 ≤ k ∧ k ≤ 39) (fun j => j = 33) x q h h' ∧ rf_D q h' (L ++ m_dM s t K (some tx) (none)) ∧ jv_I h' x 33 = nI (L ++ m_dM s t K (some tx) (none)).length) jv_no := by
  refine jv_ofV (lo := [(0, .ref x), (1, .int (nI t)), (2, .int (nI (10 * a + i))), (3, .int (-1)), (4, .int (nI (K / 64))), (5, .int (nI (K % 64 / 4))), (6, .int (nI (K % 4)))]) hlt (by decide) (Nat.le_of_ble_eq_true rfl) rfl (fun E hEl hEd hEz Z G hr ht hnm => ?_)
  subst hEl; subst hEd; subst hEz
  have hF : FW (fun k _ => 34 ≤ k ∧ k ≤ 39) (fun j => j = 33) x q h h := FW.rf
  have hS := hS0
  have hla := hEA.2.1; have hlb := hEB.2.1; have hil := jv_ltGet hti; have hOx := (hEA.2.2 i tx hti).2; have hTx := (hEA.2.2 i tx hti).1
  refine jv_aload_n (q := 1) G 0 dX8_tellMember_0 rfl rfl rfl ?_
  refine jv_iload_n (q := 2) G 2 dX8_tellMember_1 rfl rfl rfl ?_
  refine jv_iload (q := 4) G 4 dX8_tellMember_2 rfl rfl ?_
  refine jv_iload (q := 6) G 5 dX8_tellMember_4 rfl rfl ?_
  refine jv_iload (q := 8) G 6 dX8_tellMember_6 rfl rfl ?_
  refine jv_callV_I (q := 11) (h1 := h) (As := [.int (nI (10 * a + i)), .int (nI (K / 64)), .int (nI (K % 64 / 4)), .int (nI (K % 4))]) (rest := []) (ce' := 0) (sl' := 0) (r := jv_oN ((m_own tx (nI (K / 64)) (nI (K % 64 / 4)) (nI (K % 4))).map (fun j => 6 * (10 * a + i) + j))) G Z ml_X8_155 (r_own hlt hS (by omega) hTx hOx) hS.1 dX8_tellMember_8 rfl (by decide) (by decide) (by decide) (by decide) (Nat.le_of_ble_eq_true rfl) rfl rfl rfl rfl ?_
  rcases Option.eq_none_or_eq_some (m_kj tx K) with hj3 | ⟨j1, hj3⟩
  · refine jv_topI (y := (-1)) (by rw [show m_own tx (nI (K / 64)) (nI (K % 64 / 4)) (nI (K % 4)) = none from hj3]; rfl) ?_
    have ytx : m_km (some tx) K = none := km_n hj3
    refine jv_istore (q := 13) (lo' := [(7, .int (-1)), (0, .ref x), (1, .int (nI t)), (2, .int (nI (10 * a + i))), (3, .int (-1)), (4, .int (nI (K / 64))), (5, .int (nI (K % 64 / 4))), (6, .int (nI (K % 4)))]) G dX8_tellMember_11 (by decide) rfl rfl ?_
    refine jv_iload_n (q := 14) G 4 dX8_tellMember_13 rfl rfl rfl ?_
    refine jv_iconst (q := 15) (v := (-1)) G dX8_tellMember_14 (by decide) rfl ?_
    refine jv_icmp_ne (q := 18) (tgt := 22) G dX8_tellMember_15 (by decide) rfl (fun c6 => ?_) (fun c6 => ?_)
    · exact absurd rfl c6
    · refine jv_iconst (q := 19) (v := (-1)) G dX8_tellMember_18 (by decide) rfl ?_
      refine jv_goto (q := 33) G dX8_tellMember_19 (by decide) ?_
      refine jv_istore (q := 35) (lo' := [(8, .int (-1)), (7, .int (-1)), (0, .ref x), (1, .int (nI t)), (2, .int (nI (10 * a + i))), (3, .int (-1)), (4, .int (nI (K / 64))), (5, .int (nI (K % 64 / 4))), (6, .int (nI (K % 4)))]) G dX8_tellMember_33 (by decide) rfl rfl ?_
      refine jv_iload (q := 37) G 1 dX8_tellMember_35 rfl rfl ?_
      refine jv_iconst (q := 38) (v := (-1)) G dX8_tellMember_37 (by decide) rfl ?_
      refine jv_icmp_eq (q := 41) (tgt := 81) G dX8_tellMember_38 (by decide) rfl (fun c7 => ?_) (fun c7 => ?_)
      · refine jv_iload (q := 83) G 1 dX8_tellMember_81 rfl rfl ?_
        refine jv_iconst (q := 84) (v := (-1)) G dX8_tellMember_83 (by decide) rfl ?_
        refine jv_icmp_eq (q := 87) (tgt := 115) G dX8_tellMember_84 (by decide) rfl (fun c8 => ?_) (fun c8 => ?_)
        · refine jv_iload (q := 117) G 1 dX8_tellMember_115 rfl rfl ?_
          refine jv_iconst (q := 118) (v := (-1)) G dX8_tellMember_117 (by decide) rfl ?_
          refine jv_icmp_ne (q := 121) (tgt := 151) G dX8_tellMember_118 (by decide) rfl (fun c9 => ?_) (fun c9 => ?_)
          · exact absurd rfl c9
          · refine jv_iload (q := 123) G 0 dX8_tellMember_121 rfl rfl ?_
            refine jv_iconst (q := 124) (v := (-1)) G dX8_tellMember_123 (by decide) rfl ?_
            refine jv_icmp_eq (q := 127) (tgt := 151) G dX8_tellMember_124 (by decide) rfl (fun c10 => ?_) (fun c10 => ?_)
            · refine jv_iload (q := 153) G 1 dX8_tellMember_151 rfl rfl ?_
              refine jv_iconst (q := 154) (v := (-1)) G dX8_tellMember_153 (by decide) rfl ?_
              refine jv_icmp_eq (q := 157) (tgt := 163) G dX8_tellMember_154 (by decide) rfl (fun c11 => ?_) (fun c11 => ?_)
              · refine jv_vret G hr dX8_tellMember_163 (Nat.le_of_ble_eq_true rfl) (Nat.le_of_ble_eq_true rfl) ?_
                have eL : L = L ++ m_dM s t K (some tx) (none) := by
                  unfold m_dM
                  simp only [*, km_0]
                  first
                    | done
                    | rfl
                    | (unfold m_dB; simp only [*, List.append_assoc, if_true, if_false, List.nil_append, List.append_nil, List.cons_append, reduceIte, and_self, and_true, true_and, not_true, not_false_iff, false_and, and_false, List.singleton_append]; done)
                    | simp [*]
                rw [eL] at hD hx
                exact ⟨rfl, hF, hD, hx⟩
              · exact absurd rfl c11
            · exact absurd rfl c10
        · exact absurd rfl c8
      · exact absurd rfl c7
  · refine jv_topI (y := nI (6 * (10 * a + i) + j1)) (by rw [show m_own tx (nI (K / 64)) (nI (K % 64 / 4)) (nI (K % 4)) = some j1 from hj3]; rfl) ?_
    obtain ⟨m2, hm2, km2⟩ := kj_some hOx hK hj3
    have Mm2 := rt_m hTx hm2
    have Lm2 := hOx.2.2.2.2.2.1
    have lm2 := jv_ltGet hm2
    have ytx : m_km (some tx) K = some m2 := km_s hj3 hm2
    have Om2 := hOx.2.2.2.2.2.2 m2 (List.mem_of_getElem? hm2)
    have Bm2a := Om2.2.2.1
    have vm2 : jv_I h (q 41) (6 * (10 * a + i) + j1) = jv_oN (s.2 (128 * t + K)) := by
      rw [← hnx, ← km2]; exact hwh _ _ _ _ hti hm2
    rcases Option.eq_none_or_eq_some (s.2 (128 * t + K)) with hv4 | ⟨u5, hv4⟩
    · rw [hv4] at vm2
      refine jv_istore (q := 13) (lo' := [(7, .int (nI (6 * (10 * a + i) + j1))), (0, .ref x), (1, .int (nI t)), (2, .int (nI (10 * a + i))), (3, .int (-1)), (4, .int (nI (K / 64))), (5, .int (nI (K % 64 / 4))), (6, .int (nI (K % 4)))]) G dX8_tellMember_11 (by decide) rfl rfl ?_
      refine jv_iload_n (q := 14) G 4 dX8_tellMember_13 rfl rfl rfl ?_
      refine jv_iconst (q := 15) (v := (-1)) G dX8_tellMember_14 (by decide) rfl ?_
      refine jv_icmp_ne (q := 18) (tgt := 22) G dX8_tellMember_15 (by decide) rfl (fun c12 => ?_) (fun c12 => ?_)
      · exact absurd rfl c12
      · refine jv_iconst (q := 19) (v := (-1)) G dX8_tellMember_18 (by decide) rfl ?_
        refine jv_goto (q := 33) G dX8_tellMember_19 (by decide) ?_
        refine jv_istore (q := 35) (lo' := [(8, .int (-1)), (7, .int (nI (6 * (10 * a + i) + j1))), (0, .ref x), (1, .int (nI t)), (2, .int (nI (10 * a + i))), (3, .int (-1)), (4, .int (nI (K / 64))), (5, .int (nI (K % 64 / 4))), (6, .int (nI (K % 4)))]) G dX8_tellMember_33 (by decide) rfl rfl ?_
        refine jv_iload (q := 37) G 1 dX8_tellMember_35 rfl rfl ?_
        refine jv_iconst (q := 38) (v := (-1)) G dX8_tellMember_37 (by decide) rfl ?_
        refine jv_icmp_eq (q := 41) (tgt := 81) G dX8_tellMember_38 (by decide) rfl (fun c13 => ?_) (fun c13 => ?_)
        · exact absurd c13 (jv_nI_m1 (by omega))
        · refine jv_iload (q := 43) G 0 dX8_tellMember_41 rfl rfl ?_
          refine jv_iconst (q := 44) (v := (-1)) G dX8_tellMember_43 (by decide) rfl ?_
          refine jv_icmp_ne (q := 47) (tgt := 81) G dX8_tellMember_44 (by decide) rfl (fun c14 => ?_) (fun c14 => ?_)
          · exact absurd rfl c14
          · refine jv_aload_n (q := 48) G 2 dX8_tellMember_47 rfl rfl rfl ?_
            refine jv_getQ (q := 51) G dX8_tellMember_48 fl_X8_119 rfl hS.1 (rf_p41 hS) rfl ?_
            refine jv_iload (q := 53) G 1 dX8_tellMember_51 rfl rfl ?_
            refine jv_iald (q := 54) G dX8_tellMember_53 (rf_a41 hS) rfl (by omega) (by decide) ((hF.aq 41 _ (by omega)).trans vm2) rfl ?_
            refine jv_iconst (q := 55) (v := (-1)) G dX8_tellMember_54 (by decide) rfl ?_
            refine jv_icmp_eq (q := 58) (tgt := 81) G dX8_tellMember_55 (by decide) rfl (fun c15 => ?_) (fun c15 => ?_)
            · refine jv_iload (q := 83) G 1 dX8_tellMember_81 rfl rfl ?_
              refine jv_iconst (q := 84) (v := (-1)) G dX8_tellMember_83 (by decide) rfl ?_
              refine jv_icmp_eq (q := 87) (tgt := 115) G dX8_tellMember_84 (by decide) rfl (fun c16 => ?_) (fun c16 => ?_)
              · exact absurd c16 (jv_nI_m1 (by omega))
              · refine jv_iload (q := 89) G 0 dX8_tellMember_87 rfl rfl ?_
                refine jv_iconst (q := 90) (v := (-1)) G dX8_tellMember_89 (by decide) rfl ?_
                refine jv_icmp_ne (q := 93) (tgt := 115) G dX8_tellMember_90 (by decide) rfl (fun c17 => ?_) (fun c17 => ?_)
                · exact absurd rfl c17
                · refine jv_iload_n (q := 94) G 5 dX8_tellMember_93 rfl rfl rfl ?_
                  refine jv_iconst (q := 95) (v := (-1)) G dX8_tellMember_94 (by decide) rfl ?_
                  refine jv_icmp_eq (q := 98) (tgt := 115) G dX8_tellMember_95 (by decide) rfl (fun c18 => ?_) (fun c18 => ?_)
                  · refine jv_iload (q := 117) G 1 dX8_tellMember_115 rfl rfl ?_
                    refine jv_iconst (q := 118) (v := (-1)) G dX8_tellMember_117 (by decide) rfl ?_
                    refine jv_icmp_ne (q := 121) (tgt := 151) G dX8_tellMember_118 (by decide) rfl (fun c19 => ?_) (fun c19 => ?_)
                    · refine jv_iload (q := 153) G 1 dX8_tellMember_151 rfl rfl ?_
                      refine jv_iconst (q := 154) (v := (-1)) G dX8_tellMember_153 (by decide) rfl ?_
                      refine jv_icmp_eq (q := 157) (tgt := 163) G dX8_tellMember_154 (by decide) rfl (fun c20 => ?_) (fun c20 => ?_)
                      · exact absurd c20 (jv_nI_m1 (by omega))
                      · refine jv_iload (q := 159) G 0 dX8_tellMember_157 rfl rfl ?_
                        refine jv_iconst (q := 160) (v := (-1)) G dX8_tellMember_159 (by decide) rfl ?_
                        refine jv_icmp_ne (q := 163) (tgt := 164) G dX8_tellMember_160 (by decide) rfl (fun c21 => ?_) (fun c21 => ?_)
                        · exact absurd rfl c21
                        · refine jv_vret G hr dX8_tellMember_163 (Nat.le_of_ble_eq_true rfl) (Nat.le_of_ble_eq_true rfl) ?_
                          have eL : L = L ++ m_dM s t K (some tx) (none) := by
                            unfold m_dM
                            simp only [*, km_0]
                            first
                              | done
                              | rfl
                              | (unfold m_dB; simp only [*, List.append_assoc, if_true, if_false, List.nil_append, List.append_nil, List.cons_append, reduceIte, and_self, and_true, true_and, not_true, not_false_iff, false_and, and_false, List.singleton_append]; done)
                              | simp [*]
                          rw [eL] at hD hx
                          exact ⟨rfl, hF, hD, hx⟩
                    · exact absurd c19 (jv_nI_m1 (by omega))
                  · exact absurd rfl c18
            · exact absurd rfl c15
    · have bu5 := hs16 _ _ hv4
      rw [hv4] at vm2
      refine jv_istore (q := 13) (lo' := [(7, .int (nI (6 * (10 * a + i) + j1))), (0, .ref x), (1, .int (nI t)), (2, .int (nI (10 * a + i))), (3, .int (-1)), (4, .int (nI (K / 64))), (5, .int (nI (K % 64 / 4))), (6, .int (nI (K % 4)))]) G dX8_tellMember_11 (by decide) rfl rfl ?_
      refine jv_iload_n (q := 14) G 4 dX8_tellMember_13 rfl rfl rfl ?_
      refine jv_iconst (q := 15) (v := (-1)) G dX8_tellMember_14 (by decide) rfl ?_
      refine jv_icmp_ne (q := 18) (tgt := 22) G dX8_tellMember_15 (by decide) rfl (fun c22 => ?_) (fun c22 => ?_)
      · exact absurd rfl c22
      · refine jv_iconst (q := 19) (v := (-1)) G dX8_tellMember_18 (by decide) rfl ?_
        refine jv_goto (q := 33) G dX8_tellMember_19 (by decide) ?_
        refine jv_istore (q := 35) (lo' := [(8, .int (-1)), (7, .int (nI (6 * (10 * a + i) + j1))), (0, .ref x), (1, .int (nI t)), (2, .int (nI (10 * a + i))), (3, .int (-1)), (4, .int (nI (K / 64))), (5, .int (nI (K % 64 / 4))), (6, .int (nI (K % 4)))]) G dX8_tellMember_33 (by decide) rfl rfl ?_
        refine jv_iload (q := 37) G 1 dX8_tellMember_35 rfl rfl ?_
        refine jv_iconst (q := 38) (v := (-1)) G dX8_tellMember_37 (by decide) rfl ?_
        refine jv_icmp_eq (q := 41) (tgt := 81) G dX8_tellMember_38 (by decide) rfl (fun c23 => ?_) (fun c23 => ?_)
        · exact absurd c23 (jv_nI_m1 (by omega))
        · refine jv_iload (q := 43) G 0 dX8_tellMember_41 rfl rfl ?_
          refine jv_iconst (q := 44) (v := (-1)) G dX8_tellMember_43 (by decide) rfl ?_
          refine jv_icmp_ne (q := 47) (tgt := 81) G dX8_tellMember_44 (by decide) rfl (fun c24 => ?_) (fun c24 => ?_)
          · exact absurd rfl c24
          · refine jv_aload_n (q := 48) G 2 dX8_tellMember_47 rfl rfl rfl ?_
            refine jv_getQ (q := 51) G dX8_tellMember_48 fl_X8_119 rfl hS.1 (rf_p41 hS) rfl ?_
            refine jv_iload (q := 53) G 1 dX8_tellMember_51 rfl rfl ?_
            refine jv_iald (q := 54) G dX8_tellMember_53 (rf_a41 hS) rfl (by omega) (by decide) ((hF.aq 41 _ (by omega)).trans vm2) rfl ?_
            refine jv_iconst (q := 55) (v := (-1)) G dX8_tellMember_54 (by decide) rfl ?_
            refine jv_icmp_eq (q := 58) (tgt := 81) G dX8_tellMember_55 (by decide) rfl (fun c25 => ?_) (fun c25 => ?_)
            · exact absurd c25 (jv_nI_m1 (by omega))
            · refine jv_aload_n (q := 59) G 2 dX8_tellMember_58 rfl rfl rfl ?_
              refine jv_bipush (q := 61) (v := nI 10) G dX8_tellMember_59 (by decide) rfl ?_
              refine jv_iload_n (q := 62) G 3 dX8_tellMember_61 rfl rfl rfl ?_
              refine jv_iload (q := 64) G 7 dX8_tellMember_62 rfl rfl ?_
              refine jv_iload (q := 66) G 8 dX8_tellMember_64 rfl rfl ?_
              refine jv_aload_n (q := 67) G 2 dX8_tellMember_66 rfl rfl rfl ?_
              refine jv_getQ (q := 70) G dX8_tellMember_67 fl_X8_119 rfl hS.1 (rf_p41 hS) rfl ?_
              refine jv_iload (q := 72) G 1 dX8_tellMember_70 rfl rfl ?_
              refine jv_iald (q := 73) G dX8_tellMember_72 (rf_a41 hS) rfl (by omega) (by decide) ((hF.aq 41 _ (by omega)).trans vm2) rfl ?_
              refine jv_iload (q := 75) G 6 dX8_tellMember_73 rfl rfl ?_
              refine jv_callV (q := 78) (As := [.int (nI 10), .int (nI t), .int (nI (K % 64 / 4)), .int (nI (K % 4)), .int (nI u5), .int (nI (K / 64))]) (rest := []) G Z ml_X8_231 (r_tell (r := (10, t, some K, some u5)) hlt hS hD hx (by first | omega | (simp only [List.length_append, List.length_cons, List.length_nil]; omega))) hS.1 dX8_tellMember_75 rfl (by decide) (by decide) (by decide) (by decide) (Nat.le_of_ble_eq_true rfl) rfl rfl (fun v27 h26 y28 => ?_) (fun _ _ hx => hx.elim)
              obtain ⟨rfl, hFt, hD, hx⟩ := y28
              show jv_V E 9 h26 0 0 (jv_Q E (fun v h' => v = none ∧ FW (fun k _ => 34 ≤ k ∧ k ≤ 39) (fun j => j = 33) x q h h' ∧ rf_D q h' (L ++ m_dM s t K (some tx) (none)) ∧ jv_I h' x 33 = nI (L ++ m_dM s t K (some tx) (none)).length) jv_no 0 0) 78 [(8, .int (-1)), (7, .int (nI (6 * (10 * a + i) + j1))), (0, .ref x), (1, .int (nI t)), (2, .int (nI (10 * a + i))), (3, .int (-1)), (4, .int (nI (K / 64))), (5, .int (nI (K % 64 / 4))), (6, .int (nI (K % 4)))] []
              have hF := hF.tr (hFt.mono (W' := (fun k _ => 34 ≤ k ∧ k ≤ 39)) (X' := (fun j => j = 33)) (fun k j o => ⟨o.1, o.2.1⟩) (fun _ z => z))
              have hS := hFt.S hS
              have hx := hx.trans (congrArg nI (show _ = (L ++ [(10, t, some K, some u5)]).length by simp))
              refine jv_goto (q := 151) G dX8_tellMember_78 (by decide) ?_
              refine jv_iload (q := 153) G 1 dX8_tellMember_151 rfl rfl ?_
              refine jv_iconst (q := 154) (v := (-1)) G dX8_tellMember_153 (by decide) rfl ?_
              refine jv_icmp_eq (q := 157) (tgt := 163) G dX8_tellMember_154 (by decide) rfl (fun c29 => ?_) (fun c29 => ?_)
              · exact absurd c29 (jv_nI_m1 (by omega))
              · refine jv_iload (q := 159) G 0 dX8_tellMember_157 rfl rfl ?_
                refine jv_iconst (q := 160) (v := (-1)) G dX8_tellMember_159 (by decide) rfl ?_
                refine jv_icmp_ne (q := 163) (tgt := 164) G dX8_tellMember_160 (by decide) rfl (fun c30 => ?_) (fun c30 => ?_)
                · exact absurd rfl c30
                · refine jv_vret G hr dX8_tellMember_163 (Nat.le_of_ble_eq_true rfl) (Nat.le_of_ble_eq_true rfl) ?_
                  have eL : (L ++ [(10, t, some K, some u5)]) = L ++ m_dM s t K (some tx) (none) := by
                    unfold m_dM
                    simp only [*, km_0]
                    first
                      | done
                      | rfl
                      | (unfold m_dB; simp only [*, List.append_assoc, if_true, if_false, List.nil_append, List.append_nil, List.cons_append, reduceIte, and_self, and_true, true_and, not_true, not_false_iff, false_and, and_false, List.singleton_append]; done)
                      | simp [*]
                  rw [eL] at hD hx
                  exact ⟨rfl, hF, hD, hx⟩
set_option maxHeartbeats 4000000 in
set_option maxRecDepth 100000 in
theorem r_tellMember1 {lA : Launch} (hlt : lA.stackTraces = false) {D : jv_D} {base : Nat} {x : Nat} {q : Nat → Nat} {h : jv_H} {a b t i K : Nat} {A B : List mT} {s : mS} {tx : mT} {L : List mR} (hS0 : rf_S x q h) (ha : a < 8) (hb : b < 8) (ht16 : t < 16) (hK : K < 128) (hEA : rf_E q h a A) (hEB : rf_E q h b B) (htk : rf_tk q h b B s.1) (hwh : rf_wh q h a A s.2) (hs16 : ∀ z u, s.2 z = some u → u < 16) (hD : rf_D q h L) (hx : jv_I h x 33 = nI L.length) (hL : L.length < 1390) (hti : A[i]? = some tx) (hnx : mt_n tx = t) {i2 : Nat} {ty : mT} (hty : B[i2]? = some ty) (hny : mt_n ty = t) : jv_Met lA D base yX8_tellMember (.code yX8_tellMember cX8_tellMember 9 none) 2 0 0 [.ref x, .int (nI t), .int (nI (10 * a + i)), .int (nI (10 * b + i2)), .int (nI (K / 64)), .int (nI (K % 64 / 4)), .int (nI (K % 4))] h (fun v h' => v = none ∧ FW (fun k _ => 34 ≤ k ∧ k ≤ 39) (fun j => j = 33) x q h h' ∧ rf_D q h' (L ++ m_dM s t K (some tx) (some ty)) ∧ jv_I h' x 33 = nI (L ++ m_dM s t K (some tx) (some ty)).length) jv_no := by
  refine jv_ofV (lo := [(0, .ref x), (1, .int (nI t)), (2, .int (nI (10 * a + i))), (3, .int (nI (10 * b + i2))), (4, .int (nI (K / 64))), (5, .int (nI (K % 64 / 4))), (6, .int (nI (K % 4)))]) hlt (by decide) (Nat.le_of_ble_eq_true rfl) rfl (fun E hEl hEd hEz Z G hr ht hnm => ?_)
  subst hEl; subst hEd; subst hEz
  have hF : FW (fun k _ => 34 ≤ k ∧ k ≤ 39) (fun j => j = 33) x q h h := FW.rf
  have hS := hS0
  have hla := hEA.2.1; have hlb := hEB.2.1; have hil := jv_ltGet hti; have hOx := (hEA.2.2 i tx hti).2; have hTx := (hEA.2.2 i tx hti).1
  have hi2 := jv_ltGet hty; have hOy := (hEB.2.2 i2 ty hty).2; have hTy := (hEB.2.2 i2 ty hty).1
  refine jv_aload_n (q := 1) G 0 dX8_tellMember_0 rfl rfl rfl ?_
  refine jv_iload_n (q := 2) G 2 dX8_tellMember_1 rfl rfl rfl ?_
  refine jv_iload (q := 4) G 4 dX8_tellMember_2 rfl rfl ?_
  refine jv_iload (q := 6) G 5 dX8_tellMember_4 rfl rfl ?_
  refine jv_iload (q := 8) G 6 dX8_tellMember_6 rfl rfl ?_
  refine jv_callV_I (q := 11) (h1 := h) (As := [.int (nI (10 * a + i)), .int (nI (K / 64)), .int (nI (K % 64 / 4)), .int (nI (K % 4))]) (rest := []) (ce' := 0) (sl' := 0) (r := jv_oN ((m_own tx (nI (K / 64)) (nI (K % 64 / 4)) (nI (K % 4))).map (fun j => 6 * (10 * a + i) + j))) G Z ml_X8_155 (r_own hlt hS (by omega) hTx hOx) hS.1 dX8_tellMember_8 rfl (by decide) (by decide) (by decide) (by decide) (Nat.le_of_ble_eq_true rfl) rfl rfl rfl rfl ?_
  rcases Option.eq_none_or_eq_some (m_kj tx K) with hj3 | ⟨j1, hj3⟩
  · refine jv_topI (y := (-1)) (by rw [show m_own tx (nI (K / 64)) (nI (K % 64 / 4)) (nI (K % 4)) = none from hj3]; rfl) ?_
    have ytx : m_km (some tx) K = none := km_n hj3
    refine jv_istore (q := 13) (lo' := [(7, .int (-1)), (0, .ref x), (1, .int (nI t)), (2, .int (nI (10 * a + i))), (3, .int (nI (10 * b + i2))), (4, .int (nI (K / 64))), (5, .int (nI (K % 64 / 4))), (6, .int (nI (K % 4)))]) G dX8_tellMember_11 (by decide) rfl rfl ?_
    refine jv_iload_n (q := 14) G 4 dX8_tellMember_13 rfl rfl rfl ?_
    refine jv_iconst (q := 15) (v := (-1)) G dX8_tellMember_14 (by decide) rfl ?_
    refine jv_icmp_ne (q := 18) (tgt := 22) G dX8_tellMember_15 (by decide) rfl (fun c6 => ?_) (fun c6 => ?_)
    · refine jv_aload_n (q := 23) G 1 dX8_tellMember_22 rfl rfl rfl ?_
      refine jv_iload_n (q := 24) G 4 dX8_tellMember_23 rfl rfl rfl ?_
      refine jv_iload (q := 26) G 5 dX8_tellMember_24 rfl rfl ?_
      refine jv_iload (q := 28) G 6 dX8_tellMember_26 rfl rfl ?_
      refine jv_iload (q := 30) G 7 dX8_tellMember_28 rfl rfl ?_
      refine jv_callV_I (q := 33) (h1 := h) (As := [.int (nI (10 * b + i2)), .int (nI (K / 64)), .int (nI (K % 64 / 4)), .int (nI (K % 4))]) (rest := []) (ce' := 0) (sl' := 0) (r := jv_oN ((m_own ty (nI (K / 64)) (nI (K % 64 / 4)) (nI (K % 4))).map (fun j => 6 * (10 * b + i2) + j))) G Z ml_X8_155 (r_own hlt hS (by omega) hTy hOy) hS.1 dX8_tellMember_30 rfl (by decide) (by decide) (by decide) (by decide) (Nat.le_of_ble_eq_true rfl) rfl rfl rfl rfl ?_
      rcases Option.eq_none_or_eq_some (m_kj ty K) with hj9 | ⟨j7, hj9⟩
      · refine jv_topI (y := (-1)) (by rw [show m_own ty (nI (K / 64)) (nI (K % 64 / 4)) (nI (K % 4)) = none from hj9]; rfl) ?_
        have yty : m_km (some ty) K = none := km_n hj9
        refine jv_istore (q := 35) (lo' := [(8, .int (-1)), (7, .int (-1)), (0, .ref x), (1, .int (nI t)), (2, .int (nI (10 * a + i))), (3, .int (nI (10 * b + i2))), (4, .int (nI (K / 64))), (5, .int (nI (K % 64 / 4))), (6, .int (nI (K % 4)))]) G dX8_tellMember_33 (by decide) rfl rfl ?_
        refine jv_iload (q := 37) G 1 dX8_tellMember_35 rfl rfl ?_
        refine jv_iconst (q := 38) (v := (-1)) G dX8_tellMember_37 (by decide) rfl ?_
        refine jv_icmp_eq (q := 41) (tgt := 81) G dX8_tellMember_38 (by decide) rfl (fun c12 => ?_) (fun c12 => ?_)
        · refine jv_iload (q := 83) G 1 dX8_tellMember_81 rfl rfl ?_
          refine jv_iconst (q := 84) (v := (-1)) G dX8_tellMember_83 (by decide) rfl ?_
          refine jv_icmp_eq (q := 87) (tgt := 115) G dX8_tellMember_84 (by decide) rfl (fun c13 => ?_) (fun c13 => ?_)
          · refine jv_iload (q := 117) G 1 dX8_tellMember_115 rfl rfl ?_
            refine jv_iconst (q := 118) (v := (-1)) G dX8_tellMember_117 (by decide) rfl ?_
            refine jv_icmp_ne (q := 121) (tgt := 151) G dX8_tellMember_118 (by decide) rfl (fun c14 => ?_) (fun c14 => ?_)
            · exact absurd rfl c14
            · refine jv_iload (q := 123) G 0 dX8_tellMember_121 rfl rfl ?_
              refine jv_iconst (q := 124) (v := (-1)) G dX8_tellMember_123 (by decide) rfl ?_
              refine jv_icmp_eq (q := 127) (tgt := 151) G dX8_tellMember_124 (by decide) rfl (fun c15 => ?_) (fun c15 => ?_)
              · refine jv_iload (q := 153) G 1 dX8_tellMember_151 rfl rfl ?_
                refine jv_iconst (q := 154) (v := (-1)) G dX8_tellMember_153 (by decide) rfl ?_
                refine jv_icmp_eq (q := 157) (tgt := 163) G dX8_tellMember_154 (by decide) rfl (fun c16 => ?_) (fun c16 => ?_)
                · refine jv_vret G hr dX8_tellMember_163 (Nat.le_of_ble_eq_true rfl) (Nat.le_of_ble_eq_true rfl) ?_
                  have eL : L = L ++ m_dM s t K (some tx) (some ty) := by
                    unfold m_dM
                    simp only [*, km_0]
                    first
                      | done
                      | rfl
                      | (unfold m_dB; simp only [*, List.append_assoc, if_true, if_false, List.nil_append, List.append_nil, List.cons_append, reduceIte, and_self, and_true, true_and, not_true, not_false_iff, false_and, and_false, List.singleton_append]; done)
                      | simp [*]
                  rw [eL] at hD hx
                  exact ⟨rfl, hF, hD, hx⟩
                · exact absurd rfl c16
              · exact absurd rfl c15
          · exact absurd rfl c13
        · exact absurd rfl c12
      · refine jv_topI (y := nI (6 * (10 * b + i2) + j7)) (by rw [show m_own ty (nI (K / 64)) (nI (K % 64 / 4)) (nI (K % 4)) = some j7 from hj9]; rfl) ?_
        obtain ⟨m8, hm8, km8⟩ := kj_some hOy hK hj9
        have Mm8 := rt_m hTy hm8
        have Lm8 := hOy.2.2.2.2.2.1
        have lm8 := jv_ltGet hm8
        have yty : m_km (some ty) K = some m8 := km_s hj9 hm8
        have Om8 := hOy.2.2.2.2.2.2 m8 (List.mem_of_getElem? hm8)
        have Bm8a := Om8.2.2.1
        have vm8 : jv_I h (q 40) (6 * (10 * b + i2) + j7) = jv_bI (s.1 (128 * t + K)) := by
          rw [← hny, ← km8]; exact htk _ _ _ _ hty hm8
        refine jv_istore (q := 35) (lo' := [(8, .int (nI (6 * (10 * b + i2) + j7))), (7, .int (-1)), (0, .ref x), (1, .int (nI t)), (2, .int (nI (10 * a + i))), (3, .int (nI (10 * b + i2))), (4, .int (nI (K / 64))), (5, .int (nI (K % 64 / 4))), (6, .int (nI (K % 4)))]) G dX8_tellMember_33 (by decide) rfl rfl ?_
        refine jv_iload (q := 37) G 1 dX8_tellMember_35 rfl rfl ?_
        refine jv_iconst (q := 38) (v := (-1)) G dX8_tellMember_37 (by decide) rfl ?_
        refine jv_icmp_eq (q := 41) (tgt := 81) G dX8_tellMember_38 (by decide) rfl (fun c17 => ?_) (fun c17 => ?_)
        · refine jv_iload (q := 83) G 1 dX8_tellMember_81 rfl rfl ?_
          refine jv_iconst (q := 84) (v := (-1)) G dX8_tellMember_83 (by decide) rfl ?_
          refine jv_icmp_eq (q := 87) (tgt := 115) G dX8_tellMember_84 (by decide) rfl (fun c18 => ?_) (fun c18 => ?_)
          · refine jv_iload (q := 117) G 1 dX8_tellMember_115 rfl rfl ?_
            refine jv_iconst (q := 118) (v := (-1)) G dX8_tellMember_117 (by decide) rfl ?_
            refine jv_icmp_ne (q := 121) (tgt := 151) G dX8_tellMember_118 (by decide) rfl (fun c19 => ?_) (fun c19 => ?_)
            · exact absurd rfl c19
            · refine jv_iload (q := 123) G 0 dX8_tellMember_121 rfl rfl ?_
              refine jv_iconst (q := 124) (v := (-1)) G dX8_tellMember_123 (by decide) rfl ?_
              refine jv_icmp_eq (q := 127) (tgt := 151) G dX8_tellMember_124 (by decide) rfl (fun c20 => ?_) (fun c20 => ?_)
              · exact absurd c20 (jv_nI_m1 (by omega))
              · refine jv_aload_n (q := 128) G 2 dX8_tellMember_127 rfl rfl rfl ?_
                refine jv_getQ (q := 131) G dX8_tellMember_128 fl_X8_116 rfl hS.1 (rf_p40 hS) rfl ?_
                refine jv_iload (q := 133) G 0 dX8_tellMember_131 rfl rfl ?_
                refine jv_zald (q := 134) G dX8_tellMember_133 (rf_a40 hS) rfl (by omega) (by decide) ((hF.aq 40 _ (by omega)).trans vm8) rfl ?_
                refine jv_if_neB (q := 137) (tgt := 151) G dX8_tellMember_134 (by decide) rfl (fun c21 => ?_) (fun c21 => ?_)
                · refine jv_iload (q := 153) G 1 dX8_tellMember_151 rfl rfl ?_
                  refine jv_iconst (q := 154) (v := (-1)) G dX8_tellMember_153 (by decide) rfl ?_
                  refine jv_icmp_eq (q := 157) (tgt := 163) G dX8_tellMember_154 (by decide) rfl (fun c22 => ?_) (fun c22 => ?_)
                  · refine jv_vret G hr dX8_tellMember_163 (Nat.le_of_ble_eq_true rfl) (Nat.le_of_ble_eq_true rfl) ?_
                    have eL : L = L ++ m_dM s t K (some tx) (some ty) := by
                      unfold m_dM
                      simp only [*, km_0]
                      first
                        | done
                        | rfl
                        | (unfold m_dB; simp only [*, List.append_assoc, if_true, if_false, List.nil_append, List.append_nil, List.cons_append, reduceIte, and_self, and_true, true_and, not_true, not_false_iff, false_and, and_false, List.singleton_append]; done)
                        | simp [*]
                    rw [eL] at hD hx
                    exact ⟨rfl, hF, hD, hx⟩
                  · exact absurd rfl c22
                · refine jv_aload_n (q := 138) G 2 dX8_tellMember_137 rfl rfl rfl ?_
                  refine jv_bipush (q := 140) (v := nI 9) G dX8_tellMember_138 (by decide) rfl ?_
                  refine jv_iload_n (q := 141) G 3 dX8_tellMember_140 rfl rfl rfl ?_
                  refine jv_iload (q := 143) G 7 dX8_tellMember_141 rfl rfl ?_
                  refine jv_iload (q := 145) G 8 dX8_tellMember_143 rfl rfl ?_
                  refine jv_iconst (q := 146) (v := (-1)) G dX8_tellMember_145 (by decide) rfl ?_
                  refine jv_iload (q := 148) G 6 dX8_tellMember_146 rfl rfl ?_
                  refine jv_callV (q := 151) (As := [.int (nI 9), .int (nI t), .int (nI (K % 64 / 4)), .int (nI (K % 4)), .int (-1), .int (nI (K / 64))]) (rest := []) G Z ml_X8_231 (r_tell (r := (9, t, some K, none)) hlt hS hD hx (by first | omega | (simp only [List.length_append, List.length_cons, List.length_nil]; omega))) hS.1 dX8_tellMember_148 rfl (by decide) (by decide) (by decide) (by decide) (Nat.le_of_ble_eq_true rfl) rfl rfl (fun v24 h23 y25 => ?_) (fun _ _ hx => hx.elim)
                  obtain ⟨rfl, hFt, hD, hx⟩ := y25
                  show jv_V E 9 h23 0 0 (jv_Q E (fun v h' => v = none ∧ FW (fun k _ => 34 ≤ k ∧ k ≤ 39) (fun j => j = 33) x q h h' ∧ rf_D q h' (L ++ m_dM s t K (some tx) (some ty)) ∧ jv_I h' x 33 = nI (L ++ m_dM s t K (some tx) (some ty)).length) jv_no 0 0) 151 [(8, .int (nI (6 * (10 * b + i2) + j7))), (7, .int (-1)), (0, .ref x), (1, .int (nI t)), (2, .int (nI (10 * a + i))), (3, .int (nI (10 * b + i2))), (4, .int (nI (K / 64))), (5, .int (nI (K % 64 / 4))), (6, .int (nI (K % 4)))] []
                  have hF := hF.tr (hFt.mono (W' := (fun k _ => 34 ≤ k ∧ k ≤ 39)) (X' := (fun j => j = 33)) (fun k j o => ⟨o.1, o.2.1⟩) (fun _ z => z))
                  have hS := hFt.S hS
                  have hx := hx.trans (congrArg nI (show _ = (L ++ [(9, t, some K, none)]).length by simp))
                  refine jv_iload (q := 153) G 1 dX8_tellMember_151 rfl rfl ?_
                  refine jv_iconst (q := 154) (v := (-1)) G dX8_tellMember_153 (by decide) rfl ?_
                  refine jv_icmp_eq (q := 157) (tgt := 163) G dX8_tellMember_154 (by decide) rfl (fun c26 => ?_) (fun c26 => ?_)
                  · refine jv_vret G hr dX8_tellMember_163 (Nat.le_of_ble_eq_true rfl) (Nat.le_of_ble_eq_true rfl) ?_
                    have eL : (L ++ [(9, t, some K, none)]) = L ++ m_dM s t K (some tx) (some ty) := by
                      unfold m_dM
                      simp only [*, km_0]
                      first
                        | done
                        | rfl
                        | (unfold m_dB; simp only [*, List.append_assoc, if_true, if_false, List.nil_append, List.append_nil, List.cons_append, reduceIte, and_self, and_true, true_and, not_true, not_false_iff, false_and, and_false, List.singleton_append]; done)
                        | simp [*]
                    rw [eL] at hD hx
                    exact ⟨rfl, hF, hD, hx⟩
                  · exact absurd rfl c26
          · exact absurd rfl c18
        · exact absurd rfl c17
    · exact absurd c6 (jv_nI_m1 (by omega))
  · refine jv_topI (y := nI (6 * (10 * a + i) + j1)) (by rw [show m_own tx (nI (K / 64)) (nI (K % 64 / 4)) (nI (K % 4)) = some j1 from hj3]; rfl) ?_
    obtain ⟨m2, hm2, km2⟩ := kj_some hOx hK hj3
    have Mm2 := rt_m hTx hm2
    have Lm2 := hOx.2.2.2.2.2.1
    have lm2 := jv_ltGet hm2
    have ytx : m_km (some tx) K = some m2 := km_s hj3 hm2
    have Om2 := hOx.2.2.2.2.2.2 m2 (List.mem_of_getElem? hm2)
    have Bm2a := Om2.2.2.1
    have vm2 : jv_I h (q 41) (6 * (10 * a + i) + j1) = jv_oN (s.2 (128 * t + K)) := by
      rw [← hnx, ← km2]; exact hwh _ _ _ _ hti hm2
    rcases Option.eq_none_or_eq_some (s.2 (128 * t + K)) with hv4 | ⟨u5, hv4⟩
    · rw [hv4] at vm2
      refine jv_istore (q := 13) (lo' := [(7, .int (nI (6 * (10 * a + i) + j1))), (0, .ref x), (1, .int (nI t)), (2, .int (nI (10 * a + i))), (3, .int (nI (10 * b + i2))), (4, .int (nI (K / 64))), (5, .int (nI (K % 64 / 4))), (6, .int (nI (K % 4)))]) G dX8_tellMember_11 (by decide) rfl rfl ?_
      refine jv_iload_n (q := 14) G 4 dX8_tellMember_13 rfl rfl rfl ?_
      refine jv_iconst (q := 15) (v := (-1)) G dX8_tellMember_14 (by decide) rfl ?_
      refine jv_icmp_ne (q := 18) (tgt := 22) G dX8_tellMember_15 (by decide) rfl (fun c27 => ?_) (fun c27 => ?_)
      · refine jv_aload_n (q := 23) G 1 dX8_tellMember_22 rfl rfl rfl ?_
        refine jv_iload_n (q := 24) G 4 dX8_tellMember_23 rfl rfl rfl ?_
        refine jv_iload (q := 26) G 5 dX8_tellMember_24 rfl rfl ?_
        refine jv_iload (q := 28) G 6 dX8_tellMember_26 rfl rfl ?_
        refine jv_iload (q := 30) G 7 dX8_tellMember_28 rfl rfl ?_
        refine jv_callV_I (q := 33) (h1 := h) (As := [.int (nI (10 * b + i2)), .int (nI (K / 64)), .int (nI (K % 64 / 4)), .int (nI (K % 4))]) (rest := []) (ce' := 0) (sl' := 0) (r := jv_oN ((m_own ty (nI (K / 64)) (nI (K % 64 / 4)) (nI (K % 4))).map (fun j => 6 * (10 * b + i2) + j))) G Z ml_X8_155 (r_own hlt hS (by omega) hTy hOy) hS.1 dX8_tellMember_30 rfl (by decide) (by decide) (by decide) (by decide) (Nat.le_of_ble_eq_true rfl) rfl rfl rfl rfl ?_
        rcases Option.eq_none_or_eq_some (m_kj ty K) with hj30 | ⟨j28, hj30⟩
        · refine jv_topI (y := (-1)) (by rw [show m_own ty (nI (K / 64)) (nI (K % 64 / 4)) (nI (K % 4)) = none from hj30]; rfl) ?_
          have yty : m_km (some ty) K = none := km_n hj30
          refine jv_istore (q := 35) (lo' := [(8, .int (-1)), (7, .int (nI (6 * (10 * a + i) + j1))), (0, .ref x), (1, .int (nI t)), (2, .int (nI (10 * a + i))), (3, .int (nI (10 * b + i2))), (4, .int (nI (K / 64))), (5, .int (nI (K % 64 / 4))), (6, .int (nI (K % 4)))]) G dX8_tellMember_33 (by decide) rfl rfl ?_
          refine jv_iload (q := 37) G 1 dX8_tellMember_35 rfl rfl ?_
          refine jv_iconst (q := 38) (v := (-1)) G dX8_tellMember_37 (by decide) rfl ?_
          refine jv_icmp_eq (q := 41) (tgt := 81) G dX8_tellMember_38 (by decide) rfl (fun c33 => ?_) (fun c33 => ?_)
          · exact absurd c33 (jv_nI_m1 (by omega))
          · refine jv_iload (q := 43) G 0 dX8_tellMember_41 rfl rfl ?_
            refine jv_iconst (q := 44) (v := (-1)) G dX8_tellMember_43 (by decide) rfl ?_
            refine jv_icmp_ne (q := 47) (tgt := 81) G dX8_tellMember_44 (by decide) rfl (fun c34 => ?_) (fun c34 => ?_)
            · exact absurd rfl c34
            · refine jv_aload_n (q := 48) G 2 dX8_tellMember_47 rfl rfl rfl ?_
              refine jv_getQ (q := 51) G dX8_tellMember_48 fl_X8_119 rfl hS.1 (rf_p41 hS) rfl ?_
              refine jv_iload (q := 53) G 1 dX8_tellMember_51 rfl rfl ?_
              refine jv_iald (q := 54) G dX8_tellMember_53 (rf_a41 hS) rfl (by omega) (by decide) ((hF.aq 41 _ (by omega)).trans vm2) rfl ?_
              refine jv_iconst (q := 55) (v := (-1)) G dX8_tellMember_54 (by decide) rfl ?_
              refine jv_icmp_eq (q := 58) (tgt := 81) G dX8_tellMember_55 (by decide) rfl (fun c35 => ?_) (fun c35 => ?_)
              · refine jv_iload (q := 83) G 1 dX8_tellMember_81 rfl rfl ?_
                refine jv_iconst (q := 84) (v := (-1)) G dX8_tellMember_83 (by decide) rfl ?_
                refine jv_icmp_eq (q := 87) (tgt := 115) G dX8_tellMember_84 (by decide) rfl (fun c36 => ?_) (fun c36 => ?_)
                · exact absurd c36 (jv_nI_m1 (by omega))
                · refine jv_iload (q := 89) G 0 dX8_tellMember_87 rfl rfl ?_
                  refine jv_iconst (q := 90) (v := (-1)) G dX8_tellMember_89 (by decide) rfl ?_
                  refine jv_icmp_ne (q := 93) (tgt := 115) G dX8_tellMember_90 (by decide) rfl (fun c37 => ?_) (fun c37 => ?_)
                  · exact absurd rfl c37
                  · refine jv_iload_n (q := 94) G 5 dX8_tellMember_93 rfl rfl rfl ?_
                    refine jv_iconst (q := 95) (v := (-1)) G dX8_tellMember_94 (by decide) rfl ?_
                    refine jv_icmp_eq (q := 98) (tgt := 115) G dX8_tellMember_95 (by decide) rfl (fun c38 => ?_) (fun c38 => ?_)
                    · exact absurd c38 (jv_nI_m1 (by omega))
                    · refine jv_aload_n (q := 99) G 2 dX8_tellMember_98 rfl rfl rfl ?_
                      refine jv_bipush (q := 101) (v := nI 8) G dX8_tellMember_99 (by decide) rfl ?_
                      refine jv_iload_n (q := 102) G 3 dX8_tellMember_101 rfl rfl rfl ?_
                      refine jv_iload (q := 104) G 7 dX8_tellMember_102 rfl rfl ?_
                      refine jv_iload (q := 106) G 8 dX8_tellMember_104 rfl rfl ?_
                      refine jv_iconst (q := 107) (v := (-1)) G dX8_tellMember_106 (by decide) rfl ?_
                      refine jv_iload (q := 109) G 6 dX8_tellMember_107 rfl rfl ?_
                      refine jv_callV (q := 112) (As := [.int (nI 8), .int (nI t), .int (nI (K % 64 / 4)), .int (nI (K % 4)), .int (-1), .int (nI (K / 64))]) (rest := []) G Z ml_X8_231 (r_tell (r := (8, t, some K, none)) hlt hS hD hx (by first | omega | (simp only [List.length_append, List.length_cons, List.length_nil]; omega))) hS.1 dX8_tellMember_109 rfl (by decide) (by decide) (by decide) (by decide) (Nat.le_of_ble_eq_true rfl) rfl rfl (fun v40 h39 y41 => ?_) (fun _ _ hx => hx.elim)
                      obtain ⟨rfl, hFt, hD, hx⟩ := y41
                      show jv_V E 9 h39 0 0 (jv_Q E (fun v h' => v = none ∧ FW (fun k _ => 34 ≤ k ∧ k ≤ 39) (fun j => j = 33) x q h h' ∧ rf_D q h' (L ++ m_dM s t K (some tx) (some ty)) ∧ jv_I h' x 33 = nI (L ++ m_dM s t K (some tx) (some ty)).length) jv_no 0 0) 112 [(8, .int (-1)), (7, .int (nI (6 * (10 * a + i) + j1))), (0, .ref x), (1, .int (nI t)), (2, .int (nI (10 * a + i))), (3, .int (nI (10 * b + i2))), (4, .int (nI (K / 64))), (5, .int (nI (K % 64 / 4))), (6, .int (nI (K % 4)))] []
                      have hF := hF.tr (hFt.mono (W' := (fun k _ => 34 ≤ k ∧ k ≤ 39)) (X' := (fun j => j = 33)) (fun k j o => ⟨o.1, o.2.1⟩) (fun _ z => z))
                      have hS := hFt.S hS
                      have hx := hx.trans (congrArg nI (show _ = (L ++ [(8, t, some K, none)]).length by simp))
                      refine jv_goto (q := 151) G dX8_tellMember_112 (by decide) ?_
                      refine jv_iload (q := 153) G 1 dX8_tellMember_151 rfl rfl ?_
                      refine jv_iconst (q := 154) (v := (-1)) G dX8_tellMember_153 (by decide) rfl ?_
                      refine jv_icmp_eq (q := 157) (tgt := 163) G dX8_tellMember_154 (by decide) rfl (fun c42 => ?_) (fun c42 => ?_)
                      · exact absurd c42 (jv_nI_m1 (by omega))
                      · refine jv_iload (q := 159) G 0 dX8_tellMember_157 rfl rfl ?_
                        refine jv_iconst (q := 160) (v := (-1)) G dX8_tellMember_159 (by decide) rfl ?_
                        refine jv_icmp_ne (q := 163) (tgt := 164) G dX8_tellMember_160 (by decide) rfl (fun c43 => ?_) (fun c43 => ?_)
                        · exact absurd rfl c43
                        · refine jv_vret G hr dX8_tellMember_163 (Nat.le_of_ble_eq_true rfl) (Nat.le_of_ble_eq_true rfl) ?_
                          have eL : (L ++ [(8, t, some K, none)]) = L ++ m_dM s t K (some tx) (some ty) := by
                            unfold m_dM
                            simp only [*, km_0]
                            first
                              | done
                              | rfl
                              | (unfold m_dB; simp only [*, List.append_assoc, if_true, if_false, List.nil_append, List.append_nil, List.cons_append, reduceIte, and_self, and_true, true_and, not_true, not_false_iff, false_and, and_false, List.singleton_append]; done)
                              | simp [*]
                          rw [eL] at hD hx
                          exact ⟨rfl, hF, hD, hx⟩
              · exact absurd rfl c35
        · refine jv_topI (y := nI (6 * (10 * b + i2) + j28)) (by rw [show m_own ty (nI (K / 64)) (nI (K % 64 / 4)) (nI (K % 4)) = some j28 from hj30]; rfl) ?_
          obtain ⟨m29, hm29, km29⟩ := kj_some hOy hK hj30
          have Mm29 := rt_m hTy hm29
          have Lm29 := hOy.2.2.2.2.2.1
          have lm29 := jv_ltGet hm29
          have yty : m_km (some ty) K = some m29 := km_s hj30 hm29
          have Om29 := hOy.2.2.2.2.2.2 m29 (List.mem_of_getElem? hm29)
          have Bm29a := Om29.2.2.1
          have vm29 : jv_I h (q 40) (6 * (10 * b + i2) + j28) = jv_bI (s.1 (128 * t + K)) := by
            rw [← hny, ← km29]; exact htk _ _ _ _ hty hm29
          refine jv_istore (q := 35) (lo' := [(8, .int (nI (6 * (10 * b + i2) + j28))), (7, .int (nI (6 * (10 * a + i) + j1))), (0, .ref x), (1, .int (nI t)), (2, .int (nI (10 * a + i))), (3, .int (nI (10 * b + i2))), (4, .int (nI (K / 64))), (5, .int (nI (K % 64 / 4))), (6, .int (nI (K % 4)))]) G dX8_tellMember_33 (by decide) rfl rfl ?_
          refine jv_iload (q := 37) G 1 dX8_tellMember_35 rfl rfl ?_
          refine jv_iconst (q := 38) (v := (-1)) G dX8_tellMember_37 (by decide) rfl ?_
          refine jv_icmp_eq (q := 41) (tgt := 81) G dX8_tellMember_38 (by decide) rfl (fun c44 => ?_) (fun c44 => ?_)
          · exact absurd c44 (jv_nI_m1 (by omega))
          · refine jv_iload (q := 43) G 0 dX8_tellMember_41 rfl rfl ?_
            refine jv_iconst (q := 44) (v := (-1)) G dX8_tellMember_43 (by decide) rfl ?_
            refine jv_icmp_ne (q := 47) (tgt := 81) G dX8_tellMember_44 (by decide) rfl (fun c45 => ?_) (fun c45 => ?_)
            · refine jv_iload (q := 83) G 1 dX8_tellMember_81 rfl rfl ?_
              refine jv_iconst (q := 84) (v := (-1)) G dX8_tellMember_83 (by decide) rfl ?_
              refine jv_icmp_eq (q := 87) (tgt := 115) G dX8_tellMember_84 (by decide) rfl (fun c46 => ?_) (fun c46 => ?_)
              · exact absurd c46 (jv_nI_m1 (by omega))
              · refine jv_iload (q := 89) G 0 dX8_tellMember_87 rfl rfl ?_
                refine jv_iconst (q := 90) (v := (-1)) G dX8_tellMember_89 (by decide) rfl ?_
                refine jv_icmp_ne (q := 93) (tgt := 115) G dX8_tellMember_90 (by decide) rfl (fun c47 => ?_) (fun c47 => ?_)
                · refine jv_iload (q := 117) G 1 dX8_tellMember_115 rfl rfl ?_
                  refine jv_iconst (q := 118) (v := (-1)) G dX8_tellMember_117 (by decide) rfl ?_
                  refine jv_icmp_ne (q := 121) (tgt := 151) G dX8_tellMember_118 (by decide) rfl (fun c48 => ?_) (fun c48 => ?_)
                  · refine jv_iload (q := 153) G 1 dX8_tellMember_151 rfl rfl ?_
                    refine jv_iconst (q := 154) (v := (-1)) G dX8_tellMember_153 (by decide) rfl ?_
                    refine jv_icmp_eq (q := 157) (tgt := 163) G dX8_tellMember_154 (by decide) rfl (fun c49 => ?_) (fun c49 => ?_)
                    · exact absurd c49 (jv_nI_m1 (by omega))
                    · refine jv_iload (q := 159) G 0 dX8_tellMember_157 rfl rfl ?_
                      refine jv_iconst (q := 160) (v := (-1)) G dX8_tellMember_159 (by decide) rfl ?_
                      refine jv_icmp_ne (q := 163) (tgt := 164) G dX8_tellMember_160 (by decide) rfl (fun c50 => ?_) (fun c50 => ?_)
                      · refine jv_aload_n (q := 165) G 2 dX8_tellMember_164 rfl rfl rfl ?_
                        refine jv_getQ (q := 168) G dX8_tellMember_165 fl_X8_53 rfl hS.1 (rf_p16 hS) rfl ?_
                        refine jv_iload (q := 170) G 1 dX8_tellMember_168 rfl rfl ?_
                        refine jv_iald (q := 171) G dX8_tellMember_170 (rf_a16 hS) rfl (by omega) (by decide) (hF.M (fun k j o => wd_M o) Mm2).2.2.2.1 rfl ?_
                        refine jv_aload_n (q := 172) G 2 dX8_tellMember_171 rfl rfl rfl ?_
                        refine jv_getQ (q := 175) G dX8_tellMember_172 fl_X8_53 rfl hS.1 (rf_p16 hS) rfl ?_
                        refine jv_iload (q := 177) G 0 dX8_tellMember_175 rfl rfl ?_
                        refine jv_iald (q := 178) G dX8_tellMember_177 (rf_a16 hS) rfl (by omega) (by decide) (hF.M (fun k j o => wd_M o) Mm29).2.2.2.1 rfl ?_
                        refine jv_icmp_eqN (q := 181) (tgt := 195) G dX8_tellMember_178 (by decide) rfl (by omega) (by omega) (fun c51 => ?_) (fun c51 => ?_)
                        · refine jv_aload_n (q := 196) G 2 dX8_tellMember_195 rfl rfl rfl ?_
                          refine jv_getQ (q := 199) G dX8_tellMember_196 fl_X8_56 rfl hS.1 (rf_p17 hS) rfl ?_
                          refine jv_iload (q := 201) G 1 dX8_tellMember_199 rfl rfl ?_
                          refine jv_zald (q := 202) G dX8_tellMember_201 (rf_a17 hS) rfl (by omega) (by decide) (hF.M (fun k j o => wd_M o) Mm2).2.2.2.2.1 rfl ?_
                          refine jv_aload_n (q := 203) G 2 dX8_tellMember_202 rfl rfl rfl ?_
                          refine jv_getQ (q := 206) G dX8_tellMember_203 fl_X8_56 rfl hS.1 (rf_p17 hS) rfl ?_
                          refine jv_iload (q := 208) G 0 dX8_tellMember_206 rfl rfl ?_
                          refine jv_zald (q := 209) G dX8_tellMember_208 (rf_a17 hS) rfl (by omega) (by decide) (hF.M (fun k j o => wd_M o) Mm29).2.2.2.2.1 rfl ?_
                          refine jv_icmp_eqB (q := 212) (tgt := 226) G dX8_tellMember_209 (by decide) rfl (fun c52 => ?_) (fun c52 => ?_)
                          · refine jv_aload_n (q := 227) G 2 dX8_tellMember_226 rfl rfl rfl ?_
                            refine jv_getQ (q := 230) G dX8_tellMember_227 fl_X8_59 rfl hS.1 (rf_p18 hS) rfl ?_
                            refine jv_iload (q := 232) G 1 dX8_tellMember_230 rfl rfl ?_
                            refine jv_iald (q := 233) G dX8_tellMember_232 (rf_a18 hS) rfl (by omega) (by decide) (hF.M (fun k j o => wd_M o) Mm2).2.2.2.2.2.1 rfl ?_
                            refine jv_aload_n (q := 234) G 2 dX8_tellMember_233 rfl rfl rfl ?_
                            refine jv_getQ (q := 237) G dX8_tellMember_234 fl_X8_59 rfl hS.1 (rf_p18 hS) rfl ?_
                            refine jv_iload (q := 239) G 0 dX8_tellMember_237 rfl rfl ?_
                            refine jv_iald (q := 240) G dX8_tellMember_239 (rf_a18 hS) rfl (by omega) (by decide) (hF.M (fun k j o => wd_M o) Mm29).2.2.2.2.2.1 rfl ?_
                            refine jv_icmp_ne (q := 243) (tgt := 260) G dX8_tellMember_240 (by decide) rfl (fun c53 => ?_) (fun c53 => ?_)
                            · refine jv_aload_n (q := 261) G 2 dX8_tellMember_260 rfl rfl rfl ?_
                              refine jv_bipush (q := 263) (v := nI 13) G dX8_tellMember_261 (by decide) rfl ?_
                              refine jv_iload_n (q := 264) G 3 dX8_tellMember_263 rfl rfl rfl ?_
                              refine jv_iload (q := 266) G 7 dX8_tellMember_264 rfl rfl ?_
                              refine jv_iload (q := 268) G 8 dX8_tellMember_266 rfl rfl ?_
                              refine jv_iconst (q := 269) (v := (-1)) G dX8_tellMember_268 (by decide) rfl ?_
                              refine jv_iload (q := 271) G 6 dX8_tellMember_269 rfl rfl ?_
                              refine jv_callV (q := 274) (As := [.int (nI 13), .int (nI t), .int (nI (K % 64 / 4)), .int (nI (K % 4)), .int (-1), .int (nI (K / 64))]) (rest := []) G Z ml_X8_231 (r_tell (r := (13, t, some K, none)) hlt hS hD hx (by first | omega | (simp only [List.length_append, List.length_cons, List.length_nil]; omega))) hS.1 dX8_tellMember_271 rfl (by decide) (by decide) (by decide) (by decide) (Nat.le_of_ble_eq_true rfl) rfl rfl (fun v55 h54 y56 => ?_) (fun _ _ hx => hx.elim)
                              obtain ⟨rfl, hFt, hD, hx⟩ := y56
                              show jv_V E 9 h54 0 0 (jv_Q E (fun v h' => v = none ∧ FW (fun k _ => 34 ≤ k ∧ k ≤ 39) (fun j => j = 33) x q h h' ∧ rf_D q h' (L ++ m_dM s t K (some tx) (some ty)) ∧ jv_I h' x 33 = nI (L ++ m_dM s t K (some tx) (some ty)).length) jv_no 0 0) 274 [(8, .int (nI (6 * (10 * b + i2) + j28))), (7, .int (nI (6 * (10 * a + i) + j1))), (0, .ref x), (1, .int (nI t)), (2, .int (nI (10 * a + i))), (3, .int (nI (10 * b + i2))), (4, .int (nI (K / 64))), (5, .int (nI (K % 64 / 4))), (6, .int (nI (K % 4)))] []
                              have hF := hF.tr (hFt.mono (W' := (fun k _ => 34 ≤ k ∧ k ≤ 39)) (X' := (fun j => j = 33)) (fun k j o => ⟨o.1, o.2.1⟩) (fun _ z => z))
                              have hS := hFt.S hS
                              have hx := hx.trans (congrArg nI (show _ = (L ++ [(13, t, some K, none)]).length by simp))
                              refine jv_vret G hr dX8_tellMember_274 (Nat.le_of_ble_eq_true rfl) (Nat.le_of_ble_eq_true rfl) ?_
                              have eL : (L ++ [(13, t, some K, none)]) = L ++ m_dM s t K (some tx) (some ty) := by
                                unfold m_dM
                                simp only [*, km_0]
                                first
                                  | done
                                  | rfl
                                  | (unfold m_dB; simp only [*, List.append_assoc, if_true, if_false, List.nil_append, List.append_nil, List.cons_append, reduceIte, and_self, and_true, true_and, not_true, not_false_iff, false_and, and_false, List.singleton_append]; done)
                                  | simp [*]
                              rw [eL] at hD hx
                              exact ⟨rfl, hF, hD, hx⟩
                            · refine jv_aload_n (q := 244) G 2 dX8_tellMember_243 rfl rfl rfl ?_
                              refine jv_getQ (q := 247) G dX8_tellMember_244 fl_X8_62 rfl hS.1 (rf_p19 hS) rfl ?_
                              refine jv_iload (q := 249) G 1 dX8_tellMember_247 rfl rfl ?_
                              refine jv_zald (q := 250) G dX8_tellMember_249 (rf_a19 hS) rfl (by omega) (by decide) (hF.M (fun k j o => wd_M o) Mm2).2.2.2.2.2.2 rfl ?_
                              refine jv_aload_n (q := 251) G 2 dX8_tellMember_250 rfl rfl rfl ?_
                              refine jv_getQ (q := 254) G dX8_tellMember_251 fl_X8_62 rfl hS.1 (rf_p19 hS) rfl ?_
                              refine jv_iload (q := 256) G 0 dX8_tellMember_254 rfl rfl ?_
                              refine jv_zald (q := 257) G dX8_tellMember_256 (rf_a19 hS) rfl (by omega) (by decide) (hF.M (fun k j o => wd_M o) Mm29).2.2.2.2.2.2 rfl ?_
                              refine jv_icmp_eqB (q := 260) (tgt := 274) G dX8_tellMember_257 (by decide) rfl (fun c57 => ?_) (fun c57 => ?_)
                              · refine jv_vret G hr dX8_tellMember_274 (Nat.le_of_ble_eq_true rfl) (Nat.le_of_ble_eq_true rfl) ?_
                                have eL : L = L ++ m_dM s t K (some tx) (some ty) := by
                                  unfold m_dM
                                  simp only [*, km_0]
                                  first
                                    | done
                                    | rfl
                                    | (unfold m_dB; simp only [*, List.append_assoc, if_true, if_false, List.nil_append, List.append_nil, List.cons_append, reduceIte, and_self, and_true, true_and, not_true, not_false_iff, false_and, and_false, List.singleton_append]; done)
                                    | simp [*]
                                rw [eL] at hD hx
                                exact ⟨rfl, hF, hD, hx⟩
                              · refine jv_aload_n (q := 261) G 2 dX8_tellMember_260 rfl rfl rfl ?_
                                refine jv_bipush (q := 263) (v := nI 13) G dX8_tellMember_261 (by decide) rfl ?_
                                refine jv_iload_n (q := 264) G 3 dX8_tellMember_263 rfl rfl rfl ?_
                                refine jv_iload (q := 266) G 7 dX8_tellMember_264 rfl rfl ?_
                                refine jv_iload (q := 268) G 8 dX8_tellMember_266 rfl rfl ?_
                                refine jv_iconst (q := 269) (v := (-1)) G dX8_tellMember_268 (by decide) rfl ?_
                                refine jv_iload (q := 271) G 6 dX8_tellMember_269 rfl rfl ?_
                                refine jv_callV (q := 274) (As := [.int (nI 13), .int (nI t), .int (nI (K % 64 / 4)), .int (nI (K % 4)), .int (-1), .int (nI (K / 64))]) (rest := []) G Z ml_X8_231 (r_tell (r := (13, t, some K, none)) hlt hS hD hx (by first | omega | (simp only [List.length_append, List.length_cons, List.length_nil]; omega))) hS.1 dX8_tellMember_271 rfl (by decide) (by decide) (by decide) (by decide) (Nat.le_of_ble_eq_true rfl) rfl rfl (fun v59 h58 y60 => ?_) (fun _ _ hx => hx.elim)
                                obtain ⟨rfl, hFt, hD, hx⟩ := y60
                                show jv_V E 9 h58 0 0 (jv_Q E (fun v h' => v = none ∧ FW (fun k _ => 34 ≤ k ∧ k ≤ 39) (fun j => j = 33) x q h h' ∧ rf_D q h' (L ++ m_dM s t K (some tx) (some ty)) ∧ jv_I h' x 33 = nI (L ++ m_dM s t K (some tx) (some ty)).length) jv_no 0 0) 274 [(8, .int (nI (6 * (10 * b + i2) + j28))), (7, .int (nI (6 * (10 * a + i) + j1))), (0, .ref x), (1, .int (nI t)), (2, .int (nI (10 * a + i))), (3, .int (nI (10 * b + i2))), (4, .int (nI (K / 64))), (5, .int (nI (K % 64 / 4))), (6, .int (nI (K % 4)))] []
                                have hF := hF.tr (hFt.mono (W' := (fun k _ => 34 ≤ k ∧ k ≤ 39)) (X' := (fun j => j = 33)) (fun k j o => ⟨o.1, o.2.1⟩) (fun _ z => z))
                                have hS := hFt.S hS
                                have hx := hx.trans (congrArg nI (show _ = (L ++ [(13, t, some K, none)]).length by simp))
                                refine jv_vret G hr dX8_tellMember_274 (Nat.le_of_ble_eq_true rfl) (Nat.le_of_ble_eq_true rfl) ?_
                                have eL : (L ++ [(13, t, some K, none)]) = L ++ m_dM s t K (some tx) (some ty) := by
                                  unfold m_dM
                                  simp only [*, km_0]
                                  first
                                    | done
                                    | rfl
                                    | (unfold m_dB; simp only [*, List.append_assoc, if_true, if_false, List.nil_append, List.append_nil, List.cons_append, reduceIte, and_self, and_true, true_and, not_true, not_false_iff, false_and, and_false, List.singleton_append]; done)
                                    | simp [*]
                                rw [eL] at hD hx
                                exact ⟨rfl, hF, hD, hx⟩
                          · refine jv_aload_n (q := 213) G 2 dX8_tellMember_212 rfl rfl rfl ?_
                            refine jv_bipush (q := 215) (v := nI 12) G dX8_tellMember_213 (by decide) rfl ?_
                            refine jv_iload_n (q := 216) G 3 dX8_tellMember_215 rfl rfl rfl ?_
                            refine jv_iload (q := 218) G 7 dX8_tellMember_216 rfl rfl ?_
                            refine jv_iload (q := 220) G 8 dX8_tellMember_218 rfl rfl ?_
                            refine jv_iconst (q := 221) (v := (-1)) G dX8_tellMember_220 (by decide) rfl ?_
                            refine jv_iload (q := 223) G 6 dX8_tellMember_221 rfl rfl ?_
                            refine jv_callV (q := 226) (As := [.int (nI 12), .int (nI t), .int (nI (K % 64 / 4)), .int (nI (K % 4)), .int (-1), .int (nI (K / 64))]) (rest := []) G Z ml_X8_231 (r_tell (r := (12, t, some K, none)) hlt hS hD hx (by first | omega | (simp only [List.length_append, List.length_cons, List.length_nil]; omega))) hS.1 dX8_tellMember_223 rfl (by decide) (by decide) (by decide) (by decide) (Nat.le_of_ble_eq_true rfl) rfl rfl (fun v62 h61 y63 => ?_) (fun _ _ hx => hx.elim)
                            obtain ⟨rfl, hFt, hD, hx⟩ := y63
                            show jv_V E 9 h61 0 0 (jv_Q E (fun v h' => v = none ∧ FW (fun k _ => 34 ≤ k ∧ k ≤ 39) (fun j => j = 33) x q h h' ∧ rf_D q h' (L ++ m_dM s t K (some tx) (some ty)) ∧ jv_I h' x 33 = nI (L ++ m_dM s t K (some tx) (some ty)).length) jv_no 0 0) 226 [(8, .int (nI (6 * (10 * b + i2) + j28))), (7, .int (nI (6 * (10 * a + i) + j1))), (0, .ref x), (1, .int (nI t)), (2, .int (nI (10 * a + i))), (3, .int (nI (10 * b + i2))), (4, .int (nI (K / 64))), (5, .int (nI (K % 64 / 4))), (6, .int (nI (K % 4)))] []
                            have hF := hF.tr (hFt.mono (W' := (fun k _ => 34 ≤ k ∧ k ≤ 39)) (X' := (fun j => j = 33)) (fun k j o => ⟨o.1, o.2.1⟩) (fun _ z => z))
                            have hS := hFt.S hS
                            have hx := hx.trans (congrArg nI (show _ = (L ++ [(12, t, some K, none)]).length by simp))
                            refine jv_aload_n (q := 227) G 2 dX8_tellMember_226 rfl rfl rfl ?_
                            refine jv_getQ (q := 230) G dX8_tellMember_227 fl_X8_59 rfl hS.1 (rf_p18 hS) rfl ?_
                            refine jv_iload (q := 232) G 1 dX8_tellMember_230 rfl rfl ?_
                            refine jv_iald (q := 233) G dX8_tellMember_232 (rf_a18 hS) rfl (by omega) (by decide) (hF.M (fun k j o => wd_M o) Mm2).2.2.2.2.2.1 rfl ?_
                            refine jv_aload_n (q := 234) G 2 dX8_tellMember_233 rfl rfl rfl ?_
                            refine jv_getQ (q := 237) G dX8_tellMember_234 fl_X8_59 rfl hS.1 (rf_p18 hS) rfl ?_
                            refine jv_iload (q := 239) G 0 dX8_tellMember_237 rfl rfl ?_
                            refine jv_iald (q := 240) G dX8_tellMember_239 (rf_a18 hS) rfl (by omega) (by decide) (hF.M (fun k j o => wd_M o) Mm29).2.2.2.2.2.1 rfl ?_
                            refine jv_icmp_ne (q := 243) (tgt := 260) G dX8_tellMember_240 (by decide) rfl (fun c64 => ?_) (fun c64 => ?_)
                            · refine jv_aload_n (q := 261) G 2 dX8_tellMember_260 rfl rfl rfl ?_
                              refine jv_bipush (q := 263) (v := nI 13) G dX8_tellMember_261 (by decide) rfl ?_
                              refine jv_iload_n (q := 264) G 3 dX8_tellMember_263 rfl rfl rfl ?_
                              refine jv_iload (q := 266) G 7 dX8_tellMember_264 rfl rfl ?_
                              refine jv_iload (q := 268) G 8 dX8_tellMember_266 rfl rfl ?_
                              refine jv_iconst (q := 269) (v := (-1)) G dX8_tellMember_268 (by decide) rfl ?_
                              refine jv_iload (q := 271) G 6 dX8_tellMember_269 rfl rfl ?_
                              refine jv_callV (q := 274) (As := [.int (nI 13), .int (nI t), .int (nI (K % 64 / 4)), .int (nI (K % 4)), .int (-1), .int (nI (K / 64))]) (rest := []) G Z ml_X8_231 (r_tell (r := (13, t, some K, none)) hlt hS hD hx (by first | omega | (simp only [List.length_append, List.length_cons, List.length_nil]; omega))) hS.1 dX8_tellMember_271 rfl (by decide) (by decide) (by decide) (by decide) (Nat.le_of_ble_eq_true rfl) rfl rfl (fun v66 h65 y67 => ?_) (fun _ _ hx => hx.elim)
                              obtain ⟨rfl, hFt, hD, hx⟩ := y67
                              show jv_V E 9 h65 0 0 (jv_Q E (fun v h' => v = none ∧ FW (fun k _ => 34 ≤ k ∧ k ≤ 39) (fun j => j = 33) x q h h' ∧ rf_D q h' (L ++ m_dM s t K (some tx) (some ty)) ∧ jv_I h' x 33 = nI (L ++ m_dM s t K (some tx) (some ty)).length) jv_no 0 0) 274 [(8, .int (nI (6 * (10 * b + i2) + j28))), (7, .int (nI (6 * (10 * a + i) + j1))), (0, .ref x), (1, .int (nI t)), (2, .int (nI (10 * a + i))), (3, .int (nI (10 * b + i2))), (4, .int (nI (K / 64))), (5, .int (nI (K % 64 / 4))), (6, .int (nI (K % 4)))] []
                              have hF := hF.tr (hFt.mono (W' := (fun k _ => 34 ≤ k ∧ k ≤ 39)) (X' := (fun j => j = 33)) (fun k j o => ⟨o.1, o.2.1⟩) (fun _ z => z))
                              have hS := hFt.S hS
                              have hx := hx.trans (congrArg nI (show _ = ((L ++ [(12, t, some K, none)]) ++ [(13, t, some K, none)]).length by simp))
                              refine jv_vret G hr dX8_tellMember_274 (Nat.le_of_ble_eq_true rfl) (Nat.le_of_ble_eq_true rfl) ?_
                              have eL : ((L ++ [(12, t, some K, none)]) ++ [(13, t, some K, none)]) = L ++ m_dM s t K (some tx) (some ty) := by
                                unfold m_dM
                                simp only [*, km_0]
                                first
                                  | done
                                  | rfl
                                  | (unfold m_dB; simp only [*, List.append_assoc, if_true, if_false, List.nil_append, List.append_nil, List.cons_append, reduceIte, and_self, and_true, true_and, not_true, not_false_iff, false_and, and_false, List.singleton_append]; done)
                                  | simp [*]
                              rw [eL] at hD hx
                              exact ⟨rfl, hF, hD, hx⟩
                            · refine jv_aload_n (q := 244) G 2 dX8_tellMember_243 rfl rfl rfl ?_
                              refine jv_getQ (q := 247) G dX8_tellMember_244 fl_X8_62 rfl hS.1 (rf_p19 hS) rfl ?_
                              refine jv_iload (q := 249) G 1 dX8_tellMember_247 rfl rfl ?_
                              refine jv_zald (q := 250) G dX8_tellMember_249 (rf_a19 hS) rfl (by omega) (by decide) (hF.M (fun k j o => wd_M o) Mm2).2.2.2.2.2.2 rfl ?_
                              refine jv_aload_n (q := 251) G 2 dX8_tellMember_250 rfl rfl rfl ?_
                              refine jv_getQ (q := 254) G dX8_tellMember_251 fl_X8_62 rfl hS.1 (rf_p19 hS) rfl ?_
                              refine jv_iload (q := 256) G 0 dX8_tellMember_254 rfl rfl ?_
                              refine jv_zald (q := 257) G dX8_tellMember_256 (rf_a19 hS) rfl (by omega) (by decide) (hF.M (fun k j o => wd_M o) Mm29).2.2.2.2.2.2 rfl ?_
                              refine jv_icmp_eqB (q := 260) (tgt := 274) G dX8_tellMember_257 (by decide) rfl (fun c68 => ?_) (fun c68 => ?_)
                              · refine jv_vret G hr dX8_tellMember_274 (Nat.le_of_ble_eq_true rfl) (Nat.le_of_ble_eq_true rfl) ?_
                                have eL : (L ++ [(12, t, some K, none)]) = L ++ m_dM s t K (some tx) (some ty) := by
                                  unfold m_dM
                                  simp only [*, km_0]
                                  first
                                    | done
                                    | rfl
                                    | (unfold m_dB; simp only [*, List.append_assoc, if_true, if_false, List.nil_append, List.append_nil, List.cons_append, reduceIte, and_self, and_true, true_and, not_true, not_false_iff, false_and, and_false, List.singleton_append]; done)
                                    | simp [*]
                                rw [eL] at hD hx
                                exact ⟨rfl, hF, hD, hx⟩
                              · refine jv_aload_n (q := 261) G 2 dX8_tellMember_260 rfl rfl rfl ?_
                                refine jv_bipush (q := 263) (v := nI 13) G dX8_tellMember_261 (by decide) rfl ?_
                                refine jv_iload_n (q := 264) G 3 dX8_tellMember_263 rfl rfl rfl ?_
                                refine jv_iload (q := 266) G 7 dX8_tellMember_264 rfl rfl ?_
                                refine jv_iload (q := 268) G 8 dX8_tellMember_266 rfl rfl ?_
                                refine jv_iconst (q := 269) (v := (-1)) G dX8_tellMember_268 (by decide) rfl ?_
                                refine jv_iload (q := 271) G 6 dX8_tellMember_269 rfl rfl ?_
                                refine jv_callV (q := 274) (As := [.int (nI 13), .int (nI t), .int (nI (K % 64 / 4)), .int (nI (K % 4)), .int (-1), .int (nI (K / 64))]) (rest := []) G Z ml_X8_231 (r_tell (r := (13, t, some K, none)) hlt hS hD hx (by first | omega | (simp only [List.length_append, List.length_cons, List.length_nil]; omega))) hS.1 dX8_tellMember_271 rfl (by decide) (by decide) (by decide) (by decide) (Nat.le_of_ble_eq_true rfl) rfl rfl (fun v70 h69 y71 => ?_) (fun _ _ hx => hx.elim)
                                obtain ⟨rfl, hFt, hD, hx⟩ := y71
                                show jv_V E 9 h69 0 0 (jv_Q E (fun v h' => v = none ∧ FW (fun k _ => 34 ≤ k ∧ k ≤ 39) (fun j => j = 33) x q h h' ∧ rf_D q h' (L ++ m_dM s t K (some tx) (some ty)) ∧ jv_I h' x 33 = nI (L ++ m_dM s t K (some tx) (some ty)).length) jv_no 0 0) 274 [(8, .int (nI (6 * (10 * b + i2) + j28))), (7, .int (nI (6 * (10 * a + i) + j1))), (0, .ref x), (1, .int (nI t)), (2, .int (nI (10 * a + i))), (3, .int (nI (10 * b + i2))), (4, .int (nI (K / 64))), (5, .int (nI (K % 64 / 4))), (6, .int (nI (K % 4)))] []
                                have hF := hF.tr (hFt.mono (W' := (fun k _ => 34 ≤ k ∧ k ≤ 39)) (X' := (fun j => j = 33)) (fun k j o => ⟨o.1, o.2.1⟩) (fun _ z => z))
                                have hS := hFt.S hS
                                have hx := hx.trans (congrArg nI (show _ = ((L ++ [(12, t, some K, none)]) ++ [(13, t, some K, none)]).length by simp))
                                refine jv_vret G hr dX8_tellMember_274 (Nat.le_of_ble_eq_true rfl) (Nat.le_of_ble_eq_true rfl) ?_
                                have eL : ((L ++ [(12, t, some K, none)]) ++ [(13, t, some K, none)]) = L ++ m_dM s t K (some tx) (some ty) := by
                                  unfold m_dM
                                  simp only [*, km_0]
                                  first
                                    | done
                                    | rfl
                                    | (unfold m_dB; simp only [*, List.append_assoc, if_true, if_false, List.nil_append, List.append_nil, List.cons_append, reduceIte, and_self, and_true, true_and, not_true, not_false_iff, false_and, and_false, List.singleton_append]; done)
                                    | simp [*]
                                rw [eL] at hD hx
                                exact ⟨rfl, hF, hD, hx⟩
                        · refine jv_aload_n (q := 182) G 2 dX8_tellMember_181 rfl rfl rfl ?_
                          refine jv_bipush (q := 184) (v := nI 11) G dX8_tellMember_182 (by decide) rfl ?_
                          refine jv_iload_n (q := 185) G 3 dX8_tellMember_184 rfl rfl rfl ?_
                          refine jv_iload (q := 187) G 7 dX8_tellMember_185 rfl rfl ?_
                          refine jv_iload (q := 189) G 8 dX8_tellMember_187 rfl rfl ?_
                          refine jv_iconst (q := 190) (v := (-1)) G dX8_tellMember_189 (by decide) rfl ?_
                          refine jv_iload (q := 192) G 6 dX8_tellMember_190 rfl rfl ?_
                          refine jv_callV (q := 195) (As := [.int (nI 11), .int (nI t), .int (nI (K % 64 / 4)), .int (nI (K % 4)), .int (-1), .int (nI (K / 64))]) (rest := []) G Z ml_X8_231 (r_tell (r := (11, t, some K, none)) hlt hS hD hx (by first | omega | (simp only [List.length_append, List.length_cons, List.length_nil]; omega))) hS.1 dX8_tellMember_192 rfl (by decide) (by decide) (by decide) (by decide) (Nat.le_of_ble_eq_true rfl) rfl rfl (fun v73 h72 y74 => ?_) (fun _ _ hx => hx.elim)
                          obtain ⟨rfl, hFt, hD, hx⟩ := y74
                          show jv_V E 9 h72 0 0 (jv_Q E (fun v h' => v = none ∧ FW (fun k _ => 34 ≤ k ∧ k ≤ 39) (fun j => j = 33) x q h h' ∧ rf_D q h' (L ++ m_dM s t K (some tx) (some ty)) ∧ jv_I h' x 33 = nI (L ++ m_dM s t K (some tx) (some ty)).length) jv_no 0 0) 195 [(8, .int (nI (6 * (10 * b + i2) + j28))), (7, .int (nI (6 * (10 * a + i) + j1))), (0, .ref x), (1, .int (nI t)), (2, .int (nI (10 * a + i))), (3, .int (nI (10 * b + i2))), (4, .int (nI (K / 64))), (5, .int (nI (K % 64 / 4))), (6, .int (nI (K % 4)))] []
                          have hF := hF.tr (hFt.mono (W' := (fun k _ => 34 ≤ k ∧ k ≤ 39)) (X' := (fun j => j = 33)) (fun k j o => ⟨o.1, o.2.1⟩) (fun _ z => z))
                          have hS := hFt.S hS
                          have hx := hx.trans (congrArg nI (show _ = (L ++ [(11, t, some K, none)]).length by simp))
                          refine jv_aload_n (q := 196) G 2 dX8_tellMember_195 rfl rfl rfl ?_
                          refine jv_getQ (q := 199) G dX8_tellMember_196 fl_X8_56 rfl hS.1 (rf_p17 hS) rfl ?_
                          refine jv_iload (q := 201) G 1 dX8_tellMember_199 rfl rfl ?_
                          refine jv_zald (q := 202) G dX8_tellMember_201 (rf_a17 hS) rfl (by omega) (by decide) (hF.M (fun k j o => wd_M o) Mm2).2.2.2.2.1 rfl ?_
                          refine jv_aload_n (q := 203) G 2 dX8_tellMember_202 rfl rfl rfl ?_
                          refine jv_getQ (q := 206) G dX8_tellMember_203 fl_X8_56 rfl hS.1 (rf_p17 hS) rfl ?_
                          refine jv_iload (q := 208) G 0 dX8_tellMember_206 rfl rfl ?_
                          refine jv_zald (q := 209) G dX8_tellMember_208 (rf_a17 hS) rfl (by omega) (by decide) (hF.M (fun k j o => wd_M o) Mm29).2.2.2.2.1 rfl ?_
                          refine jv_icmp_eqB (q := 212) (tgt := 226) G dX8_tellMember_209 (by decide) rfl (fun c75 => ?_) (fun c75 => ?_)
                          · refine jv_aload_n (q := 227) G 2 dX8_tellMember_226 rfl rfl rfl ?_
                            refine jv_getQ (q := 230) G dX8_tellMember_227 fl_X8_59 rfl hS.1 (rf_p18 hS) rfl ?_
                            refine jv_iload (q := 232) G 1 dX8_tellMember_230 rfl rfl ?_
                            refine jv_iald (q := 233) G dX8_tellMember_232 (rf_a18 hS) rfl (by omega) (by decide) (hF.M (fun k j o => wd_M o) Mm2).2.2.2.2.2.1 rfl ?_
                            refine jv_aload_n (q := 234) G 2 dX8_tellMember_233 rfl rfl rfl ?_
                            refine jv_getQ (q := 237) G dX8_tellMember_234 fl_X8_59 rfl hS.1 (rf_p18 hS) rfl ?_
                            refine jv_iload (q := 239) G 0 dX8_tellMember_237 rfl rfl ?_
                            refine jv_iald (q := 240) G dX8_tellMember_239 (rf_a18 hS) rfl (by omega) (by decide) (hF.M (fun k j o => wd_M o) Mm29).2.2.2.2.2.1 rfl ?_
                            refine jv_icmp_ne (q := 243) (tgt := 260) G dX8_tellMember_240 (by decide) rfl (fun c76 => ?_) (fun c76 => ?_)
                            · refine jv_aload_n (q := 261) G 2 dX8_tellMember_260 rfl rfl rfl ?_
                              refine jv_bipush (q := 263) (v := nI 13) G dX8_tellMember_261 (by decide) rfl ?_
                              refine jv_iload_n (q := 264) G 3 dX8_tellMember_263 rfl rfl rfl ?_
                              refine jv_iload (q := 266) G 7 dX8_tellMember_264 rfl rfl ?_
                              refine jv_iload (q := 268) G 8 dX8_tellMember_266 rfl rfl ?_
                              refine jv_iconst (q := 269) (v := (-1)) G dX8_tellMember_268 (by decide) rfl ?_
                              refine jv_iload (q := 271) G 6 dX8_tellMember_269 rfl rfl ?_
                              refine jv_callV (q := 274) (As := [.int (nI 13), .int (nI t), .int (nI (K % 64 / 4)), .int (nI (K % 4)), .int (-1), .int (nI (K / 64))]) (rest := []) G Z ml_X8_231 (r_tell (r := (13, t, some K, none)) hlt hS hD hx (by first | omega | (simp only [List.length_append, List.length_cons, List.length_nil]; omega))) hS.1 dX8_tellMember_271 rfl (by decide) (by decide) (by decide) (by decide) (Nat.le_of_ble_eq_true rfl) rfl rfl (fun v78 h77 y79 => ?_) (fun _ _ hx => hx.elim)
                              obtain ⟨rfl, hFt, hD, hx⟩ := y79
                              show jv_V E 9 h77 0 0 (jv_Q E (fun v h' => v = none ∧ FW (fun k _ => 34 ≤ k ∧ k ≤ 39) (fun j => j = 33) x q h h' ∧ rf_D q h' (L ++ m_dM s t K (some tx) (some ty)) ∧ jv_I h' x 33 = nI (L ++ m_dM s t K (some tx) (some ty)).length) jv_no 0 0) 274 [(8, .int (nI (6 * (10 * b + i2) + j28))), (7, .int (nI (6 * (10 * a + i) + j1))), (0, .ref x), (1, .int (nI t)), (2, .int (nI (10 * a + i))), (3, .int (nI (10 * b + i2))), (4, .int (nI (K / 64))), (5, .int (nI (K % 64 / 4))), (6, .int (nI (K % 4)))] []
                              have hF := hF.tr (hFt.mono (W' := (fun k _ => 34 ≤ k ∧ k ≤ 39)) (X' := (fun j => j = 33)) (fun k j o => ⟨o.1, o.2.1⟩) (fun _ z => z))
                              have hS := hFt.S hS
                              have hx := hx.trans (congrArg nI (show _ = ((L ++ [(11, t, some K, none)]) ++ [(13, t, some K, none)]).length by simp))
                              refine jv_vret G hr dX8_tellMember_274 (Nat.le_of_ble_eq_true rfl) (Nat.le_of_ble_eq_true rfl) ?_
                              have eL : ((L ++ [(11, t, some K, none)]) ++ [(13, t, some K, none)]) = L ++ m_dM s t K (some tx) (some ty) := by
                                unfold m_dM
                                simp only [*, km_0]
                                first
                                  | done
                                  | rfl
                                  | (unfold m_dB; simp only [*, List.append_assoc, if_true, if_false, List.nil_append, List.append_nil, List.cons_append, reduceIte, and_self, and_true, true_and, not_true, not_false_iff, false_and, and_false, List.singleton_append]; done)
                                  | simp [*]
                              rw [eL] at hD hx
                              exact ⟨rfl, hF, hD, hx⟩
                            · refine jv_aload_n (q := 244) G 2 dX8_tellMember_243 rfl rfl rfl ?_
                              refine jv_getQ (q := 247) G dX8_tellMember_244 fl_X8_62 rfl hS.1 (rf_p19 hS) rfl ?_
                              refine jv_iload (q := 249) G 1 dX8_tellMember_247 rfl rfl ?_
                              refine jv_zald (q := 250) G dX8_tellMember_249 (rf_a19 hS) rfl (by omega) (by decide) (hF.M (fun k j o => wd_M o) Mm2).2.2.2.2.2.2 rfl ?_
                              refine jv_aload_n (q := 251) G 2 dX8_tellMember_250 rfl rfl rfl ?_
                              refine jv_getQ (q := 254) G dX8_tellMember_251 fl_X8_62 rfl hS.1 (rf_p19 hS) rfl ?_
                              refine jv_iload (q := 256) G 0 dX8_tellMember_254 rfl rfl ?_
                              refine jv_zald (q := 257) G dX8_tellMember_256 (rf_a19 hS) rfl (by omega) (by decide) (hF.M (fun k j o => wd_M o) Mm29).2.2.2.2.2.2 rfl ?_
                              refine jv_icmp_eqB (q := 260) (tgt := 274) G dX8_tellMember_257 (by decide) rfl (fun c80 => ?_) (fun c80 => ?_)
                              · refine jv_vret G hr dX8_tellMember_274 (Nat.le_of_ble_eq_true rfl) (Nat.le_of_ble_eq_true rfl) ?_
                                have eL : (L ++ [(11, t, some K, none)]) = L ++ m_dM s t K (some tx) (some ty) := by
                                  unfold m_dM
                                  simp only [*, km_0]
                                  first
                                    | done
                                    | rfl
                                    | (unfold m_dB; simp only [*, List.append_assoc, if_true, if_false, List.nil_append, List.append_nil, List.cons_append, reduceIte, and_self, and_true, true_and, not_true, not_false_iff, false_and, and_false, List.singleton_append]; done)
                                    | simp [*]
                                rw [eL] at hD hx
                                exact ⟨rfl, hF, hD, hx⟩
                              · refine jv_aload_n (q := 261) G 2 dX8_tellMember_260 rfl rfl rfl ?_
                                refine jv_bipush (q := 263) (v := nI 13) G dX8_tellMember_261 (by decide) rfl ?_
                                refine jv_iload_n (q := 264) G 3 dX8_tellMember_263 rfl rfl rfl ?_
                                refine jv_iload (q := 266) G 7 dX8_tellMember_264 rfl rfl ?_
                                refine jv_iload (q := 268) G 8 dX8_tellMember_266 rfl rfl ?_
                                refine jv_iconst (q := 269) (v := (-1)) G dX8_tellMember_268 (by decide) rfl ?_
                                refine jv_iload (q := 271) G 6 dX8_tellMember_269 rfl rfl ?_
                                refine jv_callV (q := 274) (As := [.int (nI 13), .int (nI t), .int (nI (K % 64 / 4)), .int (nI (K % 4)), .int (-1), .int (nI (K / 64))]) (rest := []) G Z ml_X8_231 (r_tell (r := (13, t, some K, none)) hlt hS hD hx (by first | omega | (simp only [List.length_append, List.length_cons, List.length_nil]; omega))) hS.1 dX8_tellMember_271 rfl (by decide) (by decide) (by decide) (by decide) (Nat.le_of_ble_eq_true rfl) rfl rfl (fun v82 h81 y83 => ?_) (fun _ _ hx => hx.elim)
                                obtain ⟨rfl, hFt, hD, hx⟩ := y83
                                show jv_V E 9 h81 0 0 (jv_Q E (fun v h' => v = none ∧ FW (fun k _ => 34 ≤ k ∧ k ≤ 39) (fun j => j = 33) x q h h' ∧ rf_D q h' (L ++ m_dM s t K (some tx) (some ty)) ∧ jv_I h' x 33 = nI (L ++ m_dM s t K (some tx) (some ty)).length) jv_no 0 0) 274 [(8, .int (nI (6 * (10 * b + i2) + j28))), (7, .int (nI (6 * (10 * a + i) + j1))), (0, .ref x), (1, .int (nI t)), (2, .int (nI (10 * a + i))), (3, .int (nI (10 * b + i2))), (4, .int (nI (K / 64))), (5, .int (nI (K % 64 / 4))), (6, .int (nI (K % 4)))] []
                                have hF := hF.tr (hFt.mono (W' := (fun k _ => 34 ≤ k ∧ k ≤ 39)) (X' := (fun j => j = 33)) (fun k j o => ⟨o.1, o.2.1⟩) (fun _ z => z))
                                have hS := hFt.S hS
                                have hx := hx.trans (congrArg nI (show _ = ((L ++ [(11, t, some K, none)]) ++ [(13, t, some K, none)]).length by simp))
                                refine jv_vret G hr dX8_tellMember_274 (Nat.le_of_ble_eq_true rfl) (Nat.le_of_ble_eq_true rfl) ?_
                                have eL : ((L ++ [(11, t, some K, none)]) ++ [(13, t, some K, none)]) = L ++ m_dM s t K (some tx) (some ty) := by
                                  unfold m_dM
                                  simp only [*, km_0]
                                  first
                                    | done
                                    | rfl
                                    | (unfold m_dB; simp only [*, List.append_assoc, if_true, if_false, List.nil_append, List.append_nil, List.cons_append, reduceIte, and_self, and_true, true_and, not_true, not_false_iff, false_and, and_false, List.singleton_append]; done)
                                    | simp [*]
                                rw [eL] at hD hx
                                exact ⟨rfl, hF, hD, hx⟩
                          · refine jv_aload_n (q := 213) G 2 dX8_tellMember_212 rfl rfl rfl ?_
                            refine jv_bipush (q := 215) (v := nI 12) G dX8_tellMember_213 (by decide) rfl ?_
                            refine jv_iload_n (q := 216) G 3 dX8_tellMember_215 rfl rfl rfl ?_
                            refine jv_iload (q := 218) G 7 dX8_tellMember_216 rfl rfl ?_
                            refine jv_iload (q := 220) G 8 dX8_tellMember_218 rfl rfl ?_
                            refine jv_iconst (q := 221) (v := (-1)) G dX8_tellMember_220 (by decide) rfl ?_
                            refine jv_iload (q := 223) G 6 dX8_tellMember_221 rfl rfl ?_
                            refine jv_callV (q := 226) (As := [.int (nI 12), .int (nI t), .int (nI (K % 64 / 4)), .int (nI (K % 4)), .int (-1), .int (nI (K / 64))]) (rest := []) G Z ml_X8_231 (r_tell (r := (12, t, some K, none)) hlt hS hD hx (by first | omega | (simp only [List.length_append, List.length_cons, List.length_nil]; omega))) hS.1 dX8_tellMember_223 rfl (by decide) (by decide) (by decide) (by decide) (Nat.le_of_ble_eq_true rfl) rfl rfl (fun v85 h84 y86 => ?_) (fun _ _ hx => hx.elim)
                            obtain ⟨rfl, hFt, hD, hx⟩ := y86
                            show jv_V E 9 h84 0 0 (jv_Q E (fun v h' => v = none ∧ FW (fun k _ => 34 ≤ k ∧ k ≤ 39) (fun j => j = 33) x q h h' ∧ rf_D q h' (L ++ m_dM s t K (some tx) (some ty)) ∧ jv_I h' x 33 = nI (L ++ m_dM s t K (some tx) (some ty)).length) jv_no 0 0) 226 [(8, .int (nI (6 * (10 * b + i2) + j28))), (7, .int (nI (6 * (10 * a + i) + j1))), (0, .ref x), (1, .int (nI t)), (2, .int (nI (10 * a + i))), (3, .int (nI (10 * b + i2))), (4, .int (nI (K / 64))), (5, .int (nI (K % 64 / 4))), (6, .int (nI (K % 4)))] []
                            have hF := hF.tr (hFt.mono (W' := (fun k _ => 34 ≤ k ∧ k ≤ 39)) (X' := (fun j => j = 33)) (fun k j o => ⟨o.1, o.2.1⟩) (fun _ z => z))
                            have hS := hFt.S hS
                            have hx := hx.trans (congrArg nI (show _ = ((L ++ [(11, t, some K, none)]) ++ [(12, t, some K, none)]).length by simp))
                            refine jv_aload_n (q := 227) G 2 dX8_tellMember_226 rfl rfl rfl ?_
                            refine jv_getQ (q := 230) G dX8_tellMember_227 fl_X8_59 rfl hS.1 (rf_p18 hS) rfl ?_
                            refine jv_iload (q := 232) G 1 dX8_tellMember_230 rfl rfl ?_
                            refine jv_iald (q := 233) G dX8_tellMember_232 (rf_a18 hS) rfl (by omega) (by decide) (hF.M (fun k j o => wd_M o) Mm2).2.2.2.2.2.1 rfl ?_
                            refine jv_aload_n (q := 234) G 2 dX8_tellMember_233 rfl rfl rfl ?_
                            refine jv_getQ (q := 237) G dX8_tellMember_234 fl_X8_59 rfl hS.1 (rf_p18 hS) rfl ?_
                            refine jv_iload (q := 239) G 0 dX8_tellMember_237 rfl rfl ?_
                            refine jv_iald (q := 240) G dX8_tellMember_239 (rf_a18 hS) rfl (by omega) (by decide) (hF.M (fun k j o => wd_M o) Mm29).2.2.2.2.2.1 rfl ?_
                            refine jv_icmp_ne (q := 243) (tgt := 260) G dX8_tellMember_240 (by decide) rfl (fun c87 => ?_) (fun c87 => ?_)
                            · refine jv_aload_n (q := 261) G 2 dX8_tellMember_260 rfl rfl rfl ?_
                              refine jv_bipush (q := 263) (v := nI 13) G dX8_tellMember_261 (by decide) rfl ?_
                              refine jv_iload_n (q := 264) G 3 dX8_tellMember_263 rfl rfl rfl ?_
                              refine jv_iload (q := 266) G 7 dX8_tellMember_264 rfl rfl ?_
                              refine jv_iload (q := 268) G 8 dX8_tellMember_266 rfl rfl ?_
                              refine jv_iconst (q := 269) (v := (-1)) G dX8_tellMember_268 (by decide) rfl ?_
                              refine jv_iload (q := 271) G 6 dX8_tellMember_269 rfl rfl ?_
                              refine jv_callV (q := 274) (As := [.int (nI 13), .int (nI t), .int (nI (K % 64 / 4)), .int (nI (K % 4)), .int (-1), .int (nI (K / 64))]) (rest := []) G Z ml_X8_231 (r_tell (r := (13, t, some K, none)) hlt hS hD hx (by first | omega | (simp only [List.length_append, List.length_cons, List.length_nil]; omega))) hS.1 dX8_tellMember_271 rfl (by decide) (by decide) (by decide) (by decide) (Nat.le_of_ble_eq_true rfl) rfl rfl (fun v89 h88 y90 => ?_) (fun _ _ hx => hx.elim)
                              obtain ⟨rfl, hFt, hD, hx⟩ := y90
                              show jv_V E 9 h88 0 0 (jv_Q E (fun v h' => v = none ∧ FW (fun k _ => 34 ≤ k ∧ k ≤ 39) (fun j => j = 33) x q h h' ∧ rf_D q h' (L ++ m_dM s t K (some tx) (some ty)) ∧ jv_I h' x 33 = nI (L ++ m_dM s t K (some tx) (some ty)).length) jv_no 0 0) 274 [(8, .int (nI (6 * (10 * b + i2) + j28))), (7, .int (nI (6 * (10 * a + i) + j1))), (0, .ref x), (1, .int (nI t)), (2, .int (nI (10 * a + i))), (3, .int (nI (10 * b + i2))), (4, .int (nI (K / 64))), (5, .int (nI (K % 64 / 4))), (6, .int (nI (K % 4)))] []
                              have hF := hF.tr (hFt.mono (W' := (fun k _ => 34 ≤ k ∧ k ≤ 39)) (X' := (fun j => j = 33)) (fun k j o => ⟨o.1, o.2.1⟩) (fun _ z => z))
                              have hS := hFt.S hS
                              have hx := hx.trans (congrArg nI (show _ = (((L ++ [(11, t, some K, none)]) ++ [(12, t, some K, none)]) ++ [(13, t, some K, none)]).length by simp))
                              refine jv_vret G hr dX8_tellMember_274 (Nat.le_of_ble_eq_true rfl) (Nat.le_of_ble_eq_true rfl) ?_
                              have eL : (((L ++ [(11, t, some K, none)]) ++ [(12, t, some K, none)]) ++ [(13, t, some K, none)]) = L ++ m_dM s t K (some tx) (some ty) := by
                                unfold m_dM
                                simp only [*, km_0]
                                first
                                  | done
                                  | rfl
                                  | (unfold m_dB; simp only [*, List.append_assoc, if_true, if_false, List.nil_append, List.append_nil, List.cons_append, reduceIte, and_self, and_true, true_and, not_true, not_false_iff, false_and, and_false, List.singleton_append]; done)
                                  | simp [*]
                              rw [eL] at hD hx
                              exact ⟨rfl, hF, hD, hx⟩
                            · refine jv_aload_n (q := 244) G 2 dX8_tellMember_243 rfl rfl rfl ?_
                              refine jv_getQ (q := 247) G dX8_tellMember_244 fl_X8_62 rfl hS.1 (rf_p19 hS) rfl ?_
                              refine jv_iload (q := 249) G 1 dX8_tellMember_247 rfl rfl ?_
                              refine jv_zald (q := 250) G dX8_tellMember_249 (rf_a19 hS) rfl (by omega) (by decide) (hF.M (fun k j o => wd_M o) Mm2).2.2.2.2.2.2 rfl ?_
                              refine jv_aload_n (q := 251) G 2 dX8_tellMember_250 rfl rfl rfl ?_
                              refine jv_getQ (q := 254) G dX8_tellMember_251 fl_X8_62 rfl hS.1 (rf_p19 hS) rfl ?_
                              refine jv_iload (q := 256) G 0 dX8_tellMember_254 rfl rfl ?_
                              refine jv_zald (q := 257) G dX8_tellMember_256 (rf_a19 hS) rfl (by omega) (by decide) (hF.M (fun k j o => wd_M o) Mm29).2.2.2.2.2.2 rfl ?_
                              refine jv_icmp_eqB (q := 260) (tgt := 274) G dX8_tellMember_257 (by decide) rfl (fun c91 => ?_) (fun c91 => ?_)
                              · refine jv_vret G hr dX8_tellMember_274 (Nat.le_of_ble_eq_true rfl) (Nat.le_of_ble_eq_true rfl) ?_
                                have eL : ((L ++ [(11, t, some K, none)]) ++ [(12, t, some K, none)]) = L ++ m_dM s t K (some tx) (some ty) := by
                                  unfold m_dM
                                  simp only [*, km_0]
                                  first
                                    | done
                                    | rfl
                                    | (unfold m_dB; simp only [*, List.append_assoc, if_true, if_false, List.nil_append, List.append_nil, List.cons_append, reduceIte, and_self, and_true, true_and, not_true, not_false_iff, false_and, and_false, List.singleton_append]; done)
                                    | simp [*]
                                rw [eL] at hD hx
                                exact ⟨rfl, hF, hD, hx⟩
                              · refine jv_aload_n (q := 261) G 2 dX8_tellMember_260 rfl rfl rfl ?_
                                refine jv_bipush (q := 263) (v := nI 13) G dX8_tellMember_261 (by decide) rfl ?_
                                refine jv_iload_n (q := 264) G 3 dX8_tellMember_263 rfl rfl rfl ?_
                                refine jv_iload (q := 266) G 7 dX8_tellMember_264 rfl rfl ?_
                                refine jv_iload (q := 268) G 8 dX8_tellMember_266 rfl rfl ?_
                                refine jv_iconst (q := 269) (v := (-1)) G dX8_tellMember_268 (by decide) rfl ?_
                                refine jv_iload (q := 271) G 6 dX8_tellMember_269 rfl rfl ?_
                                refine jv_callV (q := 274) (As := [.int (nI 13), .int (nI t), .int (nI (K % 64 / 4)), .int (nI (K % 4)), .int (-1), .int (nI (K / 64))]) (rest := []) G Z ml_X8_231 (r_tell (r := (13, t, some K, none)) hlt hS hD hx (by first | omega | (simp only [List.length_append, List.length_cons, List.length_nil]; omega))) hS.1 dX8_tellMember_271 rfl (by decide) (by decide) (by decide) (by decide) (Nat.le_of_ble_eq_true rfl) rfl rfl (fun v93 h92 y94 => ?_) (fun _ _ hx => hx.elim)
                                obtain ⟨rfl, hFt, hD, hx⟩ := y94
                                show jv_V E 9 h92 0 0 (jv_Q E (fun v h' => v = none ∧ FW (fun k _ => 34 ≤ k ∧ k ≤ 39) (fun j => j = 33) x q h h' ∧ rf_D q h' (L ++ m_dM s t K (some tx) (some ty)) ∧ jv_I h' x 33 = nI (L ++ m_dM s t K (some tx) (some ty)).length) jv_no 0 0) 274 [(8, .int (nI (6 * (10 * b + i2) + j28))), (7, .int (nI (6 * (10 * a + i) + j1))), (0, .ref x), (1, .int (nI t)), (2, .int (nI (10 * a + i))), (3, .int (nI (10 * b + i2))), (4, .int (nI (K / 64))), (5, .int (nI (K % 64 / 4))), (6, .int (nI (K % 4)))] []
                                have hF := hF.tr (hFt.mono (W' := (fun k _ => 34 ≤ k ∧ k ≤ 39)) (X' := (fun j => j = 33)) (fun k j o => ⟨o.1, o.2.1⟩) (fun _ z => z))
                                have hS := hFt.S hS
                                have hx := hx.trans (congrArg nI (show _ = (((L ++ [(11, t, some K, none)]) ++ [(12, t, some K, none)]) ++ [(13, t, some K, none)]).length by simp))
                                refine jv_vret G hr dX8_tellMember_274 (Nat.le_of_ble_eq_true rfl) (Nat.le_of_ble_eq_true rfl) ?_
                                have eL : (((L ++ [(11, t, some K, none)]) ++ [(12, t, some K, none)]) ++ [(13, t, some K, none)]) = L ++ m_dM s t K (some tx) (some ty) := by
                                  unfold m_dM
                                  simp only [*, km_0]
                                  first
                                    | done
                                    | rfl
                                    | (unfold m_dB; simp only [*, List.append_assoc, if_true, if_false, List.nil_append, List.append_nil, List.cons_append, reduceIte, and_self, and_true, true_and, not_true, not_false_iff, false_and, and_false, List.singleton_append]; done)
                                    | simp [*]
                                rw [eL] at hD hx
                                exact ⟨rfl, hF, hD, hx⟩
                      · exact absurd c50 (jv_nI_m1 (by omega))
                  · exact absurd c48 (jv_nI_m1 (by omega))
                · exact absurd c47 (jv_nI_m1 (by omega))
            · exact absurd c45 (jv_nI_m1 (by omega))
      · exact absurd c27 (jv_nI_m1 (by omega))
    · have bu5 := hs16 _ _ hv4
      rw [hv4] at vm2
      refine jv_istore (q := 13) (lo' := [(7, .int (nI (6 * (10 * a + i) + j1))), (0, .ref x), (1, .int (nI t)), (2, .int (nI (10 * a + i))), (3, .int (nI (10 * b + i2))), (4, .int (nI (K / 64))), (5, .int (nI (K % 64 / 4))), (6, .int (nI (K % 4)))]) G dX8_tellMember_11 (by decide) rfl rfl ?_
      refine jv_iload_n (q := 14) G 4 dX8_tellMember_13 rfl rfl rfl ?_
      refine jv_iconst (q := 15) (v := (-1)) G dX8_tellMember_14 (by decide) rfl ?_
      refine jv_icmp_ne (q := 18) (tgt := 22) G dX8_tellMember_15 (by decide) rfl (fun c95 => ?_) (fun c95 => ?_)
      · refine jv_aload_n (q := 23) G 1 dX8_tellMember_22 rfl rfl rfl ?_
        refine jv_iload_n (q := 24) G 4 dX8_tellMember_23 rfl rfl rfl ?_
        refine jv_iload (q := 26) G 5 dX8_tellMember_24 rfl rfl ?_
        refine jv_iload (q := 28) G 6 dX8_tellMember_26 rfl rfl ?_
        refine jv_iload (q := 30) G 7 dX8_tellMember_28 rfl rfl ?_
        refine jv_callV_I (q := 33) (h1 := h) (As := [.int (nI (10 * b + i2)), .int (nI (K / 64)), .int (nI (K % 64 / 4)), .int (nI (K % 4))]) (rest := []) (ce' := 0) (sl' := 0) (r := jv_oN ((m_own ty (nI (K / 64)) (nI (K % 64 / 4)) (nI (K % 4))).map (fun j => 6 * (10 * b + i2) + j))) G Z ml_X8_155 (r_own hlt hS (by omega) hTy hOy) hS.1 dX8_tellMember_30 rfl (by decide) (by decide) (by decide) (by decide) (Nat.le_of_ble_eq_true rfl) rfl rfl rfl rfl ?_
        rcases Option.eq_none_or_eq_some (m_kj ty K) with hj98 | ⟨j96, hj98⟩
        · refine jv_topI (y := (-1)) (by rw [show m_own ty (nI (K / 64)) (nI (K % 64 / 4)) (nI (K % 4)) = none from hj98]; rfl) ?_
          have yty : m_km (some ty) K = none := km_n hj98
          refine jv_istore (q := 35) (lo' := [(8, .int (-1)), (7, .int (nI (6 * (10 * a + i) + j1))), (0, .ref x), (1, .int (nI t)), (2, .int (nI (10 * a + i))), (3, .int (nI (10 * b + i2))), (4, .int (nI (K / 64))), (5, .int (nI (K % 64 / 4))), (6, .int (nI (K % 4)))]) G dX8_tellMember_33 (by decide) rfl rfl ?_
          refine jv_iload (q := 37) G 1 dX8_tellMember_35 rfl rfl ?_
          refine jv_iconst (q := 38) (v := (-1)) G dX8_tellMember_37 (by decide) rfl ?_
          refine jv_icmp_eq (q := 41) (tgt := 81) G dX8_tellMember_38 (by decide) rfl (fun c101 => ?_) (fun c101 => ?_)
          · exact absurd c101 (jv_nI_m1 (by omega))
          · refine jv_iload (q := 43) G 0 dX8_tellMember_41 rfl rfl ?_
            refine jv_iconst (q := 44) (v := (-1)) G dX8_tellMember_43 (by decide) rfl ?_
            refine jv_icmp_ne (q := 47) (tgt := 81) G dX8_tellMember_44 (by decide) rfl (fun c102 => ?_) (fun c102 => ?_)
            · exact absurd rfl c102
            · refine jv_aload_n (q := 48) G 2 dX8_tellMember_47 rfl rfl rfl ?_
              refine jv_getQ (q := 51) G dX8_tellMember_48 fl_X8_119 rfl hS.1 (rf_p41 hS) rfl ?_
              refine jv_iload (q := 53) G 1 dX8_tellMember_51 rfl rfl ?_
              refine jv_iald (q := 54) G dX8_tellMember_53 (rf_a41 hS) rfl (by omega) (by decide) ((hF.aq 41 _ (by omega)).trans vm2) rfl ?_
              refine jv_iconst (q := 55) (v := (-1)) G dX8_tellMember_54 (by decide) rfl ?_
              refine jv_icmp_eq (q := 58) (tgt := 81) G dX8_tellMember_55 (by decide) rfl (fun c103 => ?_) (fun c103 => ?_)
              · exact absurd c103 (jv_nI_m1 (by omega))
              · refine jv_aload_n (q := 59) G 2 dX8_tellMember_58 rfl rfl rfl ?_
                refine jv_bipush (q := 61) (v := nI 10) G dX8_tellMember_59 (by decide) rfl ?_
                refine jv_iload_n (q := 62) G 3 dX8_tellMember_61 rfl rfl rfl ?_
                refine jv_iload (q := 64) G 7 dX8_tellMember_62 rfl rfl ?_
                refine jv_iload (q := 66) G 8 dX8_tellMember_64 rfl rfl ?_
                refine jv_aload_n (q := 67) G 2 dX8_tellMember_66 rfl rfl rfl ?_
                refine jv_getQ (q := 70) G dX8_tellMember_67 fl_X8_119 rfl hS.1 (rf_p41 hS) rfl ?_
                refine jv_iload (q := 72) G 1 dX8_tellMember_70 rfl rfl ?_
                refine jv_iald (q := 73) G dX8_tellMember_72 (rf_a41 hS) rfl (by omega) (by decide) ((hF.aq 41 _ (by omega)).trans vm2) rfl ?_
                refine jv_iload (q := 75) G 6 dX8_tellMember_73 rfl rfl ?_
                refine jv_callV (q := 78) (As := [.int (nI 10), .int (nI t), .int (nI (K % 64 / 4)), .int (nI (K % 4)), .int (nI u5), .int (nI (K / 64))]) (rest := []) G Z ml_X8_231 (r_tell (r := (10, t, some K, some u5)) hlt hS hD hx (by first | omega | (simp only [List.length_append, List.length_cons, List.length_nil]; omega))) hS.1 dX8_tellMember_75 rfl (by decide) (by decide) (by decide) (by decide) (Nat.le_of_ble_eq_true rfl) rfl rfl (fun v105 h104 y106 => ?_) (fun _ _ hx => hx.elim)
                obtain ⟨rfl, hFt, hD, hx⟩ := y106
                show jv_V E 9 h104 0 0 (jv_Q E (fun v h' => v = none ∧ FW (fun k _ => 34 ≤ k ∧ k ≤ 39) (fun j => j = 33) x q h h' ∧ rf_D q h' (L ++ m_dM s t K (some tx) (some ty)) ∧ jv_I h' x 33 = nI (L ++ m_dM s t K (some tx) (some ty)).length) jv_no 0 0) 78 [(8, .int (-1)), (7, .int (nI (6 * (10 * a + i) + j1))), (0, .ref x), (1, .int (nI t)), (2, .int (nI (10 * a + i))), (3, .int (nI (10 * b + i2))), (4, .int (nI (K / 64))), (5, .int (nI (K % 64 / 4))), (6, .int (nI (K % 4)))] []
                have hF := hF.tr (hFt.mono (W' := (fun k _ => 34 ≤ k ∧ k ≤ 39)) (X' := (fun j => j = 33)) (fun k j o => ⟨o.1, o.2.1⟩) (fun _ z => z))
                have hS := hFt.S hS
                have hx := hx.trans (congrArg nI (show _ = (L ++ [(10, t, some K, some u5)]).length by simp))
                refine jv_goto (q := 151) G dX8_tellMember_78 (by decide) ?_
                refine jv_iload (q := 153) G 1 dX8_tellMember_151 rfl rfl ?_
                refine jv_iconst (q := 154) (v := (-1)) G dX8_tellMember_153 (by decide) rfl ?_
                refine jv_icmp_eq (q := 157) (tgt := 163) G dX8_tellMember_154 (by decide) rfl (fun c107 => ?_) (fun c107 => ?_)
                · exact absurd c107 (jv_nI_m1 (by omega))
                · refine jv_iload (q := 159) G 0 dX8_tellMember_157 rfl rfl ?_
                  refine jv_iconst (q := 160) (v := (-1)) G dX8_tellMember_159 (by decide) rfl ?_
                  refine jv_icmp_ne (q := 163) (tgt := 164) G dX8_tellMember_160 (by decide) rfl (fun c108 => ?_) (fun c108 => ?_)
                  · exact absurd rfl c108
                  · refine jv_vret G hr dX8_tellMember_163 (Nat.le_of_ble_eq_true rfl) (Nat.le_of_ble_eq_true rfl) ?_
                    have eL : (L ++ [(10, t, some K, some u5)]) = L ++ m_dM s t K (some tx) (some ty) := by
                      unfold m_dM
                      simp only [*, km_0]
                      first
                        | done
                        | rfl
                        | (unfold m_dB; simp only [*, List.append_assoc, if_true, if_false, List.nil_append, List.append_nil, List.cons_append, reduceIte, and_self, and_true, true_and, not_true, not_false_iff, false_and, and_false, List.singleton_append]; done)
                        | simp [*]
                    rw [eL] at hD hx
                    exact ⟨rfl, hF, hD, hx⟩
        · refine jv_topI (y := nI (6 * (10 * b + i2) + j96)) (by rw [show m_own ty (nI (K / 64)) (nI (K % 64 / 4)) (nI (K % 4)) = some j96 from hj98]; rfl) ?_
          obtain ⟨m97, hm97, km97⟩ := kj_some hOy hK hj98
          have Mm97 := rt_m hTy hm97
          have Lm97 := hOy.2.2.2.2.2.1
          have lm97 := jv_ltGet hm97
          have yty : m_km (some ty) K = some m97 := km_s hj98 hm97
          have Om97 := hOy.2.2.2.2.2.2 m97 (List.mem_of_getElem? hm97)
          have Bm97a := Om97.2.2.1
          have vm97 : jv_I h (q 40) (6 * (10 * b + i2) + j96) = jv_bI (s.1 (128 * t + K)) := by
            rw [← hny, ← km97]; exact htk _ _ _ _ hty hm97
          refine jv_istore (q := 35) (lo' := [(8, .int (nI (6 * (10 * b + i2) + j96))), (7, .int (nI (6 * (10 * a + i) + j1))), (0, .ref x), (1, .int (nI t)), (2, .int (nI (10 * a + i))), (3, .int (nI (10 * b + i2))), (4, .int (nI (K / 64))), (5, .int (nI (K % 64 / 4))), (6, .int (nI (K % 4)))]) G dX8_tellMember_33 (by decide) rfl rfl ?_
          refine jv_iload (q := 37) G 1 dX8_tellMember_35 rfl rfl ?_
          refine jv_iconst (q := 38) (v := (-1)) G dX8_tellMember_37 (by decide) rfl ?_
          refine jv_icmp_eq (q := 41) (tgt := 81) G dX8_tellMember_38 (by decide) rfl (fun c109 => ?_) (fun c109 => ?_)
          · exact absurd c109 (jv_nI_m1 (by omega))
          · refine jv_iload (q := 43) G 0 dX8_tellMember_41 rfl rfl ?_
            refine jv_iconst (q := 44) (v := (-1)) G dX8_tellMember_43 (by decide) rfl ?_
            refine jv_icmp_ne (q := 47) (tgt := 81) G dX8_tellMember_44 (by decide) rfl (fun c110 => ?_) (fun c110 => ?_)
            · refine jv_iload (q := 83) G 1 dX8_tellMember_81 rfl rfl ?_
              refine jv_iconst (q := 84) (v := (-1)) G dX8_tellMember_83 (by decide) rfl ?_
              refine jv_icmp_eq (q := 87) (tgt := 115) G dX8_tellMember_84 (by decide) rfl (fun c111 => ?_) (fun c111 => ?_)
              · exact absurd c111 (jv_nI_m1 (by omega))
              · refine jv_iload (q := 89) G 0 dX8_tellMember_87 rfl rfl ?_
                refine jv_iconst (q := 90) (v := (-1)) G dX8_tellMember_89 (by decide) rfl ?_
                refine jv_icmp_ne (q := 93) (tgt := 115) G dX8_tellMember_90 (by decide) rfl (fun c112 => ?_) (fun c112 => ?_)
                · refine jv_iload (q := 117) G 1 dX8_tellMember_115 rfl rfl ?_
                  refine jv_iconst (q := 118) (v := (-1)) G dX8_tellMember_117 (by decide) rfl ?_
                  refine jv_icmp_ne (q := 121) (tgt := 151) G dX8_tellMember_118 (by decide) rfl (fun c113 => ?_) (fun c113 => ?_)
                  · refine jv_iload (q := 153) G 1 dX8_tellMember_151 rfl rfl ?_
                    refine jv_iconst (q := 154) (v := (-1)) G dX8_tellMember_153 (by decide) rfl ?_
                    refine jv_icmp_eq (q := 157) (tgt := 163) G dX8_tellMember_154 (by decide) rfl (fun c114 => ?_) (fun c114 => ?_)
                    · exact absurd c114 (jv_nI_m1 (by omega))
                    · refine jv_iload (q := 159) G 0 dX8_tellMember_157 rfl rfl ?_
                      refine jv_iconst (q := 160) (v := (-1)) G dX8_tellMember_159 (by decide) rfl ?_
                      refine jv_icmp_ne (q := 163) (tgt := 164) G dX8_tellMember_160 (by decide) rfl (fun c115 => ?_) (fun c115 => ?_)
                      · refine jv_aload_n (q := 165) G 2 dX8_tellMember_164 rfl rfl rfl ?_
                        refine jv_getQ (q := 168) G dX8_tellMember_165 fl_X8_53 rfl hS.1 (rf_p16 hS) rfl ?_
                        refine jv_iload (q := 170) G 1 dX8_tellMember_168 rfl rfl ?_
                        refine jv_iald (q := 171) G dX8_tellMember_170 (rf_a16 hS) rfl (by omega) (by decide) (hF.M (fun k j o => wd_M o) Mm2).2.2.2.1 rfl ?_
                        refine jv_aload_n (q := 172) G 2 dX8_tellMember_171 rfl rfl rfl ?_
                        refine jv_getQ (q := 175) G dX8_tellMember_172 fl_X8_53 rfl hS.1 (rf_p16 hS) rfl ?_
                        refine jv_iload (q := 177) G 0 dX8_tellMember_175 rfl rfl ?_
                        refine jv_iald (q := 178) G dX8_tellMember_177 (rf_a16 hS) rfl (by omega) (by decide) (hF.M (fun k j o => wd_M o) Mm97).2.2.2.1 rfl ?_
                        refine jv_icmp_eqN (q := 181) (tgt := 195) G dX8_tellMember_178 (by decide) rfl (by omega) (by omega) (fun c116 => ?_) (fun c116 => ?_)
                        · refine jv_aload_n (q := 196) G 2 dX8_tellMember_195 rfl rfl rfl ?_
                          refine jv_getQ (q := 199) G dX8_tellMember_196 fl_X8_56 rfl hS.1 (rf_p17 hS) rfl ?_
                          refine jv_iload (q := 201) G 1 dX8_tellMember_199 rfl rfl ?_
                          refine jv_zald (q := 202) G dX8_tellMember_201 (rf_a17 hS) rfl (by omega) (by decide) (hF.M (fun k j o => wd_M o) Mm2).2.2.2.2.1 rfl ?_
                          refine jv_aload_n (q := 203) G 2 dX8_tellMember_202 rfl rfl rfl ?_
                          refine jv_getQ (q := 206) G dX8_tellMember_203 fl_X8_56 rfl hS.1 (rf_p17 hS) rfl ?_
                          refine jv_iload (q := 208) G 0 dX8_tellMember_206 rfl rfl ?_
                          refine jv_zald (q := 209) G dX8_tellMember_208 (rf_a17 hS) rfl (by omega) (by decide) (hF.M (fun k j o => wd_M o) Mm97).2.2.2.2.1 rfl ?_
                          refine jv_icmp_eqB (q := 212) (tgt := 226) G dX8_tellMember_209 (by decide) rfl (fun c117 => ?_) (fun c117 => ?_)
                          · refine jv_aload_n (q := 227) G 2 dX8_tellMember_226 rfl rfl rfl ?_
                            refine jv_getQ (q := 230) G dX8_tellMember_227 fl_X8_59 rfl hS.1 (rf_p18 hS) rfl ?_
                            refine jv_iload (q := 232) G 1 dX8_tellMember_230 rfl rfl ?_
                            refine jv_iald (q := 233) G dX8_tellMember_232 (rf_a18 hS) rfl (by omega) (by decide) (hF.M (fun k j o => wd_M o) Mm2).2.2.2.2.2.1 rfl ?_
                            refine jv_aload_n (q := 234) G 2 dX8_tellMember_233 rfl rfl rfl ?_
                            refine jv_getQ (q := 237) G dX8_tellMember_234 fl_X8_59 rfl hS.1 (rf_p18 hS) rfl ?_
                            refine jv_iload (q := 239) G 0 dX8_tellMember_237 rfl rfl ?_
                            refine jv_iald (q := 240) G dX8_tellMember_239 (rf_a18 hS) rfl (by omega) (by decide) (hF.M (fun k j o => wd_M o) Mm97).2.2.2.2.2.1 rfl ?_
                            refine jv_icmp_ne (q := 243) (tgt := 260) G dX8_tellMember_240 (by decide) rfl (fun c118 => ?_) (fun c118 => ?_)
                            · refine jv_aload_n (q := 261) G 2 dX8_tellMember_260 rfl rfl rfl ?_
                              refine jv_bipush (q := 263) (v := nI 13) G dX8_tellMember_261 (by decide) rfl ?_
                              refine jv_iload_n (q := 264) G 3 dX8_tellMember_263 rfl rfl rfl ?_
                              refine jv_iload (q := 266) G 7 dX8_tellMember_264 rfl rfl ?_
                              refine jv_iload (q := 268) G 8 dX8_tellMember_266 rfl rfl ?_
                              refine jv_iconst (q := 269) (v := (-1)) G dX8_tellMember_268 (by decide) rfl ?_
                              refine jv_iload (q := 271) G 6 dX8_tellMember_269 rfl rfl ?_
                              refine jv_callV (q := 274) (As := [.int (nI 13), .int (nI t), .int (nI (K % 64 / 4)), .int (nI (K % 4)), .int (-1), .int (nI (K / 64))]) (rest := []) G Z ml_X8_231 (r_tell (r := (13, t, some K, none)) hlt hS hD hx (by first | omega | (simp only [List.length_append, List.length_cons, List.length_nil]; omega))) hS.1 dX8_tellMember_271 rfl (by decide) (by decide) (by decide) (by decide) (Nat.le_of_ble_eq_true rfl) rfl rfl (fun v120 h119 y121 => ?_) (fun _ _ hx => hx.elim)
                              obtain ⟨rfl, hFt, hD, hx⟩ := y121
                              show jv_V E 9 h119 0 0 (jv_Q E (fun v h' => v = none ∧ FW (fun k _ => 34 ≤ k ∧ k ≤ 39) (fun j => j = 33) x q h h' ∧ rf_D q h' (L ++ m_dM s t K (some tx) (some ty)) ∧ jv_I h' x 33 = nI (L ++ m_dM s t K (some tx) (some ty)).length) jv_no 0 0) 274 [(8, .int (nI (6 * (10 * b + i2) + j96))), (7, .int (nI (6 * (10 * a + i) + j1))), (0, .ref x), (1, .int (nI t)), (2, .int (nI (10 * a + i))), (3, .int (nI (10 * b + i2))), (4, .int (nI (K / 64))), (5, .int (nI (K % 64 / 4))), (6, .int (nI (K % 4)))] []
                              have hF := hF.tr (hFt.mono (W' := (fun k _ => 34 ≤ k ∧ k ≤ 39)) (X' := (fun j => j = 33)) (fun k j o => ⟨o.1, o.2.1⟩) (fun _ z => z))
                              have hS := hFt.S hS
                              have hx := hx.trans (congrArg nI (show _ = (L ++ [(13, t, some K, none)]).length by simp))
                              refine jv_vret G hr dX8_tellMember_274 (Nat.le_of_ble_eq_true rfl) (Nat.le_of_ble_eq_true rfl) ?_
                              have eL : (L ++ [(13, t, some K, none)]) = L ++ m_dM s t K (some tx) (some ty) := by
                                unfold m_dM
                                simp only [*, km_0]
                                first
                                  | done
                                  | rfl
                                  | (unfold m_dB; simp only [*, List.append_assoc, if_true, if_false, List.nil_append, List.append_nil, List.cons_append, reduceIte, and_self, and_true, true_and, not_true, not_false_iff, false_and, and_false, List.singleton_append]; done)
                                  | simp [*]
                              rw [eL] at hD hx
                              exact ⟨rfl, hF, hD, hx⟩
                            · refine jv_aload_n (q := 244) G 2 dX8_tellMember_243 rfl rfl rfl ?_
                              refine jv_getQ (q := 247) G dX8_tellMember_244 fl_X8_62 rfl hS.1 (rf_p19 hS) rfl ?_
                              refine jv_iload (q := 249) G 1 dX8_tellMember_247 rfl rfl ?_
                              refine jv_zald (q := 250) G dX8_tellMember_249 (rf_a19 hS) rfl (by omega) (by decide) (hF.M (fun k j o => wd_M o) Mm2).2.2.2.2.2.2 rfl ?_
                              refine jv_aload_n (q := 251) G 2 dX8_tellMember_250 rfl rfl rfl ?_
                              refine jv_getQ (q := 254) G dX8_tellMember_251 fl_X8_62 rfl hS.1 (rf_p19 hS) rfl ?_
                              refine jv_iload (q := 256) G 0 dX8_tellMember_254 rfl rfl ?_
                              refine jv_zald (q := 257) G dX8_tellMember_256 (rf_a19 hS) rfl (by omega) (by decide) (hF.M (fun k j o => wd_M o) Mm97).2.2.2.2.2.2 rfl ?_
                              refine jv_icmp_eqB (q := 260) (tgt := 274) G dX8_tellMember_257 (by decide) rfl (fun c122 => ?_) (fun c122 => ?_)
                              · refine jv_vret G hr dX8_tellMember_274 (Nat.le_of_ble_eq_true rfl) (Nat.le_of_ble_eq_true rfl) ?_
                                have eL : L = L ++ m_dM s t K (some tx) (some ty) := by
                                  unfold m_dM
                                  simp only [*, km_0]
                                  first
                                    | done
                                    | rfl
                                    | (unfold m_dB; simp only [*, List.append_assoc, if_true, if_false, List.nil_append, List.append_nil, List.cons_append, reduceIte, and_self, and_true, true_and, not_true, not_false_iff, false_and, and_false, List.singleton_append]; done)
                                    | simp [*]
                                rw [eL] at hD hx
                                exact ⟨rfl, hF, hD, hx⟩
                              · refine jv_aload_n (q := 261) G 2 dX8_tellMember_260 rfl rfl rfl ?_
                                refine jv_bipush (q := 263) (v := nI 13) G dX8_tellMember_261 (by decide) rfl ?_
                                refine jv_iload_n (q := 264) G 3 dX8_tellMember_263 rfl rfl rfl ?_
                                refine jv_iload (q := 266) G 7 dX8_tellMember_264 rfl rfl ?_
                                refine jv_iload (q := 268) G 8 dX8_tellMember_266 rfl rfl ?_
                                refine jv_iconst (q := 269) (v := (-1)) G dX8_tellMember_268 (by decide) rfl ?_
                                refine jv_iload (q := 271) G 6 dX8_tellMember_269 rfl rfl ?_
                                refine jv_callV (q := 274) (As := [.int (nI 13), .int (nI t), .int (nI (K % 64 / 4)), .int (nI (K % 4)), .int (-1), .int (nI (K / 64))]) (rest := []) G Z ml_X8_231 (r_tell (r := (13, t, some K, none)) hlt hS hD hx (by first | omega | (simp only [List.length_append, List.length_cons, List.length_nil]; omega))) hS.1 dX8_tellMember_271 rfl (by decide) (by decide) (by decide) (by decide) (Nat.le_of_ble_eq_true rfl) rfl rfl (fun v124 h123 y125 => ?_) (fun _ _ hx => hx.elim)
                                obtain ⟨rfl, hFt, hD, hx⟩ := y125
                                show jv_V E 9 h123 0 0 (jv_Q E (fun v h' => v = none ∧ FW (fun k _ => 34 ≤ k ∧ k ≤ 39) (fun j => j = 33) x q h h' ∧ rf_D q h' (L ++ m_dM s t K (some tx) (some ty)) ∧ jv_I h' x 33 = nI (L ++ m_dM s t K (some tx) (some ty)).length) jv_no 0 0) 274 [(8, .int (nI (6 * (10 * b + i2) + j96))), (7, .int (nI (6 * (10 * a + i) + j1))), (0, .ref x), (1, .int (nI t)), (2, .int (nI (10 * a + i))), (3, .int (nI (10 * b + i2))), (4, .int (nI (K / 64))), (5, .int (nI (K % 64 / 4))), (6, .int (nI (K % 4)))] []
                                have hF := hF.tr (hFt.mono (W' := (fun k _ => 34 ≤ k ∧ k ≤ 39)) (X' := (fun j => j = 33)) (fun k j o => ⟨o.1, o.2.1⟩) (fun _ z => z))
                                have hS := hFt.S hS
                                have hx := hx.trans (congrArg nI (show _ = (L ++ [(13, t, some K, none)]).length by simp))
                                refine jv_vret G hr dX8_tellMember_274 (Nat.le_of_ble_eq_true rfl) (Nat.le_of_ble_eq_true rfl) ?_
                                have eL : (L ++ [(13, t, some K, none)]) = L ++ m_dM s t K (some tx) (some ty) := by
                                  unfold m_dM
                                  simp only [*, km_0]
                                  first
                                    | done
                                    | rfl
                                    | (unfold m_dB; simp only [*, List.append_assoc, if_true, if_false, List.nil_append, List.append_nil, List.cons_append, reduceIte, and_self, and_true, true_and, not_true, not_false_iff, false_and, and_false, List.singleton_append]; done)
                                    | simp [*]
                                rw [eL] at hD hx
                                exact ⟨rfl, hF, hD, hx⟩
                          · refine jv_aload_n (q := 213) G 2 dX8_tellMember_212 rfl rfl rfl ?_
                            refine jv_bipush (q := 215) (v := nI 12) G dX8_tellMember_213 (by decide) rfl ?_
                            refine jv_iload_n (q := 216) G 3 dX8_tellMember_215 rfl rfl rfl ?_
                            refine jv_iload (q := 218) G 7 dX8_tellMember_216 rfl rfl ?_
                            refine jv_iload (q := 220) G 8 dX8_tellMember_218 rfl rfl ?_
                            refine jv_iconst (q := 221) (v := (-1)) G dX8_tellMember_220 (by decide) rfl ?_
                            refine jv_iload (q := 223) G 6 dX8_tellMember_221 rfl rfl ?_
                            refine jv_callV (q := 226) (As := [.int (nI 12), .int (nI t), .int (nI (K % 64 / 4)), .int (nI (K % 4)), .int (-1), .int (nI (K / 64))]) (rest := []) G Z ml_X8_231 (r_tell (r := (12, t, some K, none)) hlt hS hD hx (by first | omega | (simp only [List.length_append, List.length_cons, List.length_nil]; omega))) hS.1 dX8_tellMember_223 rfl (by decide) (by decide) (by decide) (by decide) (Nat.le_of_ble_eq_true rfl) rfl rfl (fun v127 h126 y128 => ?_) (fun _ _ hx => hx.elim)
                            obtain ⟨rfl, hFt, hD, hx⟩ := y128
                            show jv_V E 9 h126 0 0 (jv_Q E (fun v h' => v = none ∧ FW (fun k _ => 34 ≤ k ∧ k ≤ 39) (fun j => j = 33) x q h h' ∧ rf_D q h' (L ++ m_dM s t K (some tx) (some ty)) ∧ jv_I h' x 33 = nI (L ++ m_dM s t K (some tx) (some ty)).length) jv_no 0 0) 226 [(8, .int (nI (6 * (10 * b + i2) + j96))), (7, .int (nI (6 * (10 * a + i) + j1))), (0, .ref x), (1, .int (nI t)), (2, .int (nI (10 * a + i))), (3, .int (nI (10 * b + i2))), (4, .int (nI (K / 64))), (5, .int (nI (K % 64 / 4))), (6, .int (nI (K % 4)))] []
                            have hF := hF.tr (hFt.mono (W' := (fun k _ => 34 ≤ k ∧ k ≤ 39)) (X' := (fun j => j = 33)) (fun k j o => ⟨o.1, o.2.1⟩) (fun _ z => z))
                            have hS := hFt.S hS
                            have hx := hx.trans (congrArg nI (show _ = (L ++ [(12, t, some K, none)]).length by simp))
                            refine jv_aload_n (q := 227) G 2 dX8_tellMember_226 rfl rfl rfl ?_
                            refine jv_getQ (q := 230) G dX8_tellMember_227 fl_X8_59 rfl hS.1 (rf_p18 hS) rfl ?_
                            refine jv_iload (q := 232) G 1 dX8_tellMember_230 rfl rfl ?_
                            refine jv_iald (q := 233) G dX8_tellMember_232 (rf_a18 hS) rfl (by omega) (by decide) (hF.M (fun k j o => wd_M o) Mm2).2.2.2.2.2.1 rfl ?_
                            refine jv_aload_n (q := 234) G 2 dX8_tellMember_233 rfl rfl rfl ?_
                            refine jv_getQ (q := 237) G dX8_tellMember_234 fl_X8_59 rfl hS.1 (rf_p18 hS) rfl ?_
                            refine jv_iload (q := 239) G 0 dX8_tellMember_237 rfl rfl ?_
                            refine jv_iald (q := 240) G dX8_tellMember_239 (rf_a18 hS) rfl (by omega) (by decide) (hF.M (fun k j o => wd_M o) Mm97).2.2.2.2.2.1 rfl ?_
                            refine jv_icmp_ne (q := 243) (tgt := 260) G dX8_tellMember_240 (by decide) rfl (fun c129 => ?_) (fun c129 => ?_)
                            · refine jv_aload_n (q := 261) G 2 dX8_tellMember_260 rfl rfl rfl ?_
                              refine jv_bipush (q := 263) (v := nI 13) G dX8_tellMember_261 (by decide) rfl ?_
                              refine jv_iload_n (q := 264) G 3 dX8_tellMember_263 rfl rfl rfl ?_
                              refine jv_iload (q := 266) G 7 dX8_tellMember_264 rfl rfl ?_
                              refine jv_iload (q := 268) G 8 dX8_tellMember_266 rfl rfl ?_
                              refine jv_iconst (q := 269) (v := (-1)) G dX8_tellMember_268 (by decide) rfl ?_
                              refine jv_iload (q := 271) G 6 dX8_tellMember_269 rfl rfl ?_
                              refine jv_callV (q := 274) (As := [.int (nI 13), .int (nI t), .int (nI (K % 64 / 4)), .int (nI (K % 4)), .int (-1), .int (nI (K / 64))]) (rest := []) G Z ml_X8_231 (r_tell (r := (13, t, some K, none)) hlt hS hD hx (by first | omega | (simp only [List.length_append, List.length_cons, List.length_nil]; omega))) hS.1 dX8_tellMember_271 rfl (by decide) (by decide) (by decide) (by decide) (Nat.le_of_ble_eq_true rfl) rfl rfl (fun v131 h130 y132 => ?_) (fun _ _ hx => hx.elim)
                              obtain ⟨rfl, hFt, hD, hx⟩ := y132
                              show jv_V E 9 h130 0 0 (jv_Q E (fun v h' => v = none ∧ FW (fun k _ => 34 ≤ k ∧ k ≤ 39) (fun j => j = 33) x q h h' ∧ rf_D q h' (L ++ m_dM s t K (some tx) (some ty)) ∧ jv_I h' x 33 = nI (L ++ m_dM s t K (some tx) (some ty)).length) jv_no 0 0) 274 [(8, .int (nI (6 * (10 * b + i2) + j96))), (7, .int (nI (6 * (10 * a + i) + j1))), (0, .ref x), (1, .int (nI t)), (2, .int (nI (10 * a + i))), (3, .int (nI (10 * b + i2))), (4, .int (nI (K / 64))), (5, .int (nI (K % 64 / 4))), (6, .int (nI (K % 4)))] []
                              have hF := hF.tr (hFt.mono (W' := (fun k _ => 34 ≤ k ∧ k ≤ 39)) (X' := (fun j => j = 33)) (fun k j o => ⟨o.1, o.2.1⟩) (fun _ z => z))
                              have hS := hFt.S hS
                              have hx := hx.trans (congrArg nI (show _ = ((L ++ [(12, t, some K, none)]) ++ [(13, t, some K, none)]).length by simp))
                              refine jv_vret G hr dX8_tellMember_274 (Nat.le_of_ble_eq_true rfl) (Nat.le_of_ble_eq_true rfl) ?_
                              have eL : ((L ++ [(12, t, some K, none)]) ++ [(13, t, some K, none)]) = L ++ m_dM s t K (some tx) (some ty) := by
                                unfold m_dM
                                simp only [*, km_0]
                                first
                                  | done
                                  | rfl
                                  | (unfold m_dB; simp only [*, List.append_assoc, if_true, if_false, List.nil_append, List.append_nil, List.cons_append, reduceIte, and_self, and_true, true_and, not_true, not_false_iff, false_and, and_false, List.singleton_append]; done)
                                  | simp [*]
                              rw [eL] at hD hx
                              exact ⟨rfl, hF, hD, hx⟩
                            · refine jv_aload_n (q := 244) G 2 dX8_tellMember_243 rfl rfl rfl ?_
                              refine jv_getQ (q := 247) G dX8_tellMember_244 fl_X8_62 rfl hS.1 (rf_p19 hS) rfl ?_
                              refine jv_iload (q := 249) G 1 dX8_tellMember_247 rfl rfl ?_
                              refine jv_zald (q := 250) G dX8_tellMember_249 (rf_a19 hS) rfl (by omega) (by decide) (hF.M (fun k j o => wd_M o) Mm2).2.2.2.2.2.2 rfl ?_
                              refine jv_aload_n (q := 251) G 2 dX8_tellMember_250 rfl rfl rfl ?_
                              refine jv_getQ (q := 254) G dX8_tellMember_251 fl_X8_62 rfl hS.1 (rf_p19 hS) rfl ?_
                              refine jv_iload (q := 256) G 0 dX8_tellMember_254 rfl rfl ?_
                              refine jv_zald (q := 257) G dX8_tellMember_256 (rf_a19 hS) rfl (by omega) (by decide) (hF.M (fun k j o => wd_M o) Mm97).2.2.2.2.2.2 rfl ?_
                              refine jv_icmp_eqB (q := 260) (tgt := 274) G dX8_tellMember_257 (by decide) rfl (fun c133 => ?_) (fun c133 => ?_)
                              · refine jv_vret G hr dX8_tellMember_274 (Nat.le_of_ble_eq_true rfl) (Nat.le_of_ble_eq_true rfl) ?_
                                have eL : (L ++ [(12, t, some K, none)]) = L ++ m_dM s t K (some tx) (some ty) := by
                                  unfold m_dM
                                  simp only [*, km_0]
                                  first
                                    | done
                                    | rfl
                                    | (unfold m_dB; simp only [*, List.append_assoc, if_true, if_false, List.nil_append, List.append_nil, List.cons_append, reduceIte, and_self, and_true, true_and, not_true, not_false_iff, false_and, and_false, List.singleton_append]; done)
                                    | simp [*]
                                rw [eL] at hD hx
                                exact ⟨rfl, hF, hD, hx⟩
                              · refine jv_aload_n (q := 261) G 2 dX8_tellMember_260 rfl rfl rfl ?_
                                refine jv_bipush (q := 263) (v := nI 13) G dX8_tellMember_261 (by decide) rfl ?_
                                refine jv_iload_n (q := 264) G 3 dX8_tellMember_263 rfl rfl rfl ?_
                                refine jv_iload (q := 266) G 7 dX8_tellMember_264 rfl rfl ?_
                                refine jv_iload (q := 268) G 8 dX8_tellMember_266 rfl rfl ?_
                                refine jv_iconst (q := 269) (v := (-1)) G dX8_tellMember_268 (by decide) rfl ?_
                                refine jv_iload (q := 271) G 6 dX8_tellMember_269 rfl rfl ?_
                                refine jv_callV (q := 274) (As := [.int (nI 13), .int (nI t), .int (nI (K % 64 / 4)), .int (nI (K % 4)), .int (-1), .int (nI (K / 64))]) (rest := []) G Z ml_X8_231 (r_tell (r := (13, t, some K, none)) hlt hS hD hx (by first | omega | (simp only [List.length_append, List.length_cons, List.length_nil]; omega))) hS.1 dX8_tellMember_271 rfl (by decide) (by decide) (by decide) (by decide) (Nat.le_of_ble_eq_true rfl) rfl rfl (fun v135 h134 y136 => ?_) (fun _ _ hx => hx.elim)
                                obtain ⟨rfl, hFt, hD, hx⟩ := y136
                                show jv_V E 9 h134 0 0 (jv_Q E (fun v h' => v = none ∧ FW (fun k _ => 34 ≤ k ∧ k ≤ 39) (fun j => j = 33) x q h h' ∧ rf_D q h' (L ++ m_dM s t K (some tx) (some ty)) ∧ jv_I h' x 33 = nI (L ++ m_dM s t K (some tx) (some ty)).length) jv_no 0 0) 274 [(8, .int (nI (6 * (10 * b + i2) + j96))), (7, .int (nI (6 * (10 * a + i) + j1))), (0, .ref x), (1, .int (nI t)), (2, .int (nI (10 * a + i))), (3, .int (nI (10 * b + i2))), (4, .int (nI (K / 64))), (5, .int (nI (K % 64 / 4))), (6, .int (nI (K % 4)))] []
                                have hF := hF.tr (hFt.mono (W' := (fun k _ => 34 ≤ k ∧ k ≤ 39)) (X' := (fun j => j = 33)) (fun k j o => ⟨o.1, o.2.1⟩) (fun _ z => z))
                                have hS := hFt.S hS
                                have hx := hx.trans (congrArg nI (show _ = ((L ++ [(12, t, some K, none)]) ++ [(13, t, some K, none)]).length by simp))
                                refine jv_vret G hr dX8_tellMember_274 (Nat.le_of_ble_eq_true rfl) (Nat.le_of_ble_eq_true rfl) ?_
                                have eL : ((L ++ [(12, t, some K, none)]) ++ [(13, t, some K, none)]) = L ++ m_dM s t K (some tx) (some ty) := by
                                  unfold m_dM
                                  simp only [*, km_0]
                                  first
                                    | done
                                    | rfl
                                    | (unfold m_dB; simp only [*, List.append_assoc, if_true, if_false, List.nil_append, List.append_nil, List.cons_append, reduceIte, and_self, and_true, true_and, not_true, not_false_iff, false_and, and_false, List.singleton_append]; done)
                                    | simp [*]
                                rw [eL] at hD hx
                                exact ⟨rfl, hF, hD, hx⟩
                        · refine jv_aload_n (q := 182) G 2 dX8_tellMember_181 rfl rfl rfl ?_
                          refine jv_bipush (q := 184) (v := nI 11) G dX8_tellMember_182 (by decide) rfl ?_
                          refine jv_iload_n (q := 185) G 3 dX8_tellMember_184 rfl rfl rfl ?_
                          refine jv_iload (q := 187) G 7 dX8_tellMember_185 rfl rfl ?_
                          refine jv_iload (q := 189) G 8 dX8_tellMember_187 rfl rfl ?_
                          refine jv_iconst (q := 190) (v := (-1)) G dX8_tellMember_189 (by decide) rfl ?_
                          refine jv_iload (q := 192) G 6 dX8_tellMember_190 rfl rfl ?_
                          refine jv_callV (q := 195) (As := [.int (nI 11), .int (nI t), .int (nI (K % 64 / 4)), .int (nI (K % 4)), .int (-1), .int (nI (K / 64))]) (rest := []) G Z ml_X8_231 (r_tell (r := (11, t, some K, none)) hlt hS hD hx (by first | omega | (simp only [List.length_append, List.length_cons, List.length_nil]; omega))) hS.1 dX8_tellMember_192 rfl (by decide) (by decide) (by decide) (by decide) (Nat.le_of_ble_eq_true rfl) rfl rfl (fun v138 h137 y139 => ?_) (fun _ _ hx => hx.elim)
                          obtain ⟨rfl, hFt, hD, hx⟩ := y139
                          show jv_V E 9 h137 0 0 (jv_Q E (fun v h' => v = none ∧ FW (fun k _ => 34 ≤ k ∧ k ≤ 39) (fun j => j = 33) x q h h' ∧ rf_D q h' (L ++ m_dM s t K (some tx) (some ty)) ∧ jv_I h' x 33 = nI (L ++ m_dM s t K (some tx) (some ty)).length) jv_no 0 0) 195 [(8, .int (nI (6 * (10 * b + i2) + j96))), (7, .int (nI (6 * (10 * a + i) + j1))), (0, .ref x), (1, .int (nI t)), (2, .int (nI (10 * a + i))), (3, .int (nI (10 * b + i2))), (4, .int (nI (K / 64))), (5, .int (nI (K % 64 / 4))), (6, .int (nI (K % 4)))] []
                          have hF := hF.tr (hFt.mono (W' := (fun k _ => 34 ≤ k ∧ k ≤ 39)) (X' := (fun j => j = 33)) (fun k j o => ⟨o.1, o.2.1⟩) (fun _ z => z))
                          have hS := hFt.S hS
                          have hx := hx.trans (congrArg nI (show _ = (L ++ [(11, t, some K, none)]).length by simp))
                          refine jv_aload_n (q := 196) G 2 dX8_tellMember_195 rfl rfl rfl ?_
                          refine jv_getQ (q := 199) G dX8_tellMember_196 fl_X8_56 rfl hS.1 (rf_p17 hS) rfl ?_
                          refine jv_iload (q := 201) G 1 dX8_tellMember_199 rfl rfl ?_
                          refine jv_zald (q := 202) G dX8_tellMember_201 (rf_a17 hS) rfl (by omega) (by decide) (hF.M (fun k j o => wd_M o) Mm2).2.2.2.2.1 rfl ?_
                          refine jv_aload_n (q := 203) G 2 dX8_tellMember_202 rfl rfl rfl ?_
                          refine jv_getQ (q := 206) G dX8_tellMember_203 fl_X8_56 rfl hS.1 (rf_p17 hS) rfl ?_
                          refine jv_iload (q := 208) G 0 dX8_tellMember_206 rfl rfl ?_
                          refine jv_zald (q := 209) G dX8_tellMember_208 (rf_a17 hS) rfl (by omega) (by decide) (hF.M (fun k j o => wd_M o) Mm97).2.2.2.2.1 rfl ?_
                          refine jv_icmp_eqB (q := 212) (tgt := 226) G dX8_tellMember_209 (by decide) rfl (fun c140 => ?_) (fun c140 => ?_)
                          · refine jv_aload_n (q := 227) G 2 dX8_tellMember_226 rfl rfl rfl ?_
                            refine jv_getQ (q := 230) G dX8_tellMember_227 fl_X8_59 rfl hS.1 (rf_p18 hS) rfl ?_
                            refine jv_iload (q := 232) G 1 dX8_tellMember_230 rfl rfl ?_
                            refine jv_iald (q := 233) G dX8_tellMember_232 (rf_a18 hS) rfl (by omega) (by decide) (hF.M (fun k j o => wd_M o) Mm2).2.2.2.2.2.1 rfl ?_
                            refine jv_aload_n (q := 234) G 2 dX8_tellMember_233 rfl rfl rfl ?_
                            refine jv_getQ (q := 237) G dX8_tellMember_234 fl_X8_59 rfl hS.1 (rf_p18 hS) rfl ?_
                            refine jv_iload (q := 239) G 0 dX8_tellMember_237 rfl rfl ?_
                            refine jv_iald (q := 240) G dX8_tellMember_239 (rf_a18 hS) rfl (by omega) (by decide) (hF.M (fun k j o => wd_M o) Mm97).2.2.2.2.2.1 rfl ?_
                            refine jv_icmp_ne (q := 243) (tgt := 260) G dX8_tellMember_240 (by decide) rfl (fun c141 => ?_) (fun c141 => ?_)
                            · refine jv_aload_n (q := 261) G 2 dX8_tellMember_260 rfl rfl rfl ?_
                              refine jv_bipush (q := 263) (v := nI 13) G dX8_tellMember_261 (by decide) rfl ?_
                              refine jv_iload_n (q := 264) G 3 dX8_tellMember_263 rfl rfl rfl ?_
                              refine jv_iload (q := 266) G 7 dX8_tellMember_264 rfl rfl ?_
                              refine jv_iload (q := 268) G 8 dX8_tellMember_266 rfl rfl ?_
                              refine jv_iconst (q := 269) (v := (-1)) G dX8_tellMember_268 (by decide) rfl ?_
                              refine jv_iload (q := 271) G 6 dX8_tellMember_269 rfl rfl ?_
                              refine jv_callV (q := 274) (As := [.int (nI 13), .int (nI t), .int (nI (K % 64 / 4)), .int (nI (K % 4)), .int (-1), .int (nI (K / 64))]) (rest := []) G Z ml_X8_231 (r_tell (r := (13, t, some K, none)) hlt hS hD hx (by first | omega | (simp only [List.length_append, List.length_cons, List.length_nil]; omega))) hS.1 dX8_tellMember_271 rfl (by decide) (by decide) (by decide) (by decide) (Nat.le_of_ble_eq_true rfl) rfl rfl (fun v143 h142 y144 => ?_) (fun _ _ hx => hx.elim)
                              obtain ⟨rfl, hFt, hD, hx⟩ := y144
                              show jv_V E 9 h142 0 0 (jv_Q E (fun v h' => v = none ∧ FW (fun k _ => 34 ≤ k ∧ k ≤ 39) (fun j => j = 33) x q h h' ∧ rf_D q h' (L ++ m_dM s t K (some tx) (some ty)) ∧ jv_I h' x 33 = nI (L ++ m_dM s t K (some tx) (some ty)).length) jv_no 0 0) 274 [(8, .int (nI (6 * (10 * b + i2) + j96))), (7, .int (nI (6 * (10 * a + i) + j1))), (0, .ref x), (1, .int (nI t)), (2, .int (nI (10 * a + i))), (3, .int (nI (10 * b + i2))), (4, .int (nI (K / 64))), (5, .int (nI (K % 64 / 4))), (6, .int (nI (K % 4)))] []
                              have hF := hF.tr (hFt.mono (W' := (fun k _ => 34 ≤ k ∧ k ≤ 39)) (X' := (fun j => j = 33)) (fun k j o => ⟨o.1, o.2.1⟩) (fun _ z => z))
                              have hS := hFt.S hS
                              have hx := hx.trans (congrArg nI (show _ = ((L ++ [(11, t, some K, none)]) ++ [(13, t, some K, none)]).length by simp))
                              refine jv_vret G hr dX8_tellMember_274 (Nat.le_of_ble_eq_true rfl) (Nat.le_of_ble_eq_true rfl) ?_
                              have eL : ((L ++ [(11, t, some K, none)]) ++ [(13, t, some K, none)]) = L ++ m_dM s t K (some tx) (some ty) := by
                                unfold m_dM
                                simp only [*, km_0]
                                first
                                  | done
                                  | rfl
                                  | (unfold m_dB; simp only [*, List.append_assoc, if_true, if_false, List.nil_append, List.append_nil, List.cons_append, reduceIte, and_self, and_true, true_and, not_true, not_false_iff, false_and, and_false, List.singleton_append]; done)
                                  | simp [*]
                              rw [eL] at hD hx
                              exact ⟨rfl, hF, hD, hx⟩
                            · refine jv_aload_n (q := 244) G 2 dX8_tellMember_243 rfl rfl rfl ?_
                              refine jv_getQ (q := 247) G dX8_tellMember_244 fl_X8_62 rfl hS.1 (rf_p19 hS) rfl ?_
                              refine jv_iload (q := 249) G 1 dX8_tellMember_247 rfl rfl ?_
                              refine jv_zald (q := 250) G dX8_tellMember_249 (rf_a19 hS) rfl (by omega) (by decide) (hF.M (fun k j o => wd_M o) Mm2).2.2.2.2.2.2 rfl ?_
                              refine jv_aload_n (q := 251) G 2 dX8_tellMember_250 rfl rfl rfl ?_
                              refine jv_getQ (q := 254) G dX8_tellMember_251 fl_X8_62 rfl hS.1 (rf_p19 hS) rfl ?_
                              refine jv_iload (q := 256) G 0 dX8_tellMember_254 rfl rfl ?_
                              refine jv_zald (q := 257) G dX8_tellMember_256 (rf_a19 hS) rfl (by omega) (by decide) (hF.M (fun k j o => wd_M o) Mm97).2.2.2.2.2.2 rfl ?_
                              refine jv_icmp_eqB (q := 260) (tgt := 274) G dX8_tellMember_257 (by decide) rfl (fun c145 => ?_) (fun c145 => ?_)
                              · refine jv_vret G hr dX8_tellMember_274 (Nat.le_of_ble_eq_true rfl) (Nat.le_of_ble_eq_true rfl) ?_
                                have eL : (L ++ [(11, t, some K, none)]) = L ++ m_dM s t K (some tx) (some ty) := by
                                  unfold m_dM
                                  simp only [*, km_0]
                                  first
                                    | done
                                    | rfl
                                    | (unfold m_dB; simp only [*, List.append_assoc, if_true, if_false, List.nil_append, List.append_nil, List.cons_append, reduceIte, and_self, and_true, true_and, not_true, not_false_iff, false_and, and_false, List.singleton_append]; done)
                                    | simp [*]
                                rw [eL] at hD hx
                                exact ⟨rfl, hF, hD, hx⟩
                              · refine jv_aload_n (q := 261) G 2 dX8_tellMember_260 rfl rfl rfl ?_
                                refine jv_bipush (q := 263) (v := nI 13) G dX8_tellMember_261 (by decide) rfl ?_
                                refine jv_iload_n (q := 264) G 3 dX8_tellMember_263 rfl rfl rfl ?_
                                refine jv_iload (q := 266) G 7 dX8_tellMember_264 rfl rfl ?_
                                refine jv_iload (q := 268) G 8 dX8_tellMember_266 rfl rfl ?_
                                refine jv_iconst (q := 269) (v := (-1)) G dX8_tellMember_268 (by decide) rfl ?_
                                refine jv_iload (q := 271) G 6 dX8_tellMember_269 rfl rfl ?_
                                refine jv_callV (q := 274) (As := [.int (nI 13), .int (nI t), .int (nI (K % 64 / 4)), .int (nI (K % 4)), .int (-1), .int (nI (K / 64))]) (rest := []) G Z ml_X8_231 (r_tell (r := (13, t, some K, none)) hlt hS hD hx (by first | omega | (simp only [List.length_append, List.length_cons, List.length_nil]; omega))) hS.1 dX8_tellMember_271 rfl (by decide) (by decide) (by decide) (by decide) (Nat.le_of_ble_eq_true rfl) rfl rfl (fun v147 h146 y148 => ?_) (fun _ _ hx => hx.elim)
                                obtain ⟨rfl, hFt, hD, hx⟩ := y148
                                show jv_V E 9 h146 0 0 (jv_Q E (fun v h' => v = none ∧ FW (fun k _ => 34 ≤ k ∧ k ≤ 39) (fun j => j = 33) x q h h' ∧ rf_D q h' (L ++ m_dM s t K (some tx) (some ty)) ∧ jv_I h' x 33 = nI (L ++ m_dM s t K (some tx) (some ty)).length) jv_no 0 0) 274 [(8, .int (nI (6 * (10 * b + i2) + j96))), (7, .int (nI (6 * (10 * a + i) + j1))), (0, .ref x), (1, .int (nI t)), (2, .int (nI (10 * a + i))), (3, .int (nI (10 * b + i2))), (4, .int (nI (K / 64))), (5, .int (nI (K % 64 / 4))), (6, .int (nI (K % 4)))] []
                                have hF := hF.tr (hFt.mono (W' := (fun k _ => 34 ≤ k ∧ k ≤ 39)) (X' := (fun j => j = 33)) (fun k j o => ⟨o.1, o.2.1⟩) (fun _ z => z))
                                have hS := hFt.S hS
                                have hx := hx.trans (congrArg nI (show _ = ((L ++ [(11, t, some K, none)]) ++ [(13, t, some K, none)]).length by simp))
                                refine jv_vret G hr dX8_tellMember_274 (Nat.le_of_ble_eq_true rfl) (Nat.le_of_ble_eq_true rfl) ?_
                                have eL : ((L ++ [(11, t, some K, none)]) ++ [(13, t, some K, none)]) = L ++ m_dM s t K (some tx) (some ty) := by
                                  unfold m_dM
                                  simp only [*, km_0]
                                  first
                                    | done
                                    | rfl
                                    | (unfold m_dB; simp only [*, List.append_assoc, if_true, if_false, List.nil_append, List.append_nil, List.cons_append, reduceIte, and_self, and_true, true_and, not_true, not_false_iff, false_and, and_false, List.singleton_append]; done)
                                    | simp [*]
                                rw [eL] at hD hx
                                exact ⟨rfl, hF, hD, hx⟩
                          · refine jv_aload_n (q := 213) G 2 dX8_tellMember_212 rfl rfl rfl ?_
                            refine jv_bipush (q := 215) (v := nI 12) G dX8_tellMember_213 (by decide) rfl ?_
                            refine jv_iload_n (q := 216) G 3 dX8_tellMember_215 rfl rfl rfl ?_
                            refine jv_iload (q := 218) G 7 dX8_tellMember_216 rfl rfl ?_
                            refine jv_iload (q := 220) G 8 dX8_tellMember_218 rfl rfl ?_
                            refine jv_iconst (q := 221) (v := (-1)) G dX8_tellMember_220 (by decide) rfl ?_
                            refine jv_iload (q := 223) G 6 dX8_tellMember_221 rfl rfl ?_
                            refine jv_callV (q := 226) (As := [.int (nI 12), .int (nI t), .int (nI (K % 64 / 4)), .int (nI (K % 4)), .int (-1), .int (nI (K / 64))]) (rest := []) G Z ml_X8_231 (r_tell (r := (12, t, some K, none)) hlt hS hD hx (by first | omega | (simp only [List.length_append, List.length_cons, List.length_nil]; omega))) hS.1 dX8_tellMember_223 rfl (by decide) (by decide) (by decide) (by decide) (Nat.le_of_ble_eq_true rfl) rfl rfl (fun v150 h149 y151 => ?_) (fun _ _ hx => hx.elim)
                            obtain ⟨rfl, hFt, hD, hx⟩ := y151
                            show jv_V E 9 h149 0 0 (jv_Q E (fun v h' => v = none ∧ FW (fun k _ => 34 ≤ k ∧ k ≤ 39) (fun j => j = 33) x q h h' ∧ rf_D q h' (L ++ m_dM s t K (some tx) (some ty)) ∧ jv_I h' x 33 = nI (L ++ m_dM s t K (some tx) (some ty)).length) jv_no 0 0) 226 [(8, .int (nI (6 * (10 * b + i2) + j96))), (7, .int (nI (6 * (10 * a + i) + j1))), (0, .ref x), (1, .int (nI t)), (2, .int (nI (10 * a + i))), (3, .int (nI (10 * b + i2))), (4, .int (nI (K / 64))), (5, .int (nI (K % 64 / 4))), (6, .int (nI (K % 4)))] []
                            have hF := hF.tr (hFt.mono (W' := (fun k _ => 34 ≤ k ∧ k ≤ 39)) (X' := (fun j => j = 33)) (fun k j o => ⟨o.1, o.2.1⟩) (fun _ z => z))
                            have hS := hFt.S hS
                            have hx := hx.trans (congrArg nI (show _ = ((L ++ [(11, t, some K, none)]) ++ [(12, t, some K, none)]).length by simp))
                            refine jv_aload_n (q := 227) G 2 dX8_tellMember_226 rfl rfl rfl ?_
                            refine jv_getQ (q := 230) G dX8_tellMember_227 fl_X8_59 rfl hS.1 (rf_p18 hS) rfl ?_
                            refine jv_iload (q := 232) G 1 dX8_tellMember_230 rfl rfl ?_
                            refine jv_iald (q := 233) G dX8_tellMember_232 (rf_a18 hS) rfl (by omega) (by decide) (hF.M (fun k j o => wd_M o) Mm2).2.2.2.2.2.1 rfl ?_
                            refine jv_aload_n (q := 234) G 2 dX8_tellMember_233 rfl rfl rfl ?_
                            refine jv_getQ (q := 237) G dX8_tellMember_234 fl_X8_59 rfl hS.1 (rf_p18 hS) rfl ?_
                            refine jv_iload (q := 239) G 0 dX8_tellMember_237 rfl rfl ?_
                            refine jv_iald (q := 240) G dX8_tellMember_239 (rf_a18 hS) rfl (by omega) (by decide) (hF.M (fun k j o => wd_M o) Mm97).2.2.2.2.2.1 rfl ?_
                            refine jv_icmp_ne (q := 243) (tgt := 260) G dX8_tellMember_240 (by decide) rfl (fun c152 => ?_) (fun c152 => ?_)
                            · refine jv_aload_n (q := 261) G 2 dX8_tellMember_260 rfl rfl rfl ?_
                              refine jv_bipush (q := 263) (v := nI 13) G dX8_tellMember_261 (by decide) rfl ?_
                              refine jv_iload_n (q := 264) G 3 dX8_tellMember_263 rfl rfl rfl ?_
                              refine jv_iload (q := 266) G 7 dX8_tellMember_264 rfl rfl ?_
                              refine jv_iload (q := 268) G 8 dX8_tellMember_266 rfl rfl ?_
                              refine jv_iconst (q := 269) (v := (-1)) G dX8_tellMember_268 (by decide) rfl ?_
                              refine jv_iload (q := 271) G 6 dX8_tellMember_269 rfl rfl ?_
                              refine jv_callV (q := 274) (As := [.int (nI 13), .int (nI t), .int (nI (K % 64 / 4)), .int (nI (K % 4)), .int (-1), .int (nI (K / 64))]) (rest := []) G Z ml_X8_231 (r_tell (r := (13, t, some K, none)) hlt hS hD hx (by first | omega | (simp only [List.length_append, List.length_cons, List.length_nil]; omega))) hS.1 dX8_tellMember_271 rfl (by decide) (by decide) (by decide) (by decide) (Nat.le_of_ble_eq_true rfl) rfl rfl (fun v154 h153 y155 => ?_) (fun _ _ hx => hx.elim)
                              obtain ⟨rfl, hFt, hD, hx⟩ := y155
                              show jv_V E 9 h153 0 0 (jv_Q E (fun v h' => v = none ∧ FW (fun k _ => 34 ≤ k ∧ k ≤ 39) (fun j => j = 33) x q h h' ∧ rf_D q h' (L ++ m_dM s t K (some tx) (some ty)) ∧ jv_I h' x 33 = nI (L ++ m_dM s t K (some tx) (some ty)).length) jv_no 0 0) 274 [(8, .int (nI (6 * (10 * b + i2) + j96))), (7, .int (nI (6 * (10 * a + i) + j1))), (0, .ref x), (1, .int (nI t)), (2, .int (nI (10 * a + i))), (3, .int (nI (10 * b + i2))), (4, .int (nI (K / 64))), (5, .int (nI (K % 64 / 4))), (6, .int (nI (K % 4)))] []
                              have hF := hF.tr (hFt.mono (W' := (fun k _ => 34 ≤ k ∧ k ≤ 39)) (X' := (fun j => j = 33)) (fun k j o => ⟨o.1, o.2.1⟩) (fun _ z => z))
                              have hS := hFt.S hS
                              have hx := hx.trans (congrArg nI (show _ = (((L ++ [(11, t, some K, none)]) ++ [(12, t, some K, none)]) ++ [(13, t, some K, none)]).length by simp))
                              refine jv_vret G hr dX8_tellMember_274 (Nat.le_of_ble_eq_true rfl) (Nat.le_of_ble_eq_true rfl) ?_
                              have eL : (((L ++ [(11, t, some K, none)]) ++ [(12, t, some K, none)]) ++ [(13, t, some K, none)]) = L ++ m_dM s t K (some tx) (some ty) := by
                                unfold m_dM
                                simp only [*, km_0]
                                first
                                  | done
                                  | rfl
                                  | (unfold m_dB; simp only [*, List.append_assoc, if_true, if_false, List.nil_append, List.append_nil, List.cons_append, reduceIte, and_self, and_true, true_and, not_true, not_false_iff, false_and, and_false, List.singleton_append]; done)
                                  | simp [*]
                              rw [eL] at hD hx
                              exact ⟨rfl, hF, hD, hx⟩
                            · refine jv_aload_n (q := 244) G 2 dX8_tellMember_243 rfl rfl rfl ?_
                              refine jv_getQ (q := 247) G dX8_tellMember_244 fl_X8_62 rfl hS.1 (rf_p19 hS) rfl ?_
                              refine jv_iload (q := 249) G 1 dX8_tellMember_247 rfl rfl ?_
                              refine jv_zald (q := 250) G dX8_tellMember_249 (rf_a19 hS) rfl (by omega) (by decide) (hF.M (fun k j o => wd_M o) Mm2).2.2.2.2.2.2 rfl ?_
                              refine jv_aload_n (q := 251) G 2 dX8_tellMember_250 rfl rfl rfl ?_
                              refine jv_getQ (q := 254) G dX8_tellMember_251 fl_X8_62 rfl hS.1 (rf_p19 hS) rfl ?_
                              refine jv_iload (q := 256) G 0 dX8_tellMember_254 rfl rfl ?_
                              refine jv_zald (q := 257) G dX8_tellMember_256 (rf_a19 hS) rfl (by omega) (by decide) (hF.M (fun k j o => wd_M o) Mm97).2.2.2.2.2.2 rfl ?_
                              refine jv_icmp_eqB (q := 260) (tgt := 274) G dX8_tellMember_257 (by decide) rfl (fun c156 => ?_) (fun c156 => ?_)
                              · refine jv_vret G hr dX8_tellMember_274 (Nat.le_of_ble_eq_true rfl) (Nat.le_of_ble_eq_true rfl) ?_
                                have eL : ((L ++ [(11, t, some K, none)]) ++ [(12, t, some K, none)]) = L ++ m_dM s t K (some tx) (some ty) := by
                                  unfold m_dM
                                  simp only [*, km_0]
                                  first
                                    | done
                                    | rfl
                                    | (unfold m_dB; simp only [*, List.append_assoc, if_true, if_false, List.nil_append, List.append_nil, List.cons_append, reduceIte, and_self, and_true, true_and, not_true, not_false_iff, false_and, and_false, List.singleton_append]; done)
                                    | simp [*]
                                rw [eL] at hD hx
                                exact ⟨rfl, hF, hD, hx⟩
                              · refine jv_aload_n (q := 261) G 2 dX8_tellMember_260 rfl rfl rfl ?_
                                refine jv_bipush (q := 263) (v := nI 13) G dX8_tellMember_261 (by decide) rfl ?_
                                refine jv_iload_n (q := 264) G 3 dX8_tellMember_263 rfl rfl rfl ?_
                                refine jv_iload (q := 266) G 7 dX8_tellMember_264 rfl rfl ?_
                                refine jv_iload (q := 268) G 8 dX8_tellMember_266 rfl rfl ?_
                                refine jv_iconst (q := 269) (v := (-1)) G dX8_tellMember_268 (by decide) rfl ?_
                                refine jv_iload (q := 271) G 6 dX8_tellMember_269 rfl rfl ?_
                                refine jv_callV (q := 274) (As := [.int (nI 13), .int (nI t), .int (nI (K % 64 / 4)), .int (nI (K % 4)), .int (-1), .int (nI (K / 64))]) (rest := []) G Z ml_X8_231 (r_tell (r := (13, t, some K, none)) hlt hS hD hx (by first | omega | (simp only [List.length_append, List.length_cons, List.length_nil]; omega))) hS.1 dX8_tellMember_271 rfl (by decide) (by decide) (by decide) (by decide) (Nat.le_of_ble_eq_true rfl) rfl rfl (fun v158 h157 y159 => ?_) (fun _ _ hx => hx.elim)
                                obtain ⟨rfl, hFt, hD, hx⟩ := y159
                                show jv_V E 9 h157 0 0 (jv_Q E (fun v h' => v = none ∧ FW (fun k _ => 34 ≤ k ∧ k ≤ 39) (fun j => j = 33) x q h h' ∧ rf_D q h' (L ++ m_dM s t K (some tx) (some ty)) ∧ jv_I h' x 33 = nI (L ++ m_dM s t K (some tx) (some ty)).length) jv_no 0 0) 274 [(8, .int (nI (6 * (10 * b + i2) + j96))), (7, .int (nI (6 * (10 * a + i) + j1))), (0, .ref x), (1, .int (nI t)), (2, .int (nI (10 * a + i))), (3, .int (nI (10 * b + i2))), (4, .int (nI (K / 64))), (5, .int (nI (K % 64 / 4))), (6, .int (nI (K % 4)))] []
                                have hF := hF.tr (hFt.mono (W' := (fun k _ => 34 ≤ k ∧ k ≤ 39)) (X' := (fun j => j = 33)) (fun k j o => ⟨o.1, o.2.1⟩) (fun _ z => z))
                                have hS := hFt.S hS
                                have hx := hx.trans (congrArg nI (show _ = (((L ++ [(11, t, some K, none)]) ++ [(12, t, some K, none)]) ++ [(13, t, some K, none)]).length by simp))
                                refine jv_vret G hr dX8_tellMember_274 (Nat.le_of_ble_eq_true rfl) (Nat.le_of_ble_eq_true rfl) ?_
                                have eL : (((L ++ [(11, t, some K, none)]) ++ [(12, t, some K, none)]) ++ [(13, t, some K, none)]) = L ++ m_dM s t K (some tx) (some ty) := by
                                  unfold m_dM
                                  simp only [*, km_0]
                                  first
                                    | done
                                    | rfl
                                    | (unfold m_dB; simp only [*, List.append_assoc, if_true, if_false, List.nil_append, List.append_nil, List.cons_append, reduceIte, and_self, and_true, true_and, not_true, not_false_iff, false_and, and_false, List.singleton_append]; done)
                                    | simp [*]
                                rw [eL] at hD hx
                                exact ⟨rfl, hF, hD, hx⟩
                      · exact absurd c115 (jv_nI_m1 (by omega))
                  · exact absurd c113 (jv_nI_m1 (by omega))
                · exact absurd c112 (jv_nI_m1 (by omega))
            · exact absurd c110 (jv_nI_m1 (by omega))
      · exact absurd c95 (jv_nI_m1 (by omega))
