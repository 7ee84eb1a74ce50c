set_option maxHeartbeats 4000000 in
set_option maxRecDepth 100000 in
theorem k_cp2 {E : jv_E} {z : Nat → Nat → Nat} {T : Nat → Nat} {N : Nat → Nat → Nat} {h : jv_H} {a b : Nat} {A B : List mT} (hA : cv_E z T N h a A) (hB : cv_E z T N h b B) (hkA : ∀ (i : Nat) t, A[i]? = some t → m_uk t) (hkB : ∀ (i : Nat) t, B[i]? = some t → m_uk t) {s : mS} (hdS : dS z h s []) (hs16 : ∀ K u, s.2 K = some u → u < 16) (hL : (m_df A B s 16).length ≤ 230) {Φ : Option Value → jv_H → Prop} (hend : ∀ h', dF z h h' → dS z h' s (m_df A B s 16) → Φ none h') (hlt : (jv_l E).stackTraces = false) (G : jv_C E cX1_compare RX1 5) (Z : jv_rm E = jv_room 6 0 0) (hr : (jv_mt E).sig.returnType = none) : ∀ (n k : Nat) (h1 : jv_H), k + n = 16 → dF z h h1 → dS z h1 s (m_df A B s k) → jv_V E 5 h1 0 0 (jv_Q E Φ jv_no 0 0) 106 [(3, .int (nI k)), (0, .ref (z 6 3)), (1, .ref (z 0 a)), (2, .ref (z 0 b))] [] := by
  intro n
  induction n with
  | zero =>
    intro k h1 hn hF hd
    have lk := hdS.1; have lk1 := hd.1
    have fk := hF.1.mono (S' := SK z) (fun _ q => Or.inl q)
    have hA1 := sk_E lk fk hA; have hB1 := sk_E lk fk hB
    refine jv_iload_n (q := 107) G 0 dX1_compare_106 rfl rfl rfl ?_
    refine jv_bipush (q := 109) (v := nI 16) G dX1_compare_107 (by decide) rfl ?_
    refine jv_icmp_geN (q := 112) (tgt := 132) G dX1_compare_109 (by decide) rfl (by omega) (by omega) (fun c1 => ?_) (fun c1 => ?_)
    · refine jv_vret G hr dX1_compare_132 (Nat.le_of_ble_eq_true rfl) (Nat.le_of_ble_eq_true rfl) ?_
      rw [show k = 16 by omega] at hd
      exact hend _ hF hd
    · omega
  | succ n ih =>
    intro k h1 hn hF hd
    have lk := hdS.1; have lk1 := hd.1
    have fk := hF.1.mono (S' := SK z) (fun _ q => Or.inl q)
    have hA1 := sk_E lk fk hA; have hB1 := sk_E lk fk hB
    refine jv_iload_n (q := 107) G 0 dX1_compare_106 rfl rfl rfl ?_
    refine jv_bipush (q := 109) (v := nI 16) G dX1_compare_107 (by decide) rfl ?_
    refine jv_icmp_geN (q := 112) (tgt := 132) G dX1_compare_109 (by decide) rfl (by omega) (by omega) (fun c1 => ?_) (fun c1 => ?_)
    · omega
    · refine jv_aload_n (q := 113) G 1 dX1_compare_112 rfl rfl rfl ?_
      refine jv_aload_n (q := 114) G 2 dX1_compare_113 rfl rfl rfl ?_
      refine jv_iload_n (q := 115) G 0 dX1_compare_114 rfl rfl rfl ?_
      refine jv_callV_R (q := 118) (h1 := h1) (As := [.int (nI k)]) (rest := [.ref (z 6 3)]) (ce' := 0) (sl' := 0) (r := ((m_at A (nI k)).map (fun k => T (10 * a + k)))) G Z ml_X1_59 (k_named hlt hA1) hA1.1.1 dX1_compare_115 rfl (by decide) (by decide) (by decide) (by decide) (Nat.le_of_ble_eq_true rfl) rfl rfl rfl rfl ?_
      rcases Option.eq_none_or_eq_some (m_at A (nI k)) with hk4 | ⟨k2, hk4⟩
      · refine jv_topR (y := none) (by rw [hk4]; rfl) ?_
        refine jv_aload_n (q := 119) G 3 dX1_compare_118 rfl rfl rfl ?_
        refine jv_iload_n (q := 120) G 0 dX1_compare_119 rfl rfl rfl ?_
        refine jv_callV_R (q := 123) (h1 := h1) (As := [.int (nI k)]) (rest := [va_rf none, .ref (z 6 3)]) (ce' := 0) (sl' := 0) (r := ((m_at B (nI k)).map (fun k => T (10 * b + k)))) G Z ml_X1_59 (k_named hlt hB1) hB1.1.1 dX1_compare_120 rfl (by decide) (by decide) (by decide) (by decide) (Nat.le_of_ble_eq_true rfl) rfl rfl rfl rfl ?_
        rcases Option.eq_none_or_eq_some (m_at B (nI k)) with hk7 | ⟨k5, hk7⟩
        · refine jv_topR (y := none) (by rw [hk7]; rfl) ?_
          have tyA : m_ty1 A k = none := ty1_n hk4
          have tyB : m_ty1 B k = none := ty1_n hk7
          have eD : m_df A B s (k + 1) = m_df A B s k ++ m_d2 s k none none := by rw [m_df, d2_dt, tyA, tyB]
          have hm := df_mono (A := A) (B := B) (s := s) (k := k + 1) (n := n)
          rw [show k + 1 + n = 16 by omega] at hm
          refine jv_callV (q := 126) (As := [va_rf none, va_rf none]) (rest := []) G Z ml_X1_67 (k_tellType00 (N := N) hlt hd hs16 (by rw [← eD]; omega)) lk1.1 dX1_compare_123 rfl (by decide) (by decide) (by decide) (by decide) (Nat.le_of_ble_eq_true rfl) rfl rfl (fun v9 h8 y10 => ?_) (fun _ _ hx => hx.elim)
          obtain ⟨rfl, hF2, hd2⟩ := y10
          show jv_V E 5 h8 0 0 (jv_Q E Φ jv_no 0 0) 126 [(3, .int (nI k)), (0, .ref (z 6 3)), (1, .ref (z 0 a)), (2, .ref (z 0 b))] []
          refine jv_iinc (q := 129) (lo' := [(3, .int (nI (k + 1))), (0, .ref (z 6 3)), (1, .ref (z 0 a)), (2, .ref (z 0 b))]) (v := nI (k + 1)) G 0 dX1_compare_126 rfl (nI_1 k) (by decide) rfl rfl ?_
          refine jv_goto (q := 106) G dX1_compare_129 (by decide) ?_
          refine jv_lo [0, 1, 2, 3] (lo' := [(3, .int (nI (k + 1))), (0, .ref (z 6 3)), (1, .ref (z 0 a)), (2, .ref (z 0 b))]) rfl ?_
          rw [← eD] at hd2
          exact ih (k + 1) _ (by omega) (hF.tr hF2) hd2
        · refine jv_topR (y := (some (T (10 * b + k5)))) (by rw [hk7]; rfl) ?_
          obtain ⟨t6, ht6, nt6⟩ := m_at_get hk7
          have lt6 := jv_ltGet ht6
          have k10t6 : k5 < 10 := by have := hB1.2.2.2.1; omega
          have Ot6 := (hB1.2.2.2.2.1 k5 t6 ht6).2
          have Vt6 := (hB1.2.2.2.2.1 k5 t6 ht6).1
          have Yt6 := hB1.2.1 k5 k10t6
          have bt6n := Ot6.1; have bt6k := Ot6.2.1
          have tyA : m_ty1 A k = none := ty1_n hk4
          have tyB : m_ty1 B k = some t6 := ty1_s hk7 ht6
          have eD : m_df A B s (k + 1) = m_df A B s k ++ m_d2 s k none (some t6) := by rw [m_df, d2_dt, tyA, tyB]
          have hm := df_mono (A := A) (B := B) (s := s) (k := k + 1) (n := n)
          rw [show k + 1 + n = 16 by omega] at hm
          refine jv_callV (q := 126) (As := [va_rf none, .ref (T (10 * b + k5))]) (rest := []) G Z ml_X1_67 (k_tellType01 (N := N) hlt hd hs16 Yt6 Vt6 Ot6 (hkB _ _ ht6) ((nI_eq (by omega) (by omega)).mp nt6) (by rw [← eD]; omega)) lk1.1 dX1_compare_123 rfl (by decide) (by decide) (by decide) (by decide) (Nat.le_of_ble_eq_true rfl) rfl rfl (fun v12 h11 y13 => ?_) (fun _ _ hx => hx.elim)
          obtain ⟨rfl, hF2, hd2⟩ := y13
          show jv_V E 5 h11 0 0 (jv_Q E Φ jv_no 0 0) 126 [(3, .int (nI k)), (0, .ref (z 6 3)), (1, .ref (z 0 a)), (2, .ref (z 0 b))] []
          refine jv_iinc (q := 129) (lo' := [(3, .int (nI (k + 1))), (0, .ref (z 6 3)), (1, .ref (z 0 a)), (2, .ref (z 0 b))]) (v := nI (k + 1)) G 0 dX1_compare_126 rfl (nI_1 k) (by decide) rfl rfl ?_
          refine jv_goto (q := 106) G dX1_compare_129 (by decide) ?_
          refine jv_lo [0, 1, 2, 3] (lo' := [(3, .int (nI (k + 1))), (0, .ref (z 6 3)), (1, .ref (z 0 a)), (2, .ref (z 0 b))]) rfl ?_
          rw [← eD] at hd2
          exact ih (k + 1) _ (by omega) (hF.tr hF2) hd2
      · refine jv_topR (y := (some (T (10 * a + k2)))) (by rw [hk4]; rfl) ?_
        obtain ⟨t3, ht3, nt3⟩ := m_at_get hk4
        have lt3 := jv_ltGet ht3
        have k10t3 : k2 < 10 := by have := hA1.2.2.2.1; omega
        have Ot3 := (hA1.2.2.2.2.1 k2 t3 ht3).2
        have Vt3 := (hA1.2.2.2.2.1 k2 t3 ht3).1
        have Yt3 := hA1.2.1 k2 k10t3
        have bt3n := Ot3.1; have bt3k := Ot3.2.1
        refine jv_aload_n (q := 119) G 3 dX1_compare_118 rfl rfl rfl ?_
        refine jv_iload_n (q := 120) G 0 dX1_compare_119 rfl rfl rfl ?_
        refine jv_callV_R (q := 123) (h1 := h1) (As := [.int (nI k)]) (rest := [.ref (T (10 * a + k2)), .ref (z 6 3)]) (ce' := 0) (sl' := 0) (r := ((m_at B (nI k)).map (fun k => T (10 * b + k)))) G Z ml_X1_59 (k_named hlt hB1) hB1.1.1 dX1_compare_120 rfl (by decide) (by decide) (by decide) (by decide) (Nat.le_of_ble_eq_true rfl) rfl rfl rfl rfl ?_
        rcases Option.eq_none_or_eq_some (m_at B (nI k)) with hk16 | ⟨k14, hk16⟩
        · refine jv_topR (y := none) (by rw [hk16]; rfl) ?_
          have tyA : m_ty1 A k = some t3 := ty1_s hk4 ht3
          have tyB : m_ty1 B k = none := ty1_n hk16
          have eD : m_df A B s (k + 1) = m_df A B s k ++ m_d2 s k (some t3) none := by rw [m_df, d2_dt, tyA, tyB]
          have hm := df_mono (A := A) (B := B) (s := s) (k := k + 1) (n := n)
          rw [show k + 1 + n = 16 by omega] at hm
          refine jv_callV (q := 126) (As := [.ref (T (10 * a + k2)), va_rf none]) (rest := []) G Z ml_X1_67 (k_tellType10 (N := N) hlt hd hs16 Yt3 Vt3 Ot3 (hkA _ _ ht3) ((nI_eq (by omega) (by omega)).mp nt3) (by rw [← eD]; omega)) lk1.1 dX1_compare_123 rfl (by decide) (by decide) (by decide) (by decide) (Nat.le_of_ble_eq_true rfl) rfl rfl (fun v18 h17 y19 => ?_) (fun _ _ hx => hx.elim)
          obtain ⟨rfl, hF2, hd2⟩ := y19
          show jv_V E 5 h17 0 0 (jv_Q E Φ jv_no 0 0) 126 [(3, .int (nI k)), (0, .ref (z 6 3)), (1, .ref (z 0 a)), (2, .ref (z 0 b))] []
          refine jv_iinc (q := 129) (lo' := [(3, .int (nI (k + 1))), (0, .ref (z 6 3)), (1, .ref (z 0 a)), (2, .ref (z 0 b))]) (v := nI (k + 1)) G 0 dX1_compare_126 rfl (nI_1 k) (by decide) rfl rfl ?_
          refine jv_goto (q := 106) G dX1_compare_129 (by decide) ?_
          refine jv_lo [0, 1, 2, 3] (lo' := [(3, .int (nI (k + 1))), (0, .ref (z 6 3)), (1, .ref (z 0 a)), (2, .ref (z 0 b))]) rfl ?_
          rw [← eD] at hd2
          exact ih (k + 1) _ (by omega) (hF.tr hF2) hd2
        · refine jv_topR (y := (some (T (10 * b + k14)))) (by rw [hk16]; rfl) ?_
          obtain ⟨t15, ht15, nt15⟩ := m_at_get hk16
          have lt15 := jv_ltGet ht15
          have k10t15 : k14 < 10 := by have := hB1.2.2.2.1; omega
          have Ot15 := (hB1.2.2.2.2.1 k14 t15 ht15).2
          have Vt15 := (hB1.2.2.2.2.1 k14 t15 ht15).1
          have Yt15 := hB1.2.1 k14 k10t15
          have bt15n := Ot15.1; have bt15k := Ot15.2.1
          have tyA : m_ty1 A k = some t3 := ty1_s hk4 ht3
          have tyB : m_ty1 B k = some t15 := ty1_s hk16 ht15
          have eD : m_df A B s (k + 1) = m_df A B s k ++ m_d2 s k (some t3) (some t15) := by rw [m_df, d2_dt, tyA, tyB]
          have hm := df_mono (A := A) (B := B) (s := s) (k := k + 1) (n := n)
          rw [show k + 1 + n = 16 by omega] at hm
          refine jv_callV (q := 126) (As := [.ref (T (10 * a + k2)), .ref (T (10 * b + k14))]) (rest := []) G Z ml_X1_67 (k_tellType11 (N := N) hlt hd hs16 Yt3 Vt3 Ot3 (hkA _ _ ht3) ((nI_eq (by omega) (by omega)).mp nt3) Yt15 Vt15 Ot15 (hkB _ _ ht15) ((nI_eq (by omega) (by omega)).mp nt15) (by rw [← eD]; omega)) lk1.1 dX1_compare_123 rfl (by decide) (by decide) (by decide) (by decide) (Nat.le_of_ble_eq_true rfl) rfl rfl (fun v21 h20 y22 => ?_) (fun _ _ hx => hx.elim)
          obtain ⟨rfl, hF2, hd2⟩ := y22
          show jv_V E 5 h20 0 0 (jv_Q E Φ jv_no 0 0) 126 [(3, .int (nI k)), (0, .ref (z 6 3)), (1, .ref (z 0 a)), (2, .ref (z 0 b))] []
          refine jv_iinc (q := 129) (lo' := [(3, .int (nI (k + 1))), (0, .ref (z 6 3)), (1, .ref (z 0 a)), (2, .ref (z 0 b))]) (v := nI (k + 1)) G 0 dX1_compare_126 rfl (nI_1 k) (by decide) rfl rfl ?_
          refine jv_goto (q := 106) G dX1_compare_129 (by decide) ?_
          refine jv_lo [0, 1, 2, 3] (lo' := [(3, .int (nI (k + 1))), (0, .ref (z 6 3)), (1, .ref (z 0 a)), (2, .ref (z 0 b))]) rfl ?_
          rw [← eD] at hd2
          exact ih (k + 1) _ (by omega) (hF.tr hF2) hd2
set_option maxHeartbeats 4000000 in
set_option maxRecDepth 100000 in
theorem k_cp1 {E : jv_E} {z : Nat → Nat → Nat} {T : Nat → Nat} {N : Nat → Nat → Nat} {h : jv_H} {a b : Nat} {A B : List mT} {UA UB : Nat → List Nat} (hA : cv_E z T N h a A) (hB : cv_E z T N h b B) (uA : cv_Us z T h a A UA) (uB : cv_Us z T h b B UB) (nA : ∀ u l, u < 16 → l < 16 → c_ha A UA (nI u) (nI l) = m_abv A u l) (nB : ∀ u l, u < 16 → l < 16 → c_ha B UB (nI u) (nI l) = m_abv B u l) (hkA : ∀ (i : Nat) t, A[i]? = some t → m_uk t) (hkB : ∀ (i : Nat) t, B[i]? = some t → m_uk t) (huA : m_uq A) (lk : cl_k z h) {Φ : Option Value → jv_H → Prop} (hlt : (jv_l E).stackTraces = false) (G : jv_C E cX1_compare RX1 5) (Z : jv_rm E = jv_room 6 0 0) (hr : (jv_mt E).sig.returnType = none) (hend : ∀ h1, cF (fun y => y = z 7 8 ∨ y = z 7 9) h h1 → ck_m z h1 (m_mvt A B 16) → jv_V E 5 h1 0 0 (jv_Q E Φ jv_no 0 0) 106 [(3, .int (nI 0)), (0, .ref (z 6 3)), (1, .ref (z 0 a)), (2, .ref (z 0 b))] []) : ∀ (n k : Nat) (h1 : jv_H), k + n = 16 → cF (fun y => y = z 7 8 ∨ y = z 7 9) h h1 → ck_m z h1 (m_mvt A B k) → jv_V E 5 h1 0 0 (jv_Q E Φ jv_no 0 0) 62 [(3, .int (nI k)), (0, .ref (z 6 3)), (1, .ref (z 0 a)), (2, .ref (z 0 b))] [] := by
  intro n
  induction n with
  | zero =>
    intro k h1 hn hF ck
    have hA1 := ck_E lk hF hA; have hB1 := ck_E lk hF hB; have uA1 := ck_U lk hF hA uA; have uB1 := ck_U lk hF hB uB; have lk1 := ck_L hF lk
    refine jv_iload_n (q := 63) G 0 dX1_compare_62 rfl rfl rfl ?_
    refine jv_bipush (q := 65) (v := nI 16) G dX1_compare_63 (by decide) rfl ?_
    refine jv_icmp_geN (q := 68) (tgt := 104) G dX1_compare_65 (by decide) rfl (by omega) (by omega) (fun c1 => ?_) (fun c1 => ?_)
    · refine jv_iconst (q := 105) (v := nI 0) G dX1_compare_104 (by decide) rfl ?_
      refine jv_istore_n (q := 106) (lo' := [(3, .int (nI 0)), (0, .ref (z 6 3)), (1, .ref (z 0 a)), (2, .ref (z 0 b))]) G dX1_compare_105 rfl (by decide) rfl rfl ?_
      refine jv_lo [0, 1, 2, 3] (lo' := [(3, .int (nI 0)), (0, .ref (z 6 3)), (1, .ref (z 0 a)), (2, .ref (z 0 b))]) rfl ?_
      rw [show k = 16 by omega] at ck
      exact hend _ hF ck
    · omega
  | succ n ih =>
    intro k h1 hn hF ck
    have hA1 := ck_E lk hF hA; have hB1 := ck_E lk hF hB; have uA1 := ck_U lk hF hA uA; have uB1 := ck_U lk hF hB uB; have lk1 := ck_L hF lk
    refine jv_iload_n (q := 63) G 0 dX1_compare_62 rfl rfl rfl ?_
    refine jv_bipush (q := 65) (v := nI 16) G dX1_compare_63 (by decide) rfl ?_
    refine jv_icmp_geN (q := 68) (tgt := 104) G dX1_compare_65 (by decide) rfl (by omega) (by omega) (fun c1 => ?_) (fun c1 => ?_)
    · omega
    · refine jv_aload_n (q := 69) G 2 dX1_compare_68 rfl rfl rfl ?_
      refine jv_iload_n (q := 70) G 0 dX1_compare_69 rfl rfl rfl ?_
      refine jv_callV_R (q := 73) (h1 := h1) (As := [.int (nI k)]) (rest := []) (ce' := 0) (sl' := 0) (r := ((m_at A (nI k)).map (fun k => T (10 * a + k)))) G Z ml_X1_59 (k_named hlt hA1) hA1.1.1 dX1_compare_70 rfl (by decide) (by decide) (by decide) (by decide) (Nat.le_of_ble_eq_true rfl) rfl rfl rfl rfl ?_
      rcases Option.eq_none_or_eq_some (m_at A (nI k)) with hk4 | ⟨k2, hk4⟩
      · refine jv_topR (y := none) (by rw [hk4]; rfl) ?_
        refine jv_astoreR (q := 75) (lo' := [(4, va_rf none), (3, .int (nI k)), (0, .ref (z 6 3)), (1, .ref (z 0 a)), (2, .ref (z 0 b))]) (x := none) G dX1_compare_73 (by decide) rfl rfl ?_
        refine jv_aloadR (q := 77) G 0 dX1_compare_75 rfl rfl ?_
        refine jv_ifnull (q := 80) (tgt := 98) (x := none) G dX1_compare_77 (by decide) rfl (fun c5 => ?_) (fun a6 c5 => ?_)
        · refine jv_iinc (q := 101) (lo' := [(3, .int (nI (k + 1))), (4, va_rf none), (0, .ref (z 6 3)), (1, .ref (z 0 a)), (2, .ref (z 0 b))]) (v := nI (k + 1)) G 1 dX1_compare_98 rfl (nI_1 k) (by decide) rfl rfl ?_
          refine jv_goto (q := 62) G dX1_compare_101 (by decide) ?_
          refine jv_lo [0, 2, 3, 4] (lo' := [(3, .int (nI (k + 1))), (0, .ref (z 6 3)), (1, .ref (z 0 a)), (2, .ref (z 0 b))]) rfl ?_
          refine ih (k + 1) _ (by omega) hF ?_
          rw [m_mvt, mvk_no (ty1_n hk4)]; exact ck
        · cases c5
      · refine jv_topR (y := (some (T (10 * a + k2)))) (by rw [hk4]; rfl) ?_
        obtain ⟨t3, ht3, nt3⟩ := m_at_get hk4
        have lt3 := jv_ltGet ht3
        have k10t3 : k2 < 10 := by have := hA1.2.2.2.1; omega
        have Ot3 := (hA1.2.2.2.2.1 k2 t3 ht3).2
        have Vt3 := (hA1.2.2.2.2.1 k2 t3 ht3).1
        have Yt3 := hA1.2.1 k2 k10t3
        have bt3n := Ot3.1; have bt3k := Ot3.2.1
        refine jv_astore (q := 75) (lo' := [(4, .ref (T (10 * a + k2))), (3, .int (nI k)), (0, .ref (z 6 3)), (1, .ref (z 0 a)), (2, .ref (z 0 b))]) G dX1_compare_73 (by decide) rfl rfl ?_
        refine jv_aload (q := 77) G 0 dX1_compare_75 rfl rfl ?_
        refine jv_ifnull (q := 80) (tgt := 98) (x := (some (T (10 * a + k2)))) G dX1_compare_77 (by decide) rfl (fun c7 => ?_) (fun a8 c7 => ?_)
        · cases c7
        · refine jv_aload_n (q := 81) G 2 dX1_compare_80 rfl rfl rfl ?_
          refine jv_aload_n (q := 82) G 3 dX1_compare_81 rfl rfl rfl ?_
          refine jv_aload_n (q := 83) G 4 dX1_compare_82 rfl rfl rfl ?_
          refine jv_aload (q := 85) G 0 dX1_compare_83 rfl rfl ?_
          refine jv_iconst (q := 86) (v := nI 0) G dX1_compare_85 (by decide) rfl ?_
          refine jv_callV (q := 89) (As := [.ref (z 0 a), .ref (z 0 b), .ref (T (10 * a + k2)), .int (nI 0)]) (rest := []) G Z ml_X1_63 (k_takeMoves (s := m_mvt A B k) (w := false) hlt hA1 hB1 uA1 uB1 nA nB lk1 ht3 hkA hkB huA ck) lk1.1 dX1_compare_86 rfl (by decide) (by decide) (by decide) (by decide) (Nat.le_of_ble_eq_true rfl) rfl rfl (fun v10 h9 y11 => ?_) (fun _ _ hx => hx.elim)
          obtain ⟨rfl, hF2, ck2⟩ := y11
          show jv_V E 5 h9 0 0 (jv_Q E Φ jv_no 0 0) 89 [(4, .ref (T (10 * a + k2))), (3, .int (nI k)), (0, .ref (z 6 3)), (1, .ref (z 0 a)), (2, .ref (z 0 b))] []
          have uA1 := ck_U lk1 hF2 hA1 uA1; have uB1 := ck_U lk1 hF2 hB1 uB1; have hA1 := ck_E lk1 hF2 hA1; have hB1 := ck_E lk1 hF2 hB1; have hF := hF.tr hF2; have lk1 := ck_L hF2 lk1; have ck := ck2
          refine jv_aload_n (q := 90) G 2 dX1_compare_89 rfl rfl rfl ?_
          refine jv_aload_n (q := 91) G 3 dX1_compare_90 rfl rfl rfl ?_
          refine jv_aload_n (q := 92) G 4 dX1_compare_91 rfl rfl rfl ?_
          refine jv_aload (q := 94) G 0 dX1_compare_92 rfl rfl ?_
          refine jv_iconst (q := 95) (v := nI 1) G dX1_compare_94 (by decide) rfl ?_
          refine jv_callV (q := 98) (As := [.ref (z 0 a), .ref (z 0 b), .ref (T (10 * a + k2)), .int (nI 1)]) (rest := []) G Z ml_X1_63 (k_takeMoves (s := m_mvt A B k) (w := true) hlt hA1 hB1 uA1 uB1 nA nB lk1 ht3 hkA hkB huA ck) lk1.1 dX1_compare_95 rfl (by decide) (by decide) (by decide) (by decide) (Nat.le_of_ble_eq_true rfl) rfl rfl (fun v13 h12 y14 => ?_) (fun _ _ hx => hx.elim)
          obtain ⟨rfl, hF2, ck2⟩ := y14
          show jv_V E 5 h12 0 0 (jv_Q E Φ jv_no 0 0) 98 [(4, .ref (T (10 * a + k2))), (3, .int (nI k)), (0, .ref (z 6 3)), (1, .ref (z 0 a)), (2, .ref (z 0 b))] []
          have uA1 := ck_U lk1 hF2 hA1 uA1; have uB1 := ck_U lk1 hF2 hB1 uB1; have hA1 := ck_E lk1 hF2 hA1; have hB1 := ck_E lk1 hF2 hB1; have hF := hF.tr hF2; have lk1 := ck_L hF2 lk1; have ck := ck2
          refine jv_iinc (q := 101) (lo' := [(3, .int (nI (k + 1))), (4, .ref (T (10 * a + k2))), (0, .ref (z 6 3)), (1, .ref (z 0 a)), (2, .ref (z 0 b))]) (v := nI (k + 1)) G 1 dX1_compare_98 rfl (nI_1 k) (by decide) rfl rfl ?_
          refine jv_goto (q := 62) G dX1_compare_101 (by decide) ?_
          refine jv_lo [0, 2, 3, 4] (lo' := [(3, .int (nI (k + 1))), (0, .ref (z 6 3)), (1, .ref (z 0 a)), (2, .ref (z 0 b))]) rfl ?_
          have en : mt_n t3 = k := (nI_eq (by omega) (by omega)).mp nt3
          rw [en] at ck
          exact ih (k + 1) _ (by omega) hF ck
