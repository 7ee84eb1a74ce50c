set_option maxHeartbeats 4000000 in
set_option maxRecDepth 100000 in
theorem k_above {lA : Launch} (hlt : lA.stackTraces = false) {D : jv_D} {base : Nat} {z : Nat → Nat → Nat} {T : Nat → Nat} {N : Nat → Nat → Nat} {tO : Nat → Nat} {h : jv_H} {M : mA} (hR : cl_R z T N tO h M) {p0 : Int32} {p1 : Int32} {p2 : Int32} : jv_Met lA D base yX7_above (.code yX7_above cX7_above 4 (some .boolean)) 4 2 12 [.ref (z 6 0), .int p0, .int p1, .int p2] h (pC z tO h (m_seF M p0, m_above M p0 p1 p2, M)) (pX z tO h ["java/lang/IndexOutOfBoundsException", "java/lang/IllegalStateException"] (m_seF M p0, m_above M p0 p1 p2, M)) := by
  refine jv_ofV (lo := [(0, .ref (z 6 0)), (1, .int p0), (2, .int p1), (3, .int p2)]) hlt (by decide) (Nat.le_of_ble_eq_true rfl) rfl (fun E hEl hEd hEz Z G hr ht hnm => ?_)
  subst hEl; subst hEd; subst hEz
  have hl8 := hR.1.2.1.2.1; have hl12 := hR.1.2.1.2.2.2
  refine jv_aload_n (q := 1) G 0 dX7_above_0 rfl rfl rfl ?_
  refine jv_iload_n (q := 2) G 1 dX7_above_1 rfl rfl rfl ?_
  refine jv_callV (q := 5) (As := [.int p0]) (rest := []) G Z ml_X7_51 (k_sealedEdition hlt hR) hR.1.1.1 dX7_above_2 rfl (by decide) (by decide) (by decide) (by decide) (Nat.le_of_ble_eq_true rfl) rfl rfl (fun v2 h1 y3 => ?_) (fun cx hx yx => jv_out G ht (Nat.le_of_ble_eq_true rfl) (Nat.le_of_ble_eq_true rfl) (by obtain ⟨rfl, y1 | ⟨kq, y1, y2, y3⟩⟩ := yx; exact pX_c hR (se_1 y1.1) (by decide) y1.2; exact pX_c hR (se_2 y1 y2) (by decide) y3))
  obtain ⟨u0, hu0, rfl, zu0, hsu0, rfl, rfl⟩ := y3
  show jv_V E 4 h (0 + 2) (0 + 12) (jv_Q E (pC z tO h (m_seF M (nI u0), m_above M (nI u0) p1 p2, M)) (pX z tO h ["java/lang/IndexOutOfBoundsException", "java/lang/IllegalStateException"] (m_seF M (nI u0), m_above M (nI u0) p1 p2, M)) 2 12) 5 [(0, .ref (z 6 0)), (1, .int (nI u0)), (2, .int p1), (3, .int p2)] [.ref (z 0 u0)]
  have q8u0 : u0 < 8 := by omega
  have hEu0 := (hR.1.2.2.1 u0 q8u0).1; have hUu0 := (hR.1.2.2.1 u0 q8u0).2.2.2 hsu0; have sou0 := (hR.1.2.2.2 u0 q8u0).2.2 hsu0
  refine jv_iload_n (q := 6) G 2 dX7_above_5 rfl rfl rfl ?_
  refine jv_iload_n (q := 7) G 3 dX7_above_6 rfl rfl rfl ?_
  refine jv_callV_I (q := 10) (h1 := h) (As := [.int p1, .int p2]) (rest := []) (ce' := 0 + 2) (sl' := 0 + 12) (r := jv_bI (c_ha (ma_t M u0) (m_Us (ma_t M u0)) p1 p2)) G Z ml_X7_159 (k_hasAbove hlt hEu0 hUu0) hEu0.1.1 dX7_above_7 rfl (by decide) (by decide) (by decide) (by decide) (Nat.le_of_ble_eq_true rfl) rfl rfl rfl rfl ?_
  refine jv_zret G hr dX7_above_10 (Nat.le_of_ble_eq_true rfl) (Nat.le_of_ble_eq_true rfl) ?_
  exact pC_c hR (se_0 zu0 hsu0) (by rw [above_eq zu0 sou0])
set_option maxHeartbeats 4000000 in
set_option maxRecDepth 100000 in
theorem k_find {lA : Launch} (hlt : lA.stackTraces = false) {D : jv_D} {base : Nat} {z : Nat → Nat → Nat} {T : Nat → Nat} {N : Nat → Nat → Nat} {tO : Nat → Nat} {h : jv_H} {M : mA} (hR : cl_R z T N tO h M) {p0 : Int32} {p1 : Int32} {p2 : Bool} {p3 : Int32} {p4 : Int32} : jv_Met lA D base yX7_find (.code yX7_find cX7_find 7 (some .int)) 4 2 12 [.ref (z 6 0), .int p0, .int p1, .int (jv_bI p2), .int p3, .int p4] h (pC z tO h (m_seF M p0, m_find M p0 p1 p2 p3 p4, M)) (pX z tO h ["java/lang/IndexOutOfBoundsException", "java/lang/IllegalStateException"] (m_seF M p0, m_find M p0 p1 p2 p3 p4, M)) := by
  refine jv_ofV (lo := [(0, .ref (z 6 0)), (1, .int p0), (2, .int p1), (3, .int (jv_bI p2)), (4, .int p3), (5, .int p4)]) hlt (by decide) (Nat.le_of_ble_eq_true rfl) rfl (fun E hEl hEd hEz Z G hr ht hnm => ?_)
  subst hEl; subst hEd; subst hEz
  have hl8 := hR.1.2.1.2.1; have hl12 := hR.1.2.1.2.2.2
  refine jv_aload_n (q := 1) G 0 dX7_find_0 rfl rfl rfl ?_
  refine jv_iload_n (q := 2) G 1 dX7_find_1 rfl rfl rfl ?_
  refine jv_callV (q := 5) (As := [.int p0]) (rest := []) G Z ml_X7_51 (k_sealedEdition hlt hR) hR.1.1.1 dX7_find_2 rfl (by decide) (by decide) (by decide) (by decide) (Nat.le_of_ble_eq_true rfl) rfl rfl (fun v2 h1 y3 => ?_) (fun cx hx yx => jv_out G ht (Nat.le_of_ble_eq_true rfl) (Nat.le_of_ble_eq_true rfl) (by obtain ⟨rfl, y1 | ⟨kq, y1, y2, y3⟩⟩ := yx; exact pX_c hR (se_1 y1.1) (by decide) y1.2; exact pX_c hR (se_2 y1 y2) (by decide) y3))
  obtain ⟨u0, hu0, rfl, zu0, hsu0, rfl, rfl⟩ := y3
  show jv_V E 7 h (0 + 2) (0 + 12) (jv_Q E (pC z tO h (m_seF M (nI u0), m_find M (nI u0) p1 p2 p3 p4, M)) (pX z tO h ["java/lang/IndexOutOfBoundsException", "java/lang/IllegalStateException"] (m_seF M (nI u0), m_find M (nI u0) p1 p2 p3 p4, M)) 2 12) 5 [(0, .ref (z 6 0)), (1, .int (nI u0)), (2, .int p1), (3, .int (jv_bI p2)), (4, .int p3), (5, .int p4)] [.ref (z 0 u0)]
  have q8u0 : u0 < 8 := by omega
  have hEu0 := (hR.1.2.2.1 u0 q8u0).1; have hUu0 := (hR.1.2.2.1 u0 q8u0).2.2.2 hsu0; have sou0 := (hR.1.2.2.2 u0 q8u0).2.2 hsu0
  refine jv_astore (q := 7) (lo' := [(6, .ref (z 0 u0)), (0, .ref (z 6 0)), (1, .int (nI u0)), (2, .int p1), (3, .int (jv_bI p2)), (4, .int p3), (5, .int p4)]) G dX7_find_5 (by decide) rfl rfl ?_
  refine jv_aload (q := 9) G 0 dX7_find_7 rfl rfl ?_
  refine jv_aload (q := 11) G 0 dX7_find_9 rfl rfl ?_
  refine jv_iload_n (q := 12) G 3 dX7_find_11 rfl rfl rfl ?_
  refine jv_callV_R (q := 15) (h1 := h) (As := [.int p1]) (rest := [.ref (z 0 u0)]) (ce' := 0 + 2) (sl' := 0 + 12) (r := ((m_at (ma_t M u0) p1).map (fun k => T (10 * u0 + k)))) G Z ml_X7_79 (k_named hlt hEu0) hEu0.1.1 dX7_find_12 rfl (by decide) (by decide) (by decide) (by decide) (Nat.le_of_ble_eq_true rfl) rfl rfl rfl rfl ?_
  rcases Option.eq_none_or_eq_some (m_at (ma_t M u0) p1) with hk6 | ⟨k4, hk6⟩
  · refine jv_topR (y := none) (by rw [hk6]; rfl) ?_
    refine jv_iload_n (q := 16) G 4 dX7_find_15 rfl rfl rfl ?_
    refine jv_iload (q := 18) G 5 dX7_find_16 rfl rfl ?_
    refine jv_iload (q := 20) G 6 dX7_find_18 rfl rfl ?_
    refine jv_callS_I (q := 23) (h1 := h) (As := [.int p3, .int p4]) (rest := [.int (jv_bI p2), va_rf none, .ref (z 0 u0)]) (ce' := 0 + 2) (sl' := 0 + 12) (r := jv_oN (ky p3 p4)) G Z ml_X7_116 (k_keyOf hlt) dX7_find_20 rfl (by decide) (by decide) (by decide) (by decide) (Nat.le_of_ble_eq_true rfl) rfl rfl rfl rfl ?_
    refine jv_callV_R (q := 26) (h1 := h) (As := [va_rf none, .int (jv_bI p2), .int (jv_oN (ky p3 p4))]) (rest := []) (ce' := 0 + 2) (sl' := 0 + 12) (r := none) G Z ml_X7_162 (k_found0 (w := p2) (ko := (ky p3 p4)) hlt hEu0) hEu0.1.1 dX7_find_23 rfl (by decide) (by decide) (by decide) (by decide) (Nat.le_of_ble_eq_true rfl) rfl rfl rfl rfl ?_
    refine jv_callS_I (q := 29) (h1 := h) (As := [va_rf none]) (rest := []) (ce' := 0 + 2) (sl' := 0 + 12) (r := (-1)) G Z ml_X7_166 (k_nameOf0 hlt) dX7_find_26 rfl (by decide) (by decide) (by decide) (by decide) (Nat.le_of_ble_eq_true rfl) rfl rfl rfl rfl ?_
    refine jv_iret G hr dX7_find_29 (Nat.le_of_ble_eq_true rfl) (Nat.le_of_ble_eq_true rfl) ?_
    exact pC_c hR (se_0 zu0 hsu0) (by rw [find_eq zu0 sou0, hk6]; rfl)
  · refine jv_topR (y := (some (T (10 * u0 + k4)))) (by rw [hk6]; rfl) ?_
    obtain ⟨t5, ht5, nt5⟩ := m_at_get hk6
    have lt5 := jv_ltGet ht5
    have k10t5 : k4 < 10 := by have := hEu0.2.2.2.1; omega
    have Ot5 := (hEu0.2.2.2.2.1 k4 t5 ht5).2
    have Vt5 := (hEu0.2.2.2.2.1 k4 t5 ht5).1
    have Yt5 := hEu0.2.1 k4 k10t5
    have bt5n := Ot5.1; have bt5k := Ot5.2.1
    refine jv_iload_n (q := 16) G 4 dX7_find_15 rfl rfl rfl ?_
    refine jv_iload (q := 18) G 5 dX7_find_16 rfl rfl ?_
    refine jv_iload (q := 20) G 6 dX7_find_18 rfl rfl ?_
    refine jv_callS_I (q := 23) (h1 := h) (As := [.int p3, .int p4]) (rest := [.int (jv_bI p2), .ref (T (10 * u0 + k4)), .ref (z 0 u0)]) (ce' := 0 + 2) (sl' := 0 + 12) (r := jv_oN (ky p3 p4)) G Z ml_X7_116 (k_keyOf hlt) dX7_find_20 rfl (by decide) (by decide) (by decide) (by decide) (Nat.le_of_ble_eq_true rfl) rfl rfl rfl rfl ?_
    refine jv_callV_R (q := 26) (h1 := h) (As := [.ref (T (10 * u0 + k4)), .int (jv_bI p2), .int (jv_oN (ky p3 p4))]) (rest := []) (ce' := 0 + 2) (sl' := 0 + 12) (r := ((c_fd (ma_t M u0) (m_Us (ma_t M u0)) k4 p2 (ky p3 p4)).map (fun k => T (10 * u0 + k)))) G Z ml_X7_162 (k_found1 (w := p2) (ko := (ky p3 p4)) hlt hEu0 hUu0 ht5 (ky_64 p3 p4)) hEu0.1.1 dX7_find_23 rfl (by decide) (by decide) (by decide) (by decide) (Nat.le_of_ble_eq_true rfl) rfl rfl rfl rfl ?_
    rcases Option.eq_none_or_eq_some (c_fd (ma_t M u0) (m_Us (ma_t M u0)) k4 p2 (ky p3 p4)) with hk9 | ⟨k7, hk9⟩
    · refine jv_topR (y := none) (by rw [hk9]; rfl) ?_
      refine jv_callS_I (q := 29) (h1 := h) (As := [va_rf none]) (rest := []) (ce' := 0 + 2) (sl' := 0 + 12) (r := (-1)) G Z ml_X7_166 (k_nameOf0 hlt) dX7_find_26 rfl (by decide) (by decide) (by decide) (by decide) (Nat.le_of_ble_eq_true rfl) rfl rfl rfl rfl ?_
      refine jv_iret G hr dX7_find_29 (Nat.le_of_ble_eq_true rfl) (Nat.le_of_ble_eq_true rfl) ?_
      exact pC_c hR (se_0 zu0 hsu0) (by rw [find_eq zu0 sou0, hk6, Option.bind_some, hk9]; rfl)
    · refine jv_topR (y := (some (T (10 * u0 + k7)))) (by rw [hk9]; rfl) ?_
      obtain ⟨t8, ht8, nt8⟩ := fd_get hk9
      have lt8 := jv_ltGet ht8
      have k10t8 : k7 < 10 := by have := hEu0.2.2.2.1; omega
      have Ot8 := (hEu0.2.2.2.2.1 k7 t8 ht8).2
      have Vt8 := (hEu0.2.2.2.2.1 k7 t8 ht8).1
      have Yt8 := hEu0.2.1 k7 k10t8
      have bt8n := Ot8.1; have bt8k := Ot8.2.1
      refine jv_callS_I (q := 29) (h1 := h) (As := [.ref (T (10 * u0 + k7))]) (rest := []) (ce' := 0 + 2) (sl' := 0 + 12) (r := nI (mt_n t8)) G Z ml_X7_166 (k_nameOf1 hlt Yt8.1 (ct_0 Vt8)) dX7_find_26 rfl (by decide) (by decide) (by decide) (by decide) (Nat.le_of_ble_eq_true rfl) rfl rfl rfl rfl ?_
      refine jv_iret G hr dX7_find_29 (Nat.le_of_ble_eq_true rfl) (Nat.le_of_ble_eq_true rfl) ?_
      exact pC_c hR (se_0 zu0 hsu0) (by rw [find_eq zu0 sou0, hk6, Option.bind_some, hk9, nm_some ht8])
set_option maxHeartbeats 4000000 in
set_option maxRecDepth 100000 in
theorem k_select {lA : Launch} (hlt : lA.stackTraces = false) {D : jv_D} {base : Nat} {z : Nat → Nat → Nat} {T : Nat → Nat} {N : Nat → Nat → Nat} {tO : Nat → Nat} {h : jv_H} {M : mA} (hR : cl_R z T N tO h M) {p0 : Int32} {p1 : Int32} {p2 : Int32} {p3 : Int32} {p4 : Int32} : jv_Met lA D base yX7_select (.code yX7_select cX7_select 7 (some .int)) 5 2 12 [.ref (z 6 0), .int p0, .int p1, .int p2, .int p3, .int p4] h (pC z tO h (m_seF M p0, m_select M p0 p1 p2 p3 p4, M)) (pX z tO h ["java/lang/IndexOutOfBoundsException", "java/lang/IllegalStateException"] (m_seF M p0, m_select M p0 p1 p2 p3 p4, M)) := by
  refine jv_ofV (lo := [(0, .ref (z 6 0)), (1, .int p0), (2, .int p1), (3, .int p2), (4, .int p3), (5, .int p4)]) hlt (by decide) (Nat.le_of_ble_eq_true rfl) rfl (fun E hEl hEd hEz Z G hr ht hnm => ?_)
  subst hEl; subst hEd; subst hEz
  have hl8 := hR.1.2.1.2.1; have hl12 := hR.1.2.1.2.2.2
  refine jv_aload_n (q := 1) G 0 dX7_select_0 rfl rfl rfl ?_
  refine jv_iload_n (q := 2) G 1 dX7_select_1 rfl rfl rfl ?_
  refine jv_callV (q := 5) (As := [.int p0]) (rest := []) G Z ml_X7_51 (k_sealedEdition hlt hR) hR.1.1.1 dX7_select_2 rfl (by decide) (by decide) (by decide) (by decide) (Nat.le_of_ble_eq_true rfl) rfl rfl (fun v2 h1 y3 => ?_) (fun cx hx yx => jv_out G ht (Nat.le_of_ble_eq_true rfl) (Nat.le_of_ble_eq_true rfl) (by obtain ⟨rfl, y1 | ⟨kq, y1, y2, y3⟩⟩ := yx; exact pX_c hR (se_1 y1.1) (by decide) y1.2; exact pX_c hR (se_2 y1 y2) (by decide) y3))
  obtain ⟨u0, hu0, rfl, zu0, hsu0, rfl, rfl⟩ := y3
  show jv_V E 7 h (0 + 2) (0 + 12) (jv_Q E (pC z tO h (m_seF M (nI u0), m_select M (nI u0) p1 p2 p3 p4, M)) (pX z tO h ["java/lang/IndexOutOfBoundsException", "java/lang/IllegalStateException"] (m_seF M (nI u0), m_select M (nI u0) p1 p2 p3 p4, M)) 2 12) 5 [(0, .ref (z 6 0)), (1, .int (nI u0)), (2, .int p1), (3, .int p2), (4, .int p3), (5, .int p4)] [.ref (z 0 u0)]
  have q8u0 : u0 < 8 := by omega
  have hEu0 := (hR.1.2.2.1 u0 q8u0).1; have hUu0 := (hR.1.2.2.1 u0 q8u0).2.2.2 hsu0; have sou0 := (hR.1.2.2.2 u0 q8u0).2.2 hsu0
  refine jv_astore (q := 7) (lo' := [(6, .ref (z 0 u0)), (0, .ref (z 6 0)), (1, .int (nI u0)), (2, .int p1), (3, .int p2), (4, .int p3), (5, .int p4)]) G dX7_select_5 (by decide) rfl rfl ?_
  refine jv_aload (q := 9) G 0 dX7_select_7 rfl rfl ?_
  refine jv_aload (q := 11) G 0 dX7_select_9 rfl rfl ?_
  refine jv_iload_n (q := 12) G 3 dX7_select_11 rfl rfl rfl ?_
  refine jv_callV_R (q := 15) (h1 := h) (As := [.int p1]) (rest := [.ref (z 0 u0)]) (ce' := 0 + 2) (sl' := 0 + 12) (r := ((m_at (ma_t M u0) p1).map (fun k => T (10 * u0 + k)))) G Z ml_X7_79 (k_named hlt hEu0) hEu0.1.1 dX7_select_12 rfl (by decide) (by decide) (by decide) (by decide) (Nat.le_of_ble_eq_true rfl) rfl rfl rfl rfl ?_
  rcases Option.eq_none_or_eq_some (m_at (ma_t M u0) p1) with hk6 | ⟨k4, hk6⟩
  · refine jv_topR (y := none) (by rw [hk6]; rfl) ?_
    refine jv_iload_n (q := 16) G 4 dX7_select_15 rfl rfl rfl ?_
    refine jv_iload (q := 18) G 5 dX7_select_16 rfl rfl ?_
    refine jv_callS_I (q := 21) (h1 := h) (As := [.int p2, .int p3]) (rest := [va_rf none, .ref (z 0 u0)]) (ce' := 0 + 2) (sl' := 0 + 12) (r := jv_oN (ky p2 p3)) G Z ml_X7_116 (k_keyOf hlt) dX7_select_18 rfl (by decide) (by decide) (by decide) (by decide) (Nat.le_of_ble_eq_true rfl) rfl rfl rfl rfl ?_
    refine jv_aload (q := 23) G 0 dX7_select_21 rfl rfl ?_
    refine jv_iload (q := 25) G 6 dX7_select_23 rfl rfl ?_
    refine jv_callV_R (q := 28) (h1 := h) (As := [.int p4]) (rest := [.int (jv_oN (ky p2 p3)), va_rf none, .ref (z 0 u0)]) (ce' := 0 + 2) (sl' := 0 + 12) (r := ((m_cn (ma_t M u0) p4 false).map (fun k => T (10 * u0 + k)))) G Z ml_X7_170 (k_classNamed hlt hEu0) hEu0.1.1 dX7_select_25 rfl (by decide) (by decide) (by decide) (by decide) (Nat.le_of_ble_eq_true rfl) rfl rfl rfl rfl ?_
    rcases Option.eq_none_or_eq_some (m_cn (ma_t M u0) p4 false) with hk9 | ⟨k7, hk9⟩
    · refine jv_topR (y := none) (by rw [hk9]; rfl) ?_
      refine jv_callV_R (q := 31) (h1 := h) (As := [va_rf none, .int (jv_oN (ky p2 p3)), va_rf none]) (rest := []) (ce' := 0 + 2) (sl' := 0 + 12) (r := ((c_rn (ma_t M u0) (m_Us (ma_t M u0)) none (ky p2 p3) p4).map (fun k => T (10 * u0 + k)))) G Z ml_X7_173 (k_selO (rc := p4) (ko := (ky p2 p3)) (ho := none) (ro := none) hlt hEu0 hUu0 (ky_64 p2 p3) (fun K q => by cases q) hk9) hEu0.1.1 dX7_select_28 rfl (by decide) (by decide) (by decide) (by decide) (Nat.le_of_ble_eq_true rfl) rfl rfl rfl rfl ?_
      rcases Option.eq_none_or_eq_some (c_rn (ma_t M u0) (m_Us (ma_t M u0)) none (ky p2 p3) p4) with hk12 | ⟨k10, hk12⟩
      · refine jv_topR (y := none) (by rw [hk12]; rfl) ?_
        refine jv_callS_I (q := 34) (h1 := h) (As := [va_rf none]) (rest := []) (ce' := 0 + 2) (sl' := 0 + 12) (r := (-1)) G Z ml_X7_166 (k_nameOf0 hlt) dX7_select_31 rfl (by decide) (by decide) (by decide) (by decide) (Nat.le_of_ble_eq_true rfl) rfl rfl rfl rfl ?_
        refine jv_iret G hr dX7_select_34 (Nat.le_of_ble_eq_true rfl) (Nat.le_of_ble_eq_true rfl) ?_
        exact pC_c hR (se_0 zu0 hsu0) (by rw [select_eq zu0 sou0, hk6, hk12]; rfl)
      · refine jv_topR (y := (some (T (10 * u0 + k10)))) (by rw [hk12]; rfl) ?_
        obtain ⟨t11, ht11, nt11⟩ := rn_get hk12
        have lt11 := jv_ltGet ht11
        have k10t11 : k10 < 10 := by have := hEu0.2.2.2.1; omega
        have Ot11 := (hEu0.2.2.2.2.1 k10 t11 ht11).2
        have Vt11 := (hEu0.2.2.2.2.1 k10 t11 ht11).1
        have Yt11 := hEu0.2.1 k10 k10t11
        have bt11n := Ot11.1; have bt11k := Ot11.2.1
        refine jv_callS_I (q := 34) (h1 := h) (As := [.ref (T (10 * u0 + k10))]) (rest := []) (ce' := 0 + 2) (sl' := 0 + 12) (r := nI (mt_n t11)) G Z ml_X7_166 (k_nameOf1 hlt Yt11.1 (ct_0 Vt11)) dX7_select_31 rfl (by decide) (by decide) (by decide) (by decide) (Nat.le_of_ble_eq_true rfl) rfl rfl rfl rfl ?_
        refine jv_iret G hr dX7_select_34 (Nat.le_of_ble_eq_true rfl) (Nat.le_of_ble_eq_true rfl) ?_
        exact pC_c hR (se_0 zu0 hsu0) (by rw [select_eq zu0 sou0, hk6, hk12, nm_some ht11])
    · refine jv_topR (y := (some (T (10 * u0 + k7)))) (by rw [hk9]; rfl) ?_
      obtain ⟨t8, ht8, nt8⟩ := m_cn_get hk9
      have lt8 := jv_ltGet ht8
      have k10t8 : k7 < 10 := by have := hEu0.2.2.2.1; omega
      have Ot8 := (hEu0.2.2.2.2.1 k7 t8 ht8).2
      have Vt8 := (hEu0.2.2.2.2.1 k7 t8 ht8).1
      have Yt8 := hEu0.2.1 k7 k10t8
      have bt8n := Ot8.1; have bt8k := Ot8.2.1
      refine jv_callV_R (q := 31) (h1 := h) (As := [va_rf none, .int (jv_oN (ky p2 p3)), .ref (T (10 * u0 + k7))]) (rest := []) (ce' := 0 + 2) (sl' := 0 + 12) (r := ((c_rn (ma_t M u0) (m_Us (ma_t M u0)) none (ky p2 p3) p4).map (fun k => T (10 * u0 + k)))) G Z ml_X7_173 (k_selO (rc := p4) (ko := (ky p2 p3)) (ho := none) (ro := (some k7)) hlt hEu0 hUu0 (ky_64 p2 p3) (fun K q => by cases q) hk9) hEu0.1.1 dX7_select_28 rfl (by decide) (by decide) (by decide) (by decide) (Nat.le_of_ble_eq_true rfl) rfl rfl rfl rfl ?_
      rcases Option.eq_none_or_eq_some (c_rn (ma_t M u0) (m_Us (ma_t M u0)) none (ky p2 p3) p4) with hk15 | ⟨k13, hk15⟩
      · refine jv_topR (y := none) (by rw [hk15]; rfl) ?_
        refine jv_callS_I (q := 34) (h1 := h) (As := [va_rf none]) (rest := []) (ce' := 0 + 2) (sl' := 0 + 12) (r := (-1)) G Z ml_X7_166 (k_nameOf0 hlt) dX7_select_31 rfl (by decide) (by decide) (by decide) (by decide) (Nat.le_of_ble_eq_true rfl) rfl rfl rfl rfl ?_
        refine jv_iret G hr dX7_select_34 (Nat.le_of_ble_eq_true rfl) (Nat.le_of_ble_eq_true rfl) ?_
        exact pC_c hR (se_0 zu0 hsu0) (by rw [select_eq zu0 sou0, hk6, hk15]; rfl)
      · refine jv_topR (y := (some (T (10 * u0 + k13)))) (by rw [hk15]; rfl) ?_
        obtain ⟨t14, ht14, nt14⟩ := rn_get hk15
        have lt14 := jv_ltGet ht14
        have k10t14 : k13 < 10 := by have := hEu0.2.2.2.1; omega
        have Ot14 := (hEu0.2.2.2.2.1 k13 t14 ht14).2
        have Vt14 := (hEu0.2.2.2.2.1 k13 t14 ht14).1
        have Yt14 := hEu0.2.1 k13 k10t14
        have bt14n := Ot14.1; have bt14k := Ot14.2.1
        refine jv_callS_I (q := 34) (h1 := h) (As := [.ref (T (10 * u0 + k13))]) (rest := []) (ce' := 0 + 2) (sl' := 0 + 12) (r := nI (mt_n t14)) G Z ml_X7_166 (k_nameOf1 hlt Yt14.1 (ct_0 Vt14)) dX7_select_31 rfl (by decide) (by decide) (by decide) (by decide) (Nat.le_of_ble_eq_true rfl) rfl rfl rfl rfl ?_
        refine jv_iret G hr dX7_select_34 (Nat.le_of_ble_eq_true rfl) (Nat.le_of_ble_eq_true rfl) ?_
        exact pC_c hR (se_0 zu0 hsu0) (by rw [select_eq zu0 sou0, hk6, hk15, nm_some ht14])
  · refine jv_topR (y := (some (T (10 * u0 + k4)))) (by rw [hk6]; rfl) ?_
    obtain ⟨t5, ht5, nt5⟩ := m_at_get hk6
    have lt5 := jv_ltGet ht5
    have k10t5 : k4 < 10 := by have := hEu0.2.2.2.1; omega
    have Ot5 := (hEu0.2.2.2.2.1 k4 t5 ht5).2
    have Vt5 := (hEu0.2.2.2.2.1 k4 t5 ht5).1
    have Yt5 := hEu0.2.1 k4 k10t5
    have bt5n := Ot5.1; have bt5k := Ot5.2.1
    refine jv_iload_n (q := 16) G 4 dX7_select_15 rfl rfl rfl ?_
    refine jv_iload (q := 18) G 5 dX7_select_16 rfl rfl ?_
    refine jv_callS_I (q := 21) (h1 := h) (As := [.int p2, .int p3]) (rest := [.ref (T (10 * u0 + k4)), .ref (z 0 u0)]) (ce' := 0 + 2) (sl' := 0 + 12) (r := jv_oN (ky p2 p3)) G Z ml_X7_116 (k_keyOf hlt) dX7_select_18 rfl (by decide) (by decide) (by decide) (by decide) (Nat.le_of_ble_eq_true rfl) rfl rfl rfl rfl ?_
    refine jv_aload (q := 23) G 0 dX7_select_21 rfl rfl ?_
    refine jv_iload (q := 25) G 6 dX7_select_23 rfl rfl ?_
    refine jv_callV_R (q := 28) (h1 := h) (As := [.int p4]) (rest := [.int (jv_oN (ky p2 p3)), .ref (T (10 * u0 + k4)), .ref (z 0 u0)]) (ce' := 0 + 2) (sl' := 0 + 12) (r := ((m_cn (ma_t M u0) p4 false).map (fun k => T (10 * u0 + k)))) G Z ml_X7_170 (k_classNamed hlt hEu0) hEu0.1.1 dX7_select_25 rfl (by decide) (by decide) (by decide) (by decide) (Nat.le_of_ble_eq_true rfl) rfl rfl rfl rfl ?_
    rcases Option.eq_none_or_eq_some (m_cn (ma_t M u0) p4 false) with hk18 | ⟨k16, hk18⟩
    · refine jv_topR (y := none) (by rw [hk18]; rfl) ?_
      refine jv_callV_R (q := 31) (h1 := h) (As := [.ref (T (10 * u0 + k4)), .int (jv_oN (ky p2 p3)), va_rf none]) (rest := []) (ce' := 0 + 2) (sl' := 0 + 12) (r := ((c_rn (ma_t M u0) (m_Us (ma_t M u0)) (some k4) (ky p2 p3) p4).map (fun k => T (10 * u0 + k)))) G Z ml_X7_173 (k_selO (rc := p4) (ko := (ky p2 p3)) (ho := (some k4)) (ro := none) hlt hEu0 hUu0 (ky_64 p2 p3) (fun K q => by cases q; exact jv_ltGet ht5) hk18) hEu0.1.1 dX7_select_28 rfl (by decide) (by decide) (by decide) (by decide) (Nat.le_of_ble_eq_true rfl) rfl rfl rfl rfl ?_
      rcases Option.eq_none_or_eq_some (c_rn (ma_t M u0) (m_Us (ma_t M u0)) (some k4) (ky p2 p3) p4) with hk21 | ⟨k19, hk21⟩
      · refine jv_topR (y := none) (by rw [hk21]; rfl) ?_
        refine jv_callS_I (q := 34) (h1 := h) (As := [va_rf none]) (rest := []) (ce' := 0 + 2) (sl' := 0 + 12) (r := (-1)) G Z ml_X7_166 (k_nameOf0 hlt) dX7_select_31 rfl (by decide) (by decide) (by decide) (by decide) (Nat.le_of_ble_eq_true rfl) rfl rfl rfl rfl ?_
        refine jv_iret G hr dX7_select_34 (Nat.le_of_ble_eq_true rfl) (Nat.le_of_ble_eq_true rfl) ?_
        exact pC_c hR (se_0 zu0 hsu0) (by rw [select_eq zu0 sou0, hk6, hk21]; rfl)
      · refine jv_topR (y := (some (T (10 * u0 + k19)))) (by rw [hk21]; rfl) ?_
        obtain ⟨t20, ht20, nt20⟩ := rn_get hk21
        have lt20 := jv_ltGet ht20
        have k10t20 : k19 < 10 := by have := hEu0.2.2.2.1; omega
        have Ot20 := (hEu0.2.2.2.2.1 k19 t20 ht20).2
        have Vt20 := (hEu0.2.2.2.2.1 k19 t20 ht20).1
        have Yt20 := hEu0.2.1 k19 k10t20
        have bt20n := Ot20.1; have bt20k := Ot20.2.1
        refine jv_callS_I (q := 34) (h1 := h) (As := [.ref (T (10 * u0 + k19))]) (rest := []) (ce' := 0 + 2) (sl' := 0 + 12) (r := nI (mt_n t20)) G Z ml_X7_166 (k_nameOf1 hlt Yt20.1 (ct_0 Vt20)) dX7_select_31 rfl (by decide) (by decide) (by decide) (by decide) (Nat.le_of_ble_eq_true rfl) rfl rfl rfl rfl ?_
        refine jv_iret G hr dX7_select_34 (Nat.le_of_ble_eq_true rfl) (Nat.le_of_ble_eq_true rfl) ?_
        exact pC_c hR (se_0 zu0 hsu0) (by rw [select_eq zu0 sou0, hk6, hk21, nm_some ht20])
    · refine jv_topR (y := (some (T (10 * u0 + k16)))) (by rw [hk18]; rfl) ?_
      obtain ⟨t17, ht17, nt17⟩ := m_cn_get hk18
      have lt17 := jv_ltGet ht17
      have k10t17 : k16 < 10 := by have := hEu0.2.2.2.1; omega
      have Ot17 := (hEu0.2.2.2.2.1 k16 t17 ht17).2
      have Vt17 := (hEu0.2.2.2.2.1 k16 t17 ht17).1
      have Yt17 := hEu0.2.1 k16 k10t17
      have bt17n := Ot17.1; have bt17k := Ot17.2.1
      refine jv_callV_R (q := 31) (h1 := h) (As := [.ref (T (10 * u0 + k4)), .int (jv_oN (ky p2 p3)), .ref (T (10 * u0 + k16))]) (rest := []) (ce' := 0 + 2) (sl' := 0 + 12) (r := ((c_rn (ma_t M u0) (m_Us (ma_t M u0)) (some k4) (ky p2 p3) p4).map (fun k => T (10 * u0 + k)))) G Z ml_X7_173 (k_selO (rc := p4) (ko := (ky p2 p3)) (ho := (some k4)) (ro := (some k16)) hlt hEu0 hUu0 (ky_64 p2 p3) (fun K q => by cases q; exact jv_ltGet ht5) hk18) hEu0.1.1 dX7_select_28 rfl (by decide) (by decide) (by decide) (by decide) (Nat.le_of_ble_eq_true rfl) rfl rfl rfl rfl ?_
      rcases Option.eq_none_or_eq_some (c_rn (ma_t M u0) (m_Us (ma_t M u0)) (some k4) (ky p2 p3) p4) with hk24 | ⟨k22, hk24⟩
      · refine jv_topR (y := none) (by rw [hk24]; rfl) ?_
        refine jv_callS_I (q := 34) (h1 := h) (As := [va_rf none]) (rest := []) (ce' := 0 + 2) (sl' := 0 + 12) (r := (-1)) G Z ml_X7_166 (k_nameOf0 hlt) dX7_select_31 rfl (by decide) (by decide) (by decide) (by decide) (Nat.le_of_ble_eq_true rfl) rfl rfl rfl rfl ?_
        refine jv_iret G hr dX7_select_34 (Nat.le_of_ble_eq_true rfl) (Nat.le_of_ble_eq_true rfl) ?_
        exact pC_c hR (se_0 zu0 hsu0) (by rw [select_eq zu0 sou0, hk6, hk24]; rfl)
      · refine jv_topR (y := (some (T (10 * u0 + k22)))) (by rw [hk24]; rfl) ?_
        obtain ⟨t23, ht23, nt23⟩ := rn_get hk24
        have lt23 := jv_ltGet ht23
        have k10t23 : k22 < 10 := by have := hEu0.2.2.2.1; omega
        have Ot23 := (hEu0.2.2.2.2.1 k22 t23 ht23).2
        have Vt23 := (hEu0.2.2.2.2.1 k22 t23 ht23).1
        have Yt23 := hEu0.2.1 k22 k10t23
        have bt23n := Ot23.1; have bt23k := Ot23.2.1
        refine jv_callS_I (q := 34) (h1 := h) (As := [.ref (T (10 * u0 + k22))]) (rest := []) (ce' := 0 + 2) (sl' := 0 + 12) (r := nI (mt_n t23)) G Z ml_X7_166 (k_nameOf1 hlt Yt23.1 (ct_0 Vt23)) dX7_select_31 rfl (by decide) (by decide) (by decide) (by decide) (Nat.le_of_ble_eq_true rfl) rfl rfl rfl rfl ?_
        refine jv_iret G hr dX7_select_34 (Nat.le_of_ble_eq_true rfl) (Nat.le_of_ble_eq_true rfl) ?_
        exact pC_c hR (se_0 zu0 hsu0) (by rw [select_eq zu0 sou0, hk6, hk24, nm_some ht23])
set_option maxHeartbeats 4000000 in
set_option maxRecDepth 100000 in
theorem k_uses {lA : Launch} (hlt : lA.stackTraces = false) {D : jv_D} {base : Nat} {z : Nat → Nat → Nat} {T : Nat → Nat} {N : Nat → Nat → Nat} {tO : Nat → Nat} {h : jv_H} {M : mA} (hR : cl_R z T N tO h M) {p0 : Int32} : jv_Met lA D base yX7_uses (.code yX7_uses cX7_uses 2 (some .int)) 3 1 6 [.ref (z 6 0), .int p0] h (pC z tO h ((m_uses M p0).1, nI (m_uses M p0).2, M)) (pX z tO h ["java/lang/IndexOutOfBoundsException"] ((m_uses M p0).1, nI (m_uses M p0).2, M)) := by
  refine jv_ofV (lo := [(0, .ref (z 6 0)), (1, .int p0)]) hlt (by decide) (Nat.le_of_ble_eq_true rfl) rfl (fun E hEl hEd hEz Z G hr ht hnm => ?_)
  subst hEl; subst hEd; subst hEz
  have hl8 := hR.1.2.1.2.1; have hl12 := hR.1.2.1.2.2.2
  refine jv_aload_n (q := 1) G 0 dX7_uses_0 rfl rfl rfl ?_
  refine jv_iload_n (q := 2) G 1 dX7_uses_1 rfl rfl rfl ?_
  refine jv_callV (q := 5) (As := [.int p0]) (rest := []) G Z ml_X7_190 (k_callerAt hlt hR) hR.1.1.1 dX7_uses_2 rfl (by decide) (by decide) (by decide) (by decide) (Nat.le_of_ble_eq_true rfl) rfl rfl (fun v2 h1 y3 => ?_) (fun cx hx yx => jv_out G ht (Nat.le_of_ble_eq_true rfl) (Nat.le_of_ble_eq_true rfl) (by obtain ⟨y1, y2, rfl⟩ := yx; exact pX_c hR (congrArg Prod.fst (uses_1 y1)) (by decide) y2))
  obtain ⟨u0, hu0, rfl, zu0, rfl, rfl⟩ := y3
  show jv_V E 2 h (0 + 1) (0 + 6) (jv_Q E (pC z tO h ((m_uses M (nI u0)).1, nI (m_uses M (nI u0)).2, M)) (pX z tO h ["java/lang/IndexOutOfBoundsException"] ((m_uses M (nI u0)).1, nI (m_uses M (nI u0)).2, M)) 1 6) 5 [(0, .ref (z 6 0)), (1, .int (nI u0))] [.ref (z 3 u0)]
  have q8u0 : u0 < 12 := by omega
  obtain ⟨C, hC⟩ := jv_getLt (l := M.2) hu0
  obtain ⟨⟨ca1, ca2, ca3⟩, cok⟩ := hR.2.1.2 u0 C hC
  have lc := hR.2.1.1 u0 q8u0
  have l20 := cok.2.2.2.2.1; have ce8 : mc_e C < 8 := by have := cok.1; omega
  have soC := (hR.1.2.2.2 (mc_e C) ce8).2.2 cok.2.1
  refine jv_getI (q := 8) G dX7_uses_5 fl_X7_196 rfl lc.1 ca2 rfl ?_
  refine jv_iret G hr dX7_uses_8 (Nat.le_of_ble_eq_true rfl) (Nat.le_of_ble_eq_true rfl) ?_
  exact pC_c hR (congrArg Prod.fst (uses_0 zu0 hC)) (by rw [uses_0 zu0 hC])
set_option maxHeartbeats 4000000 in
set_option maxRecDepth 100000 in
theorem k_copied {lA : Launch} (hlt : lA.stackTraces = false) {D : jv_D} {base : Nat} {z : Nat → Nat → Nat} {T : Nat → Nat} {N : Nat → Nat → Nat} {tO : Nat → Nat} {h : jv_H} {M : mA} (hR : cl_R z T N tO h M) {p0 : Int32} {p1 : Int32} : jv_Met lA D base yX7_copied (.code yX7_copied cX7_copied 3 (some .int)) 3 2 12 [.ref (z 6 0), .int p0, .int p1] h (pC z tO h (m_cpF M p0 p1, m_copied M p0 p1, M)) (pX z tO h ["java/lang/IndexOutOfBoundsException"] (m_cpF M p0 p1, m_copied M p0 p1, M)) := by
  refine jv_ofV (lo := [(0, .ref (z 6 0)), (1, .int p0), (2, .int p1)]) hlt (by decide) (Nat.le_of_ble_eq_true rfl) rfl (fun E hEl hEd hEz Z G hr ht hnm => ?_)
  subst hEl; subst hEd; subst hEz
  have hl8 := hR.1.2.1.2.1; have hl12 := hR.1.2.1.2.2.2
  refine jv_aload_n (q := 1) G 0 dX7_copied_0 rfl rfl rfl ?_
  refine jv_iload_n (q := 2) G 1 dX7_copied_1 rfl rfl rfl ?_
  refine jv_callV (q := 5) (As := [.int p0]) (rest := []) G Z ml_X7_190 (k_callerAt hlt hR) hR.1.1.1 dX7_copied_2 rfl (by decide) (by decide) (by decide) (by decide) (Nat.le_of_ble_eq_true rfl) rfl rfl (fun v2 h1 y3 => ?_) (fun cx hx yx => jv_out G ht (Nat.le_of_ble_eq_true rfl) (Nat.le_of_ble_eq_true rfl) (by obtain ⟨y1, y2, rfl⟩ := yx; exact pX_c hR (cp_1 (u2_n1 y1)) (by decide) y2))
  obtain ⟨u0, hu0, rfl, zu0, rfl, rfl⟩ := y3
  show jv_V E 3 h (0 + 1) (0 + 6) (jv_Q E (pC z tO h (m_cpF M (nI u0) p1, m_copied M (nI u0) p1, M)) (pX z tO h ["java/lang/IndexOutOfBoundsException"] (m_cpF M (nI u0) p1, m_copied M (nI u0) p1, M)) 2 12) 5 [(0, .ref (z 6 0)), (1, .int (nI u0)), (2, .int p1)] [.ref (z 3 u0)]
  have q8u0 : u0 < 12 := by omega
  obtain ⟨C, hC⟩ := jv_getLt (l := M.2) hu0
  obtain ⟨⟨ca1, ca2, ca3⟩, cok⟩ := hR.2.1.2 u0 C hC
  have lc := hR.2.1.1 u0 q8u0
  have l20 := cok.2.2.2.2.1; have ce8 : mc_e C < 8 := by have := cok.1; omega
  have soC := (hR.1.2.2.2 (mc_e C) ce8).2.2 cok.2.1
  refine jv_iload_n (q := 6) G 2 dX7_copied_5 rfl rfl rfl ?_
  refine jv_callS (q := 9) (As := [.ref (z 3 u0), .int p1]) (rest := []) G Z ml_X7_223 (k_useAt hlt lc ca2 l20) dX7_copied_6 rfl (by decide) (by decide) (by decide) (by decide) (Nat.le_of_ble_eq_true rfl) rfl rfl (fun v5 h4 y6 => ?_) (fun cx hx yx => jv_out G ht (Nat.le_of_ble_eq_true rfl) (Nat.le_of_ble_eq_true rfl) (by obtain ⟨y1, y2, rfl⟩ := yx; exact pX_c hR (cp_1 (u2_n2 zu0 hC y1)) (by decide) y2))
  obtain ⟨u1, hu1, rfl, zu1, rfl, rfl⟩ := y6
  show jv_V E 3 h (0 + 1 + 1) (0 + 6 + 6) (jv_Q E (pC z tO h (m_cpF M (nI u0) (nI u1), m_copied M (nI u0) (nI u1), M)) (pX z tO h ["java/lang/IndexOutOfBoundsException"] (m_cpF M (nI u0) (nI u1), m_copied M (nI u0) (nI u1), M)) 2 12) 9 [(0, .ref (z 6 0)), (1, .int (nI u0)), (2, .int (nI u1))] [.ref (z 5 (20 * u0 + u1))]
  obtain ⟨U, hU⟩ := jv_getLt (l := mc_l C) hu1
  obtain ⟨hu, hkd, hK⟩ := ca3 u1 U hU
  have hkd : mu_k U < 6 := hkd
  refine jv_getI (q := 12) G dX7_copied_9 fl_X7_245 rfl hu.1 hu.2.2.2.2.2.1 rfl ?_
  refine jv_iret G hr dX7_copied_12 (Nat.le_of_ble_eq_true rfl) (Nat.le_of_ble_eq_true rfl) ?_
  exact pC_c hR (cp_0 (w2_some zu0 hC zu1 hU)) (by rw [copied_eq (w2_some zu0 hC zu1 hU) soC]; rfl)
set_option maxHeartbeats 4000000 in
set_option maxRecDepth 100000 in
theorem k_foretell {lA : Launch} (hlt : lA.stackTraces = false) {D : jv_D} {base : Nat} {z : Nat → Nat → Nat} {T : Nat → Nat} {N : Nat → Nat → Nat} {tO : Nat → Nat} {h : jv_H} {M : mA} (hR : cl_R z T N tO h M) {p0 : Int32} {p1 : Int32} {p2 : Int32} : jv_Met lA D base yX7_foretell (.code yX7_foretell cX7_foretell 7 (some .int)) 7 4 24 [.ref (z 6 0), .int p0, .int p1, .int p2] h (pC z tO h (m_usF M p0 p1 p2, m_foretell M p0 p1 p2, M)) (pX z tO h ["java/lang/IndexOutOfBoundsException", "java/lang/IllegalStateException"] (m_usF M p0 p1 p2, m_foretell M p0 p1 p2, M)) := by
  refine jv_ofV (lo := [(0, .ref (z 6 0)), (1, .int p0), (2, .int p1), (3, .int p2)]) hlt (by decide) (Nat.le_of_ble_eq_true rfl) rfl (fun E hEl hEd hEz Z G hr ht hnm => ?_)
  subst hEl; subst hEd; subst hEz
  have hl8 := hR.1.2.1.2.1; have hl12 := hR.1.2.1.2.2.2
  refine jv_aload_n (q := 1) G 0 dX7_foretell_0 rfl rfl rfl ?_
  refine jv_iload_n (q := 2) G 1 dX7_foretell_1 rfl rfl rfl ?_
  refine jv_callV (q := 5) (As := [.int p0]) (rest := []) G Z ml_X7_190 (k_callerAt hlt hR) hR.1.1.1 dX7_foretell_2 rfl (by decide) (by decide) (by decide) (by decide) (Nat.le_of_ble_eq_true rfl) rfl rfl (fun v2 h1 y3 => ?_) (fun cx hx yx => jv_out G ht (Nat.le_of_ble_eq_true rfl) (Nat.le_of_ble_eq_true rfl) (by obtain ⟨y1, y2, rfl⟩ := yx; exact pX_c hR (us_1 (u3_n2 (u2_n1 y1))) (by decide) y2))
  obtain ⟨u0, hu0, rfl, zu0, rfl, rfl⟩ := y3
  show jv_V E 7 h (0 + 1) (0 + 6) (jv_Q E (pC z tO h (m_usF M (nI u0) p1 p2, m_foretell M (nI u0) p1 p2, M)) (pX z tO h ["java/lang/IndexOutOfBoundsException", "java/lang/IllegalStateException"] (m_usF M (nI u0) p1 p2, m_foretell M (nI u0) p1 p2, M)) 4 24) 5 [(0, .ref (z 6 0)), (1, .int (nI u0)), (2, .int p1), (3, .int p2)] [.ref (z 3 u0)]
  have q8u0 : u0 < 12 := by omega
  obtain ⟨C, hC⟩ := jv_getLt (l := M.2) hu0
  obtain ⟨⟨ca1, ca2, ca3⟩, cok⟩ := hR.2.1.2 u0 C hC
  have lc := hR.2.1.1 u0 q8u0
  have l20 := cok.2.2.2.2.1; have ce8 : mc_e C < 8 := by have := cok.1; omega
  have soC := (hR.1.2.2.2 (mc_e C) ce8).2.2 cok.2.1
  refine jv_astore (q := 7) (lo' := [(4, .ref (z 3 u0)), (0, .ref (z 6 0)), (1, .int (nI u0)), (2, .int p1), (3, .int p2)]) G dX7_foretell_5 (by decide) rfl rfl ?_
  refine jv_aload_n (q := 8) G 1 dX7_foretell_7 rfl rfl rfl ?_
  refine jv_iload_n (q := 9) G 3 dX7_foretell_8 rfl rfl rfl ?_
  refine jv_callV (q := 12) (As := [.int p1]) (rest := []) G Z ml_X7_220 (k_editionAt hlt hR) hR.1.1.1 dX7_foretell_9 rfl (by decide) (by decide) (by decide) (by decide) (Nat.le_of_ble_eq_true rfl) rfl rfl (fun v5 h4 y6 => ?_) (fun cx hx yx => jv_out G ht (Nat.le_of_ble_eq_true rfl) (Nat.le_of_ble_eq_true rfl) (by obtain ⟨y1, y2, rfl⟩ := yx; exact pX_c hR (us_1 (u3_n1 y1)) (by decide) y2))
  obtain ⟨u1, hu1, rfl, zu1, rfl, rfl⟩ := y6
  show jv_V E 7 h (0 + 1 + 1) (0 + 6 + 6) (jv_Q E (pC z tO h (m_usF M (nI u0) (nI u1) p2, m_foretell M (nI u0) (nI u1) p2, M)) (pX z tO h ["java/lang/IndexOutOfBoundsException", "java/lang/IllegalStateException"] (m_usF M (nI u0) (nI u1) p2, m_foretell M (nI u0) (nI u1) p2, M)) 4 24) 12 [(4, .ref (z 3 u0)), (0, .ref (z 6 0)), (1, .int (nI u0)), (2, .int (nI u1)), (3, .int p2)] [.ref (z 0 u1)]
  have q8u1 : u1 < 8 := by omega
  refine jv_astore (q := 14) (lo' := [(5, .ref (z 0 u1)), (4, .ref (z 3 u0)), (0, .ref (z 6 0)), (1, .int (nI u0)), (2, .int (nI u1)), (3, .int p2)]) G dX7_foretell_12 (by decide) rfl rfl ?_
  refine jv_aload (q := 16) G 1 dX7_foretell_14 rfl rfl ?_
  refine jv_iload_n (q := 17) G 5 dX7_foretell_16 rfl rfl rfl ?_
  refine jv_callS (q := 20) (As := [.ref (z 3 u0), .int p2]) (rest := []) G Z ml_X7_223 (k_useAt hlt lc ca2 l20) dX7_foretell_17 rfl (by decide) (by decide) (by decide) (by decide) (Nat.le_of_ble_eq_true rfl) rfl rfl (fun v8 h7 y9 => ?_) (fun cx hx yx => jv_out G ht (Nat.le_of_ble_eq_true rfl) (Nat.le_of_ble_eq_true rfl) (by obtain ⟨y1, y2, rfl⟩ := yx; exact pX_c hR (us_1 (u3_n2 (u2_n2 zu0 hC y1))) (by decide) y2))
  obtain ⟨u2, hu2, rfl, zu2, rfl, rfl⟩ := y9
  show jv_V E 7 h (0 + 1 + 1 + 1) (0 + 6 + 6 + 6) (jv_Q E (pC z tO h (m_usF M (nI u0) (nI u1) (nI u2), m_foretell M (nI u0) (nI u1) (nI u2), M)) (pX z tO h ["java/lang/IndexOutOfBoundsException", "java/lang/IllegalStateException"] (m_usF M (nI u0) (nI u1) (nI u2), m_foretell M (nI u0) (nI u1) (nI u2), M)) 4 24) 20 [(5, .ref (z 0 u1)), (4, .ref (z 3 u0)), (0, .ref (z 6 0)), (1, .int (nI u0)), (2, .int (nI u1)), (3, .int (nI u2))] [.ref (z 5 (20 * u0 + u2))]
  obtain ⟨U, hU⟩ := jv_getLt (l := mc_l C) hu2
  obtain ⟨hu, hkd, hK⟩ := ca3 u2 U hU
  have hkd : mu_k U < 6 := hkd
  refine jv_astore (q := 22) (lo' := [(6, .ref (z 5 (20 * u0 + u2))), (5, .ref (z 0 u1)), (4, .ref (z 3 u0)), (0, .ref (z 6 0)), (1, .int (nI u0)), (2, .int (nI u1)), (3, .int (nI u2))]) G dX7_foretell_20 (by decide) rfl rfl ?_
  refine jv_aload (q := 24) G 1 dX7_foretell_22 rfl rfl ?_
  refine jv_callS (q := 27) (As := [.ref (z 0 u1)]) (rest := []) G Z ml_X7_227 (k_refuseOpen hlt hR q8u1) dX7_foretell_24 rfl (by decide) (by decide) (by decide) (by decide) (Nat.le_of_ble_eq_true rfl) rfl rfl (fun v12 h11 y13 => ?_) (fun cx hx yx => jv_out G ht (Nat.le_of_ble_eq_true rfl) (Nat.le_of_ble_eq_true rfl) (by obtain ⟨y1, y2, rfl⟩ := yx; exact pX_c hR (us_2 (u3_some zu1 (w2_some zu0 hC zu2 hU)) y1) (by decide) y2))
  obtain ⟨hs10, rfl, rfl⟩ := y13
  show jv_V E 7 h (0 + 1 + 1 + 1 + 1) (0 + 6 + 6 + 6 + 6) (jv_Q E (pC z tO h (m_usF M (nI u0) (nI u1) (nI u2), m_foretell M (nI u0) (nI u1) (nI u2), M)) (pX z tO h ["java/lang/IndexOutOfBoundsException", "java/lang/IllegalStateException"] (m_usF M (nI u0) (nI u1) (nI u2), m_foretell M (nI u0) (nI u1) (nI u2), M)) 4 24) 27 [(6, .ref (z 5 (20 * u0 + u2))), (5, .ref (z 0 u1)), (4, .ref (z 3 u0)), (0, .ref (z 6 0)), (1, .int (nI u0)), (2, .int (nI u1)), (3, .int (nI u2))] []
  have hEu1 := (hR.1.2.2.1 u1 q8u1).1; have hUu1 := (hR.1.2.2.1 u1 q8u1).2.2.2 hs10; have sou1 := (hR.1.2.2.2 u1 q8u1).2.2 hs10
  refine jv_aload (q := 29) G 2 dX7_foretell_27 rfl rfl ?_
  refine jv_aload (q := 31) G 0 dX7_foretell_29 rfl rfl ?_
  refine jv_aload (q := 33) G 1 dX7_foretell_31 rfl rfl ?_
  refine jv_callV_I (q := 36) (h1 := h) (As := [.ref (z 5 (20 * u0 + u2)), .ref (z 0 u1)]) (rest := []) (ce' := 0 + 1 + 1 + 1 + 1) (sl' := 0 + 6 + 6 + 6 + 6) (r := nI (c_mx (decide (u1 = mc_e C)) (ma_t M u1) (m_Us (ma_t M u1)) (mc_p C) (mc_u C) (c_U M C U))) G Z ml_X7_216 (k_meeting hlt hEu1 hUu1 hu hkd hK ca1 cok.2.2.1 q8u1 ce8) lc.1 dX7_foretell_33 rfl (by decide) (by decide) (by decide) (by decide) (Nat.le_of_ble_eq_true rfl) rfl rfl rfl rfl ?_
  obtain ⟨mu1, mu2⟩ := mu_eq soC sou1 cok.2.2.2.1 hkd
  have hb := me_lt (decide (u1 = mc_e C)) (ma_t M u1) (m_Us (ma_t M u1)) (mc_p C) (mc_u C) (c_U M C U).1 (c_U M C U).2.1 (c_U M C U).2.2.2.1 (c_U M C U).2.2.1 (c_U M C U).2.2.2.2.1 (c_U M C U).2.2.2.2.2
  have hb : c_mx (decide (u1 = mc_e C)) (ma_t M u1) (m_Us (ma_t M u1)) (mc_p C) (mc_u C) (c_U M C U) < 10 := hb
  refine jv_iret G hr dX7_foretell_36 (Nat.le_of_ble_eq_true rfl) (Nat.le_of_ble_eq_true rfl) ?_
  exact pC_c hR (us_0 (u3_some zu1 (w2_some zu0 hC zu2 hU)) hs10) (by rw [foretell_eq (u3_some zu1 (w2_some zu0 hC zu2 hU)), mu1])
set_option maxHeartbeats 4000000 in
set_option maxRecDepth 100000 in
theorem k_runs {lA : Launch} (hlt : lA.stackTraces = false) {D : jv_D} {base : Nat} {z : Nat → Nat → Nat} {T : Nat → Nat} {N : Nat → Nat → Nat} {tO : Nat → Nat} {h : jv_H} {M : mA} (hR : cl_R z T N tO h M) {p0 : Int32} {p1 : Int32} {p2 : Int32} : jv_Met lA D base yX7_runs (.code yX7_runs cX7_runs 9 (some .int)) 7 4 24 [.ref (z 6 0), .int p0, .int p1, .int p2] h (pC z tO h (m_usF M p0 p1 p2, m_runs M p0 p1 p2, M)) (pX z tO h ["java/lang/IndexOutOfBoundsException", "java/lang/IllegalStateException"] (m_usF M p0 p1 p2, m_runs M p0 p1 p2, M)) := by
  refine jv_ofV (lo := [(0, .ref (z 6 0)), (1, .int p0), (2, .int p1), (3, .int p2)]) hlt (by decide) (Nat.le_of_ble_eq_true rfl) rfl (fun E hEl hEd hEz Z G hr ht hnm => ?_)
  subst hEl; subst hEd; subst hEz
  have hl8 := hR.1.2.1.2.1; have hl12 := hR.1.2.1.2.2.2
  refine jv_aload_n (q := 1) G 0 dX7_runs_0 rfl rfl rfl ?_
  refine jv_iload_n (q := 2) G 1 dX7_runs_1 rfl rfl rfl ?_
  refine jv_callV (q := 5) (As := [.int p0]) (rest := []) G Z ml_X7_190 (k_callerAt hlt hR) hR.1.1.1 dX7_runs_2 rfl (by decide) (by decide) (by decide) (by decide) (Nat.le_of_ble_eq_true rfl) rfl rfl (fun v2 h1 y3 => ?_) (fun cx hx yx => jv_out G ht (Nat.le_of_ble_eq_true rfl) (Nat.le_of_ble_eq_true rfl) (by obtain ⟨y1, y2, rfl⟩ := yx; exact pX_c hR (us_1 (u3_n2 (u2_n1 y1))) (by decide) y2))
  obtain ⟨u0, hu0, rfl, zu0, rfl, rfl⟩ := y3
  show jv_V E 9 h (0 + 1) (0 + 6) (jv_Q E (pC z tO h (m_usF M (nI u0) p1 p2, m_runs M (nI u0) p1 p2, M)) (pX z tO h ["java/lang/IndexOutOfBoundsException", "java/lang/IllegalStateException"] (m_usF M (nI u0) p1 p2, m_runs M (nI u0) p1 p2, M)) 4 24) 5 [(0, .ref (z 6 0)), (1, .int (nI u0)), (2, .int p1), (3, .int p2)] [.ref (z 3 u0)]
  have q8u0 : u0 < 12 := by omega
  obtain ⟨C, hC⟩ := jv_getLt (l := M.2) hu0
  obtain ⟨⟨ca1, ca2, ca3⟩, cok⟩ := hR.2.1.2 u0 C hC
  have lc := hR.2.1.1 u0 q8u0
  have l20 := cok.2.2.2.2.1; have ce8 : mc_e C < 8 := by have := cok.1; omega
  have soC := (hR.1.2.2.2 (mc_e C) ce8).2.2 cok.2.1
  refine jv_astore (q := 7) (lo' := [(4, .ref (z 3 u0)), (0, .ref (z 6 0)), (1, .int (nI u0)), (2, .int p1), (3, .int p2)]) G dX7_runs_5 (by decide) rfl rfl ?_
  refine jv_aload_n (q := 8) G 1 dX7_runs_7 rfl rfl rfl ?_
  refine jv_iload_n (q := 9) G 3 dX7_runs_8 rfl rfl rfl ?_
  refine jv_callV (q := 12) (As := [.int p1]) (rest := []) G Z ml_X7_220 (k_editionAt hlt hR) hR.1.1.1 dX7_runs_9 rfl (by decide) (by decide) (by decide) (by decide) (Nat.le_of_ble_eq_true rfl) rfl rfl (fun v5 h4 y6 => ?_) (fun cx hx yx => jv_out G ht (Nat.le_of_ble_eq_true rfl) (Nat.le_of_ble_eq_true rfl) (by obtain ⟨y1, y2, rfl⟩ := yx; exact pX_c hR (us_1 (u3_n1 y1)) (by decide) y2))
  obtain ⟨u1, hu1, rfl, zu1, rfl, rfl⟩ := y6
  show jv_V E 9 h (0 + 1 + 1) (0 + 6 + 6) (jv_Q E (pC z tO h (m_usF M (nI u0) (nI u1) p2, m_runs M (nI u0) (nI u1) p2, M)) (pX z tO h ["java/lang/IndexOutOfBoundsException", "java/lang/IllegalStateException"] (m_usF M (nI u0) (nI u1) p2, m_runs M (nI u0) (nI u1) p2, M)) 4 24) 12 [(4, .ref (z 3 u0)), (0, .ref (z 6 0)), (1, .int (nI u0)), (2, .int (nI u1)), (3, .int p2)] [.ref (z 0 u1)]
  have q8u1 : u1 < 8 := by omega
  refine jv_astore (q := 14) (lo' := [(5, .ref (z 0 u1)), (4, .ref (z 3 u0)), (0, .ref (z 6 0)), (1, .int (nI u0)), (2, .int (nI u1)), (3, .int p2)]) G dX7_runs_12 (by decide) rfl rfl ?_
  refine jv_aload (q := 16) G 1 dX7_runs_14 rfl rfl ?_
  refine jv_iload_n (q := 17) G 5 dX7_runs_16 rfl rfl rfl ?_
  refine jv_callS (q := 20) (As := [.ref (z 3 u0), .int p2]) (rest := []) G Z ml_X7_223 (k_useAt hlt lc ca2 l20) dX7_runs_17 rfl (by decide) (by decide) (by decide) (by decide) (Nat.le_of_ble_eq_true rfl) rfl rfl (fun v8 h7 y9 => ?_) (fun cx hx yx => jv_out G ht (Nat.le_of_ble_eq_true rfl) (Nat.le_of_ble_eq_true rfl) (by obtain ⟨y1, y2, rfl⟩ := yx; exact pX_c hR (us_1 (u3_n2 (u2_n2 zu0 hC y1))) (by decide) y2))
  obtain ⟨u2, hu2, rfl, zu2, rfl, rfl⟩ := y9
  show jv_V E 9 h (0 + 1 + 1 + 1) (0 + 6 + 6 + 6) (jv_Q E (pC z tO h (m_usF M (nI u0) (nI u1) (nI u2), m_runs M (nI u0) (nI u1) (nI u2), M)) (pX z tO h ["java/lang/IndexOutOfBoundsException", "java/lang/IllegalStateException"] (m_usF M (nI u0) (nI u1) (nI u2), m_runs M (nI u0) (nI u1) (nI u2), M)) 4 24) 20 [(5, .ref (z 0 u1)), (4, .ref (z 3 u0)), (0, .ref (z 6 0)), (1, .int (nI u0)), (2, .int (nI u1)), (3, .int (nI u2))] [.ref (z 5 (20 * u0 + u2))]
  obtain ⟨U, hU⟩ := jv_getLt (l := mc_l C) hu2
  obtain ⟨hu, hkd, hK⟩ := ca3 u2 U hU
  have hkd : mu_k U < 6 := hkd
  refine jv_astore (q := 22) (lo' := [(6, .ref (z 5 (20 * u0 + u2))), (5, .ref (z 0 u1)), (4, .ref (z 3 u0)), (0, .ref (z 6 0)), (1, .int (nI u0)), (2, .int (nI u1)), (3, .int (nI u2))]) G dX7_runs_20 (by decide) rfl rfl ?_
  refine jv_aload (q := 24) G 1 dX7_runs_22 rfl rfl ?_
  refine jv_callS (q := 27) (As := [.ref (z 0 u1)]) (rest := []) G Z ml_X7_227 (k_refuseOpen hlt hR q8u1) dX7_runs_24 rfl (by decide) (by decide) (by decide) (by decide) (Nat.le_of_ble_eq_true rfl) rfl rfl (fun v12 h11 y13 => ?_) (fun cx hx yx => jv_out G ht (Nat.le_of_ble_eq_true rfl) (Nat.le_of_ble_eq_true rfl) (by obtain ⟨y1, y2, rfl⟩ := yx; exact pX_c hR (us_2 (u3_some zu1 (w2_some zu0 hC zu2 hU)) y1) (by decide) y2))
  obtain ⟨hs10, rfl, rfl⟩ := y13
  show jv_V E 9 h (0 + 1 + 1 + 1 + 1) (0 + 6 + 6 + 6 + 6) (jv_Q E (pC z tO h (m_usF M (nI u0) (nI u1) (nI u2), m_runs M (nI u0) (nI u1) (nI u2), M)) (pX z tO h ["java/lang/IndexOutOfBoundsException", "java/lang/IllegalStateException"] (m_usF M (nI u0) (nI u1) (nI u2), m_runs M (nI u0) (nI u1) (nI u2), M)) 4 24) 27 [(6, .ref (z 5 (20 * u0 + u2))), (5, .ref (z 0 u1)), (4, .ref (z 3 u0)), (0, .ref (z 6 0)), (1, .int (nI u0)), (2, .int (nI u1)), (3, .int (nI u2))] []
  have hEu1 := (hR.1.2.2.1 u1 q8u1).1; have hUu1 := (hR.1.2.2.1 u1 q8u1).2.2.2 hs10; have sou1 := (hR.1.2.2.2 u1 q8u1).2.2 hs10
  refine jv_aload (q := 29) G 2 dX7_runs_27 rfl rfl ?_
  refine jv_aload (q := 31) G 0 dX7_runs_29 rfl rfl ?_
  refine jv_aload (q := 33) G 1 dX7_runs_31 rfl rfl ?_
  refine jv_callV_I (q := 36) (h1 := h) (As := [.ref (z 5 (20 * u0 + u2)), .ref (z 0 u1)]) (rest := []) (ce' := 0 + 1 + 1 + 1 + 1) (sl' := 0 + 6 + 6 + 6 + 6) (r := nI (c_mx (decide (u1 = mc_e C)) (ma_t M u1) (m_Us (ma_t M u1)) (mc_p C) (mc_u C) (c_U M C U))) G Z ml_X7_216 (k_meeting hlt hEu1 hUu1 hu hkd hK ca1 cok.2.2.1 q8u1 ce8) lc.1 dX7_runs_33 rfl (by decide) (by decide) (by decide) (by decide) (Nat.le_of_ble_eq_true rfl) rfl rfl rfl rfl ?_
  obtain ⟨mu1, mu2⟩ := mu_eq soC sou1 cok.2.2.2.1 hkd
  have hb := me_lt (decide (u1 = mc_e C)) (ma_t M u1) (m_Us (ma_t M u1)) (mc_p C) (mc_u C) (c_U M C U).1 (c_U M C U).2.1 (c_U M C U).2.2.2.1 (c_U M C U).2.2.1 (c_U M C U).2.2.2.2.1 (c_U M C U).2.2.2.2.2
  have hb : c_mx (decide (u1 = mc_e C)) (ma_t M u1) (m_Us (ma_t M u1)) (mc_p C) (mc_u C) (c_U M C U) < 10 := hb
  refine jv_istore (q := 38) (lo' := [(7, .int (nI (c_mx (decide (u1 = mc_e C)) (ma_t M u1) (m_Us (ma_t M u1)) (mc_p C) (mc_u C) (c_U M C U)))), (6, .ref (z 5 (20 * u0 + u2))), (5, .ref (z 0 u1)), (4, .ref (z 3 u0)), (0, .ref (z 6 0)), (1, .int (nI u0)), (2, .int (nI u1)), (3, .int (nI u2))]) G dX7_runs_36 (by decide) rfl rfl ?_
  refine jv_aload (q := 40) G 1 dX7_runs_38 rfl rfl ?_
  refine jv_callV_I (q := 43) (h1 := h) (As := []) (rest := []) (ce' := 0 + 1 + 1 + 1 + 1) (sl' := 0 + 6 + 6 + 6 + 6) (r := jv_bI (m_mt (mu_k U))) G Z ml_X7_230 (k_isOfMethod hlt hu hkd) hu.1 dX7_runs_40 rfl (by decide) (by decide) (by decide) (by decide) (Nat.le_of_ble_eq_true rfl) rfl rfl rfl rfl ?_
  refine jv_if_eqB (q := 46) (tgt := 58) G dX7_runs_43 (by decide) rfl (fun c14 => ?_) (fun c14 => ?_)
  · refine jv_iconst (q := 59) (v := (-1)) G dX7_runs_58 (by decide) rfl ?_
    refine jv_iret G hr dX7_runs_59 (Nat.le_of_ble_eq_true rfl) (Nat.le_of_ble_eq_true rfl) ?_
    exact pC_c hR (us_0 (u3_some zu1 (w2_some zu0 hC zu2 hU)) hs10) (by
      rw [runs_eq (u3_some zu1 (w2_some zu0 hC zu2 hU))]
      dsimp only
      by_cases q : (m_mu M C u1 U).1 = 0 ∨ (m_mu M C u1 U).1 = 8
      · rw [if_pos q, mu2 q, if_neg (by rw [c14]; decide)]
      · rw [if_neg q])
  · refine jv_iload (q := 48) G 0 dX7_runs_46 rfl rfl ?_
    refine jv_if_eqN (q := 51) (tgt := 60) G dX7_runs_48 (by decide) rfl (by omega) (fun c15 => ?_) (fun c15 => ?_)
    · refine jv_aload (q := 62) G 1 dX7_runs_60 rfl rfl ?_
      refine jv_aload (q := 64) G 2 dX7_runs_62 rfl rfl ?_
      refine jv_callV_R (q := 67) (h1 := h) (As := [.ref (z 0 u1)]) (rest := []) (ce' := 0 + 1 + 1 + 1 + 1) (sl' := 0 + 6 + 6 + 6 + 6) (r := ((c_ho (ma_t M u1) (m_Us (ma_t M u1)) (mu_k U) (mu_t U) (ky (mu_n U) (mu_s U))).map (fun k => T (10 * u1 + k)))) G Z ml_X7_234 (k_holder hlt hEu1 hUu1 hu hkd hK) hu.1 dX7_runs_64 rfl (by decide) (by decide) (by decide) (by decide) (Nat.le_of_ble_eq_true rfl) rfl rfl rfl rfl ?_
      rcases Option.eq_none_or_eq_some (c_ho (ma_t M u1) (m_Us (ma_t M u1)) (mu_k U) (mu_t U) (ky (mu_n U) (mu_s U))) with hk18 | ⟨k16, hk18⟩
      · refine jv_topR (y := none) (by rw [hk18]; rfl) ?_
        refine jv_astoreR (q := 69) (lo' := [(8, va_rf none), (7, .int (nI (c_mx (decide (u1 = mc_e C)) (ma_t M u1) (m_Us (ma_t M u1)) (mc_p C) (mc_u C) (c_U M C U)))), (6, .ref (z 5 (20 * u0 + u2))), (5, .ref (z 0 u1)), (4, .ref (z 3 u0)), (0, .ref (z 6 0)), (1, .int (nI u0)), (2, .int (nI u1)), (3, .int (nI u2))]) (x := none) G dX7_runs_67 (by decide) rfl rfl ?_
        refine jv_aload (q := 71) G 2 dX7_runs_69 rfl rfl ?_
        refine jv_callV_I (q := 74) (h1 := h) (As := []) (rest := []) (ce' := 0 + 1 + 1 + 1 + 1) (sl' := 0 + 6 + 6 + 6 + 6) (r := jv_bI (m_rv (mu_k U))) G Z ml_X7_238 (k_hasReceiver hlt hu hkd) hu.1 dX7_runs_71 rfl (by decide) (by decide) (by decide) (by decide) (Nat.le_of_ble_eq_true rfl) rfl rfl rfl rfl ?_
        refine jv_if_eqB (q := 77) (tgt := 89) G dX7_runs_74 (by decide) rfl (fun c19 => ?_) (fun c19 => ?_)
        · refine jv_aloadR (q := 91) G 0 dX7_runs_89 rfl rfl ?_
          refine jv_callS_I (q := 94) (h1 := h) (As := [va_rf none]) (rest := []) (ce' := 0 + 1 + 1 + 1 + 1) (sl' := 0 + 6 + 6 + 6 + 6) (r := (-1)) G Z ml_X7_166 (k_nameOf0 hlt) dX7_runs_91 rfl (by decide) (by decide) (by decide) (by decide) (Nat.le_of_ble_eq_true rfl) rfl rfl rfl rfl ?_
          refine jv_iret G hr dX7_runs_94 (Nat.le_of_ble_eq_true rfl) (Nat.le_of_ble_eq_true rfl) ?_
          exact pC_c hR (us_0 (u3_some zu1 (w2_some zu0 hC zu2 hU)) hs10) (by
            rw [runs_eq (u3_some zu1 (w2_some zu0 hC zu2 hU))]
            dsimp only
            rw [if_pos (Or.inl (mu1.trans c15)), mu2 (Or.inl (mu1.trans c15)), if_pos c14, if_neg (by rw [c19]; decide), hk18]
            rfl)
        · refine jv_aload (q := 79) G 2 dX7_runs_77 rfl rfl ?_
          refine jv_aload (q := 81) G 3 dX7_runs_79 rfl rfl ?_
          refine jv_aloadR (q := 83) G 0 dX7_runs_81 rfl rfl ?_
          refine jv_callV_R (q := 86) (h1 := h) (As := [.ref (z 0 u1), va_rf none]) (rest := []) (ce' := 0 + 1 + 1 + 1 + 1) (sl' := 0 + 6 + 6 + 6 + 6) (r := ((c_rn (ma_t M u1) (m_Us (ma_t M u1)) none (ky (mu_n U) (mu_s U)) (mu_r U)).map (fun k => T (10 * u1 + k)))) G Z ml_X7_241 (k_runner0 hlt hEu1 hUu1 hu hkd hK) hu.1 dX7_runs_83 rfl (by decide) (by decide) (by decide) (by decide) (Nat.le_of_ble_eq_true rfl) rfl rfl rfl rfl ?_
          rcases Option.eq_none_or_eq_some (c_rn (ma_t M u1) (m_Us (ma_t M u1)) none (ky (mu_n U) (mu_s U)) (mu_r U)) with hk22 | ⟨k20, hk22⟩
          · refine jv_topR (y := none) (by rw [hk22]; rfl) ?_
            refine jv_goto (q := 91) G dX7_runs_86 (by decide) ?_
            refine jv_callS_I (q := 94) (h1 := h) (As := [va_rf none]) (rest := []) (ce' := 0 + 1 + 1 + 1 + 1) (sl' := 0 + 6 + 6 + 6 + 6) (r := (-1)) G Z ml_X7_166 (k_nameOf0 hlt) dX7_runs_91 rfl (by decide) (by decide) (by decide) (by decide) (Nat.le_of_ble_eq_true rfl) rfl rfl rfl rfl ?_
            refine jv_iret G hr dX7_runs_94 (Nat.le_of_ble_eq_true rfl) (Nat.le_of_ble_eq_true rfl) ?_
            exact pC_c hR (us_0 (u3_some zu1 (w2_some zu0 hC zu2 hU)) hs10) (by
              rw [runs_eq (u3_some zu1 (w2_some zu0 hC zu2 hU))]
              dsimp only
              rw [if_pos (Or.inl (mu1.trans c15)), mu2 (Or.inl (mu1.trans c15)), if_pos c14, if_pos c19, hk18, hk22]
              rfl)
          · refine jv_topR (y := (some (T (10 * u1 + k20)))) (by rw [hk22]; rfl) ?_
            obtain ⟨t21, ht21, nt21⟩ := rn_get hk22
            have lt21 := jv_ltGet ht21
            have k10t21 : k20 < 10 := by have := hEu1.2.2.2.1; omega
            have Ot21 := (hEu1.2.2.2.2.1 k20 t21 ht21).2
            have Vt21 := (hEu1.2.2.2.2.1 k20 t21 ht21).1
            have Yt21 := hEu1.2.1 k20 k10t21
            have bt21n := Ot21.1; have bt21k := Ot21.2.1
            refine jv_goto (q := 91) G dX7_runs_86 (by decide) ?_
            refine jv_callS_I (q := 94) (h1 := h) (As := [.ref (T (10 * u1 + k20))]) (rest := []) (ce' := 0 + 1 + 1 + 1 + 1) (sl' := 0 + 6 + 6 + 6 + 6) (r := nI (mt_n t21)) G Z ml_X7_166 (k_nameOf1 hlt Yt21.1 (ct_0 Vt21)) dX7_runs_91 rfl (by decide) (by decide) (by decide) (by decide) (Nat.le_of_ble_eq_true rfl) rfl rfl rfl rfl ?_
            refine jv_iret G hr dX7_runs_94 (Nat.le_of_ble_eq_true rfl) (Nat.le_of_ble_eq_true rfl) ?_
            exact pC_c hR (us_0 (u3_some zu1 (w2_some zu0 hC zu2 hU)) hs10) (by
              rw [runs_eq (u3_some zu1 (w2_some zu0 hC zu2 hU))]
              dsimp only
              rw [if_pos (Or.inl (mu1.trans c15)), mu2 (Or.inl (mu1.trans c15)), if_pos c14, if_pos c19, hk18, hk22, nm_some ht21])
      · refine jv_topR (y := (some (T (10 * u1 + k16)))) (by rw [hk18]; rfl) ?_
        obtain ⟨t17, ht17, nt17⟩ := ho_get hk18
        have lt17 := jv_ltGet ht17
        have k10t17 : k16 < 10 := by have := hEu1.2.2.2.1; omega
        have Ot17 := (hEu1.2.2.2.2.1 k16 t17 ht17).2
        have Vt17 := (hEu1.2.2.2.2.1 k16 t17 ht17).1
        have Yt17 := hEu1.2.1 k16 k10t17
        have bt17n := Ot17.1; have bt17k := Ot17.2.1
        refine jv_astore (q := 69) (lo' := [(8, .ref (T (10 * u1 + k16))), (7, .int (nI (c_mx (decide (u1 = mc_e C)) (ma_t M u1) (m_Us (ma_t M u1)) (mc_p C) (mc_u C) (c_U M C U)))), (6, .ref (z 5 (20 * u0 + u2))), (5, .ref (z 0 u1)), (4, .ref (z 3 u0)), (0, .ref (z 6 0)), (1, .int (nI u0)), (2, .int (nI u1)), (3, .int (nI u2))]) G dX7_runs_67 (by decide) rfl rfl ?_
        refine jv_aload (q := 71) G 2 dX7_runs_69 rfl rfl ?_
        refine jv_callV_I (q := 74) (h1 := h) (As := []) (rest := []) (ce' := 0 + 1 + 1 + 1 + 1) (sl' := 0 + 6 + 6 + 6 + 6) (r := jv_bI (m_rv (mu_k U))) G Z ml_X7_238 (k_hasReceiver hlt hu hkd) hu.1 dX7_runs_71 rfl (by decide) (by decide) (by decide) (by decide) (Nat.le_of_ble_eq_true rfl) rfl rfl rfl rfl ?_
        refine jv_if_eqB (q := 77) (tgt := 89) G dX7_runs_74 (by decide) rfl (fun c23 => ?_) (fun c23 => ?_)
        · refine jv_aload (q := 91) G 0 dX7_runs_89 rfl rfl ?_
          refine jv_callS_I (q := 94) (h1 := h) (As := [.ref (T (10 * u1 + k16))]) (rest := []) (ce' := 0 + 1 + 1 + 1 + 1) (sl' := 0 + 6 + 6 + 6 + 6) (r := nI (mt_n t17)) G Z ml_X7_166 (k_nameOf1 hlt Yt17.1 (ct_0 Vt17)) dX7_runs_91 rfl (by decide) (by decide) (by decide) (by decide) (Nat.le_of_ble_eq_true rfl) rfl rfl rfl rfl ?_
          refine jv_iret G hr dX7_runs_94 (Nat.le_of_ble_eq_true rfl) (Nat.le_of_ble_eq_true rfl) ?_
          exact pC_c hR (us_0 (u3_some zu1 (w2_some zu0 hC zu2 hU)) hs10) (by
            rw [runs_eq (u3_some zu1 (w2_some zu0 hC zu2 hU))]
            dsimp only
            rw [if_pos (Or.inl (mu1.trans c15)), mu2 (Or.inl (mu1.trans c15)), if_pos c14, if_neg (by rw [c23]; decide), hk18, nm_some ht17])
        · refine jv_aload (q := 79) G 2 dX7_runs_77 rfl rfl ?_
          refine jv_aload (q := 81) G 3 dX7_runs_79 rfl rfl ?_
          refine jv_aload (q := 83) G 0 dX7_runs_81 rfl rfl ?_
          refine jv_callV_R (q := 86) (h1 := h) (As := [.ref (z 0 u1), .ref (T (10 * u1 + k16))]) (rest := []) (ce' := 0 + 1 + 1 + 1 + 1) (sl' := 0 + 6 + 6 + 6 + 6) (r := ((c_rn (ma_t M u1) (m_Us (ma_t M u1)) (some k16) (ky (mu_n U) (mu_s U)) (mu_r U)).map (fun k => T (10 * u1 + k)))) G Z ml_X7_241 (k_runner1 hlt hEu1 hUu1 hu hkd hK ht17) hu.1 dX7_runs_83 rfl (by decide) (by decide) (by decide) (by decide) (Nat.le_of_ble_eq_true rfl) rfl rfl rfl rfl ?_
          rcases Option.eq_none_or_eq_some (c_rn (ma_t M u1) (m_Us (ma_t M u1)) (some k16) (ky (mu_n U) (mu_s U)) (mu_r U)) with hk26 | ⟨k24, hk26⟩
          · refine jv_topR (y := none) (by rw [hk26]; rfl) ?_
            refine jv_goto (q := 91) G dX7_runs_86 (by decide) ?_
            refine jv_callS_I (q := 94) (h1 := h) (As := [va_rf none]) (rest := []) (ce' := 0 + 1 + 1 + 1 + 1) (sl' := 0 + 6 + 6 + 6 + 6) (r := (-1)) G Z ml_X7_166 (k_nameOf0 hlt) dX7_runs_91 rfl (by decide) (by decide) (by decide) (by decide) (Nat.le_of_ble_eq_true rfl) rfl rfl rfl rfl ?_
            refine jv_iret G hr dX7_runs_94 (Nat.le_of_ble_eq_true rfl) (Nat.le_of_ble_eq_true rfl) ?_
            exact pC_c hR (us_0 (u3_some zu1 (w2_some zu0 hC zu2 hU)) hs10) (by
              rw [runs_eq (u3_some zu1 (w2_some zu0 hC zu2 hU))]
              dsimp only
              rw [if_pos (Or.inl (mu1.trans c15)), mu2 (Or.inl (mu1.trans c15)), if_pos c14, if_pos c23, hk18, hk26]
              rfl)
          · refine jv_topR (y := (some (T (10 * u1 + k24)))) (by rw [hk26]; rfl) ?_
            obtain ⟨t25, ht25, nt25⟩ := rn_get hk26
            have lt25 := jv_ltGet ht25
            have k10t25 : k24 < 10 := by have := hEu1.2.2.2.1; omega
            have Ot25 := (hEu1.2.2.2.2.1 k24 t25 ht25).2
            have Vt25 := (hEu1.2.2.2.2.1 k24 t25 ht25).1
            have Yt25 := hEu1.2.1 k24 k10t25
            have bt25n := Ot25.1; have bt25k := Ot25.2.1
            refine jv_goto (q := 91) G dX7_runs_86 (by decide) ?_
            refine jv_callS_I (q := 94) (h1 := h) (As := [.ref (T (10 * u1 + k24))]) (rest := []) (ce' := 0 + 1 + 1 + 1 + 1) (sl' := 0 + 6 + 6 + 6 + 6) (r := nI (mt_n t25)) G Z ml_X7_166 (k_nameOf1 hlt Yt25.1 (ct_0 Vt25)) dX7_runs_91 rfl (by decide) (by decide) (by decide) (by decide) (Nat.le_of_ble_eq_true rfl) rfl rfl rfl rfl ?_
            refine jv_iret G hr dX7_runs_94 (Nat.le_of_ble_eq_true rfl) (Nat.le_of_ble_eq_true rfl) ?_
            exact pC_c hR (us_0 (u3_some zu1 (w2_some zu0 hC zu2 hU)) hs10) (by
              rw [runs_eq (u3_some zu1 (w2_some zu0 hC zu2 hU))]
              dsimp only
              rw [if_pos (Or.inl (mu1.trans c15)), mu2 (Or.inl (mu1.trans c15)), if_pos c14, if_pos c23, hk18, hk26, nm_some ht25])
    · refine jv_iload (q := 53) G 0 dX7_runs_51 rfl rfl ?_
      refine jv_bipush (q := 55) (v := nI 8) G dX7_runs_53 (by decide) rfl ?_
      refine jv_icmp_eqN (q := 58) (tgt := 60) G dX7_runs_55 (by decide) rfl (by omega) (by omega) (fun c27 => ?_) (fun c27 => ?_)
      · refine jv_aload (q := 62) G 1 dX7_runs_60 rfl rfl ?_
        refine jv_aload (q := 64) G 2 dX7_runs_62 rfl rfl ?_
        refine jv_callV_R (q := 67) (h1 := h) (As := [.ref (z 0 u1)]) (rest := []) (ce' := 0 + 1 + 1 + 1 + 1) (sl' := 0 + 6 + 6 + 6 + 6) (r := ((c_ho (ma_t M u1) (m_Us (ma_t M u1)) (mu_k U) (mu_t U) (ky (mu_n U) (mu_s U))).map (fun k => T (10 * u1 + k)))) G Z ml_X7_234 (k_holder hlt hEu1 hUu1 hu hkd hK) hu.1 dX7_runs_64 rfl (by decide) (by decide) (by decide) (by decide) (Nat.le_of_ble_eq_true rfl) rfl rfl rfl rfl ?_
        rcases Option.eq_none_or_eq_some (c_ho (ma_t M u1) (m_Us (ma_t M u1)) (mu_k U) (mu_t U) (ky (mu_n U) (mu_s U))) with hk30 | ⟨k28, hk30⟩
        · refine jv_topR (y := none) (by rw [hk30]; rfl) ?_
          refine jv_astoreR (q := 69) (lo' := [(8, va_rf none), (7, .int (nI (c_mx (decide (u1 = mc_e C)) (ma_t M u1) (m_Us (ma_t M u1)) (mc_p C) (mc_u C) (c_U M C U)))), (6, .ref (z 5 (20 * u0 + u2))), (5, .ref (z 0 u1)), (4, .ref (z 3 u0)), (0, .ref (z 6 0)), (1, .int (nI u0)), (2, .int (nI u1)), (3, .int (nI u2))]) (x := none) G dX7_runs_67 (by decide) rfl rfl ?_
          refine jv_aload (q := 71) G 2 dX7_runs_69 rfl rfl ?_
          refine jv_callV_I (q := 74) (h1 := h) (As := []) (rest := []) (ce' := 0 + 1 + 1 + 1 + 1) (sl' := 0 + 6 + 6 + 6 + 6) (r := jv_bI (m_rv (mu_k U))) G Z ml_X7_238 (k_hasReceiver hlt hu hkd) hu.1 dX7_runs_71 rfl (by decide) (by decide) (by decide) (by decide) (Nat.le_of_ble_eq_true rfl) rfl rfl rfl rfl ?_
          refine jv_if_eqB (q := 77) (tgt := 89) G dX7_runs_74 (by decide) rfl (fun c31 => ?_) (fun c31 => ?_)
          · refine jv_aloadR (q := 91) G 0 dX7_runs_89 rfl rfl ?_
            refine jv_callS_I (q := 94) (h1 := h) (As := [va_rf none]) (rest := []) (ce' := 0 + 1 + 1 + 1 + 1) (sl' := 0 + 6 + 6 + 6 + 6) (r := (-1)) G Z ml_X7_166 (k_nameOf0 hlt) dX7_runs_91 rfl (by decide) (by decide) (by decide) (by decide) (Nat.le_of_ble_eq_true rfl) rfl rfl rfl rfl ?_
            refine jv_iret G hr dX7_runs_94 (Nat.le_of_ble_eq_true rfl) (Nat.le_of_ble_eq_true rfl) ?_
            exact pC_c hR (us_0 (u3_some zu1 (w2_some zu0 hC zu2 hU)) hs10) (by
              rw [runs_eq (u3_some zu1 (w2_some zu0 hC zu2 hU))]
              dsimp only
              rw [if_pos (Or.inr (mu1.trans c27)), mu2 (Or.inr (mu1.trans c27)), if_pos c14, if_neg (by rw [c31]; decide), hk30]
              rfl)
          · refine jv_aload (q := 79) G 2 dX7_runs_77 rfl rfl ?_
            refine jv_aload (q := 81) G 3 dX7_runs_79 rfl rfl ?_
            refine jv_aloadR (q := 83) G 0 dX7_runs_81 rfl rfl ?_
            refine jv_callV_R (q := 86) (h1 := h) (As := [.ref (z 0 u1), va_rf none]) (rest := []) (ce' := 0 + 1 + 1 + 1 + 1) (sl' := 0 + 6 + 6 + 6 + 6) (r := ((c_rn (ma_t M u1) (m_Us (ma_t M u1)) none (ky (mu_n U) (mu_s U)) (mu_r U)).map (fun k => T (10 * u1 + k)))) G Z ml_X7_241 (k_runner0 hlt hEu1 hUu1 hu hkd hK) hu.1 dX7_runs_83 rfl (by decide) (by decide) (by decide) (by decide) (Nat.le_of_ble_eq_true rfl) rfl rfl rfl rfl ?_
            rcases Option.eq_none_or_eq_some (c_rn (ma_t M u1) (m_Us (ma_t M u1)) none (ky (mu_n U) (mu_s U)) (mu_r U)) with hk34 | ⟨k32, hk34⟩
            · refine jv_topR (y := none) (by rw [hk34]; rfl) ?_
              refine jv_goto (q := 91) G dX7_runs_86 (by decide) ?_
              refine jv_callS_I (q := 94) (h1 := h) (As := [va_rf none]) (rest := []) (ce' := 0 + 1 + 1 + 1 + 1) (sl' := 0 + 6 + 6 + 6 + 6) (r := (-1)) G Z ml_X7_166 (k_nameOf0 hlt) dX7_runs_91 rfl (by decide) (by decide) (by decide) (by decide) (Nat.le_of_ble_eq_true rfl) rfl rfl rfl rfl ?_
              refine jv_iret G hr dX7_runs_94 (Nat.le_of_ble_eq_true rfl) (Nat.le_of_ble_eq_true rfl) ?_
              exact pC_c hR (us_0 (u3_some zu1 (w2_some zu0 hC zu2 hU)) hs10) (by
                rw [runs_eq (u3_some zu1 (w2_some zu0 hC zu2 hU))]
                dsimp only
                rw [if_pos (Or.inr (mu1.trans c27)), mu2 (Or.inr (mu1.trans c27)), if_pos c14, if_pos c31, hk30, hk34]
                rfl)
            · refine jv_topR (y := (some (T (10 * u1 + k32)))) (by rw [hk34]; rfl) ?_
              obtain ⟨t33, ht33, nt33⟩ := rn_get hk34
              have lt33 := jv_ltGet ht33
              have k10t33 : k32 < 10 := by have := hEu1.2.2.2.1; omega
              have Ot33 := (hEu1.2.2.2.2.1 k32 t33 ht33).2
              have Vt33 := (hEu1.2.2.2.2.1 k32 t33 ht33).1
              have Yt33 := hEu1.2.1 k32 k10t33
              have bt33n := Ot33.1; have bt33k := Ot33.2.1
              refine jv_goto (q := 91) G dX7_runs_86 (by decide) ?_
              refine jv_callS_I (q := 94) (h1 := h) (As := [.ref (T (10 * u1 + k32))]) (rest := []) (ce' := 0 + 1 + 1 + 1 + 1) (sl' := 0 + 6 + 6 + 6 + 6) (r := nI (mt_n t33)) G Z ml_X7_166 (k_nameOf1 hlt Yt33.1 (ct_0 Vt33)) dX7_runs_91 rfl (by decide) (by decide) (by decide) (by decide) (Nat.le_of_ble_eq_true rfl) rfl rfl rfl rfl ?_
              refine jv_iret G hr dX7_runs_94 (Nat.le_of_ble_eq_true rfl) (Nat.le_of_ble_eq_true rfl) ?_
              exact pC_c hR (us_0 (u3_some zu1 (w2_some zu0 hC zu2 hU)) hs10) (by
                rw [runs_eq (u3_some zu1 (w2_some zu0 hC zu2 hU))]
                dsimp only
                rw [if_pos (Or.inr (mu1.trans c27)), mu2 (Or.inr (mu1.trans c27)), if_pos c14, if_pos c31, hk30, hk34, nm_some ht33])
        · refine jv_topR (y := (some (T (10 * u1 + k28)))) (by rw [hk30]; rfl) ?_
          obtain ⟨t29, ht29, nt29⟩ := ho_get hk30
          have lt29 := jv_ltGet ht29
          have k10t29 : k28 < 10 := by have := hEu1.2.2.2.1; omega
          have Ot29 := (hEu1.2.2.2.2.1 k28 t29 ht29).2
          have Vt29 := (hEu1.2.2.2.2.1 k28 t29 ht29).1
          have Yt29 := hEu1.2.1 k28 k10t29
          have bt29n := Ot29.1; have bt29k := Ot29.2.1
          refine jv_astore (q := 69) (lo' := [(8, .ref (T (10 * u1 + k28))), (7, .int (nI (c_mx (decide (u1 = mc_e C)) (ma_t M u1) (m_Us (ma_t M u1)) (mc_p C) (mc_u C) (c_U M C U)))), (6, .ref (z 5 (20 * u0 + u2))), (5, .ref (z 0 u1)), (4, .ref (z 3 u0)), (0, .ref (z 6 0)), (1, .int (nI u0)), (2, .int (nI u1)), (3, .int (nI u2))]) G dX7_runs_67 (by decide) rfl rfl ?_
          refine jv_aload (q := 71) G 2 dX7_runs_69 rfl rfl ?_
          refine jv_callV_I (q := 74) (h1 := h) (As := []) (rest := []) (ce' := 0 + 1 + 1 + 1 + 1) (sl' := 0 + 6 + 6 + 6 + 6) (r := jv_bI (m_rv (mu_k U))) G Z ml_X7_238 (k_hasReceiver hlt hu hkd) hu.1 dX7_runs_71 rfl (by decide) (by decide) (by decide) (by decide) (Nat.le_of_ble_eq_true rfl) rfl rfl rfl rfl ?_
          refine jv_if_eqB (q := 77) (tgt := 89) G dX7_runs_74 (by decide) rfl (fun c35 => ?_) (fun c35 => ?_)
          · refine jv_aload (q := 91) G 0 dX7_runs_89 rfl rfl ?_
            refine jv_callS_I (q := 94) (h1 := h) (As := [.ref (T (10 * u1 + k28))]) (rest := []) (ce' := 0 + 1 + 1 + 1 + 1) (sl' := 0 + 6 + 6 + 6 + 6) (r := nI (mt_n t29)) G Z ml_X7_166 (k_nameOf1 hlt Yt29.1 (ct_0 Vt29)) dX7_runs_91 rfl (by decide) (by decide) (by decide) (by decide) (Nat.le_of_ble_eq_true rfl) rfl rfl rfl rfl ?_
            refine jv_iret G hr dX7_runs_94 (Nat.le_of_ble_eq_true rfl) (Nat.le_of_ble_eq_true rfl) ?_
            exact pC_c hR (us_0 (u3_some zu1 (w2_some zu0 hC zu2 hU)) hs10) (by
              rw [runs_eq (u3_some zu1 (w2_some zu0 hC zu2 hU))]
              dsimp only
              rw [if_pos (Or.inr (mu1.trans c27)), mu2 (Or.inr (mu1.trans c27)), if_pos c14, if_neg (by rw [c35]; decide), hk30, nm_some ht29])
          · refine jv_aload (q := 79) G 2 dX7_runs_77 rfl rfl ?_
            refine jv_aload (q := 81) G 3 dX7_runs_79 rfl rfl ?_
            refine jv_aload (q := 83) G 0 dX7_runs_81 rfl rfl ?_
            refine jv_callV_R (q := 86) (h1 := h) (As := [.ref (z 0 u1), .ref (T (10 * u1 + k28))]) (rest := []) (ce' := 0 + 1 + 1 + 1 + 1) (sl' := 0 + 6 + 6 + 6 + 6) (r := ((c_rn (ma_t M u1) (m_Us (ma_t M u1)) (some k28) (ky (mu_n U) (mu_s U)) (mu_r U)).map (fun k => T (10 * u1 + k)))) G Z ml_X7_241 (k_runner1 hlt hEu1 hUu1 hu hkd hK ht29) hu.1 dX7_runs_83 rfl (by decide) (by decide) (by decide) (by decide) (Nat.le_of_ble_eq_true rfl) rfl rfl rfl rfl ?_
            rcases Option.eq_none_or_eq_some (c_rn (ma_t M u1) (m_Us (ma_t M u1)) (some k28) (ky (mu_n U) (mu_s U)) (mu_r U)) with hk38 | ⟨k36, hk38⟩
            · refine jv_topR (y := none) (by rw [hk38]; rfl) ?_
              refine jv_goto (q := 91) G dX7_runs_86 (by decide) ?_
              refine jv_callS_I (q := 94) (h1 := h) (As := [va_rf none]) (rest := []) (ce' := 0 + 1 + 1 + 1 + 1) (sl' := 0 + 6 + 6 + 6 + 6) (r := (-1)) G Z ml_X7_166 (k_nameOf0 hlt) dX7_runs_91 rfl (by decide) (by decide) (by decide) (by decide) (Nat.le_of_ble_eq_true rfl) rfl rfl rfl rfl ?_
              refine jv_iret G hr dX7_runs_94 (Nat.le_of_ble_eq_true rfl) (Nat.le_of_ble_eq_true rfl) ?_
              exact pC_c hR (us_0 (u3_some zu1 (w2_some zu0 hC zu2 hU)) hs10) (by
                rw [runs_eq (u3_some zu1 (w2_some zu0 hC zu2 hU))]
                dsimp only
                rw [if_pos (Or.inr (mu1.trans c27)), mu2 (Or.inr (mu1.trans c27)), if_pos c14, if_pos c35, hk30, hk38]
                rfl)
            · refine jv_topR (y := (some (T (10 * u1 + k36)))) (by rw [hk38]; rfl) ?_
              obtain ⟨t37, ht37, nt37⟩ := rn_get hk38
              have lt37 := jv_ltGet ht37
              have k10t37 : k36 < 10 := by have := hEu1.2.2.2.1; omega
              have Ot37 := (hEu1.2.2.2.2.1 k36 t37 ht37).2
              have Vt37 := (hEu1.2.2.2.2.1 k36 t37 ht37).1
              have Yt37 := hEu1.2.1 k36 k10t37
              have bt37n := Ot37.1; have bt37k := Ot37.2.1
              refine jv_goto (q := 91) G dX7_runs_86 (by decide) ?_
              refine jv_callS_I (q := 94) (h1 := h) (As := [.ref (T (10 * u1 + k36))]) (rest := []) (ce' := 0 + 1 + 1 + 1 + 1) (sl' := 0 + 6 + 6 + 6 + 6) (r := nI (mt_n t37)) G Z ml_X7_166 (k_nameOf1 hlt Yt37.1 (ct_0 Vt37)) dX7_runs_91 rfl (by decide) (by decide) (by decide) (by decide) (Nat.le_of_ble_eq_true rfl) rfl rfl rfl rfl ?_
              refine jv_iret G hr dX7_runs_94 (Nat.le_of_ble_eq_true rfl) (Nat.le_of_ble_eq_true rfl) ?_
              exact pC_c hR (us_0 (u3_some zu1 (w2_some zu0 hC zu2 hU)) hs10) (by
                rw [runs_eq (u3_some zu1 (w2_some zu0 hC zu2 hU))]
                dsimp only
                rw [if_pos (Or.inr (mu1.trans c27)), mu2 (Or.inr (mu1.trans c27)), if_pos c14, if_pos c35, hk30, hk38, nm_some ht37])
      · refine jv_iconst (q := 59) (v := (-1)) G dX7_runs_58 (by decide) rfl ?_
        refine jv_iret G hr dX7_runs_59 (Nat.le_of_ble_eq_true rfl) (Nat.le_of_ble_eq_true rfl) ?_
        exact pC_c hR (us_0 (u3_some zu1 (w2_some zu0 hC zu2 hU)) hs10) (by
          rw [runs_eq (u3_some zu1 (w2_some zu0 hC zu2 hU))]
          dsimp only
          rw [if_neg (fun q => by rw [mu1] at q; rcases q with q | q; exact c15 q; exact c27 q)])
set_option maxHeartbeats 4000000 in
set_option maxRecDepth 100000 in
theorem k_meets {lA : Launch} (hlt : lA.stackTraces = false) {D : jv_D} {base : Nat} {z : Nat → Nat → Nat} {T : Nat → Nat} {N : Nat → Nat → Nat} {tO : Nat → Nat} {h : jv_H} {M : mA} (hR : cl_R z T N tO h M) {p0 : Int32} {p1 : Int32} {p2 : Int32} : jv_Met lA D base yX7_meets (.code yX7_meets cX7_meets 5 (some .int)) 8 3 18 [.ref (z 6 0), .int p0, .int p1, .int p2] h (pC z tO h (m_ceF M p0 p1, m_meets M p0 p1 p2, M)) (pX z tO h ["java/lang/IndexOutOfBoundsException", "java/lang/IllegalStateException"] (m_ceF M p0 p1, m_meets M p0 p1 p2, M)) := by
  refine jv_ofV (lo := [(0, .ref (z 6 0)), (1, .int p0), (2, .int p1), (3, .int p2)]) hlt (by decide) (Nat.le_of_ble_eq_true rfl) rfl (fun E hEl hEd hEz Z G hr ht hnm => ?_)
  subst hEl; subst hEd; subst hEz
  have hl8 := hR.1.2.1.2.1; have hl12 := hR.1.2.1.2.2.2
  refine jv_aload_n (q := 1) G 0 dX7_meets_0 rfl rfl rfl ?_
  refine jv_iload_n (q := 2) G 1 dX7_meets_1 rfl rfl rfl ?_
  refine jv_callV (q := 5) (As := [.int p0]) (rest := []) G Z ml_X7_190 (k_callerAt hlt hR) hR.1.1.1 dX7_meets_2 rfl (by decide) (by decide) (by decide) (by decide) (Nat.le_of_ble_eq_true rfl) rfl rfl (fun v2 h1 y3 => ?_) (fun cx hx yx => jv_out G ht (Nat.le_of_ble_eq_true rfl) (Nat.le_of_ble_eq_true rfl) (by obtain ⟨y1, y2, rfl⟩ := yx; exact pX_c hR (ce_1 y1) (by decide) y2))
  obtain ⟨u0, hu0, rfl, zu0, rfl, rfl⟩ := y3
  show jv_V E 5 h (0 + 1) (0 + 6) (jv_Q E (pC z tO h (m_ceF M (nI u0) p1, m_meets M (nI u0) p1 p2, M)) (pX z tO h ["java/lang/IndexOutOfBoundsException", "java/lang/IllegalStateException"] (m_ceF M (nI u0) p1, m_meets M (nI u0) p1 p2, M)) 3 18) 5 [(0, .ref (z 6 0)), (1, .int (nI u0)), (2, .int p1), (3, .int p2)] [.ref (z 3 u0)]
  have q8u0 : u0 < 12 := by omega
  obtain ⟨C, hC⟩ := jv_getLt (l := M.2) hu0
  obtain ⟨⟨ca1, ca2, ca3⟩, cok⟩ := hR.2.1.2 u0 C hC
  have lc := hR.2.1.1 u0 q8u0
  have l20 := cok.2.2.2.2.1; have ce8 : mc_e C < 8 := by have := cok.1; omega
  have soC := (hR.1.2.2.2 (mc_e C) ce8).2.2 cok.2.1
  refine jv_astore (q := 7) (lo' := [(4, .ref (z 3 u0)), (0, .ref (z 6 0)), (1, .int (nI u0)), (2, .int p1), (3, .int p2)]) G dX7_meets_5 (by decide) rfl rfl ?_
  refine jv_aload (q := 9) G 0 dX7_meets_7 rfl rfl ?_
  refine jv_aload_n (q := 10) G 1 dX7_meets_9 rfl rfl rfl ?_
  refine jv_iload_n (q := 11) G 3 dX7_meets_10 rfl rfl rfl ?_
  refine jv_callV (q := 14) (As := [.int p1]) (rest := [.ref (z 3 u0)]) G Z ml_X7_51 (k_sealedEdition hlt hR) hR.1.1.1 dX7_meets_11 rfl (by decide) (by decide) (by decide) (by decide) (Nat.le_of_ble_eq_true rfl) rfl rfl (fun v5 h4 y6 => ?_) (fun cx hx yx => jv_out G ht (Nat.le_of_ble_eq_true rfl) (Nat.le_of_ble_eq_true rfl) (by obtain ⟨rfl, y1 | ⟨kq, y1, y2, y3⟩⟩ := yx; exact pX_c hR (ce_2 zu0 y1.1) (by decide) y1.2; exact pX_c hR (ce_3 zu0 y1 y2) (by decide) y3))
  obtain ⟨u1, hu1, rfl, zu1, hsu1, rfl, rfl⟩ := y6
  show jv_V E 5 h (0 + 1 + 2) (0 + 6 + 12) (jv_Q E (pC z tO h (m_ceF M (nI u0) (nI u1), m_meets M (nI u0) (nI u1) p2, M)) (pX z tO h ["java/lang/IndexOutOfBoundsException", "java/lang/IllegalStateException"] (m_ceF M (nI u0) (nI u1), m_meets M (nI u0) (nI u1) p2, M)) 3 18) 14 [(4, .ref (z 3 u0)), (0, .ref (z 6 0)), (1, .int (nI u0)), (2, .int (nI u1)), (3, .int p2)] [.ref (z 0 u1), .ref (z 3 u0)]
  have q8u1 : u1 < 8 := by omega
  have hEu1 := (hR.1.2.2.1 u1 q8u1).1; have hUu1 := (hR.1.2.2.1 u1 q8u1).2.2.2 hsu1; have sou1 := (hR.1.2.2.2 u1 q8u1).2.2 hsu1
  refine jv_iload_n (q := 15) G 4 dX7_meets_14 rfl rfl rfl ?_
  refine jv_callV_I (q := 18) (h1 := h) (As := [.ref (z 0 u1), .int p2]) (rest := []) (ce' := 0 + 1 + 2) (sl' := 0 + 6 + 12) (r := nI (fb_ct (c_hm (decide (u1 = mc_e C)) (ma_t M u1) (m_Us (ma_t M u1)) (mc_p C) (mc_u C) ((mc_l C).map (c_U M C)) p2) ((mc_l C).map (c_U M C)).length)) G Z ml_X7_248 (k_howMany (us := (mc_l C).map (c_U M C)) (w := p2) hlt hEu1 hUu1 lc ca1 cok.2.2.1 q8u1 ce8 (by rw [List.length_map]; exact ca2) (by rw [List.length_map]; exact l20) (fun j x hx => by rw [List.getElem?_map] at hx; obtain ⟨U, hU, rfl⟩ := Option.map_eq_some_iff.mp hx; exact ca3 j U hU)) lc.1 dX7_meets_15 rfl (by decide) (by decide) (by decide) (by decide) (Nat.le_of_ble_eq_true rfl) rfl rfl rfl rfl ?_
  refine jv_iret G hr dX7_meets_18 (Nat.le_of_ble_eq_true rfl) (Nat.le_of_ble_eq_true rfl) ?_
  exact pC_c hR (ce_0 zu0 zu1 hsu1) (by rw [meets_v zu0 hC zu1, List.length_map, fb_ct_cong (fun j _ => hm_eq soC sou1 cok.2.2.2.1 cok.2.2.2.2.2 j)])
