section DR
variable {z : Nat → Nat → Nat} {T : Nat → Nat} {N N' : Nat → Nat → Nat} {tO : Nat → Nat} {h h1 : jv_H} {M : mA}
theorem dT_80 {e d n : Nat} (he : e < 8) (hd : d < n) (hn : n ≤ 10) (hT : ∀ i i', i < 80 → i' < 80 → T i = T i' → i = i') : ∀ i i', i < 80 → i' < 80 → dT T e d n i = dT T e d n i' → i = i' := by
  have out : ∀ i, ¬ (10 * e ≤ i ∧ i < 10 * e + 10) → dT T e d n i = T i := fun i q => by unfold dT; rw [if_neg q]
  have inn : ∀ i, 10 * e ≤ i ∧ i < 10 * e + 10 → ∃ k, k < 10 ∧ i = 10 * e + k := fun i q => ⟨i - 10 * e, by omega, by omega⟩
  intro i i' hi hi' q
  by_cases h1 : 10 * e ≤ i ∧ i < 10 * e + 10 <;> by_cases h2 : 10 * e ≤ i' ∧ i' < 10 * e + 10
  · obtain ⟨k, hk, ek⟩ := inn i h1
    obtain ⟨k', hk', ek'⟩ := inn i' h2
    subst ek; subst ek'
    have := dT_inj hd hn (fun a b ha hb y => by have := hT _ _ (by omega) (by omega) y; omega) k k' hk hk' q
    omega
  · obtain ⟨k, hk, ek⟩ := inn i h1
    subst ek
    obtain ⟨k', hk', y⟩ := dT_in (T := T) (e := e) hd hn hk
    rw [y, out i' h2] at q
    have := hT _ _ (by omega) hi' q
    omega
  · obtain ⟨k, hk, ek⟩ := inn i' h2
    subst ek
    obtain ⟨k', hk', y⟩ := dT_in (T := T) (e := e) hd hn hk
    rw [y, out i h1] at q
    have := hT _ _ hi (by omega) q
    omega
  · rw [out i h1, out i' h2] at q
    exact hT _ _ hi hi' q
theorem el_o.dTo {e d n : Nat} (r : el_o z T N tO e) (hd : d < n) (hn : n ≤ 10) : el_o z (dT T e d n) N tO e := by
  obtain ⟨r1, r2, r3, r4, r5⟩ := r
  refine ⟨r1, r2, r3, fun k hk => ?_, dT_inj hd hn r5⟩
  obtain ⟨k', hk', y⟩ := dT_in (T := T) (e := e) hd hn hk
  rw [y]
  exact r4 k' hk'
theorem cl_o.dNo {a d n : Nat} (r : cl_o z N tO a) (hd : d < n) (hn : n ≤ 6) : cl_o z (dN N a d n) tO a := by
  obtain ⟨r1, r2, r3, r4, r5, r6⟩ := r
  refine ⟨r1, r2, r3, r4, fun j hj => ?_, dN_inj hd hn r6⟩
  unfold dN
  rw [if_pos rfl]
  split
  · exact r5 j hj
  · split
    · exact r5 (j + 1) (by omega)
    · split
      · exact r5 d (by omega)
      · exact r5 j hj
theorem dr_x {e n w a s : Int32} {k i : Nat} {t : mT} (hz : m_ix1 M.1.length e = some k) (hs : ma_s M k = false) (hi : m_at (ma_t M k) n = some i) (ht : (ma_t M k)[i]? = some t) (h0 : ¬ w = 0) (h1 : ¬ w = nI 1) (h2 : ¬ w = nI 2) : m_dr M e n w a s = (0, 0, M) := by
  unfold m_dr
  rw [opT_0 hz hs hi ht, if_pos]
  have e1 : (nI 1) = (1 : Int32) := rfl
  have e2 : (nI 2) = (2 : Int32) := rfl
  rw [e1] at h1
  rw [e2] at h2 ⊢
  rw [← Int32.toInt_inj] at h0 h1 h2
  rw [Int32.lt_iff_toInt_lt, Int32.le_iff_toInt_le]
  have z0 : (0 : Int32).toInt = 0 := by decide
  have z1 : (1 : Int32).toInt = 1 := by decide
  have z2 : (2 : Int32).toInt = 2 := by decide
  rw [z0] at h0 ⊢
  rw [z1] at h1
  rw [z2] at h2 ⊢
  omega
theorem dr_2 {e n a s : Int32} {k i : Nat} {t : mT} (hz : m_ix1 M.1.length e = some k) (hs : ma_s M k = false) (hi : m_at (ma_t M k) n = some i) (ht : (ma_t M k)[i]? = some t) : m_dr M e n (nI 2) a s = (0, jv_bI true, m_put M k (false, (ma_t M k).eraseIdx i)) := by
  unfold m_dr
  rw [opT_0 hz hs hi ht, if_neg (by decide), if_pos rfl]
theorem dr_1 {e n a s : Int32} {k i : Nat} {t : mT} {b : Bool} (hz : m_ix1 M.1.length e = some k) (hs : ma_s M k = false) (hi : m_at (ma_t M k) n = some i) (ht : (ma_t M k)[i]? = some t) (ho : mt_ok t) : m_dr M e n (jv_bI b) a s = (match m_oc t b (ky a s) with
  | none => (0, 0, M)
  | some j => (0, jv_bI true, m_put M k (false, (ma_t M k).set i (m_tM t ((mt_m t).eraseIdx j))))) := by
  unfold m_dr
  rw [opT_0 hz hs hi ht, if_neg (by cases b <;> decide), if_neg (by cases b <;> decide), own_oc ho]
  cases m_oc t b (ky a s) <;> rfl
theorem dr_1n {e n a s : Int32} {k i : Nat} {t : mT} {b : Bool} (hz : m_ix1 M.1.length e = some k) (hs : ma_s M k = false) (hi : m_at (ma_t M k) n = some i) (ht : (ma_t M k)[i]? = some t) (ho : mt_ok t) (hn : m_oc t b (ky a s) = none) : m_dr M e n (jv_bI b) a s = (0, 0, M) := by rw [dr_1 hz hs hi ht ho, hn]
theorem dr_1s {e n a s : Int32} {k i j : Nat} {t : mT} {b : Bool} (hz : m_ix1 M.1.length e = some k) (hs : ma_s M k = false) (hi : m_at (ma_t M k) n = some i) (ht : (ma_t M k)[i]? = some t) (ho : mt_ok t) (hn : m_oc t b (ky a s) = some j) : m_dr M e n (jv_bI b) a s = (0, jv_bI true, m_put M k (false, (ma_t M k).set i (m_tM t ((mt_m t).eraseIdx j)))) := by rw [dr_1 hz hs hi ht ho, hn]
theorem cl_R.dTy (hR : cl_R z T N tO h M) {e d : Nat} {g : mT} (he : e < M.1.length) (hop : ma_s M e = false) (hg : (ma_t M e)[d]? = some g) (f : cG (fun b => tO b = z 0 e ∨ ∃ k, k < 10 ∧ tO b = T (10 * e + k)) h h1) (hE : cv_E z (dT T e d (ma_t M e).length) N h1 e ((ma_t M e).eraseIdx d)) (hI : jv_I h1 (z 0 e) 1 = jv_I h (z 0 e) 1) : cl_R z (dT T e d (ma_t M e).length) N tO h1 (m_put M e (false, (ma_t M e).eraseIdx d)) ∧ sF cs h h1 := by
  have he8 : e < 8 := by have := hR.1.2.1.2.1; omega
  obtain ⟨hE0, oe, hs, -⟩ := hR.1.2.2.1 e he8
  have hd := jv_ltGet hg
  have hn := hE0.2.2.2.1
  have eo := hR.1.2.2.2 e he8
  refine hR.ed (N' := N) he hop f (fun i hi y => ?_) (fun _ _ _ _ => rfl) (dT_80 he8 hd hn hR.2.2.2.2.2.2.1) (oe.dTo hd hn) hE (hI.trans (hs.trans (by rw [hop]))) (fun q => by cases q) ⟨uq_erase eo.1 d, fun x hx => eo.2.1 x (List.mem_of_mem_eraseIdx hx), fun q => by cases q⟩
  unfold dT
  rw [if_neg (by omega)]
end DR
set_option maxHeartbeats 4000000 in
set_option maxRecDepth 100000 in
theorem k_drop {lA : Launch} (hlt : lA.stackTraces = false) {D : jv_D} {base : Nat} {z : Nat → Nat → Nat} {T : Nat → Nat} {N : Nat → Nat → Nat} {tO : Nat → Nat} {h : jv_H} {M : mA} (hR : cl_R z T N tO h M) {p0 : Int32} {p1 : Int32} {p2 : Int32} {p3 : Int32} {p4 : Int32} : jv_Met lA D base yX7_drop (.code yX7_drop cX7_drop 8 (some .boolean)) 4 2 12 [.ref (z 6 0), .int p0, .int p1, .int p2, .int p3, .int p4] h (pC z tO h (m_dr M p0 p1 p2 p3 p4)) (pX z tO h ["java/lang/IndexOutOfBoundsException", "java/lang/IllegalStateException"] (m_dr M p0 p1 p2 p3 p4)) := by
  refine jv_ofV (lo := [(0, .ref (z 6 0)), (1, .int p0), (2, .int p1), (3, .int p2), (4, .int p3), (5, .int p4)]) hlt (by decide) (Nat.le_of_ble_eq_true rfl) rfl (fun E hEl hEd hEz Z G hr ht hnm => ?_)
  subst hEl; subst hEd; subst hEz
  have hl8 := hR.1.2.1.2.1; have hl12 := hR.1.2.1.2.2.2
  refine jv_aload_n (q := 1) G 0 dX7_drop_0 rfl rfl rfl ?_
  refine jv_iload_n (q := 2) G 1 dX7_drop_1 rfl rfl rfl ?_
  refine jv_callV (q := 5) (As := [.int p0]) (rest := []) G Z ml_X7_59 (k_openEdition hlt hR) hR.1.1.1 dX7_drop_2 rfl (by decide) (by decide) (by decide) (by decide) (Nat.le_of_ble_eq_true rfl) rfl rfl (fun v2 h1 y3 => ?_) (fun cx hx yx => jv_out G ht (Nat.le_of_ble_eq_true rfl) (Nat.le_of_ble_eq_true rfl) (by obtain ⟨rfl, y1 | ⟨kq, y1, y2, y3⟩⟩ := yx; exact pX_o (o' := (1, 0, M)) (op_1 y1.1) ⟨(show ¬ (1 : Nat) = 0 by decide), y1.2, ⟨_, _, hR⟩, .rf⟩; exact pX_o (o' := (2, 0, M)) (op_2 y1 y2) ⟨(show ¬ (2 : Nat) = 0 by decide), y3, ⟨_, _, hR⟩, .rf⟩))
  obtain ⟨u0, hu0, rfl, zu0, hsu0, rfl, rfl⟩ := y3
  show jv_V E 8 h (0 + 2) (0 + 12) (jv_Q E (pC z tO h (m_dr M (nI u0) p1 p2 p3 p4)) (pX z tO h ["java/lang/IndexOutOfBoundsException", "java/lang/IllegalStateException"] (m_dr M (nI u0) p1 p2 p3 p4)) 2 12) 5 [(0, .ref (z 6 0)), (1, .int (nI u0)), (2, .int p1), (3, .int p2), (4, .int p3), (5, .int p4)] [.ref (z 0 u0)]
  have q8u0 : u0 < 8 := by omega
  have hEu0 := (hR.1.2.2.1 u0 q8u0).1; have oeu0 := (hR.1.2.2.1 u0 q8u0).2.1; have eou0 := hR.1.2.2.2 u0 q8u0; have ltu0 : (ma_t M u0).length ≤ 10 := hEu0.2.2.2.1
  refine jv_astore (q := 7) (lo' := [(6, .ref (z 0 u0)), (0, .ref (z 6 0)), (1, .int (nI u0)), (2, .int p1), (3, .int p2), (4, .int p3), (5, .int p4)]) G dX7_drop_5 (by decide) rfl rfl ?_
  refine jv_aload (q := 9) G 0 dX7_drop_7 rfl rfl ?_
  refine jv_iload_n (q := 10) G 3 dX7_drop_9 rfl rfl rfl ?_
  refine jv_callV_R (q := 13) (h1 := h) (As := [.int p1]) (rest := []) (ce' := 0 + 2) (sl' := 0 + 12) (r := ((m_at (ma_t M u0) p1).map (fun k => T (10 * u0 + k)))) G Z ml_X7_79 (k_named hlt hEu0) hEu0.1.1 dX7_drop_10 rfl (by decide) (by decide) (by decide) (by decide) (Nat.le_of_ble_eq_true rfl) rfl rfl rfl rfl ?_
  rcases Option.eq_none_or_eq_some (m_at (ma_t M u0) p1) with hk6 | ⟨k4, hk6⟩
  · refine jv_topR (y := none) (by rw [hk6]; rfl) ?_
    refine jv_astoreR (q := 15) (lo' := [(7, va_rf none), (6, .ref (z 0 u0)), (0, .ref (z 6 0)), (1, .int (nI u0)), (2, .int p1), (3, .int p2), (4, .int p3), (5, .int p4)]) (x := none) G dX7_drop_13 (by decide) rfl rfl ?_
    refine jv_aloadR (q := 17) G 0 dX7_drop_15 rfl rfl ?_
    refine jv_ifnonnull (q := 20) (tgt := 22) (x := none) G dX7_drop_17 (by decide) rfl (fun a8 c7 => ?_) (fun c7 => ?_)
    · cases c7
    · refine jv_iconst (q := 21) (v := nI 0) G dX7_drop_20 (by decide) rfl ?_
      refine jv_topI (y := jv_bI false) rfl ?_
      refine jv_zret G hr dX7_drop_21 (Nat.le_of_ble_eq_true rfl) (Nat.le_of_ble_eq_true rfl) ?_
      exact pC_o (o' := (0, 0, M)) (opT_n zu0 hsu0 hk6) ⟨rfl, rfl, ⟨_, _, hR⟩, .rf⟩
  · refine jv_topR (y := (some (T (10 * u0 + k4)))) (by rw [hk6]; rfl) ?_
    obtain ⟨t5, ht5, nt5⟩ := m_at_get hk6
    have lt5 := jv_ltGet ht5
    have k10t5 : k4 < 10 := by have := hEu0.2.2.2.1; omega
    have Ot5 := (hEu0.2.2.2.2.1 k4 t5 ht5).2
    have Vt5 := (hEu0.2.2.2.2.1 k4 t5 ht5).1
    have Yt5 := hEu0.2.1 k4 k10t5
    have bt5n := Ot5.1; have bt5k := Ot5.2.1
    refine jv_astore (q := 15) (lo' := [(7, .ref (T (10 * u0 + k4))), (6, .ref (z 0 u0)), (0, .ref (z 6 0)), (1, .int (nI u0)), (2, .int p1), (3, .int p2), (4, .int p3), (5, .int p4)]) G dX7_drop_13 (by decide) rfl rfl ?_
    refine jv_aload (q := 17) G 0 dX7_drop_15 rfl rfl ?_
    refine jv_ifnonnull (q := 20) (tgt := 22) (x := (some (T (10 * u0 + k4)))) G dX7_drop_17 (by decide) rfl (fun a10 c9 => ?_) (fun c9 => ?_)
    · refine jv_iload_n (q := 23) G 5 dX7_drop_22 rfl rfl rfl ?_
      refine jv_iconst (q := 24) (v := nI 2) G dX7_drop_23 (by decide) rfl ?_
      refine jv_icmp_ne (q := 27) (tgt := 36) G dX7_drop_24 (by decide) rfl (fun c11 => ?_) (fun c11 => ?_)
      · refine jv_iload_n (q := 37) G 5 dX7_drop_36 rfl rfl rfl ?_
        refine jv_if_eq (q := 40) (tgt := 47) G dX7_drop_37 (by decide) rfl (fun c12 => ?_) (fun c12 => ?_)
        · refine jv_aload (q := 49) G 0 dX7_drop_47 rfl rfl ?_
          refine jv_iload_n (q := 50) G 5 dX7_drop_49 rfl rfl rfl ?_
          refine jv_iconst (q := 51) (v := nI 1) G dX7_drop_50 (by decide) rfl ?_
          refine jv_icmp_ne (q := 54) (tgt := 58) G dX7_drop_51 (by decide) rfl (fun c13 => ?_) (fun c13 => ?_)
          · refine jv_iconst (q := 59) (v := nI 0) G dX7_drop_58 (by decide) rfl ?_
            refine jv_iload (q := 61) G 6 dX7_drop_59 rfl rfl ?_
            refine jv_iload (q := 63) G 7 dX7_drop_61 rfl rfl ?_
            refine jv_callS_I (q := 66) (h1 := h) (As := [.int p3, .int p4]) (rest := [.int (nI 0), .ref (T (10 * u0 + k4))]) (ce' := 0 + 2) (sl' := 0 + 12) (r := jv_oN (ky p3 p4)) G Z ml_X7_116 (k_keyOf hlt) dX7_drop_63 rfl (by decide) (by decide) (by decide) (by decide) (Nat.le_of_ble_eq_true rfl) rfl rfl rfl rfl ?_
            have e0 := eou0.2.1 t5 (List.mem_of_getElem? ht5); have oT := oeu0.2.2.2.1 k4 k10t5
            refine jv_callV (q := 69) (As := [.int (nI 0), .int (jv_oN (ky p3 p4))]) (rest := []) G Z ml_X7_145 (k_dropMember (w := false) (ko := ky p3 p4) hlt Yt5 Vt5 Ot5 (ky_64 p3 p4) e0.1) (hEu0.2.1 k4 k10t5).1 dX7_drop_66 rfl (by decide) (by decide) (by decide) (by decide) (Nat.le_of_ble_eq_true rfl) rfl rfl (fun v15 h14 y16 => ?_) (fun _ _ hx => hx.elim)
            obtain ⟨r9, rfl, hr1, hr0⟩ := y16
            show jv_V E 8 h14 (0 + 2) (0 + 12) (jv_Q E (pC z tO h (m_dr M (nI u0) p1 p2 p3 p4)) (pX z tO h ["java/lang/IndexOutOfBoundsException", "java/lang/IllegalStateException"] (m_dr M (nI u0) p1 p2 p3 p4)) 2 12) 69 [(7, .ref (T (10 * u0 + k4))), (6, .ref (z 0 u0)), (0, .ref (z 6 0)), (1, .int (nI u0)), (2, .int p1), (3, .int p2), (4, .int p3), (5, .int p4)] [.int (jv_bI r9)]
            refine jv_zret G hr dX7_drop_69 (Nat.le_of_ble_eq_true rfl) (Nat.le_of_ble_eq_true rfl) ?_
            have ew : p2 = jv_bI false := c12
            subst ew
            cases hr9 : r9 with
            | false =>
              obtain ⟨q1, q2⟩ := hr0 hr9
              subst q2
              exact pC_o (o' := (0, 0, M)) (dr_1n zu0 hsu0 hk6 ht5 Ot5 q1) ⟨rfl, rfl, ⟨_, _, hR⟩, .rf⟩
            | true =>
              obtain ⟨d, q1, q2, q3, q4⟩ := hr1 hr9
              obtain ⟨md, hmd, -, -⟩ := oc_some q1
              have hd := jv_ltGet hmd
              have m6 := Ot5.2.2.2.2.2.1
              obtain ⟨hRn, sfn⟩ := hR.ty (N' := dN N (T (10 * u0 + k4)) d (mt_m t5).length) (t' := m_tM t5 ((mt_m t5).eraseIdx d)) hu0 hsu0 ht5 rfl (tM_ok Ot5 (by rw [er_len hd]; omega) (fun m hm => Ot5.2.2.2.2.2.2 m (List.mem_of_mem_eraseIdx hm))) q2 (fun b q => by rcases q with q | q; exact q ▸ oT.1; exact q ▸ oT.2.2.1) (fun b q j => by unfold dN; rw [if_neg q]) (oT.dNo hd m6) q3 q4 ⟨uk_er e0.1, e0.2.1, kc_er e0.2.2⟩
              exact pC_o (o' := (0, jv_bI true, m_put M u0 (false, (ma_t M u0).set k4 (m_tM t5 ((mt_m t5).eraseIdx d))))) (dr_1s zu0 hsu0 hk6 ht5 Ot5 q1) ⟨rfl, rfl, ⟨_, _, hRn⟩, sfn⟩
          · exact absurd (c12.symm.trans c13) (by decide)
        · refine jv_iload_n (q := 41) G 5 dX7_drop_40 rfl rfl rfl ?_
          refine jv_iconst (q := 42) (v := nI 1) G dX7_drop_41 (by decide) rfl ?_
          refine jv_icmp_eq (q := 45) (tgt := 47) G dX7_drop_42 (by decide) rfl (fun c17 => ?_) (fun c17 => ?_)
          · refine jv_aload (q := 49) G 0 dX7_drop_47 rfl rfl ?_
            refine jv_iload_n (q := 50) G 5 dX7_drop_49 rfl rfl rfl ?_
            refine jv_iconst (q := 51) (v := nI 1) G dX7_drop_50 (by decide) rfl ?_
            refine jv_icmp_ne (q := 54) (tgt := 58) G dX7_drop_51 (by decide) rfl (fun c18 => ?_) (fun c18 => ?_)
            · exact absurd c17 c18
            · refine jv_iconst (q := 55) (v := nI 1) G dX7_drop_54 (by decide) rfl ?_
              refine jv_goto (q := 59) G dX7_drop_55 (by decide) ?_
              refine jv_iload (q := 61) G 6 dX7_drop_59 rfl rfl ?_
              refine jv_iload (q := 63) G 7 dX7_drop_61 rfl rfl ?_
              refine jv_callS_I (q := 66) (h1 := h) (As := [.int p3, .int p4]) (rest := [.int (nI 1), .ref (T (10 * u0 + k4))]) (ce' := 0 + 2) (sl' := 0 + 12) (r := jv_oN (ky p3 p4)) G Z ml_X7_116 (k_keyOf hlt) dX7_drop_63 rfl (by decide) (by decide) (by decide) (by decide) (Nat.le_of_ble_eq_true rfl) rfl rfl rfl rfl ?_
              have e0 := eou0.2.1 t5 (List.mem_of_getElem? ht5); have oT := oeu0.2.2.2.1 k4 k10t5
              refine jv_callV (q := 69) (As := [.int (nI 1), .int (jv_oN (ky p3 p4))]) (rest := []) G Z ml_X7_145 (k_dropMember (w := true) (ko := ky p3 p4) hlt Yt5 Vt5 Ot5 (ky_64 p3 p4) e0.1) (hEu0.2.1 k4 k10t5).1 dX7_drop_66 rfl (by decide) (by decide) (by decide) (by decide) (Nat.le_of_ble_eq_true rfl) rfl rfl (fun v20 h19 y21 => ?_) (fun _ _ hx => hx.elim)
              obtain ⟨r9, rfl, hr1, hr0⟩ := y21
              show jv_V E 8 h19 (0 + 2) (0 + 12) (jv_Q E (pC z tO h (m_dr M (nI u0) p1 p2 p3 p4)) (pX z tO h ["java/lang/IndexOutOfBoundsException", "java/lang/IllegalStateException"] (m_dr M (nI u0) p1 p2 p3 p4)) 2 12) 69 [(7, .ref (T (10 * u0 + k4))), (6, .ref (z 0 u0)), (0, .ref (z 6 0)), (1, .int (nI u0)), (2, .int p1), (3, .int p2), (4, .int p3), (5, .int p4)] [.int (jv_bI r9)]
              refine jv_zret G hr dX7_drop_69 (Nat.le_of_ble_eq_true rfl) (Nat.le_of_ble_eq_true rfl) ?_
              have ew : p2 = jv_bI true := c18
              subst ew
              cases hr9 : r9 with
              | false =>
                obtain ⟨q1, q2⟩ := hr0 hr9
                subst q2
                exact pC_o (o' := (0, 0, M)) (dr_1n zu0 hsu0 hk6 ht5 Ot5 q1) ⟨rfl, rfl, ⟨_, _, hR⟩, .rf⟩
              | true =>
                obtain ⟨d, q1, q2, q3, q4⟩ := hr1 hr9
                obtain ⟨md, hmd, -, -⟩ := oc_some q1
                have hd := jv_ltGet hmd
                have m6 := Ot5.2.2.2.2.2.1
                obtain ⟨hRn, sfn⟩ := hR.ty (N' := dN N (T (10 * u0 + k4)) d (mt_m t5).length) (t' := m_tM t5 ((mt_m t5).eraseIdx d)) hu0 hsu0 ht5 rfl (tM_ok Ot5 (by rw [er_len hd]; omega) (fun m hm => Ot5.2.2.2.2.2.2 m (List.mem_of_mem_eraseIdx hm))) q2 (fun b q => by rcases q with q | q; exact q ▸ oT.1; exact q ▸ oT.2.2.1) (fun b q j => by unfold dN; rw [if_neg q]) (oT.dNo hd m6) q3 q4 ⟨uk_er e0.1, e0.2.1, kc_er e0.2.2⟩
                exact pC_o (o' := (0, jv_bI true, m_put M u0 (false, (ma_t M u0).set k4 (m_tM t5 ((mt_m t5).eraseIdx d))))) (dr_1s zu0 hsu0 hk6 ht5 Ot5 q1) ⟨rfl, rfl, ⟨_, _, hRn⟩, sfn⟩
          · refine jv_iconst (q := 46) (v := nI 0) G dX7_drop_45 (by decide) rfl ?_
            refine jv_topI (y := jv_bI false) rfl ?_
            refine jv_zret G hr dX7_drop_46 (Nat.le_of_ble_eq_true rfl) (Nat.le_of_ble_eq_true rfl) ?_
            exact pC_o (o' := (0, 0, M)) (dr_x zu0 hsu0 hk6 ht5 c12 c17 c11) ⟨rfl, rfl, ⟨_, _, hR⟩, .rf⟩
      · refine jv_aload (q := 29) G 1 dX7_drop_27 rfl rfl ?_
        refine jv_aload (q := 31) G 0 dX7_drop_29 rfl rfl ?_
        refine jv_callV (q := 34) (As := [.ref (T (10 * u0 + k4))]) (rest := []) G Z ml_X7_141 (k_dropType hlt hEu0 oeu0 ht5 eou0.1) hEu0.1.1 dX7_drop_31 rfl (by decide) (by decide) (by decide) (by decide) (Nat.le_of_ble_eq_true rfl) rfl rfl (fun v23 h22 y24 => ?_) (fun _ _ hx => hx.elim)
        obtain ⟨rfl, hG9, hE8, hI8⟩ := y24
        show jv_V E 8 h22 (0 + 2) (0 + 12) (jv_Q E (pC z tO h (m_dr M (nI u0) p1 p2 p3 p4)) (pX z tO h ["java/lang/IndexOutOfBoundsException", "java/lang/IllegalStateException"] (m_dr M (nI u0) p1 p2 p3 p4)) 2 12) 34 [(7, .ref (T (10 * u0 + k4))), (6, .ref (z 0 u0)), (0, .ref (z 6 0)), (1, .int (nI u0)), (2, .int p1), (3, .int p2), (4, .int p3), (5, .int p4)] []
        refine jv_iconst (q := 35) (v := nI 1) G dX7_drop_34 (by decide) rfl ?_
        refine jv_topI (y := jv_bI true) rfl ?_
        refine jv_zret G hr dX7_drop_35 (Nat.le_of_ble_eq_true rfl) (Nat.le_of_ble_eq_true rfl) ?_
        have ew := c11
        subst ew
        obtain ⟨hRn, sfn⟩ := hR.dTy hu0 hsu0 ht5 hG9 hE8 hI8
        exact pC_o (o' := (0, jv_bI true, m_put M u0 (false, (ma_t M u0).eraseIdx k4))) (dr_2 zu0 hsu0 hk6 ht5) ⟨rfl, rfl, ⟨_, _, hRn⟩, sfn⟩
    · cases c9
