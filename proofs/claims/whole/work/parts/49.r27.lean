def m_fn (p : mT → Bool) (ts : List mT) : Option Nat := (ts.find? p).map mt_n
theorem fn_none {p : mT → Bool} {ts : List mT} (h : ∀ t ∈ ts, p t = false) : m_fn p ts = none := by
  unfold m_fn
  rw [List.find?_eq_none.mpr (fun t ht => by rw [h t ht]; decide)]; rfl
theorem fn_some {p : mT → Bool} : ∀ {ts : List mT} {i : Nat} {t : mT}, ts[i]? = some t → p t = true → (∀ j t', j < i → ts[j]? = some t' → p t' = false) → m_fn p ts = some (mt_n t)
  | [], i, t, h, _, _ => by simp at h
  | a :: ts, 0, t, h, hp, _ => by
    simp at h
    subst h
    unfold m_fn
    rw [List.find?_cons, hp]; rfl
  | a :: ts, i + 1, t, h, hp, hb => by
    have ha := hb 0 a (by omega) (by simp)
    have ih := fn_some (ts := ts) (i := i) (t := t) (by simpa using h) hp (fun j t' hj ht => hb (j + 1) t' (by omega) (by simpa using ht))
    unfold m_fn at ih ⊢
    rw [List.find?_cons, ha]
    exact ih
def m_sa (M : mA) (e : Int32) : Nat × Int32 × mA := m_op M e (fun k => match m_fn (fun t => !m_lr (ma_t M k) t) (ma_t M k) with
  | some n => (0, nI n, M)
  | none => match m_fn (fun t => m_abv (ma_t M k) (mt_n t) (mt_n t)) (ma_t M k) with
    | some n => (0, nI n, M)
    | none => (0, -1, m_put M k (true, ma_t M k)))
theorem m_put_same {M : mA} {k : Nat} (hk : k < M.1.length) (hs : ma_s M k = false) : m_put M k (false, ma_t M k) = M := by
  unfold m_put ma_t ma_s at *
  rw [List.getElem?_eq_getElem hk] at hs ⊢
  have hs : (M.1[k]).1 = false := hs
  show (M.1.set k (false, (M.1[k]).2), M.2) = M
  rw [← hs]
  show (M.1.set k M.1[k], M.2) = M
  rw [List.set_getElem_self]
theorem rf_E.b16 {q : Nat → Nat} {h : jv_H} {e : Nat} {ts : List mT} (hE : rf_E q h e ts) : m_b16 ts := fun t ht => by
  obtain ⟨j, hj⟩ := List.getElem?_of_mem ht
  have h1 := (hE.2.2 j t hj).2
  exact ⟨h1.1, h1.2.2.2.2.1, fun u hu => (h1.2.2.1 u hu).1⟩
set_option maxHeartbeats 4000000 in
set_option maxRecDepth 100000 in
theorem r_s1 {E : jv_E} {x : Nat} {q : Nat → Nat} {h : jv_H} {k_e : Nat} {ts : List mT} {Q : State → Prop} (hlt : (jv_l E).stackTraces = false) (G : jv_C E cX8_seal RX8 3) (Z : jv_rm E = jv_room 3 0 0) (hS : rf_S x q h) (hke : k_e < 8) (hE : rf_E q h k_e ts)  (hK : (∀ t ∈ ts, (!m_lr ts t) = false) → jv_V E 3 h 0 0 Q 60 [(0, .ref x), (1, .int (nI k_e))] []) (hKr : ∀ i t, ts[i]? = some t → (!m_lr ts t) = true → (∀ j t', j < i → ts[j]? = some t' → (!m_lr ts t') = false) → jv_V E 3 h 0 0 Q 47 [(2, .int (nI (10 * k_e + i))), (0, .ref x)] []) : ∀ (m i : Nat), i + m = ts.length → (∀ j t', j < i → ts[j]? = some t' → (!m_lr ts t') = false) → jv_V E 3 h 0 0 Q 23 [(2, .int (nI (10 * k_e + i))), (0, .ref x), (1, .int (nI k_e))] [] := by
  have hsc : sc x q h h := sc.rf
  have hl10 := hE.2.1
  intro m
  induction m with
  | zero =>
    intro i hm hb
    refine jv_iload_n (q := 24) G 0 dX8_seal_23 rfl rfl rfl ?_
    refine jv_bipush (q := 26) (v := nI 10) G dX8_seal_24 (by decide) rfl ?_
    refine jv_iload_n (q := 27) G 2 dX8_seal_26 rfl rfl rfl ?_
    refine jv_imulN (q := 28) G dX8_seal_27 rfl ?_
    refine jv_aload_n (q := 29) G 1 dX8_seal_28 rfl rfl rfl ?_
    refine jv_getQ (q := 32) G dX8_seal_29 fl_X8_13 rfl hS.1 (rf_p3 hS) rfl ?_
    refine jv_iload_n (q := 33) G 2 dX8_seal_32 rfl rfl rfl ?_
    refine jv_iald (q := 34) G dX8_seal_33 (rf_a3 hS) rfl (by omega) (by decide) hE.1 rfl ?_
    refine jv_iaddN (q := 35) G dX8_seal_34 rfl ?_
    refine jv_icmp_geN (q := 38) (tgt := 60) G dX8_seal_35 (by decide) rfl (by omega) (by omega) (fun c1 => ?_) (fun c1 => ?_)
    · refine jv_lo [1, 2] (lo' := [(0, .ref x), (1, .int (nI k_e))]) rfl ?_
      refine hK (fun t ht => ?_)
      obtain ⟨j, hj⟩ := List.getElem?_of_mem ht
      exact hb j t (by have := jv_ltGet hj; omega) hj
    · omega
  | succ m ih =>
    intro i hm hb
    obtain ⟨t, hti⟩ := jv_getLt (l := ts) (k := i) (by omega)
    have hT := (hE.2.2 i t hti).1
    have hn16 := (hE.2.2 i t hti).2.1
    refine jv_iload_n (q := 24) G 0 dX8_seal_23 rfl rfl rfl ?_
    refine jv_bipush (q := 26) (v := nI 10) G dX8_seal_24 (by decide) rfl ?_
    refine jv_iload_n (q := 27) G 2 dX8_seal_26 rfl rfl rfl ?_
    refine jv_imulN (q := 28) G dX8_seal_27 rfl ?_
    refine jv_aload_n (q := 29) G 1 dX8_seal_28 rfl rfl rfl ?_
    refine jv_getQ (q := 32) G dX8_seal_29 fl_X8_13 rfl hS.1 (rf_p3 hS) rfl ?_
    refine jv_iload_n (q := 33) G 2 dX8_seal_32 rfl rfl rfl ?_
    refine jv_iald (q := 34) G dX8_seal_33 (rf_a3 hS) rfl (by omega) (by decide) hE.1 rfl ?_
    refine jv_iaddN (q := 35) G dX8_seal_34 rfl ?_
    refine jv_icmp_geN (q := 38) (tgt := 60) G dX8_seal_35 (by decide) rfl (by omega) (by omega) (fun c1 => ?_) (fun c1 => ?_)
    · omega
    · refine jv_aload_n (q := 39) G 1 dX8_seal_38 rfl rfl rfl ?_
      refine jv_iload_n (q := 40) G 2 dX8_seal_39 rfl rfl rfl ?_
      refine jv_iload_n (q := 41) G 0 dX8_seal_40 rfl rfl rfl ?_
      refine jv_callV_I (q := 44) (h1 := h) (As := [.int (nI k_e), .int (nI (10 * k_e + i))]) (rest := []) (ce' := 0) (sl' := 0) (r := jv_bI (m_lr ts t)) G Z ml_X8_159 (r_leansRight hlt hS (by omega) hE hti) hS.1 dX8_seal_41 rfl (by decide) (by decide) (by decide) (by decide) (Nat.le_of_ble_eq_true rfl) rfl rfl rfl rfl ?_
      refine jv_if_neB (q := 47) (tgt := 54) G dX8_seal_44 (by decide) rfl (fun c2 => ?_) (fun c2 => ?_)
      · refine jv_iinc (q := 57) (lo' := [(2, .int (nI (10 * k_e + i + 1))), (0, .ref x), (1, .int (nI k_e))]) (v := nI (10 * k_e + i + 1)) G 0 dX8_seal_54 rfl (nI_1 (10 * k_e + i)) (by decide) rfl rfl ?_
        refine jv_goto (q := 23) G dX8_seal_57 (by decide) ?_
        show jv_V E 3 h 0 0 Q 23 [(2, .int (nI (10 * k_e + (i + 1)))), (0, .ref x), (1, .int (nI k_e))] []
        refine jv_lo [0, 1, 2] (lo' := [(2, .int (nI (10 * k_e + (i + 1)))), (0, .ref x), (1, .int (nI k_e))]) rfl ?_
        refine ih (i + 1) (by omega) (fun j t' hj ht' => ?_)
        by_cases hji : j = i
        · subst hji
          cases hti.symm.trans ht'
          rw [c2]; rfl
        · exact hb j t' (by omega) ht'
      · refine jv_lo [0, 1] (lo' := [(2, .int (nI (10 * k_e + i))), (0, .ref x)]) rfl ?_
        exact hKr i t hti (by rw [c2]; rfl) hb
set_option maxHeartbeats 4000000 in
set_option maxRecDepth 100000 in
theorem r_s2 {E : jv_E} {x : Nat} {q : Nat → Nat} {h : jv_H} {k_e : Nat} {ts : List mT} {Q : State → Prop} (hlt : (jv_l E).stackTraces = false) (G : jv_C E cX8_seal RX8 3) (Z : jv_rm E = jv_room 3 0 0) (hS : rf_S x q h) (hke : k_e < 8) (hE : rf_E q h k_e ts) (hV : rf_V q h k_e ts) (hK : (∀ t ∈ ts, m_abv ts (mt_n t) (mt_n t) = false) → jv_V E 3 h 0 0 Q 118 [(0, .ref x), (1, .int (nI k_e))] []) (hKr : ∀ i t, ts[i]? = some t → m_abv ts (mt_n t) (mt_n t) = true → (∀ j t', j < i → ts[j]? = some t' → m_abv ts (mt_n t') (mt_n t') = false) → jv_V E 3 h 0 0 Q 105 [(2, .int (nI (10 * k_e + i))), (0, .ref x)] []) : ∀ (m i : Nat), i + m = ts.length → (∀ j t', j < i → ts[j]? = some t' → m_abv ts (mt_n t') (mt_n t') = false) → jv_V E 3 h 0 0 Q 70 [(2, .int (nI (10 * k_e + i))), (0, .ref x), (1, .int (nI k_e))] [] := by
  have hsc : sc x q h h := sc.rf
  have hl10 := hE.2.1
  intro m
  induction m with
  | zero =>
    intro i hm hb
    refine jv_iload_n (q := 71) G 0 dX8_seal_70 rfl rfl rfl ?_
    refine jv_bipush (q := 73) (v := nI 10) G dX8_seal_71 (by decide) rfl ?_
    refine jv_iload_n (q := 74) G 2 dX8_seal_73 rfl rfl rfl ?_
    refine jv_imulN (q := 75) G dX8_seal_74 rfl ?_
    refine jv_aload_n (q := 76) G 1 dX8_seal_75 rfl rfl rfl ?_
    refine jv_getQ (q := 79) G dX8_seal_76 fl_X8_13 rfl hS.1 (rf_p3 hS) rfl ?_
    refine jv_iload_n (q := 80) G 2 dX8_seal_79 rfl rfl rfl ?_
    refine jv_iald (q := 81) G dX8_seal_80 (rf_a3 hS) rfl (by omega) (by decide) hE.1 rfl ?_
    refine jv_iaddN (q := 82) G dX8_seal_81 rfl ?_
    refine jv_icmp_geN (q := 85) (tgt := 118) G dX8_seal_82 (by decide) rfl (by omega) (by omega) (fun c1 => ?_) (fun c1 => ?_)
    · refine jv_lo [1, 2] (lo' := [(0, .ref x), (1, .int (nI k_e))]) rfl ?_
      refine hK (fun t ht => ?_)
      obtain ⟨j, hj⟩ := List.getElem?_of_mem ht
      exact hb j t (by have := jv_ltGet hj; omega) hj
    · omega
  | succ m ih =>
    intro i hm hb
    obtain ⟨t, hti⟩ := jv_getLt (l := ts) (k := i) (by omega)
    have hT := (hE.2.2 i t hti).1
    have hn16 := (hE.2.2 i t hti).2.1
    refine jv_iload_n (q := 71) G 0 dX8_seal_70 rfl rfl rfl ?_
    refine jv_bipush (q := 73) (v := nI 10) G dX8_seal_71 (by decide) rfl ?_
    refine jv_iload_n (q := 74) G 2 dX8_seal_73 rfl rfl rfl ?_
    refine jv_imulN (q := 75) G dX8_seal_74 rfl ?_
    refine jv_aload_n (q := 76) G 1 dX8_seal_75 rfl rfl rfl ?_
    refine jv_getQ (q := 79) G dX8_seal_76 fl_X8_13 rfl hS.1 (rf_p3 hS) rfl ?_
    refine jv_iload_n (q := 80) G 2 dX8_seal_79 rfl rfl rfl ?_
    refine jv_iald (q := 81) G dX8_seal_80 (rf_a3 hS) rfl (by omega) (by decide) hE.1 rfl ?_
    refine jv_iaddN (q := 82) G dX8_seal_81 rfl ?_
    refine jv_icmp_geN (q := 85) (tgt := 118) G dX8_seal_82 (by decide) rfl (by omega) (by omega) (fun c1 => ?_) (fun c1 => ?_)
    · omega
    · refine jv_aload_n (q := 86) G 1 dX8_seal_85 rfl rfl rfl ?_
      refine jv_iload_n (q := 87) G 2 dX8_seal_86 rfl rfl rfl ?_
      refine jv_aload_n (q := 88) G 1 dX8_seal_87 rfl rfl rfl ?_
      refine jv_getQ (q := 91) G dX8_seal_88 fl_X8_17 rfl hS.1 (rf_p4 hS) rfl ?_
      refine jv_iload_n (q := 92) G 0 dX8_seal_91 rfl rfl rfl ?_
      refine jv_iald (q := 93) G dX8_seal_92 (rf_a4 hS) rfl (by omega) (by decide) (rt_4 hT) rfl ?_
      refine jv_aload_n (q := 94) G 1 dX8_seal_93 rfl rfl rfl ?_
      refine jv_getQ (q := 97) G dX8_seal_94 fl_X8_17 rfl hS.1 (rf_p4 hS) rfl ?_
      refine jv_iload_n (q := 98) G 0 dX8_seal_97 rfl rfl rfl ?_
      refine jv_iald (q := 99) G dX8_seal_98 (rf_a4 hS) rfl (by omega) (by decide) (rt_4 hT) rfl ?_
      refine jv_callV_I (q := 102) (h1 := h) (As := [.int (nI k_e), .int (nI (mt_n t)), .int (nI (mt_n t))]) (rest := []) (ce' := 0) (sl' := 0) (r := jv_bI (m_isA ts (nI (mt_n t)) (nI (mt_n t)))) G Z ml_X8_167 (r_isAbove hlt hsc hS (by omega) hV) hS.1 dX8_seal_99 rfl (by decide) (by decide) (by decide) (by decide) (Nat.le_of_ble_eq_true rfl) rfl rfl rfl rfl ?_
      refine jv_if_eqB (q := 105) (tgt := 112) G dX8_seal_102 (by decide) rfl (fun c2 => ?_) (fun c2 => ?_)
      · refine jv_iinc (q := 115) (lo' := [(2, .int (nI (10 * k_e + i + 1))), (0, .ref x), (1, .int (nI k_e))]) (v := nI (10 * k_e + i + 1)) G 0 dX8_seal_112 rfl (nI_1 (10 * k_e + i)) (by decide) rfl rfl ?_
        refine jv_goto (q := 70) G dX8_seal_115 (by decide) ?_
        show jv_V E 3 h 0 0 Q 70 [(2, .int (nI (10 * k_e + (i + 1)))), (0, .ref x), (1, .int (nI k_e))] []
        refine jv_lo [0, 1, 2] (lo' := [(2, .int (nI (10 * k_e + (i + 1)))), (0, .ref x), (1, .int (nI k_e))]) rfl ?_
        refine ih (i + 1) (by omega) (fun j t' hj ht' => ?_)
        by_cases hji : j = i
        · subst hji
          cases hti.symm.trans ht'
          rw [m_isA_nI hn16 hn16] at c2; exact c2
        · exact hb j t' (by omega) ht'
      · refine jv_lo [0, 1] (lo' := [(2, .int (nI (10 * k_e + i))), (0, .ref x)]) rfl ?_
        exact hKr i t hti (by rw [m_isA_nI hn16 hn16] at c2; exact c2) hb
set_option maxHeartbeats 4000000 in
set_option maxRecDepth 100000 in
theorem r_seal {lA : Launch} (hlt : lA.stackTraces = false) {D : jv_D} {base : Nat} {x : Nat} {q : Nat → Nat} {h : jv_H} {M : mA} {e : Int32} (hq : ∀ k, m_uq (ma_t M k)) (hR : rf_R x q h M) : jv_Met lA D base yX8_seal (.code yX8_seal cX8_seal 3 (some .int)) 3 0 0 [.ref x, .int e] h (pO x q h (m_sa M e)) jv_no := by
  refine jv_ofV (lo := [(0, .ref x), (1, .int e)]) hlt (by decide) (Nat.le_of_ble_eq_true rfl) rfl (fun E hEl hEd hEz Z G hr ht hnm => ?_)
  subst hEl; subst hEd; subst hEz
  obtain ⟨hS, ⟨hn8, hn⟩, ⟨hm12, hm⟩, hD, hV, hCs⟩ := id hR
  have hS0 := hS
  have hrs : rs x q h h := rs.rf
  have hsc : sc x q h h := sc.rf
  have hop := opF_lt M e
  refine jv_aload_n (q := 1) G 0 dX8_seal_0 rfl rfl rfl ?_
  refine jv_aload_n (q := 2) G 0 dX8_seal_1 rfl rfl rfl ?_
  refine jv_iload_n (q := 3) G 1 dX8_seal_2 rfl rfl rfl ?_
  refine jv_callV_I (q := 6) (h1 := h) (As := [.int e]) (rest := [.ref x]) (ce' := 0) (sl' := 0) (r := nI (m_opF M e)) G Z ml_X8_143 (r_openFault hlt hR) hS.1 dX8_seal_3 rfl (by decide) (by decide) (by decide) (by decide) (Nat.le_of_ble_eq_true rfl) rfl rfl rfl rfl ?_
  refine jv_putI (q := 9) G dX8_seal_6 fl_X8_122 rfl hS.1 rfl ?_
  have hr1 : rs x q h (jv_wI h x 0 (nI (m_opF M e))) := rs.rf.wI (nI (m_opF M e)) (Or.inl ⟨rfl, Or.inl rfl⟩)
  have hth : jv_I (jv_wI h x 0 (nI (m_opF M e))) x 0 = (nI (m_opF M e)) := jv_I_self _ _ _ _
  have hR := hr1.R hR
  have hrs := hrs.tr hr1
  generalize jv_wI h x 0 (nI (m_opF M e)) = h1 at hth hR hrs ⊢
  obtain ⟨hS, ⟨hn8, hn⟩, ⟨hm12, hm⟩, hD, hV, hCs⟩ := id hR
  have hsc : sc x q h1 h1 := sc.rf
  refine jv_aload_n (q := 10) G 0 dX8_seal_9 rfl rfl rfl ?_
  refine jv_getI (q := 13) G dX8_seal_10 fl_X8_122 rfl hS.1 hth rfl ?_
  refine jv_if_leN (q := 16) (tgt := 18) G dX8_seal_13 (by decide) rfl (by omega) (fun c2 => ?_) (fun c2 => ?_)
  · obtain ⟨k_e, hke, eke, zke, hse⟩ := opF_0 c2 (by omega)
    have e0 := c2
    subst eke
    rw [e0] at hth
    have hE := (hD k_e (by omega)).2
    have hl10 := hE.2.1
    refine jv_bipush (q := 20) (v := nI 10) G dX8_seal_18 (by decide) rfl ?_
    refine jv_iload_n (q := 21) G 1 dX8_seal_20 rfl rfl rfl ?_
    refine jv_imulN (q := 22) G dX8_seal_21 rfl ?_
    refine jv_istore_n (q := 23) (lo' := [(2, .int (nI (10 * k_e))), (0, .ref x), (1, .int (nI k_e))]) G dX8_seal_22 rfl (by decide) rfl rfl ?_
    show jv_V E 3 h1 0 0 (jv_Q E (pO x q h (m_sa M (nI k_e))) jv_no 0 0) 23 [(2, .int (nI (10 * k_e + 0))), (0, .ref x), (1, .int (nI k_e))] []
    refine jv_lo [0, 1, 2] (lo' := [(2, .int (nI (10 * k_e + 0))), (0, .ref x), (1, .int (nI k_e))]) rfl ?_
    refine r_s1 (ts := (ma_t M k_e)) hlt G Z hS (by omega) hE (fun hlr => ?_) (fun i t hti hno hb => ?_) (ma_t M k_e).length 0 (by omega) (fun j t hj => by omega)
    · refine jv_aload_n (q := 61) G 0 dX8_seal_60 rfl rfl rfl ?_
      refine jv_iload_n (q := 62) G 1 dX8_seal_61 rfl rfl rfl ?_
      refine jv_callV (q := 65) (As := [.int (nI k_e)]) (rest := []) G Z ml_X8_163 (r_reckon hlt hS (by omega) hE hE.b16 (hq k_e)) hS.1 dX8_seal_62 rfl (by decide) (by decide) (by decide) (by decide) (Nat.le_of_ble_eq_true rfl) rfl rfl (fun v4 h3 y5 => ?_) (fun _ _ hx => hx.elim)
      obtain ⟨rfl, hFr, hVr⟩ := y5
      show jv_V E 3 h3 0 0 (jv_Q E (pO x q h (m_sa M (nI k_e))) jv_no 0 0) 65 [(0, .ref x), (1, .int (nI k_e))] []
      refine jv_bipush (q := 67) (v := nI 10) G dX8_seal_65 (by decide) rfl ?_
      refine jv_iload_n (q := 68) G 1 dX8_seal_67 rfl rfl rfl ?_
      refine jv_imulN (q := 69) G dX8_seal_68 rfl ?_
      refine jv_istore_n (q := 70) (lo' := [(2, .int (nI (10 * k_e))), (0, .ref x), (1, .int (nI k_e))]) G dX8_seal_69 rfl (by decide) rfl rfl ?_
      show jv_V E 3 h3 0 0 (jv_Q E (pO x q h (m_sa M (nI k_e))) jv_no 0 0) 70 [(2, .int (nI (10 * k_e + 0))), (0, .ref x), (1, .int (nI k_e))] []
      refine jv_lo [0, 1, 2] (lo' := [(2, .int (nI (10 * k_e + 0))), (0, .ref x), (1, .int (nI k_e))]) rfl ?_
      have hS2 := hFr.S hS
      have hFe := hFr.mono (W' := w_E k_e) (X' := xcr) (fun k j o => Or.inl (Or.inr (Or.inr (Or.inr (Or.inr o))))) (fun _ z => z.elim)
      have hE2 : rf_E q h3 k_e (ma_t M k_e) := by
        refine ⟨(hFr.aq 3 _ (by omega)).trans hE.1, hE.2.1, fun k t ht => ⟨hFr.T (hE.2.2 k t ht).2 (fun k' j o z => by unfold o_T k_t k_m at o; omega) (hE.2.2 k t ht).1, (hE.2.2 k t ht).2⟩⟩
      have hs2 : jv_I h3 (q 2) k_e = jv_bI false := (hFr.aq 2 _ (by omega)).trans ((hD k_e (by omega)).1.trans (by rw [hse]))
      have hR2 : rf_R x q h3 M := by
        have h9 := rf_R.ed hR hke hse hFe hs2 hE2 (fun z => by cases z)
        rw [m_put_same hke hse] at h9
        exact h9
      have hn1 : m_fn (fun t => !m_lr (ma_t M k_e) t) (ma_t M k_e) = none := fn_none hlr
      have hth2 := (hFr.ax 0 (fun z => z)).trans hth
      refine r_s2 (ts := (ma_t M k_e)) hlt G Z hS2 (by omega) hE2 hVr (fun hno => ?_) (fun i t hti hyes hb => ?_) (ma_t M k_e).length 0 (by omega) (fun j t hj => by omega)
      · refine jv_aload_n (q := 119) G 0 dX8_seal_118 rfl rfl rfl ?_
        refine jv_getQ (q := 122) G dX8_seal_119 fl_X8_7 rfl hS2.1 (rf_p2 hS2) rfl ?_
        refine jv_iload_n (q := 123) G 1 dX8_seal_122 rfl rfl rfl ?_
        refine jv_iconst (q := 124) (v := nI 1) G dX8_seal_123 (by decide) rfl ?_
        refine jv_topI (y := jv_bI true) rfl ?_
        refine jv_zast (q := 125) G dX8_seal_124 (rf_a2 hS2) rfl (by omega) (by decide) rfl ?_
        refine jv_iconst (q := 126) (v := (-1)) G dX8_seal_125 (by decide) rfl ?_
        refine jv_iret G hr dX8_seal_126 (Nat.le_of_ble_eq_true rfl) (Nat.le_of_ble_eq_true rfl) ?_
        have hFs := hFe.wq hS (k := 2) (j := k_e) (by decide) rfl (Or.inl (Or.inl ⟨Or.inl rfl, rfl⟩)) (jv_bI true)
        have hF1 := FW.rf.wq (W := fun k j => k = 2 ∧ j = k_e) (X := xcr) hS2 (k := 2) (j := k_e) (by decide) rfl ⟨rfl, rfl⟩ (jv_bI true)
        have hE3 : rf_E q (jv_wI h3 (q 2) k_e (jv_bI true)) k_e (ma_t M k_e) := ⟨(hF1.aq 3 _ (by omega)).trans hE2.1, hE2.2.1, fun k t ht => ⟨hF1.T (hE2.2.2 k t ht).2 (fun k' j o z => by unfold o_T k_t k_m at o; omega) (hE2.2.2 k t ht).1, (hE2.2.2 k t ht).2⟩⟩
        have hV3 : rf_V q (jv_wI h3 (q 2) k_e (jv_bI true)) k_e (ma_t M k_e) := fun u l hu hl => (hF1.aq 20 _ (by omega)).trans (hVr u l hu hl)
        refine pO.mk (th := 0) (r := -1) (M' := m_put M k_e (true, (ma_t M k_e))) ?_ rfl ((xI_q hS2 (by decide) rfl _ _ _).trans hth2) (rf_R.ed hR hke hse hFs (jv_I_self _ _ _ _) hE3 (fun _ => ⟨hV3, m_sok_of hE.b16 (hq k_e) hl10 (fun t ht => by simpa using hlr t ht) hno⟩)) ((hrs.FW hS0).fr.tr hFs.fr)
        unfold m_sa
        rw [m_op_yes zke hse, hn1]
        dsimp only
        rw [fn_none (p := (fun t => m_abv (ma_t M k_e) (mt_n t) (mt_n t))) hno]
      · have hT := (hE2.2.2 i t hti).1; have hil := jv_ltGet hti
        refine jv_aload_n (q := 106) G 1 dX8_seal_105 rfl rfl rfl ?_
        refine jv_getQ (q := 109) G dX8_seal_106 fl_X8_17 rfl hS2.1 (rf_p4 hS2) rfl ?_
        refine jv_iload_n (q := 110) G 0 dX8_seal_109 rfl rfl rfl ?_
        refine jv_iald (q := 111) G dX8_seal_110 (rf_a4 hS2) rfl (by omega) (by decide) (rt_4 hT) rfl ?_
        refine jv_iret G hr dX8_seal_111 (Nat.le_of_ble_eq_true rfl) (Nat.le_of_ble_eq_true rfl) ?_
        refine pO.mk (th := 0) (r := nI (mt_n t)) (M' := M) ?_ rfl hth2 hR2 ((hrs.FW hS0).fr.tr hFr.fr)
        unfold m_sa
        rw [m_op_yes zke hse, hn1]
        dsimp only
        rw [fn_some (p := (fun t => m_abv (ma_t M k_e) (mt_n t) (mt_n t))) hti hyes hb]
    · have hT := (hE.2.2 i t hti).1; have hil := jv_ltGet hti
      refine jv_aload_n (q := 48) G 1 dX8_seal_47 rfl rfl rfl ?_
      refine jv_getQ (q := 51) G dX8_seal_48 fl_X8_17 rfl hS.1 (rf_p4 hS) rfl ?_
      refine jv_iload_n (q := 52) G 0 dX8_seal_51 rfl rfl rfl ?_
      refine jv_iald (q := 53) G dX8_seal_52 (rf_a4 hS) rfl (by omega) (by decide) (rt_4 hT) rfl ?_
      refine jv_iret G hr dX8_seal_53 (Nat.le_of_ble_eq_true rfl) (Nat.le_of_ble_eq_true rfl) ?_
      refine pO.mk (th := 0) (r := nI (mt_n t)) (M' := M) ?_ rfl hth hR (hrs.FW hS0).fr
      unfold m_sa
      rw [m_op_yes zke hse, fn_some (p := (fun t => !m_lr (ma_t M k_e) t)) hti hno hb]
  · refine jv_iconst (q := 17) (v := nI 0) G dX8_seal_16 (by decide) rfl ?_
    refine jv_iret G hr dX8_seal_17 (Nat.le_of_ble_eq_true rfl) (Nat.le_of_ble_eq_true rfl) ?_
    refine pO.no (M := M) hS0 ?_ rfl hth hR hrs
    exact m_op_no c2
