def m_dr (M : mA) (e n w a s : Int32) : Nat × Int32 × mA := m_opT M e n (0, 0, M) (fun k i t => if w < 0 ∨ ¬ w ≤ nI 2 then (0, 0, M) else if w = nI 2 then (0, jv_bI true, m_put M k (false, (ma_t M k).eraseIdx i)) else match m_own t w a s with
  | none => (0, 0, M)
  | some j => (0, jv_bI true, m_put M k (false, (ma_t M k).set i (m_tM t ((mt_m t).eraseIdx j)))))
theorem rf_T.sM {x : Nat} {q : Nat → Nat} {h0 h : jv_H} {X : Nat → Prop} {i : Nat} {t : mT} {l : List mM} (r : rf_T q h0 i t) (ho : mt_ok t) (a : FW (fun k j => (k = 12 ∧ j = i) ∨ (k_m k ∧ 6 * i ≤ j ∧ j < 6 * i + 6)) X x q h0 h) (h12 : jv_I h (q 12) i = nI l.length) (hl : l.length ≤ 6) (hM : ∀ j m, l[j]? = some m → rf_M q h (6 * i + j) m) (hk : ∀ m ∈ l, mm_ok m) : rf_T q h i (m_tM t l) ∧ mt_ok (m_tM t l) :=
  ⟨⟨(a.aq 4 i (by unfold k_m; omega)).trans r.1, (a.aq 5 i (by unfold k_m; omega)).trans r.2.1, (a.aq 6 i (by unfold k_m; omega)).trans r.2.2.1, (a.aq 7 i (by unfold k_m; omega)).trans r.2.2.2.1, (a.aq 8 i (by unfold k_m; omega)).trans r.2.2.2.2.1, (a.aq 9 i (by unfold k_m; omega)).trans r.2.2.2.2.2.1, (a.aq 10 i (by unfold k_m; omega)).trans r.2.2.2.2.2.2.1, h12, fun j w e => (a.aq 11 _ (by unfold k_m; omega)).trans (rt_11 r e), hM⟩, ho.1, ho.2.1, ho.2.2.1, ho.2.2.2.1, ho.2.2.2.2.1, hl, hk⟩
theorem er_ge {α : Type} {l : List α} {d i : Nat} (h : d ≤ i) : (l.eraseIdx d)[i]? = l[i + 1]? := List.getElem?_eraseIdx_of_ge h
theorem er_lt {α : Type} {l : List α} {d i : Nat} (h : i < d) : (l.eraseIdx d)[i]? = l[i]? := List.getElem?_eraseIdx_of_lt h
theorem er_len {α : Type} {l : List α} {d : Nat} (h : d < l.length) : (l.eraseIdx d).length = l.length - 1 := List.length_eraseIdx_of_lt h
set_option maxHeartbeats 4000000 in
set_option maxRecDepth 100000 in
theorem r_dt_loop {E : jv_E} {x : Nat} {q : Nat → Nat} {h : jv_H} {k_e d : Nat} {ts : List mT} {Q : State → Prop} (hlt : (jv_l E).stackTraces = false) (G : jv_C E cX8_drop RX8 9) (Z : jv_rm E = jv_room 3 0 0) (hS0 : rf_S x q h) (hke : k_e < 8) (hd : d < ts.length) (hl : ts.length ≤ 10) (hok : ∀ t ∈ ts, mt_ok t) (h30 : jv_I h (q 3) k_e = nI (ts.length - 1)) (hK : ∀ h2, FW (fun k j => ∃ i, i < 10 ∧ o_T (10 * k_e + i) k j) (fun _ => False) x q h h2 → (∀ j t, j < (ts.length - 1) → (ts.eraseIdx d)[j]? = some t → rf_T q h2 (10 * k_e + j) t) → jv_V E 9 h2 0 0 Q 94 [(0, .ref x)] []) : ∀ (m i : Nat) (h1 : jv_H), i + m = ts.length - 1 → d ≤ i → FW (fun k j => ∃ i, i < 10 ∧ o_T (10 * k_e + i) k j) (fun _ => False) x q h h1 → (∀ j t, j < i → (ts.eraseIdx d)[j]? = some t → rf_T q h1 (10 * k_e + j) t) → (∀ j t, i < j → ts[j]? = some t → rf_T q h1 (10 * k_e + j) t) → jv_V E 9 h1 0 0 Q 62 [(7, .int (nI (10 * k_e + i))), (0, .ref x), (1, .int (nI k_e))] [] := by
  intro m
  induction m with
  | zero =>
    intro i h1 hi hdi hF hA hB
    have hS := hF.S hS0
    have h3 : jv_I h1 (q 3) k_e = nI (ts.length - 1) := (hF.aq 3 k_e (fun z => (w_C3 z).2.1 rfl)).trans h30
    refine jv_iload (q := 64) G 0 dX8_drop_62 rfl rfl ?_
    refine jv_bipush (q := 66) (v := nI 10) G dX8_drop_64 (by decide) rfl ?_
    refine jv_iload_n (q := 67) G 2 dX8_drop_66 rfl rfl rfl ?_
    refine jv_imulN (q := 68) G dX8_drop_67 rfl ?_
    refine jv_aload_n (q := 69) G 1 dX8_drop_68 rfl rfl rfl ?_
    refine jv_getQ (q := 72) G dX8_drop_69 fl_X8_13 rfl hS.1 (rf_p3 hS) rfl ?_
    refine jv_iload_n (q := 73) G 2 dX8_drop_72 rfl rfl rfl ?_
    refine jv_iald (q := 74) G dX8_drop_73 (rf_a3 hS) rfl (by omega) (by decide) h3 rfl ?_
    refine jv_iaddN (q := 75) G dX8_drop_74 rfl ?_
    refine jv_icmp_geN (q := 78) (tgt := 94) G dX8_drop_75 (by decide) rfl (by omega) (by omega) (fun c1 => ?_) (fun c1 => ?_)
    · refine jv_lo [1] (lo' := [(0, .ref x)]) rfl ?_
      exact hK _ hF (fun j t hj => hA j t (by omega))
    · omega
  | succ m ih =>
    intro i h1 hi hdi hF hA hB
    have hS := hF.S hS0
    have h3 : jv_I h1 (q 3) k_e = nI (ts.length - 1) := (hF.aq 3 k_e (fun z => (w_C3 z).2.1 rfl)).trans h30
    refine jv_iload (q := 64) G 0 dX8_drop_62 rfl rfl ?_
    refine jv_bipush (q := 66) (v := nI 10) G dX8_drop_64 (by decide) rfl ?_
    refine jv_iload_n (q := 67) G 2 dX8_drop_66 rfl rfl rfl ?_
    refine jv_imulN (q := 68) G dX8_drop_67 rfl ?_
    refine jv_aload_n (q := 69) G 1 dX8_drop_68 rfl rfl rfl ?_
    refine jv_getQ (q := 72) G dX8_drop_69 fl_X8_13 rfl hS.1 (rf_p3 hS) rfl ?_
    refine jv_iload_n (q := 73) G 2 dX8_drop_72 rfl rfl rfl ?_
    refine jv_iald (q := 74) G dX8_drop_73 (rf_a3 hS) rfl (by omega) (by decide) h3 rfl ?_
    refine jv_iaddN (q := 75) G dX8_drop_74 rfl ?_
    refine jv_icmp_geN (q := 78) (tgt := 94) G dX8_drop_75 (by decide) rfl (by omega) (by omega) (fun c1 => ?_) (fun c1 => ?_)
    · omega
    · refine jv_aload_n (q := 79) G 1 dX8_drop_78 rfl rfl rfl ?_
      refine jv_iload (q := 81) G 0 dX8_drop_79 rfl rfl ?_
      refine jv_iconst (q := 82) (v := nI 1) G dX8_drop_81 (by decide) rfl ?_
      refine jv_iaddN (q := 83) G dX8_drop_82 rfl ?_
      refine jv_iload (q := 85) G 0 dX8_drop_83 rfl rfl ?_
      refine jv_callV (q := 88) (As := [.int (nI ((10 * k_e + i) + 1)), .int (nI (10 * k_e + i))]) (rest := []) G Z ml_X8_136 (r_moveType hlt hS (by omega) (by omega) (by omega)) hS.1 dX8_drop_85 rfl (by decide) (by decide) (by decide) (by decide) (Nat.le_of_ble_eq_true rfl) rfl rfl (fun v3 h2 y4 => ?_) (fun _ _ hx => hx.elim)
      obtain ⟨rfl, hFm, hMm⟩ := y4
      show jv_V E 9 h2 0 0 Q 88 [(7, .int (nI (10 * k_e + i))), (0, .ref x), (1, .int (nI k_e))] []
      refine jv_iinc (q := 91) (lo' := [(7, .int (nI (10 * k_e + i + 1))), (0, .ref x), (1, .int (nI k_e))]) (v := nI (10 * k_e + i + 1)) G 0 dX8_drop_88 rfl (nI_1 (10 * k_e + i)) (by decide) rfl rfl ?_
      refine jv_goto (q := 62) G dX8_drop_91 (by decide) ?_
      show jv_V E 9 h2 0 0 Q 62 [(7, .int (nI (10 * k_e + (i + 1)))), (0, .ref x), (1, .int (nI k_e))] []
      refine jv_lo [0, 1, 2] (lo' := [(7, .int (nI (10 * k_e + (i + 1)))), (0, .ref x), (1, .int (nI k_e))]) rfl ?_
      have hF2 := hF.tr (hFm.mono (W' := (fun k j => ∃ i, i < 10 ∧ o_T (10 * k_e + i) k j)) (X' := (fun _ => False)) (fun k' j o => ⟨i, by omega, o⟩) (fun _ z => z))
      have hne : ∀ j t, j ≠ i → mt_ok t → rf_T q h1 (10 * k_e + j) t → rf_T q h2 (10 * k_e + j) t := fun j t hj ho r => hFm.T ho (fun k' j' o z => by have := w_CT o z; omega) r
      refine ih (i + 1) _ (by omega) (by omega) hF2 (fun j t hj ht => ?_) (fun j t hj ht => hne j t (by omega) (hok t (List.mem_of_getElem? ht)) (hB j t (by omega) ht))
      by_cases hji : j = i
      · subst hji
        rw [er_ge hdi] at ht
        exact hMm t (hok t (List.mem_of_getElem? ht)) (hB (j + 1) t (by omega) ht)
      · refine hne j t hji ?_ (hA j t (by omega) ht)
        exact hok t (List.mem_of_mem_eraseIdx (List.mem_of_getElem? ht))
set_option maxHeartbeats 4000000 in
set_option maxRecDepth 100000 in
theorem r_dm_loop {E : jv_E} {x : Nat} {q : Nat → Nat} {h : jv_H} {T d : Nat} {ms : List mM} {Q : State → Prop} (hlt : (jv_l E).stackTraces = false) (G : jv_C E cX8_drop RX8 9) (Z : jv_rm E = jv_room 3 0 0) (hS0 : rf_S x q h) (hT : T < 80) (hd : d < ms.length) (hl : ms.length ≤ 6) (h120 : jv_I h (q 12) T = nI (ms.length - 1)) (hK : ∀ h2, FW (fun k j => k_m k ∧ 6 * T ≤ j ∧ j < 6 * T + 6) (fun _ => False) x q h h2 → (∀ j m, j < (ms.length - 1) → (ms.eraseIdx d)[j]? = some m → rf_M q h2 (6 * T + j) m) → jv_V E 9 h2 0 0 Q 166 [(0, .ref x)] []) : ∀ (m i : Nat) (h1 : jv_H), i + m = ms.length - 1 → d ≤ i → FW (fun k j => k_m k ∧ 6 * T ≤ j ∧ j < 6 * T + 6) (fun _ => False) x q h h1 → (∀ j m, j < i → (ms.eraseIdx d)[j]? = some m → rf_M q h1 (6 * T + j) m) → (∀ j m, i < j → ms[j]? = some m → rf_M q h1 (6 * T + j) m) → jv_V E 9 h1 0 0 Q 132 [(8, .int (nI (6 * T + i))), (0, .ref x), (6, .int (nI T))] [] := by
  intro m
  induction m with
  | zero =>
    intro i h1 hi hdi hF hA hB
    have hS := hF.S hS0
    have h12 : jv_I h1 (q 12) T = nI (ms.length - 1) := (hF.aq 12 T (by unfold k_m; omega)).trans h120
    refine jv_iload (q := 134) G 0 dX8_drop_132 rfl rfl ?_
    refine jv_bipush (q := 136) (v := nI 6) G dX8_drop_134 (by decide) rfl ?_
    refine jv_iload (q := 138) G 2 dX8_drop_136 rfl rfl ?_
    refine jv_imulN (q := 139) G dX8_drop_138 rfl ?_
    refine jv_aload_n (q := 140) G 1 dX8_drop_139 rfl rfl rfl ?_
    refine jv_getQ (q := 143) G dX8_drop_140 fl_X8_41 rfl hS.1 (rf_p12 hS) rfl ?_
    refine jv_iload (q := 145) G 2 dX8_drop_143 rfl rfl ?_
    refine jv_iald (q := 146) G dX8_drop_145 (rf_a12 hS) rfl (by omega) (by decide) h12 rfl ?_
    refine jv_iaddN (q := 147) G dX8_drop_146 rfl ?_
    refine jv_icmp_geN (q := 150) (tgt := 166) G dX8_drop_147 (by decide) rfl (by omega) (by omega) (fun c1 => ?_) (fun c1 => ?_)
    · refine jv_lo [1] (lo' := [(0, .ref x)]) rfl ?_
      exact hK _ hF (fun j t hj => hA j t (by omega))
    · omega
  | succ m ih =>
    intro i h1 hi hdi hF hA hB
    have hS := hF.S hS0
    have h12 : jv_I h1 (q 12) T = nI (ms.length - 1) := (hF.aq 12 T (by unfold k_m; omega)).trans h120
    refine jv_iload (q := 134) G 0 dX8_drop_132 rfl rfl ?_
    refine jv_bipush (q := 136) (v := nI 6) G dX8_drop_134 (by decide) rfl ?_
    refine jv_iload (q := 138) G 2 dX8_drop_136 rfl rfl ?_
    refine jv_imulN (q := 139) G dX8_drop_138 rfl ?_
    refine jv_aload_n (q := 140) G 1 dX8_drop_139 rfl rfl rfl ?_
    refine jv_getQ (q := 143) G dX8_drop_140 fl_X8_41 rfl hS.1 (rf_p12 hS) rfl ?_
    refine jv_iload (q := 145) G 2 dX8_drop_143 rfl rfl ?_
    refine jv_iald (q := 146) G dX8_drop_145 (rf_a12 hS) rfl (by omega) (by decide) h12 rfl ?_
    refine jv_iaddN (q := 147) G dX8_drop_146 rfl ?_
    refine jv_icmp_geN (q := 150) (tgt := 166) G dX8_drop_147 (by decide) rfl (by omega) (by omega) (fun c1 => ?_) (fun c1 => ?_)
    · omega
    · refine jv_aload_n (q := 151) G 1 dX8_drop_150 rfl rfl rfl ?_
      refine jv_iload (q := 153) G 0 dX8_drop_151 rfl rfl ?_
      refine jv_iconst (q := 154) (v := nI 1) G dX8_drop_153 (by decide) rfl ?_
      refine jv_iaddN (q := 155) G dX8_drop_154 rfl ?_
      refine jv_iload (q := 157) G 0 dX8_drop_155 rfl rfl ?_
      refine jv_callV (q := 160) (As := [.int (nI ((6 * T + i) + 1)), .int (nI (6 * T + i))]) (rest := []) G Z ml_X8_140 (r_moveMember hlt hS (by omega) (by omega)) hS.1 dX8_drop_157 rfl (by decide) (by decide) (by decide) (by decide) (Nat.le_of_ble_eq_true rfl) rfl rfl (fun v3 h2 y4 => ?_) (fun _ _ hx => hx.elim)
      obtain ⟨rfl, hFm, hMm⟩ := y4
      show jv_V E 9 h2 0 0 Q 160 [(8, .int (nI (6 * T + i))), (0, .ref x), (6, .int (nI T))] []
      refine jv_iinc (q := 163) (lo' := [(8, .int (nI (6 * T + i + 1))), (0, .ref x), (6, .int (nI T))]) (v := nI (6 * T + i + 1)) G 0 dX8_drop_160 rfl (nI_1 (6 * T + i)) (by decide) rfl rfl ?_
      refine jv_goto (q := 132) G dX8_drop_163 (by decide) ?_
      show jv_V E 9 h2 0 0 Q 132 [(8, .int (nI (6 * T + (i + 1)))), (0, .ref x), (6, .int (nI T))] []
      refine jv_lo [0, 1, 2] (lo' := [(8, .int (nI (6 * T + (i + 1)))), (0, .ref x), (6, .int (nI T))]) rfl ?_
      have hF2 := hF.tr (hFm.mono (W' := (fun k j => k_m k ∧ 6 * T ≤ j ∧ j < 6 * T + 6)) (X' := (fun _ => False)) (fun k' j o => ⟨o.1, by have := o.2; omega, by have := o.2; omega⟩) (fun _ z => z))
      have hne : ∀ j m, j ≠ i → rf_M q h1 (6 * T + j) m → rf_M q h2 (6 * T + j) m := fun j m hj r => hFm.M (fun k' j' o z => by have := o.2; have := z.2; omega) r
      refine ih (i + 1) _ (by omega) (by omega) hF2 (fun j m hj ht => ?_) (fun j m hj ht => hne j m (by omega) (hB j m (by omega) ht))
      by_cases hji : j = i
      · subst hji
        rw [er_ge hdi] at ht
        exact hMm m (hB (j + 1) m (by omega) ht)
      · exact hne j m hji (hA j m (by omega) ht)
set_option maxHeartbeats 4000000 in
set_option maxRecDepth 100000 in
theorem r_drop {lA : Launch} (hlt : lA.stackTraces = false) {D : jv_D} {base : Nat} {x : Nat} {q : Nat → Nat} {h : jv_H} {M : mA} {e n w a s : Int32} (hR : rf_R x q h M) : jv_Met lA D base yX8_drop (.code yX8_drop cX8_drop 9 (some .boolean)) 3 0 0 [.ref x, .int e, .int n, .int w, .int a, .int s] h (pO x q h (m_dr M e n w a s)) jv_no := by
  refine jv_ofV (lo := [(0, .ref x), (1, .int e), (2, .int n), (3, .int w), (4, .int a), (5, .int s)]) hlt (by decide) (Nat.le_of_ble_eq_true rfl) rfl (fun E hEl hEd hEz Z G hr ht hnm => ?_)
  subst hEl; subst hEd; subst hEz
  obtain ⟨hS, ⟨hn8, hn⟩, ⟨hm12, hm⟩, hD, hV, hCs⟩ := id hR
  have hS0 := hS
  have hrs : rs x q h h := rs.rf
  have hsc : sc x q h h := sc.rf
  have hop := opF_lt M e
  refine jv_aload_n (q := 1) G 0 dX8_drop_0 rfl rfl rfl ?_
  refine jv_aload_n (q := 2) G 0 dX8_drop_1 rfl rfl rfl ?_
  refine jv_iload_n (q := 3) G 1 dX8_drop_2 rfl rfl rfl ?_
  refine jv_callV_I (q := 6) (h1 := h) (As := [.int e]) (rest := [.ref x]) (ce' := 0) (sl' := 0) (r := nI (m_opF M e)) G Z ml_X8_143 (r_openFault hlt hR) hS.1 dX8_drop_3 rfl (by decide) (by decide) (by decide) (by decide) (Nat.le_of_ble_eq_true rfl) rfl rfl rfl rfl ?_
  refine jv_putI (q := 9) G dX8_drop_6 fl_X8_122 rfl hS.1 rfl ?_
  have hr1 : rs x q h (jv_wI h x 0 (nI (m_opF M e))) := rs.rf.wI (nI (m_opF M e)) (Or.inl ⟨rfl, Or.inl rfl⟩)
  have hth : jv_I (jv_wI h x 0 (nI (m_opF M e))) x 0 = (nI (m_opF M e)) := jv_I_self _ _ _ _
  have hR := hr1.R hR
  have hrs := hrs.tr hr1
  generalize jv_wI h x 0 (nI (m_opF M e)) = h1 at hth hR hrs ⊢
  obtain ⟨hS, ⟨hn8, hn⟩, ⟨hm12, hm⟩, hD, hV, hCs⟩ := id hR
  have hsc : sc x q h1 h1 := sc.rf
  refine jv_aload_n (q := 10) G 0 dX8_drop_9 rfl rfl rfl ?_
  refine jv_getI (q := 13) G dX8_drop_10 fl_X8_122 rfl hS.1 hth rfl ?_
  refine jv_if_leN (q := 16) (tgt := 18) G dX8_drop_13 (by decide) rfl (by omega) (fun c2 => ?_) (fun c2 => ?_)
  · obtain ⟨k_e, hke, eke, zke, hse⟩ := opF_0 c2 (by omega)
    have e0 := c2
    subst eke
    rw [e0] at hth
    have hE := (hD k_e (by omega)).2
    have hl10 := hE.2.1
    refine jv_aload_n (q := 19) G 0 dX8_drop_18 rfl rfl rfl ?_
    refine jv_iload_n (q := 20) G 1 dX8_drop_19 rfl rfl rfl ?_
    refine jv_iload_n (q := 21) G 2 dX8_drop_20 rfl rfl rfl ?_
    refine jv_callV_I (q := 24) (h1 := h1) (As := [.int (nI k_e), .int n]) (rest := []) (ce' := 0) (sl' := 0) (r := jv_oN ((m_at (ma_t M k_e) n).map (fun k => 10 * k_e + k))) G Z ml_X8_151 (r_at hlt (hsc.S hS) (by omega) (hsc.E hS hE)) hS.1 dX8_drop_21 rfl (by decide) (by decide) (by decide) (by decide) (Nat.le_of_ble_eq_true rfl) rfl rfl rfl rfl ?_
    rcases Option.eq_none_or_eq_some (m_at (ma_t M k_e) n) with hk5 | ⟨k3, hk5⟩
    · refine jv_topI (y := (-1)) (by rw [hk5]; rfl) ?_
      refine jv_istore (q := 26) (lo' := [(6, .int (-1)), (0, .ref x), (1, .int (nI k_e)), (2, .int n), (3, .int w), (4, .int a), (5, .int s)]) G dX8_drop_24 (by decide) rfl rfl ?_
      refine jv_iload (q := 28) G 0 dX8_drop_26 rfl rfl ?_
      refine jv_iconst (q := 29) (v := (-1)) G dX8_drop_28 (by decide) rfl ?_
      refine jv_icmp_eq (q := 32) (tgt := 41) G dX8_drop_29 (by decide) rfl (fun c6 => ?_) (fun c6 => ?_)
      · refine jv_iconst (q := 42) (v := nI 0) G dX8_drop_41 (by decide) rfl ?_
        refine jv_topI (y := jv_bI false) rfl ?_
        refine jv_zret G hr dX8_drop_42 (Nat.le_of_ble_eq_true rfl) (Nat.le_of_ble_eq_true rfl) ?_
        refine pO.no (M := M) hS0 ?_ rfl hth hR hrs
        exact m_opT_none zke hse (by assumption)
      · exact absurd rfl c6
    · refine jv_topI (y := nI (10 * k_e + k3)) (by rw [hk5]; rfl) ?_
      obtain ⟨t4, ht4, nt4, lt4⟩ := m_at_some hk5
      have Tt4 := (hE.2.2 k3 t4 ht4).1
      have Ot4 := (hE.2.2 k3 t4 ht4).2
      have Lt4 := hE.2.1
      have Bt4n := Ot4.1; have Bt4k := Ot4.2.1
      refine jv_istore (q := 26) (lo' := [(6, .int (nI (10 * k_e + k3))), (0, .ref x), (1, .int (nI k_e)), (2, .int n), (3, .int w), (4, .int a), (5, .int s)]) G dX8_drop_24 (by decide) rfl rfl ?_
      refine jv_iload (q := 28) G 0 dX8_drop_26 rfl rfl ?_
      refine jv_iconst (q := 29) (v := (-1)) G dX8_drop_28 (by decide) rfl ?_
      refine jv_icmp_eq (q := 32) (tgt := 41) G dX8_drop_29 (by decide) rfl (fun c7 => ?_) (fun c7 => ?_)
      · exact absurd c7 (jv_nI_m1 (by omega))
      · refine jv_iload_n (q := 33) G 4 dX8_drop_32 rfl rfl rfl ?_
        refine jv_if_lt (q := 36) (tgt := 41) G dX8_drop_33 (by decide) rfl (fun c8 => ?_) (fun c8 => ?_)
        · refine jv_iconst (q := 42) (v := nI 0) G dX8_drop_41 (by decide) rfl ?_
          refine jv_topI (y := jv_bI false) rfl ?_
          refine jv_zret G hr dX8_drop_42 (Nat.le_of_ble_eq_true rfl) (Nat.le_of_ble_eq_true rfl) ?_
          refine pO.no (M := M) hS0 ?_ rfl hth hR hrs
          unfold m_dr
          rw [m_opT_yes zke hse (by assumption) ht4]
          first
            | exact if_pos (Or.inl (by assumption))
            | exact if_pos (Or.inr (by assumption))
            | (rw [if_neg (by rintro (z | z) <;> contradiction), if_neg (by assumption)]; simp only [*, if_true, if_false, Bool.false_eq_true, reduceIte, Bool.and_true, Bool.and_false, Bool.true_and, Bool.false_and, Bool.not_true, Bool.not_false, Bool.true_or, Bool.or_true, Bool.false_or, Option.isNone_some, Option.isNone_none, decide_true, decide_false]; done)
        · refine jv_iload_n (q := 37) G 4 dX8_drop_36 rfl rfl rfl ?_
          refine jv_iconst (q := 38) (v := nI 2) G dX8_drop_37 (by decide) rfl ?_
          refine jv_icmp_le (q := 41) (tgt := 43) G dX8_drop_38 (by decide) rfl (fun c9 => ?_) (fun c9 => ?_)
          · refine jv_iload_n (q := 44) G 4 dX8_drop_43 rfl rfl rfl ?_
            refine jv_iconst (q := 45) (v := nI 2) G dX8_drop_44 (by decide) rfl ?_
            refine jv_icmp_ne (q := 48) (tgt := 96) G dX8_drop_45 (by decide) rfl (fun c10 => ?_) (fun c10 => ?_)
            · refine jv_aload_n (q := 97) G 1 dX8_drop_96 rfl rfl rfl ?_
              refine jv_iload (q := 99) G 0 dX8_drop_97 rfl rfl ?_
              refine jv_iload_n (q := 100) G 4 dX8_drop_99 rfl rfl rfl ?_
              refine jv_iload (q := 102) G 5 dX8_drop_100 rfl rfl ?_
              refine jv_iload (q := 104) G 6 dX8_drop_102 rfl rfl ?_
              refine jv_callV_I (q := 107) (h1 := h1) (As := [.int (nI (10 * k_e + k3)), .int w, .int a, .int s]) (rest := []) (ce' := 0) (sl' := 0) (r := jv_oN ((m_own t4 w a s).map (fun j => 6 * (10 * k_e + k3) + j))) G Z ml_X8_155 (r_own hlt (hsc.S hS) (by omega) (hsc.T hS Tt4) Ot4) hS.1 dX8_drop_104 rfl (by decide) (by decide) (by decide) (by decide) (Nat.le_of_ble_eq_true rfl) rfl rfl rfl rfl ?_
              rcases Option.eq_none_or_eq_some (m_own t4 w a s) with hj13 | ⟨j11, hj13⟩
              · refine jv_topI (y := (-1)) (by rw [hj13]; rfl) ?_
                refine jv_istore (q := 109) (lo' := [(7, .int (-1)), (6, .int (nI (10 * k_e + k3))), (0, .ref x), (1, .int (nI k_e)), (2, .int n), (3, .int w), (4, .int a), (5, .int s)]) G dX8_drop_107 (by decide) rfl rfl ?_
                refine jv_iload (q := 111) G 0 dX8_drop_109 rfl rfl ?_
                refine jv_iconst (q := 112) (v := (-1)) G dX8_drop_111 (by decide) rfl ?_
                refine jv_icmp_ne (q := 115) (tgt := 117) G dX8_drop_112 (by decide) rfl (fun c14 => ?_) (fun c14 => ?_)
                · exact absurd rfl c14
                · refine jv_iconst (q := 116) (v := nI 0) G dX8_drop_115 (by decide) rfl ?_
                  refine jv_topI (y := jv_bI false) rfl ?_
                  refine jv_zret G hr dX8_drop_116 (Nat.le_of_ble_eq_true rfl) (Nat.le_of_ble_eq_true rfl) ?_
                  refine pO.no (M := M) hS0 ?_ rfl hth hR hrs
                  unfold m_dr
                  rw [m_opT_yes zke hse (by assumption) ht4]
                  first
                    | exact if_pos (Or.inl (by assumption))
                    | exact if_pos (Or.inr (by assumption))
                    | (rw [if_neg (by rintro (z | z) <;> contradiction), if_neg (by assumption)]; simp only [*, if_true, if_false, Bool.false_eq_true, reduceIte, Bool.and_true, Bool.and_false, Bool.true_and, Bool.false_and, Bool.not_true, Bool.not_false, Bool.true_or, Bool.or_true, Bool.false_or, Option.isNone_some, Option.isNone_none, decide_true, decide_false]; done)
              · refine jv_topI (y := nI (6 * (10 * k_e + k3) + j11)) (by rw [hj13]; rfl) ?_
                obtain ⟨m12, hm12, wm12, nm12, sm12, lm12⟩ := m_own_some hj13
                have Mm12 := rt_m Tt4 hm12
                have Om12 := Ot4.2.2.2.2.2.2 m12 (List.mem_of_getElem? hm12)
                have Lm12 := Ot4.2.2.2.2.2.1
                have Bm12n := Om12.1; have Bm12s := Om12.2.1; have Bm12a := Om12.2.2.1
                refine jv_istore (q := 109) (lo' := [(7, .int (nI (6 * (10 * k_e + k3) + j11))), (6, .int (nI (10 * k_e + k3))), (0, .ref x), (1, .int (nI k_e)), (2, .int n), (3, .int w), (4, .int a), (5, .int s)]) G dX8_drop_107 (by decide) rfl rfl ?_
                refine jv_iload (q := 111) G 0 dX8_drop_109 rfl rfl ?_
                refine jv_iconst (q := 112) (v := (-1)) G dX8_drop_111 (by decide) rfl ?_
                refine jv_icmp_ne (q := 115) (tgt := 117) G dX8_drop_112 (by decide) rfl (fun c15 => ?_) (fun c15 => ?_)
                · refine jv_aload_n (q := 118) G 2 dX8_drop_117 rfl rfl rfl ?_
                  refine jv_getQ (q := 121) G dX8_drop_118 fl_X8_41 rfl hS.1 (rf_p12 hS) rfl ?_
                  refine jv_iload (q := 123) G 1 dX8_drop_121 rfl rfl ?_
                  refine jv_dup2 (q := 124) G dX8_drop_123 rfl rfl rfl ?_
                  refine jv_iald (q := 125) G dX8_drop_124 (rf_a12 hS) rfl (by omega) (by decide) (rt_12 (hsc.T hS Tt4)) rfl ?_
                  refine jv_iconst (q := 126) (v := nI 1) G dX8_drop_125 (by decide) rfl ?_
                  refine jv_isubN (q := 127) G dX8_drop_126 (by omega) rfl ?_
                  refine jv_iast (q := 128) G dX8_drop_127 (rf_a12 hS) rfl (by omega) (by decide) rfl ?_
                  refine jv_iload (q := 130) G 0 dX8_drop_128 rfl rfl ?_
                  refine jv_istore (q := 132) (lo' := [(8, .int (nI (6 * (10 * k_e + k3) + j11))), (7, .int (nI (6 * (10 * k_e + k3) + j11))), (6, .int (nI (10 * k_e + k3))), (0, .ref x), (1, .int (nI k_e)), (2, .int n), (3, .int w), (4, .int a), (5, .int s)]) G dX8_drop_130 (by decide) rfl rfl ?_
                  refine jv_lo [0, 3, 2] (lo' := [(8, .int (nI (6 * (10 * k_e + k3) + j11))), (0, .ref x), (6, .int (nI (10 * k_e + k3)))]) rfl ?_
                  have hl6 := Ot4.2.2.2.2.2.1
                  have hF1 := FW.rf.wq (W := fun k j => (k = 12 ∧ j = 10 * k_e + k3) ∨ (k_m k ∧ 6 * (10 * k_e + k3) ≤ j ∧ j < 6 * (10 * k_e + k3) + 6)) (X := xcr) hS (k := 12) (j := 10 * k_e + k3) (by decide) rfl (Or.inl ⟨rfl, rfl⟩) (nI ((mt_m t4).length - 1))
                  have hS1 := hF1.S hS
                  have p12 : jv_I (jv_wI h1 (q 12) (10 * k_e + k3) (nI (((mt_m t4).length) - 1))) (q 12) (10 * k_e + k3) = nI ((mt_m t4).length - 1) := jv_I_self _ _ _ _
                  have p0 : jv_I (jv_wI h1 (q 12) (10 * k_e + k3) (nI (((mt_m t4).length) - 1))) x 0 = nI 0 := (xI_q hS (by decide) rfl _ _ _).trans hth
                  have p2 : jv_I (jv_wI h1 (q 12) (10 * k_e + k3) (nI (((mt_m t4).length) - 1))) (q 2) k_e = jv_bI false := ((qI_q hS (by decide) rfl (by decide) rfl _ _ _).trans (if_neg (fun e => absurd e.1 (by decide)))).trans ((hD k_e (by omega)).1.trans (by rw [hse]))
                  have pM : ∀ j m, (mt_m t4)[j]? = some m → rf_M q (jv_wI h1 (q 12) (10 * k_e + k3) (nI (((mt_m t4).length) - 1))) (6 * (10 * k_e + k3) + j) m := fun j m hm => (FW.rf.wq (W := fun k _ => k = 12) (X := xcr) hS (k := 12) (j := 10 * k_e + k3) (by decide) rfl rfl _).M (fun k' j' o z => by unfold o_M k_m at o; omega) (rt_m Tt4 hm)
                  generalize jv_wI h1 (q 12) (10 * k_e + k3) (nI (((mt_m t4).length) - 1)) = ha1 at *
                  refine r_dm_loop hlt G Z hS1 (by omega) lm12 hl6 p12 (fun h2 hF2 hA2 => ?_) ((mt_m t4).length - 1 - j11) j11 _ (by omega) (Nat.le_refl _) FW.rf (fun j m hj hm => pM j m (by rw [er_lt hj] at hm; exact hm)) (fun j m hj hm => pM j m hm)
                  refine jv_iconst (q := 167) (v := nI 1) G dX8_drop_166 (by decide) rfl ?_
                  refine jv_topI (y := jv_bI true) rfl ?_
                  refine jv_zret G hr dX8_drop_167 (Nat.le_of_ble_eq_true rfl) (Nat.le_of_ble_eq_true rfl) ?_
                  have hFb := hF1.tr (hF2.mono (W' := fun k j => (k = 12 ∧ j = 10 * k_e + k3) ∨ (k_m k ∧ 6 * (10 * k_e + k3) ≤ j ∧ j < 6 * (10 * k_e + k3) + 6)) (X' := xcr) (fun k j o => Or.inr o) (fun _ z => z.elim))
                  have hT2 := rf_T.sM (l := (mt_m t4).eraseIdx j11) Tt4 Ot4 hFb (((hF2.aq 12 _ (by unfold k_m; omega)).trans p12).trans (by rw [er_len lm12])) (by rw [er_len lm12]; omega) (fun j m hm => hA2 j m (by have := jv_ltGet hm; rw [er_len lm12] at this; exact this) hm) (fun m hm => Ot4.2.2.2.2.2.2 m (List.mem_of_mem_eraseIdx hm))
                  have hFc := hFb.mono (W' := o_T (10 * k_e + k3)) (X' := xcr) (fun k j w => by unfold k_m at w; unfold o_T k_t k_m; omega) (fun _ z => z)
                  refine pO.mk (th := 0) (r := jv_bI true) (M' := m_put M k_e (false, (ma_t M k_e).set k3 (m_tM t4 ((mt_m t4).eraseIdx j11)))) ?_ rfl ((hF2.ax 0 (fun z => z)).trans p0) (rf_R.ed hR hke hse (hFc.mono (fun k j w => o_T_E (i := k3) (by omega) w) (fun _ z => z)) ((hF2.aq 2 _ (by unfold k_m; omega)).trans p2) (hE.upd lt4 hFc hT2) (fun z => by cases z)) ((hrs.FW hS0).fr.tr hFb.fr)
                  unfold m_dr
                  rw [m_opT_yes zke hse (by assumption) ht4, if_neg (by rintro (z | z) <;> contradiction), if_neg (by assumption)]
                  simp only [*, if_true, if_false, Bool.false_eq_true, reduceIte, Bool.and_true, Bool.and_false, Bool.true_and, Bool.false_and, Bool.not_true, Bool.not_false, Bool.true_or, Bool.or_true, Bool.false_or, Option.isNone_some, Option.isNone_none, decide_true, decide_false]
                · exact absurd c15 (jv_nI_m1 (by omega))
            · subst c10
              refine jv_aload_n (q := 49) G 1 dX8_drop_48 rfl rfl rfl ?_
              refine jv_getQ (q := 52) G dX8_drop_49 fl_X8_13 rfl hS.1 (rf_p3 hS) rfl ?_
              refine jv_iload_n (q := 53) G 2 dX8_drop_52 rfl rfl rfl ?_
              refine jv_dup2 (q := 54) G dX8_drop_53 rfl rfl rfl ?_
              refine jv_iald (q := 55) G dX8_drop_54 (rf_a3 hS) rfl (by omega) (by decide) (hD k_e (by omega)).2.1 rfl ?_
              refine jv_iconst (q := 56) (v := nI 1) G dX8_drop_55 (by decide) rfl ?_
              refine jv_isubN (q := 57) G dX8_drop_56 (by omega) rfl ?_
              refine jv_iast (q := 58) G dX8_drop_57 (rf_a3 hS) rfl (by omega) (by decide) rfl ?_
              refine jv_iload (q := 60) G 0 dX8_drop_58 rfl rfl ?_
              refine jv_istore (q := 62) (lo' := [(7, .int (nI (10 * k_e + k3))), (6, .int (nI (10 * k_e + k3))), (0, .ref x), (1, .int (nI k_e)), (2, .int n), (3, .int (nI 2)), (4, .int a), (5, .int s)]) G dX8_drop_60 (by decide) rfl rfl ?_
              refine jv_lo [0, 2, 3] (lo' := [(7, .int (nI (10 * k_e + k3))), (0, .ref x), (1, .int (nI k_e))]) rfl ?_
              have hF1 := FW.rf.wq (W := w_E k_e) (X := xcr) hS (k := 3) (j := k_e) (by decide) rfl (Or.inl (Or.inl ⟨Or.inr rfl, rfl⟩)) (nI ((ma_t M k_e).length - 1))
              have hS1 := hF1.S hS
              have p3 : jv_I (jv_wI h1 (q 3) k_e (nI (((ma_t M k_e).length) - 1))) (q 3) k_e = nI ((ma_t M k_e).length - 1) := jv_I_self _ _ _ _
              have p0 : jv_I (jv_wI h1 (q 3) k_e (nI (((ma_t M k_e).length) - 1))) x 0 = nI 0 := (xI_q hS (by decide) rfl _ _ _).trans hth
              have p2 : jv_I (jv_wI h1 (q 3) k_e (nI (((ma_t M k_e).length) - 1))) (q 2) k_e = jv_bI false := ((qI_q hS (by decide) rfl (by decide) rfl _ _ _).trans (if_neg (fun e => absurd e.1 (by decide)))).trans ((hD k_e (by omega)).1.trans (by rw [hse]))
              have pT : ∀ j t, (ma_t M k_e)[j]? = some t → rf_T q (jv_wI h1 (q 3) k_e (nI (((ma_t M k_e).length) - 1))) (10 * k_e + j) t := fun j t ht => (FW.rf.wq (W := fun k j => k = 3 ∧ j = k_e) (X := xcr) hS (k := 3) (j := k_e) (by decide) rfl ⟨rfl, rfl⟩ _).T (hE.2.2 j t ht).2 (fun k' j' o z => by unfold o_T k_t k_m at o; omega) (hE.2.2 j t ht).1
              have hok : ∀ t ∈ (ma_t M k_e), mt_ok t := fun t ht => by
                obtain ⟨j, hj⟩ := List.getElem?_of_mem ht
                exact (hE.2.2 j t hj).2
              generalize jv_wI h1 (q 3) k_e (nI (((ma_t M k_e).length) - 1)) = ha1 at *
              refine r_dt_loop hlt G Z hS1 (by omega) lt4 hl10 hok p3 (fun h2 hF2 hA2 => ?_) ((ma_t M k_e).length - 1 - k3) k3 _ (by omega) (Nat.le_refl _) FW.rf (fun j t hj ht => pT j t (by rw [er_lt hj] at ht; exact ht)) (fun j t hj ht => pT j t ht)
              refine jv_iconst (q := 95) (v := nI 1) G dX8_drop_94 (by decide) rfl ?_
              refine jv_topI (y := jv_bI true) rfl ?_
              refine jv_zret G hr dX8_drop_95 (Nat.le_of_ble_eq_true rfl) (Nat.le_of_ble_eq_true rfl) ?_
              have hFb := hF1.tr (hF2.mono (W' := w_E k_e) (X' := xcr) (fun k j o => Or.inl (w_C3 o).2.2) (fun _ z => z.elim))
              have hn3 : ∀ k j, k = 2 ∨ k = 3 → ¬ (fun k j => ∃ i, i < 10 ∧ o_T (10 * k_e + i) k j) k j := fun k j hk z => by have := w_C3 z; omega
              have hE2 : rf_E q h2 k_e ((ma_t M k_e).eraseIdx k3) := ⟨((hF2.aq 3 _ (hn3 _ _ (Or.inr rfl))).trans p3).trans (by rw [er_len lt4]), by rw [er_len lt4]; omega, fun k t' ht => ⟨hA2 k t' (by have := jv_ltGet ht; rw [er_len lt4] at this; exact this) ht, hok t' (List.mem_of_mem_eraseIdx (List.mem_of_getElem? ht))⟩⟩
              refine pO.mk (th := 0) (r := jv_bI true) (M' := m_put M k_e (false, (ma_t M k_e).eraseIdx k3)) ?_ rfl ((hF2.ax 0 (fun z => z)).trans p0) (rf_R.ed hR hke hse hFb ((hF2.aq 2 _ (hn3 _ _ (Or.inl rfl))).trans p2) hE2 (fun z => by cases z)) ((hrs.FW hS0).fr.tr hFb.fr)
              unfold m_dr
              rw [m_opT_yes zke hse (by assumption) ht4, if_neg (by rintro (z | z) <;> first | contradiction | exact absurd z (by decide)), if_pos rfl]
          · refine jv_iconst (q := 42) (v := nI 0) G dX8_drop_41 (by decide) rfl ?_
            refine jv_topI (y := jv_bI false) rfl ?_
            refine jv_zret G hr dX8_drop_42 (Nat.le_of_ble_eq_true rfl) (Nat.le_of_ble_eq_true rfl) ?_
            refine pO.no (M := M) hS0 ?_ rfl hth hR hrs
            unfold m_dr
            rw [m_opT_yes zke hse (by assumption) ht4]
            first
              | exact if_pos (Or.inl (by assumption))
              | exact if_pos (Or.inr (by assumption))
              | (rw [if_neg (by rintro (z | z) <;> contradiction), if_neg (by assumption)]; simp only [*, if_true, if_false, Bool.false_eq_true, reduceIte, Bool.and_true, Bool.and_false, Bool.true_and, Bool.false_and, Bool.not_true, Bool.not_false, Bool.true_or, Bool.or_true, Bool.false_or, Option.isNone_some, Option.isNone_none, decide_true, decide_false]; done)
  · refine jv_iconst (q := 17) (v := nI 0) G dX8_drop_16 (by decide) rfl ?_
    refine jv_topI (y := jv_bI false) rfl ?_
    refine jv_zret G hr dX8_drop_17 (Nat.le_of_ble_eq_true rfl) (Nat.le_of_ble_eq_true rfl) ?_
    refine pO.no (M := M) hS0 ?_ rfl hth hR hrs
    exact m_opT_no c2
