set_option maxHeartbeats 4000000 in
set_option maxRecDepth 100000 in
theorem r_mv1 {E : jv_E} {Q : State → Prop} {x : Nat} {q : Nat → Nat} {h : jv_H} {a b : Nat} (hS0 : rf_S x q h) (hlt : (jv_l E).stackTraces = false) (G : jv_C E cX8_move RX8 6) (Z : jv_rm E = jv_room 4 0 0)  (hK : ∀ h2, FW (fun k _ => k = 40 ∨ k = 41) (fun _ => False) x q h h2 → (∀ j, j < 480 → jv_I h2 (q 40) j = jv_bI false ∧ jv_I h2 (q 41) j = -1) → jv_V E 6 h2 0 0 Q 29 [(0, .ref x), (1, .int (nI a)), (2, .int (nI b))] []) : ∀ (m i : Nat) (h1 : jv_H), i + m = 480 → FW (fun k _ => k = 40 ∨ k = 41) (fun _ => False) x q h h1 → (∀ j, j < i → jv_I h1 (q 40) j = jv_bI false ∧ jv_I h1 (q 41) j = -1) → jv_V E 6 h1 0 0 Q 2 [(3, .int (nI i)), (0, .ref x), (1, .int (nI a)), (2, .int (nI b))] [] := by
  intro m
  induction m with
  | zero =>
    intro i h1 hm hF hz
    have hS := hF.S hS0
    refine jv_iload_n (q := 3) G 0 dX8_move_2 rfl rfl rfl ?_
    refine jv_sipush (q := 6) (v := nI 480) G dX8_move_3 (by decide) rfl ?_
    refine jv_icmp_geN (q := 9) (tgt := 29) G dX8_move_6 (by decide) rfl (by omega) (by omega) (fun c1 => ?_) (fun c1 => ?_)
    · refine jv_lo [1, 2, 3] (lo' := [(0, .ref x), (1, .int (nI a)), (2, .int (nI b))]) rfl ?_
      have em : i = 480 := by omega
      rw [em] at hz
      exact hK _ hF hz
    · omega
  | succ m ih =>
    intro i h1 hm hF hz
    have hS := hF.S hS0
    refine jv_iload_n (q := 3) G 0 dX8_move_2 rfl rfl rfl ?_
    refine jv_sipush (q := 6) (v := nI 480) G dX8_move_3 (by decide) rfl ?_
    refine jv_icmp_geN (q := 9) (tgt := 29) G dX8_move_6 (by decide) rfl (by omega) (by omega) (fun c1 => ?_) (fun c1 => ?_)
    · omega
    · refine jv_aload_n (q := 10) G 1 dX8_move_9 rfl rfl rfl ?_
      refine jv_getQ (q := 13) G dX8_move_10 fl_X8_116 rfl hS.1 (rf_p40 hS) rfl ?_
      refine jv_iload_n (q := 14) G 0 dX8_move_13 rfl rfl rfl ?_
      refine jv_iconst (q := 15) (v := nI 0) G dX8_move_14 (by decide) rfl ?_
      refine jv_topI (y := jv_bI false) rfl ?_
      refine jv_zast (q := 16) G dX8_move_15 (rf_a40 hS) rfl (by omega) (by decide) rfl ?_
      refine jv_aload_n (q := 17) G 1 dX8_move_16 rfl rfl rfl ?_
      refine jv_getQ (q := 20) G dX8_move_17 fl_X8_119 rfl hS.1 (rf_p41 hS) rfl ?_
      refine jv_iload_n (q := 21) G 0 dX8_move_20 rfl rfl rfl ?_
      refine jv_iconst (q := 22) (v := (-1)) G dX8_move_21 (by decide) rfl ?_
      refine jv_iast (q := 23) G dX8_move_22 (rf_a41 hS) rfl (by omega) (by decide) rfl ?_
      refine jv_iinc (q := 26) (lo' := [(3, .int (nI (i + 1))), (0, .ref x), (1, .int (nI a)), (2, .int (nI b))]) (v := nI (i + 1)) G 0 dX8_move_23 rfl (nI_1 i) (by decide) rfl rfl ?_
      refine jv_goto (q := 2) G dX8_move_26 (by decide) ?_
      refine jv_lo [0, 1, 2, 3] (lo' := [(3, .int (nI (i + 1))), (0, .ref x), (1, .int (nI a)), (2, .int (nI b))]) rfl ?_
      have hF1 := hF.wq hS0 (k := 40) (j := i) (by decide) rfl (Or.inl rfl) (jv_bI false)
      have hS1 := hF1.S hS0
      refine ih (i + 1) _ (by omega) (hF1.wq hS0 (k := 41) (by decide) rfl (Or.inr rfl) _) (fun j hj => ?_)
      rw [qI_q hS1 (by decide) rfl (by decide) rfl, if_neg (fun e => absurd e.1 (by decide)), qI_q hS1 (by decide) rfl (by decide) rfl]
      rw [qI_q hS (by decide) rfl (by decide) rfl, qI_q hS (by decide) rfl (by decide) rfl]
      by_cases hji : j = i
      · subst hji; rw [if_pos ⟨rfl, rfl⟩, if_pos ⟨rfl, rfl⟩]; exact ⟨rfl, rfl⟩
      · rw [if_neg (by omega), if_neg (by omega), if_neg (by omega)]; exact hz j (by omega)
set_option maxHeartbeats 4000000 in
set_option maxRecDepth 100000 in
theorem r_mv2 {E : jv_E} {Q : State → Prop} {x : Nat} {q : Nat → Nat} {h : jv_H} {a b : Nat} {A B : List mT} (hS0 : rf_S x q h) (ha : a < 8) (hb : b < 8) (hEA : rf_E q h a A) (hEB : rf_E q h b B) (hVA : rf_V q h a A) (hVB : rf_V q h b B) (huA : m_uq A) (huB : m_uq B) (hkA : ∀ (i : Nat) t, A[i]? = some t → m_uk t) (hkB : ∀ (i : Nat) t, B[i]? = some t → m_uk t) (hlt : (jv_l E).stackTraces = false) (G : jv_C E cX8_move RX8 6) (Z : jv_rm E = jv_room 4 0 0) {t i : Nat} {ta : mT} {s : mS} (ht16 : t < 16) (hat : m_at A (nI t) = some i) (hti : A[i]? = some ta) (hK : ∀ h2, FW (fun k _ => k = 40 ∨ k = 41) (fun _ => False) x q h h2 → rf_tk q h2 b B (m_mvk A B s t 128).1 → rf_wh q h2 a A (m_mvk A B s t 128).2 → jv_V E 6 h2 0 0 Q 93 [(3, .int (nI t)), (0, .ref x), (1, .int (nI a)), (2, .int (nI b))] []) : ∀ (m k : Nat) (h1 : jv_H), k + m = 128 → FW (fun k _ => k = 40 ∨ k = 41) (fun _ => False) x q h h1 → rf_tk q h1 b B (m_mvk A B s t k).1 → rf_wh q h1 a A (m_mvk A B s t k).2 → jv_V E 6 h1 0 0 Q 48 [(5, .int (nI k)), (4, .int (nI (10 * a + i))), (3, .int (nI t)), (0, .ref x), (1, .int (nI a)), (2, .int (nI b))] [] := by
  intro m
  induction m with
  | zero =>
    intro k h1 hm hF htk hwh
    have hS := hF.S hS0
    have hEA1 := hF.E (fun k j o z => by unfold o_E k_t k_m at o; omega) hEA; have hEB1 := hF.E (fun k j o z => by unfold o_E k_t k_m at o; omega) hEB
    have hVA1 := hF.V (fun k j o z => by unfold o_E k_t k_m at o; omega) hVA; have hVB1 := hF.V (fun k j o z => by unfold o_E k_t k_m at o; omega) hVB
    have hla := hEA.2.1
    have hil := jv_ltGet hti
    refine jv_iload (q := 50) G 1 dX8_move_48 rfl rfl ?_
    refine jv_iconst (q := 51) (v := (-1)) G dX8_move_50 (by decide) rfl ?_
    refine jv_icmp_eq (q := 54) (tgt := 93) G dX8_move_51 (by decide) rfl (fun c1 => ?_) (fun c1 => ?_)
    · exact absurd c1 (jv_nI_m1 (by omega))
    · refine jv_iload (q := 56) G 0 dX8_move_54 rfl rfl ?_
      refine jv_sipush (q := 59) (v := nI 128) G dX8_move_56 (by decide) rfl ?_
      refine jv_icmp_geN (q := 62) (tgt := 93) G dX8_move_59 (by decide) rfl (by omega) (by omega) (fun c2 => ?_) (fun c2 => ?_)
      · refine jv_lo [2, 3, 4, 5] (lo' := [(3, .int (nI t)), (0, .ref x), (1, .int (nI a)), (2, .int (nI b))]) rfl ?_
        have em : k = 128 := by omega
        rw [em] at htk hwh
        exact hK _ hF htk hwh
      · omega
  | succ m ih =>
    intro k h1 hm hF htk hwh
    have hS := hF.S hS0
    have hEA1 := hF.E (fun k j o z => by unfold o_E k_t k_m at o; omega) hEA; have hEB1 := hF.E (fun k j o z => by unfold o_E k_t k_m at o; omega) hEB
    have hVA1 := hF.V (fun k j o z => by unfold o_E k_t k_m at o; omega) hVA; have hVB1 := hF.V (fun k j o z => by unfold o_E k_t k_m at o; omega) hVB
    have hla := hEA.2.1
    have hil := jv_ltGet hti
    refine jv_iload (q := 50) G 1 dX8_move_48 rfl rfl ?_
    refine jv_iconst (q := 51) (v := (-1)) G dX8_move_50 (by decide) rfl ?_
    refine jv_icmp_eq (q := 54) (tgt := 93) G dX8_move_51 (by decide) rfl (fun c1 => ?_) (fun c1 => ?_)
    · exact absurd c1 (jv_nI_m1 (by omega))
    · refine jv_iload (q := 56) G 0 dX8_move_54 rfl rfl ?_
      refine jv_sipush (q := 59) (v := nI 128) G dX8_move_56 (by decide) rfl ?_
      refine jv_icmp_geN (q := 62) (tgt := 93) G dX8_move_59 (by decide) rfl (by omega) (by omega) (fun c2 => ?_) (fun c2 => ?_)
      · omega
      · refine jv_aload_n (q := 63) G 3 dX8_move_62 rfl rfl rfl ?_
        refine jv_iload_n (q := 64) G 4 dX8_move_63 rfl rfl rfl ?_
        refine jv_iload_n (q := 65) G 5 dX8_move_64 rfl rfl rfl ?_
        refine jv_iload_n (q := 66) G 2 dX8_move_65 rfl rfl rfl ?_
        refine jv_iload (q := 68) G 1 dX8_move_66 rfl rfl ?_
        refine jv_iload (q := 70) G 0 dX8_move_68 rfl rfl ?_
        refine jv_bipush (q := 72) (v := nI 64) G dX8_move_70 (by decide) rfl ?_
        refine jv_idivN (q := 73) G dX8_move_72 (by omega) (by omega) (by omega) rfl ?_
        refine jv_iload (q := 75) G 0 dX8_move_73 rfl rfl ?_
        refine jv_bipush (q := 77) (v := nI 64) G dX8_move_75 (by decide) rfl ?_
        refine jv_iremN (q := 78) G dX8_move_77 (by omega) (by omega) (by omega) rfl ?_
        refine jv_iconst (q := 79) (v := nI 4) G dX8_move_78 (by decide) rfl ?_
        refine jv_idivN (q := 80) G dX8_move_79 (by omega) (by omega) (by omega) rfl ?_
        refine jv_iload (q := 82) G 0 dX8_move_80 rfl rfl ?_
        refine jv_iconst (q := 83) (v := nI 4) G dX8_move_82 (by decide) rfl ?_
        refine jv_iremN (q := 84) G dX8_move_83 (by omega) (by omega) (by omega) rfl ?_
        refine jv_callV (q := 87) (As := [.int (nI a), .int (nI b), .int (nI t), .int (nI (10 * a + i)), .int (nI (k / 64)), .int (nI ((k % 64) / 4)), .int (nI (k % 4))]) (rest := []) G Z ml_X8_221 (r_moveOne (K := k) (T := (m_mvk A B s t k).1) (V := (m_mvk A B s t k).2) hlt hS ha hb ht16 (by omega) hEA1 hEB1 hVA1 hVB1 htk hti hwh hat huA huB hkA hkB) hS.1 dX8_move_84 rfl (by decide) (by decide) (by decide) (by decide) (Nat.le_of_ble_eq_true rfl) rfl rfl (fun v4 h3 y5 => ?_) (fun _ _ hx => hx.elim)
        obtain ⟨rfl, hFm, htk2, hwh2⟩ := y5
        show jv_V E 6 h3 0 0 Q 87 [(5, .int (nI k)), (4, .int (nI (10 * a + i))), (3, .int (nI t)), (0, .ref x), (1, .int (nI a)), (2, .int (nI b))] []
        refine jv_iinc (q := 90) (lo' := [(5, .int (nI (k + 1))), (4, .int (nI (10 * a + i))), (3, .int (nI t)), (0, .ref x), (1, .int (nI a)), (2, .int (nI b))]) (v := nI (k + 1)) G 0 dX8_move_87 rfl (nI_1 k) (by decide) rfl rfl ?_
        refine jv_goto (q := 48) G dX8_move_90 (by decide) ?_
        refine jv_lo [0, 1, 2, 3, 4, 5] (lo' := [(5, .int (nI (k + 1))), (4, .int (nI (10 * a + i))), (3, .int (nI t)), (0, .ref x), (1, .int (nI a)), (2, .int (nI b))]) rfl ?_
        exact ih (k + 1) _ (by omega) (hF.tr hFm) htk2 hwh2
set_option maxHeartbeats 4000000 in
set_option maxRecDepth 100000 in
theorem r_mv3 {E : jv_E} {Q : State → Prop} {x : Nat} {q : Nat → Nat} {h : jv_H} {a b : Nat} {A B : List mT} (hS0 : rf_S x q h) (ha : a < 8) (hb : b < 8) (hEA : rf_E q h a A) (hEB : rf_E q h b B) (hVA : rf_V q h a A) (hVB : rf_V q h b B) (huA : m_uq A) (huB : m_uq B) (hkA : ∀ (i : Nat) t, A[i]? = some t → m_uk t) (hkB : ∀ (i : Nat) t, B[i]? = some t → m_uk t) (hlt : (jv_l E).stackTraces = false) (G : jv_C E cX8_move RX8 6) (Z : jv_rm E = jv_room 4 0 0)  (hK : ∀ h2, FW (fun k _ => k = 40 ∨ k = 41) (fun _ => False) x q h h2 → rf_tk q h2 b B (m_mvt A B 16).1 → rf_wh q h2 a A (m_mvt A B 16).2 → jv_V E 6 h2 0 0 Q 99 [(0, .ref x)] []) : ∀ (m t : Nat) (h1 : jv_H), t + m = 16 → FW (fun k _ => k = 40 ∨ k = 41) (fun _ => False) x q h h1 → rf_tk q h1 b B (m_mvt A B t).1 → rf_wh q h1 a A (m_mvt A B t).2 → jv_V E 6 h1 0 0 Q 31 [(3, .int (nI t)), (0, .ref x), (1, .int (nI a)), (2, .int (nI b))] [] := by
  intro m
  induction m with
  | zero =>
    intro t h1 hm hF htk hwh
    have hS := hF.S hS0
    have hEA1 := hF.E (fun k j o z => by unfold o_E k_t k_m at o; omega) hEA; have hEB1 := hF.E (fun k j o z => by unfold o_E k_t k_m at o; omega) hEB
    have hVA1 := hF.V (fun k j o z => by unfold o_E k_t k_m at o; omega) hVA; have hVB1 := hF.V (fun k j o z => by unfold o_E k_t k_m at o; omega) hVB
    have hla := hEA.2.1
    refine jv_iload_n (q := 32) G 0 dX8_move_31 rfl rfl rfl ?_
    refine jv_bipush (q := 34) (v := nI 16) G dX8_move_32 (by decide) rfl ?_
    refine jv_icmp_geN (q := 37) (tgt := 99) G dX8_move_34 (by decide) rfl (by omega) (by omega) (fun c1 => ?_) (fun c1 => ?_)
    · refine jv_lo [1] (lo' := [(0, .ref x)]) rfl ?_
      have em : t = 16 := by omega
      rw [em] at htk hwh
      exact hK _ hF htk hwh
    · omega
  | succ m ih =>
    intro t h1 hm hF htk hwh
    have hS := hF.S hS0
    have hEA1 := hF.E (fun k j o z => by unfold o_E k_t k_m at o; omega) hEA; have hEB1 := hF.E (fun k j o z => by unfold o_E k_t k_m at o; omega) hEB
    have hVA1 := hF.V (fun k j o z => by unfold o_E k_t k_m at o; omega) hVA; have hVB1 := hF.V (fun k j o z => by unfold o_E k_t k_m at o; omega) hVB
    have hla := hEA.2.1
    refine jv_iload_n (q := 32) G 0 dX8_move_31 rfl rfl rfl ?_
    refine jv_bipush (q := 34) (v := nI 16) G dX8_move_32 (by decide) rfl ?_
    refine jv_icmp_geN (q := 37) (tgt := 99) G dX8_move_34 (by decide) rfl (by omega) (by omega) (fun c1 => ?_) (fun c1 => ?_)
    · omega
    · refine jv_aload_n (q := 38) G 1 dX8_move_37 rfl rfl rfl ?_
      refine jv_iload_n (q := 39) G 2 dX8_move_38 rfl rfl rfl ?_
      refine jv_iload_n (q := 40) G 0 dX8_move_39 rfl rfl rfl ?_
      refine jv_callV_I (q := 43) (h1 := h1) (As := [.int (nI a), .int (nI t)]) (rest := []) (ce' := 0) (sl' := 0) (r := jv_oN ((m_at A (nI t)).map (fun k => 10 * a + k))) G Z ml_X8_151 (r_at hlt hS ha hEA1) hS.1 dX8_move_40 rfl (by decide) (by decide) (by decide) (by decide) (Nat.le_of_ble_eq_true rfl) rfl rfl rfl rfl ?_
      rcases Option.eq_none_or_eq_some (m_at A (nI t)) with hk4 | ⟨k2, hk4⟩
      · refine jv_topI (y := (-1)) (by rw [hk4]; rfl) ?_
        refine jv_istore (q := 45) (lo' := [(4, .int (-1)), (3, .int (nI t)), (0, .ref x), (1, .int (nI a)), (2, .int (nI b))]) G dX8_move_43 (by decide) rfl rfl ?_
        refine jv_iconst (q := 46) (v := nI 0) G dX8_move_45 (by decide) rfl ?_
        refine jv_istore (q := 48) (lo' := [(5, .int (nI 0)), (4, .int (-1)), (3, .int (nI t)), (0, .ref x), (1, .int (nI a)), (2, .int (nI b))]) G dX8_move_46 (by decide) rfl rfl ?_
        refine jv_iload (q := 50) G 1 dX8_move_48 rfl rfl ?_
        refine jv_iconst (q := 51) (v := (-1)) G dX8_move_50 (by decide) rfl ?_
        refine jv_icmp_eq (q := 54) (tgt := 93) G dX8_move_51 (by decide) rfl (fun c5 => ?_) (fun c5 => ?_)
        · refine jv_iinc (q := 96) (lo' := [(3, .int (nI (t + 1))), (5, .int (nI 0)), (4, .int (-1)), (0, .ref x), (1, .int (nI a)), (2, .int (nI b))]) (v := nI (t + 1)) G 2 dX8_move_93 rfl (nI_1 t) (by decide) rfl rfl ?_
          refine jv_goto (q := 31) G dX8_move_96 (by decide) ?_
          refine jv_lo [0, 3, 4, 5] (lo' := [(3, .int (nI (t + 1))), (0, .ref x), (1, .int (nI a)), (2, .int (nI b))]) rfl ?_
          have e0 : m_mvt A B (t + 1) = m_mvt A B t := mvk_no (ty1_n (by assumption)) 128
          exact ih (t + 1) _ (by omega) hF (by rw [e0]; exact htk) (by rw [e0]; exact hwh)
        · exact absurd rfl c5
      · refine jv_topI (y := nI (10 * a + k2)) (by rw [hk4]; rfl) ?_
        obtain ⟨t3, ht3, nt3, lt3⟩ := m_at_some hk4
        have Tt3 := (hEA1.2.2 k2 t3 ht3).1
        have Ot3 := (hEA1.2.2 k2 t3 ht3).2
        have Lt3 := hEA1.2.1
        have Bt3n := Ot3.1; have Bt3k := Ot3.2.1
        refine jv_istore (q := 45) (lo' := [(4, .int (nI (10 * a + k2))), (3, .int (nI t)), (0, .ref x), (1, .int (nI a)), (2, .int (nI b))]) G dX8_move_43 (by decide) rfl rfl ?_
        refine jv_iconst (q := 46) (v := nI 0) G dX8_move_45 (by decide) rfl ?_
        refine jv_istore (q := 48) (lo' := [(5, .int (nI 0)), (4, .int (nI (10 * a + k2))), (3, .int (nI t)), (0, .ref x), (1, .int (nI a)), (2, .int (nI b))]) G dX8_move_46 (by decide) rfl rfl ?_
        refine jv_lo [0, 1, 2, 3, 4, 5] (lo' := [(5, .int (nI 0)), (4, .int (nI (10 * a + k2))), (3, .int (nI t)), (0, .ref x), (1, .int (nI a)), (2, .int (nI b))]) rfl ?_
        refine r_mv2 (s := m_mvt A B t) hS0 ha hb hEA hEB hVA hVB huA huB hkA hkB hlt G Z (by omega) (by assumption) ht3 (fun h2 hF2 htk2 hwh2 => ?_) 128 0 _ (by omega) hF htk hwh
        refine jv_iinc (q := 96) (lo' := [(3, .int (nI (t + 1))), (0, .ref x), (1, .int (nI a)), (2, .int (nI b))]) (v := nI (t + 1)) G 0 dX8_move_93 rfl (nI_1 t) (by decide) rfl rfl ?_
        refine jv_goto (q := 31) G dX8_move_96 (by decide) ?_
        refine jv_lo [0, 1, 2, 3] (lo' := [(3, .int (nI (t + 1))), (0, .ref x), (1, .int (nI a)), (2, .int (nI b))]) rfl ?_
        exact ih (t + 1) _ (by omega) hF2 htk2 hwh2
set_option maxHeartbeats 4000000 in
set_option maxRecDepth 100000 in
theorem r_move {lA : Launch} (hlt : lA.stackTraces = false) {D : jv_D} {base : Nat} {x : Nat} {q : Nat → Nat} {h : jv_H} {a b : Nat} {A B : List mT} (hS0 : rf_S x q h) (ha : a < 8) (hb : b < 8) (hEA : rf_E q h a A) (hEB : rf_E q h b B) (hVA : rf_V q h a A) (hVB : rf_V q h b B) (huA : m_uq A) (huB : m_uq B) (hkA : ∀ (i : Nat) t, A[i]? = some t → m_uk t) (hkB : ∀ (i : Nat) t, B[i]? = some t → m_uk t) : jv_Met lA D base yX8_move (.code yX8_move cX8_move 6 none) 4 0 0 [.ref x, .int (nI a), .int (nI b)] h (fun v h' => v = none ∧ FW (fun k _ => k = 40 ∨ k = 41) (fun _ => False) x q h h' ∧ rf_tk q h' b B (m_mvt A B 16).1 ∧ rf_wh q h' a A (m_mvt A B 16).2) jv_no := by
  refine jv_ofV (lo := [(0, .ref x), (1, .int (nI a)), (2, .int (nI b))]) hlt (by decide) (Nat.le_of_ble_eq_true rfl) rfl (fun E hEl hEd hEz Z G hr ht hnm => ?_)
  subst hEl; subst hEd; subst hEz
  refine jv_iconst (q := 1) (v := nI 0) G dX8_move_0 (by decide) rfl ?_
  refine jv_istore_n (q := 2) (lo' := [(3, .int (nI 0)), (0, .ref x), (1, .int (nI a)), (2, .int (nI b))]) G dX8_move_1 rfl (by decide) rfl rfl ?_
  refine jv_lo [0, 1, 2, 3] (lo' := [(3, .int (nI 0)), (0, .ref x), (1, .int (nI a)), (2, .int (nI b))]) rfl ?_
  refine r_mv1 hS0 hlt G Z (fun h2 hF2 hz2 => ?_) 480 0 _ (by omega) FW.rf (fun j hj => by omega)
  have htk2 : rf_tk q h2 b B (m_mvt A B 0).1 := fun i t j m hi hj => (hz2 _ (by have := jv_ltGet hi; have := jv_ltGet hj; have := hEB.2.1; have := (hEB.2.2 i t hi).2.2.2.2.2.2.1; omega)).1
  have hwh2 : rf_wh q h2 a A (m_mvt A B 0).2 := fun i t j m hi hj => (hz2 _ (by have := jv_ltGet hi; have := jv_ltGet hj; have := hEA.2.1; have := (hEA.2.2 i t hi).2.2.2.2.2.2.1; omega)).2
  refine jv_iconst (q := 30) (v := nI 0) G dX8_move_29 (by decide) rfl ?_
  refine jv_istore_n (q := 31) (lo' := [(3, .int (nI 0)), (0, .ref x), (1, .int (nI a)), (2, .int (nI b))]) G dX8_move_30 rfl (by decide) rfl rfl ?_
  refine jv_lo [0, 1, 2, 3] (lo' := [(3, .int (nI 0)), (0, .ref x), (1, .int (nI a)), (2, .int (nI b))]) rfl ?_
  refine r_mv3 hS0 ha hb hEA hEB hVA hVB huA huB hkA hkB hlt G Z (fun h3 hF3 htk3 hwh3 => ?_) 16 0 _ (by omega) hF2 htk2 hwh2
  refine jv_vret G hr dX8_move_99 (Nat.le_of_ble_eq_true rfl) (Nat.le_of_ble_eq_true rfl) ?_
  exact ⟨rfl, hF3, htk3, hwh3⟩
