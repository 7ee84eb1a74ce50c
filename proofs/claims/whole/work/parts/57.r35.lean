theorem ed_ok {q : Nat → Nat} {h : jv_H} {e : Nat} {ts : List mT} (hE : rf_E q h e ts) : ∀ t ∈ ts, mt_ok t := fun t ht => by
  obtain ⟨j, hj⟩ := List.getElem?_of_mem ht
  exact (hE.2.2 j t hj).2
theorem stp_16 {A B : List mT} {s : mS} {t K : Nat} (h : ∀ z u, s.2 z = some u → u < 16) : ∀ z u, (m_stp A B s t K).2 z = some u → u < 16 := by
  intro z u hz
  unfold m_stp at hz
  cases hg : m_goal A B s.1 t K with
  | none => rw [hg] at hz; exact h z u hz
  | some v =>
    rw [hg] at hz
    have hz : (if z = 128 * t + K then some v else s.2 z) = some u := hz
    by_cases hc : z = 128 * t + K
    · rw [if_pos hc] at hz
      cases hz
      unfold m_goal at hg
      cases hm : m_km (m_ty1 A t) K with
      | none => rw [hm] at hg; cases hg
      | some m =>
        rw [hm] at hg
        dsimp only at hg
        split at hg
        · cases hg
        · have := (sf_some hg).2.1
          omega
    · rw [if_neg hc] at hz
      exact h z u hz
theorem mvk_16 {A B : List mT} {s : mS} {t : Nat} (h : ∀ z u, s.2 z = some u → u < 16) : ∀ K, ∀ z u, (m_mvk A B s t K).2 z = some u → u < 16
  | 0 => h
  | K + 1 => stp_16 (mvk_16 h K)
theorem mvt_16 {A B : List mT} : ∀ t, ∀ z u, (m_mvt A B t).2 z = some u → u < 16
  | 0 => fun z u h => by cases h
  | t + 1 => mvk_16 (mvt_16 t) 128
set_option maxHeartbeats 4000000 in
set_option maxRecDepth 100000 in
theorem r_cmp_k0 {E : jv_E} {Q : State → Prop} {x : Nat} {q : Nat → Nat} {h : jv_H} {a b : Nat} {A B : List mT} {s : mS} (hS0 : rf_S x q h) (ha : a < 8) (hb : b < 8) (hEA : rf_E q h a A) (hEB : rf_E q h b B) (htk : rf_tk q h b B s.1) (hwh : rf_wh q h a A s.2) (hs16 : ∀ z u, s.2 z = some u → u < 16) (hlt : (jv_l E).stackTraces = false) (G : jv_C E cX8_compare RX8 7) (Z : jv_rm E = jv_room 5 0 0) {t i : Nat} {tx : mT} {L : List mR} (ht16 : t < 16) (hti : A[i]? = some tx) (hnx : mt_n tx = t) (hL : L.length < 1300) (hK : ∀ h2, FW (fun k _ => 34 ≤ k ∧ k ≤ 39) (fun j => j = 33) x q h h2 → rf_D q h2 (L ++ m_dMs s t (some tx) none 128) → jv_I h2 x 33 = nI (L ++ m_dMs s t (some tx) none 128).length → jv_V E 7 h2 0 0 Q 145 [(3, .int (nI t)), (0, .ref x), (1, .int (nI a)), (2, .int (nI b))] []) : ∀ (m k : Nat) (h1 : jv_H), k + m = 128 → FW (fun k _ => 34 ≤ k ∧ k ≤ 39) (fun j => j = 33) x q h h1 → rf_D q h1 (L ++ m_dMs s t (some tx) none k) → jv_I h1 x 33 = nI (L ++ m_dMs s t (some tx) none k).length → jv_V E 7 h1 0 0 Q 100 [(6, .int (nI k)), (3, .int (nI t)), (4, .int (nI (10 * a + i))), (5, .int (-1)), (0, .ref x), (1, .int (nI a)), (2, .int (nI b))] [] := by
  intro m
  induction m with
  | zero =>
    intro k h1 hm hF hD hx
    have hS := hF.S hS0
    have hEA1 := hF.E (fun k j o => wd_E o) hEA; have hEB1 := hF.E (fun k j o => wd_E o) hEB
    have htk1 : rf_tk q h1 b B s.1 := fun i t j m hi hj => (hF.aq 40 _ (by omega)).trans (htk i t j m hi hj)
    have hwh1 : rf_wh q h1 a A s.2 := fun i t j m hi hj => (hF.aq 41 _ (by omega)).trans (hwh i t j m hi hj)
    have hla := hEA.2.1; have hlb := hEB.2.1
    have hil := jv_ltGet hti
    have h18 := dMs_18 (s := s) (t := t) (x := some tx) (y := none) (fun z e => by cases e; exact (hEA.2.2 i tx hti).2) (fun z e => by cases e) (K := k) (by omega)
    refine jv_iload (q := 102) G 2 dX8_compare_100 rfl rfl ?_
    refine jv_iconst (q := 103) (v := (-1)) G dX8_compare_102 (by decide) rfl ?_
    refine jv_icmp_eq (q := 106) (tgt := 145) G dX8_compare_103 (by decide) rfl (fun c1 => ?_) (fun c1 => ?_)
    · exact absurd c1 (jv_nI_m1 (by omega))
    · refine jv_iload (q := 108) G 0 dX8_compare_106 rfl rfl ?_
      refine jv_sipush (q := 111) (v := nI 128) G dX8_compare_108 (by decide) rfl ?_
      refine jv_icmp_geN (q := 114) (tgt := 145) G dX8_compare_111 (by decide) rfl (by omega) (by omega) (fun c2 => ?_) (fun c2 => ?_)
      · refine jv_lo [1, 4, 5, 6] (lo' := [(3, .int (nI t)), (0, .ref x), (1, .int (nI a)), (2, .int (nI b))]) rfl ?_
        have em : k = 128 := by omega
        rw [em] at hD hx
        exact hK _ hF hD hx
      · omega
  | succ m ih =>
    intro k h1 hm hF hD hx
    have hS := hF.S hS0
    have hEA1 := hF.E (fun k j o => wd_E o) hEA; have hEB1 := hF.E (fun k j o => wd_E o) hEB
    have htk1 : rf_tk q h1 b B s.1 := fun i t j m hi hj => (hF.aq 40 _ (by omega)).trans (htk i t j m hi hj)
    have hwh1 : rf_wh q h1 a A s.2 := fun i t j m hi hj => (hF.aq 41 _ (by omega)).trans (hwh i t j m hi hj)
    have hla := hEA.2.1; have hlb := hEB.2.1
    have hil := jv_ltGet hti
    have h18 := dMs_18 (s := s) (t := t) (x := some tx) (y := none) (fun z e => by cases e; exact (hEA.2.2 i tx hti).2) (fun z e => by cases e) (K := k) (by omega)
    refine jv_iload (q := 102) G 2 dX8_compare_100 rfl rfl ?_
    refine jv_iconst (q := 103) (v := (-1)) G dX8_compare_102 (by decide) rfl ?_
    refine jv_icmp_eq (q := 106) (tgt := 145) G dX8_compare_103 (by decide) rfl (fun c1 => ?_) (fun c1 => ?_)
    · exact absurd c1 (jv_nI_m1 (by omega))
    · refine jv_iload (q := 108) G 0 dX8_compare_106 rfl rfl ?_
      refine jv_sipush (q := 111) (v := nI 128) G dX8_compare_108 (by decide) rfl ?_
      refine jv_icmp_geN (q := 114) (tgt := 145) G dX8_compare_111 (by decide) rfl (by omega) (by omega) (fun c2 => ?_) (fun c2 => ?_)
      · omega
      · refine jv_aload_n (q := 115) G 4 dX8_compare_114 rfl rfl rfl ?_
        refine jv_iload_n (q := 116) G 1 dX8_compare_115 rfl rfl rfl ?_
        refine jv_iload (q := 118) G 2 dX8_compare_116 rfl rfl ?_
        refine jv_iload (q := 120) G 3 dX8_compare_118 rfl rfl ?_
        refine jv_iload (q := 122) G 0 dX8_compare_120 rfl rfl ?_
        refine jv_bipush (q := 124) (v := nI 64) G dX8_compare_122 (by decide) rfl ?_
        refine jv_idivN (q := 125) G dX8_compare_124 (by omega) (by omega) (by omega) rfl ?_
        refine jv_iload (q := 127) G 0 dX8_compare_125 rfl rfl ?_
        refine jv_bipush (q := 129) (v := nI 64) G dX8_compare_127 (by decide) rfl ?_
        refine jv_iremN (q := 130) G dX8_compare_129 (by omega) (by omega) (by omega) rfl ?_
        refine jv_iconst (q := 131) (v := nI 4) G dX8_compare_130 (by decide) rfl ?_
        refine jv_idivN (q := 132) G dX8_compare_131 (by omega) (by omega) (by omega) rfl ?_
        refine jv_iload (q := 134) G 0 dX8_compare_132 rfl rfl ?_
        refine jv_iconst (q := 135) (v := nI 4) G dX8_compare_134 (by decide) rfl ?_
        refine jv_iremN (q := 136) G dX8_compare_135 (by omega) (by omega) (by omega) rfl ?_
        refine jv_callV (q := 139) (As := [.int (nI t), .int (nI (10 * a + i)), .int (-1), .int (nI (k / 64)), .int (nI ((k % 64) / 4)), .int (nI (k % 4))]) (rest := []) G Z ml_X8_239 (r_tellMember0 (K := k) (L := (L ++ m_dMs s t (some tx) none k)) hlt hS ha hb ht16 (by omega) hEA1 hEB1 htk1 hwh1 hs16 hD hx (by simp only [List.length_append]; omega) hti hnx) hS.1 dX8_compare_136 rfl (by decide) (by decide) (by decide) (by decide) (Nat.le_of_ble_eq_true rfl) rfl rfl (fun v4 h3 y5 => ?_) (fun _ _ hx => hx.elim)
        obtain ⟨rfl, hFm, hD2, hx2⟩ := y5
        show jv_V E 7 h3 0 0 Q 139 [(6, .int (nI k)), (3, .int (nI t)), (4, .int (nI (10 * a + i))), (5, .int (-1)), (0, .ref x), (1, .int (nI a)), (2, .int (nI b))] []
        refine jv_iinc (q := 142) (lo' := [(6, .int (nI (k + 1))), (3, .int (nI t)), (4, .int (nI (10 * a + i))), (5, .int (-1)), (0, .ref x), (1, .int (nI a)), (2, .int (nI b))]) (v := nI (k + 1)) G 0 dX8_compare_139 rfl (nI_1 k) (by decide) rfl rfl ?_
        refine jv_goto (q := 100) G dX8_compare_142 (by decide) ?_
        refine jv_lo [0, 1, 2, 3, 4, 5, 6] (lo' := [(6, .int (nI (k + 1))), (3, .int (nI t)), (4, .int (nI (10 * a + i))), (5, .int (-1)), (0, .ref x), (1, .int (nI a)), (2, .int (nI b))]) rfl ?_
        have eL : (L ++ m_dMs s t (some tx) none k) ++ m_dM s t k (some tx) none = (L ++ m_dMs s t (some tx) none (k + 1)) := by rw [m_dMs, List.append_assoc]
        rw [eL] at hD2 hx2
        exact ih (k + 1) _ (by omega) (hF.tr hFm) hD2 hx2
set_option maxHeartbeats 4000000 in
set_option maxRecDepth 100000 in
theorem r_cmp_k1 {E : jv_E} {Q : State → Prop} {x : Nat} {q : Nat → Nat} {h : jv_H} {a b : Nat} {A B : List mT} {s : mS} (hS0 : rf_S x q h) (ha : a < 8) (hb : b < 8) (hEA : rf_E q h a A) (hEB : rf_E q h b B) (htk : rf_tk q h b B s.1) (hwh : rf_wh q h a A s.2) (hs16 : ∀ z u, s.2 z = some u → u < 16) (hlt : (jv_l E).stackTraces = false) (G : jv_C E cX8_compare RX8 7) (Z : jv_rm E = jv_room 5 0 0) {t i : Nat} {tx : mT} {L : List mR} (ht16 : t < 16) (hti : A[i]? = some tx) (hnx : mt_n tx = t) (hL : L.length < 1300) {i2 : Nat} {ty : mT} (hty : B[i2]? = some ty) (hny : mt_n ty = t) (hK : ∀ h2, FW (fun k _ => 34 ≤ k ∧ k ≤ 39) (fun j => j = 33) x q h h2 → rf_D q h2 (L ++ m_dMs s t (some tx) (some ty) 128) → jv_I h2 x 33 = nI (L ++ m_dMs s t (some tx) (some ty) 128).length → jv_V E 7 h2 0 0 Q 145 [(3, .int (nI t)), (0, .ref x), (1, .int (nI a)), (2, .int (nI b))] []) : ∀ (m k : Nat) (h1 : jv_H), k + m = 128 → FW (fun k _ => 34 ≤ k ∧ k ≤ 39) (fun j => j = 33) x q h h1 → rf_D q h1 (L ++ m_dMs s t (some tx) (some ty) k) → jv_I h1 x 33 = nI (L ++ m_dMs s t (some tx) (some ty) k).length → jv_V E 7 h1 0 0 Q 100 [(6, .int (nI k)), (3, .int (nI t)), (4, .int (nI (10 * a + i))), (5, .int (nI (10 * b + i2))), (0, .ref x), (1, .int (nI a)), (2, .int (nI b))] [] := by
  intro m
  induction m with
  | zero =>
    intro k h1 hm hF hD hx
    have hS := hF.S hS0
    have hEA1 := hF.E (fun k j o => wd_E o) hEA; have hEB1 := hF.E (fun k j o => wd_E o) hEB
    have htk1 : rf_tk q h1 b B s.1 := fun i t j m hi hj => (hF.aq 40 _ (by omega)).trans (htk i t j m hi hj)
    have hwh1 : rf_wh q h1 a A s.2 := fun i t j m hi hj => (hF.aq 41 _ (by omega)).trans (hwh i t j m hi hj)
    have hla := hEA.2.1; have hlb := hEB.2.1
    have hil := jv_ltGet hti
    have hil2 := jv_ltGet hty
    have h18 := dMs_18 (s := s) (t := t) (x := some tx) (y := (some ty)) (fun z e => by cases e; exact (hEA.2.2 i tx hti).2) (fun z e => by cases e; exact (hEB.2.2 i2 ty hty).2) (K := k) (by omega)
    refine jv_iload (q := 102) G 2 dX8_compare_100 rfl rfl ?_
    refine jv_iconst (q := 103) (v := (-1)) G dX8_compare_102 (by decide) rfl ?_
    refine jv_icmp_eq (q := 106) (tgt := 145) G dX8_compare_103 (by decide) rfl (fun c1 => ?_) (fun c1 => ?_)
    · exact absurd c1 (jv_nI_m1 (by omega))
    · refine jv_iload (q := 108) G 0 dX8_compare_106 rfl rfl ?_
      refine jv_sipush (q := 111) (v := nI 128) G dX8_compare_108 (by decide) rfl ?_
      refine jv_icmp_geN (q := 114) (tgt := 145) G dX8_compare_111 (by decide) rfl (by omega) (by omega) (fun c2 => ?_) (fun c2 => ?_)
      · refine jv_lo [1, 4, 5, 6] (lo' := [(3, .int (nI t)), (0, .ref x), (1, .int (nI a)), (2, .int (nI b))]) rfl ?_
        have em : k = 128 := by omega
        rw [em] at hD hx
        exact hK _ hF hD hx
      · omega
  | succ m ih =>
    intro k h1 hm hF hD hx
    have hS := hF.S hS0
    have hEA1 := hF.E (fun k j o => wd_E o) hEA; have hEB1 := hF.E (fun k j o => wd_E o) hEB
    have htk1 : rf_tk q h1 b B s.1 := fun i t j m hi hj => (hF.aq 40 _ (by omega)).trans (htk i t j m hi hj)
    have hwh1 : rf_wh q h1 a A s.2 := fun i t j m hi hj => (hF.aq 41 _ (by omega)).trans (hwh i t j m hi hj)
    have hla := hEA.2.1; have hlb := hEB.2.1
    have hil := jv_ltGet hti
    have hil2 := jv_ltGet hty
    have h18 := dMs_18 (s := s) (t := t) (x := some tx) (y := (some ty)) (fun z e => by cases e; exact (hEA.2.2 i tx hti).2) (fun z e => by cases e; exact (hEB.2.2 i2 ty hty).2) (K := k) (by omega)
    refine jv_iload (q := 102) G 2 dX8_compare_100 rfl rfl ?_
    refine jv_iconst (q := 103) (v := (-1)) G dX8_compare_102 (by decide) rfl ?_
    refine jv_icmp_eq (q := 106) (tgt := 145) G dX8_compare_103 (by decide) rfl (fun c1 => ?_) (fun c1 => ?_)
    · exact absurd c1 (jv_nI_m1 (by omega))
    · refine jv_iload (q := 108) G 0 dX8_compare_106 rfl rfl ?_
      refine jv_sipush (q := 111) (v := nI 128) G dX8_compare_108 (by decide) rfl ?_
      refine jv_icmp_geN (q := 114) (tgt := 145) G dX8_compare_111 (by decide) rfl (by omega) (by omega) (fun c2 => ?_) (fun c2 => ?_)
      · omega
      · refine jv_aload_n (q := 115) G 4 dX8_compare_114 rfl rfl rfl ?_
        refine jv_iload_n (q := 116) G 1 dX8_compare_115 rfl rfl rfl ?_
        refine jv_iload (q := 118) G 2 dX8_compare_116 rfl rfl ?_
        refine jv_iload (q := 120) G 3 dX8_compare_118 rfl rfl ?_
        refine jv_iload (q := 122) G 0 dX8_compare_120 rfl rfl ?_
        refine jv_bipush (q := 124) (v := nI 64) G dX8_compare_122 (by decide) rfl ?_
        refine jv_idivN (q := 125) G dX8_compare_124 (by omega) (by omega) (by omega) rfl ?_
        refine jv_iload (q := 127) G 0 dX8_compare_125 rfl rfl ?_
        refine jv_bipush (q := 129) (v := nI 64) G dX8_compare_127 (by decide) rfl ?_
        refine jv_iremN (q := 130) G dX8_compare_129 (by omega) (by omega) (by omega) rfl ?_
        refine jv_iconst (q := 131) (v := nI 4) G dX8_compare_130 (by decide) rfl ?_
        refine jv_idivN (q := 132) G dX8_compare_131 (by omega) (by omega) (by omega) rfl ?_
        refine jv_iload (q := 134) G 0 dX8_compare_132 rfl rfl ?_
        refine jv_iconst (q := 135) (v := nI 4) G dX8_compare_134 (by decide) rfl ?_
        refine jv_iremN (q := 136) G dX8_compare_135 (by omega) (by omega) (by omega) rfl ?_
        refine jv_callV (q := 139) (As := [.int (nI t), .int (nI (10 * a + i)), .int (nI (10 * b + i2)), .int (nI (k / 64)), .int (nI ((k % 64) / 4)), .int (nI (k % 4))]) (rest := []) G Z ml_X8_239 (r_tellMember1 (K := k) (L := (L ++ m_dMs s t (some tx) (some ty) k)) hlt hS ha hb ht16 (by omega) hEA1 hEB1 htk1 hwh1 hs16 hD hx (by simp only [List.length_append]; omega) hti hnx hty hny) hS.1 dX8_compare_136 rfl (by decide) (by decide) (by decide) (by decide) (Nat.le_of_ble_eq_true rfl) rfl rfl (fun v4 h3 y5 => ?_) (fun _ _ hx => hx.elim)
        obtain ⟨rfl, hFm, hD2, hx2⟩ := y5
        show jv_V E 7 h3 0 0 Q 139 [(6, .int (nI k)), (3, .int (nI t)), (4, .int (nI (10 * a + i))), (5, .int (nI (10 * b + i2))), (0, .ref x), (1, .int (nI a)), (2, .int (nI b))] []
        refine jv_iinc (q := 142) (lo' := [(6, .int (nI (k + 1))), (3, .int (nI t)), (4, .int (nI (10 * a + i))), (5, .int (nI (10 * b + i2))), (0, .ref x), (1, .int (nI a)), (2, .int (nI b))]) (v := nI (k + 1)) G 0 dX8_compare_139 rfl (nI_1 k) (by decide) rfl rfl ?_
        refine jv_goto (q := 100) G dX8_compare_142 (by decide) ?_
        refine jv_lo [0, 1, 2, 3, 4, 5, 6] (lo' := [(6, .int (nI (k + 1))), (3, .int (nI t)), (4, .int (nI (10 * a + i))), (5, .int (nI (10 * b + i2))), (0, .ref x), (1, .int (nI a)), (2, .int (nI b))]) rfl ?_
        have eL : (L ++ m_dMs s t (some tx) (some ty) k) ++ m_dM s t k (some tx) (some ty) = (L ++ m_dMs s t (some tx) (some ty) (k + 1)) := by rw [m_dMs, List.append_assoc]
        rw [eL] at hD2 hx2
        exact ih (k + 1) _ (by omega) (hF.tr hFm) hD2 hx2
set_option maxHeartbeats 4000000 in
set_option maxRecDepth 100000 in
theorem r_cmp_t {E : jv_E} {Q : State → Prop} {x : Nat} {q : Nat → Nat} {h : jv_H} {a b : Nat} {A B : List mT} {s : mS} (hS0 : rf_S x q h) (ha : a < 8) (hb : b < 8) (hEA : rf_E q h a A) (hEB : rf_E q h b B) (htk : rf_tk q h b B s.1) (hwh : rf_wh q h a A s.2) (hs16 : ∀ z u, s.2 z = some u → u < 16) (hlt : (jv_l E).stackTraces = false) (G : jv_C E cX8_compare RX8 7) (Z : jv_rm E = jv_room 5 0 0) (hK : ∀ h2, FW (fun k _ => 34 ≤ k ∧ k ≤ 39) (fun j => j = 33) x q h h2 → rf_D q h2 (m_df A B s 16) → jv_I h2 x 33 = nI (m_df A B s 16).length → jv_V E 7 h2 0 0 Q 151 [(0, .ref x)] []) : ∀ (m t : Nat) (h1 : jv_H), t + m = 16 → FW (fun k _ => 34 ≤ k ∧ k ≤ 39) (fun j => j = 33) x q h h1 → rf_D q h1 (m_df A B s t) → jv_I h1 x 33 = nI (m_df A B s t).length → jv_V E 7 h1 0 0 Q 13 [(3, .int (nI t)), (0, .ref x), (1, .int (nI a)), (2, .int (nI b))] [] := by
  intro m
  induction m with
  | zero =>
    intro t h1 hm hF hD hx
    have hS := hF.S hS0
    have hEA1 := hF.E (fun k j o => wd_E o) hEA; have hEB1 := hF.E (fun k j o => wd_E o) hEB
    have htk1 : rf_tk q h1 b B s.1 := fun i t j m hi hj => (hF.aq 40 _ (by omega)).trans (htk i t j m hi hj)
    have hwh1 : rf_wh q h1 a A s.2 := fun i t j m hi hj => (hF.aq 41 _ (by omega)).trans (hwh i t j m hi hj)
    have hla := hEA.2.1; have hlb := hEB.2.1
    have h23 := df_23 (s := s) (ed_ok hEA) (ed_ok hEB) t
    refine jv_iload_n (q := 14) G 0 dX8_compare_13 rfl rfl rfl ?_
    refine jv_bipush (q := 16) (v := nI 16) G dX8_compare_14 (by decide) rfl ?_
    refine jv_icmp_geN (q := 19) (tgt := 151) G dX8_compare_16 (by decide) rfl (by omega) (by omega) (fun c1 => ?_) (fun c1 => ?_)
    · refine jv_lo [1] (lo' := [(0, .ref x)]) rfl ?_
      have em : t = 16 := by omega
      rw [em] at hD hx
      exact hK _ hF hD hx
    · omega
  | succ m ih =>
    intro t h1 hm hF hD hx
    have hS := hF.S hS0
    have hEA1 := hF.E (fun k j o => wd_E o) hEA; have hEB1 := hF.E (fun k j o => wd_E o) hEB
    have htk1 : rf_tk q h1 b B s.1 := fun i t j m hi hj => (hF.aq 40 _ (by omega)).trans (htk i t j m hi hj)
    have hwh1 : rf_wh q h1 a A s.2 := fun i t j m hi hj => (hF.aq 41 _ (by omega)).trans (hwh i t j m hi hj)
    have hla := hEA.2.1; have hlb := hEB.2.1
    have h23 := df_23 (s := s) (ed_ok hEA) (ed_ok hEB) t
    refine jv_iload_n (q := 14) G 0 dX8_compare_13 rfl rfl rfl ?_
    refine jv_bipush (q := 16) (v := nI 16) G dX8_compare_14 (by decide) rfl ?_
    refine jv_icmp_geN (q := 19) (tgt := 151) G dX8_compare_16 (by decide) rfl (by omega) (by omega) (fun c1 => ?_) (fun c1 => ?_)
    · omega
    · refine jv_aload_n (q := 20) G 1 dX8_compare_19 rfl rfl rfl ?_
      refine jv_iload_n (q := 21) G 2 dX8_compare_20 rfl rfl rfl ?_
      refine jv_iload_n (q := 22) G 0 dX8_compare_21 rfl rfl rfl ?_
      refine jv_callV_I (q := 25) (h1 := h1) (As := [.int (nI a), .int (nI t)]) (rest := []) (ce' := 0) (sl' := 0) (r := jv_oN ((m_at A (nI t)).map (fun k => 10 * a + k))) G Z ml_X8_151 (r_at hlt hS (by omega) hEA1) hS.1 dX8_compare_22 rfl (by decide) (by decide) (by decide) (by decide) (Nat.le_of_ble_eq_true rfl) rfl rfl rfl rfl ?_
      rcases Option.eq_none_or_eq_some (m_at A (nI t)) with hk4 | ⟨k2, hk4⟩
      · refine jv_topI (y := (-1)) (by rw [hk4]; rfl) ?_
        have ya : m_ty1 A t = none := ty1_n (by assumption)
        refine jv_istore (q := 27) (lo' := [(4, .int (-1)), (3, .int (nI t)), (0, .ref x), (1, .int (nI a)), (2, .int (nI b))]) G dX8_compare_25 (by decide) rfl rfl ?_
        refine jv_aload_n (q := 28) G 2 dX8_compare_27 rfl rfl rfl ?_
        refine jv_iload_n (q := 29) G 4 dX8_compare_28 rfl rfl rfl ?_
        refine jv_iload_n (q := 30) G 1 dX8_compare_29 rfl rfl rfl ?_
        refine jv_callV_I (q := 33) (h1 := h1) (As := [.int (nI b), .int (nI t)]) (rest := []) (ce' := 0) (sl' := 0) (r := jv_oN ((m_at B (nI t)).map (fun k => 10 * b + k))) G Z ml_X8_151 (r_at hlt hS (by omega) hEB1) hS.1 dX8_compare_30 rfl (by decide) (by decide) (by decide) (by decide) (Nat.le_of_ble_eq_true rfl) rfl rfl rfl rfl ?_
        rcases Option.eq_none_or_eq_some (m_at B (nI t)) with hk7 | ⟨k5, hk7⟩
        · refine jv_topI (y := (-1)) (by rw [hk7]; rfl) ?_
          have yb : m_ty1 B t = none := ty1_n (by assumption)
          refine jv_istore (q := 35) (lo' := [(5, .int (-1)), (4, .int (-1)), (3, .int (nI t)), (0, .ref x), (1, .int (nI a)), (2, .int (nI b))]) G dX8_compare_33 (by decide) rfl rfl ?_
          refine jv_iload (q := 37) G 1 dX8_compare_35 rfl rfl ?_
          refine jv_iconst (q := 38) (v := (-1)) G dX8_compare_37 (by decide) rfl ?_
          refine jv_icmp_ne (q := 41) (tgt := 50) G dX8_compare_38 (by decide) rfl (fun c8 => ?_) (fun c8 => ?_)
          · exact absurd rfl c8
          · refine jv_iload (q := 43) G 0 dX8_compare_41 rfl rfl ?_
            refine jv_iconst (q := 44) (v := (-1)) G dX8_compare_43 (by decide) rfl ?_
            refine jv_icmp_ne (q := 47) (tgt := 50) G dX8_compare_44 (by decide) rfl (fun c9 => ?_) (fun c9 => ?_)
            · exact absurd rfl c9
            · refine jv_goto (q := 145) G dX8_compare_47 (by decide) ?_
              refine jv_iinc (q := 148) (lo' := [(3, .int (nI (t + 1))), (5, .int (-1)), (4, .int (-1)), (0, .ref x), (1, .int (nI a)), (2, .int (nI b))]) (v := nI (t + 1)) G 2 dX8_compare_145 rfl (nI_1 t) (by decide) rfl rfl ?_
              refine jv_goto (q := 13) G dX8_compare_148 (by decide) ?_
              refine jv_lo [0, 3, 4, 5] (lo' := [(3, .int (nI (t + 1))), (0, .ref x), (1, .int (nI a)), (2, .int (nI b))]) rfl ?_
              have eL : (m_df A B s t) = (m_df A B s (t + 1)) := by
                rw [m_df]; unfold m_dt; rw [ya, yb]; simp [m_dH]
              rw [eL] at hD hx
              exact ih (t + 1) _ (by omega) hF hD hx
        · refine jv_topI (y := nI (10 * b + k5)) (by rw [hk7]; rfl) ?_
          obtain ⟨t6, ht6, nt6, lt6⟩ := m_at_some hk7
          have Tt6 := (hEB1.2.2 k5 t6 ht6).1
          have Ot6 := (hEB1.2.2 k5 t6 ht6).2
          have Lt6 := hEB1.2.1
          have Bt6n := Ot6.1; have Bt6k := Ot6.2.1
          have yb : m_ty1 B t = some t6 := ty1_s (by assumption) ht6
          have nnt6 : mt_n t6 = t := (nI_eq (by omega) (by omega)).mp nt6
          refine jv_istore (q := 35) (lo' := [(5, .int (nI (10 * b + k5))), (4, .int (-1)), (3, .int (nI t)), (0, .ref x), (1, .int (nI a)), (2, .int (nI b))]) G dX8_compare_33 (by decide) rfl rfl ?_
          refine jv_iload (q := 37) G 1 dX8_compare_35 rfl rfl ?_
          refine jv_iconst (q := 38) (v := (-1)) G dX8_compare_37 (by decide) rfl ?_
          refine jv_icmp_ne (q := 41) (tgt := 50) G dX8_compare_38 (by decide) rfl (fun c10 => ?_) (fun c10 => ?_)
          · exact absurd rfl c10
          · refine jv_iload (q := 43) G 0 dX8_compare_41 rfl rfl ?_
            refine jv_iconst (q := 44) (v := (-1)) G dX8_compare_43 (by decide) rfl ?_
            refine jv_icmp_ne (q := 47) (tgt := 50) G dX8_compare_44 (by decide) rfl (fun c11 => ?_) (fun c11 => ?_)
            · refine jv_iload (q := 52) G 1 dX8_compare_50 rfl rfl ?_
              refine jv_iconst (q := 53) (v := (-1)) G dX8_compare_52 (by decide) rfl ?_
              refine jv_icmp_ne (q := 56) (tgt := 69) G dX8_compare_53 (by decide) rfl (fun c12 => ?_) (fun c12 => ?_)
              · exact absurd rfl c12
              · refine jv_aload_n (q := 57) G 3 dX8_compare_56 rfl rfl rfl ?_
                refine jv_iconst (q := 58) (v := nI 2) G dX8_compare_57 (by decide) rfl ?_
                refine jv_iload_n (q := 59) G 2 dX8_compare_58 rfl rfl rfl ?_
                refine jv_iconst (q := 60) (v := (-1)) G dX8_compare_59 (by decide) rfl ?_
                refine jv_iconst (q := 61) (v := (-1)) G dX8_compare_60 (by decide) rfl ?_
                refine jv_iconst (q := 62) (v := (-1)) G dX8_compare_61 (by decide) rfl ?_
                refine jv_iconst (q := 63) (v := nI 0) G dX8_compare_62 (by decide) rfl ?_
                refine jv_callV (q := 66) (As := [.int (nI 2), .int (nI t), .int (-1), .int (-1), .int (-1), .int (nI 0)]) (rest := []) G Z ml_X8_231 (r_tell (r := (2, t, none, none)) hlt hS hD hx (by first | omega | (simp only [List.length_append, List.length_cons, List.length_nil]; omega))) hS.1 dX8_compare_63 rfl (by decide) (by decide) (by decide) (by decide) (Nat.le_of_ble_eq_true rfl) rfl rfl (fun v14 h13 y15 => ?_) (fun _ _ hx => hx.elim)
                obtain ⟨rfl, hFt, hD, hx⟩ := y15
                show jv_V E 7 h13 0 0 Q 66 [(5, .int (nI (10 * b + k5))), (4, .int (-1)), (3, .int (nI t)), (0, .ref x), (1, .int (nI a)), (2, .int (nI b))] []
                have hF := hF.tr (hFt.mono (W' := (fun k _ => 34 ≤ k ∧ k ≤ 39)) (X' := (fun j => j = 33)) (fun k j o => ⟨o.1, o.2.1⟩) (fun _ z => z))
                have hS := hFt.S hS
                have hx := hx.trans (congrArg nI (show _ = ((m_df A B s t) ++ [(2, t, none, none)]).length by simp))
                refine jv_goto (q := 97) G dX8_compare_66 (by decide) ?_
                refine jv_iconst (q := 98) (v := nI 0) G dX8_compare_97 (by decide) rfl ?_
                refine jv_istore (q := 100) (lo' := [(6, .int (nI 0)), (5, .int (nI (10 * b + k5))), (4, .int (-1)), (3, .int (nI t)), (0, .ref x), (1, .int (nI a)), (2, .int (nI b))]) G dX8_compare_98 (by decide) rfl rfl ?_
                refine jv_iload (q := 102) G 2 dX8_compare_100 rfl rfl ?_
                refine jv_iconst (q := 103) (v := (-1)) G dX8_compare_102 (by decide) rfl ?_
                refine jv_icmp_eq (q := 106) (tgt := 145) G dX8_compare_103 (by decide) rfl (fun c16 => ?_) (fun c16 => ?_)
                · refine jv_iinc (q := 148) (lo' := [(3, .int (nI (t + 1))), (6, .int (nI 0)), (5, .int (nI (10 * b + k5))), (4, .int (-1)), (0, .ref x), (1, .int (nI a)), (2, .int (nI b))]) (v := nI (t + 1)) G 3 dX8_compare_145 rfl (nI_1 t) (by decide) rfl rfl ?_
                  refine jv_goto (q := 13) G dX8_compare_148 (by decide) ?_
                  refine jv_lo [0, 4, 5, 6] (lo' := [(3, .int (nI (t + 1))), (0, .ref x), (1, .int (nI a)), (2, .int (nI b))]) rfl ?_
                  have eL : ((m_df A B s t) ++ [(2, t, none, none)]) = (m_df A B s (t + 1)) := by
                    rw [m_df]; unfold m_dt; rw [ya, yb]; simp [m_dH]
                  rw [eL] at hD hx
                  exact ih (t + 1) _ (by omega) hF hD hx
                · exact absurd rfl c16
            · exact absurd c11 (jv_nI_m1 (by omega))
      · refine jv_topI (y := nI (10 * a + k2)) (by rw [hk4]; rfl) ?_
        obtain ⟨t3, ht3, nt3, lt3⟩ := m_at_some hk4
        have Tt3 := (hEA1.2.2 k2 t3 ht3).1
        have Ot3 := (hEA1.2.2 k2 t3 ht3).2
        have Lt3 := hEA1.2.1
        have Bt3n := Ot3.1; have Bt3k := Ot3.2.1
        have ya : m_ty1 A t = some t3 := ty1_s (by assumption) ht3
        have nnt3 : mt_n t3 = t := (nI_eq (by omega) (by omega)).mp nt3
        refine jv_istore (q := 27) (lo' := [(4, .int (nI (10 * a + k2))), (3, .int (nI t)), (0, .ref x), (1, .int (nI a)), (2, .int (nI b))]) G dX8_compare_25 (by decide) rfl rfl ?_
        refine jv_aload_n (q := 28) G 2 dX8_compare_27 rfl rfl rfl ?_
        refine jv_iload_n (q := 29) G 4 dX8_compare_28 rfl rfl rfl ?_
        refine jv_iload_n (q := 30) G 1 dX8_compare_29 rfl rfl rfl ?_
        refine jv_callV_I (q := 33) (h1 := h1) (As := [.int (nI b), .int (nI t)]) (rest := []) (ce' := 0) (sl' := 0) (r := jv_oN ((m_at B (nI t)).map (fun k => 10 * b + k))) G Z ml_X8_151 (r_at hlt hS (by omega) hEB1) hS.1 dX8_compare_30 rfl (by decide) (by decide) (by decide) (by decide) (Nat.le_of_ble_eq_true rfl) rfl rfl rfl rfl ?_
        rcases Option.eq_none_or_eq_some (m_at B (nI t)) with hk19 | ⟨k17, hk19⟩
        · refine jv_topI (y := (-1)) (by rw [hk19]; rfl) ?_
          have yb : m_ty1 B t = none := ty1_n (by assumption)
          refine jv_istore (q := 35) (lo' := [(5, .int (-1)), (4, .int (nI (10 * a + k2))), (3, .int (nI t)), (0, .ref x), (1, .int (nI a)), (2, .int (nI b))]) G dX8_compare_33 (by decide) rfl rfl ?_
          refine jv_iload (q := 37) G 1 dX8_compare_35 rfl rfl ?_
          refine jv_iconst (q := 38) (v := (-1)) G dX8_compare_37 (by decide) rfl ?_
          refine jv_icmp_ne (q := 41) (tgt := 50) G dX8_compare_38 (by decide) rfl (fun c20 => ?_) (fun c20 => ?_)
          · refine jv_iload (q := 52) G 1 dX8_compare_50 rfl rfl ?_
            refine jv_iconst (q := 53) (v := (-1)) G dX8_compare_52 (by decide) rfl ?_
            refine jv_icmp_ne (q := 56) (tgt := 69) G dX8_compare_53 (by decide) rfl (fun c21 => ?_) (fun c21 => ?_)
            · refine jv_iload (q := 71) G 0 dX8_compare_69 rfl rfl ?_
              refine jv_iconst (q := 72) (v := (-1)) G dX8_compare_71 (by decide) rfl ?_
              refine jv_icmp_ne (q := 75) (tgt := 88) G dX8_compare_72 (by decide) rfl (fun c22 => ?_) (fun c22 => ?_)
              · exact absurd rfl c22
              · refine jv_aload_n (q := 76) G 3 dX8_compare_75 rfl rfl rfl ?_
                refine jv_iconst (q := 77) (v := nI 1) G dX8_compare_76 (by decide) rfl ?_
                refine jv_iload_n (q := 78) G 2 dX8_compare_77 rfl rfl rfl ?_
                refine jv_iconst (q := 79) (v := (-1)) G dX8_compare_78 (by decide) rfl ?_
                refine jv_iconst (q := 80) (v := (-1)) G dX8_compare_79 (by decide) rfl ?_
                refine jv_iconst (q := 81) (v := (-1)) G dX8_compare_80 (by decide) rfl ?_
                refine jv_iconst (q := 82) (v := nI 0) G dX8_compare_81 (by decide) rfl ?_
                refine jv_callV (q := 85) (As := [.int (nI 1), .int (nI t), .int (-1), .int (-1), .int (-1), .int (nI 0)]) (rest := []) G Z ml_X8_231 (r_tell (r := (1, t, none, none)) hlt hS hD hx (by first | omega | (simp only [List.length_append, List.length_cons, List.length_nil]; omega))) hS.1 dX8_compare_82 rfl (by decide) (by decide) (by decide) (by decide) (Nat.le_of_ble_eq_true rfl) rfl rfl (fun v24 h23 y25 => ?_) (fun _ _ hx => hx.elim)
                obtain ⟨rfl, hFt, hD, hx⟩ := y25
                show jv_V E 7 h23 0 0 Q 85 [(5, .int (-1)), (4, .int (nI (10 * a + k2))), (3, .int (nI t)), (0, .ref x), (1, .int (nI a)), (2, .int (nI b))] []
                have hF := hF.tr (hFt.mono (W' := (fun k _ => 34 ≤ k ∧ k ≤ 39)) (X' := (fun j => j = 33)) (fun k j o => ⟨o.1, o.2.1⟩) (fun _ z => z))
                have hS := hFt.S hS
                have hx := hx.trans (congrArg nI (show _ = ((m_df A B s t) ++ [(1, t, none, none)]).length by simp))
                refine jv_goto (q := 97) G dX8_compare_85 (by decide) ?_
                refine jv_iconst (q := 98) (v := nI 0) G dX8_compare_97 (by decide) rfl ?_
                refine jv_istore (q := 100) (lo' := [(6, .int (nI 0)), (5, .int (-1)), (4, .int (nI (10 * a + k2))), (3, .int (nI t)), (0, .ref x), (1, .int (nI a)), (2, .int (nI b))]) G dX8_compare_98 (by decide) rfl rfl ?_
                refine jv_lo [0, 3, 2, 1, 4, 5, 6] (lo' := [(6, .int (nI 0)), (3, .int (nI t)), (4, .int (nI (10 * a + k2))), (5, .int (-1)), (0, .ref x), (1, .int (nI a)), (2, .int (nI b))]) rfl ?_
                have hD' : rf_D q h23 (((m_df A B s t) ++ [(1, t, none, none)]) ++ m_dMs s t (some t3) none 0) := by rw [m_dMs, List.append_nil]; exact hD
                have hx' : jv_I h23 x 33 = nI (((m_df A B s t) ++ [(1, t, none, none)]) ++ m_dMs s t (some t3) none 0).length := by rw [m_dMs, List.append_nil]; exact hx
                refine r_cmp_k0 (L := ((m_df A B s t) ++ [(1, t, none, none)])) hS0 ha hb hEA hEB htk hwh hs16 hlt G Z (by omega) ht3 nnt3 (by simp only [List.length_append, List.length_cons, List.length_nil]; omega) (fun h2 hF2 hD2 hx2 => ?_) 128 0 _ (by omega) hF hD' hx'
                refine jv_iinc (q := 148) (lo' := [(3, .int (nI (t + 1))), (0, .ref x), (1, .int (nI a)), (2, .int (nI b))]) (v := nI (t + 1)) G 0 dX8_compare_145 rfl (nI_1 t) (by decide) rfl rfl ?_
                refine jv_goto (q := 13) G dX8_compare_148 (by decide) ?_
                refine jv_lo [0, 1, 2, 3] (lo' := [(3, .int (nI (t + 1))), (0, .ref x), (1, .int (nI a)), (2, .int (nI b))]) rfl ?_
                have eL : (((m_df A B s t) ++ [(1, t, none, none)]) ++ m_dMs s t (some t3) none 128) = (m_df A B s (t + 1)) := by
                  rw [m_df]; unfold m_dt; rw [ya, yb]; simp [m_dH]
                rw [eL] at hD2 hx2
                exact ih (t + 1) _ (by omega) hF2 hD2 hx2
            · exact absurd c21 (jv_nI_m1 (by omega))
          · exact absurd c20 (jv_nI_m1 (by omega))
        · refine jv_topI (y := nI (10 * b + k17)) (by rw [hk19]; rfl) ?_
          obtain ⟨t18, ht18, nt18, lt18⟩ := m_at_some hk19
          have Tt18 := (hEB1.2.2 k17 t18 ht18).1
          have Ot18 := (hEB1.2.2 k17 t18 ht18).2
          have Lt18 := hEB1.2.1
          have Bt18n := Ot18.1; have Bt18k := Ot18.2.1
          have yb : m_ty1 B t = some t18 := ty1_s (by assumption) ht18
          have nnt18 : mt_n t18 = t := (nI_eq (by omega) (by omega)).mp nt18
          refine jv_istore (q := 35) (lo' := [(5, .int (nI (10 * b + k17))), (4, .int (nI (10 * a + k2))), (3, .int (nI t)), (0, .ref x), (1, .int (nI a)), (2, .int (nI b))]) G dX8_compare_33 (by decide) rfl rfl ?_
          refine jv_iload (q := 37) G 1 dX8_compare_35 rfl rfl ?_
          refine jv_iconst (q := 38) (v := (-1)) G dX8_compare_37 (by decide) rfl ?_
          refine jv_icmp_ne (q := 41) (tgt := 50) G dX8_compare_38 (by decide) rfl (fun c26 => ?_) (fun c26 => ?_)
          · refine jv_iload (q := 52) G 1 dX8_compare_50 rfl rfl ?_
            refine jv_iconst (q := 53) (v := (-1)) G dX8_compare_52 (by decide) rfl ?_
            refine jv_icmp_ne (q := 56) (tgt := 69) G dX8_compare_53 (by decide) rfl (fun c27 => ?_) (fun c27 => ?_)
            · refine jv_iload (q := 71) G 0 dX8_compare_69 rfl rfl ?_
              refine jv_iconst (q := 72) (v := (-1)) G dX8_compare_71 (by decide) rfl ?_
              refine jv_icmp_ne (q := 75) (tgt := 88) G dX8_compare_72 (by decide) rfl (fun c28 => ?_) (fun c28 => ?_)
              · refine jv_aload_n (q := 89) G 3 dX8_compare_88 rfl rfl rfl ?_
                refine jv_iload_n (q := 90) G 2 dX8_compare_89 rfl rfl rfl ?_
                refine jv_iload (q := 92) G 1 dX8_compare_90 rfl rfl ?_
                refine jv_iload (q := 94) G 0 dX8_compare_92 rfl rfl ?_
                have h5 : (m_dT t t3 t18).length ≤ 5 := dH_5 (t := t) (x := some t3) (y := some t18)
                refine jv_callV (q := 97) (As := [.int (nI t), .int (nI (10 * a + k2)), .int (nI (10 * b + k17))]) (rest := []) G Z ml_X8_235 (r_tellType (L := (m_df A B s t)) hlt hS ha hb (by omega) hEA1 hEB1 ht3 ht18 hD hx (by rw [List.length_append]; omega)) hS.1 dX8_compare_94 rfl (by decide) (by decide) (by decide) (by decide) (Nat.le_of_ble_eq_true rfl) rfl rfl (fun v30 h29 y31 => ?_) (fun _ _ hx => hx.elim)
                obtain ⟨rfl, hFt, hD, hx⟩ := y31
                show jv_V E 7 h29 0 0 Q 97 [(5, .int (nI (10 * b + k17))), (4, .int (nI (10 * a + k2))), (3, .int (nI t)), (0, .ref x), (1, .int (nI a)), (2, .int (nI b))] []
                have hF := hF.tr hFt
                have hS := hF.S hS0
                refine jv_iconst (q := 98) (v := nI 0) G dX8_compare_97 (by decide) rfl ?_
                refine jv_istore (q := 100) (lo' := [(6, .int (nI 0)), (5, .int (nI (10 * b + k17))), (4, .int (nI (10 * a + k2))), (3, .int (nI t)), (0, .ref x), (1, .int (nI a)), (2, .int (nI b))]) G dX8_compare_98 (by decide) rfl rfl ?_
                refine jv_lo [0, 3, 2, 1, 4, 5, 6] (lo' := [(6, .int (nI 0)), (3, .int (nI t)), (4, .int (nI (10 * a + k2))), (5, .int (nI (10 * b + k17))), (0, .ref x), (1, .int (nI a)), (2, .int (nI b))]) rfl ?_
                have hD' : rf_D q h29 (((m_df A B s t) ++ m_dT t t3 t18) ++ m_dMs s t (some t3) (some t18) 0) := by rw [m_dMs, List.append_nil]; exact hD
                have hx' : jv_I h29 x 33 = nI (((m_df A B s t) ++ m_dT t t3 t18) ++ m_dMs s t (some t3) (some t18) 0).length := by rw [m_dMs, List.append_nil]; exact hx
                refine r_cmp_k1 (L := ((m_df A B s t) ++ m_dT t t3 t18)) hS0 ha hb hEA hEB htk hwh hs16 hlt G Z (by omega) ht3 nnt3 (by simp only [List.length_append, List.length_cons, List.length_nil]; omega) ht18 nnt18 (fun h2 hF2 hD2 hx2 => ?_) 128 0 _ (by omega) hF hD' hx'
                refine jv_iinc (q := 148) (lo' := [(3, .int (nI (t + 1))), (0, .ref x), (1, .int (nI a)), (2, .int (nI b))]) (v := nI (t + 1)) G 0 dX8_compare_145 rfl (nI_1 t) (by decide) rfl rfl ?_
                refine jv_goto (q := 13) G dX8_compare_148 (by decide) ?_
                refine jv_lo [0, 1, 2, 3] (lo' := [(3, .int (nI (t + 1))), (0, .ref x), (1, .int (nI a)), (2, .int (nI b))]) rfl ?_
                have eL : (((m_df A B s t) ++ m_dT t t3 t18) ++ m_dMs s t (some t3) (some t18) 128) = (m_df A B s (t + 1)) := by
                  rw [m_df]; unfold m_dt; rw [ya, yb]; simp [m_dH]
                rw [eL] at hD2 hx2
                exact ih (t + 1) _ (by omega) hF2 hD2 hx2
              · exact absurd c28 (jv_nI_m1 (by omega))
            · exact absurd c27 (jv_nI_m1 (by omega))
          · exact absurd c26 (jv_nI_m1 (by omega))
set_option maxHeartbeats 4000000 in
set_option maxRecDepth 100000 in
theorem r_compare {lA : Launch} (hlt : lA.stackTraces = false) {D : jv_D} {base : Nat} {x : Nat} {q : Nat → Nat} {h : jv_H} {a b : Nat} {A B : List mT} (hS : rf_S x q h) (ha : a < 8) (hb : b < 8) (hEA : rf_E q h a A) (hEB : rf_E q h b B) (hVA : rf_V q h a A) (hVB : rf_V q h b B) (huA : m_uq A) (huB : m_uq B) (hkA : ∀ (i : Nat) t, A[i]? = some t → m_uk t) (hkB : ∀ (i : Nat) t, B[i]? = some t → m_uk t) : jv_Met lA D base yX8_compare (.code yX8_compare cX8_compare 7 none) 5 0 0 [.ref x, .int (nI a), .int (nI b)] h (fun v h' => v = none ∧ FW (fun k _ => 34 ≤ k ∧ k ≤ 41) (fun j => j = 33) x q h h' ∧ rf_D q h' (m_df A B (m_mvt A B 16) 16) ∧ jv_I h' x 33 = nI (m_df A B (m_mvt A B 16) 16).length) jv_no := by
  refine jv_ofV (lo := [(0, .ref x), (1, .int (nI a)), (2, .int (nI b))]) hlt (by decide) (Nat.le_of_ble_eq_true rfl) rfl (fun E hEl hEd hEz Z G hr ht hnm => ?_)
  subst hEl; subst hEd; subst hEz
  refine jv_aload_n (q := 1) G 0 dX8_compare_0 rfl rfl rfl ?_
  refine jv_iconst (q := 2) (v := nI 0) G dX8_compare_1 (by decide) rfl ?_
  refine jv_putI (q := 5) G dX8_compare_2 fl_X8_218 rfl hS.1 rfl ?_
  have hF0 := FW.rf.wx (W := (fun k _ => 34 ≤ k ∧ k ≤ 41)) (X := (fun j => j = 33)) hS (j := 33) rfl (nI 0)
  have hx0 : jv_I (jv_wI h x 33 (nI 0)) x 33 = nI 0 := jv_I_self _ _ _ _
  have hS1 := hF0.S hS
  have n1 : ∀ e k j, o_E e k j → ¬ (fun k _ => 34 ≤ k ∧ k ≤ 41) k j := fun e k j o => by unfold o_E k_t k_m at o; dsimp only; omega
  have hEA1 := hF0.E (n1 a) hEA; have hEB1 := hF0.E (n1 b) hEB; have hVA1 := hF0.V (n1 a) hVA; have hVB1 := hF0.V (n1 b) hVB
  generalize jv_wI h x 33 (nI 0) = ha1 at *
  refine jv_aload_n (q := 6) G 0 dX8_compare_5 rfl rfl rfl ?_
  refine jv_iload_n (q := 7) G 1 dX8_compare_6 rfl rfl rfl ?_
  refine jv_iload_n (q := 8) G 2 dX8_compare_7 rfl rfl rfl ?_
  refine jv_callV (q := 11) (As := [.int (nI a), .int (nI b)]) (rest := []) G Z ml_X8_228 (r_move hlt hS1 ha hb hEA1 hEB1 hVA1 hVB1 huA huB hkA hkB) hS1.1 dX8_compare_8 rfl (by decide) (by decide) (by decide) (by decide) (Nat.le_of_ble_eq_true rfl) rfl rfl (fun v2 h1 y3 => ?_) (fun _ _ hx => hx.elim)
  obtain ⟨rfl, hF2, htk2, hwh2⟩ := y3
  show jv_V E 7 h1 0 0 (jv_Q E (fun v h' => v = none ∧ FW (fun k _ => 34 ≤ k ∧ k ≤ 41) (fun j => j = 33) x q h h' ∧ rf_D q h' (m_df A B (m_mvt A B 16) 16) ∧ jv_I h' x 33 = nI (m_df A B (m_mvt A B 16) 16).length) jv_no 0 0) 11 [(0, .ref x), (1, .int (nI a)), (2, .int (nI b))] []
  have hS2 := hF2.S hS1
  have n2 : ∀ e k j, o_E e k j → ¬ (fun k (_ : Nat) => k = 40 ∨ k = 41) k j := fun e k j o => by unfold o_E k_t k_m at o; dsimp only; omega
  have hEA2 := hF2.E (n2 a) hEA1; have hEB2 := hF2.E (n2 b) hEB1
  have hx2 := (hF2.ax 33 (fun z => z)).trans hx0
  refine jv_iconst (q := 12) (v := nI 0) G dX8_compare_11 (by decide) rfl ?_
  refine jv_istore_n (q := 13) (lo' := [(3, .int (nI 0)), (0, .ref x), (1, .int (nI a)), (2, .int (nI b))]) G dX8_compare_12 rfl (by decide) rfl rfl ?_
  refine jv_lo [0, 1, 2, 3] (lo' := [(3, .int (nI 0)), (0, .ref x), (1, .int (nI a)), (2, .int (nI b))]) rfl ?_
  refine r_cmp_t (s := (m_mvt A B 16)) hS2 ha hb hEA2 hEB2 htk2 hwh2 (mvt_16 16) hlt G Z (fun h3 hF3 hD3 hx3 => ?_) 16 0 _ (by omega) FW.rf (fun i r hi => by simp [m_df] at hi) hx2
  refine jv_vret G hr dX8_compare_151 (Nat.le_of_ble_eq_true rfl) (Nat.le_of_ble_eq_true rfl) ?_
  exact ⟨rfl, (hF0.tr (hF2.mono (fun k j o => by omega) (fun _ z => z.elim))).tr (hF3.mono (fun k j o => by omega) (fun _ z => z)), hD3, hx3⟩
