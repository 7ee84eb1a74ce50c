theorem dM_K {s : mS} {t K K' : Nat} {x y : Option mT} {r : mR} (h : r ∈ m_dM s t K x y) (e : r.2.2.1 = some K') : K' = K := by
  unfold m_dM m_dB at h
  split at h
  · simp only [List.mem_append] at h
    rcases h with (h | h) | h
    all_goals
      split at h
      · cases h
      · rw [List.mem_singleton.mp h] at e; cases e; rfl
  · split at h
    · rw [List.mem_singleton.mp h] at e; cases e; rfl
    · split at h
      · rw [List.mem_singleton.mp h] at e; cases e; rfl
      · cases h
  · split at h
    · cases h
    · rw [List.mem_singleton.mp h] at e; cases e; rfl
  · cases h
theorem dMs_K {s : mS} {t K' : Nat} {x y : Option mT} {r : mR} : ∀ n, r ∈ m_dMs s t x y n → r.2.2.1 = some K' → K' < n
  | 0, h, _ => by cases h
  | n + 1, h, e => by
    rw [m_dMs] at h
    rcases List.mem_append.mp h with h | h
    · have := dMs_K n h e; omega
    · have := dM_K h e; omega
theorem dH_K {t : Nat} {x y : Option mT} {r : mR} (h : r ∈ m_dH t x y) : r.2.2.1 = none := by
  unfold m_dH m_dT at h
  split at h
  · cases h
  · rw [List.mem_singleton.mp h]
  · rw [List.mem_singleton.mp h]
  · simp only [List.mem_append] at h
    rcases h with (((h | h) | h) | h) | h
    all_goals
      split at h
      · cases h
      · rw [List.mem_singleton.mp h]
theorem df_K {A B : List mT} {s : mS} {K : Nat} {r : mR} : ∀ n, r ∈ m_df A B s n → r.2.2.1 = some K → K < 128
  | 0, h, _ => by cases h
  | n + 1, h, e => by
    rw [m_df] at h
    rcases List.mem_append.mp h with h | h
    · exact df_K n h e
    · unfold m_dt at h
      rcases List.mem_append.mp h with h | h
      · rw [dH_K h] at e; cases e
      · split at h
        · exact dMs_K 128 h e
        · cases h
theorem k_cellA {lA : Launch} (hlt : lA.stackTraces = false) {D : jv_D} {base : Nat} {z : Nat → Nat → Nat} {h : jv_H} {s : mS} {L : List mR} (hdS : dS z h s L) (hL : L.length ≤ 230) {i c : Nat} {r : mR} (hi : L[i]? = some r) (hK : ∀ K, r.2.2.1 = some K → K < 128) (hc : c < 6) : jv_Met lA D base yX1_cell (.code yX1_cell cX1_cell 3 (some .int)) 1 0 0 [.ref (z 6 3), .int (nI i), .int (nI c)] h (jv_rI (m_col r c) h) jv_no := by
  obtain ⟨nr, t, ko, go⟩ := r
  rcases (by omega : c = 0 ∨ c = 1 ∨ c = 2 ∨ c = 3 ∨ c = 4 ∨ c = 5) with e | e | e | e | e | e <;> subst e
  · cases ko with
    | none => exact k_cell0n hlt hdS hL hi
    | some K => exact k_cell0s hlt hdS hL (hK K rfl) hi
  · cases ko with
    | none => exact k_cell1n hlt hdS hL hi
    | some K => exact k_cell1s hlt hdS hL (hK K rfl) hi
  · cases ko with
    | none => exact k_cell2n hlt hdS hL hi
    | some K => exact k_cell2s hlt hdS hL (hK K rfl) hi
  · cases ko with
    | none => exact k_cell3n hlt hdS hL hi
    | some K => exact k_cell3s hlt hdS hL (hK K rfl) hi
  · cases ko with
    | none => exact k_cell4n hlt hdS hL hi
    | some K => exact k_cell4s hlt hdS hL (hK K rfl) hi
  · cases ko with
    | none => exact k_cell5n hlt hdS hL hi
    | some K => exact k_cell5s hlt hdS hL (hK K rfl) hi
section DC
variable {M : mA} {a b i w : Int32} {k j n c : Nat}
theorem dc_p (h : m_paF M a b = 1 ∨ m_paF M a b = 2) : m_dcF M a b i w = m_paF M a b := by
  unfold m_paF at h ⊢
  unfold m_dcF
  cases ha : m_ix1 M.1.length a with
  | none => rfl
  | some k =>
    cases hb : m_ix1 M.1.length b with
    | none => rfl
    | some j =>
      rw [ha, hb] at h
      dsimp only at h ⊢
      cases hs : (ma_s M k && ma_s M j) with
      | false => rfl
      | true => rw [hs] at h; simp at h
theorem dc_0 (h1 : m_ix1 M.1.length a = some k) (h2 : m_ix1 M.1.length b = some j) (s1 : ma_s M k = true) (s2 : ma_s M j = true) (hi : m_ix1 (m_dfs M k j).length i = some n) (hw : m_ix1 6 w = some c) : m_dcF M a b i w = 0 := by
  unfold m_dcF
  rw [h1, h2]
  dsimp only
  rw [s1, s2, hi, hw]; rfl
theorem dc_i (h1 : m_ix1 M.1.length a = some k) (h2 : m_ix1 M.1.length b = some j) (s1 : ma_s M k = true) (s2 : ma_s M j = true) (hi : m_ix1 (m_dfs M k j).length i = none) : m_dcF M a b i w = 3 := by
  unfold m_dcF
  rw [h1, h2]
  dsimp only
  rw [s1, s2, hi]; rfl
theorem dc_w (h1 : m_ix1 M.1.length a = some k) (h2 : m_ix1 M.1.length b = some j) (s1 : ma_s M k = true) (s2 : ma_s M j = true) (hw : m_ix1 6 w = none) : m_dcF M a b i w = 3 := by
  unfold m_dcF
  rw [h1, h2]
  dsimp only
  rw [s1, s2, hw]
  cases m_ix1 (m_dfs M k j).length i <;> rfl
theorem dce_eq {r : mR} (h1 : m_ix1 M.1.length a = some k) (h2 : m_ix1 M.1.length b = some j) (hi : m_ix1 (m_dfs M k j).length i = some n) (hw : m_ix1 6 w = some c) (hr : (m_dfs M k j)[n]? = some r) : m_dce M a b i w = m_col r c := by
  unfold m_dce
  rw [h1, h2]
  dsimp only
  rw [hi, hw]
  dsimp only
  rw [hr]
end DC
theorem pX_h {z : Nat → Nat → Nat} {T : Nat → Nat} {N : Nat → Nat → Nat} {tO : Nat → Nat} {h h1 : jv_H} {M : mA} (hR : cl_R z T N tO h1 M) (f : sF cs h h1) {L : List String} {code n : Nat} {val : Int32} {c : String} (e : code = n) (hn : ¬ n = 0) (hc : c = xm L n) : pX z tO h L (code, val, M) c h1 := by
  subst e
  exact ⟨hn, hc, ⟨T, N, hR⟩, f⟩
set_option maxHeartbeats 4000000 in
set_option maxRecDepth 100000 in
theorem k_difference {lA : Launch} (hlt : lA.stackTraces = false) {D : jv_D} {base : Nat} {z : Nat → Nat → Nat} {T : Nat → Nat} {N : Nat → Nat → Nat} {tO : Nat → Nat} {h : jv_H} {M : mA} (hR : cl_R z T N tO h M) {p0 : Int32} {p1 : Int32} {p2 : Int32} {p3 : Int32} : jv_Met lA D base yX7_difference (.code yX7_difference cX7_difference 5 (some .int)) 7 5 30 [.ref (z 6 0), .int p0, .int p1, .int p2, .int p3] h (pC z tO h (m_dcF M p0 p1 p2 p3, m_dce M p0 p1 p2 p3, M)) (pX z tO h ["java/lang/IndexOutOfBoundsException", "java/lang/IllegalStateException", "java/util/NoSuchElementException"] (m_dcF M p0 p1 p2 p3, m_dce M p0 p1 p2 p3, M)) := by
  refine jv_ofV (lo := [(0, .ref (z 6 0)), (1, .int p0), (2, .int p1), (3, .int p2), (4, .int p3)]) hlt (by decide) (Nat.le_of_ble_eq_true rfl) rfl (fun E hEl hEd hEz Z G hr ht hnm => ?_)
  subst hEl; subst hEd; subst hEz
  have hl8 := hR.1.2.1.2.1; have hl12 := hR.1.2.1.2.2.2
  refine jv_aload_n (q := 1) G 0 dX7_difference_0 rfl rfl rfl ?_
  refine jv_iload_n (q := 2) G 1 dX7_difference_1 rfl rfl rfl ?_
  refine jv_iload_n (q := 3) G 2 dX7_difference_2 rfl rfl rfl ?_
  refine jv_callV (q := 6) (As := [.int p0, .int p1]) (rest := []) G Z ml_X7_255 (k_refuseUnfitPair hlt hR) hR.1.1.1 dX7_difference_3 rfl (by decide) (by decide) (by decide) (by decide) (Nat.le_of_ble_eq_true rfl) rfl rfl (fun v2 h1 y3 => ?_) (fun cx hx yx => jv_out G ht (Nat.le_of_ble_eq_true rfl) (Nat.le_of_ble_eq_true rfl) (by obtain ⟨rfl, y1 | y1⟩ := yx; exact pX_c hR ((dc_p (Or.inl y1.1)).trans y1.1) (by decide) y1.2; exact pX_c hR ((dc_p (Or.inr y1.1)).trans y1.1) (by decide) y1.2))
  obtain ⟨u0, u1, hu0, hu1, rfl, rfl, zu0, zu1, hs0, hs1, rfl, rfl⟩ := y3
  show jv_V E 5 h (0 + 4) (0 + 24) (jv_Q E (pC z tO h (m_dcF M (nI u0) (nI u1) p2 p3, m_dce M (nI u0) (nI u1) p2 p3, M)) (pX z tO h ["java/lang/IndexOutOfBoundsException", "java/lang/IllegalStateException", "java/util/NoSuchElementException"] (m_dcF M (nI u0) (nI u1) p2 p3, m_dce M (nI u0) (nI u1) p2 p3, M)) 5 30) 6 [(0, .ref (z 6 0)), (1, .int (nI u0)), (2, .int (nI u1)), (3, .int p2), (4, .int p3)] []
  have q8u0 : u0 < 8 := by omega
  have q8u1 : u1 < 8 := by omega
  have hEu0 := (hR.1.2.2.1 u0 q8u0).1; have hUu0 := (hR.1.2.2.1 u0 q8u0).2.2.2 hs0; have sou0 := (hR.1.2.2.2 u0 q8u0).2.2 hs0
  have hEu1 := (hR.1.2.2.1 u1 q8u1).1; have hUu1 := (hR.1.2.2.1 u1 q8u1).2.2.2 hs1; have sou1 := (hR.1.2.2.2 u1 q8u1).2.2 hs1
  refine jv_aload_n (q := 7) G 0 dX7_difference_6 rfl rfl rfl ?_
  refine jv_getQ (q := 10) G dX7_difference_7 fl_X7_24 rfl hR.1.1.1 hR.1.1.2.2.2.2.2.1 rfl ?_
  refine jv_aload_n (q := 11) G 0 dX7_difference_10 rfl rfl rfl ?_
  refine jv_getQ (q := 14) G dX7_difference_11 fl_X7_11 rfl hR.1.1.1 hR.1.1.2.1 rfl ?_
  refine jv_iload_n (q := 15) G 1 dX7_difference_14 rfl rfl rfl ?_
  refine jv_aaldQ (q := 16) G dX7_difference_15 hR.1.1.2.2.1 rfl (by omega) (by decide) (hR.1.1.2.2.2.2.2.2.2.2.2.1 u0 q8u0) rfl ?_
  refine jv_aload_n (q := 17) G 0 dX7_difference_16 rfl rfl rfl ?_
  refine jv_getQ (q := 20) G dX7_difference_17 fl_X7_11 rfl hR.1.1.1 hR.1.1.2.1 rfl ?_
  refine jv_iload_n (q := 21) G 2 dX7_difference_20 rfl rfl rfl ?_
  refine jv_aaldQ (q := 22) G dX7_difference_21 hR.1.1.2.2.1 rfl (by omega) (by decide) (hR.1.1.2.2.2.2.2.2.2.2.2.1 u1 q8u1) rfl ?_
  refine jv_callV (q := 25) (As := [.ref (z 0 u0), .ref (z 0 u1)]) (rest := []) G Z ml_X7_259 (k_compare hlt hEu0 hEu1 hUu0 hUu1 (ha_abv sou0) (ha_abv sou1) (fun i t ht => sou0.uk ht) (fun i t ht => sou1.uk ht) sou0.1.2.1 hR.2.2.1.1 rfl rfl (hcv_of hR q8u0 q8u1)) hR.2.2.1.1.1 dX7_difference_22 rfl (by decide) (by decide) (by decide) (by decide) (Nat.le_of_ble_eq_true rfl) rfl rfl (fun v5 h4 y6 => ?_) (fun _ _ hx => hx.elim)
  obtain ⟨rfl, hFk, k1, k2, kd⟩ := y6
  show jv_V E 5 h4 (0 + 4) (0 + 24) (jv_Q E (pC z tO h (m_dcF M (nI u0) (nI u1) p2 p3, m_dce M (nI u0) (nI u1) p2 p3, M)) (pX z tO h ["java/lang/IndexOutOfBoundsException", "java/lang/IllegalStateException", "java/util/NoSuchElementException"] (m_dcF M (nI u0) (nI u1) p2 p3, m_dce M (nI u0) (nI u1) p2 p3, M)) 5 30) 25 [(0, .ref (z 6 0)), (1, .int (nI u0)), (2, .int (nI u1)), (3, .int p2), (4, .int p3)] []
  have sfk := sk_F hR.2.2.1.1 hFk
  have hR1 := cl_R.K hR sfk ⟨kd.1, Or.inr ⟨u0, u1, hu0, hu1, hs0, hs1, k1, k2, kd⟩⟩
  have l230 : (m_dfs M u0 u1).length ≤ 230 := df_230 (fun t ht => (sou0.2.1 t ht).1) (fun t ht => (sou1.2.1 t ht).1) sou0.1.2.2.1 sou1.1.2.2.1
  refine jv_iload_n (q := 26) G 3 dX7_difference_25 rfl rfl rfl ?_
  refine jv_aload_n (q := 27) G 0 dX7_difference_26 rfl rfl rfl ?_
  refine jv_getQ (q := 30) G dX7_difference_27 fl_X7_24 rfl hR1.1.1.1 hR1.1.1.2.2.2.2.2.1 rfl ?_
  refine jv_getI (q := 33) G dX7_difference_30 fl_X7_263 rfl hR1.2.2.1.1.1 kd.2.2.2 rfl ?_
  refine jv_callS_I (q := 36) (h1 := h4) (As := [.int p2, .int (nI ((m_dfs M u0 u1).length))]) (rest := []) (ce' := 0 + 4) (sl' := 0 + 24) (r := jv_bI (rr_lt p2 ((m_dfs M u0 u1).length))) G Z ml_X7_66 (k_isBelow hlt) dX7_difference_33 rfl (by decide) (by decide) (by decide) (by decide) (Nat.le_of_ble_eq_true rfl) rfl rfl rfl rfl ?_
  refine jv_if_eqB (q := 39) (tgt := 49) G dX7_difference_36 (by decide) rfl (fun c7 => ?_) (fun c7 => ?_)
  · have zn2 := rr_lt_f c7
    refine jv_throwSX (text := "no such difference") G Z ht nx_0.1 nx_0.2.1 nx_0.2.2.1 nx_0.2.2.2 th_266 (by decide) (by decide) dX7_difference_49 dX7_difference_52 dX7_difference_53 dX7_difference_56 dX7_difference_59 (Nat.le_of_ble_eq_true rfl) (by decide) (by decide) ?_
    exact pX_h hR1 (sfk.mono ks_cs) (dc_i zu0 zu1 hs0 hs1 zn2) (by decide) rfl
  · obtain ⟨n2, hn2, en2, zn2⟩ := rr_lt_t (by omega) c7
    subst en2
    refine jv_iload (q := 41) G 4 dX7_difference_39 rfl rfl ?_
    refine jv_bipush (q := 43) (v := nI 6) G dX7_difference_41 (by decide) rfl ?_
    refine jv_callS_I (q := 46) (h1 := h4) (As := [.int p3, .int (nI 6)]) (rest := []) (ce' := 0 + 4) (sl' := 0 + 24) (r := jv_bI (rr_lt p3 6)) G Z ml_X7_66 (k_isBelow hlt) dX7_difference_43 rfl (by decide) (by decide) (by decide) (by decide) (Nat.le_of_ble_eq_true rfl) rfl rfl rfl rfl ?_
    refine jv_if_neB (q := 49) (tgt := 60) G dX7_difference_46 (by decide) rfl (fun c8 => ?_) (fun c8 => ?_)
    · obtain ⟨n3, hn3, en3, zn3⟩ := rr_lt_t (by omega) c8
      subst en3
      refine jv_aload_n (q := 61) G 0 dX7_difference_60 rfl rfl rfl ?_
      refine jv_getQ (q := 64) G dX7_difference_61 fl_X7_24 rfl hR1.1.1.1 hR1.1.1.2.2.2.2.2.1 rfl ?_
      refine jv_iload_n (q := 65) G 3 dX7_difference_64 rfl rfl rfl ?_
      refine jv_iload (q := 67) G 4 dX7_difference_65 rfl rfl ?_
      obtain ⟨r, hrr⟩ := jv_getLt (l := m_dfs M u0 u1) hn2
      refine jv_callV_I (q := 70) (h1 := h4) (As := [.int (nI n2), .int (nI n3)]) (rest := []) (ce' := 0 + 4) (sl' := 0 + 24) (r := (m_col r n3)) G Z ml_X7_271 (k_cellA (L := m_dfs M u0 u1) hlt kd l230 hrr (fun K => df_K 16 (List.mem_of_getElem? hrr)) hn3) hR1.2.2.1.1.1 dX7_difference_67 rfl (by decide) (by decide) (by decide) (by decide) (Nat.le_of_ble_eq_true rfl) rfl rfl rfl rfl ?_
      refine jv_iret G hr dX7_difference_70 (Nat.le_of_ble_eq_true rfl) (Nat.le_of_ble_eq_true rfl) ?_
      exact pC_h hR1 (sfk.mono ks_cs) (dc_0 zu0 zu1 hs0 hs1 zn2 zn3) (by rw [dce_eq zu0 zu1 zn2 zn3 hrr])
    · have zn3 := rr_lt_f c8
      refine jv_throwSX (text := "no such difference") G Z ht nx_0.1 nx_0.2.1 nx_0.2.2.1 nx_0.2.2.2 th_266 (by decide) (by decide) dX7_difference_49 dX7_difference_52 dX7_difference_53 dX7_difference_56 dX7_difference_59 (Nat.le_of_ble_eq_true rfl) (by decide) (by decide) ?_
      exact pX_h hR1 (sfk.mono ks_cs) (dc_w zu0 zu1 hs0 hs1 zn3) (by decide) rfl
