section SW
variable {E : jv_E} {cc : ByteArray} {own : String} {nL : Nat} {h : jv_H} {ce sl : Nat} {Q : State → Prop} {pc : Nat} {lo : List (Nat × Value)} {st : List Value}
theorem jv_tsIn (G : jv_C E cc own nL) {dflt hi : Int} {offs : Array Int} {len k : Nat} {off : Int} {tgt : Nat} (hd : decode cc pc = .ok (.tableswitch dflt 0 hi offs, len)) (hk : k < 2 ^ 31) (h2 : ¬ hi < (k : Int)) (ho : offs[k]? = some off) (ht : (pc : Int) + off = (tgt : Int)) (kk : jv_V E nL h ce sl Q tgt lo st) : jv_V E nL h ce sl Q pc lo (.int (nI k) :: st) := fun H locs ls hR hS hl =>
  lv_tableIn G.1 G.2.1 hd (by rw [nI_toInt hk]; omega) (by rw [nI_toInt hk]; exact h2) (by rw [nI_toInt hk, Int.sub_zero]; exact ho) ht (kk H locs ls hR hS hl)
theorem jv_tsOut (G : jv_C E cc own nL) {dflt l2 hi : Int} {offs : Array Int} {len : Nat} {x : Int32} {tgt : Nat} (hd : decode cc pc = .ok (.tableswitch dflt l2 hi offs, len)) (hx : x.toInt < l2 ∨ hi < x.toInt) (ht : (pc : Int) + dflt = (tgt : Int)) (kk : jv_V E nL h ce sl Q tgt lo st) : jv_V E nL h ce sl Q pc lo (.int x :: st) := fun H locs ls hR hS hl =>
  lv_tableOut G.1 G.2.1 hd hx ht (kk H locs ls hR hS hl)
theorem jv_lsw (G : jv_C E cc own nL) {dflt : Int} {ps : Array (Int × Int)} {len : Nat} {x : Int32} {off : Int} {tgt : Nat} (hd : decode cc pc = .ok (.lookupswitch dflt ps, len)) (hp : (ps.toList.zip (ps.toList.drop 1)).all (fun (a, next) => a.1 < next.1) = true) (ho : Op.lookupswitch.offset ps.toList dflt x.toInt = off) (ht : (pc : Int) + off = (tgt : Int)) (kk : jv_V E nL h ce sl Q tgt lo st) : jv_V E nL h ce sl Q pc lo (.int x :: st) := fun H locs ls hR hS hl =>
  lv_lookup G.1 G.2.1 hd hp ho ht (kk H locs ls hR hS hl)
end SW
def m_dfs (M : mA) (i j : Nat) : List mR := m_df (ma_t M i) (ma_t M j) (m_mvt (ma_t M i) (ma_t M j) 16) 16
def m_differ (M : mA) (a b : Int32) : Int32 := match m_ix1 M.1.length a, m_ix1 M.1.length b with
  | some i, some j => nI (m_dfs M i j).length
  | _, _ => 0
def m_dcF (M : mA) (a b i w : Int32) : Nat := match m_ix1 M.1.length a, m_ix1 M.1.length b with
  | some k, some j => if ma_s M k && ma_s M j then (match m_ix1 (m_dfs M k j).length i, m_ix1 6 w with
    | some _, some _ => 0
    | _, _ => 3) else 2
  | _, _ => 1
def m_dce (M : mA) (a b i w : Int32) : Int32 := match m_ix1 M.1.length a, m_ix1 M.1.length b with
  | some k, some j => match m_ix1 (m_dfs M k j).length i, m_ix1 6 w with
    | some n, some c => match (m_dfs M k j)[n]? with
      | some r => m_col r c
      | none => 0
    | _, _ => 0
  | _, _ => 0
theorem paF_lt (M : mA) (a b : Int32) : m_paF M a b < 3 := by
  unfold m_paF
  split
  · split <;> decide
  · decide
theorem paF_0 {M : mA} {a b : Int32} (hn : M.1.length < 2 ^ 31) (h : m_paF M a b = 0) : ∃ i j, i < M.1.length ∧ j < M.1.length ∧ a = nI i ∧ b = nI j ∧ m_ix1 M.1.length a = some i ∧ m_ix1 M.1.length b = some j ∧ ma_s M i = true ∧ ma_s M j = true := by
  unfold m_paF at h
  cases ha : rr_lt a M.1.length with
  | false => rw [rr_lt_f ha] at h; simp at h
  | true =>
    obtain ⟨i, h1, h2, h3⟩ := rr_lt_t hn ha
    cases hb : rr_lt b M.1.length with
    | false => rw [rr_lt_f hb, h3] at h; simp at h
    | true =>
      obtain ⟨j, g1, g2, g3⟩ := rr_lt_t hn hb
      rw [h3, g3] at h
      dsimp only at h
      refine ⟨i, j, h1, g1, h2, g2, h3, g3, ?_⟩
      cases hs : ma_s M i with
      | false => rw [hs] at h; simp at h
      | true =>
        cases ht : ma_s M j with
        | false => rw [hs, ht] at h; simp at h
        | true => exact ⟨rfl, rfl⟩
theorem rf_D.fr {W : Nat → Nat → Prop} {X : Nat → Prop} {x : Nat} {q : Nat → Nat} {h0 h : jv_H} {L : List mR} (d : rf_D q h0 L) (a : FW W X x q h0 h) (n : ∀ k j, 34 ≤ k → k ≤ 39 → ¬ W k j) : rf_D q h L := fun i r hi c hc => by
  refine (a.2.2.2.1 (34 + c) i (by omega) ?_ (n _ _ (by omega) (by omega))).trans (d i r hi c hc)
  have hc6 : c = 0 ∨ c = 1 ∨ c = 2 ∨ c = 3 ∨ c = 4 ∨ c = 5 := by omega
  rcases hc6 with rfl | rfl | rfl | rfl | rfl | rfl <;> rfl
theorem dfs_lt {x : Nat} {q : Nat → Nat} {h : jv_H} {M : mA} (hR : rf_R x q h M) {i j : Nat} (hi : i < 8) (hj : j < 8) : (m_dfs M i j).length ≤ 368 := df_23 (ed_ok (hR.2.2.2.1 i hi).2) (ed_ok (hR.2.2.2.1 j hj).2) 16
set_option maxHeartbeats 4000000 in
set_option maxRecDepth 100000 in
theorem r_differ {lA : Launch} (hlt : lA.stackTraces = false) {D : jv_D} {base : Nat} {x : Nat} {q : Nat → Nat} {h : jv_H} {M : mA} {a b : Int32} (hq : ∀ k, m_uq (ma_t M k)) (hk : ∀ (k i : Nat) t, (ma_t M k)[i]? = some t → m_uk t) (hR : rf_R x q h M) : jv_Met lA D base yX8_differ (.code yX8_differ cX8_differ 3 (some .int)) 6 0 0 [.ref x, .int a, .int b] h (fun v h' => ∃ r, v = some (.int r) ∧ ((m_paF M a b) = 0 → r = m_differ M a b) ∧ jv_I h' x 0 = nI (m_paF M a b) ∧ rs x q h h') jv_no := by
  refine jv_ofV (lo := [(0, .ref x), (1, .int a), (2, .int b)]) hlt (by decide) (Nat.le_of_ble_eq_true rfl) rfl (fun E hEl hEd hEz Z G hr ht hnm => ?_)
  subst hEl; subst hEd; subst hEz
  obtain ⟨hS, ⟨hn8, hn⟩, ⟨hm12, hm⟩, hD, hV, hCs⟩ := id hR
  have hrs : rs x q h h := rs.rf
  have h3 := paF_lt M a b
  refine jv_aload_n (q := 1) G 0 dX8_differ_0 rfl rfl rfl ?_
  refine jv_aload_n (q := 2) G 0 dX8_differ_1 rfl rfl rfl ?_
  refine jv_iload_n (q := 3) G 1 dX8_differ_2 rfl rfl rfl ?_
  refine jv_iload_n (q := 4) G 2 dX8_differ_3 rfl rfl rfl ?_
  refine jv_callV_I (q := 7) (h1 := h) (As := [.int a, .int b]) (rest := [.ref x]) (ce' := 0) (sl' := 0) (r := nI (m_paF M a b)) G Z ml_X8_242 (r_pairFault hlt hR) hS.1 dX8_differ_4 rfl (by decide) (by decide) (by decide) (by decide) (Nat.le_of_ble_eq_true rfl) rfl rfl rfl rfl ?_
  refine jv_putI (q := 10) G dX8_differ_7 fl_X8_122 rfl hS.1 rfl ?_
  have hr1 : rs x q h (jv_wI h x 0 (nI (m_paF M a b))) := rs.rf.wI (nI (m_paF M a b)) (Or.inl ⟨rfl, Or.inl rfl⟩)
  have hth : jv_I (jv_wI h x 0 (nI (m_paF M a b))) x 0 = (nI (m_paF M a b)) := jv_I_self _ _ _ _
  have hR := hr1.R hR
  have hrs := hrs.tr hr1
  generalize jv_wI h x 0 (nI (m_paF M a b)) = h1 at hth hR hrs ⊢
  obtain ⟨hS, ⟨hn8, hn⟩, ⟨hm12, hm⟩, hD, hV, hCs⟩ := id hR
  have hsc : sc x q h1 h1 := sc.rf
  refine jv_aload_n (q := 11) G 0 dX8_differ_10 rfl rfl rfl ?_
  refine jv_getI (q := 14) G dX8_differ_11 fl_X8_122 rfl hS.1 hth rfl ?_
  refine jv_if_leN (q := 17) (tgt := 19) G dX8_differ_14 (by decide) rfl (by omega) (fun c2 => ?_) (fun c2 => ?_)
  · have e0 := c2
    obtain ⟨k_a, k_b, hka, hkb, eka, ekb, za, zb, hsa, hsb⟩ := paF_0 (by omega) c2
    subst eka; subst ekb
    rw [e0] at hth
    refine jv_aload_n (q := 20) G 0 dX8_differ_19 rfl rfl rfl ?_
    refine jv_iload_n (q := 21) G 1 dX8_differ_20 rfl rfl rfl ?_
    refine jv_iload_n (q := 22) G 2 dX8_differ_21 rfl rfl rfl ?_
    refine jv_callV (q := 25) (As := [.int (nI k_a), .int (nI k_b)]) (rest := []) G Z ml_X8_245 (r_compare hlt hS (by omega) (by omega) (hD k_a (by omega)).2 (hD k_b (by omega)).2 (hV k_a (by omega) hsa).1 (hV k_b (by omega) hsb).1 (hq _) (hq _) (hk _) (hk _)) hS.1 dX8_differ_22 rfl (by decide) (by decide) (by decide) (by decide) (Nat.le_of_ble_eq_true rfl) rfl rfl (fun v4 h3 y5 => ?_) (fun _ _ hx => hx.elim)
    obtain ⟨rfl, hFc, hDc, hxc⟩ := y5
    show jv_V E 3 h3 0 0 (jv_Q E (fun v h' => ∃ r, v = some (.int r) ∧ ((m_paF M (nI k_a) (nI k_b)) = 0 → r = m_differ M (nI k_a) (nI k_b)) ∧ jv_I h' x 0 = nI (m_paF M (nI k_a) (nI k_b)) ∧ rs x q h h') jv_no 0 0) 25 [(0, .ref x), (1, .int (nI k_a)), (2, .int (nI k_b))] []
    have hr2 := (hFc.mono (W' := scr) (X' := xcr) (fun k j o => Or.inr (Or.inl (by omega))) (fun j z => Or.inr (Or.inr z))).rs
    have hR := hr2.R hR
    have hrs := hrs.tr hr2
    have hth := (hFc.ax 0 (by decide)).trans hth
    obtain ⟨hS, ⟨hn8, hn⟩, ⟨hm12, hm⟩, hD, hV, hCs⟩ := id hR
    have hL := dfs_lt hR (i := k_a) (j := k_b) (by omega) (by omega)
    refine jv_aload_n (q := 26) G 0 dX8_differ_25 rfl rfl rfl ?_
    refine jv_getI (q := 29) G dX8_differ_26 fl_X8_218 rfl hS.1 hxc rfl ?_
    refine jv_iret G hr dX8_differ_29 (Nat.le_of_ble_eq_true rfl) (Nat.le_of_ble_eq_true rfl) ?_
    refine ⟨_, rfl, fun hz => ?_, hth.trans (by rw [e0]), hrs⟩
    unfold m_differ; rw [za, zb]; rfl
  · refine jv_iconst (q := 18) (v := nI 0) G dX8_differ_17 (by decide) rfl ?_
    refine jv_iret G hr dX8_differ_18 (Nat.le_of_ble_eq_true rfl) (Nat.le_of_ble_eq_true rfl) ?_
    refine ⟨_, rfl, fun hz => absurd hz c2, hth, hrs⟩
theorem i_nlt {a b : Int32} (h : b ≤ a) : ¬ a < b := by
  rw [Int32.le_iff_toInt_le] at h
  rw [Int32.lt_iff_toInt_lt]
  omega
theorem i_lt {a b : Int32} (h : ¬ b ≤ a) : a < b := by
  rw [Int32.le_iff_toInt_le] at h
  rw [Int32.lt_iff_toInt_lt]
  omega
theorem i_le5 {w : Int32} (h : w < nI 6) : w ≤ nI 5 := by
  rw [Int32.le_iff_toInt_le]
  rw [Int32.lt_iff_toInt_lt] at h
  have h1 : (nI 6).toInt = 6 := by decide
  have h2 : (nI 5).toInt = 5 := by decide
  omega
theorem i_lt6 {w : Int32} (h : w ≤ nI 5) : w < nI 6 := by
  rw [Int32.le_iff_toInt_le] at h
  rw [Int32.lt_iff_toInt_lt]
  have h1 : (nI 6).toInt = 6 := by decide
  have h2 : (nI 5).toInt = 5 := by decide
  omega
set_option maxHeartbeats 4000000 in
set_option maxRecDepth 100000 in
theorem r_difference {lA : Launch} (hlt : lA.stackTraces = false) {D : jv_D} {base : Nat} {x : Nat} {q : Nat → Nat} {h : jv_H} {M : mA} {a b i w : Int32} (hq : ∀ k, m_uq (ma_t M k)) (hk : ∀ (k i : Nat) t, (ma_t M k)[i]? = some t → m_uk t) (hR : rf_R x q h M) : jv_Met lA D base yX8_difference (.code yX8_difference cX8_difference 5 (some .int)) 6 0 0 [.ref x, .int a, .int b, .int i, .int w] h (fun v h' => ∃ r, v = some (.int r) ∧ ((m_dcF M a b i w) = 0 → r = m_dce M a b i w) ∧ jv_I h' x 0 = nI (m_dcF M a b i w) ∧ rs x q h h') jv_no := by
  refine jv_ofV (lo := [(0, .ref x), (1, .int a), (2, .int b), (3, .int i), (4, .int w)]) hlt (by decide) (Nat.le_of_ble_eq_true rfl) rfl (fun E hEl hEd hEz Z G hr ht hnm => ?_)
  subst hEl; subst hEd; subst hEz
  obtain ⟨hS, ⟨hn8, hn⟩, ⟨hm12, hm⟩, hD, hV, hCs⟩ := id hR
  have hrs : rs x q h h := rs.rf
  have h3 := paF_lt M a b
  refine jv_aload_n (q := 1) G 0 dX8_difference_0 rfl rfl rfl ?_
  refine jv_aload_n (q := 2) G 0 dX8_difference_1 rfl rfl rfl ?_
  refine jv_iload_n (q := 3) G 1 dX8_difference_2 rfl rfl rfl ?_
  refine jv_iload_n (q := 4) G 2 dX8_difference_3 rfl rfl rfl ?_
  refine jv_callV_I (q := 7) (h1 := h) (As := [.int a, .int b]) (rest := [.ref x]) (ce' := 0) (sl' := 0) (r := nI (m_paF M a b)) G Z ml_X8_242 (r_pairFault hlt hR) hS.1 dX8_difference_4 rfl (by decide) (by decide) (by decide) (by decide) (Nat.le_of_ble_eq_true rfl) rfl rfl rfl rfl ?_
  refine jv_putI (q := 10) G dX8_difference_7 fl_X8_122 rfl hS.1 rfl ?_
  have hr1 : rs x q h (jv_wI h x 0 (nI (m_paF M a b))) := rs.rf.wI (nI (m_paF M a b)) (Or.inl ⟨rfl, Or.inl rfl⟩)
  have hth : jv_I (jv_wI h x 0 (nI (m_paF M a b))) x 0 = (nI (m_paF M a b)) := jv_I_self _ _ _ _
  have hR := hr1.R hR
  have hrs := hrs.tr hr1
  generalize jv_wI h x 0 (nI (m_paF M a b)) = h1 at hth hR hrs ⊢
  obtain ⟨hS, ⟨hn8, hn⟩, ⟨hm12, hm⟩, hD, hV, hCs⟩ := id hR
  have hsc : sc x q h1 h1 := sc.rf
  refine jv_aload_n (q := 11) G 0 dX8_difference_10 rfl rfl rfl ?_
  refine jv_getI (q := 14) G dX8_difference_11 fl_X8_122 rfl hS.1 hth rfl ?_
  refine jv_if_leN (q := 17) (tgt := 19) G dX8_difference_14 (by decide) rfl (by omega) (fun c2 => ?_) (fun c2 => ?_)
  · have e0 := c2
    obtain ⟨k_a, k_b, hka, hkb, eka, ekb, za, zb, hsa, hsb⟩ := paF_0 (by omega) c2
    subst eka; subst ekb
    rw [e0] at hth
    refine jv_aload_n (q := 20) G 0 dX8_difference_19 rfl rfl rfl ?_
    refine jv_iload_n (q := 21) G 1 dX8_difference_20 rfl rfl rfl ?_
    refine jv_iload_n (q := 22) G 2 dX8_difference_21 rfl rfl rfl ?_
    refine jv_callV (q := 25) (As := [.int (nI k_a), .int (nI k_b)]) (rest := []) G Z ml_X8_245 (r_compare hlt hS (by omega) (by omega) (hD k_a (by omega)).2 (hD k_b (by omega)).2 (hV k_a (by omega) hsa).1 (hV k_b (by omega) hsb).1 (hq _) (hq _) (hk _) (hk _)) hS.1 dX8_difference_22 rfl (by decide) (by decide) (by decide) (by decide) (Nat.le_of_ble_eq_true rfl) rfl rfl (fun v4 h3 y5 => ?_) (fun _ _ hx => hx.elim)
    obtain ⟨rfl, hFc, hDc, hxc⟩ := y5
    show jv_V E 5 h3 0 0 (jv_Q E (fun v h' => ∃ r, v = some (.int r) ∧ ((m_dcF M (nI k_a) (nI k_b) i w) = 0 → r = m_dce M (nI k_a) (nI k_b) i w) ∧ jv_I h' x 0 = nI (m_dcF M (nI k_a) (nI k_b) i w) ∧ rs x q h h') jv_no 0 0) 25 [(0, .ref x), (1, .int (nI k_a)), (2, .int (nI k_b)), (3, .int i), (4, .int w)] []
    have hr2 := (hFc.mono (W' := scr) (X' := xcr) (fun k j o => Or.inr (Or.inl (by omega))) (fun j z => Or.inr (Or.inr z))).rs
    have hR := hr2.R hR
    have hrs := hrs.tr hr2
    have hth := (hFc.ax 0 (by decide)).trans hth
    obtain ⟨hS, ⟨hn8, hn⟩, ⟨hm12, hm⟩, hD, hV, hCs⟩ := id hR
    have hL := dfs_lt hR (i := k_a) (j := k_b) (by omega) (by omega)
    refine jv_aload_n (q := 26) G 0 dX8_difference_25 rfl rfl rfl ?_
    refine jv_iload_n (q := 27) G 3 dX8_difference_26 rfl rfl rfl ?_
    refine jv_if_lt (q := 30) (tgt := 49) G dX8_difference_27 (by decide) rfl (fun c6 => ?_) (fun c6 => ?_)
    · refine jv_iconst (q := 50) (v := nI 3) G dX8_difference_49 (by decide) rfl ?_
      refine jv_goto (q := 54) G dX8_difference_50 (by decide) ?_
      refine jv_putI (q := 57) G dX8_difference_54 fl_X8_122 rfl hS.1 rfl ?_
      have hr1 : rs x q h3 (jv_wI h3 x 0 (nI 3)) := rs.rf.wI (nI 3) (Or.inl ⟨rfl, Or.inl rfl⟩)
      have hth : jv_I (jv_wI h3 x 0 (nI 3)) x 0 = (nI 3) := jv_I_self _ _ _ _
      have hxc := (xI_x (x := x) (h := h3) 33 0 (nI 3)).trans ((if_neg (by decide)).trans hxc)
      have hDc := hDc.fr (FW.rf.wx (W := fun _ _ => False) (X := fun _ => True) hS (j := 0) trivial (nI 3)) (fun _ _ _ _ z => z)
      have hR := hr1.R hR
      have hrs := hrs.tr hr1
      generalize jv_wI h3 x 0 (nI 3) = h7 at hth hR hrs hxc hDc ⊢
      obtain ⟨hS, ⟨hn8, hn⟩, ⟨hm12, hm⟩, hD, hV, hCs⟩ := id hR
      refine jv_aload_n (q := 58) G 0 dX8_difference_57 rfl rfl rfl ?_
      refine jv_getI (q := 61) G dX8_difference_58 fl_X8_122 rfl hS.1 hth rfl ?_
      refine jv_if_leN (q := 64) (tgt := 66) G dX8_difference_61 (by decide) rfl (by omega) (fun c8 => ?_) (fun c8 => ?_)
      · omega
      · refine jv_iconst (q := 65) (v := nI 0) G dX8_difference_64 (by decide) rfl ?_
        refine jv_iret G hr dX8_difference_65 (Nat.le_of_ble_eq_true rfl) (Nat.le_of_ble_eq_true rfl) ?_
        have zi : m_ix1 (m_dfs M k_a k_b).length i = none := ix_neg c6
        have eF : m_dcF M (nI k_a) (nI k_b) i w = 3 := by
          unfold m_dcF
          rw [za, zb]; dsimp only
          rw [hsa, hsb, zi]
          cases m_ix1 (m_dfs M k_a k_b).length i <;> rfl
        refine ⟨_, rfl, fun hz => absurd (eF.symm.trans hz) (by decide), hth.trans (by rw [eF]), hrs⟩
    · refine jv_iload_n (q := 31) G 3 dX8_difference_30 rfl rfl rfl ?_
      refine jv_aload_n (q := 32) G 0 dX8_difference_31 rfl rfl rfl ?_
      refine jv_getI (q := 35) G dX8_difference_32 fl_X8_218 rfl hS.1 hxc rfl ?_
      refine jv_icmp_ge (q := 38) (tgt := 49) G dX8_difference_35 (by decide) rfl (fun c9 => ?_) (fun c9 => ?_)
      · refine jv_iconst (q := 50) (v := nI 3) G dX8_difference_49 (by decide) rfl ?_
        refine jv_goto (q := 54) G dX8_difference_50 (by decide) ?_
        refine jv_putI (q := 57) G dX8_difference_54 fl_X8_122 rfl hS.1 rfl ?_
        have hr1 : rs x q h3 (jv_wI h3 x 0 (nI 3)) := rs.rf.wI (nI 3) (Or.inl ⟨rfl, Or.inl rfl⟩)
        have hth : jv_I (jv_wI h3 x 0 (nI 3)) x 0 = (nI 3) := jv_I_self _ _ _ _
        have hxc := (xI_x (x := x) (h := h3) 33 0 (nI 3)).trans ((if_neg (by decide)).trans hxc)
        have hDc := hDc.fr (FW.rf.wx (W := fun _ _ => False) (X := fun _ => True) hS (j := 0) trivial (nI 3)) (fun _ _ _ _ z => z)
        have hR := hr1.R hR
        have hrs := hrs.tr hr1
        generalize jv_wI h3 x 0 (nI 3) = h10 at hth hR hrs hxc hDc ⊢
        obtain ⟨hS, ⟨hn8, hn⟩, ⟨hm12, hm⟩, hD, hV, hCs⟩ := id hR
        refine jv_aload_n (q := 58) G 0 dX8_difference_57 rfl rfl rfl ?_
        refine jv_getI (q := 61) G dX8_difference_58 fl_X8_122 rfl hS.1 hth rfl ?_
        refine jv_if_leN (q := 64) (tgt := 66) G dX8_difference_61 (by decide) rfl (by omega) (fun c11 => ?_) (fun c11 => ?_)
        · omega
        · refine jv_iconst (q := 65) (v := nI 0) G dX8_difference_64 (by decide) rfl ?_
          refine jv_iret G hr dX8_difference_65 (Nat.le_of_ble_eq_true rfl) (Nat.le_of_ble_eq_true rfl) ?_
          have zi : m_ix1 (m_dfs M k_a k_b).length i = none := ix_ge (i_nlt c9)
          have eF : m_dcF M (nI k_a) (nI k_b) i w = 3 := by
            unfold m_dcF
            rw [za, zb]; dsimp only
            rw [hsa, hsb, zi]
            cases m_ix1 (m_dfs M k_a k_b).length i <;> rfl
          refine ⟨_, rfl, fun hz => absurd (eF.symm.trans hz) (by decide), hth.trans (by rw [eF]), hrs⟩
      · refine jv_iload (q := 40) G 4 dX8_difference_38 rfl rfl ?_
        refine jv_if_lt (q := 43) (tgt := 49) G dX8_difference_40 (by decide) rfl (fun c12 => ?_) (fun c12 => ?_)
        · refine jv_iconst (q := 50) (v := nI 3) G dX8_difference_49 (by decide) rfl ?_
          refine jv_goto (q := 54) G dX8_difference_50 (by decide) ?_
          refine jv_putI (q := 57) G dX8_difference_54 fl_X8_122 rfl hS.1 rfl ?_
          have hr1 : rs x q h3 (jv_wI h3 x 0 (nI 3)) := rs.rf.wI (nI 3) (Or.inl ⟨rfl, Or.inl rfl⟩)
          have hth : jv_I (jv_wI h3 x 0 (nI 3)) x 0 = (nI 3) := jv_I_self _ _ _ _
          have hxc := (xI_x (x := x) (h := h3) 33 0 (nI 3)).trans ((if_neg (by decide)).trans hxc)
          have hDc := hDc.fr (FW.rf.wx (W := fun _ _ => False) (X := fun _ => True) hS (j := 0) trivial (nI 3)) (fun _ _ _ _ z => z)
          have hR := hr1.R hR
          have hrs := hrs.tr hr1
          generalize jv_wI h3 x 0 (nI 3) = h13 at hth hR hrs hxc hDc ⊢
          obtain ⟨hS, ⟨hn8, hn⟩, ⟨hm12, hm⟩, hD, hV, hCs⟩ := id hR
          refine jv_aload_n (q := 58) G 0 dX8_difference_57 rfl rfl rfl ?_
          refine jv_getI (q := 61) G dX8_difference_58 fl_X8_122 rfl hS.1 hth rfl ?_
          refine jv_if_leN (q := 64) (tgt := 66) G dX8_difference_61 (by decide) rfl (by omega) (fun c14 => ?_) (fun c14 => ?_)
          · omega
          · refine jv_iconst (q := 65) (v := nI 0) G dX8_difference_64 (by decide) rfl ?_
            refine jv_iret G hr dX8_difference_65 (Nat.le_of_ble_eq_true rfl) (Nat.le_of_ble_eq_true rfl) ?_
            have zi : m_ix1 6 w = none := ix_neg c12
            have eF : m_dcF M (nI k_a) (nI k_b) i w = 3 := by
              unfold m_dcF
              rw [za, zb]; dsimp only
              rw [hsa, hsb, zi]
              cases m_ix1 (m_dfs M k_a k_b).length i <;> rfl
            refine ⟨_, rfl, fun hz => absurd (eF.symm.trans hz) (by decide), hth.trans (by rw [eF]), hrs⟩
        · refine jv_iload (q := 45) G 4 dX8_difference_43 rfl rfl ?_
          refine jv_iconst (q := 46) (v := nI 5) G dX8_difference_45 (by decide) rfl ?_
          refine jv_icmp_le (q := 49) (tgt := 53) G dX8_difference_46 (by decide) rfl (fun c15 => ?_) (fun c15 => ?_)
          · refine jv_iconst (q := 54) (v := nI 0) G dX8_difference_53 (by decide) rfl ?_
            refine jv_putI (q := 57) G dX8_difference_54 fl_X8_122 rfl hS.1 rfl ?_
            have hr1 : rs x q h3 (jv_wI h3 x 0 (nI 0)) := rs.rf.wI (nI 0) (Or.inl ⟨rfl, Or.inl rfl⟩)
            have hth : jv_I (jv_wI h3 x 0 (nI 0)) x 0 = (nI 0) := jv_I_self _ _ _ _
            have hxc := (xI_x (x := x) (h := h3) 33 0 (nI 0)).trans ((if_neg (by decide)).trans hxc)
            have hDc := hDc.fr (FW.rf.wx (W := fun _ _ => False) (X := fun _ => True) hS (j := 0) trivial (nI 0)) (fun _ _ _ _ z => z)
            have hR := hr1.R hR
            have hrs := hrs.tr hr1
            generalize jv_wI h3 x 0 (nI 0) = h16 at hth hR hrs hxc hDc ⊢
            obtain ⟨hS, ⟨hn8, hn⟩, ⟨hm12, hm⟩, hD, hV, hCs⟩ := id hR
            refine jv_aload_n (q := 58) G 0 dX8_difference_57 rfl rfl rfl ?_
            refine jv_getI (q := 61) G dX8_difference_58 fl_X8_122 rfl hS.1 hth rfl ?_
            refine jv_if_leN (q := 64) (tgt := 66) G dX8_difference_61 (by decide) rfl (by omega) (fun c17 => ?_) (fun c17 => ?_)
            · obtain ⟨k_i, hki, eki, zi⟩ := ix_in (n := (m_dfs M k_a k_b).length) (by omega) c6 (i_lt c9)
              obtain ⟨k_w, hkw, ekw, zw⟩ := ix_in (n := 6) (by omega) c12 (i_lt6 c15)
              obtain ⟨r, hr9⟩ := jv_getLt (l := m_dfs M k_a k_b) (k := k_i) hki
              subst eki; subst ekw
              have eF : m_dcF M (nI k_a) (nI k_b) (nI k_i) (nI k_w) = 0 := by
                unfold m_dcF
                rw [za, zb]; dsimp only
                rw [hsa, hsb, zi, zw]; rfl
              have hk6 : k_w = 0 ∨ k_w = 1 ∨ k_w = 2 ∨ k_w = 3 ∨ k_w = 4 ∨ k_w = 5 := by omega
              have hval : m_dce M (nI k_a) (nI k_b) (nI k_i) (nI k_w) = m_col r k_w := by
                unfold m_dce
                rw [za, zb]; dsimp only
                rw [zi, zw]; dsimp only
                rw [hr9]
              rcases hk6 with rfl | rfl | rfl | rfl | rfl | rfl
              · refine jv_iload (q := 68) G 4 dX8_difference_66 rfl rfl ?_
                refine jv_tsIn (tgt := 104) (off := 36) G dX8_difference_68 (by decide) (by decide) rfl (by decide) ?_
                refine jv_aload_n (q := 105) G 0 dX8_difference_104 rfl rfl rfl ?_
                refine jv_getQ (q := 108) G dX8_difference_105 fl_X8_98 rfl hS.1 (rf_p34 hS) rfl ?_
                refine jv_iload_n (q := 109) G 3 dX8_difference_108 rfl rfl rfl ?_
                refine jv_iald (q := 110) G dX8_difference_109 (rf_a34 hS) rfl (by omega) (by decide) (hDc k_i r hr9 0 (by decide)) rfl ?_
                refine jv_iret G hr dX8_difference_110 (Nat.le_of_ble_eq_true rfl) (Nat.le_of_ble_eq_true rfl) ?_
                exact ⟨_, rfl, fun hz => hval.symm, hth.trans (by rw [eF]), hrs⟩
              · refine jv_iload (q := 68) G 4 dX8_difference_66 rfl rfl ?_
                refine jv_tsIn (tgt := 111) (off := 43) G dX8_difference_68 (by decide) (by decide) rfl (by decide) ?_
                refine jv_aload_n (q := 112) G 0 dX8_difference_111 rfl rfl rfl ?_
                refine jv_getQ (q := 115) G dX8_difference_112 fl_X8_101 rfl hS.1 (rf_p35 hS) rfl ?_
                refine jv_iload_n (q := 116) G 3 dX8_difference_115 rfl rfl rfl ?_
                refine jv_iald (q := 117) G dX8_difference_116 (rf_a35 hS) rfl (by omega) (by decide) (hDc k_i r hr9 1 (by decide)) rfl ?_
                refine jv_iret G hr dX8_difference_117 (Nat.le_of_ble_eq_true rfl) (Nat.le_of_ble_eq_true rfl) ?_
                exact ⟨_, rfl, fun hz => hval.symm, hth.trans (by rw [eF]), hrs⟩
              · refine jv_iload (q := 68) G 4 dX8_difference_66 rfl rfl ?_
                refine jv_tsIn (tgt := 118) (off := 50) G dX8_difference_68 (by decide) (by decide) rfl (by decide) ?_
                refine jv_aload_n (q := 119) G 0 dX8_difference_118 rfl rfl rfl ?_
                refine jv_getQ (q := 122) G dX8_difference_119 fl_X8_104 rfl hS.1 (rf_p36 hS) rfl ?_
                refine jv_iload_n (q := 123) G 3 dX8_difference_122 rfl rfl rfl ?_
                refine jv_iald (q := 124) G dX8_difference_123 (rf_a36 hS) rfl (by omega) (by decide) (hDc k_i r hr9 2 (by decide)) rfl ?_
                refine jv_iret G hr dX8_difference_124 (Nat.le_of_ble_eq_true rfl) (Nat.le_of_ble_eq_true rfl) ?_
                exact ⟨_, rfl, fun hz => hval.symm, hth.trans (by rw [eF]), hrs⟩
              · refine jv_iload (q := 68) G 4 dX8_difference_66 rfl rfl ?_
                refine jv_tsIn (tgt := 125) (off := 57) G dX8_difference_68 (by decide) (by decide) rfl (by decide) ?_
                refine jv_aload_n (q := 126) G 0 dX8_difference_125 rfl rfl rfl ?_
                refine jv_getQ (q := 129) G dX8_difference_126 fl_X8_107 rfl hS.1 (rf_p37 hS) rfl ?_
                refine jv_iload_n (q := 130) G 3 dX8_difference_129 rfl rfl rfl ?_
                refine jv_iald (q := 131) G dX8_difference_130 (rf_a37 hS) rfl (by omega) (by decide) (hDc k_i r hr9 3 (by decide)) rfl ?_
                refine jv_iret G hr dX8_difference_131 (Nat.le_of_ble_eq_true rfl) (Nat.le_of_ble_eq_true rfl) ?_
                exact ⟨_, rfl, fun hz => hval.symm, hth.trans (by rw [eF]), hrs⟩
              · refine jv_iload (q := 68) G 4 dX8_difference_66 rfl rfl ?_
                refine jv_tsIn (tgt := 132) (off := 64) G dX8_difference_68 (by decide) (by decide) rfl (by decide) ?_
                refine jv_aload_n (q := 133) G 0 dX8_difference_132 rfl rfl rfl ?_
                refine jv_getQ (q := 136) G dX8_difference_133 fl_X8_110 rfl hS.1 (rf_p38 hS) rfl ?_
                refine jv_iload_n (q := 137) G 3 dX8_difference_136 rfl rfl rfl ?_
                refine jv_iald (q := 138) G dX8_difference_137 (rf_a38 hS) rfl (by omega) (by decide) (hDc k_i r hr9 4 (by decide)) rfl ?_
                refine jv_iret G hr dX8_difference_138 (Nat.le_of_ble_eq_true rfl) (Nat.le_of_ble_eq_true rfl) ?_
                exact ⟨_, rfl, fun hz => hval.symm, hth.trans (by rw [eF]), hrs⟩
              · refine jv_iload (q := 68) G 4 dX8_difference_66 rfl rfl ?_
                refine jv_tsOut (tgt := 139) G dX8_difference_68 (Or.inr (by decide)) (by decide) ?_
                refine jv_aload_n (q := 140) G 0 dX8_difference_139 rfl rfl rfl ?_
                refine jv_getQ (q := 143) G dX8_difference_140 fl_X8_113 rfl hS.1 (rf_p39 hS) rfl ?_
                refine jv_iload_n (q := 144) G 3 dX8_difference_143 rfl rfl rfl ?_
                refine jv_iald (q := 145) G dX8_difference_144 (rf_a39 hS) rfl (by omega) (by decide) (hDc k_i r hr9 5 (by decide)) rfl ?_
                refine jv_iret G hr dX8_difference_145 (Nat.le_of_ble_eq_true rfl) (Nat.le_of_ble_eq_true rfl) ?_
                exact ⟨_, rfl, fun hz => hval.symm, hth.trans (by rw [eF]), hrs⟩
            · omega
          · refine jv_iconst (q := 50) (v := nI 3) G dX8_difference_49 (by decide) rfl ?_
            refine jv_goto (q := 54) G dX8_difference_50 (by decide) ?_
            refine jv_putI (q := 57) G dX8_difference_54 fl_X8_122 rfl hS.1 rfl ?_
            have hr1 : rs x q h3 (jv_wI h3 x 0 (nI 3)) := rs.rf.wI (nI 3) (Or.inl ⟨rfl, Or.inl rfl⟩)
            have hth : jv_I (jv_wI h3 x 0 (nI 3)) x 0 = (nI 3) := jv_I_self _ _ _ _
            have hxc := (xI_x (x := x) (h := h3) 33 0 (nI 3)).trans ((if_neg (by decide)).trans hxc)
            have hDc := hDc.fr (FW.rf.wx (W := fun _ _ => False) (X := fun _ => True) hS (j := 0) trivial (nI 3)) (fun _ _ _ _ z => z)
            have hR := hr1.R hR
            have hrs := hrs.tr hr1
            generalize jv_wI h3 x 0 (nI 3) = h18 at hth hR hrs hxc hDc ⊢
            obtain ⟨hS, ⟨hn8, hn⟩, ⟨hm12, hm⟩, hD, hV, hCs⟩ := id hR
            refine jv_aload_n (q := 58) G 0 dX8_difference_57 rfl rfl rfl ?_
            refine jv_getI (q := 61) G dX8_difference_58 fl_X8_122 rfl hS.1 hth rfl ?_
            refine jv_if_leN (q := 64) (tgt := 66) G dX8_difference_61 (by decide) rfl (by omega) (fun c19 => ?_) (fun c19 => ?_)
            · omega
            · refine jv_iconst (q := 65) (v := nI 0) G dX8_difference_64 (by decide) rfl ?_
              refine jv_iret G hr dX8_difference_65 (Nat.le_of_ble_eq_true rfl) (Nat.le_of_ble_eq_true rfl) ?_
              have zi : m_ix1 6 w = none := ix_ge (n := 6) (fun z => c15 (i_le5 z))
              have eF : m_dcF M (nI k_a) (nI k_b) i w = 3 := by
                unfold m_dcF
                rw [za, zb]; dsimp only
                rw [hsa, hsb, zi]
                cases m_ix1 (m_dfs M k_a k_b).length i <;> rfl
              refine ⟨_, rfl, fun hz => absurd (eF.symm.trans hz) (by decide), hth.trans (by rw [eF]), hrs⟩
  · refine jv_iconst (q := 18) (v := nI 0) G dX8_difference_17 (by decide) rfl ?_
    refine jv_iret G hr dX8_difference_18 (Nat.le_of_ble_eq_true rfl) (Nat.le_of_ble_eq_true rfl) ?_
    have eF : m_dcF M a b i w = m_paF M a b := by
      have h0 := c2
      unfold m_dcF m_paF at *
      cases ha : m_ix1 M.1.length a with
      | none => rfl
      | some k =>
        cases hb : m_ix1 M.1.length b with
        | none => rfl
        | some j =>
          rw [ha, hb] at h0
          dsimp only at h0 ⊢
          cases hs : (ma_s M k && ma_s M j) with
          | false => rfl
          | true => rw [hs] at h0; exact absurd rfl h0
    refine ⟨_, rfl, fun hz => absurd (eF.symm.trans hz) c2, hth.trans (by rw [eF]), hrs⟩
