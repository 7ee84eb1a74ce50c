/-- what is told of the members of one kind -/
def m_dms (s : mS) (t : Nat) (x y : Option mT) (w : Bool) : Nat → List mR
  | 0 => []
  | k + 1 => m_dms s t x y w k ++ m_dM s t (wk w k) x y
theorem dms_ms {s : mS} {t : Nat} {x y : Option mT} : ∀ {k : Nat}, m_dMs s t x y k = m_dms s t x y false k
  | 0 => rfl
  | k + 1 => by rw [m_dMs, m_dms, dms_ms, show wk false k = k from by unfold wk; simp]
theorem dms_ms2 {s : mS} {t : Nat} {x y : Option mT} : ∀ {k : Nat}, m_dMs s t x y (64 + k) = m_dms s t x y false 64 ++ m_dms s t x y true k
  | 0 => by rw [Nat.add_zero, dms_ms, m_dms, List.append_nil]
  | k + 1 => by rw [show 64 + (k + 1) = (64 + k) + 1 from rfl, m_dMs, dms_ms2, show m_dms s t x y true (k + 1) = m_dms s t x y true k ++ m_dM s t (wk true k) x y from rfl, List.append_assoc, show wk true k = 64 + k from by unfold wk; simp]
theorem dms_all {s : mS} {t : Nat} {x y : Option mT} : m_dMs s t x y 128 = m_dms s t x y false 64 ++ m_dms s t x y true 64 := dms_ms2 (k := 64)
theorem dms_mono {s : mS} {t : Nat} {x y : Option mT} {w : Bool} {k : Nat} : ∀ {n : Nat}, (m_dms s t x y w k).length ≤ (m_dms s t x y w (k + n)).length
  | 0 => Nat.le_refl _
  | n + 1 => by
    rw [show k + (n + 1) = (k + n) + 1 from rfl, m_dms, List.length_append]
    exact Nat.le_trans dms_mono (Nat.le_add_right _ _)
theorem dms_skip {s : mS} {t : Nat} {x y : Option mT} {w : Bool} {k : Nat} : ∀ {n : Nat}, (∀ j, k ≤ j → j < k + n → m_dM s t (wk w j) x y = []) → m_dms s t x y w (k + n) = m_dms s t x y w k
  | 0, _ => rfl
  | n + 1, h => by
    rw [show k + (n + 1) = (k + n) + 1 from rfl, m_dms, h (k + n) (by omega) (by omega), List.append_nil]
    exact dms_skip (fun j h1 h2 => h j h1 (by omega))
theorem dM_0 {s : mS} {t K : Nat} {x y : Option mT} (h1 : m_km x K = none) (h2 : m_km y K = none) : m_dM s t K x y = [] := by unfold m_dM; rw [h1, h2]
theorem dM_1 {s : mS} {t K : Nat} {x : Option mT} {m : mM} (h1 : m_km x K = some m) (h2 : s.2 (128 * t + K) = none) : m_dM s t K x none = [] := by unfold m_dM; rw [h1, km_0]; dsimp only; rw [h2]; rfl
theorem dM_2 {s : mS} {t K u : Nat} {x : Option mT} {m : mM} (h1 : m_km x K = some m) (h2 : s.2 (128 * t + K) = some u) : m_dM s t K x none = [(10, t, some K, some u)] := by unfold m_dM; rw [h1, km_0]; dsimp only; rw [h2]
set_option maxHeartbeats 4000000 in
set_option maxRecDepth 100000 in
theorem k_tellMembers_loop {E : jv_E} {z : Nat → Nat → Nat} {N : Nat → Nat → Nat} {h : jv_H} {s : mS} {L : List mR} (hdS : dS z h s L) (hs16 : ∀ K u, s.2 K = some u → u < 16) {a c : Nat} {x y : mT} (tlx : cl_t z N h a) (hvx : cv_T z N h a x) (hox : mt_ok x) (tly : cl_t z N h c) (hvy : cv_T z N h c y) (hoy : mt_ok y) (hn : mt_n y = mt_n x) (hux : m_uk x) (huy : m_uk y) {w : Bool} (hL : (L ++ (m_dms s (mt_n x) (some x) (some y) w 64)).length ≤ 230) {g : Nat} (hg64 : g < 2 ^ 64) (hgb : ∀ K, K < 64 → g.testBit K = ((m_km (some x) (wk w K)).isSome || (m_km (some y) (wk w K)).isSome)) (hlt : (jv_l E).stackTraces = false) (G : jv_C E cX1_tellMembers RX1 7) (Z : jv_rm E = jv_room 4 0 0) (hr : (jv_mt E).sig.returnType = none) : ∀ (n k : Nat) (h1 : jv_H), k + n = 64 → dF z h h1 → dS z h1 s (L ++ (m_dms s (mt_n x) (some x) (some y) w k)) → jv_V E 7 h1 0 0 (jv_Q E (fun y_ h' => y_ = none ∧ dF z h h' ∧ dS z h' s (L ++ (m_dms s (mt_n x) (some x) (some y) w 64))) jv_no 0 0) 16 [(6, .int (nI k)), (0, .ref (z 6 3)), (1, .ref a), (2, .ref c), (3, .int (jv_bI w)), (4, .long (lN g))] [] := by
  intro n
  induction n with
  | zero =>
    intro k h1 hn64 hF hd
    have lk := hdS.1; have lk1 := hd.1; have ck := hd.2.1; have q1 := hox.1
    refine jv_lload (q := 18) G 5 dX1_tellMembers_16 rfl rfl ?_
    refine jv_lconst (q := 19) (v := 0) G dX1_tellMembers_18 (by decide) rfl ?_
    refine jv_lcmp (q := 20) G dX1_tellMembers_19 rfl rfl ?_
    refine jv_if_eq (q := 23) (tgt := 55) G dX1_tellMembers_20 (by decide) rfl (fun c1 => ?_) (fun c1 => ?_)
    · refine jv_vret G hr dX1_tellMembers_55 (Nat.le_of_ble_eq_true rfl) (Nat.le_of_ble_eq_true rfl) ?_
      have hg0 : g = 0 := (lN_0 hg64).mp (lg_0.mp c1)
      have e64 : (m_dms s (mt_n x) (some x) (some y) w 64) = (m_dms s (mt_n x) (some x) (some y) w k) := by
        have := dms_skip (s := s) (t := mt_n x) (x := some x) (y := (some y)) (w := w) (k := k) (n := 64 - k) (fun j h1 h2 => by
          have hgj : g.testBit j = false := by rw [hg0, Nat.zero_testBit]
          have h9 := hgb j (by omega)
          rw [hgj] at h9
          have h8 := (Bool.or_eq_false_iff).mp h9.symm
          have e0 : m_dM s (mt_n x) (wk w j) (some x) (some y) = [] := dM_0 (by cases q : m_km (some x) (wk w j) with | none => rfl | some m => rw [q] at h8; exact absurd h8.1 (by simp)) (by cases q : m_km (some y) (wk w j) with | none => rfl | some m => rw [q] at h8; exact absurd h8.2 (by simp))
          exact e0)
        rw [show k + (64 - k) = 64 by omega] at this
        exact this
      rw [e64]; exact ⟨rfl, hF, hd⟩
    · refine jv_iload (q := 25) G 0 dX1_tellMembers_23 rfl rfl ?_
      refine jv_bipush (q := 27) (v := nI 64) G dX1_tellMembers_25 (by decide) rfl ?_
      refine jv_icmp_geN (q := 30) (tgt := 55) G dX1_tellMembers_27 (by decide) rfl (by omega) (by omega) (fun c2 => ?_) (fun c2 => ?_)
      · refine jv_vret G hr dX1_tellMembers_55 (Nat.le_of_ble_eq_true rfl) (Nat.le_of_ble_eq_true rfl) ?_
        rw [show k = 64 by omega] at hd
        exact ⟨rfl, hF, hd⟩
      · omega
  | succ n ih =>
    intro k h1 hn64 hF hd
    have lk := hdS.1; have lk1 := hd.1; have ck := hd.2.1; have q1 := hox.1
    have hm1 := dms_mono (s := s) (t := mt_n x) (x := some x) (y := (some y)) (w := w) (k := k + 1) (n := n)
    rw [show k + 1 + n = 64 by omega] at hm1
    rw [List.length_append] at hL
    have hk : k < 64 := by omega
    refine jv_lload (q := 18) G 5 dX1_tellMembers_16 rfl rfl ?_
    refine jv_lconst (q := 19) (v := 0) G dX1_tellMembers_18 (by decide) rfl ?_
    refine jv_lcmp (q := 20) G dX1_tellMembers_19 rfl rfl ?_
    refine jv_if_eq (q := 23) (tgt := 55) G dX1_tellMembers_20 (by decide) rfl (fun c1 => ?_) (fun c1 => ?_)
    · refine jv_vret G hr dX1_tellMembers_55 (Nat.le_of_ble_eq_true rfl) (Nat.le_of_ble_eq_true rfl) ?_
      have hg0 : g = 0 := (lN_0 hg64).mp (lg_0.mp c1)
      have e64 : (m_dms s (mt_n x) (some x) (some y) w 64) = (m_dms s (mt_n x) (some x) (some y) w k) := by
        have := dms_skip (s := s) (t := mt_n x) (x := some x) (y := (some y)) (w := w) (k := k) (n := 64 - k) (fun j h1 h2 => by
          have hgj : g.testBit j = false := by rw [hg0, Nat.zero_testBit]
          have h9 := hgb j (by omega)
          rw [hgj] at h9
          have h8 := (Bool.or_eq_false_iff).mp h9.symm
          have e0 : m_dM s (mt_n x) (wk w j) (some x) (some y) = [] := dM_0 (by cases q : m_km (some x) (wk w j) with | none => rfl | some m => rw [q] at h8; exact absurd h8.1 (by simp)) (by cases q : m_km (some y) (wk w j) with | none => rfl | some m => rw [q] at h8; exact absurd h8.2 (by simp))
          exact e0)
        rw [show k + (64 - k) = 64 by omega] at this
        exact this
      rw [e64]; exact ⟨rfl, hF, hd⟩
    · refine jv_iload (q := 25) G 0 dX1_tellMembers_23 rfl rfl ?_
      refine jv_bipush (q := 27) (v := nI 64) G dX1_tellMembers_25 (by decide) rfl ?_
      refine jv_icmp_geN (q := 30) (tgt := 55) G dX1_tellMembers_27 (by decide) rfl (by omega) (by omega) (fun c2 => ?_) (fun c2 => ?_)
      · omega
      · refine jv_lload (q := 32) G 5 dX1_tellMembers_30 rfl rfl ?_
        refine jv_iload (q := 34) G 0 dX1_tellMembers_32 rfl rfl ?_
        refine jv_callSN_I (q := 37) (h1 := h1) (As := [.long (lN g), .int (nI k)]) (rest := []) (ce' := 0) (sl' := 0) (r := jv_bI (g.testBit k)) G Z ml_X1_85 (jv_p1 746 (by decide +kernel) rfl) (k_hasBit hlt (by omega)) dX1_tellMembers_34 rfl (by decide) (by decide) (by decide) (by decide) (Nat.le_of_ble_eq_true rfl) rfl rfl rfl rfl ?_
        refine jv_if_eqB (q := 40) (tgt := 49) G dX1_tellMembers_37 (by decide) rfl (fun c3 => ?_) (fun c3 => ?_)
        · refine jv_iinc (q := 52) (lo' := [(6, .int (nI (k + 1))), (0, .ref (z 6 3)), (1, .ref a), (2, .ref c), (3, .int (jv_bI w)), (4, .long (lN g))]) (v := nI (k + 1)) G 0 dX1_tellMembers_49 rfl (nI_1 k) (by decide) rfl rfl ?_
          refine jv_goto (q := 16) G dX1_tellMembers_52 (by decide) ?_
          refine jv_lo [0, 1, 2, 3, 4, 5] (lo' := [(6, .int (nI (k + 1))), (0, .ref (z 6 3)), (1, .ref a), (2, .ref c), (3, .int (jv_bI w)), (4, .long (lN g))]) rfl ?_
          have h9 := hgb k (by omega)
          rw [c3] at h9
          have h8 := (Bool.or_eq_false_iff).mp h9.symm
          have e0 : m_dM s (mt_n x) (wk w k) (some x) (some y) = [] := dM_0 (by cases q : m_km (some x) (wk w k) with | none => rfl | some m => rw [q] at h8; exact absurd h8.1 (by simp)) (by cases q : m_km (some y) (wk w k) with | none => rfl | some m => rw [q] at h8; exact absurd h8.2 (by simp))
          refine ih (k + 1) _ (by omega) hF ?_
          rw [m_dms, e0, List.append_nil]; exact hd
        · refine jv_aload_n (q := 41) G 1 dX1_tellMembers_40 rfl rfl rfl ?_
          refine jv_aload_n (q := 42) G 2 dX1_tellMembers_41 rfl rfl rfl ?_
          refine jv_aload_n (q := 43) G 3 dX1_tellMembers_42 rfl rfl rfl ?_
          refine jv_iload_n (q := 44) G 4 dX1_tellMembers_43 rfl rfl rfl ?_
          refine jv_iload (q := 46) G 0 dX1_tellMembers_44 rfl rfl ?_
          refine jv_callV (q := 49) (As := [.ref a, .ref c, .int (jv_bI w), .int (nI k)]) (rest := []) G Z ml_X1_168 (k_tellMember hlt hd hs16 (hF.1.t tlx) (sd_T lk hF.1 tlx hvx hox) hox (hF.1.t tly) (sd_T lk hF.1 tly hvy hoy) hoy hn hk (by rw [List.append_assoc, List.length_append]; exact Nat.le_trans (Nat.add_le_add_left hm1 _) hL)) lk1.1 dX1_tellMembers_46 rfl (by decide) (by decide) (by decide) (by decide) (Nat.le_of_ble_eq_true rfl) rfl rfl (fun v5 h4 y6 => ?_) (fun _ _ hx => hx.elim)
          obtain ⟨rfl, hF2, hd2⟩ := y6
          show jv_V E 7 h4 0 0 (jv_Q E (fun y_ h' => y_ = none ∧ dF z h h' ∧ dS z h' s (L ++ (m_dms s (mt_n x) (some x) (some y) w 64))) jv_no 0 0) 49 [(6, .int (nI k)), (0, .ref (z 6 3)), (1, .ref a), (2, .ref c), (3, .int (jv_bI w)), (4, .long (lN g))] []
          refine jv_iinc (q := 52) (lo' := [(6, .int (nI (k + 1))), (0, .ref (z 6 3)), (1, .ref a), (2, .ref c), (3, .int (jv_bI w)), (4, .long (lN g))]) (v := nI (k + 1)) G 0 dX1_tellMembers_49 rfl (nI_1 k) (by decide) rfl rfl ?_
          refine jv_goto (q := 16) G dX1_tellMembers_52 (by decide) ?_
          refine jv_lo [0, 1, 2, 3, 4, 5] (lo' := [(6, .int (nI (k + 1))), (0, .ref (z 6 3)), (1, .ref a), (2, .ref c), (3, .int (jv_bI w)), (4, .long (lN g))]) rfl ?_
          rw [List.append_assoc] at hd2
          exact ih (k + 1) _ (by omega) (hF.tr hF2) hd2
set_option maxHeartbeats 4000000 in
set_option maxRecDepth 100000 in
theorem k_tellMembers {lA : Launch} (hlt : lA.stackTraces = false) {D : jv_D} {base : Nat} {z : Nat → Nat → Nat} {N : Nat → Nat → Nat} {h : jv_H} {s : mS} {L : List mR} (hdS : dS z h s L) (hs16 : ∀ K u, s.2 K = some u → u < 16) {a c : Nat} {x y : mT} (tlx : cl_t z N h a) (hvx : cv_T z N h a x) (hox : mt_ok x) (tly : cl_t z N h c) (hvy : cv_T z N h c y) (hoy : mt_ok y) (hn : mt_n y = mt_n x) (hux : m_uk x) (huy : m_uk y) {w : Bool} (hL : (L ++ (m_dms s (mt_n x) (some x) (some y) w 64)).length ≤ 230) : jv_Met lA D base yX1_tellMembers (.code yX1_tellMembers cX1_tellMembers 7 none) 4 0 0 [.ref (z 6 3), .ref a, .ref c, .int (jv_bI w)] h (fun y_ h' => y_ = none ∧ dF z h h' ∧ dS z h' s (L ++ (m_dms s (mt_n x) (some x) (some y) w 64))) jv_no := by
  refine jv_ofV (lo := [(0, .ref (z 6 3)), (1, .ref a), (2, .ref c), (3, .int (jv_bI w))]) hlt (by decide) (Nat.le_of_ble_eq_true rfl) rfl (fun E hEl hEd hEz Z G hr ht hnm => ?_)
  subst hEl; subst hEd; subst hEz
  have lk := hdS.1
  refine jv_aload_n (q := 1) G 1 dX1_tellMembers_0 rfl rfl rfl ?_
  refine jv_iload_n (q := 2) G 3 dX1_tellMembers_1 rfl rfl rfl ?_
  refine jv_callV_L (q := 5) (h1 := h) (As := [.int (jv_bI w)]) (rest := []) (ce' := 0) (sl' := 0) G Z ml_X1_80 (k_keys hlt tlx hvx hox) tlx.1 dX1_tellMembers_2 rfl (by decide) (by decide) (by decide) (by decide) (Nat.le_of_ble_eq_true rfl) rfl rfl rfl rfl ?_
  refine jv_aload_n (q := 6) G 2 dX1_tellMembers_5 rfl rfl rfl ?_
  refine jv_iload_n (q := 7) G 3 dX1_tellMembers_6 rfl rfl rfl ?_
  refine jv_callV_L (q := 10) (h1 := h) (As := [.int (jv_bI w)]) (rest := [.long (lN (m_ks w (mt_m x)))]) (ce' := 0) (sl' := 0) G Z ml_X1_80 (k_keys hlt tly hvy hoy) tly.1 dX1_tellMembers_7 rfl (by decide) (by decide) (by decide) (by decide) (Nat.le_of_ble_eq_true rfl) rfl rfl rfl rfl ?_
  refine jv_lor (q := 11) G dX1_tellMembers_10 rfl ?_
  refine jv_topL (y := lN (m_ks w (mt_m x) ||| m_ks w (mt_m y))) (fb_orN _ _) ?_
  refine jv_lstore (q := 13) (lo' := [(4, .long (lN (m_ks w (mt_m x) ||| m_ks w (mt_m y)))), (0, .ref (z 6 3)), (1, .ref a), (2, .ref c), (3, .int (jv_bI w))]) G dX1_tellMembers_11 (by decide) rfl rfl ?_
  refine jv_iconst (q := 14) (v := nI 0) G dX1_tellMembers_13 (by decide) rfl ?_
  refine jv_istore (q := 16) (lo' := [(6, .int (nI 0)), (4, .long (lN (m_ks w (mt_m x) ||| m_ks w (mt_m y)))), (0, .ref (z 6 3)), (1, .ref a), (2, .ref c), (3, .int (jv_bI w))]) G dX1_tellMembers_14 (by decide) rfl rfl ?_
  refine jv_lo [0, 2, 3, 4, 5, 1] (lo' := [(6, .int (nI 0)), (0, .ref (z 6 3)), (1, .ref a), (2, .ref c), (3, .int (jv_bI w)), (4, .long (lN (m_ks w (mt_m x) ||| m_ks w (mt_m y))))]) rfl ?_
  exact k_tellMembers_loop hdS hs16 tlx hvx hox tly hvy hoy hn hux huy hL (g := (m_ks w (mt_m x) ||| m_ks w (mt_m y))) (Nat.or_lt_two_pow (ks_lt hox.2.2.2.2.2.2) (ks_lt hoy.2.2.2.2.2.2)) (fun K hK2 => by rw [Nat.testBit_or, has_km hox hux hK2, has_km hoy huy hK2]) hlt G Z hr 64 0 _ (by omega) dF.rf (by rw [m_dms, List.append_nil]; exact hdS)
set_option maxHeartbeats 4000000 in
set_option maxRecDepth 100000 in
theorem k_tellMoves_loop {E : jv_E} {z : Nat → Nat → Nat} {N : Nat → Nat → Nat} {h : jv_H} {s : mS} {L : List mR} (hdS : dS z h s L) (hs16 : ∀ K u, s.2 K = some u → u < 16) {a : Nat} {x : mT} (tlx : cl_t z N h a) (hvx : cv_T z N h a x) (hox : mt_ok x) (hux : m_uk x) {w : Bool} (hL : (L ++ (m_dms s (mt_n x) (some x) none w 64)).length ≤ 230) {g : Nat} (hg64 : g < 2 ^ 64) (hgb : ∀ K, K < 64 → g.testBit K = ((m_km (some x) (wk w K)).isSome)) (hlt : (jv_l E).stackTraces = false) (G : jv_C E cX1_tellMoves RX1 7) (Z : jv_rm E = jv_room 3 0 0) (hr : (jv_mt E).sig.returnType = none) : ∀ (n k : Nat) (h1 : jv_H), k + n = 64 → dF z h h1 → dS z h1 s (L ++ (m_dms s (mt_n x) (some x) none w k)) → jv_V E 7 h1 0 0 (jv_Q E (fun y_ h' => y_ = none ∧ dF z h h' ∧ dS z h' s (L ++ (m_dms s (mt_n x) (some x) none w 64))) jv_no 0 0) 9 [(5, .int (nI k)), (0, .ref (z 6 3)), (1, .ref a), (2, .int (jv_bI w)), (3, .long (lN g))] [] := by
  intro n
  induction n with
  | zero =>
    intro k h1 hn64 hF hd
    have lk := hdS.1; have lk1 := hd.1; have ck := hd.2.1; have q1 := hox.1
    refine jv_lload_n (q := 10) G 4 dX1_tellMoves_9 rfl rfl rfl ?_
    refine jv_lconst (q := 11) (v := 0) G dX1_tellMoves_10 (by decide) rfl ?_
    refine jv_lcmp (q := 12) G dX1_tellMoves_11 rfl rfl ?_
    refine jv_if_eq (q := 15) (tgt := 79) G dX1_tellMoves_12 (by decide) rfl (fun c1 => ?_) (fun c1 => ?_)
    · refine jv_vret G hr dX1_tellMoves_79 (Nat.le_of_ble_eq_true rfl) (Nat.le_of_ble_eq_true rfl) ?_
      have hg0 : g = 0 := (lN_0 hg64).mp (lg_0.mp c1)
      have e64 : (m_dms s (mt_n x) (some x) none w 64) = (m_dms s (mt_n x) (some x) none w k) := by
        have := dms_skip (s := s) (t := mt_n x) (x := some x) (y := none) (w := w) (k := k) (n := 64 - k) (fun j h1 h2 => by
          have hgj : g.testBit j = false := by rw [hg0, Nat.zero_testBit]
          have h9 := hgb j (by omega)
          rw [hgj] at h9
          have e0 : m_dM s (mt_n x) (wk w j) (some x) none = [] := dM_0 (by cases q : m_km (some x) (wk w j) with | none => rfl | some m => rw [q] at h9; exact absurd h9 (by simp)) rfl
          exact e0)
        rw [show k + (64 - k) = 64 by omega] at this
        exact this
      rw [e64]; exact ⟨rfl, hF, hd⟩
    · refine jv_iload (q := 17) G 0 dX1_tellMoves_15 rfl rfl ?_
      refine jv_bipush (q := 19) (v := nI 64) G dX1_tellMoves_17 (by decide) rfl ?_
      refine jv_icmp_geN (q := 22) (tgt := 79) G dX1_tellMoves_19 (by decide) rfl (by omega) (by omega) (fun c2 => ?_) (fun c2 => ?_)
      · refine jv_vret G hr dX1_tellMoves_79 (Nat.le_of_ble_eq_true rfl) (Nat.le_of_ble_eq_true rfl) ?_
        rw [show k = 64 by omega] at hd
        exact ⟨rfl, hF, hd⟩
      · omega
  | succ n ih =>
    intro k h1 hn64 hF hd
    have lk := hdS.1; have lk1 := hd.1; have ck := hd.2.1; have q1 := hox.1
    have hm1 := dms_mono (s := s) (t := mt_n x) (x := some x) (y := none) (w := w) (k := k + 1) (n := n)
    rw [show k + 1 + n = 64 by omega] at hm1
    rw [List.length_append] at hL
    have hk : k < 64 := by omega
    refine jv_lload_n (q := 10) G 4 dX1_tellMoves_9 rfl rfl rfl ?_
    refine jv_lconst (q := 11) (v := 0) G dX1_tellMoves_10 (by decide) rfl ?_
    refine jv_lcmp (q := 12) G dX1_tellMoves_11 rfl rfl ?_
    refine jv_if_eq (q := 15) (tgt := 79) G dX1_tellMoves_12 (by decide) rfl (fun c1 => ?_) (fun c1 => ?_)
    · refine jv_vret G hr dX1_tellMoves_79 (Nat.le_of_ble_eq_true rfl) (Nat.le_of_ble_eq_true rfl) ?_
      have hg0 : g = 0 := (lN_0 hg64).mp (lg_0.mp c1)
      have e64 : (m_dms s (mt_n x) (some x) none w 64) = (m_dms s (mt_n x) (some x) none w k) := by
        have := dms_skip (s := s) (t := mt_n x) (x := some x) (y := none) (w := w) (k := k) (n := 64 - k) (fun j h1 h2 => by
          have hgj : g.testBit j = false := by rw [hg0, Nat.zero_testBit]
          have h9 := hgb j (by omega)
          rw [hgj] at h9
          have e0 : m_dM s (mt_n x) (wk w j) (some x) none = [] := dM_0 (by cases q : m_km (some x) (wk w j) with | none => rfl | some m => rw [q] at h9; exact absurd h9 (by simp)) rfl
          exact e0)
        rw [show k + (64 - k) = 64 by omega] at this
        exact this
      rw [e64]; exact ⟨rfl, hF, hd⟩
    · refine jv_iload (q := 17) G 0 dX1_tellMoves_15 rfl rfl ?_
      refine jv_bipush (q := 19) (v := nI 64) G dX1_tellMoves_17 (by decide) rfl ?_
      refine jv_icmp_geN (q := 22) (tgt := 79) G dX1_tellMoves_19 (by decide) rfl (by omega) (by omega) (fun c2 => ?_) (fun c2 => ?_)
      · omega
      · refine jv_lload_n (q := 23) G 4 dX1_tellMoves_22 rfl rfl rfl ?_
        refine jv_iload (q := 25) G 0 dX1_tellMoves_23 rfl rfl ?_
        refine jv_callSN_I (q := 28) (h1 := h1) (As := [.long (lN g), .int (nI k)]) (rest := []) (ce' := 0) (sl' := 0) (r := jv_bI (g.testBit k)) G Z ml_X1_85 (jv_p1 746 (by decide +kernel) rfl) (k_hasBit hlt (by omega)) dX1_tellMoves_25 rfl (by decide) (by decide) (by decide) (by decide) (Nat.le_of_ble_eq_true rfl) rfl rfl rfl rfl ?_
        refine jv_if_eqB (q := 31) (tgt := 49) G dX1_tellMoves_28 (by decide) rfl (fun c3 => ?_) (fun c3 => ?_)
        · refine jv_iconst (q := 50) (v := (-1)) G dX1_tellMoves_49 (by decide) rfl ?_
          refine jv_istore (q := 52) (lo' := [(6, .int (-1)), (5, .int (nI k)), (0, .ref (z 6 3)), (1, .ref a), (2, .int (jv_bI w)), (3, .long (lN g))]) G dX1_tellMoves_50 (by decide) rfl rfl ?_
          refine jv_iload (q := 54) G 0 dX1_tellMoves_52 rfl rfl ?_
          refine jv_iconst (q := 55) (v := (-1)) G dX1_tellMoves_54 (by decide) rfl ?_
          refine jv_icmp_eq (q := 58) (tgt := 73) G dX1_tellMoves_55 (by decide) rfl (fun c4 => ?_) (fun c4 => ?_)
          · refine jv_iinc (q := 76) (lo' := [(5, .int (nI (k + 1))), (6, .int (-1)), (0, .ref (z 6 3)), (1, .ref a), (2, .int (jv_bI w)), (3, .long (lN g))]) (v := nI (k + 1)) G 1 dX1_tellMoves_73 rfl (nI_1 k) (by decide) rfl rfl ?_
            refine jv_goto (q := 9) G dX1_tellMoves_76 (by decide) ?_
            refine jv_lo [0, 2, 3, 4, 5] (lo' := [(5, .int (nI (k + 1))), (0, .ref (z 6 3)), (1, .ref a), (2, .int (jv_bI w)), (3, .long (lN g))]) rfl ?_
            have h9 := hgb k (by omega)
            rw [c3] at h9
            have e0 : m_dM s (mt_n x) (wk w k) (some x) none = [] := dM_0 (by cases q : m_km (some x) (wk w k) with | none => rfl | some m => rw [q] at h9; exact absurd h9 (by simp)) rfl
            refine ih (k + 1) _ (by omega) hF ?_
            rw [m_dms, e0, List.append_nil]; exact hd
          · exact absurd rfl c4
        · refine jv_aload_n (q := 32) G 1 dX1_tellMoves_31 rfl rfl rfl ?_
          refine jv_getQ (q := 35) G dX1_tellMoves_32 fl_X1_35 rfl lk1.1 (ck_p lk1 8 (by decide) (by decide)) rfl ?_
          refine jv_aload_n (q := 36) G 2 dX1_tellMoves_35 rfl rfl rfl ?_
          refine jv_getI (q := 39) G dX1_tellMoves_36 fl_X1_75 rfl (hF.1.t tlx).1 (ct_0 (sd_T lk hF.1 tlx hvx hox)) rfl ?_
          refine jv_iload_n (q := 40) G 3 dX1_tellMoves_39 rfl rfl rfl ?_
          refine jv_iload (q := 42) G 0 dX1_tellMoves_40 rfl rfl ?_
          refine jv_callS_I (q := 45) (h1 := h1) (As := [.int (nI (mt_n x)), .int (jv_bI w), .int (nI k)]) (rest := [.ref (z 7 8)]) (ce' := 0) (sl' := 0) (r := nI (128 * mt_n x + wk w k)) G Z ml_X1_114 (k_spotOf hlt) dX1_tellMoves_42 rfl (by decide) (by decide) (by decide) (by decide) (Nat.le_of_ble_eq_true rfl) rfl rfl rfl rfl ?_
          have hwk : wk w k < 128 := by unfold wk; split <;> omega
          rcases Option.eq_none_or_eq_some (s.2 (128 * mt_n x + wk w k)) with hsv | ⟨u, hsv⟩
          · refine jv_iald (q := 46) G dX1_tellMoves_45 (ck_s8 lk1) rfl (by omega) (by decide) ((ck.1 _ (by omega)).trans (congrArg jv_oN hsv)) rfl ?_
            refine jv_goto (q := 50) G dX1_tellMoves_46 (by decide) ?_
            refine jv_istore (q := 52) (lo' := [(6, .int (-1)), (5, .int (nI k)), (0, .ref (z 6 3)), (1, .ref a), (2, .int (jv_bI w)), (3, .long (lN g))]) G dX1_tellMoves_50 (by decide) rfl rfl ?_
            refine jv_iload (q := 54) G 0 dX1_tellMoves_52 rfl rfl ?_
            refine jv_iconst (q := 55) (v := (-1)) G dX1_tellMoves_54 (by decide) rfl ?_
            refine jv_icmp_eq (q := 58) (tgt := 73) G dX1_tellMoves_55 (by decide) rfl (fun c5 => ?_) (fun c5 => ?_)
            · refine jv_iinc (q := 76) (lo' := [(5, .int (nI (k + 1))), (6, .int (-1)), (0, .ref (z 6 3)), (1, .ref a), (2, .int (jv_bI w)), (3, .long (lN g))]) (v := nI (k + 1)) G 1 dX1_tellMoves_73 rfl (nI_1 k) (by decide) rfl rfl ?_
              refine jv_goto (q := 9) G dX1_tellMoves_76 (by decide) ?_
              refine jv_lo [0, 2, 3, 4, 5] (lo' := [(5, .int (nI (k + 1))), (0, .ref (z 6 3)), (1, .ref a), (2, .int (jv_bI w)), (3, .long (lN g))]) rfl ?_
              have h9 := hgb k (by omega)
              rw [c3] at h9
              obtain ⟨m, hm⟩ := Option.isSome_iff_exists.mp h9.symm
              have e0 := dM_1 hm hsv
              refine ih (k + 1) _ (by omega) hF ?_
              rw [m_dms, e0, List.append_nil]; exact hd
            · exact absurd rfl c5
          · have hu16 := hs16 _ _ hsv
            refine jv_iald (q := 46) G dX1_tellMoves_45 (ck_s8 lk1) rfl (by omega) (by decide) ((ck.1 _ (by omega)).trans (congrArg jv_oN hsv)) rfl ?_
            refine jv_goto (q := 50) G dX1_tellMoves_46 (by decide) ?_
            refine jv_istore (q := 52) (lo' := [(6, .int (nI u)), (5, .int (nI k)), (0, .ref (z 6 3)), (1, .ref a), (2, .int (jv_bI w)), (3, .long (lN g))]) G dX1_tellMoves_50 (by decide) rfl rfl ?_
            refine jv_iload (q := 54) G 0 dX1_tellMoves_52 rfl rfl ?_
            refine jv_iconst (q := 55) (v := (-1)) G dX1_tellMoves_54 (by decide) rfl ?_
            refine jv_icmp_eq (q := 58) (tgt := 73) G dX1_tellMoves_55 (by decide) rfl (fun c6 => ?_) (fun c6 => ?_)
            · exact absurd c6 (jv_nI_m1 (by omega))
            · refine jv_aload_n (q := 59) G 2 dX1_tellMoves_58 rfl rfl rfl ?_
              refine jv_bipush (q := 61) (v := nI 10) G dX1_tellMoves_59 (by decide) rfl ?_
              refine jv_aload_n (q := 62) G 3 dX1_tellMoves_61 rfl rfl rfl ?_
              refine jv_getI (q := 65) G dX1_tellMoves_62 fl_X1_75 rfl (hF.1.t tlx).1 (ct_0 (sd_T lk hF.1 tlx hvx hox)) rfl ?_
              refine jv_iload_n (q := 66) G 4 dX1_tellMoves_65 rfl rfl rfl ?_
              refine jv_iload (q := 68) G 1 dX1_tellMoves_66 rfl rfl ?_
              refine jv_iload (q := 70) G 0 dX1_tellMoves_68 rfl rfl ?_
              have h9 := hgb k (by omega)
              rw [c3] at h9
              obtain ⟨m, hm⟩ := Option.isSome_iff_exists.mp h9.symm
              have eM := dM_2 hm hsv
              rw [m_dms, eM, List.length_append, List.length_singleton] at hm1
              refine jv_callV (q := 73) (As := [.int (nI 10), .int (nI (mt_n x)), .int (jv_bI w), .int (nI k), .int (nI u)]) (rest := []) G Z ml_X1_130 (k_tell (t := mt_n x) (num := 10) (w := w) (ko := some k) (go := some u) hlt hd (by rw [List.length_append]; omega) (fun K q => by cases q; exact hk) (fun q => by cases q)) lk1.1 dX1_tellMoves_70 rfl (by decide) (by decide) (by decide) (by decide) (Nat.le_of_ble_eq_true rfl) rfl rfl (fun v8 h7 y9 => ?_) (fun _ _ hx => hx.elim)
              obtain ⟨rfl, hF2, hd2⟩ := y9
              show jv_V E 7 h7 0 0 (jv_Q E (fun y_ h' => y_ = none ∧ dF z h h' ∧ dS z h' s (L ++ (m_dms s (mt_n x) (some x) none w 64))) jv_no 0 0) 73 [(6, .int (nI u)), (5, .int (nI k)), (0, .ref (z 6 3)), (1, .ref a), (2, .int (jv_bI w)), (3, .long (lN g))] []
              refine jv_iinc (q := 76) (lo' := [(5, .int (nI (k + 1))), (6, .int (nI u)), (0, .ref (z 6 3)), (1, .ref a), (2, .int (jv_bI w)), (3, .long (lN g))]) (v := nI (k + 1)) G 1 dX1_tellMoves_73 rfl (nI_1 k) (by decide) rfl rfl ?_
              refine jv_goto (q := 9) G dX1_tellMoves_76 (by decide) ?_
              refine jv_lo [0, 2, 3, 4, 5] (lo' := [(5, .int (nI (k + 1))), (0, .ref (z 6 3)), (1, .ref a), (2, .int (jv_bI w)), (3, .long (lN g))]) rfl ?_
              rw [show [((10 : Nat), mt_n x, Option.map (wk w) (some k), some u)] = m_dM s (mt_n x) (wk w k) (some x) none from eM.symm] at hd2
              rw [List.append_assoc] at hd2
              exact ih (k + 1) _ (by omega) (hF.tr hF2) hd2
set_option maxHeartbeats 4000000 in
set_option maxRecDepth 100000 in
theorem k_tellMoves {lA : Launch} (hlt : lA.stackTraces = false) {D : jv_D} {base : Nat} {z : Nat → Nat → Nat} {N : Nat → Nat → Nat} {h : jv_H} {s : mS} {L : List mR} (hdS : dS z h s L) (hs16 : ∀ K u, s.2 K = some u → u < 16) {a : Nat} {x : mT} (tlx : cl_t z N h a) (hvx : cv_T z N h a x) (hox : mt_ok x) (hux : m_uk x) {w : Bool} (hL : (L ++ (m_dms s (mt_n x) (some x) none w 64)).length ≤ 230) : jv_Met lA D base yX1_tellMoves (.code yX1_tellMoves cX1_tellMoves 7 none) 3 0 0 [.ref (z 6 3), .ref a, .int (jv_bI w)] h (fun y_ h' => y_ = none ∧ dF z h h' ∧ dS z h' s (L ++ (m_dms s (mt_n x) (some x) none w 64))) jv_no := by
  refine jv_ofV (lo := [(0, .ref (z 6 3)), (1, .ref a), (2, .int (jv_bI w))]) hlt (by decide) (Nat.le_of_ble_eq_true rfl) rfl (fun E hEl hEd hEz Z G hr ht hnm => ?_)
  subst hEl; subst hEd; subst hEz
  have lk := hdS.1
  refine jv_aload_n (q := 1) G 1 dX1_tellMoves_0 rfl rfl rfl ?_
  refine jv_iload_n (q := 2) G 2 dX1_tellMoves_1 rfl rfl rfl ?_
  refine jv_callV_L (q := 5) (h1 := h) (As := [.int (jv_bI w)]) (rest := []) (ce' := 0) (sl' := 0) G Z ml_X1_80 (k_keys hlt tlx hvx hox) tlx.1 dX1_tellMoves_2 rfl (by decide) (by decide) (by decide) (by decide) (Nat.le_of_ble_eq_true rfl) rfl rfl rfl rfl ?_
  refine jv_lstore_n (q := 6) (lo' := [(3, .long (lN (m_ks w (mt_m x)))), (0, .ref (z 6 3)), (1, .ref a), (2, .int (jv_bI w))]) G dX1_tellMoves_5 rfl (by decide) rfl rfl ?_
  refine jv_iconst (q := 7) (v := nI 0) G dX1_tellMoves_6 (by decide) rfl ?_
  refine jv_istore (q := 9) (lo' := [(5, .int (nI 0)), (3, .long (lN (m_ks w (mt_m x)))), (0, .ref (z 6 3)), (1, .ref a), (2, .int (jv_bI w))]) G dX1_tellMoves_7 (by decide) rfl rfl ?_
  refine jv_lo [0, 2, 3, 4, 1] (lo' := [(5, .int (nI 0)), (0, .ref (z 6 3)), (1, .ref a), (2, .int (jv_bI w)), (3, .long (lN (m_ks w (mt_m x))))]) rfl ?_
  exact k_tellMoves_loop hdS hs16 tlx hvx hox hux hL (g := (m_ks w (mt_m x))) (ks_lt hox.2.2.2.2.2.2) (fun K hK2 => by rw [has_km hox hux hK2]) hlt G Z hr 64 0 _ (by omega) dF.rf (by rw [m_dms, List.append_nil]; exact hdS)
