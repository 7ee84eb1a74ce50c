def m_d2 (s : mS) (t : Nat) (x y : Option mT) : List mR := m_dH t x y ++ (if x.isSome then m_dMs s t x y 128 else [])
theorem d2_dt {A B : List mT} {s : mS} {t : Nat} : m_dt A B s t = m_d2 s t (m_ty1 A t) (m_ty1 B t) := rfl
theorem d2_11 {s : mS} {t : Nat} {x y : mT} : m_d2 s t (some x) (some y) = m_dT t x y ++ (m_dms s t (some x) (some y) false 64 ++ m_dms s t (some x) (some y) true 64) := by
  unfold m_d2; rw [dms_all]; rfl
theorem d2_10 {s : mS} {t : Nat} {x : mT} : m_d2 s t (some x) none = [(1, t, none, none)] ++ (m_dms s t (some x) none false 64 ++ m_dms s t (some x) none true 64) := by
  unfold m_d2; rw [dms_all]; rfl
theorem d2_01 {s : mS} {t : Nat} {y : mT} : m_d2 s t none (some y) = [(2, t, none, none)] := rfl
theorem d2_00 {s : mS} {t : Nat} : m_d2 s t none none = [] := rfl
set_option maxHeartbeats 4000000 in
set_option maxRecDepth 100000 in
theorem k_tellType00 {lA : Launch} (hlt : lA.stackTraces = false) {D : jv_D} {base : Nat} {z : Nat → Nat → Nat} {N : Nat → Nat → Nat} {h : jv_H} {s : mS} {L : List mR} (hdS : dS z h s L) (hs16 : ∀ K u, s.2 K = some u → u < 16) {t : Nat} (hL : (L ++ (m_d2 s t none none)).length ≤ 230) : jv_Met lA D base yX1_tellType (.code yX1_tellType cX1_tellType 3 none) 5 0 0 [.ref (z 6 3), va_rf none, va_rf none] h (fun y_ h' => y_ = none ∧ dF z h h' ∧ dS z h' s (L ++ (m_d2 s t none none))) jv_no := by
  refine jv_ofV (lo := [(0, .ref (z 6 3)), (1, va_rf none), (2, va_rf none)]) hlt (by decide) (Nat.le_of_ble_eq_true rfl) rfl (fun E hEl hEd hEz Z G hr ht hnm => ?_)
  subst hEl; subst hEd; subst hEz
  rw [d2_00] at hL
  have hF : dF z h h := dF.rf
  have hd := hdS
  have lk := hdS.1
  simp only [List.length_append, List.length_singleton] at hL
  refine jv_aload_nR (q := 1) G 1 dX1_tellType_0 rfl rfl rfl ?_
  refine jv_ifnull (q := 4) (tgt := 31) (x := none) G dX1_tellType_1 (by decide) rfl (fun c1 => ?_) (fun a2 c1 => ?_)
  · refine jv_aload_nR (q := 32) G 1 dX1_tellType_31 rfl rfl rfl ?_
    refine jv_ifnull (q := 35) (tgt := 56) (x := none) G dX1_tellType_32 (by decide) rfl (fun c3 => ?_) (fun a4 c3 => ?_)
    · refine jv_aload_nR (q := 57) G 2 dX1_tellType_56 rfl rfl rfl ?_
      refine jv_ifnull (q := 60) (tgt := 66) (x := none) G dX1_tellType_57 (by decide) rfl (fun c5 => ?_) (fun a6 c5 => ?_)
      · refine jv_vret G hr dX1_tellType_66 (Nat.le_of_ble_eq_true rfl) (Nat.le_of_ble_eq_true rfl) ?_
        rw [d2_00, List.append_nil]; exact ⟨rfl, hF, hd⟩
      · cases c5
    · cases c3
  · cases c1
set_option maxHeartbeats 4000000 in
set_option maxRecDepth 100000 in
theorem k_tellType01 {lA : Launch} (hlt : lA.stackTraces = false) {D : jv_D} {base : Nat} {z : Nat → Nat → Nat} {N : Nat → Nat → Nat} {h : jv_H} {s : mS} {L : List mR} (hdS : dS z h s L) (hs16 : ∀ K u, s.2 K = some u → u < 16) {t : Nat} {c : Nat} {y : mT} (tly : cl_t z N h c) (hvy : cv_T z N h c y) (hoy : mt_ok y) (huy : m_uk y) (hny : mt_n y = t) (hL : (L ++ (m_d2 s t none (some y))).length ≤ 230) : jv_Met lA D base yX1_tellType (.code yX1_tellType cX1_tellType 3 none) 5 0 0 [.ref (z 6 3), va_rf none, .ref c] h (fun y_ h' => y_ = none ∧ dF z h h' ∧ dS z h' s (L ++ (m_d2 s t none (some y)))) jv_no := by
  refine jv_ofV (lo := [(0, .ref (z 6 3)), (1, va_rf none), (2, .ref c)]) hlt (by decide) (Nat.le_of_ble_eq_true rfl) rfl (fun E hEl hEd hEz Z G hr ht hnm => ?_)
  subst hEl; subst hEd; subst hEz
  rw [d2_01] at hL
  have hF : dF z h h := dF.rf
  have hd := hdS
  have lk := hdS.1
  simp only [List.length_append, List.length_singleton] at hL
  refine jv_aload_nR (q := 1) G 1 dX1_tellType_0 rfl rfl rfl ?_
  refine jv_ifnull (q := 4) (tgt := 31) (x := none) G dX1_tellType_1 (by decide) rfl (fun c1 => ?_) (fun a2 c1 => ?_)
  · refine jv_aload_nR (q := 32) G 1 dX1_tellType_31 rfl rfl rfl ?_
    refine jv_ifnull (q := 35) (tgt := 56) (x := none) G dX1_tellType_32 (by decide) rfl (fun c3 => ?_) (fun a4 c3 => ?_)
    · refine jv_aload_n (q := 57) G 2 dX1_tellType_56 rfl rfl rfl ?_
      refine jv_ifnull (q := 60) (tgt := 66) (x := (some c)) G dX1_tellType_57 (by decide) rfl (fun c5 => ?_) (fun a6 c5 => ?_)
      · cases c5
      · refine jv_aload_n (q := 61) G 0 dX1_tellType_60 rfl rfl rfl ?_
        refine jv_iconst (q := 62) (v := nI 2) G dX1_tellType_61 (by decide) rfl ?_
        refine jv_aload_n (q := 63) G 2 dX1_tellType_62 rfl rfl rfl ?_
        refine jv_callV (q := 66) (As := [.int (nI 2), .ref c]) (rest := []) G Z ml_X1_141 (k_tellOfType (t := mt_n y) (num := 2) hlt hd (by omega) (hF.1.t tly).1 (ct_0 (sd_T lk hF.1 tly hvy hoy))) hd.1.1 dX1_tellType_63 rfl (by decide) (by decide) (by decide) (by decide) (Nat.le_of_ble_eq_true rfl) rfl rfl (fun v8 h7 y9 => ?_) (fun _ _ hx => hx.elim)
        obtain ⟨rfl, hF2, hd2⟩ := y9
        show jv_V E 3 h7 0 0 (jv_Q E (fun y_ h' => y_ = none ∧ dF z h h' ∧ dS z h' s (L ++ (m_d2 s t none (some y)))) jv_no 0 0) 66 [(0, .ref (z 6 3)), (1, va_rf none), (2, .ref c)] []
        rw [hny] at hd2
        have hF := hF.tr hF2
        have hd := hd2
        refine jv_vret G hr dX1_tellType_66 (Nat.le_of_ble_eq_true rfl) (Nat.le_of_ble_eq_true rfl) ?_
        rw [d2_01]
        refine ⟨rfl, hF, ?_⟩
        exact hd
    · cases c3
  · cases c1
set_option maxHeartbeats 4000000 in
set_option maxRecDepth 100000 in
theorem k_tellType10 {lA : Launch} (hlt : lA.stackTraces = false) {D : jv_D} {base : Nat} {z : Nat → Nat → Nat} {N : Nat → Nat → Nat} {h : jv_H} {s : mS} {L : List mR} (hdS : dS z h s L) (hs16 : ∀ K u, s.2 K = some u → u < 16) {t : Nat} {a : Nat} {x : mT} (tlx : cl_t z N h a) (hvx : cv_T z N h a x) (hox : mt_ok x) (hux : m_uk x) (hnx : mt_n x = t) (hL : (L ++ (m_d2 s t (some x) none)).length ≤ 230) : jv_Met lA D base yX1_tellType (.code yX1_tellType cX1_tellType 3 none) 5 0 0 [.ref (z 6 3), .ref a, va_rf none] h (fun y_ h' => y_ = none ∧ dF z h h' ∧ dS z h' s (L ++ (m_d2 s t (some x) none))) jv_no := by
  refine jv_ofV (lo := [(0, .ref (z 6 3)), (1, .ref a), (2, va_rf none)]) hlt (by decide) (Nat.le_of_ble_eq_true rfl) rfl (fun E hEl hEd hEz Z G hr ht hnm => ?_)
  subst hEl; subst hEd; subst hEz
  rw [d2_10] at hL
  have hF : dF z h h := dF.rf
  have hd := hdS
  have lk := hdS.1
  have q1 := hox.1
  simp only [List.length_append, List.length_singleton] at hL
  refine jv_aload_n (q := 1) G 1 dX1_tellType_0 rfl rfl rfl ?_
  refine jv_ifnull (q := 4) (tgt := 31) (x := (some a)) G dX1_tellType_1 (by decide) rfl (fun c1 => ?_) (fun a2 c1 => ?_)
  · cases c1
  · refine jv_aload_nR (q := 5) G 2 dX1_tellType_4 rfl rfl rfl ?_
    refine jv_ifnull (q := 8) (tgt := 31) (x := none) G dX1_tellType_5 (by decide) rfl (fun c3 => ?_) (fun a4 c3 => ?_)
    · refine jv_aload_n (q := 32) G 1 dX1_tellType_31 rfl rfl rfl ?_
      refine jv_ifnull (q := 35) (tgt := 56) (x := (some a)) G dX1_tellType_32 (by decide) rfl (fun c5 => ?_) (fun a6 c5 => ?_)
      · cases c5
      · refine jv_aload_n (q := 36) G 0 dX1_tellType_35 rfl rfl rfl ?_
        refine jv_iconst (q := 37) (v := nI 1) G dX1_tellType_36 (by decide) rfl ?_
        refine jv_aload_n (q := 38) G 1 dX1_tellType_37 rfl rfl rfl ?_
        refine jv_callV (q := 41) (As := [.int (nI 1), .ref a]) (rest := []) G Z ml_X1_141 (k_tellOfType (t := mt_n x) (num := 1) hlt hd (by omega) (hF.1.t tlx).1 (ct_0 (sd_T lk hF.1 tlx hvx hox))) hd.1.1 dX1_tellType_38 rfl (by decide) (by decide) (by decide) (by decide) (Nat.le_of_ble_eq_true rfl) rfl rfl (fun v8 h7 y9 => ?_) (fun _ _ hx => hx.elim)
        obtain ⟨rfl, hF2, hd2⟩ := y9
        show jv_V E 3 h7 0 0 (jv_Q E (fun y_ h' => y_ = none ∧ dF z h h' ∧ dS z h' s (L ++ (m_d2 s t (some x) none))) jv_no 0 0) 41 [(0, .ref (z 6 3)), (1, .ref a), (2, va_rf none)] []
        rw [hnx] at hd2
        have hF := hF.tr hF2
        have hd := hd2
        refine jv_aload_n (q := 42) G 0 dX1_tellType_41 rfl rfl rfl ?_
        refine jv_aload_n (q := 43) G 1 dX1_tellType_42 rfl rfl rfl ?_
        refine jv_iconst (q := 44) (v := nI 0) G dX1_tellType_43 (by decide) rfl ?_
        refine jv_callV (q := 47) (As := [.ref a, .int (nI 0)]) (rest := []) G Z ml_X1_145 (k_tellMoves (w := false) hlt hd hs16 (hF.1.t tlx) (sd_T lk hF.1 tlx hvx hox) hox hux (by rw [hnx]; simp only [List.length_append, List.length_singleton]; omega)) hd.1.1 dX1_tellType_44 rfl (by decide) (by decide) (by decide) (by decide) (Nat.le_of_ble_eq_true rfl) rfl rfl (fun v11 h10 y12 => ?_) (fun _ _ hx => hx.elim)
        obtain ⟨rfl, hF2, hd2⟩ := y12
        show jv_V E 3 h10 0 0 (jv_Q E (fun y_ h' => y_ = none ∧ dF z h h' ∧ dS z h' s (L ++ (m_d2 s t (some x) none))) jv_no 0 0) 47 [(0, .ref (z 6 3)), (1, .ref a), (2, va_rf none)] []
        rw [hnx] at hd2
        have hF := hF.tr hF2
        have hd := hd2
        refine jv_aload_n (q := 48) G 0 dX1_tellType_47 rfl rfl rfl ?_
        refine jv_aload_n (q := 49) G 1 dX1_tellType_48 rfl rfl rfl ?_
        refine jv_iconst (q := 50) (v := nI 1) G dX1_tellType_49 (by decide) rfl ?_
        refine jv_callV (q := 53) (As := [.ref a, .int (nI 1)]) (rest := []) G Z ml_X1_145 (k_tellMoves (w := true) hlt hd hs16 (hF.1.t tlx) (sd_T lk hF.1 tlx hvx hox) hox hux (by rw [hnx]; simp only [List.length_append, List.length_singleton]; omega)) hd.1.1 dX1_tellType_50 rfl (by decide) (by decide) (by decide) (by decide) (Nat.le_of_ble_eq_true rfl) rfl rfl (fun v14 h13 y15 => ?_) (fun _ _ hx => hx.elim)
        obtain ⟨rfl, hF2, hd2⟩ := y15
        show jv_V E 3 h13 0 0 (jv_Q E (fun y_ h' => y_ = none ∧ dF z h h' ∧ dS z h' s (L ++ (m_d2 s t (some x) none))) jv_no 0 0) 53 [(0, .ref (z 6 3)), (1, .ref a), (2, va_rf none)] []
        rw [hnx] at hd2
        have hF := hF.tr hF2
        have hd := hd2
        refine jv_goto (q := 66) G dX1_tellType_53 (by decide) ?_
        refine jv_vret G hr dX1_tellType_66 (Nat.le_of_ble_eq_true rfl) (Nat.le_of_ble_eq_true rfl) ?_
        rw [d2_10]
        refine ⟨rfl, hF, ?_⟩
        simp only [List.append_assoc] at hd ⊢
        exact hd
    · cases c3
set_option maxHeartbeats 4000000 in
set_option maxRecDepth 100000 in
theorem k_tellType11 {lA : Launch} (hlt : lA.stackTraces = false) {D : jv_D} {base : Nat} {z : Nat → Nat → Nat} {N : Nat → Nat → Nat} {h : jv_H} {s : mS} {L : List mR} (hdS : dS z h s L) (hs16 : ∀ K u, s.2 K = some u → u < 16) {t : Nat} {a : Nat} {x : mT} (tlx : cl_t z N h a) (hvx : cv_T z N h a x) (hox : mt_ok x) (hux : m_uk x) (hnx : mt_n x = t) {c : Nat} {y : mT} (tly : cl_t z N h c) (hvy : cv_T z N h c y) (hoy : mt_ok y) (huy : m_uk y) (hny : mt_n y = t) (hL : (L ++ (m_d2 s t (some x) (some y))).length ≤ 230) : jv_Met lA D base yX1_tellType (.code yX1_tellType cX1_tellType 3 none) 5 0 0 [.ref (z 6 3), .ref a, .ref c] h (fun y_ h' => y_ = none ∧ dF z h h' ∧ dS z h' s (L ++ (m_d2 s t (some x) (some y)))) jv_no := by
  refine jv_ofV (lo := [(0, .ref (z 6 3)), (1, .ref a), (2, .ref c)]) hlt (by decide) (Nat.le_of_ble_eq_true rfl) rfl (fun E hEl hEd hEz Z G hr ht hnm => ?_)
  subst hEl; subst hEd; subst hEz
  rw [d2_11] at hL
  have hF : dF z h h := dF.rf
  have hd := hdS
  have lk := hdS.1
  have q1 := hox.1
  simp only [List.length_append, List.length_singleton] at hL
  refine jv_aload_n (q := 1) G 1 dX1_tellType_0 rfl rfl rfl ?_
  refine jv_ifnull (q := 4) (tgt := 31) (x := (some a)) G dX1_tellType_1 (by decide) rfl (fun c1 => ?_) (fun a2 c1 => ?_)
  · cases c1
  · refine jv_aload_n (q := 5) G 2 dX1_tellType_4 rfl rfl rfl ?_
    refine jv_ifnull (q := 8) (tgt := 31) (x := (some c)) G dX1_tellType_5 (by decide) rfl (fun c3 => ?_) (fun a4 c3 => ?_)
    · cases c3
    · refine jv_aload_n (q := 9) G 0 dX1_tellType_8 rfl rfl rfl ?_
      refine jv_aload_n (q := 10) G 1 dX1_tellType_9 rfl rfl rfl ?_
      refine jv_aload_n (q := 11) G 2 dX1_tellType_10 rfl rfl rfl ?_
      refine jv_callV (q := 14) (As := [.ref a, .ref c]) (rest := []) G Z ml_X1_134 (k_tellChangedType hlt hd (hF.1.t tlx) (sd_T lk hF.1 tlx hvx hox) hox (hF.1.t tly) (sd_T lk hF.1 tly hvy hoy) hoy (by rw [hnx]; simp only [List.length_append]; omega)) hd.1.1 dX1_tellType_11 rfl (by decide) (by decide) (by decide) (by decide) (Nat.le_of_ble_eq_true rfl) rfl rfl (fun v6 h5 y7 => ?_) (fun _ _ hx => hx.elim)
      obtain ⟨rfl, hF2, hd2⟩ := y7
      show jv_V E 3 h5 0 0 (jv_Q E (fun y_ h' => y_ = none ∧ dF z h h' ∧ dS z h' s (L ++ (m_d2 s t (some x) (some y)))) jv_no 0 0) 14 [(0, .ref (z 6 3)), (1, .ref a), (2, .ref c)] []
      rw [hnx] at hd2
      have hF := hF.tr hF2
      have hd := hd2
      refine jv_aload_n (q := 15) G 0 dX1_tellType_14 rfl rfl rfl ?_
      refine jv_aload_n (q := 16) G 1 dX1_tellType_15 rfl rfl rfl ?_
      refine jv_aload_n (q := 17) G 2 dX1_tellType_16 rfl rfl rfl ?_
      refine jv_iconst (q := 18) (v := nI 0) G dX1_tellType_17 (by decide) rfl ?_
      refine jv_callV (q := 21) (As := [.ref a, .ref c, .int (nI 0)]) (rest := []) G Z ml_X1_137 (k_tellMembers (w := false) hlt hd hs16 (hF.1.t tlx) (sd_T lk hF.1 tlx hvx hox) hox (hF.1.t tly) (sd_T lk hF.1 tly hvy hoy) hoy (hny.trans hnx.symm) hux huy (by rw [hnx]; simp only [List.length_append]; omega)) hd.1.1 dX1_tellType_18 rfl (by decide) (by decide) (by decide) (by decide) (Nat.le_of_ble_eq_true rfl) rfl rfl (fun v9 h8 y10 => ?_) (fun _ _ hx => hx.elim)
      obtain ⟨rfl, hF2, hd2⟩ := y10
      show jv_V E 3 h8 0 0 (jv_Q E (fun y_ h' => y_ = none ∧ dF z h h' ∧ dS z h' s (L ++ (m_d2 s t (some x) (some y)))) jv_no 0 0) 21 [(0, .ref (z 6 3)), (1, .ref a), (2, .ref c)] []
      rw [hnx] at hd2
      have hF := hF.tr hF2
      have hd := hd2
      refine jv_aload_n (q := 22) G 0 dX1_tellType_21 rfl rfl rfl ?_
      refine jv_aload_n (q := 23) G 1 dX1_tellType_22 rfl rfl rfl ?_
      refine jv_aload_n (q := 24) G 2 dX1_tellType_23 rfl rfl rfl ?_
      refine jv_iconst (q := 25) (v := nI 1) G dX1_tellType_24 (by decide) rfl ?_
      refine jv_callV (q := 28) (As := [.ref a, .ref c, .int (nI 1)]) (rest := []) G Z ml_X1_137 (k_tellMembers (w := true) hlt hd hs16 (hF.1.t tlx) (sd_T lk hF.1 tlx hvx hox) hox (hF.1.t tly) (sd_T lk hF.1 tly hvy hoy) hoy (hny.trans hnx.symm) hux huy (by rw [hnx]; simp only [List.length_append]; omega)) hd.1.1 dX1_tellType_25 rfl (by decide) (by decide) (by decide) (by decide) (Nat.le_of_ble_eq_true rfl) rfl rfl (fun v12 h11 y13 => ?_) (fun _ _ hx => hx.elim)
      obtain ⟨rfl, hF2, hd2⟩ := y13
      show jv_V E 3 h11 0 0 (jv_Q E (fun y_ h' => y_ = none ∧ dF z h h' ∧ dS z h' s (L ++ (m_d2 s t (some x) (some y)))) jv_no 0 0) 28 [(0, .ref (z 6 3)), (1, .ref a), (2, .ref c)] []
      rw [hnx] at hd2
      have hF := hF.tr hF2
      have hd := hd2
      refine jv_goto (q := 66) G dX1_tellType_28 (by decide) ?_
      refine jv_vret G hr dX1_tellType_66 (Nat.le_of_ble_eq_true rfl) (Nat.le_of_ble_eq_true rfl) ?_
      rw [d2_11]
      refine ⟨rfl, hF, ?_⟩
      simp only [List.append_assoc] at hd ⊢
      exact hd
