set_option maxHeartbeats 4000000 in
set_option maxRecDepth 100000 in
theorem k_tellMember {lA : Launch} (hlt : lA.stackTraces = false) {D : jv_D} {base : Nat} {z : Nat → Nat → Nat} {N : Nat → Nat → Nat} {h : jv_H} {s : mS} {L : List mR} (hdS : dS z h s L) (hs16 : ∀ K u, s.2 K = some u → u < 16) {a c : Nat} {x y : mT} (tlx : cl_t z N h a) (hvx : cv_T z N h a x) (hox : mt_ok x) (tly : cl_t z N h c) (hvy : cv_T z N h c y) (hoy : mt_ok y) (hn : mt_n y = mt_n x) {w : Bool} {k : Nat} (hk : k < 64) (hL : (L ++ (m_dM s (mt_n x) (wk w k) (some x) (some y))).length ≤ 230) : jv_Met lA D base yX1_tellMember (.code yX1_tellMember cX1_tellMember 8 none) 3 0 0 [.ref (z 6 3), .ref a, .ref c, .int (jv_bI w), .int (nI k)] h (fun y_ h' => y_ = none ∧ dF z h h' ∧ dS z h' s (L ++ (m_dM s (mt_n x) (wk w k) (some x) (some y)))) jv_no := by
  refine jv_ofV (lo := [(0, .ref (z 6 3)), (1, .ref a), (2, .ref c), (3, .int (jv_bI w)), (4, .int (nI k))]) hlt (by decide) (Nat.le_of_ble_eq_true rfl) rfl (fun E hEl hEd hEz Z G hr ht hnm => ?_)
  subst hEl; subst hEd; subst hEz
  have lk := hdS.1; have ck := hdS.2.1
  have Ox := hox; have Vx := hvx; have Yx := tlx; have Oy := hoy; have Vy := hvy; have Yy := tly
  have q1 := hox.1
  have hK : ∀ K, some k = some K → K < 64 := fun K q => by cases q; exact hk
  refine jv_aload_n (q := 1) G 1 dX1_tellMember_0 rfl rfl rfl ?_
  refine jv_iload_n (q := 2) G 3 dX1_tellMember_1 rfl rfl rfl ?_
  refine jv_iload (q := 4) G 4 dX1_tellMember_2 rfl rfl ?_
  refine jv_callV_R (q := 7) (h1 := h) (As := [.int (jv_bI w), .int (nI k)]) (rest := []) (ce' := 0) (sl' := 0) (r := ((m_oc x w (some k)).map (N a))) G Z ml_X1_89 (k_own (w := w) (ko := some k) hlt Yx Vx Ox hK) tlx.1 dX1_tellMember_4 rfl (by decide) (by decide) (by decide) (by decide) (Nat.le_of_ble_eq_true rfl) rfl rfl rfl rfl ?_
  rcases Option.eq_none_or_eq_some (m_oc x w (some k)) with hj3 | ⟨j1, hj3⟩
  · refine jv_topR (y := none) (by rw [hj3]; rfl) ?_
    refine jv_astoreR (q := 9) (lo' := [(5, va_rf none), (0, .ref (z 6 3)), (1, .ref a), (2, .ref c), (3, .int (jv_bI w)), (4, .int (nI k))]) (x := none) G dX1_tellMember_7 (by decide) rfl rfl ?_
    refine jv_aload_n (q := 10) G 3 dX1_tellMember_9 rfl rfl rfl ?_
    refine jv_iload_n (q := 11) G 4 dX1_tellMember_10 rfl rfl rfl ?_
    refine jv_iload (q := 13) G 5 dX1_tellMember_11 rfl rfl ?_
    refine jv_callV_R (q := 16) (h1 := h) (As := [.int (jv_bI w), .int (nI k)]) (rest := []) (ce' := 0) (sl' := 0) (r := ((m_oc y w (some k)).map (N c))) G Z ml_X1_89 (k_own (w := w) (ko := some k) hlt Yy Vy Oy hK) tly.1 dX1_tellMember_13 rfl (by decide) (by decide) (by decide) (by decide) (Nat.le_of_ble_eq_true rfl) rfl rfl rfl rfl ?_
    rcases Option.eq_none_or_eq_some (m_oc y w (some k)) with hj6 | ⟨j4, hj6⟩
    · refine jv_topR (y := none) (by rw [hj6]; rfl) ?_
      refine jv_astoreR (q := 18) (lo' := [(6, va_rf none), (5, va_rf none), (0, .ref (z 6 3)), (1, .ref a), (2, .ref c), (3, .int (jv_bI w)), (4, .int (nI k))]) (x := none) G dX1_tellMember_16 (by decide) rfl rfl ?_
      refine jv_aloadR (q := 20) G 1 dX1_tellMember_18 rfl rfl ?_
      refine jv_ifnull (q := 23) (tgt := 43) (x := none) G dX1_tellMember_20 (by decide) rfl (fun c7 => ?_) (fun a8 c7 => ?_)
      · refine jv_aloadR (q := 45) G 1 dX1_tellMember_43 rfl rfl ?_
        refine jv_ifnull (q := 48) (tgt := 94) (x := none) G dX1_tellMember_45 (by decide) rfl (fun c9 => ?_) (fun a10 c9 => ?_)
        · refine jv_aloadR (q := 96) G 0 dX1_tellMember_94 rfl rfl ?_
          refine jv_ifnull (q := 99) (tgt := 134) (x := none) G dX1_tellMember_96 (by decide) rfl (fun c11 => ?_) (fun a12 c11 => ?_)
          · refine jv_vret G hr dX1_tellMember_134 (Nat.le_of_ble_eq_true rfl) (Nat.le_of_ble_eq_true rfl) ?_
            have eM : (m_dM s (mt_n x) (wk w k) (some x) (some y)) = [] := by
              unfold m_dM
              rw [km_oc_n Ox hk hj3, km_oc_n Oy hk hj6]
              try rfl
            rw [eM, List.append_nil]
            exact ⟨rfl, dF.rf, hdS⟩
          · cases c11
        · cases c9
      · cases c7
    · refine jv_topR (y := (some (N c j4))) (by rw [hj6]; rfl) ?_
      obtain ⟨m5, hm5, wm5, km5⟩ := oc_some hj6
      have lm5 := jv_ltGet hm5
      have Om5 := Oy.2.2.2.2.2.2 m5 (List.mem_of_getElem? hm5)
      have Vm5 := ct_m Vy hm5
      have j6m5 : j4 < 6 := by have := Oy.2.2.2.2.2.1; omega
      have bm5a := Om5.2.2.1
      refine jv_astore (q := 18) (lo' := [(6, .ref (N c j4)), (5, va_rf none), (0, .ref (z 6 3)), (1, .ref a), (2, .ref c), (3, .int (jv_bI w)), (4, .int (nI k))]) G dX1_tellMember_16 (by decide) rfl rfl ?_
      refine jv_aloadR (q := 20) G 1 dX1_tellMember_18 rfl rfl ?_
      refine jv_ifnull (q := 23) (tgt := 43) (x := none) G dX1_tellMember_20 (by decide) rfl (fun c13 => ?_) (fun a14 c13 => ?_)
      · refine jv_aloadR (q := 45) G 1 dX1_tellMember_43 rfl rfl ?_
        refine jv_ifnull (q := 48) (tgt := 94) (x := none) G dX1_tellMember_45 (by decide) rfl (fun c15 => ?_) (fun a16 c15 => ?_)
        · refine jv_aload (q := 96) G 0 dX1_tellMember_94 rfl rfl ?_
          refine jv_ifnull (q := 99) (tgt := 134) (x := (some (N c j4))) G dX1_tellMember_96 (by decide) rfl (fun c17 => ?_) (fun a18 c17 => ?_)
          · cases c17
          · refine jv_aload_n (q := 100) G 2 dX1_tellMember_99 rfl rfl rfl ?_
            refine jv_getQ (q := 103) G dX1_tellMember_100 fl_X1_38 rfl lk.1 (ck_p lk 9 (by decide) (by decide)) rfl ?_
            refine jv_aload_n (q := 104) G 4 dX1_tellMember_103 rfl rfl rfl ?_
            refine jv_getI (q := 107) G dX1_tellMember_104 fl_X1_75 rfl tly.1 (ct_0 hvy) rfl ?_
            refine jv_iload_n (q := 108) G 5 dX1_tellMember_107 rfl rfl rfl ?_
            refine jv_callS_I (q := 111) (h1 := h) (As := [.int (nI (mt_n y)), .int (jv_bI w)]) (rest := [.ref (z 7 9)]) (ce' := 0) (sl' := 0) (r := nI (2 * mt_n y + (if w then 1 else 0))) G Z ml_X1_71 (k_rowOf hlt) dX1_tellMember_108 rfl (by decide) (by decide) (by decide) (by decide) (Nat.le_of_ble_eq_true rfl) rfl rfl rfl rfl ?_
            have q2 := hoy.1
            obtain ⟨tn, htn, htb⟩ := ck.2 (2 * mt_n y + (if w then 1 else 0)) (by split <;> omega)
            refine jv_lald (q := 112) G dX1_tellMember_111 (ck_s9 lk) rfl (by first | omega | (split <;> omega)) (by decide) htn rfl ?_
            refine jv_iload (q := 114) G 6 dX1_tellMember_112 rfl rfl ?_
            refine jv_callSN_I (q := 117) (h1 := h) (As := [.long (lN tn), .int (nI k)]) (rest := []) (ce' := 0) (sl' := 0) (r := jv_bI (tn.testBit k)) G Z ml_X1_85 (jv_p1 746 (by decide +kernel) rfl) (k_hasBit hlt hk) dX1_tellMember_114 rfl (by decide) (by decide) (by decide) (by decide) (Nat.le_of_ble_eq_true rfl) rfl rfl rfl rfl ?_
            refine jv_if_neB (q := 120) (tgt := 134) G dX1_tellMember_117 (by decide) rfl (fun c19 => ?_) (fun c19 => ?_)
            · rw [htb _ hk, show 64 * (2 * mt_n y + (if w then 1 else 0)) + k = 128 * mt_n y + wk w k from by unfold wk; split <;> omega] at c19
              refine jv_vret G hr dX1_tellMember_134 (Nat.le_of_ble_eq_true rfl) (Nat.le_of_ble_eq_true rfl) ?_
              have eM : (m_dM s (mt_n x) (wk w k) (some x) (some y)) = [] := by
                unfold m_dM
                rw [km_oc_n Ox hk hj3, km_oc_s Oy hk hj6 hm5]
                dsimp only; rw [← hn, c19]; rfl
              rw [eM, List.append_nil]
              exact ⟨rfl, dF.rf, hdS⟩
            · rw [htb _ hk, show 64 * (2 * mt_n y + (if w then 1 else 0)) + k = 128 * mt_n y + wk w k from by unfold wk; split <;> omega] at c19
              refine jv_aload_n (q := 121) G 2 dX1_tellMember_120 rfl rfl rfl ?_
              refine jv_bipush (q := 123) (v := nI 9) G dX1_tellMember_121 (by decide) rfl ?_
              refine jv_aload_n (q := 124) G 4 dX1_tellMember_123 rfl rfl rfl ?_
              refine jv_getI (q := 127) G dX1_tellMember_124 fl_X1_75 rfl tly.1 (ct_0 hvy) rfl ?_
              refine jv_iload_n (q := 128) G 5 dX1_tellMember_127 rfl rfl rfl ?_
              refine jv_iload (q := 130) G 6 dX1_tellMember_128 rfl rfl ?_
              refine jv_iconst (q := 131) (v := (-1)) G dX1_tellMember_130 (by decide) rfl ?_
              have eM : (m_dM s (mt_n x) (wk w k) (some x) (some y)) = [(9, mt_n x, some (wk w k), none)] := by
                unfold m_dM
                rw [km_oc_n Ox hk hj3, km_oc_s Oy hk hj6 hm5]
                dsimp only; rw [← hn, c19]; rfl
              rw [eM] at hL
              rw [List.length_append] at hL
              have hL9 : L.length < 230 := by have e1 : L.length + 1 ≤ 230 := hL; omega
              refine jv_callV (q := 134) (As := [.int (nI 9), .int (nI (mt_n y)), .int (jv_bI w), .int (nI k), .int (-1)]) (rest := []) G Z ml_X1_130 (k_tell (t := mt_n y) (num := 9) (w := w) (ko := some k) (go := none) hlt hdS hL9 hK (fun q => by cases q)) lk.1 dX1_tellMember_131 rfl (by decide) (by decide) (by decide) (by decide) (Nat.le_of_ble_eq_true rfl) rfl rfl (fun v21 h20 y22 => ?_) (fun _ _ hx => hx.elim)
              obtain ⟨rfl, hF, hd⟩ := y22
              show jv_V E 8 h20 0 0 (jv_Q E (fun y_ h' => y_ = none ∧ dF z h h' ∧ dS z h' s (L ++ (m_dM s (mt_n x) (wk w k) (some x) (some y)))) jv_no 0 0) 134 [(6, .ref (N c j4)), (5, va_rf none), (0, .ref (z 6 3)), (1, .ref a), (2, .ref c), (3, .int (jv_bI w)), (4, .int (nI k))] []
              rw [hn] at hd
              refine jv_vret G hr dX1_tellMember_134 (Nat.le_of_ble_eq_true rfl) (Nat.le_of_ble_eq_true rfl) ?_
              rw [eM]
              exact ⟨rfl, hF, hd⟩
        · cases c15
      · cases c13
  · refine jv_topR (y := (some (N a j1))) (by rw [hj3]; rfl) ?_
    obtain ⟨m2, hm2, wm2, km2⟩ := oc_some hj3
    have lm2 := jv_ltGet hm2
    have Om2 := Ox.2.2.2.2.2.2 m2 (List.mem_of_getElem? hm2)
    have Vm2 := ct_m Vx hm2
    have j6m2 : j1 < 6 := by have := Ox.2.2.2.2.2.1; omega
    have bm2a := Om2.2.2.1
    refine jv_astore (q := 9) (lo' := [(5, .ref (N a j1)), (0, .ref (z 6 3)), (1, .ref a), (2, .ref c), (3, .int (jv_bI w)), (4, .int (nI k))]) G dX1_tellMember_7 (by decide) rfl rfl ?_
    refine jv_aload_n (q := 10) G 3 dX1_tellMember_9 rfl rfl rfl ?_
    refine jv_iload_n (q := 11) G 4 dX1_tellMember_10 rfl rfl rfl ?_
    refine jv_iload (q := 13) G 5 dX1_tellMember_11 rfl rfl ?_
    refine jv_callV_R (q := 16) (h1 := h) (As := [.int (jv_bI w), .int (nI k)]) (rest := []) (ce' := 0) (sl' := 0) (r := ((m_oc y w (some k)).map (N c))) G Z ml_X1_89 (k_own (w := w) (ko := some k) hlt Yy Vy Oy hK) tly.1 dX1_tellMember_13 rfl (by decide) (by decide) (by decide) (by decide) (Nat.le_of_ble_eq_true rfl) rfl rfl rfl rfl ?_
    rcases Option.eq_none_or_eq_some (m_oc y w (some k)) with hj25 | ⟨j23, hj25⟩
    · refine jv_topR (y := none) (by rw [hj25]; rfl) ?_
      refine jv_astoreR (q := 18) (lo' := [(6, va_rf none), (5, .ref (N a j1)), (0, .ref (z 6 3)), (1, .ref a), (2, .ref c), (3, .int (jv_bI w)), (4, .int (nI k))]) (x := none) G dX1_tellMember_16 (by decide) rfl rfl ?_
      refine jv_aload (q := 20) G 1 dX1_tellMember_18 rfl rfl ?_
      refine jv_ifnull (q := 23) (tgt := 43) (x := (some (N a j1))) G dX1_tellMember_20 (by decide) rfl (fun c26 => ?_) (fun a27 c26 => ?_)
      · cases c26
      · refine jv_aloadR (q := 25) G 0 dX1_tellMember_23 rfl rfl ?_
        refine jv_ifnull (q := 28) (tgt := 43) (x := none) G dX1_tellMember_25 (by decide) rfl (fun c28 => ?_) (fun a29 c28 => ?_)
        · refine jv_aload (q := 45) G 1 dX1_tellMember_43 rfl rfl ?_
          refine jv_ifnull (q := 48) (tgt := 94) (x := (some (N a j1))) G dX1_tellMember_45 (by decide) rfl (fun c30 => ?_) (fun a31 c30 => ?_)
          · cases c30
          · refine jv_aload_n (q := 49) G 2 dX1_tellMember_48 rfl rfl rfl ?_
            refine jv_getQ (q := 52) G dX1_tellMember_49 fl_X1_35 rfl lk.1 (ck_p lk 8 (by decide) (by decide)) rfl ?_
            refine jv_aload_n (q := 53) G 3 dX1_tellMember_52 rfl rfl rfl ?_
            refine jv_getI (q := 56) G dX1_tellMember_53 fl_X1_75 rfl tlx.1 (ct_0 hvx) rfl ?_
            refine jv_iload_n (q := 57) G 5 dX1_tellMember_56 rfl rfl rfl ?_
            refine jv_iload (q := 59) G 6 dX1_tellMember_57 rfl rfl ?_
            refine jv_callS_I (q := 62) (h1 := h) (As := [.int (nI (mt_n x)), .int (jv_bI w), .int (nI k)]) (rest := [.ref (z 7 8)]) (ce' := 0) (sl' := 0) (r := nI (128 * mt_n x + wk w k)) G Z ml_X1_114 (k_spotOf hlt) dX1_tellMember_59 rfl (by decide) (by decide) (by decide) (by decide) (Nat.le_of_ble_eq_true rfl) rfl rfl rfl rfl ?_
            have hwk : wk w k < 128 := by unfold wk; split <;> omega
            rcases Option.eq_none_or_eq_some (s.2 (128 * mt_n x + wk w k)) with hsv | ⟨u, hsv⟩
            · refine jv_iald (q := 63) G dX1_tellMember_62 (ck_s8 lk) rfl (by omega) (by decide) ((ck.1 _ (by omega)).trans (congrArg jv_oN hsv)) rfl ?_
              refine jv_istore (q := 65) (lo' := [(7, .int (-1)), (6, va_rf none), (5, .ref (N a j1)), (0, .ref (z 6 3)), (1, .ref a), (2, .ref c), (3, .int (jv_bI w)), (4, .int (nI k))]) G dX1_tellMember_63 (by decide) rfl rfl ?_
              refine jv_aload_n (q := 66) G 3 dX1_tellMember_65 rfl rfl rfl ?_
              refine jv_iload (q := 68) G 0 dX1_tellMember_66 rfl rfl ?_
              refine jv_iconst (q := 69) (v := (-1)) G dX1_tellMember_68 (by decide) rfl ?_
              refine jv_icmp_ne (q := 72) (tgt := 77) G dX1_tellMember_69 (by decide) rfl (fun c32 => ?_) (fun c32 => ?_)
              · exact absurd rfl c32
              · refine jv_bipush (q := 74) (v := nI 8) G dX1_tellMember_72 (by decide) rfl ?_
                refine jv_goto (q := 79) G dX1_tellMember_74 (by decide) ?_
                refine jv_aload_n (q := 80) G 4 dX1_tellMember_79 rfl rfl rfl ?_
                refine jv_getI (q := 83) G dX1_tellMember_80 fl_X1_75 rfl tlx.1 (ct_0 hvx) rfl ?_
                refine jv_iload_n (q := 84) G 6 dX1_tellMember_83 rfl rfl rfl ?_
                refine jv_iload (q := 86) G 7 dX1_tellMember_84 rfl rfl ?_
                refine jv_iload (q := 88) G 0 dX1_tellMember_86 rfl rfl ?_
                have eM : (m_dM s (mt_n x) (wk w k) (some x) (some y)) = [(8, mt_n x, some (wk w k), none)] := by
                  unfold m_dM
                  rw [km_oc_s Ox hk hj3 hm2, km_oc_n Oy hk hj25]
                  dsimp only; rw [hsv]; rfl
                rw [eM] at hL
                rw [List.length_append] at hL
                have hL9 : L.length < 230 := by have e1 : L.length + 1 ≤ 230 := hL; omega
                refine jv_callV (q := 91) (As := [.int (nI 8), .int (nI (mt_n x)), .int (jv_bI w), .int (nI k), .int (-1)]) (rest := []) G Z ml_X1_130 (k_tell (t := mt_n x) (num := 8) (w := w) (ko := some k) (go := none) hlt hdS hL9 hK (fun q => by cases q)) lk.1 dX1_tellMember_88 rfl (by decide) (by decide) (by decide) (by decide) (Nat.le_of_ble_eq_true rfl) rfl rfl (fun v34 h33 y35 => ?_) (fun _ _ hx => hx.elim)
                obtain ⟨rfl, hF, hd⟩ := y35
                show jv_V E 8 h33 0 0 (jv_Q E (fun y_ h' => y_ = none ∧ dF z h h' ∧ dS z h' s (L ++ (m_dM s (mt_n x) (wk w k) (some x) (some y)))) jv_no 0 0) 91 [(7, .int (-1)), (6, va_rf none), (5, .ref (N a j1)), (0, .ref (z 6 3)), (1, .ref a), (2, .ref c), (3, .int (jv_bI w)), (4, .int (nI k))] []
                refine jv_goto (q := 134) G dX1_tellMember_91 (by decide) ?_
                refine jv_vret G hr dX1_tellMember_134 (Nat.le_of_ble_eq_true rfl) (Nat.le_of_ble_eq_true rfl) ?_
                rw [eM]
                exact ⟨rfl, hF, hd⟩
            · have hu16 := hs16 _ _ hsv
              refine jv_iald (q := 63) G dX1_tellMember_62 (ck_s8 lk) rfl (by omega) (by decide) ((ck.1 _ (by omega)).trans (congrArg jv_oN hsv)) rfl ?_
              refine jv_istore (q := 65) (lo' := [(7, .int (nI u)), (6, va_rf none), (5, .ref (N a j1)), (0, .ref (z 6 3)), (1, .ref a), (2, .ref c), (3, .int (jv_bI w)), (4, .int (nI k))]) G dX1_tellMember_63 (by decide) rfl rfl ?_
              refine jv_aload_n (q := 66) G 3 dX1_tellMember_65 rfl rfl rfl ?_
              refine jv_iload (q := 68) G 0 dX1_tellMember_66 rfl rfl ?_
              refine jv_iconst (q := 69) (v := (-1)) G dX1_tellMember_68 (by decide) rfl ?_
              refine jv_icmp_ne (q := 72) (tgt := 77) G dX1_tellMember_69 (by decide) rfl (fun c36 => ?_) (fun c36 => ?_)
              · refine jv_bipush (q := 79) (v := nI 10) G dX1_tellMember_77 (by decide) rfl ?_
                refine jv_aload_n (q := 80) G 4 dX1_tellMember_79 rfl rfl rfl ?_
                refine jv_getI (q := 83) G dX1_tellMember_80 fl_X1_75 rfl tlx.1 (ct_0 hvx) rfl ?_
                refine jv_iload_n (q := 84) G 6 dX1_tellMember_83 rfl rfl rfl ?_
                refine jv_iload (q := 86) G 7 dX1_tellMember_84 rfl rfl ?_
                refine jv_iload (q := 88) G 0 dX1_tellMember_86 rfl rfl ?_
                have eM : (m_dM s (mt_n x) (wk w k) (some x) (some y)) = [(10, mt_n x, some (wk w k), some u)] := by
                  unfold m_dM
                  rw [km_oc_s Ox hk hj3 hm2, km_oc_n Oy hk hj25]
                  dsimp only; rw [hsv]
                rw [eM] at hL
                rw [List.length_append] at hL
                have hL9 : L.length < 230 := by have e1 : L.length + 1 ≤ 230 := hL; omega
                refine jv_callV (q := 91) (As := [.int (nI 10), .int (nI (mt_n x)), .int (jv_bI w), .int (nI k), .int (nI u)]) (rest := []) G Z ml_X1_130 (k_tell (t := mt_n x) (num := 10) (w := w) (ko := some k) (go := (some u)) hlt hdS hL9 hK (fun q => by cases q)) lk.1 dX1_tellMember_88 rfl (by decide) (by decide) (by decide) (by decide) (Nat.le_of_ble_eq_true rfl) rfl rfl (fun v38 h37 y39 => ?_) (fun _ _ hx => hx.elim)
                obtain ⟨rfl, hF, hd⟩ := y39
                show jv_V E 8 h37 0 0 (jv_Q E (fun y_ h' => y_ = none ∧ dF z h h' ∧ dS z h' s (L ++ (m_dM s (mt_n x) (wk w k) (some x) (some y)))) jv_no 0 0) 91 [(7, .int (nI u)), (6, va_rf none), (5, .ref (N a j1)), (0, .ref (z 6 3)), (1, .ref a), (2, .ref c), (3, .int (jv_bI w)), (4, .int (nI k))] []
                refine jv_goto (q := 134) G dX1_tellMember_91 (by decide) ?_
                refine jv_vret G hr dX1_tellMember_134 (Nat.le_of_ble_eq_true rfl) (Nat.le_of_ble_eq_true rfl) ?_
                rw [eM]
                exact ⟨rfl, hF, hd⟩
              · exact absurd c36 (jv_nI_m1 (by omega))
        · cases c28
    · refine jv_topR (y := (some (N c j23))) (by rw [hj25]; rfl) ?_
      obtain ⟨m24, hm24, wm24, km24⟩ := oc_some hj25
      have lm24 := jv_ltGet hm24
      have Om24 := Oy.2.2.2.2.2.2 m24 (List.mem_of_getElem? hm24)
      have Vm24 := ct_m Vy hm24
      have j6m24 : j23 < 6 := by have := Oy.2.2.2.2.2.1; omega
      have bm24a := Om24.2.2.1
      refine jv_astore (q := 18) (lo' := [(6, .ref (N c j23)), (5, .ref (N a j1)), (0, .ref (z 6 3)), (1, .ref a), (2, .ref c), (3, .int (jv_bI w)), (4, .int (nI k))]) G dX1_tellMember_16 (by decide) rfl rfl ?_
      refine jv_aload (q := 20) G 1 dX1_tellMember_18 rfl rfl ?_
      refine jv_ifnull (q := 23) (tgt := 43) (x := (some (N a j1))) G dX1_tellMember_20 (by decide) rfl (fun c40 => ?_) (fun a41 c40 => ?_)
      · cases c40
      · refine jv_aload (q := 25) G 0 dX1_tellMember_23 rfl rfl ?_
        refine jv_ifnull (q := 28) (tgt := 43) (x := (some (N c j23))) G dX1_tellMember_25 (by decide) rfl (fun c42 => ?_) (fun a43 c42 => ?_)
        · cases c42
        · refine jv_aload_n (q := 29) G 2 dX1_tellMember_28 rfl rfl rfl ?_
          refine jv_aload_n (q := 30) G 3 dX1_tellMember_29 rfl rfl rfl ?_
          refine jv_getI (q := 33) G dX1_tellMember_30 fl_X1_75 rfl tlx.1 (ct_0 hvx) rfl ?_
          refine jv_aload (q := 35) G 1 dX1_tellMember_33 rfl rfl ?_
          refine jv_aload (q := 37) G 0 dX1_tellMember_35 rfl rfl ?_
          have ekk : kk m2 = wk w k := by rw [kk_wk, wm2, Option.some.inj km2]
          have eM : (m_dM s (mt_n x) (wk w k) (some x) (some y)) = m_dB (mt_n x) (kk m2) m2 m24 := by
            unfold m_dM
            rw [km_oc_s Ox hk hj3 hm2, km_oc_s Oy hk hj25 hm24]
            dsimp only; rw [ekk]
          rw [eM] at hL
          refine jv_callV (q := 40) (As := [.int (nI (mt_n x)), .ref (N a j1), .ref (N c j23)]) (rest := []) G Z ml_X1_172 (k_tellChangedMember hlt hdS (Yx.2.2.2.2.2.2.2 j1 j6m2).2 Vm2 Om2 (Yy.2.2.2.2.2.2.2 j23 j6m24).2 Vm24 Om24 hL) lk.1 dX1_tellMember_37 rfl (by decide) (by decide) (by decide) (by decide) (Nat.le_of_ble_eq_true rfl) rfl rfl (fun v45 h44 y46 => ?_) (fun _ _ hx => hx.elim)
          obtain ⟨rfl, hF, hd⟩ := y46
          show jv_V E 8 h44 0 0 (jv_Q E (fun y_ h' => y_ = none ∧ dF z h h' ∧ dS z h' s (L ++ (m_dM s (mt_n x) (wk w k) (some x) (some y)))) jv_no 0 0) 40 [(6, .ref (N c j23)), (5, .ref (N a j1)), (0, .ref (z 6 3)), (1, .ref a), (2, .ref c), (3, .int (jv_bI w)), (4, .int (nI k))] []
          refine jv_goto (q := 134) G dX1_tellMember_40 (by decide) ?_
          refine jv_vret G hr dX1_tellMember_134 (Nat.le_of_ble_eq_true rfl) (Nat.le_of_ble_eq_true rfl) ?_
          rw [eM]
          exact ⟨rfl, hF, hd⟩
