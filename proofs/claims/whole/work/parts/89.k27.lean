theorem ite_len {p : Prop} [Decidable p] {r : mR} : (if p then [] else [r] : List mR).length = (if p then 0 else 1) := by split <;> rfl
theorem dB_len {t K : Nat} {m o : mM} : (m_dB t K m o).length = (if mm_a m = mm_a o then 0 else 1) + (if mm_t m = mm_t o then 0 else 1) + (if mm_b m = mm_b o ∧ mm_c m = mm_c o then 0 else 1) := by
  unfold m_dB
  rw [List.length_append, List.length_append, ite_len, ite_len, ite_len]
theorem dT_len {t : Nat} {x y : mT} : (m_dT t x y).length = (if mt_i x = mt_i y then 0 else 1) + (if mt_a x = mt_a y then 0 else 1) + (if mt_k x = mt_k y ∧ mt_p x = mt_p y then 0 else 1) + (if mt_u x = mt_u y then 0 else 1) + (if m_mk (mt_f x) (mt_f x).length = m_mk (mt_f y) (mt_f y).length then 0 else 1) := by
  unfold m_dT
  simp only [List.length_append, ite_len]
set_option maxHeartbeats 4000000 in
set_option maxRecDepth 100000 in
theorem k_tellChangedMember {lA : Launch} (hlt : lA.stackTraces = false) {D : jv_D} {base : Nat} {z : Nat → Nat → Nat} {h : jv_H} {s : mS} {L : List mR} (hdS : dS z h s L) {t b c : Nat} {m o : mM} (hs : jv_sh h c = some (.inl 3)) (hm : cv_M h c m) (om : mm_ok m) (hs2 : jv_sh h b = some (.inl 3)) (ho : cv_M h b o) (oo : mm_ok o) (hL : (L ++ m_dB t (kk m) m o).length ≤ 230) : jv_Met lA D base yX1_tellChangedMember (.code yX1_tellChangedMember cX1_tellChangedMember 4 none) 2 0 0 [.ref (z 6 3), .int (nI t), .ref c, .ref b] h (fun y h' => y = none ∧ dF z h h' ∧ dS z h' s (L ++ m_dB t (kk m) m o)) jv_no := by
  refine jv_ofV (lo := [(0, .ref (z 6 3)), (1, .int (nI t)), (2, .ref c), (3, .ref b)]) hlt (by decide) (Nat.le_of_ble_eq_true rfl) rfl (fun E hEl hEd hEz Z G hr ht hnm => ?_)
  subst hEl; subst hEd; subst hEz
  have hF : dF z h h := dF.rf
  have hd := hdS
  have lk := hdS.1
  have q1 := om.1; have q2 := om.2.1; have q3 := om.2.2.1; have q4 := oo.2.2.1
  have hlen : L.length + ((if mm_a m = mm_a o then 0 else 1) + (if mm_t m = mm_t o then 0 else 1) + (if mm_b m = mm_b o ∧ mm_c m = mm_c o then 0 else 1)) ≤ 230 := by rw [← dB_len (t := t) (K := kk m), ← List.length_append]; exact hL
  refine jv_aload_n (q := 1) G 2 dX1_tellChangedMember_0 rfl rfl rfl ?_
  refine jv_getI (q := 4) G dX1_tellChangedMember_1 fl_X1_176 rfl ((congrFun hF.1.1 _).trans hs) (sd_M lk hF.1 hs hm).2.2.2.2.1 rfl ?_
  refine jv_aload_n (q := 5) G 3 dX1_tellChangedMember_4 rfl rfl rfl ?_
  refine jv_getI (q := 8) G dX1_tellChangedMember_5 fl_X1_176 rfl ((congrFun hF.1.1 _).trans hs2) (sd_M lk hF.1 hs2 ho).2.2.2.2.1 rfl ?_
  refine jv_icmp_eqN (q := 11) (tgt := 27) G dX1_tellChangedMember_8 (by decide) rfl (by omega) (by omega) (fun c1 => ?_) (fun c1 => ?_)
  · have c1e : (mm_a m = mm_a o) = True := eq_true c1
    refine jv_aload_n (q := 28) G 2 dX1_tellChangedMember_27 rfl rfl rfl ?_
    refine jv_getZ (q := 31) G dX1_tellChangedMember_28 fl_X1_179 rfl ((congrFun hF.1.1 _).trans hs) (sd_M lk hF.1 hs hm).2.2.1 rfl ?_
    refine jv_aload_n (q := 32) G 3 dX1_tellChangedMember_31 rfl rfl rfl ?_
    refine jv_getZ (q := 35) G dX1_tellChangedMember_32 fl_X1_179 rfl ((congrFun hF.1.1 _).trans hs2) (sd_M lk hF.1 hs2 ho).2.2.1 rfl ?_
    refine jv_icmp_eqB (q := 38) (tgt := 54) G dX1_tellChangedMember_35 (by decide) rfl (fun c2 => ?_) (fun c2 => ?_)
    · have c2e : (mm_t m = mm_t o) = True := eq_true c2
      refine jv_aload_n (q := 55) G 2 dX1_tellChangedMember_54 rfl rfl rfl ?_
      refine jv_aload_n (q := 56) G 3 dX1_tellChangedMember_55 rfl rfl rfl ?_
      refine jv_callV_I (q := 59) (h1 := h) (As := [.ref b]) (rest := []) (ce' := 0) (sl' := 0) (r := jv_bI (m_sb m o)) G Z ml_X1_182 (k_sameBody hlt ((congrFun hF.1.1 _).trans hs) (sd_M lk hF.1 hs hm) ((congrFun hF.1.1 _).trans hs2) (sd_M lk hF.1 hs2 ho)) ((congrFun hF.1.1 _).trans hs) dX1_tellChangedMember_56 rfl (by decide) (by decide) (by decide) (by decide) (Nat.le_of_ble_eq_true rfl) rfl rfl rfl rfl ?_
      refine jv_if_neB (q := 62) (tgt := 78) G dX1_tellChangedMember_59 (by decide) rfl (fun c3 => ?_) (fun c3 => ?_)
      · have c3e : (mm_b m = mm_b o ∧ mm_c m = mm_c o) = True := by
          have h8 := c3; unfold m_sb at h8; simp at h8
          first | exact eq_true h8 | exact eq_false (fun q => h8 q.1 q.2)
        refine jv_vret G hr dX1_tellChangedMember_78 (Nat.le_of_ble_eq_true rfl) (Nat.le_of_ble_eq_true rfl) ?_
        have eL : L = L ++ m_dB t (kk m) m o := by
          unfold m_dB
          simp only [c1e, c2e, c3e, if_true, if_false, List.nil_append, List.append_nil, List.append_assoc, List.singleton_append, List.cons_append, Option.map_some, ← kk_wk]
        rw [eL] at hd
        exact ⟨rfl, hF, hd⟩
      · have c3e : (mm_b m = mm_b o ∧ mm_c m = mm_c o) = False := by
          have h8 := c3; unfold m_sb at h8; simp at h8
          first | exact eq_true h8 | exact eq_false (fun q => h8 q.1 q.2)
        refine jv_aload_n (q := 63) G 0 dX1_tellChangedMember_62 rfl rfl rfl ?_
        refine jv_bipush (q := 65) (v := nI 13) G dX1_tellChangedMember_63 (by decide) rfl ?_
        refine jv_iload_n (q := 66) G 1 dX1_tellChangedMember_65 rfl rfl rfl ?_
        refine jv_aload_n (q := 67) G 2 dX1_tellChangedMember_66 rfl rfl rfl ?_
        refine jv_getZ (q := 70) G dX1_tellChangedMember_67 fl_X1_105 rfl ((congrFun hF.1.1 _).trans hs) (sd_M lk hF.1 hs hm).1 rfl ?_
        refine jv_aload_n (q := 71) G 2 dX1_tellChangedMember_70 rfl rfl rfl ?_
        refine jv_getI (q := 74) G dX1_tellChangedMember_71 fl_X1_111 rfl ((congrFun hF.1.1 _).trans hs) (sd_M lk hF.1 hs hm).2.2.2.1 rfl ?_
        refine jv_iconst (q := 75) (v := (-1)) G dX1_tellChangedMember_74 (by decide) rfl ?_
        refine jv_callV (q := 78) (As := [.int (nI 13), .int (nI t), .int (jv_bI (mm_w m)), .int (nI (4 * mm_n m + mm_s m)), .int (-1)]) (rest := []) G Z ml_X1_130 (k_tell (ko := some (4 * mm_n m + mm_s m)) (go := none) hlt hd (by have h9 := hlen; (try simp only [c1e, c2e, c3e, if_true, if_false, reduceIte, and_self, and_true, true_and, and_false, false_and, not_true_eq_false] at h9); (try simp only [List.length_append, List.length_cons, List.length_nil]); (try split at h9); all_goals omega) (fun K q => by cases q; omega) (fun q => by cases q)) hd.1.1 dX1_tellChangedMember_75 rfl (by decide) (by decide) (by decide) (by decide) (Nat.le_of_ble_eq_true rfl) rfl rfl (fun v5 h4 y6 => ?_) (fun _ _ hx => hx.elim)
        obtain ⟨rfl, hF2, hd2⟩ := y6
        show jv_V E 4 h4 0 0 (jv_Q E (fun y h' => y = none ∧ dF z h h' ∧ dS z h' s (L ++ m_dB t (kk m) m o)) jv_no 0 0) 78 [(0, .ref (z 6 3)), (1, .int (nI t)), (2, .ref c), (3, .ref b)] []
        have hF := hF.tr hF2
        have hd := hd2
        refine jv_vret G hr dX1_tellChangedMember_78 (Nat.le_of_ble_eq_true rfl) (Nat.le_of_ble_eq_true rfl) ?_
        have eL : (L ++ [(13, t, (some (4 * mm_n m + mm_s m)).map (wk (mm_w m)), none)]) = L ++ m_dB t (kk m) m o := by
          unfold m_dB
          simp only [c1e, c2e, c3e, if_true, if_false, List.nil_append, List.append_nil, List.append_assoc, List.singleton_append, List.cons_append, Option.map_some, ← kk_wk]
        rw [eL] at hd
        exact ⟨rfl, hF, hd⟩
    · have c2e : (mm_t m = mm_t o) = False := eq_false c2
      refine jv_aload_n (q := 39) G 0 dX1_tellChangedMember_38 rfl rfl rfl ?_
      refine jv_bipush (q := 41) (v := nI 12) G dX1_tellChangedMember_39 (by decide) rfl ?_
      refine jv_iload_n (q := 42) G 1 dX1_tellChangedMember_41 rfl rfl rfl ?_
      refine jv_aload_n (q := 43) G 2 dX1_tellChangedMember_42 rfl rfl rfl ?_
      refine jv_getZ (q := 46) G dX1_tellChangedMember_43 fl_X1_105 rfl ((congrFun hF.1.1 _).trans hs) (sd_M lk hF.1 hs hm).1 rfl ?_
      refine jv_aload_n (q := 47) G 2 dX1_tellChangedMember_46 rfl rfl rfl ?_
      refine jv_getI (q := 50) G dX1_tellChangedMember_47 fl_X1_111 rfl ((congrFun hF.1.1 _).trans hs) (sd_M lk hF.1 hs hm).2.2.2.1 rfl ?_
      refine jv_iconst (q := 51) (v := (-1)) G dX1_tellChangedMember_50 (by decide) rfl ?_
      refine jv_callV (q := 54) (As := [.int (nI 12), .int (nI t), .int (jv_bI (mm_w m)), .int (nI (4 * mm_n m + mm_s m)), .int (-1)]) (rest := []) G Z ml_X1_130 (k_tell (ko := some (4 * mm_n m + mm_s m)) (go := none) hlt hd (by have h9 := hlen; (try simp only [c1e, c2e, if_true, if_false, reduceIte, and_self, and_true, true_and, and_false, false_and, not_true_eq_false] at h9); (try simp only [List.length_append, List.length_cons, List.length_nil]); (try split at h9); all_goals omega) (fun K q => by cases q; omega) (fun q => by cases q)) hd.1.1 dX1_tellChangedMember_51 rfl (by decide) (by decide) (by decide) (by decide) (Nat.le_of_ble_eq_true rfl) rfl rfl (fun v8 h7 y9 => ?_) (fun _ _ hx => hx.elim)
      obtain ⟨rfl, hF2, hd2⟩ := y9
      show jv_V E 4 h7 0 0 (jv_Q E (fun y h' => y = none ∧ dF z h h' ∧ dS z h' s (L ++ m_dB t (kk m) m o)) jv_no 0 0) 54 [(0, .ref (z 6 3)), (1, .int (nI t)), (2, .ref c), (3, .ref b)] []
      have hF := hF.tr hF2
      have hd := hd2
      refine jv_aload_n (q := 55) G 2 dX1_tellChangedMember_54 rfl rfl rfl ?_
      refine jv_aload_n (q := 56) G 3 dX1_tellChangedMember_55 rfl rfl rfl ?_
      refine jv_callV_I (q := 59) (h1 := h7) (As := [.ref b]) (rest := []) (ce' := 0) (sl' := 0) (r := jv_bI (m_sb m o)) G Z ml_X1_182 (k_sameBody hlt ((congrFun hF.1.1 _).trans hs) (sd_M lk hF.1 hs hm) ((congrFun hF.1.1 _).trans hs2) (sd_M lk hF.1 hs2 ho)) ((congrFun hF.1.1 _).trans hs) dX1_tellChangedMember_56 rfl (by decide) (by decide) (by decide) (by decide) (Nat.le_of_ble_eq_true rfl) rfl rfl rfl rfl ?_
      refine jv_if_neB (q := 62) (tgt := 78) G dX1_tellChangedMember_59 (by decide) rfl (fun c10 => ?_) (fun c10 => ?_)
      · have c10e : (mm_b m = mm_b o ∧ mm_c m = mm_c o) = True := by
          have h8 := c10; unfold m_sb at h8; simp at h8
          first | exact eq_true h8 | exact eq_false (fun q => h8 q.1 q.2)
        refine jv_vret G hr dX1_tellChangedMember_78 (Nat.le_of_ble_eq_true rfl) (Nat.le_of_ble_eq_true rfl) ?_
        have eL : (L ++ [(12, t, (some (4 * mm_n m + mm_s m)).map (wk (mm_w m)), none)]) = L ++ m_dB t (kk m) m o := by
          unfold m_dB
          simp only [c1e, c2e, c10e, if_true, if_false, List.nil_append, List.append_nil, List.append_assoc, List.singleton_append, List.cons_append, Option.map_some, ← kk_wk]
        rw [eL] at hd
        exact ⟨rfl, hF, hd⟩
      · have c10e : (mm_b m = mm_b o ∧ mm_c m = mm_c o) = False := by
          have h8 := c10; unfold m_sb at h8; simp at h8
          first | exact eq_true h8 | exact eq_false (fun q => h8 q.1 q.2)
        refine jv_aload_n (q := 63) G 0 dX1_tellChangedMember_62 rfl rfl rfl ?_
        refine jv_bipush (q := 65) (v := nI 13) G dX1_tellChangedMember_63 (by decide) rfl ?_
        refine jv_iload_n (q := 66) G 1 dX1_tellChangedMember_65 rfl rfl rfl ?_
        refine jv_aload_n (q := 67) G 2 dX1_tellChangedMember_66 rfl rfl rfl ?_
        refine jv_getZ (q := 70) G dX1_tellChangedMember_67 fl_X1_105 rfl ((congrFun hF.1.1 _).trans hs) (sd_M lk hF.1 hs hm).1 rfl ?_
        refine jv_aload_n (q := 71) G 2 dX1_tellChangedMember_70 rfl rfl rfl ?_
        refine jv_getI (q := 74) G dX1_tellChangedMember_71 fl_X1_111 rfl ((congrFun hF.1.1 _).trans hs) (sd_M lk hF.1 hs hm).2.2.2.1 rfl ?_
        refine jv_iconst (q := 75) (v := (-1)) G dX1_tellChangedMember_74 (by decide) rfl ?_
        refine jv_callV (q := 78) (As := [.int (nI 13), .int (nI t), .int (jv_bI (mm_w m)), .int (nI (4 * mm_n m + mm_s m)), .int (-1)]) (rest := []) G Z ml_X1_130 (k_tell (ko := some (4 * mm_n m + mm_s m)) (go := none) hlt hd (by have h9 := hlen; (try simp only [c1e, c2e, c10e, if_true, if_false, reduceIte, and_self, and_true, true_and, and_false, false_and, not_true_eq_false] at h9); (try simp only [List.length_append, List.length_cons, List.length_nil]); (try split at h9); all_goals omega) (fun K q => by cases q; omega) (fun q => by cases q)) hd.1.1 dX1_tellChangedMember_75 rfl (by decide) (by decide) (by decide) (by decide) (Nat.le_of_ble_eq_true rfl) rfl rfl (fun v12 h11 y13 => ?_) (fun _ _ hx => hx.elim)
        obtain ⟨rfl, hF2, hd2⟩ := y13
        show jv_V E 4 h11 0 0 (jv_Q E (fun y h' => y = none ∧ dF z h h' ∧ dS z h' s (L ++ m_dB t (kk m) m o)) jv_no 0 0) 78 [(0, .ref (z 6 3)), (1, .int (nI t)), (2, .ref c), (3, .ref b)] []
        have hF := hF.tr hF2
        have hd := hd2
        refine jv_vret G hr dX1_tellChangedMember_78 (Nat.le_of_ble_eq_true rfl) (Nat.le_of_ble_eq_true rfl) ?_
        have eL : ((L ++ [(12, t, (some (4 * mm_n m + mm_s m)).map (wk (mm_w m)), none)]) ++ [(13, t, (some (4 * mm_n m + mm_s m)).map (wk (mm_w m)), none)]) = L ++ m_dB t (kk m) m o := by
          unfold m_dB
          simp only [c1e, c2e, c10e, if_true, if_false, List.nil_append, List.append_nil, List.append_assoc, List.singleton_append, List.cons_append, Option.map_some, ← kk_wk]
        rw [eL] at hd
        exact ⟨rfl, hF, hd⟩
  · have c1e : (mm_a m = mm_a o) = False := eq_false c1
    refine jv_aload_n (q := 12) G 0 dX1_tellChangedMember_11 rfl rfl rfl ?_
    refine jv_bipush (q := 14) (v := nI 11) G dX1_tellChangedMember_12 (by decide) rfl ?_
    refine jv_iload_n (q := 15) G 1 dX1_tellChangedMember_14 rfl rfl rfl ?_
    refine jv_aload_n (q := 16) G 2 dX1_tellChangedMember_15 rfl rfl rfl ?_
    refine jv_getZ (q := 19) G dX1_tellChangedMember_16 fl_X1_105 rfl ((congrFun hF.1.1 _).trans hs) (sd_M lk hF.1 hs hm).1 rfl ?_
    refine jv_aload_n (q := 20) G 2 dX1_tellChangedMember_19 rfl rfl rfl ?_
    refine jv_getI (q := 23) G dX1_tellChangedMember_20 fl_X1_111 rfl ((congrFun hF.1.1 _).trans hs) (sd_M lk hF.1 hs hm).2.2.2.1 rfl ?_
    refine jv_iconst (q := 24) (v := (-1)) G dX1_tellChangedMember_23 (by decide) rfl ?_
    refine jv_callV (q := 27) (As := [.int (nI 11), .int (nI t), .int (jv_bI (mm_w m)), .int (nI (4 * mm_n m + mm_s m)), .int (-1)]) (rest := []) G Z ml_X1_130 (k_tell (ko := some (4 * mm_n m + mm_s m)) (go := none) hlt hd (by have h9 := hlen; (try simp only [c1e, if_true, if_false, reduceIte, and_self, and_true, true_and, and_false, false_and, not_true_eq_false] at h9); (try simp only [List.length_append, List.length_cons, List.length_nil]); (try split at h9); all_goals omega) (fun K q => by cases q; omega) (fun q => by cases q)) hd.1.1 dX1_tellChangedMember_24 rfl (by decide) (by decide) (by decide) (by decide) (Nat.le_of_ble_eq_true rfl) rfl rfl (fun v15 h14 y16 => ?_) (fun _ _ hx => hx.elim)
    obtain ⟨rfl, hF2, hd2⟩ := y16
    show jv_V E 4 h14 0 0 (jv_Q E (fun y h' => y = none ∧ dF z h h' ∧ dS z h' s (L ++ m_dB t (kk m) m o)) jv_no 0 0) 27 [(0, .ref (z 6 3)), (1, .int (nI t)), (2, .ref c), (3, .ref b)] []
    have hF := hF.tr hF2
    have hd := hd2
    refine jv_aload_n (q := 28) G 2 dX1_tellChangedMember_27 rfl rfl rfl ?_
    refine jv_getZ (q := 31) G dX1_tellChangedMember_28 fl_X1_179 rfl ((congrFun hF.1.1 _).trans hs) (sd_M lk hF.1 hs hm).2.2.1 rfl ?_
    refine jv_aload_n (q := 32) G 3 dX1_tellChangedMember_31 rfl rfl rfl ?_
    refine jv_getZ (q := 35) G dX1_tellChangedMember_32 fl_X1_179 rfl ((congrFun hF.1.1 _).trans hs2) (sd_M lk hF.1 hs2 ho).2.2.1 rfl ?_
    refine jv_icmp_eqB (q := 38) (tgt := 54) G dX1_tellChangedMember_35 (by decide) rfl (fun c17 => ?_) (fun c17 => ?_)
    · have c17e : (mm_t m = mm_t o) = True := eq_true c17
      refine jv_aload_n (q := 55) G 2 dX1_tellChangedMember_54 rfl rfl rfl ?_
      refine jv_aload_n (q := 56) G 3 dX1_tellChangedMember_55 rfl rfl rfl ?_
      refine jv_callV_I (q := 59) (h1 := h14) (As := [.ref b]) (rest := []) (ce' := 0) (sl' := 0) (r := jv_bI (m_sb m o)) G Z ml_X1_182 (k_sameBody hlt ((congrFun hF.1.1 _).trans hs) (sd_M lk hF.1 hs hm) ((congrFun hF.1.1 _).trans hs2) (sd_M lk hF.1 hs2 ho)) ((congrFun hF.1.1 _).trans hs) dX1_tellChangedMember_56 rfl (by decide) (by decide) (by decide) (by decide) (Nat.le_of_ble_eq_true rfl) rfl rfl rfl rfl ?_
      refine jv_if_neB (q := 62) (tgt := 78) G dX1_tellChangedMember_59 (by decide) rfl (fun c18 => ?_) (fun c18 => ?_)
      · have c18e : (mm_b m = mm_b o ∧ mm_c m = mm_c o) = True := by
          have h8 := c18; unfold m_sb at h8; simp at h8
          first | exact eq_true h8 | exact eq_false (fun q => h8 q.1 q.2)
        refine jv_vret G hr dX1_tellChangedMember_78 (Nat.le_of_ble_eq_true rfl) (Nat.le_of_ble_eq_true rfl) ?_
        have eL : (L ++ [(11, t, (some (4 * mm_n m + mm_s m)).map (wk (mm_w m)), none)]) = L ++ m_dB t (kk m) m o := by
          unfold m_dB
          simp only [c1e, c17e, c18e, if_true, if_false, List.nil_append, List.append_nil, List.append_assoc, List.singleton_append, List.cons_append, Option.map_some, ← kk_wk]
        rw [eL] at hd
        exact ⟨rfl, hF, hd⟩
      · have c18e : (mm_b m = mm_b o ∧ mm_c m = mm_c o) = False := by
          have h8 := c18; unfold m_sb at h8; simp at h8
          first | exact eq_true h8 | exact eq_false (fun q => h8 q.1 q.2)
        refine jv_aload_n (q := 63) G 0 dX1_tellChangedMember_62 rfl rfl rfl ?_
        refine jv_bipush (q := 65) (v := nI 13) G dX1_tellChangedMember_63 (by decide) rfl ?_
        refine jv_iload_n (q := 66) G 1 dX1_tellChangedMember_65 rfl rfl rfl ?_
        refine jv_aload_n (q := 67) G 2 dX1_tellChangedMember_66 rfl rfl rfl ?_
        refine jv_getZ (q := 70) G dX1_tellChangedMember_67 fl_X1_105 rfl ((congrFun hF.1.1 _).trans hs) (sd_M lk hF.1 hs hm).1 rfl ?_
        refine jv_aload_n (q := 71) G 2 dX1_tellChangedMember_70 rfl rfl rfl ?_
        refine jv_getI (q := 74) G dX1_tellChangedMember_71 fl_X1_111 rfl ((congrFun hF.1.1 _).trans hs) (sd_M lk hF.1 hs hm).2.2.2.1 rfl ?_
        refine jv_iconst (q := 75) (v := (-1)) G dX1_tellChangedMember_74 (by decide) rfl ?_
        refine jv_callV (q := 78) (As := [.int (nI 13), .int (nI t), .int (jv_bI (mm_w m)), .int (nI (4 * mm_n m + mm_s m)), .int (-1)]) (rest := []) G Z ml_X1_130 (k_tell (ko := some (4 * mm_n m + mm_s m)) (go := none) hlt hd (by have h9 := hlen; (try simp only [c1e, c17e, c18e, if_true, if_false, reduceIte, and_self, and_true, true_and, and_false, false_and, not_true_eq_false] at h9); (try simp only [List.length_append, List.length_cons, List.length_nil]); (try split at h9); all_goals omega) (fun K q => by cases q; omega) (fun q => by cases q)) hd.1.1 dX1_tellChangedMember_75 rfl (by decide) (by decide) (by decide) (by decide) (Nat.le_of_ble_eq_true rfl) rfl rfl (fun v20 h19 y21 => ?_) (fun _ _ hx => hx.elim)
        obtain ⟨rfl, hF2, hd2⟩ := y21
        show jv_V E 4 h19 0 0 (jv_Q E (fun y h' => y = none ∧ dF z h h' ∧ dS z h' s (L ++ m_dB t (kk m) m o)) jv_no 0 0) 78 [(0, .ref (z 6 3)), (1, .int (nI t)), (2, .ref c), (3, .ref b)] []
        have hF := hF.tr hF2
        have hd := hd2
        refine jv_vret G hr dX1_tellChangedMember_78 (Nat.le_of_ble_eq_true rfl) (Nat.le_of_ble_eq_true rfl) ?_
        have eL : ((L ++ [(11, t, (some (4 * mm_n m + mm_s m)).map (wk (mm_w m)), none)]) ++ [(13, t, (some (4 * mm_n m + mm_s m)).map (wk (mm_w m)), none)]) = L ++ m_dB t (kk m) m o := by
          unfold m_dB
          simp only [c1e, c17e, c18e, if_true, if_false, List.nil_append, List.append_nil, List.append_assoc, List.singleton_append, List.cons_append, Option.map_some, ← kk_wk]
        rw [eL] at hd
        exact ⟨rfl, hF, hd⟩
    · have c17e : (mm_t m = mm_t o) = False := eq_false c17
      refine jv_aload_n (q := 39) G 0 dX1_tellChangedMember_38 rfl rfl rfl ?_
      refine jv_bipush (q := 41) (v := nI 12) G dX1_tellChangedMember_39 (by decide) rfl ?_
      refine jv_iload_n (q := 42) G 1 dX1_tellChangedMember_41 rfl rfl rfl ?_
      refine jv_aload_n (q := 43) G 2 dX1_tellChangedMember_42 rfl rfl rfl ?_
      refine jv_getZ (q := 46) G dX1_tellChangedMember_43 fl_X1_105 rfl ((congrFun hF.1.1 _).trans hs) (sd_M lk hF.1 hs hm).1 rfl ?_
      refine jv_aload_n (q := 47) G 2 dX1_tellChangedMember_46 rfl rfl rfl ?_
      refine jv_getI (q := 50) G dX1_tellChangedMember_47 fl_X1_111 rfl ((congrFun hF.1.1 _).trans hs) (sd_M lk hF.1 hs hm).2.2.2.1 rfl ?_
      refine jv_iconst (q := 51) (v := (-1)) G dX1_tellChangedMember_50 (by decide) rfl ?_
      refine jv_callV (q := 54) (As := [.int (nI 12), .int (nI t), .int (jv_bI (mm_w m)), .int (nI (4 * mm_n m + mm_s m)), .int (-1)]) (rest := []) G Z ml_X1_130 (k_tell (ko := some (4 * mm_n m + mm_s m)) (go := none) hlt hd (by have h9 := hlen; (try simp only [c1e, c17e, if_true, if_false, reduceIte, and_self, and_true, true_and, and_false, false_and, not_true_eq_false] at h9); (try simp only [List.length_append, List.length_cons, List.length_nil]); (try split at h9); all_goals omega) (fun K q => by cases q; omega) (fun q => by cases q)) hd.1.1 dX1_tellChangedMember_51 rfl (by decide) (by decide) (by decide) (by decide) (Nat.le_of_ble_eq_true rfl) rfl rfl (fun v23 h22 y24 => ?_) (fun _ _ hx => hx.elim)
      obtain ⟨rfl, hF2, hd2⟩ := y24
      show jv_V E 4 h22 0 0 (jv_Q E (fun y h' => y = none ∧ dF z h h' ∧ dS z h' s (L ++ m_dB t (kk m) m o)) jv_no 0 0) 54 [(0, .ref (z 6 3)), (1, .int (nI t)), (2, .ref c), (3, .ref b)] []
      have hF := hF.tr hF2
      have hd := hd2
      refine jv_aload_n (q := 55) G 2 dX1_tellChangedMember_54 rfl rfl rfl ?_
      refine jv_aload_n (q := 56) G 3 dX1_tellChangedMember_55 rfl rfl rfl ?_
      refine jv_callV_I (q := 59) (h1 := h22) (As := [.ref b]) (rest := []) (ce' := 0) (sl' := 0) (r := jv_bI (m_sb m o)) G Z ml_X1_182 (k_sameBody hlt ((congrFun hF.1.1 _).trans hs) (sd_M lk hF.1 hs hm) ((congrFun hF.1.1 _).trans hs2) (sd_M lk hF.1 hs2 ho)) ((congrFun hF.1.1 _).trans hs) dX1_tellChangedMember_56 rfl (by decide) (by decide) (by decide) (by decide) (Nat.le_of_ble_eq_true rfl) rfl rfl rfl rfl ?_
      refine jv_if_neB (q := 62) (tgt := 78) G dX1_tellChangedMember_59 (by decide) rfl (fun c25 => ?_) (fun c25 => ?_)
      · have c25e : (mm_b m = mm_b o ∧ mm_c m = mm_c o) = True := by
          have h8 := c25; unfold m_sb at h8; simp at h8
          first | exact eq_true h8 | exact eq_false (fun q => h8 q.1 q.2)
        refine jv_vret G hr dX1_tellChangedMember_78 (Nat.le_of_ble_eq_true rfl) (Nat.le_of_ble_eq_true rfl) ?_
        have eL : ((L ++ [(11, t, (some (4 * mm_n m + mm_s m)).map (wk (mm_w m)), none)]) ++ [(12, t, (some (4 * mm_n m + mm_s m)).map (wk (mm_w m)), none)]) = L ++ m_dB t (kk m) m o := by
          unfold m_dB
          simp only [c1e, c17e, c25e, if_true, if_false, List.nil_append, List.append_nil, List.append_assoc, List.singleton_append, List.cons_append, Option.map_some, ← kk_wk]
        rw [eL] at hd
        exact ⟨rfl, hF, hd⟩
      · have c25e : (mm_b m = mm_b o ∧ mm_c m = mm_c o) = False := by
          have h8 := c25; unfold m_sb at h8; simp at h8
          first | exact eq_true h8 | exact eq_false (fun q => h8 q.1 q.2)
        refine jv_aload_n (q := 63) G 0 dX1_tellChangedMember_62 rfl rfl rfl ?_
        refine jv_bipush (q := 65) (v := nI 13) G dX1_tellChangedMember_63 (by decide) rfl ?_
        refine jv_iload_n (q := 66) G 1 dX1_tellChangedMember_65 rfl rfl rfl ?_
        refine jv_aload_n (q := 67) G 2 dX1_tellChangedMember_66 rfl rfl rfl ?_
        refine jv_getZ (q := 70) G dX1_tellChangedMember_67 fl_X1_105 rfl ((congrFun hF.1.1 _).trans hs) (sd_M lk hF.1 hs hm).1 rfl ?_
        refine jv_aload_n (q := 71) G 2 dX1_tellChangedMember_70 rfl rfl rfl ?_
        refine jv_getI (q := 74) G dX1_tellChangedMember_71 fl_X1_111 rfl ((congrFun hF.1.1 _).trans hs) (sd_M lk hF.1 hs hm).2.2.2.1 rfl ?_
        refine jv_iconst (q := 75) (v := (-1)) G dX1_tellChangedMember_74 (by decide) rfl ?_
        refine jv_callV (q := 78) (As := [.int (nI 13), .int (nI t), .int (jv_bI (mm_w m)), .int (nI (4 * mm_n m + mm_s m)), .int (-1)]) (rest := []) G Z ml_X1_130 (k_tell (ko := some (4 * mm_n m + mm_s m)) (go := none) hlt hd (by have h9 := hlen; (try simp only [c1e, c17e, c25e, if_true, if_false, reduceIte, and_self, and_true, true_and, and_false, false_and, not_true_eq_false] at h9); (try simp only [List.length_append, List.length_cons, List.length_nil]); (try split at h9); all_goals omega) (fun K q => by cases q; omega) (fun q => by cases q)) hd.1.1 dX1_tellChangedMember_75 rfl (by decide) (by decide) (by decide) (by decide) (Nat.le_of_ble_eq_true rfl) rfl rfl (fun v27 h26 y28 => ?_) (fun _ _ hx => hx.elim)
        obtain ⟨rfl, hF2, hd2⟩ := y28
        show jv_V E 4 h26 0 0 (jv_Q E (fun y h' => y = none ∧ dF z h h' ∧ dS z h' s (L ++ m_dB t (kk m) m o)) jv_no 0 0) 78 [(0, .ref (z 6 3)), (1, .int (nI t)), (2, .ref c), (3, .ref b)] []
        have hF := hF.tr hF2
        have hd := hd2
        refine jv_vret G hr dX1_tellChangedMember_78 (Nat.le_of_ble_eq_true rfl) (Nat.le_of_ble_eq_true rfl) ?_
        have eL : (((L ++ [(11, t, (some (4 * mm_n m + mm_s m)).map (wk (mm_w m)), none)]) ++ [(12, t, (some (4 * mm_n m + mm_s m)).map (wk (mm_w m)), none)]) ++ [(13, t, (some (4 * mm_n m + mm_s m)).map (wk (mm_w m)), none)]) = L ++ m_dB t (kk m) m o := by
          unfold m_dB
          simp only [c1e, c17e, c25e, if_true, if_false, List.nil_append, List.append_nil, List.append_assoc, List.singleton_append, List.cons_append, Option.map_some, ← kk_wk]
        rw [eL] at hd
        exact ⟨rfl, hF, hd⟩
set_option maxHeartbeats 4000000 in
set_option maxRecDepth 100000 in
theorem k_tellChangedType {lA : Launch} (hlt : lA.stackTraces = false) {D : jv_D} {base : Nat} {z : Nat → Nat → Nat} {N : Nat → Nat → Nat} {h : jv_H} {s : mS} {L : List mR} (hdS : dS z h s L) {a c : Nat} {x y : mT} (tlx : cl_t z N h a) (hvx : cv_T z N h a x) (hox : mt_ok x) (tly : cl_t z N h c) (hvy : cv_T z N h c y) (hoy : mt_ok y) (hL : (L ++ m_dT (mt_n x) x y).length ≤ 230) : jv_Met lA D base yX1_tellChangedType (.code yX1_tellChangedType cX1_tellChangedType 3 none) 3 0 0 [.ref (z 6 3), .ref a, .ref c] h (fun y_ h' => y_ = none ∧ dF z h h' ∧ dS z h' s (L ++ m_dT (mt_n x) x y)) jv_no := by
  refine jv_ofV (lo := [(0, .ref (z 6 3)), (1, .ref a), (2, .ref c)]) hlt (by decide) (Nat.le_of_ble_eq_true rfl) rfl (fun E hEl hEd hEz Z G hr ht hnm => ?_)
  subst hEl; subst hEd; subst hEz
  have hF : dF z h h := dF.rf
  have hd := hdS
  have lk := hdS.1
  have q1 := hox.2.1; have q2 := hoy.2.1; have q3 := hox.1
  have b1 := m_mk_lt hox.2.2.2.2.1 (mt_f x).length; have b2 := m_mk_lt hoy.2.2.2.2.1 (mt_f y).length
  have hlen : L.length + ((if mt_i x = mt_i y then 0 else 1) + (if mt_a x = mt_a y then 0 else 1) + (if mt_k x = mt_k y ∧ mt_p x = mt_p y then 0 else 1) + (if mt_u x = mt_u y then 0 else 1) + (if m_mk (mt_f x) (mt_f x).length = m_mk (mt_f y) (mt_f y).length then 0 else 1)) ≤ 230 := by rw [← dT_len (t := mt_n x), ← List.length_append]; exact hL
  refine jv_aload_n (q := 1) G 1 dX1_tellChangedType_0 rfl rfl rfl ?_
  refine jv_getZ (q := 4) G dX1_tellChangedType_1 fl_X1_149 rfl (hF.1.t tlx).1 (ct_1 (sd_T lk hF.1 tlx hvx hox)) rfl ?_
  refine jv_aload_n (q := 5) G 2 dX1_tellChangedType_4 rfl rfl rfl ?_
  refine jv_getZ (q := 8) G dX1_tellChangedType_5 fl_X1_149 rfl (hF.1.t tly).1 (ct_1 (sd_T lk hF.1 tly hvy hoy)) rfl ?_
  refine jv_icmp_eqB (q := 11) (tgt := 17) G dX1_tellChangedType_8 (by decide) rfl (fun c1 => ?_) (fun c1 => ?_)
  · have c1e : (mt_i x = mt_i y) = True := eq_true c1
    refine jv_aload_n (q := 18) G 1 dX1_tellChangedType_17 rfl rfl rfl ?_
    refine jv_getZ (q := 21) G dX1_tellChangedType_18 fl_X1_152 rfl (hF.1.t tlx).1 (ct_2 (sd_T lk hF.1 tlx hvx hox)) rfl ?_
    refine jv_aload_n (q := 22) G 2 dX1_tellChangedType_21 rfl rfl rfl ?_
    refine jv_getZ (q := 25) G dX1_tellChangedType_22 fl_X1_152 rfl (hF.1.t tly).1 (ct_2 (sd_T lk hF.1 tly hvy hoy)) rfl ?_
    refine jv_icmp_eqB (q := 28) (tgt := 34) G dX1_tellChangedType_25 (by decide) rfl (fun c2 => ?_) (fun c2 => ?_)
    · have c2e : (mt_a x = mt_a y) = True := eq_true c2
      refine jv_aload_n (q := 35) G 1 dX1_tellChangedType_34 rfl rfl rfl ?_
      refine jv_getI (q := 38) G dX1_tellChangedType_35 fl_X1_155 rfl (hF.1.t tlx).1 (ct_3 (sd_T lk hF.1 tlx hvx hox)) rfl ?_
      refine jv_aload_n (q := 39) G 2 dX1_tellChangedType_38 rfl rfl rfl ?_
      refine jv_getI (q := 42) G dX1_tellChangedType_39 fl_X1_155 rfl (hF.1.t tly).1 (ct_3 (sd_T lk hF.1 tly hvy hoy)) rfl ?_
      refine jv_icmp_neN (q := 45) (tgt := 56) G dX1_tellChangedType_42 (by decide) rfl (by omega) (by omega) (fun c3 => ?_) (fun c3 => ?_)
      · have c3e : (mt_k x = mt_k y) = False := eq_false c3
        refine jv_aload_n (q := 57) G 0 dX1_tellChangedType_56 rfl rfl rfl ?_
        refine jv_iconst (q := 58) (v := nI 5) G dX1_tellChangedType_57 (by decide) rfl ?_
        refine jv_aload_n (q := 59) G 1 dX1_tellChangedType_58 rfl rfl rfl ?_
        refine jv_callV (q := 62) (As := [.int (nI 5), .ref a]) (rest := []) G Z ml_X1_141 (k_tellOfType hlt hd (by have h9 := hlen; (try simp only [c1e, c2e, c3e, if_true, if_false, reduceIte, and_self, and_true, true_and, and_false, false_and, not_true_eq_false] at h9); (try simp only [List.length_append, List.length_cons, List.length_nil]); (try split at h9); all_goals omega) (hF.1.t tlx).1 (ct_0 (sd_T lk hF.1 tlx hvx hox))) hd.1.1 dX1_tellChangedType_59 rfl (by decide) (by decide) (by decide) (by decide) (Nat.le_of_ble_eq_true rfl) rfl rfl (fun v5 h4 y6 => ?_) (fun _ _ hx => hx.elim)
        obtain ⟨rfl, hF2, hd2⟩ := y6
        show jv_V E 3 h4 0 0 (jv_Q E (fun y_ h' => y_ = none ∧ dF z h h' ∧ dS z h' s (L ++ m_dT (mt_n x) x y)) jv_no 0 0) 62 [(0, .ref (z 6 3)), (1, .ref a), (2, .ref c)] []
        have hF := hF.tr hF2
        have hd := hd2
        refine jv_aload_n (q := 63) G 1 dX1_tellChangedType_62 rfl rfl rfl ?_
        refine jv_getI (q := 66) G dX1_tellChangedType_63 fl_X1_161 rfl (hF.1.t tlx).1 (ct_5 (sd_T lk hF.1 tlx hvx hox)) rfl ?_
        refine jv_aload_n (q := 67) G 2 dX1_tellChangedType_66 rfl rfl rfl ?_
        refine jv_getI (q := 70) G dX1_tellChangedType_67 fl_X1_161 rfl (hF.1.t tly).1 (ct_5 (sd_T lk hF.1 tly hvy hoy)) rfl ?_
        refine jv_icmp_eq (q := 73) (tgt := 80) G dX1_tellChangedType_70 (by decide) rfl (fun c7 => ?_) (fun c7 => ?_)
        · rw [jv_oN_inj (fun k e => by have := (hox.2.2.1 k e).1; omega) (fun k e => by have := (hoy.2.2.1 k e).1; omega)] at c7
          have c7e : (mt_u x = mt_u y) = True := eq_true c7
          refine jv_aload_n (q := 81) G 1 dX1_tellChangedType_80 rfl rfl rfl ?_
          refine jv_callV_I (q := 84) (h1 := h4) (As := []) (rest := []) (ce' := 0) (sl' := 0) (r := nI (m_mk (mt_f x) (mt_f x).length)) G Z ml_X1_164 (k_interfaceNames hlt (hF.1.t tlx) (sd_T lk hF.1 tlx hvx hox) hox) (hF.1.t tlx).1 dX1_tellChangedType_81 rfl (by decide) (by decide) (by decide) (by decide) (Nat.le_of_ble_eq_true rfl) rfl rfl rfl rfl ?_
          refine jv_aload_n (q := 85) G 2 dX1_tellChangedType_84 rfl rfl rfl ?_
          refine jv_callV_I (q := 88) (h1 := h4) (As := []) (rest := [.int (nI (m_mk (mt_f x) (mt_f x).length))]) (ce' := 0) (sl' := 0) (r := nI (m_mk (mt_f y) (mt_f y).length)) G Z ml_X1_164 (k_interfaceNames hlt (hF.1.t tly) (sd_T lk hF.1 tly hvy hoy) hoy) (hF.1.t tly).1 dX1_tellChangedType_85 rfl (by decide) (by decide) (by decide) (by decide) (Nat.le_of_ble_eq_true rfl) rfl rfl rfl rfl ?_
          refine jv_icmp_eqN (q := 91) (tgt := 98) G dX1_tellChangedType_88 (by decide) rfl (by omega) (by omega) (fun c8 => ?_) (fun c8 => ?_)
          · have c8e : (m_mk (mt_f x) (mt_f x).length = m_mk (mt_f y) (mt_f y).length) = True := eq_true c8
            refine jv_vret G hr dX1_tellChangedType_98 (Nat.le_of_ble_eq_true rfl) (Nat.le_of_ble_eq_true rfl) ?_
            have eL : (L ++ [(5, mt_n x, none, none)]) = L ++ m_dT (mt_n x) x y := by
              unfold m_dT
              simp only [c1e, c2e, c3e, c7e, c8e, if_true, if_false, and_self, and_true, true_and, and_false, false_and, List.nil_append, List.append_nil, List.append_assoc, List.singleton_append, List.cons_append]
            rw [eL] at hd
            exact ⟨rfl, hF, hd⟩
          · have c8e : (m_mk (mt_f x) (mt_f x).length = m_mk (mt_f y) (mt_f y).length) = False := eq_false c8
            refine jv_aload_n (q := 92) G 0 dX1_tellChangedType_91 rfl rfl rfl ?_
            refine jv_bipush (q := 94) (v := nI 7) G dX1_tellChangedType_92 (by decide) rfl ?_
            refine jv_aload_n (q := 95) G 1 dX1_tellChangedType_94 rfl rfl rfl ?_
            refine jv_callV (q := 98) (As := [.int (nI 7), .ref a]) (rest := []) G Z ml_X1_141 (k_tellOfType hlt hd (by have h9 := hlen; (try simp only [c1e, c2e, c3e, c7e, c8e, if_true, if_false, reduceIte, and_self, and_true, true_and, and_false, false_and, not_true_eq_false] at h9); (try simp only [List.length_append, List.length_cons, List.length_nil]); (try split at h9); all_goals omega) (hF.1.t tlx).1 (ct_0 (sd_T lk hF.1 tlx hvx hox))) hd.1.1 dX1_tellChangedType_95 rfl (by decide) (by decide) (by decide) (by decide) (Nat.le_of_ble_eq_true rfl) rfl rfl (fun v10 h9 y11 => ?_) (fun _ _ hx => hx.elim)
            obtain ⟨rfl, hF2, hd2⟩ := y11
            show jv_V E 3 h9 0 0 (jv_Q E (fun y_ h' => y_ = none ∧ dF z h h' ∧ dS z h' s (L ++ m_dT (mt_n x) x y)) jv_no 0 0) 98 [(0, .ref (z 6 3)), (1, .ref a), (2, .ref c)] []
            have hF := hF.tr hF2
            have hd := hd2
            refine jv_vret G hr dX1_tellChangedType_98 (Nat.le_of_ble_eq_true rfl) (Nat.le_of_ble_eq_true rfl) ?_
            have eL : ((L ++ [(5, mt_n x, none, none)]) ++ [(7, mt_n x, none, none)]) = L ++ m_dT (mt_n x) x y := by
              unfold m_dT
              simp only [c1e, c2e, c3e, c7e, c8e, if_true, if_false, and_self, and_true, true_and, and_false, false_and, List.nil_append, List.append_nil, List.append_assoc, List.singleton_append, List.cons_append]
            rw [eL] at hd
            exact ⟨rfl, hF, hd⟩
        · rw [jv_oN_inj (fun k e => by have := (hox.2.2.1 k e).1; omega) (fun k e => by have := (hoy.2.2.1 k e).1; omega)] at c7
          have c7e : (mt_u x = mt_u y) = False := eq_false c7
          refine jv_aload_n (q := 74) G 0 dX1_tellChangedType_73 rfl rfl rfl ?_
          refine jv_bipush (q := 76) (v := nI 6) G dX1_tellChangedType_74 (by decide) rfl ?_
          refine jv_aload_n (q := 77) G 1 dX1_tellChangedType_76 rfl rfl rfl ?_
          refine jv_callV (q := 80) (As := [.int (nI 6), .ref a]) (rest := []) G Z ml_X1_141 (k_tellOfType hlt hd (by have h9 := hlen; (try simp only [c1e, c2e, c3e, c7e, if_true, if_false, reduceIte, and_self, and_true, true_and, and_false, false_and, not_true_eq_false] at h9); (try simp only [List.length_append, List.length_cons, List.length_nil]); (try split at h9); all_goals omega) (hF.1.t tlx).1 (ct_0 (sd_T lk hF.1 tlx hvx hox))) hd.1.1 dX1_tellChangedType_77 rfl (by decide) (by decide) (by decide) (by decide) (Nat.le_of_ble_eq_true rfl) rfl rfl (fun v13 h12 y14 => ?_) (fun _ _ hx => hx.elim)
          obtain ⟨rfl, hF2, hd2⟩ := y14
          show jv_V E 3 h12 0 0 (jv_Q E (fun y_ h' => y_ = none ∧ dF z h h' ∧ dS z h' s (L ++ m_dT (mt_n x) x y)) jv_no 0 0) 80 [(0, .ref (z 6 3)), (1, .ref a), (2, .ref c)] []
          have hF := hF.tr hF2
          have hd := hd2
          refine jv_aload_n (q := 81) G 1 dX1_tellChangedType_80 rfl rfl rfl ?_
          refine jv_callV_I (q := 84) (h1 := h12) (As := []) (rest := []) (ce' := 0) (sl' := 0) (r := nI (m_mk (mt_f x) (mt_f x).length)) G Z ml_X1_164 (k_interfaceNames hlt (hF.1.t tlx) (sd_T lk hF.1 tlx hvx hox) hox) (hF.1.t tlx).1 dX1_tellChangedType_81 rfl (by decide) (by decide) (by decide) (by decide) (Nat.le_of_ble_eq_true rfl) rfl rfl rfl rfl ?_
          refine jv_aload_n (q := 85) G 2 dX1_tellChangedType_84 rfl rfl rfl ?_
          refine jv_callV_I (q := 88) (h1 := h12) (As := []) (rest := [.int (nI (m_mk (mt_f x) (mt_f x).length))]) (ce' := 0) (sl' := 0) (r := nI (m_mk (mt_f y) (mt_f y).length)) G Z ml_X1_164 (k_interfaceNames hlt (hF.1.t tly) (sd_T lk hF.1 tly hvy hoy) hoy) (hF.1.t tly).1 dX1_tellChangedType_85 rfl (by decide) (by decide) (by decide) (by decide) (Nat.le_of_ble_eq_true rfl) rfl rfl rfl rfl ?_
          refine jv_icmp_eqN (q := 91) (tgt := 98) G dX1_tellChangedType_88 (by decide) rfl (by omega) (by omega) (fun c15 => ?_) (fun c15 => ?_)
          · have c15e : (m_mk (mt_f x) (mt_f x).length = m_mk (mt_f y) (mt_f y).length) = True := eq_true c15
            refine jv_vret G hr dX1_tellChangedType_98 (Nat.le_of_ble_eq_true rfl) (Nat.le_of_ble_eq_true rfl) ?_
            have eL : ((L ++ [(5, mt_n x, none, none)]) ++ [(6, mt_n x, none, none)]) = L ++ m_dT (mt_n x) x y := by
              unfold m_dT
              simp only [c1e, c2e, c3e, c7e, c15e, if_true, if_false, and_self, and_true, true_and, and_false, false_and, List.nil_append, List.append_nil, List.append_assoc, List.singleton_append, List.cons_append]
            rw [eL] at hd
            exact ⟨rfl, hF, hd⟩
          · have c15e : (m_mk (mt_f x) (mt_f x).length = m_mk (mt_f y) (mt_f y).length) = False := eq_false c15
            refine jv_aload_n (q := 92) G 0 dX1_tellChangedType_91 rfl rfl rfl ?_
            refine jv_bipush (q := 94) (v := nI 7) G dX1_tellChangedType_92 (by decide) rfl ?_
            refine jv_aload_n (q := 95) G 1 dX1_tellChangedType_94 rfl rfl rfl ?_
            refine jv_callV (q := 98) (As := [.int (nI 7), .ref a]) (rest := []) G Z ml_X1_141 (k_tellOfType hlt hd (by have h9 := hlen; (try simp only [c1e, c2e, c3e, c7e, c15e, if_true, if_false, reduceIte, and_self, and_true, true_and, and_false, false_and, not_true_eq_false] at h9); (try simp only [List.length_append, List.length_cons, List.length_nil]); (try split at h9); all_goals omega) (hF.1.t tlx).1 (ct_0 (sd_T lk hF.1 tlx hvx hox))) hd.1.1 dX1_tellChangedType_95 rfl (by decide) (by decide) (by decide) (by decide) (Nat.le_of_ble_eq_true rfl) rfl rfl (fun v17 h16 y18 => ?_) (fun _ _ hx => hx.elim)
            obtain ⟨rfl, hF2, hd2⟩ := y18
            show jv_V E 3 h16 0 0 (jv_Q E (fun y_ h' => y_ = none ∧ dF z h h' ∧ dS z h' s (L ++ m_dT (mt_n x) x y)) jv_no 0 0) 98 [(0, .ref (z 6 3)), (1, .ref a), (2, .ref c)] []
            have hF := hF.tr hF2
            have hd := hd2
            refine jv_vret G hr dX1_tellChangedType_98 (Nat.le_of_ble_eq_true rfl) (Nat.le_of_ble_eq_true rfl) ?_
            have eL : (((L ++ [(5, mt_n x, none, none)]) ++ [(6, mt_n x, none, none)]) ++ [(7, mt_n x, none, none)]) = L ++ m_dT (mt_n x) x y := by
              unfold m_dT
              simp only [c1e, c2e, c3e, c7e, c15e, if_true, if_false, and_self, and_true, true_and, and_false, false_and, List.nil_append, List.append_nil, List.append_assoc, List.singleton_append, List.cons_append]
            rw [eL] at hd
            exact ⟨rfl, hF, hd⟩
      · have c3e : (mt_k x = mt_k y) = True := eq_true c3
        refine jv_aload_n (q := 46) G 1 dX1_tellChangedType_45 rfl rfl rfl ?_
        refine jv_getZ (q := 49) G dX1_tellChangedType_46 fl_X1_158 rfl (hF.1.t tlx).1 (ct_4 (sd_T lk hF.1 tlx hvx hox)) rfl ?_
        refine jv_aload_n (q := 50) G 2 dX1_tellChangedType_49 rfl rfl rfl ?_
        refine jv_getZ (q := 53) G dX1_tellChangedType_50 fl_X1_158 rfl (hF.1.t tly).1 (ct_4 (sd_T lk hF.1 tly hvy hoy)) rfl ?_
        refine jv_icmp_eqB (q := 56) (tgt := 62) G dX1_tellChangedType_53 (by decide) rfl (fun c19 => ?_) (fun c19 => ?_)
        · have c19e : (mt_p x = mt_p y) = True := eq_true c19
          refine jv_aload_n (q := 63) G 1 dX1_tellChangedType_62 rfl rfl rfl ?_
          refine jv_getI (q := 66) G dX1_tellChangedType_63 fl_X1_161 rfl (hF.1.t tlx).1 (ct_5 (sd_T lk hF.1 tlx hvx hox)) rfl ?_
          refine jv_aload_n (q := 67) G 2 dX1_tellChangedType_66 rfl rfl rfl ?_
          refine jv_getI (q := 70) G dX1_tellChangedType_67 fl_X1_161 rfl (hF.1.t tly).1 (ct_5 (sd_T lk hF.1 tly hvy hoy)) rfl ?_
          refine jv_icmp_eq (q := 73) (tgt := 80) G dX1_tellChangedType_70 (by decide) rfl (fun c20 => ?_) (fun c20 => ?_)
          · rw [jv_oN_inj (fun k e => by have := (hox.2.2.1 k e).1; omega) (fun k e => by have := (hoy.2.2.1 k e).1; omega)] at c20
            have c20e : (mt_u x = mt_u y) = True := eq_true c20
            refine jv_aload_n (q := 81) G 1 dX1_tellChangedType_80 rfl rfl rfl ?_
            refine jv_callV_I (q := 84) (h1 := h) (As := []) (rest := []) (ce' := 0) (sl' := 0) (r := nI (m_mk (mt_f x) (mt_f x).length)) G Z ml_X1_164 (k_interfaceNames hlt (hF.1.t tlx) (sd_T lk hF.1 tlx hvx hox) hox) (hF.1.t tlx).1 dX1_tellChangedType_81 rfl (by decide) (by decide) (by decide) (by decide) (Nat.le_of_ble_eq_true rfl) rfl rfl rfl rfl ?_
            refine jv_aload_n (q := 85) G 2 dX1_tellChangedType_84 rfl rfl rfl ?_
            refine jv_callV_I (q := 88) (h1 := h) (As := []) (rest := [.int (nI (m_mk (mt_f x) (mt_f x).length))]) (ce' := 0) (sl' := 0) (r := nI (m_mk (mt_f y) (mt_f y).length)) G Z ml_X1_164 (k_interfaceNames hlt (hF.1.t tly) (sd_T lk hF.1 tly hvy hoy) hoy) (hF.1.t tly).1 dX1_tellChangedType_85 rfl (by decide) (by decide) (by decide) (by decide) (Nat.le_of_ble_eq_true rfl) rfl rfl rfl rfl ?_
            refine jv_icmp_eqN (q := 91) (tgt := 98) G dX1_tellChangedType_88 (by decide) rfl (by omega) (by omega) (fun c21 => ?_) (fun c21 => ?_)
            · have c21e : (m_mk (mt_f x) (mt_f x).length = m_mk (mt_f y) (mt_f y).length) = True := eq_true c21
              refine jv_vret G hr dX1_tellChangedType_98 (Nat.le_of_ble_eq_true rfl) (Nat.le_of_ble_eq_true rfl) ?_
              have eL : L = L ++ m_dT (mt_n x) x y := by
                unfold m_dT
                simp only [c1e, c2e, c3e, c19e, c20e, c21e, if_true, if_false, and_self, and_true, true_and, and_false, false_and, List.nil_append, List.append_nil, List.append_assoc, List.singleton_append, List.cons_append]
              rw [eL] at hd
              exact ⟨rfl, hF, hd⟩
            · have c21e : (m_mk (mt_f x) (mt_f x).length = m_mk (mt_f y) (mt_f y).length) = False := eq_false c21
              refine jv_aload_n (q := 92) G 0 dX1_tellChangedType_91 rfl rfl rfl ?_
              refine jv_bipush (q := 94) (v := nI 7) G dX1_tellChangedType_92 (by decide) rfl ?_
              refine jv_aload_n (q := 95) G 1 dX1_tellChangedType_94 rfl rfl rfl ?_
              refine jv_callV (q := 98) (As := [.int (nI 7), .ref a]) (rest := []) G Z ml_X1_141 (k_tellOfType hlt hd (by have h9 := hlen; (try simp only [c1e, c2e, c3e, c19e, c20e, c21e, if_true, if_false, reduceIte, and_self, and_true, true_and, and_false, false_and, not_true_eq_false] at h9); (try simp only [List.length_append, List.length_cons, List.length_nil]); (try split at h9); all_goals omega) (hF.1.t tlx).1 (ct_0 (sd_T lk hF.1 tlx hvx hox))) hd.1.1 dX1_tellChangedType_95 rfl (by decide) (by decide) (by decide) (by decide) (Nat.le_of_ble_eq_true rfl) rfl rfl (fun v23 h22 y24 => ?_) (fun _ _ hx => hx.elim)
              obtain ⟨rfl, hF2, hd2⟩ := y24
              show jv_V E 3 h22 0 0 (jv_Q E (fun y_ h' => y_ = none ∧ dF z h h' ∧ dS z h' s (L ++ m_dT (mt_n x) x y)) jv_no 0 0) 98 [(0, .ref (z 6 3)), (1, .ref a), (2, .ref c)] []
              have hF := hF.tr hF2
              have hd := hd2
              refine jv_vret G hr dX1_tellChangedType_98 (Nat.le_of_ble_eq_true rfl) (Nat.le_of_ble_eq_true rfl) ?_
              have eL : (L ++ [(7, mt_n x, none, none)]) = L ++ m_dT (mt_n x) x y := by
                unfold m_dT
                simp only [c1e, c2e, c3e, c19e, c20e, c21e, if_true, if_false, and_self, and_true, true_and, and_false, false_and, List.nil_append, List.append_nil, List.append_assoc, List.singleton_append, List.cons_append]
              rw [eL] at hd
              exact ⟨rfl, hF, hd⟩
          · rw [jv_oN_inj (fun k e => by have := (hox.2.2.1 k e).1; omega) (fun k e => by have := (hoy.2.2.1 k e).1; omega)] at c20
            have c20e : (mt_u x = mt_u y) = False := eq_false c20
            refine jv_aload_n (q := 74) G 0 dX1_tellChangedType_73 rfl rfl rfl ?_
            refine jv_bipush (q := 76) (v := nI 6) G dX1_tellChangedType_74 (by decide) rfl ?_
            refine jv_aload_n (q := 77) G 1 dX1_tellChangedType_76 rfl rfl rfl ?_
            refine jv_callV (q := 80) (As := [.int (nI 6), .ref a]) (rest := []) G Z ml_X1_141 (k_tellOfType hlt hd (by have h9 := hlen; (try simp only [c1e, c2e, c3e, c19e, c20e, if_true, if_false, reduceIte, and_self, and_true, true_and, and_false, false_and, not_true_eq_false] at h9); (try simp only [List.length_append, List.length_cons, List.length_nil]); (try split at h9); all_goals omega) (hF.1.t tlx).1 (ct_0 (sd_T lk hF.1 tlx hvx hox))) hd.1.1 dX1_tellChangedType_77 rfl (by decide) (by decide) (by decide) (by decide) (Nat.le_of_ble_eq_true rfl) rfl rfl (fun v26 h25 y27 => ?_) (fun _ _ hx => hx.elim)
            obtain ⟨rfl, hF2, hd2⟩ := y27
            show jv_V E 3 h25 0 0 (jv_Q E (fun y_ h' => y_ = none ∧ dF z h h' ∧ dS z h' s (L ++ m_dT (mt_n x) x y)) jv_no 0 0) 80 [(0, .ref (z 6 3)), (1, .ref a), (2, .ref c)] []
            have hF := hF.tr hF2
            have hd := hd2
            refine jv_aload_n (q := 81) G 1 dX1_tellChangedType_80 rfl rfl rfl ?_
            refine jv_callV_I (q := 84) (h1 := h25) (As := []) (rest := []) (ce' := 0) (sl' := 0) (r := nI (m_mk (mt_f x) (mt_f x).length)) G Z ml_X1_164 (k_interfaceNames hlt (hF.1.t tlx) (sd_T lk hF.1 tlx hvx hox) hox) (hF.1.t tlx).1 dX1_tellChangedType_81 rfl (by decide) (by decide) (by decide) (by decide) (Nat.le_of_ble_eq_true rfl) rfl rfl rfl rfl ?_
            refine jv_aload_n (q := 85) G 2 dX1_tellChangedType_84 rfl rfl rfl ?_
            refine jv_callV_I (q := 88) (h1 := h25) (As := []) (rest := [.int (nI (m_mk (mt_f x) (mt_f x).length))]) (ce' := 0) (sl' := 0) (r := nI (m_mk (mt_f y) (mt_f y).length)) G Z ml_X1_164 (k_interfaceNames hlt (hF.1.t tly) (sd_T lk hF.1 tly hvy hoy) hoy) (hF.1.t tly).1 dX1_tellChangedType_85 rfl (by decide) (by decide) (by decide) (by decide) (Nat.le_of_ble_eq_true rfl) rfl rfl rfl rfl ?_
            refine jv_icmp_eqN (q := 91) (tgt := 98) G dX1_tellChangedType_88 (by decide) rfl (by omega) (by omega) (fun c28 => ?_) (fun c28 => ?_)
            · have c28e : (m_mk (mt_f x) (mt_f x).length = m_mk (mt_f y) (mt_f y).length) = True := eq_true c28
              refine jv_vret G hr dX1_tellChangedType_98 (Nat.le_of_ble_eq_true rfl) (Nat.le_of_ble_eq_true rfl) ?_
              have eL : (L ++ [(6, mt_n x, none, none)]) = L ++ m_dT (mt_n x) x y := by
                unfold m_dT
                simp only [c1e, c2e, c3e, c19e, c20e, c28e, if_true, if_false, and_self, and_true, true_and, and_false, false_and, List.nil_append, List.append_nil, List.append_assoc, List.singleton_append, List.cons_append]
              rw [eL] at hd
              exact ⟨rfl, hF, hd⟩
            · have c28e : (m_mk (mt_f x) (mt_f x).length = m_mk (mt_f y) (mt_f y).length) = False := eq_false c28
              refine jv_aload_n (q := 92) G 0 dX1_tellChangedType_91 rfl rfl rfl ?_
              refine jv_bipush (q := 94) (v := nI 7) G dX1_tellChangedType_92 (by decide) rfl ?_
              refine jv_aload_n (q := 95) G 1 dX1_tellChangedType_94 rfl rfl rfl ?_
              refine jv_callV (q := 98) (As := [.int (nI 7), .ref a]) (rest := []) G Z ml_X1_141 (k_tellOfType hlt hd (by have h9 := hlen; (try simp only [c1e, c2e, c3e, c19e, c20e, c28e, if_true, if_false, reduceIte, and_self, and_true, true_and, and_false, false_and, not_true_eq_false] at h9); (try simp only [List.length_append, List.length_cons, List.length_nil]); (try split at h9); all_goals omega) (hF.1.t tlx).1 (ct_0 (sd_T lk hF.1 tlx hvx hox))) hd.1.1 dX1_tellChangedType_95 rfl (by decide) (by decide) (by decide) (by decide) (Nat.le_of_ble_eq_true rfl) rfl rfl (fun v30 h29 y31 => ?_) (fun _ _ hx => hx.elim)
              obtain ⟨rfl, hF2, hd2⟩ := y31
              show jv_V E 3 h29 0 0 (jv_Q E (fun y_ h' => y_ = none ∧ dF z h h' ∧ dS z h' s (L ++ m_dT (mt_n x) x y)) jv_no 0 0) 98 [(0, .ref (z 6 3)), (1, .ref a), (2, .ref c)] []
              have hF := hF.tr hF2
              have hd := hd2
              refine jv_vret G hr dX1_tellChangedType_98 (Nat.le_of_ble_eq_true rfl) (Nat.le_of_ble_eq_true rfl) ?_
              have eL : ((L ++ [(6, mt_n x, none, none)]) ++ [(7, mt_n x, none, none)]) = L ++ m_dT (mt_n x) x y := by
                unfold m_dT
                simp only [c1e, c2e, c3e, c19e, c20e, c28e, if_true, if_false, and_self, and_true, true_and, and_false, false_and, List.nil_append, List.append_nil, List.append_assoc, List.singleton_append, List.cons_append]
              rw [eL] at hd
              exact ⟨rfl, hF, hd⟩
        · have c19e : (mt_p x = mt_p y) = False := eq_false c19
          refine jv_aload_n (q := 57) G 0 dX1_tellChangedType_56 rfl rfl rfl ?_
          refine jv_iconst (q := 58) (v := nI 5) G dX1_tellChangedType_57 (by decide) rfl ?_
          refine jv_aload_n (q := 59) G 1 dX1_tellChangedType_58 rfl rfl rfl ?_
          refine jv_callV (q := 62) (As := [.int (nI 5), .ref a]) (rest := []) G Z ml_X1_141 (k_tellOfType hlt hd (by have h9 := hlen; (try simp only [c1e, c2e, c3e, c19e, if_true, if_false, reduceIte, and_self, and_true, true_and, and_false, false_and, not_true_eq_false] at h9); (try simp only [List.length_append, List.length_cons, List.length_nil]); (try split at h9); all_goals omega) (hF.1.t tlx).1 (ct_0 (sd_T lk hF.1 tlx hvx hox))) hd.1.1 dX1_tellChangedType_59 rfl (by decide) (by decide) (by decide) (by decide) (Nat.le_of_ble_eq_true rfl) rfl rfl (fun v33 h32 y34 => ?_) (fun _ _ hx => hx.elim)
          obtain ⟨rfl, hF2, hd2⟩ := y34
          show jv_V E 3 h32 0 0 (jv_Q E (fun y_ h' => y_ = none ∧ dF z h h' ∧ dS z h' s (L ++ m_dT (mt_n x) x y)) jv_no 0 0) 62 [(0, .ref (z 6 3)), (1, .ref a), (2, .ref c)] []
          have hF := hF.tr hF2
          have hd := hd2
          refine jv_aload_n (q := 63) G 1 dX1_tellChangedType_62 rfl rfl rfl ?_
          refine jv_getI (q := 66) G dX1_tellChangedType_63 fl_X1_161 rfl (hF.1.t tlx).1 (ct_5 (sd_T lk hF.1 tlx hvx hox)) rfl ?_
          refine jv_aload_n (q := 67) G 2 dX1_tellChangedType_66 rfl rfl rfl ?_
          refine jv_getI (q := 70) G dX1_tellChangedType_67 fl_X1_161 rfl (hF.1.t tly).1 (ct_5 (sd_T lk hF.1 tly hvy hoy)) rfl ?_
          refine jv_icmp_eq (q := 73) (tgt := 80) G dX1_tellChangedType_70 (by decide) rfl (fun c35 => ?_) (fun c35 => ?_)
          · rw [jv_oN_inj (fun k e => by have := (hox.2.2.1 k e).1; omega) (fun k e => by have := (hoy.2.2.1 k e).1; omega)] at c35
            have c35e : (mt_u x = mt_u y) = True := eq_true c35
            refine jv_aload_n (q := 81) G 1 dX1_tellChangedType_80 rfl rfl rfl ?_
            refine jv_callV_I (q := 84) (h1 := h32) (As := []) (rest := []) (ce' := 0) (sl' := 0) (r := nI (m_mk (mt_f x) (mt_f x).length)) G Z ml_X1_164 (k_interfaceNames hlt (hF.1.t tlx) (sd_T lk hF.1 tlx hvx hox) hox) (hF.1.t tlx).1 dX1_tellChangedType_81 rfl (by decide) (by decide) (by decide) (by decide) (Nat.le_of_ble_eq_true rfl) rfl rfl rfl rfl ?_
            refine jv_aload_n (q := 85) G 2 dX1_tellChangedType_84 rfl rfl rfl ?_
            refine jv_callV_I (q := 88) (h1 := h32) (As := []) (rest := [.int (nI (m_mk (mt_f x) (mt_f x).length))]) (ce' := 0) (sl' := 0) (r := nI (m_mk (mt_f y) (mt_f y).length)) G Z ml_X1_164 (k_interfaceNames hlt (hF.1.t tly) (sd_T lk hF.1 tly hvy hoy) hoy) (hF.1.t tly).1 dX1_tellChangedType_85 rfl (by decide) (by decide) (by decide) (by decide) (Nat.le_of_ble_eq_true rfl) rfl rfl rfl rfl ?_
            refine jv_icmp_eqN (q := 91) (tgt := 98) G dX1_tellChangedType_88 (by decide) rfl (by omega) (by omega) (fun c36 => ?_) (fun c36 => ?_)
            · have c36e : (m_mk (mt_f x) (mt_f x).length = m_mk (mt_f y) (mt_f y).length) = True := eq_true c36
              refine jv_vret G hr dX1_tellChangedType_98 (Nat.le_of_ble_eq_true rfl) (Nat.le_of_ble_eq_true rfl) ?_
              have eL : (L ++ [(5, mt_n x, none, none)]) = L ++ m_dT (mt_n x) x y := by
                unfold m_dT
                simp only [c1e, c2e, c3e, c19e, c35e, c36e, if_true, if_false, and_self, and_true, true_and, and_false, false_and, List.nil_append, List.append_nil, List.append_assoc, List.singleton_append, List.cons_append]
              rw [eL] at hd
              exact ⟨rfl, hF, hd⟩
            · have c36e : (m_mk (mt_f x) (mt_f x).length = m_mk (mt_f y) (mt_f y).length) = False := eq_false c36
              refine jv_aload_n (q := 92) G 0 dX1_tellChangedType_91 rfl rfl rfl ?_
              refine jv_bipush (q := 94) (v := nI 7) G dX1_tellChangedType_92 (by decide) rfl ?_
              refine jv_aload_n (q := 95) G 1 dX1_tellChangedType_94 rfl rfl rfl ?_
              refine jv_callV (q := 98) (As := [.int (nI 7), .ref a]) (rest := []) G Z ml_X1_141 (k_tellOfType hlt hd (by have h9 := hlen; (try simp only [c1e, c2e, c3e, c19e, c35e, c36e, if_true, if_false, reduceIte, and_self, and_true, true_and, and_false, false_and, not_true_eq_false] at h9); (try simp only [List.length_append, List.length_cons, List.length_nil]); (try split at h9); all_goals omega) (hF.1.t tlx).1 (ct_0 (sd_T lk hF.1 tlx hvx hox))) hd.1.1 dX1_tellChangedType_95 rfl (by decide) (by decide) (by decide) (by decide) (Nat.le_of_ble_eq_true rfl) rfl rfl (fun v38 h37 y39 => ?_) (fun _ _ hx => hx.elim)
              obtain ⟨rfl, hF2, hd2⟩ := y39
              show jv_V E 3 h37 0 0 (jv_Q E (fun y_ h' => y_ = none ∧ dF z h h' ∧ dS z h' s (L ++ m_dT (mt_n x) x y)) jv_no 0 0) 98 [(0, .ref (z 6 3)), (1, .ref a), (2, .ref c)] []
              have hF := hF.tr hF2
              have hd := hd2
              refine jv_vret G hr dX1_tellChangedType_98 (Nat.le_of_ble_eq_true rfl) (Nat.le_of_ble_eq_true rfl) ?_
              have eL : ((L ++ [(5, mt_n x, none, none)]) ++ [(7, mt_n x, none, none)]) = L ++ m_dT (mt_n x) x y := by
                unfold m_dT
                simp only [c1e, c2e, c3e, c19e, c35e, c36e, if_true, if_false, and_self, and_true, true_and, and_false, false_and, List.nil_append, List.append_nil, List.append_assoc, List.singleton_append, List.cons_append]
              rw [eL] at hd
              exact ⟨rfl, hF, hd⟩
          · rw [jv_oN_inj (fun k e => by have := (hox.2.2.1 k e).1; omega) (fun k e => by have := (hoy.2.2.1 k e).1; omega)] at c35
            have c35e : (mt_u x = mt_u y) = False := eq_false c35
            refine jv_aload_n (q := 74) G 0 dX1_tellChangedType_73 rfl rfl rfl ?_
            refine jv_bipush (q := 76) (v := nI 6) G dX1_tellChangedType_74 (by decide) rfl ?_
            refine jv_aload_n (q := 77) G 1 dX1_tellChangedType_76 rfl rfl rfl ?_
            refine jv_callV (q := 80) (As := [.int (nI 6), .ref a]) (rest := []) G Z ml_X1_141 (k_tellOfType hlt hd (by have h9 := hlen; (try simp only [c1e, c2e, c3e, c19e, c35e, if_true, if_false, reduceIte, and_self, and_true, true_and, and_false, false_and, not_true_eq_false] at h9); (try simp only [List.length_append, List.length_cons, List.length_nil]); (try split at h9); all_goals omega) (hF.1.t tlx).1 (ct_0 (sd_T lk hF.1 tlx hvx hox))) hd.1.1 dX1_tellChangedType_77 rfl (by decide) (by decide) (by decide) (by decide) (Nat.le_of_ble_eq_true rfl) rfl rfl (fun v41 h40 y42 => ?_) (fun _ _ hx => hx.elim)
            obtain ⟨rfl, hF2, hd2⟩ := y42
            show jv_V E 3 h40 0 0 (jv_Q E (fun y_ h' => y_ = none ∧ dF z h h' ∧ dS z h' s (L ++ m_dT (mt_n x) x y)) jv_no 0 0) 80 [(0, .ref (z 6 3)), (1, .ref a), (2, .ref c)] []
            have hF := hF.tr hF2
            have hd := hd2
            refine jv_aload_n (q := 81) G 1 dX1_tellChangedType_80 rfl rfl rfl ?_
            refine jv_callV_I (q := 84) (h1 := h40) (As := []) (rest := []) (ce' := 0) (sl' := 0) (r := nI (m_mk (mt_f x) (mt_f x).length)) G Z ml_X1_164 (k_interfaceNames hlt (hF.1.t tlx) (sd_T lk hF.1 tlx hvx hox) hox) (hF.1.t tlx).1 dX1_tellChangedType_81 rfl (by decide) (by decide) (by decide) (by decide) (Nat.le_of_ble_eq_true rfl) rfl rfl rfl rfl ?_
            refine jv_aload_n (q := 85) G 2 dX1_tellChangedType_84 rfl rfl rfl ?_
            refine jv_callV_I (q := 88) (h1 := h40) (As := []) (rest := [.int (nI (m_mk (mt_f x) (mt_f x).length))]) (ce' := 0) (sl' := 0) (r := nI (m_mk (mt_f y) (mt_f y).length)) G Z ml_X1_164 (k_interfaceNames hlt (hF.1.t tly) (sd_T lk hF.1 tly hvy hoy) hoy) (hF.1.t tly).1 dX1_tellChangedType_85 rfl (by decide) (by decide) (by decide) (by decide) (Nat.le_of_ble_eq_true rfl) rfl rfl rfl rfl ?_
            refine jv_icmp_eqN (q := 91) (tgt := 98) G dX1_tellChangedType_88 (by decide) rfl (by omega) (by omega) (fun c43 => ?_) (fun c43 => ?_)
            · have c43e : (m_mk (mt_f x) (mt_f x).length = m_mk (mt_f y) (mt_f y).length) = True := eq_true c43
              refine jv_vret G hr dX1_tellChangedType_98 (Nat.le_of_ble_eq_true rfl) (Nat.le_of_ble_eq_true rfl) ?_
              have eL : ((L ++ [(5, mt_n x, none, none)]) ++ [(6, mt_n x, none, none)]) = L ++ m_dT (mt_n x) x y := by
                unfold m_dT
                simp only [c1e, c2e, c3e, c19e, c35e, c43e, if_true, if_false, and_self, and_true, true_and, and_false, false_and, List.nil_append, List.append_nil, List.append_assoc, List.singleton_append, List.cons_append]
              rw [eL] at hd
              exact ⟨rfl, hF, hd⟩
            · have c43e : (m_mk (mt_f x) (mt_f x).length = m_mk (mt_f y) (mt_f y).length) = False := eq_false c43
              refine jv_aload_n (q := 92) G 0 dX1_tellChangedType_91 rfl rfl rfl ?_
              refine jv_bipush (q := 94) (v := nI 7) G dX1_tellChangedType_92 (by decide) rfl ?_
              refine jv_aload_n (q := 95) G 1 dX1_tellChangedType_94 rfl rfl rfl ?_
              refine jv_callV (q := 98) (As := [.int (nI 7), .ref a]) (rest := []) G Z ml_X1_141 (k_tellOfType hlt hd (by have h9 := hlen; (try simp only [c1e, c2e, c3e, c19e, c35e, c43e, if_true, if_false, reduceIte, and_self, and_true, true_and, and_false, false_and, not_true_eq_false] at h9); (try simp only [List.length_append, List.length_cons, List.length_nil]); (try split at h9); all_goals omega) (hF.1.t tlx).1 (ct_0 (sd_T lk hF.1 tlx hvx hox))) hd.1.1 dX1_tellChangedType_95 rfl (by decide) (by decide) (by decide) (by decide) (Nat.le_of_ble_eq_true rfl) rfl rfl (fun v45 h44 y46 => ?_) (fun _ _ hx => hx.elim)
              obtain ⟨rfl, hF2, hd2⟩ := y46
              show jv_V E 3 h44 0 0 (jv_Q E (fun y_ h' => y_ = none ∧ dF z h h' ∧ dS z h' s (L ++ m_dT (mt_n x) x y)) jv_no 0 0) 98 [(0, .ref (z 6 3)), (1, .ref a), (2, .ref c)] []
              have hF := hF.tr hF2
              have hd := hd2
              refine jv_vret G hr dX1_tellChangedType_98 (Nat.le_of_ble_eq_true rfl) (Nat.le_of_ble_eq_true rfl) ?_
              have eL : (((L ++ [(5, mt_n x, none, none)]) ++ [(6, mt_n x, none, none)]) ++ [(7, mt_n x, none, none)]) = L ++ m_dT (mt_n x) x y := by
                unfold m_dT
                simp only [c1e, c2e, c3e, c19e, c35e, c43e, if_true, if_false, and_self, and_true, true_and, and_false, false_and, List.nil_append, List.append_nil, List.append_assoc, List.singleton_append, List.cons_append]
              rw [eL] at hd
              exact ⟨rfl, hF, hd⟩
    · have c2e : (mt_a x = mt_a y) = False := eq_false c2
      refine jv_aload_n (q := 29) G 0 dX1_tellChangedType_28 rfl rfl rfl ?_
      refine jv_iconst (q := 30) (v := nI 4) G dX1_tellChangedType_29 (by decide) rfl ?_
      refine jv_aload_n (q := 31) G 1 dX1_tellChangedType_30 rfl rfl rfl ?_
      refine jv_callV (q := 34) (As := [.int (nI 4), .ref a]) (rest := []) G Z ml_X1_141 (k_tellOfType hlt hd (by have h9 := hlen; (try simp only [c1e, c2e, if_true, if_false, reduceIte, and_self, and_true, true_and, and_false, false_and, not_true_eq_false] at h9); (try simp only [List.length_append, List.length_cons, List.length_nil]); (try split at h9); all_goals omega) (hF.1.t tlx).1 (ct_0 (sd_T lk hF.1 tlx hvx hox))) hd.1.1 dX1_tellChangedType_31 rfl (by decide) (by decide) (by decide) (by decide) (Nat.le_of_ble_eq_true rfl) rfl rfl (fun v48 h47 y49 => ?_) (fun _ _ hx => hx.elim)
      obtain ⟨rfl, hF2, hd2⟩ := y49
      show jv_V E 3 h47 0 0 (jv_Q E (fun y_ h' => y_ = none ∧ dF z h h' ∧ dS z h' s (L ++ m_dT (mt_n x) x y)) jv_no 0 0) 34 [(0, .ref (z 6 3)), (1, .ref a), (2, .ref c)] []
      have hF := hF.tr hF2
      have hd := hd2
      refine jv_aload_n (q := 35) G 1 dX1_tellChangedType_34 rfl rfl rfl ?_
      refine jv_getI (q := 38) G dX1_tellChangedType_35 fl_X1_155 rfl (hF.1.t tlx).1 (ct_3 (sd_T lk hF.1 tlx hvx hox)) rfl ?_
      refine jv_aload_n (q := 39) G 2 dX1_tellChangedType_38 rfl rfl rfl ?_
      refine jv_getI (q := 42) G dX1_tellChangedType_39 fl_X1_155 rfl (hF.1.t tly).1 (ct_3 (sd_T lk hF.1 tly hvy hoy)) rfl ?_
      refine jv_icmp_neN (q := 45) (tgt := 56) G dX1_tellChangedType_42 (by decide) rfl (by omega) (by omega) (fun c50 => ?_) (fun c50 => ?_)
      · have c50e : (mt_k x = mt_k y) = False := eq_false c50
        refine jv_aload_n (q := 57) G 0 dX1_tellChangedType_56 rfl rfl rfl ?_
        refine jv_iconst (q := 58) (v := nI 5) G dX1_tellChangedType_57 (by decide) rfl ?_
        refine jv_aload_n (q := 59) G 1 dX1_tellChangedType_58 rfl rfl rfl ?_
        refine jv_callV (q := 62) (As := [.int (nI 5), .ref a]) (rest := []) G Z ml_X1_141 (k_tellOfType hlt hd (by have h9 := hlen; (try simp only [c1e, c2e, c50e, if_true, if_false, reduceIte, and_self, and_true, true_and, and_false, false_and, not_true_eq_false] at h9); (try simp only [List.length_append, List.length_cons, List.length_nil]); (try split at h9); all_goals omega) (hF.1.t tlx).1 (ct_0 (sd_T lk hF.1 tlx hvx hox))) hd.1.1 dX1_tellChangedType_59 rfl (by decide) (by decide) (by decide) (by decide) (Nat.le_of_ble_eq_true rfl) rfl rfl (fun v52 h51 y53 => ?_) (fun _ _ hx => hx.elim)
        obtain ⟨rfl, hF2, hd2⟩ := y53
        show jv_V E 3 h51 0 0 (jv_Q E (fun y_ h' => y_ = none ∧ dF z h h' ∧ dS z h' s (L ++ m_dT (mt_n x) x y)) jv_no 0 0) 62 [(0, .ref (z 6 3)), (1, .ref a), (2, .ref c)] []
        have hF := hF.tr hF2
        have hd := hd2
        refine jv_aload_n (q := 63) G 1 dX1_tellChangedType_62 rfl rfl rfl ?_
        refine jv_getI (q := 66) G dX1_tellChangedType_63 fl_X1_161 rfl (hF.1.t tlx).1 (ct_5 (sd_T lk hF.1 tlx hvx hox)) rfl ?_
        refine jv_aload_n (q := 67) G 2 dX1_tellChangedType_66 rfl rfl rfl ?_
        refine jv_getI (q := 70) G dX1_tellChangedType_67 fl_X1_161 rfl (hF.1.t tly).1 (ct_5 (sd_T lk hF.1 tly hvy hoy)) rfl ?_
        refine jv_icmp_eq (q := 73) (tgt := 80) G dX1_tellChangedType_70 (by decide) rfl (fun c54 => ?_) (fun c54 => ?_)
        · rw [jv_oN_inj (fun k e => by have := (hox.2.2.1 k e).1; omega) (fun k e => by have := (hoy.2.2.1 k e).1; omega)] at c54
          have c54e : (mt_u x = mt_u y) = True := eq_true c54
          refine jv_aload_n (q := 81) G 1 dX1_tellChangedType_80 rfl rfl rfl ?_
          refine jv_callV_I (q := 84) (h1 := h51) (As := []) (rest := []) (ce' := 0) (sl' := 0) (r := nI (m_mk (mt_f x) (mt_f x).length)) G Z ml_X1_164 (k_interfaceNames hlt (hF.1.t tlx) (sd_T lk hF.1 tlx hvx hox) hox) (hF.1.t tlx).1 dX1_tellChangedType_81 rfl (by decide) (by decide) (by decide) (by decide) (Nat.le_of_ble_eq_true rfl) rfl rfl rfl rfl ?_
          refine jv_aload_n (q := 85) G 2 dX1_tellChangedType_84 rfl rfl rfl ?_
          refine jv_callV_I (q := 88) (h1 := h51) (As := []) (rest := [.int (nI (m_mk (mt_f x) (mt_f x).length))]) (ce' := 0) (sl' := 0) (r := nI (m_mk (mt_f y) (mt_f y).length)) G Z ml_X1_164 (k_interfaceNames hlt (hF.1.t tly) (sd_T lk hF.1 tly hvy hoy) hoy) (hF.1.t tly).1 dX1_tellChangedType_85 rfl (by decide) (by decide) (by decide) (by decide) (Nat.le_of_ble_eq_true rfl) rfl rfl rfl rfl ?_
          refine jv_icmp_eqN (q := 91) (tgt := 98) G dX1_tellChangedType_88 (by decide) rfl (by omega) (by omega) (fun c55 => ?_) (fun c55 => ?_)
          · have c55e : (m_mk (mt_f x) (mt_f x).length = m_mk (mt_f y) (mt_f y).length) = True := eq_true c55
            refine jv_vret G hr dX1_tellChangedType_98 (Nat.le_of_ble_eq_true rfl) (Nat.le_of_ble_eq_true rfl) ?_
            have eL : ((L ++ [(4, mt_n x, none, none)]) ++ [(5, mt_n x, none, none)]) = L ++ m_dT (mt_n x) x y := by
              unfold m_dT
              simp only [c1e, c2e, c50e, c54e, c55e, if_true, if_false, and_self, and_true, true_and, and_false, false_and, List.nil_append, List.append_nil, List.append_assoc, List.singleton_append, List.cons_append]
            rw [eL] at hd
            exact ⟨rfl, hF, hd⟩
          · have c55e : (m_mk (mt_f x) (mt_f x).length = m_mk (mt_f y) (mt_f y).length) = False := eq_false c55
            refine jv_aload_n (q := 92) G 0 dX1_tellChangedType_91 rfl rfl rfl ?_
            refine jv_bipush (q := 94) (v := nI 7) G dX1_tellChangedType_92 (by decide) rfl ?_
            refine jv_aload_n (q := 95) G 1 dX1_tellChangedType_94 rfl rfl rfl ?_
            refine jv_callV (q := 98) (As := [.int (nI 7), .ref a]) (rest := []) G Z ml_X1_141 (k_tellOfType hlt hd (by have h9 := hlen; (try simp only [c1e, c2e, c50e, c54e, c55e, if_true, if_false, reduceIte, and_self, and_true, true_and, and_false, false_and, not_true_eq_false] at h9); (try simp only [List.length_append, List.length_cons, List.length_nil]); (try split at h9); all_goals omega) (hF.1.t tlx).1 (ct_0 (sd_T lk hF.1 tlx hvx hox))) hd.1.1 dX1_tellChangedType_95 rfl (by decide) (by decide) (by decide) (by decide) (Nat.le_of_ble_eq_true rfl) rfl rfl (fun v57 h56 y58 => ?_) (fun _ _ hx => hx.elim)
            obtain ⟨rfl, hF2, hd2⟩ := y58
            show jv_V E 3 h56 0 0 (jv_Q E (fun y_ h' => y_ = none ∧ dF z h h' ∧ dS z h' s (L ++ m_dT (mt_n x) x y)) jv_no 0 0) 98 [(0, .ref (z 6 3)), (1, .ref a), (2, .ref c)] []
            have hF := hF.tr hF2
            have hd := hd2
            refine jv_vret G hr dX1_tellChangedType_98 (Nat.le_of_ble_eq_true rfl) (Nat.le_of_ble_eq_true rfl) ?_
            have eL : (((L ++ [(4, mt_n x, none, none)]) ++ [(5, mt_n x, none, none)]) ++ [(7, mt_n x, none, none)]) = L ++ m_dT (mt_n x) x y := by
              unfold m_dT
              simp only [c1e, c2e, c50e, c54e, c55e, if_true, if_false, and_self, and_true, true_and, and_false, false_and, List.nil_append, List.append_nil, List.append_assoc, List.singleton_append, List.cons_append]
            rw [eL] at hd
            exact ⟨rfl, hF, hd⟩
        · rw [jv_oN_inj (fun k e => by have := (hox.2.2.1 k e).1; omega) (fun k e => by have := (hoy.2.2.1 k e).1; omega)] at c54
          have c54e : (mt_u x = mt_u y) = False := eq_false c54
          refine jv_aload_n (q := 74) G 0 dX1_tellChangedType_73 rfl rfl rfl ?_
          refine jv_bipush (q := 76) (v := nI 6) G dX1_tellChangedType_74 (by decide) rfl ?_
          refine jv_aload_n (q := 77) G 1 dX1_tellChangedType_76 rfl rfl rfl ?_
          refine jv_callV (q := 80) (As := [.int (nI 6), .ref a]) (rest := []) G Z ml_X1_141 (k_tellOfType hlt hd (by have h9 := hlen; (try simp only [c1e, c2e, c50e, c54e, if_true, if_false, reduceIte, and_self, and_true, true_and, and_false, false_and, not_true_eq_false] at h9); (try simp only [List.length_append, List.length_cons, List.length_nil]); (try split at h9); all_goals omega) (hF.1.t tlx).1 (ct_0 (sd_T lk hF.1 tlx hvx hox))) hd.1.1 dX1_tellChangedType_77 rfl (by decide) (by decide) (by decide) (by decide) (Nat.le_of_ble_eq_true rfl) rfl rfl (fun v60 h59 y61 => ?_) (fun _ _ hx => hx.elim)
          obtain ⟨rfl, hF2, hd2⟩ := y61
          show jv_V E 3 h59 0 0 (jv_Q E (fun y_ h' => y_ = none ∧ dF z h h' ∧ dS z h' s (L ++ m_dT (mt_n x) x y)) jv_no 0 0) 80 [(0, .ref (z 6 3)), (1, .ref a), (2, .ref c)] []
          have hF := hF.tr hF2
          have hd := hd2
          refine jv_aload_n (q := 81) G 1 dX1_tellChangedType_80 rfl rfl rfl ?_
          refine jv_callV_I (q := 84) (h1 := h59) (As := []) (rest := []) (ce' := 0) (sl' := 0) (r := nI (m_mk (mt_f x) (mt_f x).length)) G Z ml_X1_164 (k_interfaceNames hlt (hF.1.t tlx) (sd_T lk hF.1 tlx hvx hox) hox) (hF.1.t tlx).1 dX1_tellChangedType_81 rfl (by decide) (by decide) (by decide) (by decide) (Nat.le_of_ble_eq_true rfl) rfl rfl rfl rfl ?_
          refine jv_aload_n (q := 85) G 2 dX1_tellChangedType_84 rfl rfl rfl ?_
          refine jv_callV_I (q := 88) (h1 := h59) (As := []) (rest := [.int (nI (m_mk (mt_f x) (mt_f x).length))]) (ce' := 0) (sl' := 0) (r := nI (m_mk (mt_f y) (mt_f y).length)) G Z ml_X1_164 (k_interfaceNames hlt (hF.1.t tly) (sd_T lk hF.1 tly hvy hoy) hoy) (hF.1.t tly).1 dX1_tellChangedType_85 rfl (by decide) (by decide) (by decide) (by decide) (Nat.le_of_ble_eq_true rfl) rfl rfl rfl rfl ?_
          refine jv_icmp_eqN (q := 91) (tgt := 98) G dX1_tellChangedType_88 (by decide) rfl (by omega) (by omega) (fun c62 => ?_) (fun c62 => ?_)
          · have c62e : (m_mk (mt_f x) (mt_f x).length = m_mk (mt_f y) (mt_f y).length) = True := eq_true c62
            refine jv_vret G hr dX1_tellChangedType_98 (Nat.le_of_ble_eq_true rfl) (Nat.le_of_ble_eq_true rfl) ?_
            have eL : (((L ++ [(4, mt_n x, none, none)]) ++ [(5, mt_n x, none, none)]) ++ [(6, mt_n x, none, none)]) = L ++ m_dT (mt_n x) x y := by
              unfold m_dT
              simp only [c1e, c2e, c50e, c54e, c62e, if_true, if_false, and_self, and_true, true_and, and_false, false_and, List.nil_append, List.append_nil, List.append_assoc, List.singleton_append, List.cons_append]
            rw [eL] at hd
            exact ⟨rfl, hF, hd⟩
          · have c62e : (m_mk (mt_f x) (mt_f x).length = m_mk (mt_f y) (mt_f y).length) = False := eq_false c62
            refine jv_aload_n (q := 92) G 0 dX1_tellChangedType_91 rfl rfl rfl ?_
            refine jv_bipush (q := 94) (v := nI 7) G dX1_tellChangedType_92 (by decide) rfl ?_
            refine jv_aload_n (q := 95) G 1 dX1_tellChangedType_94 rfl rfl rfl ?_
            refine jv_callV (q := 98) (As := [.int (nI 7), .ref a]) (rest := []) G Z ml_X1_141 (k_tellOfType hlt hd (by have h9 := hlen; (try simp only [c1e, c2e, c50e, c54e, c62e, if_true, if_false, reduceIte, and_self, and_true, true_and, and_false, false_and, not_true_eq_false] at h9); (try simp only [List.length_append, List.length_cons, List.length_nil]); (try split at h9); all_goals omega) (hF.1.t tlx).1 (ct_0 (sd_T lk hF.1 tlx hvx hox))) hd.1.1 dX1_tellChangedType_95 rfl (by decide) (by decide) (by decide) (by decide) (Nat.le_of_ble_eq_true rfl) rfl rfl (fun v64 h63 y65 => ?_) (fun _ _ hx => hx.elim)
            obtain ⟨rfl, hF2, hd2⟩ := y65
            show jv_V E 3 h63 0 0 (jv_Q E (fun y_ h' => y_ = none ∧ dF z h h' ∧ dS z h' s (L ++ m_dT (mt_n x) x y)) jv_no 0 0) 98 [(0, .ref (z 6 3)), (1, .ref a), (2, .ref c)] []
            have hF := hF.tr hF2
            have hd := hd2
            refine jv_vret G hr dX1_tellChangedType_98 (Nat.le_of_ble_eq_true rfl) (Nat.le_of_ble_eq_true rfl) ?_
            have eL : ((((L ++ [(4, mt_n x, none, none)]) ++ [(5, mt_n x, none, none)]) ++ [(6, mt_n x, none, none)]) ++ [(7, mt_n x, none, none)]) = L ++ m_dT (mt_n x) x y := by
              unfold m_dT
              simp only [c1e, c2e, c50e, c54e, c62e, if_true, if_false, and_self, and_true, true_and, and_false, false_and, List.nil_append, List.append_nil, List.append_assoc, List.singleton_append, List.cons_append]
            rw [eL] at hd
            exact ⟨rfl, hF, hd⟩
      · have c50e : (mt_k x = mt_k y) = True := eq_true c50
        refine jv_aload_n (q := 46) G 1 dX1_tellChangedType_45 rfl rfl rfl ?_
        refine jv_getZ (q := 49) G dX1_tellChangedType_46 fl_X1_158 rfl (hF.1.t tlx).1 (ct_4 (sd_T lk hF.1 tlx hvx hox)) rfl ?_
        refine jv_aload_n (q := 50) G 2 dX1_tellChangedType_49 rfl rfl rfl ?_
        refine jv_getZ (q := 53) G dX1_tellChangedType_50 fl_X1_158 rfl (hF.1.t tly).1 (ct_4 (sd_T lk hF.1 tly hvy hoy)) rfl ?_
        refine jv_icmp_eqB (q := 56) (tgt := 62) G dX1_tellChangedType_53 (by decide) rfl (fun c66 => ?_) (fun c66 => ?_)
        · have c66e : (mt_p x = mt_p y) = True := eq_true c66
          refine jv_aload_n (q := 63) G 1 dX1_tellChangedType_62 rfl rfl rfl ?_
          refine jv_getI (q := 66) G dX1_tellChangedType_63 fl_X1_161 rfl (hF.1.t tlx).1 (ct_5 (sd_T lk hF.1 tlx hvx hox)) rfl ?_
          refine jv_aload_n (q := 67) G 2 dX1_tellChangedType_66 rfl rfl rfl ?_
          refine jv_getI (q := 70) G dX1_tellChangedType_67 fl_X1_161 rfl (hF.1.t tly).1 (ct_5 (sd_T lk hF.1 tly hvy hoy)) rfl ?_
          refine jv_icmp_eq (q := 73) (tgt := 80) G dX1_tellChangedType_70 (by decide) rfl (fun c67 => ?_) (fun c67 => ?_)
          · rw [jv_oN_inj (fun k e => by have := (hox.2.2.1 k e).1; omega) (fun k e => by have := (hoy.2.2.1 k e).1; omega)] at c67
            have c67e : (mt_u x = mt_u y) = True := eq_true c67
            refine jv_aload_n (q := 81) G 1 dX1_tellChangedType_80 rfl rfl rfl ?_
            refine jv_callV_I (q := 84) (h1 := h47) (As := []) (rest := []) (ce' := 0) (sl' := 0) (r := nI (m_mk (mt_f x) (mt_f x).length)) G Z ml_X1_164 (k_interfaceNames hlt (hF.1.t tlx) (sd_T lk hF.1 tlx hvx hox) hox) (hF.1.t tlx).1 dX1_tellChangedType_81 rfl (by decide) (by decide) (by decide) (by decide) (Nat.le_of_ble_eq_true rfl) rfl rfl rfl rfl ?_
            refine jv_aload_n (q := 85) G 2 dX1_tellChangedType_84 rfl rfl rfl ?_
            refine jv_callV_I (q := 88) (h1 := h47) (As := []) (rest := [.int (nI (m_mk (mt_f x) (mt_f x).length))]) (ce' := 0) (sl' := 0) (r := nI (m_mk (mt_f y) (mt_f y).length)) G Z ml_X1_164 (k_interfaceNames hlt (hF.1.t tly) (sd_T lk hF.1 tly hvy hoy) hoy) (hF.1.t tly).1 dX1_tellChangedType_85 rfl (by decide) (by decide) (by decide) (by decide) (Nat.le_of_ble_eq_true rfl) rfl rfl rfl rfl ?_
            refine jv_icmp_eqN (q := 91) (tgt := 98) G dX1_tellChangedType_88 (by decide) rfl (by omega) (by omega) (fun c68 => ?_) (fun c68 => ?_)
            · have c68e : (m_mk (mt_f x) (mt_f x).length = m_mk (mt_f y) (mt_f y).length) = True := eq_true c68
              refine jv_vret G hr dX1_tellChangedType_98 (Nat.le_of_ble_eq_true rfl) (Nat.le_of_ble_eq_true rfl) ?_
              have eL : (L ++ [(4, mt_n x, none, none)]) = L ++ m_dT (mt_n x) x y := by
                unfold m_dT
                simp only [c1e, c2e, c50e, c66e, c67e, c68e, if_true, if_false, and_self, and_true, true_and, and_false, false_and, List.nil_append, List.append_nil, List.append_assoc, List.singleton_append, List.cons_append]
              rw [eL] at hd
              exact ⟨rfl, hF, hd⟩
            · have c68e : (m_mk (mt_f x) (mt_f x).length = m_mk (mt_f y) (mt_f y).length) = False := eq_false c68
              refine jv_aload_n (q := 92) G 0 dX1_tellChangedType_91 rfl rfl rfl ?_
              refine jv_bipush (q := 94) (v := nI 7) G dX1_tellChangedType_92 (by decide) rfl ?_
              refine jv_aload_n (q := 95) G 1 dX1_tellChangedType_94 rfl rfl rfl ?_
              refine jv_callV (q := 98) (As := [.int (nI 7), .ref a]) (rest := []) G Z ml_X1_141 (k_tellOfType hlt hd (by have h9 := hlen; (try simp only [c1e, c2e, c50e, c66e, c67e, c68e, if_true, if_false, reduceIte, and_self, and_true, true_and, and_false, false_and, not_true_eq_false] at h9); (try simp only [List.length_append, List.length_cons, List.length_nil]); (try split at h9); all_goals omega) (hF.1.t tlx).1 (ct_0 (sd_T lk hF.1 tlx hvx hox))) hd.1.1 dX1_tellChangedType_95 rfl (by decide) (by decide) (by decide) (by decide) (Nat.le_of_ble_eq_true rfl) rfl rfl (fun v70 h69 y71 => ?_) (fun _ _ hx => hx.elim)
              obtain ⟨rfl, hF2, hd2⟩ := y71
              show jv_V E 3 h69 0 0 (jv_Q E (fun y_ h' => y_ = none ∧ dF z h h' ∧ dS z h' s (L ++ m_dT (mt_n x) x y)) jv_no 0 0) 98 [(0, .ref (z 6 3)), (1, .ref a), (2, .ref c)] []
              have hF := hF.tr hF2
              have hd := hd2
              refine jv_vret G hr dX1_tellChangedType_98 (Nat.le_of_ble_eq_true rfl) (Nat.le_of_ble_eq_true rfl) ?_
              have eL : ((L ++ [(4, mt_n x, none, none)]) ++ [(7, mt_n x, none, none)]) = L ++ m_dT (mt_n x) x y := by
                unfold m_dT
                simp only [c1e, c2e, c50e, c66e, c67e, c68e, if_true, if_false, and_self, and_true, true_and, and_false, false_and, List.nil_append, List.append_nil, List.append_assoc, List.singleton_append, List.cons_append]
              rw [eL] at hd
              exact ⟨rfl, hF, hd⟩
          · rw [jv_oN_inj (fun k e => by have := (hox.2.2.1 k e).1; omega) (fun k e => by have := (hoy.2.2.1 k e).1; omega)] at c67
            have c67e : (mt_u x = mt_u y) = False := eq_false c67
            refine jv_aload_n (q := 74) G 0 dX1_tellChangedType_73 rfl rfl rfl ?_
            refine jv_bipush (q := 76) (v := nI 6) G dX1_tellChangedType_74 (by decide) rfl ?_
            refine jv_aload_n (q := 77) G 1 dX1_tellChangedType_76 rfl rfl rfl ?_
            refine jv_callV (q := 80) (As := [.int (nI 6), .ref a]) (rest := []) G Z ml_X1_141 (k_tellOfType hlt hd (by have h9 := hlen; (try simp only [c1e, c2e, c50e, c66e, c67e, if_true, if_false, reduceIte, and_self, and_true, true_and, and_false, false_and, not_true_eq_false] at h9); (try simp only [List.length_append, List.length_cons, List.length_nil]); (try split at h9); all_goals omega) (hF.1.t tlx).1 (ct_0 (sd_T lk hF.1 tlx hvx hox))) hd.1.1 dX1_tellChangedType_77 rfl (by decide) (by decide) (by decide) (by decide) (Nat.le_of_ble_eq_true rfl) rfl rfl (fun v73 h72 y74 => ?_) (fun _ _ hx => hx.elim)
            obtain ⟨rfl, hF2, hd2⟩ := y74
            show jv_V E 3 h72 0 0 (jv_Q E (fun y_ h' => y_ = none ∧ dF z h h' ∧ dS z h' s (L ++ m_dT (mt_n x) x y)) jv_no 0 0) 80 [(0, .ref (z 6 3)), (1, .ref a), (2, .ref c)] []
            have hF := hF.tr hF2
            have hd := hd2
            refine jv_aload_n (q := 81) G 1 dX1_tellChangedType_80 rfl rfl rfl ?_
            refine jv_callV_I (q := 84) (h1 := h72) (As := []) (rest := []) (ce' := 0) (sl' := 0) (r := nI (m_mk (mt_f x) (mt_f x).length)) G Z ml_X1_164 (k_interfaceNames hlt (hF.1.t tlx) (sd_T lk hF.1 tlx hvx hox) hox) (hF.1.t tlx).1 dX1_tellChangedType_81 rfl (by decide) (by decide) (by decide) (by decide) (Nat.le_of_ble_eq_true rfl) rfl rfl rfl rfl ?_
            refine jv_aload_n (q := 85) G 2 dX1_tellChangedType_84 rfl rfl rfl ?_
            refine jv_callV_I (q := 88) (h1 := h72) (As := []) (rest := [.int (nI (m_mk (mt_f x) (mt_f x).length))]) (ce' := 0) (sl' := 0) (r := nI (m_mk (mt_f y) (mt_f y).length)) G Z ml_X1_164 (k_interfaceNames hlt (hF.1.t tly) (sd_T lk hF.1 tly hvy hoy) hoy) (hF.1.t tly).1 dX1_tellChangedType_85 rfl (by decide) (by decide) (by decide) (by decide) (Nat.le_of_ble_eq_true rfl) rfl rfl rfl rfl ?_
            refine jv_icmp_eqN (q := 91) (tgt := 98) G dX1_tellChangedType_88 (by decide) rfl (by omega) (by omega) (fun c75 => ?_) (fun c75 => ?_)
            · have c75e : (m_mk (mt_f x) (mt_f x).length = m_mk (mt_f y) (mt_f y).length) = True := eq_true c75
              refine jv_vret G hr dX1_tellChangedType_98 (Nat.le_of_ble_eq_true rfl) (Nat.le_of_ble_eq_true rfl) ?_
              have eL : ((L ++ [(4, mt_n x, none, none)]) ++ [(6, mt_n x, none, none)]) = L ++ m_dT (mt_n x) x y := by
                unfold m_dT
                simp only [c1e, c2e, c50e, c66e, c67e, c75e, if_true, if_false, and_self, and_true, true_and, and_false, false_and, List.nil_append, List.append_nil, List.append_assoc, List.singleton_append, List.cons_append]
              rw [eL] at hd
              exact ⟨rfl, hF, hd⟩
            · have c75e : (m_mk (mt_f x) (mt_f x).length = m_mk (mt_f y) (mt_f y).length) = False := eq_false c75
              refine jv_aload_n (q := 92) G 0 dX1_tellChangedType_91 rfl rfl rfl ?_
              refine jv_bipush (q := 94) (v := nI 7) G dX1_tellChangedType_92 (by decide) rfl ?_
              refine jv_aload_n (q := 95) G 1 dX1_tellChangedType_94 rfl rfl rfl ?_
              refine jv_callV (q := 98) (As := [.int (nI 7), .ref a]) (rest := []) G Z ml_X1_141 (k_tellOfType hlt hd (by have h9 := hlen; (try simp only [c1e, c2e, c50e, c66e, c67e, c75e, if_true, if_false, reduceIte, and_self, and_true, true_and, and_false, false_and, not_true_eq_false] at h9); (try simp only [List.length_append, List.length_cons, List.length_nil]); (try split at h9); all_goals omega) (hF.1.t tlx).1 (ct_0 (sd_T lk hF.1 tlx hvx hox))) hd.1.1 dX1_tellChangedType_95 rfl (by decide) (by decide) (by decide) (by decide) (Nat.le_of_ble_eq_true rfl) rfl rfl (fun v77 h76 y78 => ?_) (fun _ _ hx => hx.elim)
              obtain ⟨rfl, hF2, hd2⟩ := y78
              show jv_V E 3 h76 0 0 (jv_Q E (fun y_ h' => y_ = none ∧ dF z h h' ∧ dS z h' s (L ++ m_dT (mt_n x) x y)) jv_no 0 0) 98 [(0, .ref (z 6 3)), (1, .ref a), (2, .ref c)] []
              have hF := hF.tr hF2
              have hd := hd2
              refine jv_vret G hr dX1_tellChangedType_98 (Nat.le_of_ble_eq_true rfl) (Nat.le_of_ble_eq_true rfl) ?_
              have eL : (((L ++ [(4, mt_n x, none, none)]) ++ [(6, mt_n x, none, none)]) ++ [(7, mt_n x, none, none)]) = L ++ m_dT (mt_n x) x y := by
                unfold m_dT
                simp only [c1e, c2e, c50e, c66e, c67e, c75e, if_true, if_false, and_self, and_true, true_and, and_false, false_and, List.nil_append, List.append_nil, List.append_assoc, List.singleton_append, List.cons_append]
              rw [eL] at hd
              exact ⟨rfl, hF, hd⟩
        · have c66e : (mt_p x = mt_p y) = False := eq_false c66
          refine jv_aload_n (q := 57) G 0 dX1_tellChangedType_56 rfl rfl rfl ?_
          refine jv_iconst (q := 58) (v := nI 5) G dX1_tellChangedType_57 (by decide) rfl ?_
          refine jv_aload_n (q := 59) G 1 dX1_tellChangedType_58 rfl rfl rfl ?_
          refine jv_callV (q := 62) (As := [.int (nI 5), .ref a]) (rest := []) G Z ml_X1_141 (k_tellOfType hlt hd (by have h9 := hlen; (try simp only [c1e, c2e, c50e, c66e, if_true, if_false, reduceIte, and_self, and_true, true_and, and_false, false_and, not_true_eq_false] at h9); (try simp only [List.length_append, List.length_cons, List.length_nil]); (try split at h9); all_goals omega) (hF.1.t tlx).1 (ct_0 (sd_T lk hF.1 tlx hvx hox))) hd.1.1 dX1_tellChangedType_59 rfl (by decide) (by decide) (by decide) (by decide) (Nat.le_of_ble_eq_true rfl) rfl rfl (fun v80 h79 y81 => ?_) (fun _ _ hx => hx.elim)
          obtain ⟨rfl, hF2, hd2⟩ := y81
          show jv_V E 3 h79 0 0 (jv_Q E (fun y_ h' => y_ = none ∧ dF z h h' ∧ dS z h' s (L ++ m_dT (mt_n x) x y)) jv_no 0 0) 62 [(0, .ref (z 6 3)), (1, .ref a), (2, .ref c)] []
          have hF := hF.tr hF2
          have hd := hd2
          refine jv_aload_n (q := 63) G 1 dX1_tellChangedType_62 rfl rfl rfl ?_
          refine jv_getI (q := 66) G dX1_tellChangedType_63 fl_X1_161 rfl (hF.1.t tlx).1 (ct_5 (sd_T lk hF.1 tlx hvx hox)) rfl ?_
          refine jv_aload_n (q := 67) G 2 dX1_tellChangedType_66 rfl rfl rfl ?_
          refine jv_getI (q := 70) G dX1_tellChangedType_67 fl_X1_161 rfl (hF.1.t tly).1 (ct_5 (sd_T lk hF.1 tly hvy hoy)) rfl ?_
          refine jv_icmp_eq (q := 73) (tgt := 80) G dX1_tellChangedType_70 (by decide) rfl (fun c82 => ?_) (fun c82 => ?_)
          · rw [jv_oN_inj (fun k e => by have := (hox.2.2.1 k e).1; omega) (fun k e => by have := (hoy.2.2.1 k e).1; omega)] at c82
            have c82e : (mt_u x = mt_u y) = True := eq_true c82
            refine jv_aload_n (q := 81) G 1 dX1_tellChangedType_80 rfl rfl rfl ?_
            refine jv_callV_I (q := 84) (h1 := h79) (As := []) (rest := []) (ce' := 0) (sl' := 0) (r := nI (m_mk (mt_f x) (mt_f x).length)) G Z ml_X1_164 (k_interfaceNames hlt (hF.1.t tlx) (sd_T lk hF.1 tlx hvx hox) hox) (hF.1.t tlx).1 dX1_tellChangedType_81 rfl (by decide) (by decide) (by decide) (by decide) (Nat.le_of_ble_eq_true rfl) rfl rfl rfl rfl ?_
            refine jv_aload_n (q := 85) G 2 dX1_tellChangedType_84 rfl rfl rfl ?_
            refine jv_callV_I (q := 88) (h1 := h79) (As := []) (rest := [.int (nI (m_mk (mt_f x) (mt_f x).length))]) (ce' := 0) (sl' := 0) (r := nI (m_mk (mt_f y) (mt_f y).length)) G Z ml_X1_164 (k_interfaceNames hlt (hF.1.t tly) (sd_T lk hF.1 tly hvy hoy) hoy) (hF.1.t tly).1 dX1_tellChangedType_85 rfl (by decide) (by decide) (by decide) (by decide) (Nat.le_of_ble_eq_true rfl) rfl rfl rfl rfl ?_
            refine jv_icmp_eqN (q := 91) (tgt := 98) G dX1_tellChangedType_88 (by decide) rfl (by omega) (by omega) (fun c83 => ?_) (fun c83 => ?_)
            · have c83e : (m_mk (mt_f x) (mt_f x).length = m_mk (mt_f y) (mt_f y).length) = True := eq_true c83
              refine jv_vret G hr dX1_tellChangedType_98 (Nat.le_of_ble_eq_true rfl) (Nat.le_of_ble_eq_true rfl) ?_
              have eL : ((L ++ [(4, mt_n x, none, none)]) ++ [(5, mt_n x, none, none)]) = L ++ m_dT (mt_n x) x y := by
                unfold m_dT
                simp only [c1e, c2e, c50e, c66e, c82e, c83e, if_true, if_false, and_self, and_true, true_and, and_false, false_and, List.nil_append, List.append_nil, List.append_assoc, List.singleton_append, List.cons_append]
              rw [eL] at hd
              exact ⟨rfl, hF, hd⟩
            · have c83e : (m_mk (mt_f x) (mt_f x).length = m_mk (mt_f y) (mt_f y).length) = False := eq_false c83
              refine jv_aload_n (q := 92) G 0 dX1_tellChangedType_91 rfl rfl rfl ?_
              refine jv_bipush (q := 94) (v := nI 7) G dX1_tellChangedType_92 (by decide) rfl ?_
              refine jv_aload_n (q := 95) G 1 dX1_tellChangedType_94 rfl rfl rfl ?_
              refine jv_callV (q := 98) (As := [.int (nI 7), .ref a]) (rest := []) G Z ml_X1_141 (k_tellOfType hlt hd (by have h9 := hlen; (try simp only [c1e, c2e, c50e, c66e, c82e, c83e, if_true, if_false, reduceIte, and_self, and_true, true_and, and_false, false_and, not_true_eq_false] at h9); (try simp only [List.length_append, List.length_cons, List.length_nil]); (try split at h9); all_goals omega) (hF.1.t tlx).1 (ct_0 (sd_T lk hF.1 tlx hvx hox))) hd.1.1 dX1_tellChangedType_95 rfl (by decide) (by decide) (by decide) (by decide) (Nat.le_of_ble_eq_true rfl) rfl rfl (fun v85 h84 y86 => ?_) (fun _ _ hx => hx.elim)
              obtain ⟨rfl, hF2, hd2⟩ := y86
              show jv_V E 3 h84 0 0 (jv_Q E (fun y_ h' => y_ = none ∧ dF z h h' ∧ dS z h' s (L ++ m_dT (mt_n x) x y)) jv_no 0 0) 98 [(0, .ref (z 6 3)), (1, .ref a), (2, .ref c)] []
              have hF := hF.tr hF2
              have hd := hd2
              refine jv_vret G hr dX1_tellChangedType_98 (Nat.le_of_ble_eq_true rfl) (Nat.le_of_ble_eq_true rfl) ?_
              have eL : (((L ++ [(4, mt_n x, none, none)]) ++ [(5, mt_n x, none, none)]) ++ [(7, mt_n x, none, none)]) = L ++ m_dT (mt_n x) x y := by
                unfold m_dT
                simp only [c1e, c2e, c50e, c66e, c82e, c83e, if_true, if_false, and_self, and_true, true_and, and_false, false_and, List.nil_append, List.append_nil, List.append_assoc, List.singleton_append, List.cons_append]
              rw [eL] at hd
              exact ⟨rfl, hF, hd⟩
          · rw [jv_oN_inj (fun k e => by have := (hox.2.2.1 k e).1; omega) (fun k e => by have := (hoy.2.2.1 k e).1; omega)] at c82
            have c82e : (mt_u x = mt_u y) = False := eq_false c82
            refine jv_aload_n (q := 74) G 0 dX1_tellChangedType_73 rfl rfl rfl ?_
            refine jv_bipush (q := 76) (v := nI 6) G dX1_tellChangedType_74 (by decide) rfl ?_
            refine jv_aload_n (q := 77) G 1 dX1_tellChangedType_76 rfl rfl rfl ?_
            refine jv_callV (q := 80) (As := [.int (nI 6), .ref a]) (rest := []) G Z ml_X1_141 (k_tellOfType hlt hd (by have h9 := hlen; (try simp only [c1e, c2e, c50e, c66e, c82e, if_true, if_false, reduceIte, and_self, and_true, true_and, and_false, false_and, not_true_eq_false] at h9); (try simp only [List.length_append, List.length_cons, List.length_nil]); (try split at h9); all_goals omega) (hF.1.t tlx).1 (ct_0 (sd_T lk hF.1 tlx hvx hox))) hd.1.1 dX1_tellChangedType_77 rfl (by decide) (by decide) (by decide) (by decide) (Nat.le_of_ble_eq_true rfl) rfl rfl (fun v88 h87 y89 => ?_) (fun _ _ hx => hx.elim)
            obtain ⟨rfl, hF2, hd2⟩ := y89
            show jv_V E 3 h87 0 0 (jv_Q E (fun y_ h' => y_ = none ∧ dF z h h' ∧ dS z h' s (L ++ m_dT (mt_n x) x y)) jv_no 0 0) 80 [(0, .ref (z 6 3)), (1, .ref a), (2, .ref c)] []
            have hF := hF.tr hF2
            have hd := hd2
            refine jv_aload_n (q := 81) G 1 dX1_tellChangedType_80 rfl rfl rfl ?_
            refine jv_callV_I (q := 84) (h1 := h87) (As := []) (rest := []) (ce' := 0) (sl' := 0) (r := nI (m_mk (mt_f x) (mt_f x).length)) G Z ml_X1_164 (k_interfaceNames hlt (hF.1.t tlx) (sd_T lk hF.1 tlx hvx hox) hox) (hF.1.t tlx).1 dX1_tellChangedType_81 rfl (by decide) (by decide) (by decide) (by decide) (Nat.le_of_ble_eq_true rfl) rfl rfl rfl rfl ?_
            refine jv_aload_n (q := 85) G 2 dX1_tellChangedType_84 rfl rfl rfl ?_
            refine jv_callV_I (q := 88) (h1 := h87) (As := []) (rest := [.int (nI (m_mk (mt_f x) (mt_f x).length))]) (ce' := 0) (sl' := 0) (r := nI (m_mk (mt_f y) (mt_f y).length)) G Z ml_X1_164 (k_interfaceNames hlt (hF.1.t tly) (sd_T lk hF.1 tly hvy hoy) hoy) (hF.1.t tly).1 dX1_tellChangedType_85 rfl (by decide) (by decide) (by decide) (by decide) (Nat.le_of_ble_eq_true rfl) rfl rfl rfl rfl ?_
            refine jv_icmp_eqN (q := 91) (tgt := 98) G dX1_tellChangedType_88 (by decide) rfl (by omega) (by omega) (fun c90 => ?_) (fun c90 => ?_)
            · have c90e : (m_mk (mt_f x) (mt_f x).length = m_mk (mt_f y) (mt_f y).length) = True := eq_true c90
              refine jv_vret G hr dX1_tellChangedType_98 (Nat.le_of_ble_eq_true rfl) (Nat.le_of_ble_eq_true rfl) ?_
              have eL : (((L ++ [(4, mt_n x, none, none)]) ++ [(5, mt_n x, none, none)]) ++ [(6, mt_n x, none, none)]) = L ++ m_dT (mt_n x) x y := by
                unfold m_dT
                simp only [c1e, c2e, c50e, c66e, c82e, c90e, if_true, if_false, and_self, and_true, true_and, and_false, false_and, List.nil_append, List.append_nil, List.append_assoc, List.singleton_append, List.cons_append]
              rw [eL] at hd
              exact ⟨rfl, hF, hd⟩
            · have c90e : (m_mk (mt_f x) (mt_f x).length = m_mk (mt_f y) (mt_f y).length) = False := eq_false c90
              refine jv_aload_n (q := 92) G 0 dX1_tellChangedType_91 rfl rfl rfl ?_
              refine jv_bipush (q := 94) (v := nI 7) G dX1_tellChangedType_92 (by decide) rfl ?_
              refine jv_aload_n (q := 95) G 1 dX1_tellChangedType_94 rfl rfl rfl ?_
              refine jv_callV (q := 98) (As := [.int (nI 7), .ref a]) (rest := []) G Z ml_X1_141 (k_tellOfType hlt hd (by have h9 := hlen; (try simp only [c1e, c2e, c50e, c66e, c82e, c90e, if_true, if_false, reduceIte, and_self, and_true, true_and, and_false, false_and, not_true_eq_false] at h9); (try simp only [List.length_append, List.length_cons, List.length_nil]); (try split at h9); all_goals omega) (hF.1.t tlx).1 (ct_0 (sd_T lk hF.1 tlx hvx hox))) hd.1.1 dX1_tellChangedType_95 rfl (by decide) (by decide) (by decide) (by decide) (Nat.le_of_ble_eq_true rfl) rfl rfl (fun v92 h91 y93 => ?_) (fun _ _ hx => hx.elim)
              obtain ⟨rfl, hF2, hd2⟩ := y93
              show jv_V E 3 h91 0 0 (jv_Q E (fun y_ h' => y_ = none ∧ dF z h h' ∧ dS z h' s (L ++ m_dT (mt_n x) x y)) jv_no 0 0) 98 [(0, .ref (z 6 3)), (1, .ref a), (2, .ref c)] []
              have hF := hF.tr hF2
              have hd := hd2
              refine jv_vret G hr dX1_tellChangedType_98 (Nat.le_of_ble_eq_true rfl) (Nat.le_of_ble_eq_true rfl) ?_
              have eL : ((((L ++ [(4, mt_n x, none, none)]) ++ [(5, mt_n x, none, none)]) ++ [(6, mt_n x, none, none)]) ++ [(7, mt_n x, none, none)]) = L ++ m_dT (mt_n x) x y := by
                unfold m_dT
                simp only [c1e, c2e, c50e, c66e, c82e, c90e, if_true, if_false, and_self, and_true, true_and, and_false, false_and, List.nil_append, List.append_nil, List.append_assoc, List.singleton_append, List.cons_append]
              rw [eL] at hd
              exact ⟨rfl, hF, hd⟩
  · have c1e : (mt_i x = mt_i y) = False := eq_false c1
    refine jv_aload_n (q := 12) G 0 dX1_tellChangedType_11 rfl rfl rfl ?_
    refine jv_iconst (q := 13) (v := nI 3) G dX1_tellChangedType_12 (by decide) rfl ?_
    refine jv_aload_n (q := 14) G 1 dX1_tellChangedType_13 rfl rfl rfl ?_
    refine jv_callV (q := 17) (As := [.int (nI 3), .ref a]) (rest := []) G Z ml_X1_141 (k_tellOfType hlt hd (by have h9 := hlen; (try simp only [c1e, if_true, if_false, reduceIte, and_self, and_true, true_and, and_false, false_and, not_true_eq_false] at h9); (try simp only [List.length_append, List.length_cons, List.length_nil]); (try split at h9); all_goals omega) (hF.1.t tlx).1 (ct_0 (sd_T lk hF.1 tlx hvx hox))) hd.1.1 dX1_tellChangedType_14 rfl (by decide) (by decide) (by decide) (by decide) (Nat.le_of_ble_eq_true rfl) rfl rfl (fun v95 h94 y96 => ?_) (fun _ _ hx => hx.elim)
    obtain ⟨rfl, hF2, hd2⟩ := y96
    show jv_V E 3 h94 0 0 (jv_Q E (fun y_ h' => y_ = none ∧ dF z h h' ∧ dS z h' s (L ++ m_dT (mt_n x) x y)) jv_no 0 0) 17 [(0, .ref (z 6 3)), (1, .ref a), (2, .ref c)] []
    have hF := hF.tr hF2
    have hd := hd2
    refine jv_aload_n (q := 18) G 1 dX1_tellChangedType_17 rfl rfl rfl ?_
    refine jv_getZ (q := 21) G dX1_tellChangedType_18 fl_X1_152 rfl (hF.1.t tlx).1 (ct_2 (sd_T lk hF.1 tlx hvx hox)) rfl ?_
    refine jv_aload_n (q := 22) G 2 dX1_tellChangedType_21 rfl rfl rfl ?_
    refine jv_getZ (q := 25) G dX1_tellChangedType_22 fl_X1_152 rfl (hF.1.t tly).1 (ct_2 (sd_T lk hF.1 tly hvy hoy)) rfl ?_
    refine jv_icmp_eqB (q := 28) (tgt := 34) G dX1_tellChangedType_25 (by decide) rfl (fun c97 => ?_) (fun c97 => ?_)
    · have c97e : (mt_a x = mt_a y) = True := eq_true c97
      refine jv_aload_n (q := 35) G 1 dX1_tellChangedType_34 rfl rfl rfl ?_
      refine jv_getI (q := 38) G dX1_tellChangedType_35 fl_X1_155 rfl (hF.1.t tlx).1 (ct_3 (sd_T lk hF.1 tlx hvx hox)) rfl ?_
      refine jv_aload_n (q := 39) G 2 dX1_tellChangedType_38 rfl rfl rfl ?_
      refine jv_getI (q := 42) G dX1_tellChangedType_39 fl_X1_155 rfl (hF.1.t tly).1 (ct_3 (sd_T lk hF.1 tly hvy hoy)) rfl ?_
      refine jv_icmp_neN (q := 45) (tgt := 56) G dX1_tellChangedType_42 (by decide) rfl (by omega) (by omega) (fun c98 => ?_) (fun c98 => ?_)
      · have c98e : (mt_k x = mt_k y) = False := eq_false c98
        refine jv_aload_n (q := 57) G 0 dX1_tellChangedType_56 rfl rfl rfl ?_
        refine jv_iconst (q := 58) (v := nI 5) G dX1_tellChangedType_57 (by decide) rfl ?_
        refine jv_aload_n (q := 59) G 1 dX1_tellChangedType_58 rfl rfl rfl ?_
        refine jv_callV (q := 62) (As := [.int (nI 5), .ref a]) (rest := []) G Z ml_X1_141 (k_tellOfType hlt hd (by have h9 := hlen; (try simp only [c1e, c97e, c98e, if_true, if_false, reduceIte, and_self, and_true, true_and, and_false, false_and, not_true_eq_false] at h9); (try simp only [List.length_append, List.length_cons, List.length_nil]); (try split at h9); all_goals omega) (hF.1.t tlx).1 (ct_0 (sd_T lk hF.1 tlx hvx hox))) hd.1.1 dX1_tellChangedType_59 rfl (by decide) (by decide) (by decide) (by decide) (Nat.le_of_ble_eq_true rfl) rfl rfl (fun v100 h99 y101 => ?_) (fun _ _ hx => hx.elim)
        obtain ⟨rfl, hF2, hd2⟩ := y101
        show jv_V E 3 h99 0 0 (jv_Q E (fun y_ h' => y_ = none ∧ dF z h h' ∧ dS z h' s (L ++ m_dT (mt_n x) x y)) jv_no 0 0) 62 [(0, .ref (z 6 3)), (1, .ref a), (2, .ref c)] []
        have hF := hF.tr hF2
        have hd := hd2
        refine jv_aload_n (q := 63) G 1 dX1_tellChangedType_62 rfl rfl rfl ?_
        refine jv_getI (q := 66) G dX1_tellChangedType_63 fl_X1_161 rfl (hF.1.t tlx).1 (ct_5 (sd_T lk hF.1 tlx hvx hox)) rfl ?_
        refine jv_aload_n (q := 67) G 2 dX1_tellChangedType_66 rfl rfl rfl ?_
        refine jv_getI (q := 70) G dX1_tellChangedType_67 fl_X1_161 rfl (hF.1.t tly).1 (ct_5 (sd_T lk hF.1 tly hvy hoy)) rfl ?_
        refine jv_icmp_eq (q := 73) (tgt := 80) G dX1_tellChangedType_70 (by decide) rfl (fun c102 => ?_) (fun c102 => ?_)
        · rw [jv_oN_inj (fun k e => by have := (hox.2.2.1 k e).1; omega) (fun k e => by have := (hoy.2.2.1 k e).1; omega)] at c102
          have c102e : (mt_u x = mt_u y) = True := eq_true c102
          refine jv_aload_n (q := 81) G 1 dX1_tellChangedType_80 rfl rfl rfl ?_
          refine jv_callV_I (q := 84) (h1 := h99) (As := []) (rest := []) (ce' := 0) (sl' := 0) (r := nI (m_mk (mt_f x) (mt_f x).length)) G Z ml_X1_164 (k_interfaceNames hlt (hF.1.t tlx) (sd_T lk hF.1 tlx hvx hox) hox) (hF.1.t tlx).1 dX1_tellChangedType_81 rfl (by decide) (by decide) (by decide) (by decide) (Nat.le_of_ble_eq_true rfl) rfl rfl rfl rfl ?_
          refine jv_aload_n (q := 85) G 2 dX1_tellChangedType_84 rfl rfl rfl ?_
          refine jv_callV_I (q := 88) (h1 := h99) (As := []) (rest := [.int (nI (m_mk (mt_f x) (mt_f x).length))]) (ce' := 0) (sl' := 0) (r := nI (m_mk (mt_f y) (mt_f y).length)) G Z ml_X1_164 (k_interfaceNames hlt (hF.1.t tly) (sd_T lk hF.1 tly hvy hoy) hoy) (hF.1.t tly).1 dX1_tellChangedType_85 rfl (by decide) (by decide) (by decide) (by decide) (Nat.le_of_ble_eq_true rfl) rfl rfl rfl rfl ?_
          refine jv_icmp_eqN (q := 91) (tgt := 98) G dX1_tellChangedType_88 (by decide) rfl (by omega) (by omega) (fun c103 => ?_) (fun c103 => ?_)
          · have c103e : (m_mk (mt_f x) (mt_f x).length = m_mk (mt_f y) (mt_f y).length) = True := eq_true c103
            refine jv_vret G hr dX1_tellChangedType_98 (Nat.le_of_ble_eq_true rfl) (Nat.le_of_ble_eq_true rfl) ?_
            have eL : ((L ++ [(3, mt_n x, none, none)]) ++ [(5, mt_n x, none, none)]) = L ++ m_dT (mt_n x) x y := by
              unfold m_dT
              simp only [c1e, c97e, c98e, c102e, c103e, if_true, if_false, and_self, and_true, true_and, and_false, false_and, List.nil_append, List.append_nil, List.append_assoc, List.singleton_append, List.cons_append]
            rw [eL] at hd
            exact ⟨rfl, hF, hd⟩
          · have c103e : (m_mk (mt_f x) (mt_f x).length = m_mk (mt_f y) (mt_f y).length) = False := eq_false c103
            refine jv_aload_n (q := 92) G 0 dX1_tellChangedType_91 rfl rfl rfl ?_
            refine jv_bipush (q := 94) (v := nI 7) G dX1_tellChangedType_92 (by decide) rfl ?_
            refine jv_aload_n (q := 95) G 1 dX1_tellChangedType_94 rfl rfl rfl ?_
            refine jv_callV (q := 98) (As := [.int (nI 7), .ref a]) (rest := []) G Z ml_X1_141 (k_tellOfType hlt hd (by have h9 := hlen; (try simp only [c1e, c97e, c98e, c102e, c103e, if_true, if_false, reduceIte, and_self, and_true, true_and, and_false, false_and, not_true_eq_false] at h9); (try simp only [List.length_append, List.length_cons, List.length_nil]); (try split at h9); all_goals omega) (hF.1.t tlx).1 (ct_0 (sd_T lk hF.1 tlx hvx hox))) hd.1.1 dX1_tellChangedType_95 rfl (by decide) (by decide) (by decide) (by decide) (Nat.le_of_ble_eq_true rfl) rfl rfl (fun v105 h104 y106 => ?_) (fun _ _ hx => hx.elim)
            obtain ⟨rfl, hF2, hd2⟩ := y106
            show jv_V E 3 h104 0 0 (jv_Q E (fun y_ h' => y_ = none ∧ dF z h h' ∧ dS z h' s (L ++ m_dT (mt_n x) x y)) jv_no 0 0) 98 [(0, .ref (z 6 3)), (1, .ref a), (2, .ref c)] []
            have hF := hF.tr hF2
            have hd := hd2
            refine jv_vret G hr dX1_tellChangedType_98 (Nat.le_of_ble_eq_true rfl) (Nat.le_of_ble_eq_true rfl) ?_
            have eL : (((L ++ [(3, mt_n x, none, none)]) ++ [(5, mt_n x, none, none)]) ++ [(7, mt_n x, none, none)]) = L ++ m_dT (mt_n x) x y := by
              unfold m_dT
              simp only [c1e, c97e, c98e, c102e, c103e, if_true, if_false, and_self, and_true, true_and, and_false, false_and, List.nil_append, List.append_nil, List.append_assoc, List.singleton_append, List.cons_append]
            rw [eL] at hd
            exact ⟨rfl, hF, hd⟩
        · rw [jv_oN_inj (fun k e => by have := (hox.2.2.1 k e).1; omega) (fun k e => by have := (hoy.2.2.1 k e).1; omega)] at c102
          have c102e : (mt_u x = mt_u y) = False := eq_false c102
          refine jv_aload_n (q := 74) G 0 dX1_tellChangedType_73 rfl rfl rfl ?_
          refine jv_bipush (q := 76) (v := nI 6) G dX1_tellChangedType_74 (by decide) rfl ?_
          refine jv_aload_n (q := 77) G 1 dX1_tellChangedType_76 rfl rfl rfl ?_
          refine jv_callV (q := 80) (As := [.int (nI 6), .ref a]) (rest := []) G Z ml_X1_141 (k_tellOfType hlt hd (by have h9 := hlen; (try simp only [c1e, c97e, c98e, c102e, if_true, if_false, reduceIte, and_self, and_true, true_and, and_false, false_and, not_true_eq_false] at h9); (try simp only [List.length_append, List.length_cons, List.length_nil]); (try split at h9); all_goals omega) (hF.1.t tlx).1 (ct_0 (sd_T lk hF.1 tlx hvx hox))) hd.1.1 dX1_tellChangedType_77 rfl (by decide) (by decide) (by decide) (by decide) (Nat.le_of_ble_eq_true rfl) rfl rfl (fun v108 h107 y109 => ?_) (fun _ _ hx => hx.elim)
          obtain ⟨rfl, hF2, hd2⟩ := y109
          show jv_V E 3 h107 0 0 (jv_Q E (fun y_ h' => y_ = none ∧ dF z h h' ∧ dS z h' s (L ++ m_dT (mt_n x) x y)) jv_no 0 0) 80 [(0, .ref (z 6 3)), (1, .ref a), (2, .ref c)] []
          have hF := hF.tr hF2
          have hd := hd2
          refine jv_aload_n (q := 81) G 1 dX1_tellChangedType_80 rfl rfl rfl ?_
          refine jv_callV_I (q := 84) (h1 := h107) (As := []) (rest := []) (ce' := 0) (sl' := 0) (r := nI (m_mk (mt_f x) (mt_f x).length)) G Z ml_X1_164 (k_interfaceNames hlt (hF.1.t tlx) (sd_T lk hF.1 tlx hvx hox) hox) (hF.1.t tlx).1 dX1_tellChangedType_81 rfl (by decide) (by decide) (by decide) (by decide) (Nat.le_of_ble_eq_true rfl) rfl rfl rfl rfl ?_
          refine jv_aload_n (q := 85) G 2 dX1_tellChangedType_84 rfl rfl rfl ?_
          refine jv_callV_I (q := 88) (h1 := h107) (As := []) (rest := [.int (nI (m_mk (mt_f x) (mt_f x).length))]) (ce' := 0) (sl' := 0) (r := nI (m_mk (mt_f y) (mt_f y).length)) G Z ml_X1_164 (k_interfaceNames hlt (hF.1.t tly) (sd_T lk hF.1 tly hvy hoy) hoy) (hF.1.t tly).1 dX1_tellChangedType_85 rfl (by decide) (by decide) (by decide) (by decide) (Nat.le_of_ble_eq_true rfl) rfl rfl rfl rfl ?_
          refine jv_icmp_eqN (q := 91) (tgt := 98) G dX1_tellChangedType_88 (by decide) rfl (by omega) (by omega) (fun c110 => ?_) (fun c110 => ?_)
          · have c110e : (m_mk (mt_f x) (mt_f x).length = m_mk (mt_f y) (mt_f y).length) = True := eq_true c110
            refine jv_vret G hr dX1_tellChangedType_98 (Nat.le_of_ble_eq_true rfl) (Nat.le_of_ble_eq_true rfl) ?_
            have eL : (((L ++ [(3, mt_n x, none, none)]) ++ [(5, mt_n x, none, none)]) ++ [(6, mt_n x, none, none)]) = L ++ m_dT (mt_n x) x y := by
              unfold m_dT
              simp only [c1e, c97e, c98e, c102e, c110e, if_true, if_false, and_self, and_true, true_and, and_false, false_and, List.nil_append, List.append_nil, List.append_assoc, List.singleton_append, List.cons_append]
            rw [eL] at hd
            exact ⟨rfl, hF, hd⟩
          · have c110e : (m_mk (mt_f x) (mt_f x).length = m_mk (mt_f y) (mt_f y).length) = False := eq_false c110
            refine jv_aload_n (q := 92) G 0 dX1_tellChangedType_91 rfl rfl rfl ?_
            refine jv_bipush (q := 94) (v := nI 7) G dX1_tellChangedType_92 (by decide) rfl ?_
            refine jv_aload_n (q := 95) G 1 dX1_tellChangedType_94 rfl rfl rfl ?_
            refine jv_callV (q := 98) (As := [.int (nI 7), .ref a]) (rest := []) G Z ml_X1_141 (k_tellOfType hlt hd (by have h9 := hlen; (try simp only [c1e, c97e, c98e, c102e, c110e, if_true, if_false, reduceIte, and_self, and_true, true_and, and_false, false_and, not_true_eq_false] at h9); (try simp only [List.length_append, List.length_cons, List.length_nil]); (try split at h9); all_goals omega) (hF.1.t tlx).1 (ct_0 (sd_T lk hF.1 tlx hvx hox))) hd.1.1 dX1_tellChangedType_95 rfl (by decide) (by decide) (by decide) (by decide) (Nat.le_of_ble_eq_true rfl) rfl rfl (fun v112 h111 y113 => ?_) (fun _ _ hx => hx.elim)
            obtain ⟨rfl, hF2, hd2⟩ := y113
            show jv_V E 3 h111 0 0 (jv_Q E (fun y_ h' => y_ = none ∧ dF z h h' ∧ dS z h' s (L ++ m_dT (mt_n x) x y)) jv_no 0 0) 98 [(0, .ref (z 6 3)), (1, .ref a), (2, .ref c)] []
            have hF := hF.tr hF2
            have hd := hd2
            refine jv_vret G hr dX1_tellChangedType_98 (Nat.le_of_ble_eq_true rfl) (Nat.le_of_ble_eq_true rfl) ?_
            have eL : ((((L ++ [(3, mt_n x, none, none)]) ++ [(5, mt_n x, none, none)]) ++ [(6, mt_n x, none, none)]) ++ [(7, mt_n x, none, none)]) = L ++ m_dT (mt_n x) x y := by
              unfold m_dT
              simp only [c1e, c97e, c98e, c102e, c110e, if_true, if_false, and_self, and_true, true_and, and_false, false_and, List.nil_append, List.append_nil, List.append_assoc, List.singleton_append, List.cons_append]
            rw [eL] at hd
            exact ⟨rfl, hF, hd⟩
      · have c98e : (mt_k x = mt_k y) = True := eq_true c98
        refine jv_aload_n (q := 46) G 1 dX1_tellChangedType_45 rfl rfl rfl ?_
        refine jv_getZ (q := 49) G dX1_tellChangedType_46 fl_X1_158 rfl (hF.1.t tlx).1 (ct_4 (sd_T lk hF.1 tlx hvx hox)) rfl ?_
        refine jv_aload_n (q := 50) G 2 dX1_tellChangedType_49 rfl rfl rfl ?_
        refine jv_getZ (q := 53) G dX1_tellChangedType_50 fl_X1_158 rfl (hF.1.t tly).1 (ct_4 (sd_T lk hF.1 tly hvy hoy)) rfl ?_
        refine jv_icmp_eqB (q := 56) (tgt := 62) G dX1_tellChangedType_53 (by decide) rfl (fun c114 => ?_) (fun c114 => ?_)
        · have c114e : (mt_p x = mt_p y) = True := eq_true c114
          refine jv_aload_n (q := 63) G 1 dX1_tellChangedType_62 rfl rfl rfl ?_
          refine jv_getI (q := 66) G dX1_tellChangedType_63 fl_X1_161 rfl (hF.1.t tlx).1 (ct_5 (sd_T lk hF.1 tlx hvx hox)) rfl ?_
          refine jv_aload_n (q := 67) G 2 dX1_tellChangedType_66 rfl rfl rfl ?_
          refine jv_getI (q := 70) G dX1_tellChangedType_67 fl_X1_161 rfl (hF.1.t tly).1 (ct_5 (sd_T lk hF.1 tly hvy hoy)) rfl ?_
          refine jv_icmp_eq (q := 73) (tgt := 80) G dX1_tellChangedType_70 (by decide) rfl (fun c115 => ?_) (fun c115 => ?_)
          · rw [jv_oN_inj (fun k e => by have := (hox.2.2.1 k e).1; omega) (fun k e => by have := (hoy.2.2.1 k e).1; omega)] at c115
            have c115e : (mt_u x = mt_u y) = True := eq_true c115
            refine jv_aload_n (q := 81) G 1 dX1_tellChangedType_80 rfl rfl rfl ?_
            refine jv_callV_I (q := 84) (h1 := h94) (As := []) (rest := []) (ce' := 0) (sl' := 0) (r := nI (m_mk (mt_f x) (mt_f x).length)) G Z ml_X1_164 (k_interfaceNames hlt (hF.1.t tlx) (sd_T lk hF.1 tlx hvx hox) hox) (hF.1.t tlx).1 dX1_tellChangedType_81 rfl (by decide) (by decide) (by decide) (by decide) (Nat.le_of_ble_eq_true rfl) rfl rfl rfl rfl ?_
            refine jv_aload_n (q := 85) G 2 dX1_tellChangedType_84 rfl rfl rfl ?_
            refine jv_callV_I (q := 88) (h1 := h94) (As := []) (rest := [.int (nI (m_mk (mt_f x) (mt_f x).length))]) (ce' := 0) (sl' := 0) (r := nI (m_mk (mt_f y) (mt_f y).length)) G Z ml_X1_164 (k_interfaceNames hlt (hF.1.t tly) (sd_T lk hF.1 tly hvy hoy) hoy) (hF.1.t tly).1 dX1_tellChangedType_85 rfl (by decide) (by decide) (by decide) (by decide) (Nat.le_of_ble_eq_true rfl) rfl rfl rfl rfl ?_
            refine jv_icmp_eqN (q := 91) (tgt := 98) G dX1_tellChangedType_88 (by decide) rfl (by omega) (by omega) (fun c116 => ?_) (fun c116 => ?_)
            · have c116e : (m_mk (mt_f x) (mt_f x).length = m_mk (mt_f y) (mt_f y).length) = True := eq_true c116
              refine jv_vret G hr dX1_tellChangedType_98 (Nat.le_of_ble_eq_true rfl) (Nat.le_of_ble_eq_true rfl) ?_
              have eL : (L ++ [(3, mt_n x, none, none)]) = L ++ m_dT (mt_n x) x y := by
                unfold m_dT
                simp only [c1e, c97e, c98e, c114e, c115e, c116e, if_true, if_false, and_self, and_true, true_and, and_false, false_and, List.nil_append, List.append_nil, List.append_assoc, List.singleton_append, List.cons_append]
              rw [eL] at hd
              exact ⟨rfl, hF, hd⟩
            · have c116e : (m_mk (mt_f x) (mt_f x).length = m_mk (mt_f y) (mt_f y).length) = False := eq_false c116
              refine jv_aload_n (q := 92) G 0 dX1_tellChangedType_91 rfl rfl rfl ?_
              refine jv_bipush (q := 94) (v := nI 7) G dX1_tellChangedType_92 (by decide) rfl ?_
              refine jv_aload_n (q := 95) G 1 dX1_tellChangedType_94 rfl rfl rfl ?_
              refine jv_callV (q := 98) (As := [.int (nI 7), .ref a]) (rest := []) G Z ml_X1_141 (k_tellOfType hlt hd (by have h9 := hlen; (try simp only [c1e, c97e, c98e, c114e, c115e, c116e, if_true, if_false, reduceIte, and_self, and_true, true_and, and_false, false_and, not_true_eq_false] at h9); (try simp only [List.length_append, List.length_cons, List.length_nil]); (try split at h9); all_goals omega) (hF.1.t tlx).1 (ct_0 (sd_T lk hF.1 tlx hvx hox))) hd.1.1 dX1_tellChangedType_95 rfl (by decide) (by decide) (by decide) (by decide) (Nat.le_of_ble_eq_true rfl) rfl rfl (fun v118 h117 y119 => ?_) (fun _ _ hx => hx.elim)
              obtain ⟨rfl, hF2, hd2⟩ := y119
              show jv_V E 3 h117 0 0 (jv_Q E (fun y_ h' => y_ = none ∧ dF z h h' ∧ dS z h' s (L ++ m_dT (mt_n x) x y)) jv_no 0 0) 98 [(0, .ref (z 6 3)), (1, .ref a), (2, .ref c)] []
              have hF := hF.tr hF2
              have hd := hd2
              refine jv_vret G hr dX1_tellChangedType_98 (Nat.le_of_ble_eq_true rfl) (Nat.le_of_ble_eq_true rfl) ?_
              have eL : ((L ++ [(3, mt_n x, none, none)]) ++ [(7, mt_n x, none, none)]) = L ++ m_dT (mt_n x) x y := by
                unfold m_dT
                simp only [c1e, c97e, c98e, c114e, c115e, c116e, if_true, if_false, and_self, and_true, true_and, and_false, false_and, List.nil_append, List.append_nil, List.append_assoc, List.singleton_append, List.cons_append]
              rw [eL] at hd
              exact ⟨rfl, hF, hd⟩
          · rw [jv_oN_inj (fun k e => by have := (hox.2.2.1 k e).1; omega) (fun k e => by have := (hoy.2.2.1 k e).1; omega)] at c115
            have c115e : (mt_u x = mt_u y) = False := eq_false c115
            refine jv_aload_n (q := 74) G 0 dX1_tellChangedType_73 rfl rfl rfl ?_
            refine jv_bipush (q := 76) (v := nI 6) G dX1_tellChangedType_74 (by decide) rfl ?_
            refine jv_aload_n (q := 77) G 1 dX1_tellChangedType_76 rfl rfl rfl ?_
            refine jv_callV (q := 80) (As := [.int (nI 6), .ref a]) (rest := []) G Z ml_X1_141 (k_tellOfType hlt hd (by have h9 := hlen; (try simp only [c1e, c97e, c98e, c114e, c115e, if_true, if_false, reduceIte, and_self, and_true, true_and, and_false, false_and, not_true_eq_false] at h9); (try simp only [List.length_append, List.length_cons, List.length_nil]); (try split at h9); all_goals omega) (hF.1.t tlx).1 (ct_0 (sd_T lk hF.1 tlx hvx hox))) hd.1.1 dX1_tellChangedType_77 rfl (by decide) (by decide) (by decide) (by decide) (Nat.le_of_ble_eq_true rfl) rfl rfl (fun v121 h120 y122 => ?_) (fun _ _ hx => hx.elim)
            obtain ⟨rfl, hF2, hd2⟩ := y122
            show jv_V E 3 h120 0 0 (jv_Q E (fun y_ h' => y_ = none ∧ dF z h h' ∧ dS z h' s (L ++ m_dT (mt_n x) x y)) jv_no 0 0) 80 [(0, .ref (z 6 3)), (1, .ref a), (2, .ref c)] []
            have hF := hF.tr hF2
            have hd := hd2
            refine jv_aload_n (q := 81) G 1 dX1_tellChangedType_80 rfl rfl rfl ?_
            refine jv_callV_I (q := 84) (h1 := h120) (As := []) (rest := []) (ce' := 0) (sl' := 0) (r := nI (m_mk (mt_f x) (mt_f x).length)) G Z ml_X1_164 (k_interfaceNames hlt (hF.1.t tlx) (sd_T lk hF.1 tlx hvx hox) hox) (hF.1.t tlx).1 dX1_tellChangedType_81 rfl (by decide) (by decide) (by decide) (by decide) (Nat.le_of_ble_eq_true rfl) rfl rfl rfl rfl ?_
            refine jv_aload_n (q := 85) G 2 dX1_tellChangedType_84 rfl rfl rfl ?_
            refine jv_callV_I (q := 88) (h1 := h120) (As := []) (rest := [.int (nI (m_mk (mt_f x) (mt_f x).length))]) (ce' := 0) (sl' := 0) (r := nI (m_mk (mt_f y) (mt_f y).length)) G Z ml_X1_164 (k_interfaceNames hlt (hF.1.t tly) (sd_T lk hF.1 tly hvy hoy) hoy) (hF.1.t tly).1 dX1_tellChangedType_85 rfl (by decide) (by decide) (by decide) (by decide) (Nat.le_of_ble_eq_true rfl) rfl rfl rfl rfl ?_
            refine jv_icmp_eqN (q := 91) (tgt := 98) G dX1_tellChangedType_88 (by decide) rfl (by omega) (by omega) (fun c123 => ?_) (fun c123 => ?_)
            · have c123e : (m_mk (mt_f x) (mt_f x).length = m_mk (mt_f y) (mt_f y).length) = True := eq_true c123
              refine jv_vret G hr dX1_tellChangedType_98 (Nat.le_of_ble_eq_true rfl) (Nat.le_of_ble_eq_true rfl) ?_
              have eL : ((L ++ [(3, mt_n x, none, none)]) ++ [(6, mt_n x, none, none)]) = L ++ m_dT (mt_n x) x y := by
                unfold m_dT
                simp only [c1e, c97e, c98e, c114e, c115e, c123e, if_true, if_false, and_self, and_true, true_and, and_false, false_and, List.nil_append, List.append_nil, List.append_assoc, List.singleton_append, List.cons_append]
              rw [eL] at hd
              exact ⟨rfl, hF, hd⟩
            · have c123e : (m_mk (mt_f x) (mt_f x).length = m_mk (mt_f y) (mt_f y).length) = False := eq_false c123
              refine jv_aload_n (q := 92) G 0 dX1_tellChangedType_91 rfl rfl rfl ?_
              refine jv_bipush (q := 94) (v := nI 7) G dX1_tellChangedType_92 (by decide) rfl ?_
              refine jv_aload_n (q := 95) G 1 dX1_tellChangedType_94 rfl rfl rfl ?_
              refine jv_callV (q := 98) (As := [.int (nI 7), .ref a]) (rest := []) G Z ml_X1_141 (k_tellOfType hlt hd (by have h9 := hlen; (try simp only [c1e, c97e, c98e, c114e, c115e, c123e, if_true, if_false, reduceIte, and_self, and_true, true_and, and_false, false_and, not_true_eq_false] at h9); (try simp only [List.length_append, List.length_cons, List.length_nil]); (try split at h9); all_goals omega) (hF.1.t tlx).1 (ct_0 (sd_T lk hF.1 tlx hvx hox))) hd.1.1 dX1_tellChangedType_95 rfl (by decide) (by decide) (by decide) (by decide) (Nat.le_of_ble_eq_true rfl) rfl rfl (fun v125 h124 y126 => ?_) (fun _ _ hx => hx.elim)
              obtain ⟨rfl, hF2, hd2⟩ := y126
              show jv_V E 3 h124 0 0 (jv_Q E (fun y_ h' => y_ = none ∧ dF z h h' ∧ dS z h' s (L ++ m_dT (mt_n x) x y)) jv_no 0 0) 98 [(0, .ref (z 6 3)), (1, .ref a), (2, .ref c)] []
              have hF := hF.tr hF2
              have hd := hd2
              refine jv_vret G hr dX1_tellChangedType_98 (Nat.le_of_ble_eq_true rfl) (Nat.le_of_ble_eq_true rfl) ?_
              have eL : (((L ++ [(3, mt_n x, none, none)]) ++ [(6, mt_n x, none, none)]) ++ [(7, mt_n x, none, none)]) = L ++ m_dT (mt_n x) x y := by
                unfold m_dT
                simp only [c1e, c97e, c98e, c114e, c115e, c123e, if_true, if_false, and_self, and_true, true_and, and_false, false_and, List.nil_append, List.append_nil, List.append_assoc, List.singleton_append, List.cons_append]
              rw [eL] at hd
              exact ⟨rfl, hF, hd⟩
        · have c114e : (mt_p x = mt_p y) = False := eq_false c114
          refine jv_aload_n (q := 57) G 0 dX1_tellChangedType_56 rfl rfl rfl ?_
          refine jv_iconst (q := 58) (v := nI 5) G dX1_tellChangedType_57 (by decide) rfl ?_
          refine jv_aload_n (q := 59) G 1 dX1_tellChangedType_58 rfl rfl rfl ?_
          refine jv_callV (q := 62) (As := [.int (nI 5), .ref a]) (rest := []) G Z ml_X1_141 (k_tellOfType hlt hd (by have h9 := hlen; (try simp only [c1e, c97e, c98e, c114e, if_true, if_false, reduceIte, and_self, and_true, true_and, and_false, false_and, not_true_eq_false] at h9); (try simp only [List.length_append, List.length_cons, List.length_nil]); (try split at h9); all_goals omega) (hF.1.t tlx).1 (ct_0 (sd_T lk hF.1 tlx hvx hox))) hd.1.1 dX1_tellChangedType_59 rfl (by decide) (by decide) (by decide) (by decide) (Nat.le_of_ble_eq_true rfl) rfl rfl (fun v128 h127 y129 => ?_) (fun _ _ hx => hx.elim)
          obtain ⟨rfl, hF2, hd2⟩ := y129
          show jv_V E 3 h127 0 0 (jv_Q E (fun y_ h' => y_ = none ∧ dF z h h' ∧ dS z h' s (L ++ m_dT (mt_n x) x y)) jv_no 0 0) 62 [(0, .ref (z 6 3)), (1, .ref a), (2, .ref c)] []
          have hF := hF.tr hF2
          have hd := hd2
          refine jv_aload_n (q := 63) G 1 dX1_tellChangedType_62 rfl rfl rfl ?_
          refine jv_getI (q := 66) G dX1_tellChangedType_63 fl_X1_161 rfl (hF.1.t tlx).1 (ct_5 (sd_T lk hF.1 tlx hvx hox)) rfl ?_
          refine jv_aload_n (q := 67) G 2 dX1_tellChangedType_66 rfl rfl rfl ?_
          refine jv_getI (q := 70) G dX1_tellChangedType_67 fl_X1_161 rfl (hF.1.t tly).1 (ct_5 (sd_T lk hF.1 tly hvy hoy)) rfl ?_
          refine jv_icmp_eq (q := 73) (tgt := 80) G dX1_tellChangedType_70 (by decide) rfl (fun c130 => ?_) (fun c130 => ?_)
          · rw [jv_oN_inj (fun k e => by have := (hox.2.2.1 k e).1; omega) (fun k e => by have := (hoy.2.2.1 k e).1; omega)] at c130
            have c130e : (mt_u x = mt_u y) = True := eq_true c130
            refine jv_aload_n (q := 81) G 1 dX1_tellChangedType_80 rfl rfl rfl ?_
            refine jv_callV_I (q := 84) (h1 := h127) (As := []) (rest := []) (ce' := 0) (sl' := 0) (r := nI (m_mk (mt_f x) (mt_f x).length)) G Z ml_X1_164 (k_interfaceNames hlt (hF.1.t tlx) (sd_T lk hF.1 tlx hvx hox) hox) (hF.1.t tlx).1 dX1_tellChangedType_81 rfl (by decide) (by decide) (by decide) (by decide) (Nat.le_of_ble_eq_true rfl) rfl rfl rfl rfl ?_
            refine jv_aload_n (q := 85) G 2 dX1_tellChangedType_84 rfl rfl rfl ?_
            refine jv_callV_I (q := 88) (h1 := h127) (As := []) (rest := [.int (nI (m_mk (mt_f x) (mt_f x).length))]) (ce' := 0) (sl' := 0) (r := nI (m_mk (mt_f y) (mt_f y).length)) G Z ml_X1_164 (k_interfaceNames hlt (hF.1.t tly) (sd_T lk hF.1 tly hvy hoy) hoy) (hF.1.t tly).1 dX1_tellChangedType_85 rfl (by decide) (by decide) (by decide) (by decide) (Nat.le_of_ble_eq_true rfl) rfl rfl rfl rfl ?_
            refine jv_icmp_eqN (q := 91) (tgt := 98) G dX1_tellChangedType_88 (by decide) rfl (by omega) (by omega) (fun c131 => ?_) (fun c131 => ?_)
            · have c131e : (m_mk (mt_f x) (mt_f x).length = m_mk (mt_f y) (mt_f y).length) = True := eq_true c131
              refine jv_vret G hr dX1_tellChangedType_98 (Nat.le_of_ble_eq_true rfl) (Nat.le_of_ble_eq_true rfl) ?_
              have eL : ((L ++ [(3, mt_n x, none, none)]) ++ [(5, mt_n x, none, none)]) = L ++ m_dT (mt_n x) x y := by
                unfold m_dT
                simp only [c1e, c97e, c98e, c114e, c130e, c131e, if_true, if_false, and_self, and_true, true_and, and_false, false_and, List.nil_append, List.append_nil, List.append_assoc, List.singleton_append, List.cons_append]
              rw [eL] at hd
              exact ⟨rfl, hF, hd⟩
            · have c131e : (m_mk (mt_f x) (mt_f x).length = m_mk (mt_f y) (mt_f y).length) = False := eq_false c131
              refine jv_aload_n (q := 92) G 0 dX1_tellChangedType_91 rfl rfl rfl ?_
              refine jv_bipush (q := 94) (v := nI 7) G dX1_tellChangedType_92 (by decide) rfl ?_
              refine jv_aload_n (q := 95) G 1 dX1_tellChangedType_94 rfl rfl rfl ?_
              refine jv_callV (q := 98) (As := [.int (nI 7), .ref a]) (rest := []) G Z ml_X1_141 (k_tellOfType hlt hd (by have h9 := hlen; (try simp only [c1e, c97e, c98e, c114e, c130e, c131e, if_true, if_false, reduceIte, and_self, and_true, true_and, and_false, false_and, not_true_eq_false] at h9); (try simp only [List.length_append, List.length_cons, List.length_nil]); (try split at h9); all_goals omega) (hF.1.t tlx).1 (ct_0 (sd_T lk hF.1 tlx hvx hox))) hd.1.1 dX1_tellChangedType_95 rfl (by decide) (by decide) (by decide) (by decide) (Nat.le_of_ble_eq_true rfl) rfl rfl (fun v133 h132 y134 => ?_) (fun _ _ hx => hx.elim)
              obtain ⟨rfl, hF2, hd2⟩ := y134
              show jv_V E 3 h132 0 0 (jv_Q E (fun y_ h' => y_ = none ∧ dF z h h' ∧ dS z h' s (L ++ m_dT (mt_n x) x y)) jv_no 0 0) 98 [(0, .ref (z 6 3)), (1, .ref a), (2, .ref c)] []
              have hF := hF.tr hF2
              have hd := hd2
              refine jv_vret G hr dX1_tellChangedType_98 (Nat.le_of_ble_eq_true rfl) (Nat.le_of_ble_eq_true rfl) ?_
              have eL : (((L ++ [(3, mt_n x, none, none)]) ++ [(5, mt_n x, none, none)]) ++ [(7, mt_n x, none, none)]) = L ++ m_dT (mt_n x) x y := by
                unfold m_dT
                simp only [c1e, c97e, c98e, c114e, c130e, c131e, if_true, if_false, and_self, and_true, true_and, and_false, false_and, List.nil_append, List.append_nil, List.append_assoc, List.singleton_append, List.cons_append]
              rw [eL] at hd
              exact ⟨rfl, hF, hd⟩
          · rw [jv_oN_inj (fun k e => by have := (hox.2.2.1 k e).1; omega) (fun k e => by have := (hoy.2.2.1 k e).1; omega)] at c130
            have c130e : (mt_u x = mt_u y) = False := eq_false c130
            refine jv_aload_n (q := 74) G 0 dX1_tellChangedType_73 rfl rfl rfl ?_
            refine jv_bipush (q := 76) (v := nI 6) G dX1_tellChangedType_74 (by decide) rfl ?_
            refine jv_aload_n (q := 77) G 1 dX1_tellChangedType_76 rfl rfl rfl ?_
            refine jv_callV (q := 80) (As := [.int (nI 6), .ref a]) (rest := []) G Z ml_X1_141 (k_tellOfType hlt hd (by have h9 := hlen; (try simp only [c1e, c97e, c98e, c114e, c130e, if_true, if_false, reduceIte, and_self, and_true, true_and, and_false, false_and, not_true_eq_false] at h9); (try simp only [List.length_append, List.length_cons, List.length_nil]); (try split at h9); all_goals omega) (hF.1.t tlx).1 (ct_0 (sd_T lk hF.1 tlx hvx hox))) hd.1.1 dX1_tellChangedType_77 rfl (by decide) (by decide) (by decide) (by decide) (Nat.le_of_ble_eq_true rfl) rfl rfl (fun v136 h135 y137 => ?_) (fun _ _ hx => hx.elim)
            obtain ⟨rfl, hF2, hd2⟩ := y137
            show jv_V E 3 h135 0 0 (jv_Q E (fun y_ h' => y_ = none ∧ dF z h h' ∧ dS z h' s (L ++ m_dT (mt_n x) x y)) jv_no 0 0) 80 [(0, .ref (z 6 3)), (1, .ref a), (2, .ref c)] []
            have hF := hF.tr hF2
            have hd := hd2
            refine jv_aload_n (q := 81) G 1 dX1_tellChangedType_80 rfl rfl rfl ?_
            refine jv_callV_I (q := 84) (h1 := h135) (As := []) (rest := []) (ce' := 0) (sl' := 0) (r := nI (m_mk (mt_f x) (mt_f x).length)) G Z ml_X1_164 (k_interfaceNames hlt (hF.1.t tlx) (sd_T lk hF.1 tlx hvx hox) hox) (hF.1.t tlx).1 dX1_tellChangedType_81 rfl (by decide) (by decide) (by decide) (by decide) (Nat.le_of_ble_eq_true rfl) rfl rfl rfl rfl ?_
            refine jv_aload_n (q := 85) G 2 dX1_tellChangedType_84 rfl rfl rfl ?_
            refine jv_callV_I (q := 88) (h1 := h135) (As := []) (rest := [.int (nI (m_mk (mt_f x) (mt_f x).length))]) (ce' := 0) (sl' := 0) (r := nI (m_mk (mt_f y) (mt_f y).length)) G Z ml_X1_164 (k_interfaceNames hlt (hF.1.t tly) (sd_T lk hF.1 tly hvy hoy) hoy) (hF.1.t tly).1 dX1_tellChangedType_85 rfl (by decide) (by decide) (by decide) (by decide) (Nat.le_of_ble_eq_true rfl) rfl rfl rfl rfl ?_
            refine jv_icmp_eqN (q := 91) (tgt := 98) G dX1_tellChangedType_88 (by decide) rfl (by omega) (by omega) (fun c138 => ?_) (fun c138 => ?_)
            · have c138e : (m_mk (mt_f x) (mt_f x).length = m_mk (mt_f y) (mt_f y).length) = True := eq_true c138
              refine jv_vret G hr dX1_tellChangedType_98 (Nat.le_of_ble_eq_true rfl) (Nat.le_of_ble_eq_true rfl) ?_
              have eL : (((L ++ [(3, mt_n x, none, none)]) ++ [(5, mt_n x, none, none)]) ++ [(6, mt_n x, none, none)]) = L ++ m_dT (mt_n x) x y := by
                unfold m_dT
                simp only [c1e, c97e, c98e, c114e, c130e, c138e, if_true, if_false, and_self, and_true, true_and, and_false, false_and, List.nil_append, List.append_nil, List.append_assoc, List.singleton_append, List.cons_append]
              rw [eL] at hd
              exact ⟨rfl, hF, hd⟩
            · have c138e : (m_mk (mt_f x) (mt_f x).length = m_mk (mt_f y) (mt_f y).length) = False := eq_false c138
              refine jv_aload_n (q := 92) G 0 dX1_tellChangedType_91 rfl rfl rfl ?_
              refine jv_bipush (q := 94) (v := nI 7) G dX1_tellChangedType_92 (by decide) rfl ?_
              refine jv_aload_n (q := 95) G 1 dX1_tellChangedType_94 rfl rfl rfl ?_
              refine jv_callV (q := 98) (As := [.int (nI 7), .ref a]) (rest := []) G Z ml_X1_141 (k_tellOfType hlt hd (by have h9 := hlen; (try simp only [c1e, c97e, c98e, c114e, c130e, c138e, if_true, if_false, reduceIte, and_self, and_true, true_and, and_false, false_and, not_true_eq_false] at h9); (try simp only [List.length_append, List.length_cons, List.length_nil]); (try split at h9); all_goals omega) (hF.1.t tlx).1 (ct_0 (sd_T lk hF.1 tlx hvx hox))) hd.1.1 dX1_tellChangedType_95 rfl (by decide) (by decide) (by decide) (by decide) (Nat.le_of_ble_eq_true rfl) rfl rfl (fun v140 h139 y141 => ?_) (fun _ _ hx => hx.elim)
              obtain ⟨rfl, hF2, hd2⟩ := y141
              show jv_V E 3 h139 0 0 (jv_Q E (fun y_ h' => y_ = none ∧ dF z h h' ∧ dS z h' s (L ++ m_dT (mt_n x) x y)) jv_no 0 0) 98 [(0, .ref (z 6 3)), (1, .ref a), (2, .ref c)] []
              have hF := hF.tr hF2
              have hd := hd2
              refine jv_vret G hr dX1_tellChangedType_98 (Nat.le_of_ble_eq_true rfl) (Nat.le_of_ble_eq_true rfl) ?_
              have eL : ((((L ++ [(3, mt_n x, none, none)]) ++ [(5, mt_n x, none, none)]) ++ [(6, mt_n x, none, none)]) ++ [(7, mt_n x, none, none)]) = L ++ m_dT (mt_n x) x y := by
                unfold m_dT
                simp only [c1e, c97e, c98e, c114e, c130e, c138e, if_true, if_false, and_self, and_true, true_and, and_false, false_and, List.nil_append, List.append_nil, List.append_assoc, List.singleton_append, List.cons_append]
              rw [eL] at hd
              exact ⟨rfl, hF, hd⟩
    · have c97e : (mt_a x = mt_a y) = False := eq_false c97
      refine jv_aload_n (q := 29) G 0 dX1_tellChangedType_28 rfl rfl rfl ?_
      refine jv_iconst (q := 30) (v := nI 4) G dX1_tellChangedType_29 (by decide) rfl ?_
      refine jv_aload_n (q := 31) G 1 dX1_tellChangedType_30 rfl rfl rfl ?_
      refine jv_callV (q := 34) (As := [.int (nI 4), .ref a]) (rest := []) G Z ml_X1_141 (k_tellOfType hlt hd (by have h9 := hlen; (try simp only [c1e, c97e, if_true, if_false, reduceIte, and_self, and_true, true_and, and_false, false_and, not_true_eq_false] at h9); (try simp only [List.length_append, List.length_cons, List.length_nil]); (try split at h9); all_goals omega) (hF.1.t tlx).1 (ct_0 (sd_T lk hF.1 tlx hvx hox))) hd.1.1 dX1_tellChangedType_31 rfl (by decide) (by decide) (by decide) (by decide) (Nat.le_of_ble_eq_true rfl) rfl rfl (fun v143 h142 y144 => ?_) (fun _ _ hx => hx.elim)
      obtain ⟨rfl, hF2, hd2⟩ := y144
      show jv_V E 3 h142 0 0 (jv_Q E (fun y_ h' => y_ = none ∧ dF z h h' ∧ dS z h' s (L ++ m_dT (mt_n x) x y)) jv_no 0 0) 34 [(0, .ref (z 6 3)), (1, .ref a), (2, .ref c)] []
      have hF := hF.tr hF2
      have hd := hd2
      refine jv_aload_n (q := 35) G 1 dX1_tellChangedType_34 rfl rfl rfl ?_
      refine jv_getI (q := 38) G dX1_tellChangedType_35 fl_X1_155 rfl (hF.1.t tlx).1 (ct_3 (sd_T lk hF.1 tlx hvx hox)) rfl ?_
      refine jv_aload_n (q := 39) G 2 dX1_tellChangedType_38 rfl rfl rfl ?_
      refine jv_getI (q := 42) G dX1_tellChangedType_39 fl_X1_155 rfl (hF.1.t tly).1 (ct_3 (sd_T lk hF.1 tly hvy hoy)) rfl ?_
      refine jv_icmp_neN (q := 45) (tgt := 56) G dX1_tellChangedType_42 (by decide) rfl (by omega) (by omega) (fun c145 => ?_) (fun c145 => ?_)
      · have c145e : (mt_k x = mt_k y) = False := eq_false c145
        refine jv_aload_n (q := 57) G 0 dX1_tellChangedType_56 rfl rfl rfl ?_
        refine jv_iconst (q := 58) (v := nI 5) G dX1_tellChangedType_57 (by decide) rfl ?_
        refine jv_aload_n (q := 59) G 1 dX1_tellChangedType_58 rfl rfl rfl ?_
        refine jv_callV (q := 62) (As := [.int (nI 5), .ref a]) (rest := []) G Z ml_X1_141 (k_tellOfType hlt hd (by have h9 := hlen; (try simp only [c1e, c97e, c145e, if_true, if_false, reduceIte, and_self, and_true, true_and, and_false, false_and, not_true_eq_false] at h9); (try simp only [List.length_append, List.length_cons, List.length_nil]); (try split at h9); all_goals omega) (hF.1.t tlx).1 (ct_0 (sd_T lk hF.1 tlx hvx hox))) hd.1.1 dX1_tellChangedType_59 rfl (by decide) (by decide) (by decide) (by decide) (Nat.le_of_ble_eq_true rfl) rfl rfl (fun v147 h146 y148 => ?_) (fun _ _ hx => hx.elim)
        obtain ⟨rfl, hF2, hd2⟩ := y148
        show jv_V E 3 h146 0 0 (jv_Q E (fun y_ h' => y_ = none ∧ dF z h h' ∧ dS z h' s (L ++ m_dT (mt_n x) x y)) jv_no 0 0) 62 [(0, .ref (z 6 3)), (1, .ref a), (2, .ref c)] []
        have hF := hF.tr hF2
        have hd := hd2
        refine jv_aload_n (q := 63) G 1 dX1_tellChangedType_62 rfl rfl rfl ?_
        refine jv_getI (q := 66) G dX1_tellChangedType_63 fl_X1_161 rfl (hF.1.t tlx).1 (ct_5 (sd_T lk hF.1 tlx hvx hox)) rfl ?_
        refine jv_aload_n (q := 67) G 2 dX1_tellChangedType_66 rfl rfl rfl ?_
        refine jv_getI (q := 70) G dX1_tellChangedType_67 fl_X1_161 rfl (hF.1.t tly).1 (ct_5 (sd_T lk hF.1 tly hvy hoy)) rfl ?_
        refine jv_icmp_eq (q := 73) (tgt := 80) G dX1_tellChangedType_70 (by decide) rfl (fun c149 => ?_) (fun c149 => ?_)
        · rw [jv_oN_inj (fun k e => by have := (hox.2.2.1 k e).1; omega) (fun k e => by have := (hoy.2.2.1 k e).1; omega)] at c149
          have c149e : (mt_u x = mt_u y) = True := eq_true c149
          refine jv_aload_n (q := 81) G 1 dX1_tellChangedType_80 rfl rfl rfl ?_
          refine jv_callV_I (q := 84) (h1 := h146) (As := []) (rest := []) (ce' := 0) (sl' := 0) (r := nI (m_mk (mt_f x) (mt_f x).length)) G Z ml_X1_164 (k_interfaceNames hlt (hF.1.t tlx) (sd_T lk hF.1 tlx hvx hox) hox) (hF.1.t tlx).1 dX1_tellChangedType_81 rfl (by decide) (by decide) (by decide) (by decide) (Nat.le_of_ble_eq_true rfl) rfl rfl rfl rfl ?_
          refine jv_aload_n (q := 85) G 2 dX1_tellChangedType_84 rfl rfl rfl ?_
          refine jv_callV_I (q := 88) (h1 := h146) (As := []) (rest := [.int (nI (m_mk (mt_f x) (mt_f x).length))]) (ce' := 0) (sl' := 0) (r := nI (m_mk (mt_f y) (mt_f y).length)) G Z ml_X1_164 (k_interfaceNames hlt (hF.1.t tly) (sd_T lk hF.1 tly hvy hoy) hoy) (hF.1.t tly).1 dX1_tellChangedType_85 rfl (by decide) (by decide) (by decide) (by decide) (Nat.le_of_ble_eq_true rfl) rfl rfl rfl rfl ?_
          refine jv_icmp_eqN (q := 91) (tgt := 98) G dX1_tellChangedType_88 (by decide) rfl (by omega) (by omega) (fun c150 => ?_) (fun c150 => ?_)
          · have c150e : (m_mk (mt_f x) (mt_f x).length = m_mk (mt_f y) (mt_f y).length) = True := eq_true c150
            refine jv_vret G hr dX1_tellChangedType_98 (Nat.le_of_ble_eq_true rfl) (Nat.le_of_ble_eq_true rfl) ?_
            have eL : (((L ++ [(3, mt_n x, none, none)]) ++ [(4, mt_n x, none, none)]) ++ [(5, mt_n x, none, none)]) = L ++ m_dT (mt_n x) x y := by
              unfold m_dT
              simp only [c1e, c97e, c145e, c149e, c150e, if_true, if_false, and_self, and_true, true_and, and_false, false_and, List.nil_append, List.append_nil, List.append_assoc, List.singleton_append, List.cons_append]
            rw [eL] at hd
            exact ⟨rfl, hF, hd⟩
          · have c150e : (m_mk (mt_f x) (mt_f x).length = m_mk (mt_f y) (mt_f y).length) = False := eq_false c150
            refine jv_aload_n (q := 92) G 0 dX1_tellChangedType_91 rfl rfl rfl ?_
            refine jv_bipush (q := 94) (v := nI 7) G dX1_tellChangedType_92 (by decide) rfl ?_
            refine jv_aload_n (q := 95) G 1 dX1_tellChangedType_94 rfl rfl rfl ?_
            refine jv_callV (q := 98) (As := [.int (nI 7), .ref a]) (rest := []) G Z ml_X1_141 (k_tellOfType hlt hd (by have h9 := hlen; (try simp only [c1e, c97e, c145e, c149e, c150e, if_true, if_false, reduceIte, and_self, and_true, true_and, and_false, false_and, not_true_eq_false] at h9); (try simp only [List.length_append, List.length_cons, List.length_nil]); (try split at h9); all_goals omega) (hF.1.t tlx).1 (ct_0 (sd_T lk hF.1 tlx hvx hox))) hd.1.1 dX1_tellChangedType_95 rfl (by decide) (by decide) (by decide) (by decide) (Nat.le_of_ble_eq_true rfl) rfl rfl (fun v152 h151 y153 => ?_) (fun _ _ hx => hx.elim)
            obtain ⟨rfl, hF2, hd2⟩ := y153
            show jv_V E 3 h151 0 0 (jv_Q E (fun y_ h' => y_ = none ∧ dF z h h' ∧ dS z h' s (L ++ m_dT (mt_n x) x y)) jv_no 0 0) 98 [(0, .ref (z 6 3)), (1, .ref a), (2, .ref c)] []
            have hF := hF.tr hF2
            have hd := hd2
            refine jv_vret G hr dX1_tellChangedType_98 (Nat.le_of_ble_eq_true rfl) (Nat.le_of_ble_eq_true rfl) ?_
            have eL : ((((L ++ [(3, mt_n x, none, none)]) ++ [(4, mt_n x, none, none)]) ++ [(5, mt_n x, none, none)]) ++ [(7, mt_n x, none, none)]) = L ++ m_dT (mt_n x) x y := by
              unfold m_dT
              simp only [c1e, c97e, c145e, c149e, c150e, if_true, if_false, and_self, and_true, true_and, and_false, false_and, List.nil_append, List.append_nil, List.append_assoc, List.singleton_append, List.cons_append]
            rw [eL] at hd
            exact ⟨rfl, hF, hd⟩
        · rw [jv_oN_inj (fun k e => by have := (hox.2.2.1 k e).1; omega) (fun k e => by have := (hoy.2.2.1 k e).1; omega)] at c149
          have c149e : (mt_u x = mt_u y) = False := eq_false c149
          refine jv_aload_n (q := 74) G 0 dX1_tellChangedType_73 rfl rfl rfl ?_
          refine jv_bipush (q := 76) (v := nI 6) G dX1_tellChangedType_74 (by decide) rfl ?_
          refine jv_aload_n (q := 77) G 1 dX1_tellChangedType_76 rfl rfl rfl ?_
          refine jv_callV (q := 80) (As := [.int (nI 6), .ref a]) (rest := []) G Z ml_X1_141 (k_tellOfType hlt hd (by have h9 := hlen; (try simp only [c1e, c97e, c145e, c149e, if_true, if_false, reduceIte, and_self, and_true, true_and, and_false, false_and, not_true_eq_false] at h9); (try simp only [List.length_append, List.length_cons, List.length_nil]); (try split at h9); all_goals omega) (hF.1.t tlx).1 (ct_0 (sd_T lk hF.1 tlx hvx hox))) hd.1.1 dX1_tellChangedType_77 rfl (by decide) (by decide) (by decide) (by decide) (Nat.le_of_ble_eq_true rfl) rfl rfl (fun v155 h154 y156 => ?_) (fun _ _ hx => hx.elim)
          obtain ⟨rfl, hF2, hd2⟩ := y156
          show jv_V E 3 h154 0 0 (jv_Q E (fun y_ h' => y_ = none ∧ dF z h h' ∧ dS z h' s (L ++ m_dT (mt_n x) x y)) jv_no 0 0) 80 [(0, .ref (z 6 3)), (1, .ref a), (2, .ref c)] []
          have hF := hF.tr hF2
          have hd := hd2
          refine jv_aload_n (q := 81) G 1 dX1_tellChangedType_80 rfl rfl rfl ?_
          refine jv_callV_I (q := 84) (h1 := h154) (As := []) (rest := []) (ce' := 0) (sl' := 0) (r := nI (m_mk (mt_f x) (mt_f x).length)) G Z ml_X1_164 (k_interfaceNames hlt (hF.1.t tlx) (sd_T lk hF.1 tlx hvx hox) hox) (hF.1.t tlx).1 dX1_tellChangedType_81 rfl (by decide) (by decide) (by decide) (by decide) (Nat.le_of_ble_eq_true rfl) rfl rfl rfl rfl ?_
          refine jv_aload_n (q := 85) G 2 dX1_tellChangedType_84 rfl rfl rfl ?_
          refine jv_callV_I (q := 88) (h1 := h154) (As := []) (rest := [.int (nI (m_mk (mt_f x) (mt_f x).length))]) (ce' := 0) (sl' := 0) (r := nI (m_mk (mt_f y) (mt_f y).length)) G Z ml_X1_164 (k_interfaceNames hlt (hF.1.t tly) (sd_T lk hF.1 tly hvy hoy) hoy) (hF.1.t tly).1 dX1_tellChangedType_85 rfl (by decide) (by decide) (by decide) (by decide) (Nat.le_of_ble_eq_true rfl) rfl rfl rfl rfl ?_
          refine jv_icmp_eqN (q := 91) (tgt := 98) G dX1_tellChangedType_88 (by decide) rfl (by omega) (by omega) (fun c157 => ?_) (fun c157 => ?_)
          · have c157e : (m_mk (mt_f x) (mt_f x).length = m_mk (mt_f y) (mt_f y).length) = True := eq_true c157
            refine jv_vret G hr dX1_tellChangedType_98 (Nat.le_of_ble_eq_true rfl) (Nat.le_of_ble_eq_true rfl) ?_
            have eL : ((((L ++ [(3, mt_n x, none, none)]) ++ [(4, mt_n x, none, none)]) ++ [(5, mt_n x, none, none)]) ++ [(6, mt_n x, none, none)]) = L ++ m_dT (mt_n x) x y := by
              unfold m_dT
              simp only [c1e, c97e, c145e, c149e, c157e, if_true, if_false, and_self, and_true, true_and, and_false, false_and, List.nil_append, List.append_nil, List.append_assoc, List.singleton_append, List.cons_append]
            rw [eL] at hd
            exact ⟨rfl, hF, hd⟩
          · have c157e : (m_mk (mt_f x) (mt_f x).length = m_mk (mt_f y) (mt_f y).length) = False := eq_false c157
            refine jv_aload_n (q := 92) G 0 dX1_tellChangedType_91 rfl rfl rfl ?_
            refine jv_bipush (q := 94) (v := nI 7) G dX1_tellChangedType_92 (by decide) rfl ?_
            refine jv_aload_n (q := 95) G 1 dX1_tellChangedType_94 rfl rfl rfl ?_
            refine jv_callV (q := 98) (As := [.int (nI 7), .ref a]) (rest := []) G Z ml_X1_141 (k_tellOfType hlt hd (by have h9 := hlen; (try simp only [c1e, c97e, c145e, c149e, c157e, if_true, if_false, reduceIte, and_self, and_true, true_and, and_false, false_and, not_true_eq_false] at h9); (try simp only [List.length_append, List.length_cons, List.length_nil]); (try split at h9); all_goals omega) (hF.1.t tlx).1 (ct_0 (sd_T lk hF.1 tlx hvx hox))) hd.1.1 dX1_tellChangedType_95 rfl (by decide) (by decide) (by decide) (by decide) (Nat.le_of_ble_eq_true rfl) rfl rfl (fun v159 h158 y160 => ?_) (fun _ _ hx => hx.elim)
            obtain ⟨rfl, hF2, hd2⟩ := y160
            show jv_V E 3 h158 0 0 (jv_Q E (fun y_ h' => y_ = none ∧ dF z h h' ∧ dS z h' s (L ++ m_dT (mt_n x) x y)) jv_no 0 0) 98 [(0, .ref (z 6 3)), (1, .ref a), (2, .ref c)] []
            have hF := hF.tr hF2
            have hd := hd2
            refine jv_vret G hr dX1_tellChangedType_98 (Nat.le_of_ble_eq_true rfl) (Nat.le_of_ble_eq_true rfl) ?_
            have eL : (((((L ++ [(3, mt_n x, none, none)]) ++ [(4, mt_n x, none, none)]) ++ [(5, mt_n x, none, none)]) ++ [(6, mt_n x, none, none)]) ++ [(7, mt_n x, none, none)]) = L ++ m_dT (mt_n x) x y := by
              unfold m_dT
              simp only [c1e, c97e, c145e, c149e, c157e, if_true, if_false, and_self, and_true, true_and, and_false, false_and, List.nil_append, List.append_nil, List.append_assoc, List.singleton_append, List.cons_append]
            rw [eL] at hd
            exact ⟨rfl, hF, hd⟩
      · have c145e : (mt_k x = mt_k y) = True := eq_true c145
        refine jv_aload_n (q := 46) G 1 dX1_tellChangedType_45 rfl rfl rfl ?_
        refine jv_getZ (q := 49) G dX1_tellChangedType_46 fl_X1_158 rfl (hF.1.t tlx).1 (ct_4 (sd_T lk hF.1 tlx hvx hox)) rfl ?_
        refine jv_aload_n (q := 50) G 2 dX1_tellChangedType_49 rfl rfl rfl ?_
        refine jv_getZ (q := 53) G dX1_tellChangedType_50 fl_X1_158 rfl (hF.1.t tly).1 (ct_4 (sd_T lk hF.1 tly hvy hoy)) rfl ?_
        refine jv_icmp_eqB (q := 56) (tgt := 62) G dX1_tellChangedType_53 (by decide) rfl (fun c161 => ?_) (fun c161 => ?_)
        · have c161e : (mt_p x = mt_p y) = True := eq_true c161
          refine jv_aload_n (q := 63) G 1 dX1_tellChangedType_62 rfl rfl rfl ?_
          refine jv_getI (q := 66) G dX1_tellChangedType_63 fl_X1_161 rfl (hF.1.t tlx).1 (ct_5 (sd_T lk hF.1 tlx hvx hox)) rfl ?_
          refine jv_aload_n (q := 67) G 2 dX1_tellChangedType_66 rfl rfl rfl ?_
          refine jv_getI (q := 70) G dX1_tellChangedType_67 fl_X1_161 rfl (hF.1.t tly).1 (ct_5 (sd_T lk hF.1 tly hvy hoy)) rfl ?_
          refine jv_icmp_eq (q := 73) (tgt := 80) G dX1_tellChangedType_70 (by decide) rfl (fun c162 => ?_) (fun c162 => ?_)
          · rw [jv_oN_inj (fun k e => by have := (hox.2.2.1 k e).1; omega) (fun k e => by have := (hoy.2.2.1 k e).1; omega)] at c162
            have c162e : (mt_u x = mt_u y) = True := eq_true c162
            refine jv_aload_n (q := 81) G 1 dX1_tellChangedType_80 rfl rfl rfl ?_
            refine jv_callV_I (q := 84) (h1 := h142) (As := []) (rest := []) (ce' := 0) (sl' := 0) (r := nI (m_mk (mt_f x) (mt_f x).length)) G Z ml_X1_164 (k_interfaceNames hlt (hF.1.t tlx) (sd_T lk hF.1 tlx hvx hox) hox) (hF.1.t tlx).1 dX1_tellChangedType_81 rfl (by decide) (by decide) (by decide) (by decide) (Nat.le_of_ble_eq_true rfl) rfl rfl rfl rfl ?_
            refine jv_aload_n (q := 85) G 2 dX1_tellChangedType_84 rfl rfl rfl ?_
            refine jv_callV_I (q := 88) (h1 := h142) (As := []) (rest := [.int (nI (m_mk (mt_f x) (mt_f x).length))]) (ce' := 0) (sl' := 0) (r := nI (m_mk (mt_f y) (mt_f y).length)) G Z ml_X1_164 (k_interfaceNames hlt (hF.1.t tly) (sd_T lk hF.1 tly hvy hoy) hoy) (hF.1.t tly).1 dX1_tellChangedType_85 rfl (by decide) (by decide) (by decide) (by decide) (Nat.le_of_ble_eq_true rfl) rfl rfl rfl rfl ?_
            refine jv_icmp_eqN (q := 91) (tgt := 98) G dX1_tellChangedType_88 (by decide) rfl (by omega) (by omega) (fun c163 => ?_) (fun c163 => ?_)
            · have c163e : (m_mk (mt_f x) (mt_f x).length = m_mk (mt_f y) (mt_f y).length) = True := eq_true c163
              refine jv_vret G hr dX1_tellChangedType_98 (Nat.le_of_ble_eq_true rfl) (Nat.le_of_ble_eq_true rfl) ?_
              have eL : ((L ++ [(3, mt_n x, none, none)]) ++ [(4, mt_n x, none, none)]) = L ++ m_dT (mt_n x) x y := by
                unfold m_dT
                simp only [c1e, c97e, c145e, c161e, c162e, c163e, if_true, if_false, and_self, and_true, true_and, and_false, false_and, List.nil_append, List.append_nil, List.append_assoc, List.singleton_append, List.cons_append]
              rw [eL] at hd
              exact ⟨rfl, hF, hd⟩
            · have c163e : (m_mk (mt_f x) (mt_f x).length = m_mk (mt_f y) (mt_f y).length) = False := eq_false c163
              refine jv_aload_n (q := 92) G 0 dX1_tellChangedType_91 rfl rfl rfl ?_
              refine jv_bipush (q := 94) (v := nI 7) G dX1_tellChangedType_92 (by decide) rfl ?_
              refine jv_aload_n (q := 95) G 1 dX1_tellChangedType_94 rfl rfl rfl ?_
              refine jv_callV (q := 98) (As := [.int (nI 7), .ref a]) (rest := []) G Z ml_X1_141 (k_tellOfType hlt hd (by have h9 := hlen; (try simp only [c1e, c97e, c145e, c161e, c162e, c163e, if_true, if_false, reduceIte, and_self, and_true, true_and, and_false, false_and, not_true_eq_false] at h9); (try simp only [List.length_append, List.length_cons, List.length_nil]); (try split at h9); all_goals omega) (hF.1.t tlx).1 (ct_0 (sd_T lk hF.1 tlx hvx hox))) hd.1.1 dX1_tellChangedType_95 rfl (by decide) (by decide) (by decide) (by decide) (Nat.le_of_ble_eq_true rfl) rfl rfl (fun v165 h164 y166 => ?_) (fun _ _ hx => hx.elim)
              obtain ⟨rfl, hF2, hd2⟩ := y166
              show jv_V E 3 h164 0 0 (jv_Q E (fun y_ h' => y_ = none ∧ dF z h h' ∧ dS z h' s (L ++ m_dT (mt_n x) x y)) jv_no 0 0) 98 [(0, .ref (z 6 3)), (1, .ref a), (2, .ref c)] []
              have hF := hF.tr hF2
              have hd := hd2
              refine jv_vret G hr dX1_tellChangedType_98 (Nat.le_of_ble_eq_true rfl) (Nat.le_of_ble_eq_true rfl) ?_
              have eL : (((L ++ [(3, mt_n x, none, none)]) ++ [(4, mt_n x, none, none)]) ++ [(7, mt_n x, none, none)]) = L ++ m_dT (mt_n x) x y := by
                unfold m_dT
                simp only [c1e, c97e, c145e, c161e, c162e, c163e, if_true, if_false, and_self, and_true, true_and, and_false, false_and, List.nil_append, List.append_nil, List.append_assoc, List.singleton_append, List.cons_append]
              rw [eL] at hd
              exact ⟨rfl, hF, hd⟩
          · rw [jv_oN_inj (fun k e => by have := (hox.2.2.1 k e).1; omega) (fun k e => by have := (hoy.2.2.1 k e).1; omega)] at c162
            have c162e : (mt_u x = mt_u y) = False := eq_false c162
            refine jv_aload_n (q := 74) G 0 dX1_tellChangedType_73 rfl rfl rfl ?_
            refine jv_bipush (q := 76) (v := nI 6) G dX1_tellChangedType_74 (by decide) rfl ?_
            refine jv_aload_n (q := 77) G 1 dX1_tellChangedType_76 rfl rfl rfl ?_
            refine jv_callV (q := 80) (As := [.int (nI 6), .ref a]) (rest := []) G Z ml_X1_141 (k_tellOfType hlt hd (by have h9 := hlen; (try simp only [c1e, c97e, c145e, c161e, c162e, if_true, if_false, reduceIte, and_self, and_true, true_and, and_false, false_and, not_true_eq_false] at h9); (try simp only [List.length_append, List.length_cons, List.length_nil]); (try split at h9); all_goals omega) (hF.1.t tlx).1 (ct_0 (sd_T lk hF.1 tlx hvx hox))) hd.1.1 dX1_tellChangedType_77 rfl (by decide) (by decide) (by decide) (by decide) (Nat.le_of_ble_eq_true rfl) rfl rfl (fun v168 h167 y169 => ?_) (fun _ _ hx => hx.elim)
            obtain ⟨rfl, hF2, hd2⟩ := y169
            show jv_V E 3 h167 0 0 (jv_Q E (fun y_ h' => y_ = none ∧ dF z h h' ∧ dS z h' s (L ++ m_dT (mt_n x) x y)) jv_no 0 0) 80 [(0, .ref (z 6 3)), (1, .ref a), (2, .ref c)] []
            have hF := hF.tr hF2
            have hd := hd2
            refine jv_aload_n (q := 81) G 1 dX1_tellChangedType_80 rfl rfl rfl ?_
            refine jv_callV_I (q := 84) (h1 := h167) (As := []) (rest := []) (ce' := 0) (sl' := 0) (r := nI (m_mk (mt_f x) (mt_f x).length)) G Z ml_X1_164 (k_interfaceNames hlt (hF.1.t tlx) (sd_T lk hF.1 tlx hvx hox) hox) (hF.1.t tlx).1 dX1_tellChangedType_81 rfl (by decide) (by decide) (by decide) (by decide) (Nat.le_of_ble_eq_true rfl) rfl rfl rfl rfl ?_
            refine jv_aload_n (q := 85) G 2 dX1_tellChangedType_84 rfl rfl rfl ?_
            refine jv_callV_I (q := 88) (h1 := h167) (As := []) (rest := [.int (nI (m_mk (mt_f x) (mt_f x).length))]) (ce' := 0) (sl' := 0) (r := nI (m_mk (mt_f y) (mt_f y).length)) G Z ml_X1_164 (k_interfaceNames hlt (hF.1.t tly) (sd_T lk hF.1 tly hvy hoy) hoy) (hF.1.t tly).1 dX1_tellChangedType_85 rfl (by decide) (by decide) (by decide) (by decide) (Nat.le_of_ble_eq_true rfl) rfl rfl rfl rfl ?_
            refine jv_icmp_eqN (q := 91) (tgt := 98) G dX1_tellChangedType_88 (by decide) rfl (by omega) (by omega) (fun c170 => ?_) (fun c170 => ?_)
            · have c170e : (m_mk (mt_f x) (mt_f x).length = m_mk (mt_f y) (mt_f y).length) = True := eq_true c170
              refine jv_vret G hr dX1_tellChangedType_98 (Nat.le_of_ble_eq_true rfl) (Nat.le_of_ble_eq_true rfl) ?_
              have eL : (((L ++ [(3, mt_n x, none, none)]) ++ [(4, mt_n x, none, none)]) ++ [(6, mt_n x, none, none)]) = L ++ m_dT (mt_n x) x y := by
                unfold m_dT
                simp only [c1e, c97e, c145e, c161e, c162e, c170e, if_true, if_false, and_self, and_true, true_and, and_false, false_and, List.nil_append, List.append_nil, List.append_assoc, List.singleton_append, List.cons_append]
              rw [eL] at hd
              exact ⟨rfl, hF, hd⟩
            · have c170e : (m_mk (mt_f x) (mt_f x).length = m_mk (mt_f y) (mt_f y).length) = False := eq_false c170
              refine jv_aload_n (q := 92) G 0 dX1_tellChangedType_91 rfl rfl rfl ?_
              refine jv_bipush (q := 94) (v := nI 7) G dX1_tellChangedType_92 (by decide) rfl ?_
              refine jv_aload_n (q := 95) G 1 dX1_tellChangedType_94 rfl rfl rfl ?_
              refine jv_callV (q := 98) (As := [.int (nI 7), .ref a]) (rest := []) G Z ml_X1_141 (k_tellOfType hlt hd (by have h9 := hlen; (try simp only [c1e, c97e, c145e, c161e, c162e, c170e, if_true, if_false, reduceIte, and_self, and_true, true_and, and_false, false_and, not_true_eq_false] at h9); (try simp only [List.length_append, List.length_cons, List.length_nil]); (try split at h9); all_goals omega) (hF.1.t tlx).1 (ct_0 (sd_T lk hF.1 tlx hvx hox))) hd.1.1 dX1_tellChangedType_95 rfl (by decide) (by decide) (by decide) (by decide) (Nat.le_of_ble_eq_true rfl) rfl rfl (fun v172 h171 y173 => ?_) (fun _ _ hx => hx.elim)
              obtain ⟨rfl, hF2, hd2⟩ := y173
              show jv_V E 3 h171 0 0 (jv_Q E (fun y_ h' => y_ = none ∧ dF z h h' ∧ dS z h' s (L ++ m_dT (mt_n x) x y)) jv_no 0 0) 98 [(0, .ref (z 6 3)), (1, .ref a), (2, .ref c)] []
              have hF := hF.tr hF2
              have hd := hd2
              refine jv_vret G hr dX1_tellChangedType_98 (Nat.le_of_ble_eq_true rfl) (Nat.le_of_ble_eq_true rfl) ?_
              have eL : ((((L ++ [(3, mt_n x, none, none)]) ++ [(4, mt_n x, none, none)]) ++ [(6, mt_n x, none, none)]) ++ [(7, mt_n x, none, none)]) = L ++ m_dT (mt_n x) x y := by
                unfold m_dT
                simp only [c1e, c97e, c145e, c161e, c162e, c170e, if_true, if_false, and_self, and_true, true_and, and_false, false_and, List.nil_append, List.append_nil, List.append_assoc, List.singleton_append, List.cons_append]
              rw [eL] at hd
              exact ⟨rfl, hF, hd⟩
        · have c161e : (mt_p x = mt_p y) = False := eq_false c161
          refine jv_aload_n (q := 57) G 0 dX1_tellChangedType_56 rfl rfl rfl ?_
          refine jv_iconst (q := 58) (v := nI 5) G dX1_tellChangedType_57 (by decide) rfl ?_
          refine jv_aload_n (q := 59) G 1 dX1_tellChangedType_58 rfl rfl rfl ?_
          refine jv_callV (q := 62) (As := [.int (nI 5), .ref a]) (rest := []) G Z ml_X1_141 (k_tellOfType hlt hd (by have h9 := hlen; (try simp only [c1e, c97e, c145e, c161e, if_true, if_false, reduceIte, and_self, and_true, true_and, and_false, false_and, not_true_eq_false] at h9); (try simp only [List.length_append, List.length_cons, List.length_nil]); (try split at h9); all_goals omega) (hF.1.t tlx).1 (ct_0 (sd_T lk hF.1 tlx hvx hox))) hd.1.1 dX1_tellChangedType_59 rfl (by decide) (by decide) (by decide) (by decide) (Nat.le_of_ble_eq_true rfl) rfl rfl (fun v175 h174 y176 => ?_) (fun _ _ hx => hx.elim)
          obtain ⟨rfl, hF2, hd2⟩ := y176
          show jv_V E 3 h174 0 0 (jv_Q E (fun y_ h' => y_ = none ∧ dF z h h' ∧ dS z h' s (L ++ m_dT (mt_n x) x y)) jv_no 0 0) 62 [(0, .ref (z 6 3)), (1, .ref a), (2, .ref c)] []
          have hF := hF.tr hF2
          have hd := hd2
          refine jv_aload_n (q := 63) G 1 dX1_tellChangedType_62 rfl rfl rfl ?_
          refine jv_getI (q := 66) G dX1_tellChangedType_63 fl_X1_161 rfl (hF.1.t tlx).1 (ct_5 (sd_T lk hF.1 tlx hvx hox)) rfl ?_
          refine jv_aload_n (q := 67) G 2 dX1_tellChangedType_66 rfl rfl rfl ?_
          refine jv_getI (q := 70) G dX1_tellChangedType_67 fl_X1_161 rfl (hF.1.t tly).1 (ct_5 (sd_T lk hF.1 tly hvy hoy)) rfl ?_
          refine jv_icmp_eq (q := 73) (tgt := 80) G dX1_tellChangedType_70 (by decide) rfl (fun c177 => ?_) (fun c177 => ?_)
          · rw [jv_oN_inj (fun k e => by have := (hox.2.2.1 k e).1; omega) (fun k e => by have := (hoy.2.2.1 k e).1; omega)] at c177
            have c177e : (mt_u x = mt_u y) = True := eq_true c177
            refine jv_aload_n (q := 81) G 1 dX1_tellChangedType_80 rfl rfl rfl ?_
            refine jv_callV_I (q := 84) (h1 := h174) (As := []) (rest := []) (ce' := 0) (sl' := 0) (r := nI (m_mk (mt_f x) (mt_f x).length)) G Z ml_X1_164 (k_interfaceNames hlt (hF.1.t tlx) (sd_T lk hF.1 tlx hvx hox) hox) (hF.1.t tlx).1 dX1_tellChangedType_81 rfl (by decide) (by decide) (by decide) (by decide) (Nat.le_of_ble_eq_true rfl) rfl rfl rfl rfl ?_
            refine jv_aload_n (q := 85) G 2 dX1_tellChangedType_84 rfl rfl rfl ?_
            refine jv_callV_I (q := 88) (h1 := h174) (As := []) (rest := [.int (nI (m_mk (mt_f x) (mt_f x).length))]) (ce' := 0) (sl' := 0) (r := nI (m_mk (mt_f y) (mt_f y).length)) G Z ml_X1_164 (k_interfaceNames hlt (hF.1.t tly) (sd_T lk hF.1 tly hvy hoy) hoy) (hF.1.t tly).1 dX1_tellChangedType_85 rfl (by decide) (by decide) (by decide) (by decide) (Nat.le_of_ble_eq_true rfl) rfl rfl rfl rfl ?_
            refine jv_icmp_eqN (q := 91) (tgt := 98) G dX1_tellChangedType_88 (by decide) rfl (by omega) (by omega) (fun c178 => ?_) (fun c178 => ?_)
            · have c178e : (m_mk (mt_f x) (mt_f x).length = m_mk (mt_f y) (mt_f y).length) = True := eq_true c178
              refine jv_vret G hr dX1_tellChangedType_98 (Nat.le_of_ble_eq_true rfl) (Nat.le_of_ble_eq_true rfl) ?_
              have eL : (((L ++ [(3, mt_n x, none, none)]) ++ [(4, mt_n x, none, none)]) ++ [(5, mt_n x, none, none)]) = L ++ m_dT (mt_n x) x y := by
                unfold m_dT
                simp only [c1e, c97e, c145e, c161e, c177e, c178e, if_true, if_false, and_self, and_true, true_and, and_false, false_and, List.nil_append, List.append_nil, List.append_assoc, List.singleton_append, List.cons_append]
              rw [eL] at hd
              exact ⟨rfl, hF, hd⟩
            · have c178e : (m_mk (mt_f x) (mt_f x).length = m_mk (mt_f y) (mt_f y).length) = False := eq_false c178
              refine jv_aload_n (q := 92) G 0 dX1_tellChangedType_91 rfl rfl rfl ?_
              refine jv_bipush (q := 94) (v := nI 7) G dX1_tellChangedType_92 (by decide) rfl ?_
              refine jv_aload_n (q := 95) G 1 dX1_tellChangedType_94 rfl rfl rfl ?_
              refine jv_callV (q := 98) (As := [.int (nI 7), .ref a]) (rest := []) G Z ml_X1_141 (k_tellOfType hlt hd (by have h9 := hlen; (try simp only [c1e, c97e, c145e, c161e, c177e, c178e, if_true, if_false, reduceIte, and_self, and_true, true_and, and_false, false_and, not_true_eq_false] at h9); (try simp only [List.length_append, List.length_cons, List.length_nil]); (try split at h9); all_goals omega) (hF.1.t tlx).1 (ct_0 (sd_T lk hF.1 tlx hvx hox))) hd.1.1 dX1_tellChangedType_95 rfl (by decide) (by decide) (by decide) (by decide) (Nat.le_of_ble_eq_true rfl) rfl rfl (fun v180 h179 y181 => ?_) (fun _ _ hx => hx.elim)
              obtain ⟨rfl, hF2, hd2⟩ := y181
              show jv_V E 3 h179 0 0 (jv_Q E (fun y_ h' => y_ = none ∧ dF z h h' ∧ dS z h' s (L ++ m_dT (mt_n x) x y)) jv_no 0 0) 98 [(0, .ref (z 6 3)), (1, .ref a), (2, .ref c)] []
              have hF := hF.tr hF2
              have hd := hd2
              refine jv_vret G hr dX1_tellChangedType_98 (Nat.le_of_ble_eq_true rfl) (Nat.le_of_ble_eq_true rfl) ?_
              have eL : ((((L ++ [(3, mt_n x, none, none)]) ++ [(4, mt_n x, none, none)]) ++ [(5, mt_n x, none, none)]) ++ [(7, mt_n x, none, none)]) = L ++ m_dT (mt_n x) x y := by
                unfold m_dT
                simp only [c1e, c97e, c145e, c161e, c177e, c178e, if_true, if_false, and_self, and_true, true_and, and_false, false_and, List.nil_append, List.append_nil, List.append_assoc, List.singleton_append, List.cons_append]
              rw [eL] at hd
              exact ⟨rfl, hF, hd⟩
          · rw [jv_oN_inj (fun k e => by have := (hox.2.2.1 k e).1; omega) (fun k e => by have := (hoy.2.2.1 k e).1; omega)] at c177
            have c177e : (mt_u x = mt_u y) = False := eq_false c177
            refine jv_aload_n (q := 74) G 0 dX1_tellChangedType_73 rfl rfl rfl ?_
            refine jv_bipush (q := 76) (v := nI 6) G dX1_tellChangedType_74 (by decide) rfl ?_
            refine jv_aload_n (q := 77) G 1 dX1_tellChangedType_76 rfl rfl rfl ?_
            refine jv_callV (q := 80) (As := [.int (nI 6), .ref a]) (rest := []) G Z ml_X1_141 (k_tellOfType hlt hd (by have h9 := hlen; (try simp only [c1e, c97e, c145e, c161e, c177e, if_true, if_false, reduceIte, and_self, and_true, true_and, and_false, false_and, not_true_eq_false] at h9); (try simp only [List.length_append, List.length_cons, List.length_nil]); (try split at h9); all_goals omega) (hF.1.t tlx).1 (ct_0 (sd_T lk hF.1 tlx hvx hox))) hd.1.1 dX1_tellChangedType_77 rfl (by decide) (by decide) (by decide) (by decide) (Nat.le_of_ble_eq_true rfl) rfl rfl (fun v183 h182 y184 => ?_) (fun _ _ hx => hx.elim)
            obtain ⟨rfl, hF2, hd2⟩ := y184
            show jv_V E 3 h182 0 0 (jv_Q E (fun y_ h' => y_ = none ∧ dF z h h' ∧ dS z h' s (L ++ m_dT (mt_n x) x y)) jv_no 0 0) 80 [(0, .ref (z 6 3)), (1, .ref a), (2, .ref c)] []
            have hF := hF.tr hF2
            have hd := hd2
            refine jv_aload_n (q := 81) G 1 dX1_tellChangedType_80 rfl rfl rfl ?_
            refine jv_callV_I (q := 84) (h1 := h182) (As := []) (rest := []) (ce' := 0) (sl' := 0) (r := nI (m_mk (mt_f x) (mt_f x).length)) G Z ml_X1_164 (k_interfaceNames hlt (hF.1.t tlx) (sd_T lk hF.1 tlx hvx hox) hox) (hF.1.t tlx).1 dX1_tellChangedType_81 rfl (by decide) (by decide) (by decide) (by decide) (Nat.le_of_ble_eq_true rfl) rfl rfl rfl rfl ?_
            refine jv_aload_n (q := 85) G 2 dX1_tellChangedType_84 rfl rfl rfl ?_
            refine jv_callV_I (q := 88) (h1 := h182) (As := []) (rest := [.int (nI (m_mk (mt_f x) (mt_f x).length))]) (ce' := 0) (sl' := 0) (r := nI (m_mk (mt_f y) (mt_f y).length)) G Z ml_X1_164 (k_interfaceNames hlt (hF.1.t tly) (sd_T lk hF.1 tly hvy hoy) hoy) (hF.1.t tly).1 dX1_tellChangedType_85 rfl (by decide) (by decide) (by decide) (by decide) (Nat.le_of_ble_eq_true rfl) rfl rfl rfl rfl ?_
            refine jv_icmp_eqN (q := 91) (tgt := 98) G dX1_tellChangedType_88 (by decide) rfl (by omega) (by omega) (fun c185 => ?_) (fun c185 => ?_)
            · have c185e : (m_mk (mt_f x) (mt_f x).length = m_mk (mt_f y) (mt_f y).length) = True := eq_true c185
              refine jv_vret G hr dX1_tellChangedType_98 (Nat.le_of_ble_eq_true rfl) (Nat.le_of_ble_eq_true rfl) ?_
              have eL : ((((L ++ [(3, mt_n x, none, none)]) ++ [(4, mt_n x, none, none)]) ++ [(5, mt_n x, none, none)]) ++ [(6, mt_n x, none, none)]) = L ++ m_dT (mt_n x) x y := by
                unfold m_dT
                simp only [c1e, c97e, c145e, c161e, c177e, c185e, if_true, if_false, and_self, and_true, true_and, and_false, false_and, List.nil_append, List.append_nil, List.append_assoc, List.singleton_append, List.cons_append]
              rw [eL] at hd
              exact ⟨rfl, hF, hd⟩
            · have c185e : (m_mk (mt_f x) (mt_f x).length = m_mk (mt_f y) (mt_f y).length) = False := eq_false c185
              refine jv_aload_n (q := 92) G 0 dX1_tellChangedType_91 rfl rfl rfl ?_
              refine jv_bipush (q := 94) (v := nI 7) G dX1_tellChangedType_92 (by decide) rfl ?_
              refine jv_aload_n (q := 95) G 1 dX1_tellChangedType_94 rfl rfl rfl ?_
              refine jv_callV (q := 98) (As := [.int (nI 7), .ref a]) (rest := []) G Z ml_X1_141 (k_tellOfType hlt hd (by have h9 := hlen; (try simp only [c1e, c97e, c145e, c161e, c177e, c185e, if_true, if_false, reduceIte, and_self, and_true, true_and, and_false, false_and, not_true_eq_false] at h9); (try simp only [List.length_append, List.length_cons, List.length_nil]); (try split at h9); all_goals omega) (hF.1.t tlx).1 (ct_0 (sd_T lk hF.1 tlx hvx hox))) hd.1.1 dX1_tellChangedType_95 rfl (by decide) (by decide) (by decide) (by decide) (Nat.le_of_ble_eq_true rfl) rfl rfl (fun v187 h186 y188 => ?_) (fun _ _ hx => hx.elim)
              obtain ⟨rfl, hF2, hd2⟩ := y188
              show jv_V E 3 h186 0 0 (jv_Q E (fun y_ h' => y_ = none ∧ dF z h h' ∧ dS z h' s (L ++ m_dT (mt_n x) x y)) jv_no 0 0) 98 [(0, .ref (z 6 3)), (1, .ref a), (2, .ref c)] []
              have hF := hF.tr hF2
              have hd := hd2
              refine jv_vret G hr dX1_tellChangedType_98 (Nat.le_of_ble_eq_true rfl) (Nat.le_of_ble_eq_true rfl) ?_
              have eL : (((((L ++ [(3, mt_n x, none, none)]) ++ [(4, mt_n x, none, none)]) ++ [(5, mt_n x, none, none)]) ++ [(6, mt_n x, none, none)]) ++ [(7, mt_n x, none, none)]) = L ++ m_dT (mt_n x) x y := by
                unfold m_dT
                simp only [c1e, c97e, c145e, c161e, c177e, c185e, if_true, if_false, and_self, and_true, true_and, and_false, false_and, List.nil_append, List.append_nil, List.append_assoc, List.singleton_append, List.cons_append]
              rw [eL] at hd
              exact ⟨rfl, hF, hd⟩
