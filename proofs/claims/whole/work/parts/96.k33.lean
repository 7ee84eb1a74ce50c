set_option maxHeartbeats 4000000 in
set_option maxRecDepth 100000 in
theorem k_compare {lA : Launch} (hlt : lA.stackTraces = false) {D : jv_D} {base : Nat} {z : Nat → Nat → Nat} {T : Nat → Nat} {N : Nat → Nat → Nat} {h : jv_H} {a b : Nat} {A B : List mT} {UA UB : Nat → List Nat} (hA : cv_E z T N h a A) (hB : cv_E z T N h b B) (uA : cv_Us z T h a A UA) (uB : cv_Us z T h b B UB) (nA : ∀ u l, u < 16 → l < 16 → c_ha A UA (nI u) (nI l) = m_abv A u l) (nB : ∀ u l, u < 16 → l < 16 → c_ha B UB (nI u) (nI l) = m_abv B u l) (hkA : ∀ (i : Nat) t, A[i]? = some t → m_uk t) (hkB : ∀ (i : Nat) t, B[i]? = some t → m_uk t) (huA : m_uq A) (lk : cl_k z h) {f1 f2 : Int32} (hc1 : jv_I h (z 6 3) 1 = f1) (hc2 : jv_I h (z 6 3) 2 = f2) (hcv : f1 = nI a → f2 = nI b → dS z h (m_mvt A B 16) (m_df A B (m_mvt A B 16) 16)) : jv_Met lA D base yX1_compare (.code yX1_compare cX1_compare 5 none) 6 0 0 [.ref (z 6 3), .ref (z 0 a), .ref (z 0 b)] h (fun y_ h' => y_ = none ∧ cF (SK z) h h' ∧ jv_I h' (z 6 3) 1 = nI a ∧ jv_I h' (z 6 3) 2 = nI b ∧ dS z h' (m_mvt A B 16) (m_df A B (m_mvt A B 16) 16)) jv_no := by
  refine jv_ofV (lo := [(0, .ref (z 6 3)), (1, .ref (z 0 a)), (2, .ref (z 0 b))]) hlt (by decide) (Nat.le_of_ble_eq_true rfl) rfl (fun E hEl hEd hEz Z G hr ht hnm => ?_)
  subst hEl; subst hEd; subst hEz
  have nC8 : ¬ (z 6 3 = z 7 8) := fun q => by have s1 := ck_s8 lk; rw [← q, lk.1] at s1; cases s1
  have nC9 : ¬ (z 6 3 = z 7 9) := fun q => by have s1 := ck_s9 lk; rw [← q, lk.1] at s1; cases s1
  have n89 : ¬ (z 7 8 = z 7 9) := fun q => absurd (lk.2.2 8 9 (by decide) (by decide) (by decide) (by decide) q) (by decide)
  have nbC : ¬ (z 0 b = z 6 3) := fun q => by have s1 := hB.1.1; rw [q, lk.1] at s1; cases s1
  refine jv_aload_n (q := 1) G 0 dX1_compare_0 rfl rfl rfl ?_
  refine jv_getI (q := 4) G dX1_compare_1 fl_X1_9 rfl lk.1 hc1 rfl ?_
  refine jv_aload_n (q := 5) G 1 dX1_compare_4 rfl rfl rfl ?_
  refine jv_getI (q := 8) G dX1_compare_5 fl_X1_42 rfl hA.1.1 hA.1.2.2.2.2.2.1 rfl ?_
  refine jv_icmp_ne (q := 11) (tgt := 23) G dX1_compare_8 (by decide) rfl (fun c1 => ?_) (fun c1 => ?_)
  · refine jv_aload_n (q := 24) G 0 dX1_compare_23 rfl rfl rfl ?_
    refine jv_aload_n (q := 25) G 1 dX1_compare_24 rfl rfl rfl ?_
    refine jv_getI (q := 28) G dX1_compare_25 fl_X1_42 rfl hA.1.1 hA.1.2.2.2.2.2.1 rfl ?_
    refine jv_putI (q := 31) G dX1_compare_28 fl_X1_9 rfl lk.1 rfl ?_
    refine jv_aload_n (q := 32) G 0 dX1_compare_31 rfl rfl rfl ?_
    refine jv_aload_n (q := 33) G 2 dX1_compare_32 rfl rfl rfl ?_
    refine jv_getI (q := 36) G dX1_compare_33 fl_X1_42 rfl hB.1.1 ((jv_I_wI _ _ _ _ _ _).trans ((if_neg (fun q => nbC q.1)).trans hB.1.2.2.2.2.2.1)) rfl ?_
    refine jv_putI (q := 39) G dX1_compare_36 fl_X1_15 rfl lk.1 rfl ?_
    refine jv_aload_n (q := 40) G 0 dX1_compare_39 rfl rfl rfl ?_
    refine jv_iconst (q := 41) (v := nI 0) G dX1_compare_40 (by decide) rfl ?_
    refine jv_putI (q := 44) G dX1_compare_41 fl_X1_47 rfl lk.1 rfl ?_
    refine jv_aload_n (q := 45) G 0 dX1_compare_44 rfl rfl rfl ?_
    refine jv_getQ (q := 48) G dX1_compare_45 fl_X1_35 rfl lk.1 (ck_p lk 8 (by decide) (by decide)) rfl ?_
    refine jv_iconst (q := 49) (v := (-1)) G dX1_compare_48 (by decide) rfl ?_
    have hFp : cF (SK z) h (jv_wI (jv_wI (jv_wI h (z 6 3) 1 (nI a)) (z 6 3) 2 (nI b)) (z 6 3) 0 (nI 0)) := ((((cF.rf (S := (SK z))).wI (Or.inl (Or.inl rfl)) 1 (nI a)).wI (Or.inl (Or.inl rfl)) 2 (nI b)).wI (Or.inl (Or.inl rfl)) 0 (nI 0))
    have p0 : jv_I (jv_wI (jv_wI (jv_wI h (z 6 3) 1 (nI a)) (z 6 3) 2 (nI b)) (z 6 3) 0 (nI 0)) (z 6 3) 0 = nI 0 := by simp [jv_I_wI]
    have p1 : jv_I (jv_wI (jv_wI (jv_wI h (z 6 3) 1 (nI a)) (z 6 3) 2 (nI b)) (z 6 3) 0 (nI 0)) (z 6 3) 1 = nI a := by simp [jv_I_wI]
    have p2 : jv_I (jv_wI (jv_wI (jv_wI h (z 6 3) 1 (nI a)) (z 6 3) 2 (nI b)) (z 6 3) 0 (nI 0)) (z 6 3) 2 = nI b := by simp [jv_I_wI]
    refine jv_callS (q := 52) (As := [.ref (z 7 8), .int (-1)]) (rest := []) G Z ml_X1_50 (k_fillI (n := 2048) hlt (ck_s8 (ck_L hFp lk)) (by decide)) dX1_compare_49 rfl (by decide) (by decide) (by decide) (by decide) (Nat.le_of_ble_eq_true rfl) rfl rfl (fun v3 h2 y4 => ?_) (fun _ _ hx => hx.elim)
    obtain ⟨rfl, g1, g2, g3⟩ := y4
    show jv_V E 5 h2 0 0 (jv_Q E (fun y_ h' => y_ = none ∧ cF (SK z) h h' ∧ jv_I h' (z 6 3) 1 = nI a ∧ jv_I h' (z 6 3) 2 = nI b ∧ dS z h' (m_mvt A B 16) (m_df A B (m_mvt A B 16) 16)) jv_no 0 0) 52 [(0, .ref (z 6 3)), (1, .ref (z 0 a)), (2, .ref (z 0 b))] []
    have lk5 := ck_L g1 (ck_L hFp lk)
    refine jv_aload_n (q := 53) G 0 dX1_compare_52 rfl rfl rfl ?_
    refine jv_getQ (q := 56) G dX1_compare_53 fl_X1_38 rfl lk5.1 (ck_p lk5 9 (by decide) (by decide)) rfl ?_
    refine jv_lconst (q := 57) (v := 0) G dX1_compare_56 (by decide) rfl ?_
    refine jv_callS (q := 60) (As := [.ref (z 7 9), .long (0 : Int64)]) (rest := []) G Z ml_X1_56 (k_fillL (n := 32) hlt (ck_s9 lk5) (by decide)) dX1_compare_57 rfl (by decide) (by decide) (by decide) (by decide) (Nat.le_of_ble_eq_true rfl) rfl rfl (fun v6 h5 y7 => ?_) (fun _ _ hx => hx.elim)
    obtain ⟨rfl, g4, g5, g6⟩ := y7
    show jv_V E 5 h5 0 0 (jv_Q E (fun y_ h' => y_ = none ∧ cF (SK z) h h' ∧ jv_I h' (z 6 3) 1 = nI a ∧ jv_I h' (z 6 3) 2 = nI b ∧ dS z h' (m_mvt A B 16) (m_df A B (m_mvt A B 16) 16)) jv_no 0 0) 60 [(0, .ref (z 6 3)), (1, .ref (z 0 a)), (2, .ref (z 0 b))] []
    refine jv_iconst (q := 61) (v := nI 0) G dX1_compare_60 (by decide) rfl ?_
    refine jv_istore_n (q := 62) (lo' := [(3, .int (nI 0)), (0, .ref (z 6 3)), (1, .ref (z 0 a)), (2, .ref (z 0 b))]) G dX1_compare_61 rfl (by decide) rfl rfl ?_
    refine jv_lo [0, 1, 2, 3] (lo' := [(3, .int (nI 0)), (0, .ref (z 6 3)), (1, .ref (z 0 a)), (2, .ref (z 0 b))]) rfl ?_
    have hF6 := hFp.tr ((g1.mono (S' := SK z) (fun _ q => Or.inr (Or.inl q))).tr (g4.mono (S' := SK z) (fun _ q => Or.inr (Or.inr q))))
    have lk6 := ck_L hF6 lk; have hA6 := sk_E lk hF6 hA; have hB6 := sk_E lk hF6 hB; have uA6 := sk_U lk hF6 hA uA; have uB6 := sk_U lk hF6 hB uB
    have q0 := (g4.i nC9 0).trans ((g1.i nC8 0).trans p0)
    have q1 := (g4.i nC9 1).trans ((g1.i nC8 1).trans p1)
    have q2 := (g4.i nC9 2).trans ((g1.i nC8 2).trans p2)
    have ck6 : ck_m z _ (m_mvt A B 0) := ⟨fun K hK => (g4.i n89 K).trans (g3 K hK), fun r hr => ⟨0, g6 r hr, fun K _ => Nat.zero_testBit K⟩⟩
    have okA : ∀ t ∈ A, mt_ok t := fun t ht => by obtain ⟨i, hi⟩ := List.getElem?_of_mem ht; exact (hA.2.2.2.2.1 i t hi).2
    have okB : ∀ t ∈ B, mt_ok t := fun t ht => by obtain ⟨i, hi⟩ := List.getElem?_of_mem ht; exact (hB.2.2.2.2.1 i t hi).2
    refine k_cp1 hA6 hB6 uA6 uB6 nA nB hkA hkB huA lk6 hlt G Z hr (fun h7 f7 ck7 => ?_) 16 0 _ (by omega) cF.rf ck6
    have hF7 := hF6.tr (f7.mono (S' := SK z) (fun _ q => Or.inr q))
    have nCS : ¬ (z 6 3 = z 7 8 ∨ z 6 3 = z 7 9) := fun q => q.elim nC8 nC9
    have hd7 : dS z h7 (m_mvt A B 16) [] := ⟨ck_L hF7 lk, ck7, (fun i r hi => by rw [List.getElem?_nil] at hi; cases hi), (f7.i nCS 0).trans q0⟩
    exact k_cp2 (sk_E lk hF7 hA) (sk_E lk hF7 hB) hkA hkB hd7 (mvt_16 16) (df_230 okA okB hA.2.2.2.1 hB.2.2.2.1) (fun h8 f8 d8 => ⟨rfl, hF7.tr (f8.1.mono (fun _ q => Or.inl q)), (f8.2 1 (by decide)).trans ((f7.i nCS 1).trans q1), (f8.2 2 (by decide)).trans ((f7.i nCS 2).trans q2), d8⟩) hlt G Z hr 16 0 _ (by omega) dF.rf hd7
  · refine jv_aload_n (q := 12) G 0 dX1_compare_11 rfl rfl rfl ?_
    refine jv_getI (q := 15) G dX1_compare_12 fl_X1_15 rfl lk.1 hc2 rfl ?_
    refine jv_aload_n (q := 16) G 2 dX1_compare_15 rfl rfl rfl ?_
    refine jv_getI (q := 19) G dX1_compare_16 fl_X1_42 rfl hB.1.1 hB.1.2.2.2.2.2.1 rfl ?_
    refine jv_icmp_ne (q := 22) (tgt := 23) G dX1_compare_19 (by decide) rfl (fun c8 => ?_) (fun c8 => ?_)
    · refine jv_aload_n (q := 24) G 0 dX1_compare_23 rfl rfl rfl ?_
      refine jv_aload_n (q := 25) G 1 dX1_compare_24 rfl rfl rfl ?_
      refine jv_getI (q := 28) G dX1_compare_25 fl_X1_42 rfl hA.1.1 hA.1.2.2.2.2.2.1 rfl ?_
      refine jv_putI (q := 31) G dX1_compare_28 fl_X1_9 rfl lk.1 rfl ?_
      refine jv_aload_n (q := 32) G 0 dX1_compare_31 rfl rfl rfl ?_
      refine jv_aload_n (q := 33) G 2 dX1_compare_32 rfl rfl rfl ?_
      refine jv_getI (q := 36) G dX1_compare_33 fl_X1_42 rfl hB.1.1 ((jv_I_wI _ _ _ _ _ _).trans ((if_neg (fun q => nbC q.1)).trans hB.1.2.2.2.2.2.1)) rfl ?_
      refine jv_putI (q := 39) G dX1_compare_36 fl_X1_15 rfl lk.1 rfl ?_
      refine jv_aload_n (q := 40) G 0 dX1_compare_39 rfl rfl rfl ?_
      refine jv_iconst (q := 41) (v := nI 0) G dX1_compare_40 (by decide) rfl ?_
      refine jv_putI (q := 44) G dX1_compare_41 fl_X1_47 rfl lk.1 rfl ?_
      refine jv_aload_n (q := 45) G 0 dX1_compare_44 rfl rfl rfl ?_
      refine jv_getQ (q := 48) G dX1_compare_45 fl_X1_35 rfl lk.1 (ck_p lk 8 (by decide) (by decide)) rfl ?_
      refine jv_iconst (q := 49) (v := (-1)) G dX1_compare_48 (by decide) rfl ?_
      have hFp : cF (SK z) h (jv_wI (jv_wI (jv_wI h (z 6 3) 1 (nI a)) (z 6 3) 2 (nI b)) (z 6 3) 0 (nI 0)) := ((((cF.rf (S := (SK z))).wI (Or.inl (Or.inl rfl)) 1 (nI a)).wI (Or.inl (Or.inl rfl)) 2 (nI b)).wI (Or.inl (Or.inl rfl)) 0 (nI 0))
      have p0 : jv_I (jv_wI (jv_wI (jv_wI h (z 6 3) 1 (nI a)) (z 6 3) 2 (nI b)) (z 6 3) 0 (nI 0)) (z 6 3) 0 = nI 0 := by simp [jv_I_wI]
      have p1 : jv_I (jv_wI (jv_wI (jv_wI h (z 6 3) 1 (nI a)) (z 6 3) 2 (nI b)) (z 6 3) 0 (nI 0)) (z 6 3) 1 = nI a := by simp [jv_I_wI]
      have p2 : jv_I (jv_wI (jv_wI (jv_wI h (z 6 3) 1 (nI a)) (z 6 3) 2 (nI b)) (z 6 3) 0 (nI 0)) (z 6 3) 2 = nI b := by simp [jv_I_wI]
      refine jv_callS (q := 52) (As := [.ref (z 7 8), .int (-1)]) (rest := []) G Z ml_X1_50 (k_fillI (n := 2048) hlt (ck_s8 (ck_L hFp lk)) (by decide)) dX1_compare_49 rfl (by decide) (by decide) (by decide) (by decide) (Nat.le_of_ble_eq_true rfl) rfl rfl (fun v10 h9 y11 => ?_) (fun _ _ hx => hx.elim)
      obtain ⟨rfl, g1, g2, g3⟩ := y11
      show jv_V E 5 h9 0 0 (jv_Q E (fun y_ h' => y_ = none ∧ cF (SK z) h h' ∧ jv_I h' (z 6 3) 1 = nI a ∧ jv_I h' (z 6 3) 2 = nI b ∧ dS z h' (m_mvt A B 16) (m_df A B (m_mvt A B 16) 16)) jv_no 0 0) 52 [(0, .ref (z 6 3)), (1, .ref (z 0 a)), (2, .ref (z 0 b))] []
      have lk5 := ck_L g1 (ck_L hFp lk)
      refine jv_aload_n (q := 53) G 0 dX1_compare_52 rfl rfl rfl ?_
      refine jv_getQ (q := 56) G dX1_compare_53 fl_X1_38 rfl lk5.1 (ck_p lk5 9 (by decide) (by decide)) rfl ?_
      refine jv_lconst (q := 57) (v := 0) G dX1_compare_56 (by decide) rfl ?_
      refine jv_callS (q := 60) (As := [.ref (z 7 9), .long (0 : Int64)]) (rest := []) G Z ml_X1_56 (k_fillL (n := 32) hlt (ck_s9 lk5) (by decide)) dX1_compare_57 rfl (by decide) (by decide) (by decide) (by decide) (Nat.le_of_ble_eq_true rfl) rfl rfl (fun v13 h12 y14 => ?_) (fun _ _ hx => hx.elim)
      obtain ⟨rfl, g4, g5, g6⟩ := y14
      show jv_V E 5 h12 0 0 (jv_Q E (fun y_ h' => y_ = none ∧ cF (SK z) h h' ∧ jv_I h' (z 6 3) 1 = nI a ∧ jv_I h' (z 6 3) 2 = nI b ∧ dS z h' (m_mvt A B 16) (m_df A B (m_mvt A B 16) 16)) jv_no 0 0) 60 [(0, .ref (z 6 3)), (1, .ref (z 0 a)), (2, .ref (z 0 b))] []
      refine jv_iconst (q := 61) (v := nI 0) G dX1_compare_60 (by decide) rfl ?_
      refine jv_istore_n (q := 62) (lo' := [(3, .int (nI 0)), (0, .ref (z 6 3)), (1, .ref (z 0 a)), (2, .ref (z 0 b))]) G dX1_compare_61 rfl (by decide) rfl rfl ?_
      refine jv_lo [0, 1, 2, 3] (lo' := [(3, .int (nI 0)), (0, .ref (z 6 3)), (1, .ref (z 0 a)), (2, .ref (z 0 b))]) rfl ?_
      have hF6 := hFp.tr ((g1.mono (S' := SK z) (fun _ q => Or.inr (Or.inl q))).tr (g4.mono (S' := SK z) (fun _ q => Or.inr (Or.inr q))))
      have lk6 := ck_L hF6 lk; have hA6 := sk_E lk hF6 hA; have hB6 := sk_E lk hF6 hB; have uA6 := sk_U lk hF6 hA uA; have uB6 := sk_U lk hF6 hB uB
      have q0 := (g4.i nC9 0).trans ((g1.i nC8 0).trans p0)
      have q1 := (g4.i nC9 1).trans ((g1.i nC8 1).trans p1)
      have q2 := (g4.i nC9 2).trans ((g1.i nC8 2).trans p2)
      have ck6 : ck_m z _ (m_mvt A B 0) := ⟨fun K hK => (g4.i n89 K).trans (g3 K hK), fun r hr => ⟨0, g6 r hr, fun K _ => Nat.zero_testBit K⟩⟩
      have okA : ∀ t ∈ A, mt_ok t := fun t ht => by obtain ⟨i, hi⟩ := List.getElem?_of_mem ht; exact (hA.2.2.2.2.1 i t hi).2
      have okB : ∀ t ∈ B, mt_ok t := fun t ht => by obtain ⟨i, hi⟩ := List.getElem?_of_mem ht; exact (hB.2.2.2.2.1 i t hi).2
      refine k_cp1 hA6 hB6 uA6 uB6 nA nB hkA hkB huA lk6 hlt G Z hr (fun h7 f7 ck7 => ?_) 16 0 _ (by omega) cF.rf ck6
      have hF7 := hF6.tr (f7.mono (S' := SK z) (fun _ q => Or.inr q))
      have nCS : ¬ (z 6 3 = z 7 8 ∨ z 6 3 = z 7 9) := fun q => q.elim nC8 nC9
      have hd7 : dS z h7 (m_mvt A B 16) [] := ⟨ck_L hF7 lk, ck7, (fun i r hi => by rw [List.getElem?_nil] at hi; cases hi), (f7.i nCS 0).trans q0⟩
      exact k_cp2 (sk_E lk hF7 hA) (sk_E lk hF7 hB) hkA hkB hd7 (mvt_16 16) (df_230 okA okB hA.2.2.2.1 hB.2.2.2.1) (fun h8 f8 d8 => ⟨rfl, hF7.tr (f8.1.mono (fun _ q => Or.inl q)), (f8.2 1 (by decide)).trans ((f7.i nCS 1).trans q1), (f8.2 2 (by decide)).trans ((f7.i nCS 2).trans q2), d8⟩) hlt G Z hr 16 0 _ (by omega) dF.rf hd7
    · refine jv_vret G hr dX1_compare_22 (Nat.le_of_ble_eq_true rfl) (Nat.le_of_ble_eq_true rfl) ?_
      exact ⟨rfl, cF.rf, hc1.trans c1, hc2.trans c8, hcv c1 c8⟩
