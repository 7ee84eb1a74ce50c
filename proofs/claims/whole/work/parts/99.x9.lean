section US
variable {z : Nat → Nat → Nat} {T : Nat → Nat} {N N' : Nat → Nat → Nat} {tO : Nat → Nat} {h h1 : jv_H} {M : mA}
theorem us_e {c kd t n s r : Int32} (h : m_ix1 M.2.length c = none) : m_us M c kd t n s r = (1, 0, M) := by unfold m_us; rw [h]
theorem us_k {c kd t n s r : Int32} {k : Nat} {C : mC} (h : m_ix1 M.2.length c = some k) (hC : M.2[k]? = some C) (hk : rr_lt kd 6 = false) : m_us M c kd t n s r = (2, 0, M) := by
  unfold m_us
  rw [h]
  dsimp only
  rw [hC]
  dsimp only
  rw [rr_in0 (by decide), hk]; rfl
theorem us_f {c kd t n s r : Int32} {k : Nat} {C : mC} (h : m_ix1 M.2.length c = some k) (hC : M.2[k]? = some C) (hk : rr_lt kd 6 = true) (hl : (mc_l C).length = 20) : m_us M c kd t n s r = (3, 0, M) := by
  unfold m_us
  rw [h]
  dsimp only
  rw [hC]
  dsimp only
  rw [rr_in0 (by decide), hk, if_pos rfl, if_pos hl]
theorem us_n {c t n s r : Int32} {k kd : Nat} {C : mC} (h : m_ix1 M.2.length c = some k) (hC : M.2[k]? = some C) (hk : rr_lt (nI kd) 6 = true) (hkd : kd < 6) (hl : ¬ (mc_l C).length = 20) (hm : ¬ (m_mu M C (mc_e C) (kd, t, n, s, r)).1 = 0) : m_us M c (nI kd) t n s r = (0, -1, M) := by
  unfold m_us
  rw [h]
  dsimp only
  rw [hC]
  dsimp only
  rw [rr_in0 (by decide), hk, if_pos rfl, if_neg hl, nI_clamp (by omega), if_neg hm]
theorem us_y {c t n s r : Int32} {k kd : Nat} {C : mC} (h : m_ix1 M.2.length c = some k) (hC : M.2[k]? = some C) (hk : rr_lt (nI kd) 6 = true) (hkd : kd < 6) (hl : ¬ (mc_l C).length = 20) (hm : (m_mu M C (mc_e C) (kd, t, n, s, r)).1 = 0) : m_us M c (nI kd) t n s r = (0, nI (mc_l C).length, M.1, M.2.set k (mc_add C (kd, t, n, s, r))) := by
  unfold m_us
  rw [h]
  dsimp only
  rw [hC]
  dsimp only
  rw [rr_in0 (by decide), hk, if_pos rfl, if_neg hl, nI_clamp (by omega), if_pos hm]
theorem f5_us (hR : cl_R z T N tO h M) {k j : Nat} (hk : k < 12) (hj : j < 20) (f : cF (fun b => b = z 5 (20 * k + j)) h h1) : sF us h h1 := f.G.sF (fun b s hs q => by
  rw [q, hR.2.2.2.2.2.2.2.2.2.1 _ (by omega)] at hs; cases hs; rfl)
theorem us_es : ∀ s, es s = true → us s = false := fun s q => by
  unfold es at q
  unfold us
  split at q
  · simp at q
    rcases q with (q | q) | q <;> subst q <;> rfl
  · rfl
  · rfl
  · cases q
/-- the use that is only tried -/
theorem cl_R.usN (hR : cl_R z T N tO h M) {k : Nat} {C : mC} (hC : M.2[k]? = some C) (hl : (mc_l C).length < 20) (f : cF (fun b => b = z 5 (20 * k + (mc_l C).length)) h h1) : cl_R z T N tO h1 M ∧ sF cs h h1 := by
  have hk : k < 12 := by have := jv_ltGet hC; have := hR.1.2.1.2.2.2; omega
  have s5 := hR.2.2.2.2.2.2.2.2.2.1
  have n6 : z 6 0 ≠ z 5 (20 * k + (mc_l C).length) := sh_no hR.1.1.1 (s5 _ (by omega)) (by intro q; cases q)
  refine hR.cal (M2 := M.2) hk (f.mono (fun b q => Or.inr (Or.inr ⟨_, hl, q⟩))) (f.i n6 1) ((f.i n6 3).trans hR.1.2.1.2.2.1) hR.1.2.1.2.2.2 (fun _ _ => rfl) (fun C' hC' => ?_)
  rw [hC] at hC'
  cases hC'
  obtain ⟨⟨⟨c1, c2, c3, c4⟩, c5, c6⟩, ok⟩ := hR.2.1.2 k C hC
  have n3 : z 3 k ≠ z 5 (20 * k + (mc_l C).length) := sh_no c1 (s5 _ (by omega)) (by intro q; cases q)
  refine ⟨⟨⟨(congrFun f.1 _).trans c1, (f.i n3 0).trans c2, (f.i n3 1).trans c3, (f.i n3 2).trans c4⟩, (f.i n3 4).trans c5, fun j U hU => ?_⟩, ok⟩
  obtain ⟨⟨u1, u2, u3, u4, u5, u6, u7⟩, u8⟩ := c6 j U hU
  have hj := jv_ltGet hU
  have n5 : z 5 (20 * k + j) ≠ z 5 (20 * k + (mc_l C).length) := fun y => by
    have := hR.2.2.2.2.2.2.2.2.1 _ _ (by omega) (by omega) y; omega
  exact ⟨⟨(congrFun f.1 _).trans u1, (f.i n5 0).trans u2, (f.i n5 1).trans u3, (f.i n5 2).trans u4, (f.i n5 3).trans u5, (f.i n5 4).trans u6, (f.i n5 5).trans u7⟩, u8⟩
/-- the use that is kept -/
theorem cl_R.usY (hR : cl_R z T N tO h M) {k : Nat} {C : mC} {U : mU} (hC : M.2[k]? = some C) (hl : (mc_l C).length < 20) (hU : mu_k U < 6) (f : cF (fun b => b = z 5 (20 * k + (mc_l C).length)) h h1) (hu : cv_us h1 (z 5 (20 * k + (mc_l C).length)) (c_U M C U)) {v : Int32} (ev : v = nI ((mc_l C).length + 1)) : cl_R z T N tO (jv_wI h1 (z 3 k) 4 v) (M.1, M.2.set k (mc_add C U)) ∧ sF cs h (jv_wI h1 (z 3 k) 4 v) := by
  subst ev
  have hkl := jv_ltGet hC
  have hk : k < 12 := by have := hR.1.2.1.2.2.2; omega
  have s5 := hR.2.2.2.2.2.2.2.2.2.1
  have n6 : z 6 0 ≠ z 5 (20 * k + (mc_l C).length) := sh_no hR.1.1.1 (s5 _ (by omega)) (by intro q; cases q)
  have n63 : z 6 0 ≠ z 3 k := sh_no hR.1.1.1 (hR.2.1.1 k hk).1 (by intro q; cases q)
  have n3 : z 3 k ≠ z 5 (20 * k + (mc_l C).length) := sh_no (hR.2.1.1 k hk).1 (s5 _ (by omega)) (by intro q; cases q)
  refine hR.cal (k := k) hk ((cF.mono (S' := caS z k) f (fun b q => Or.inr (Or.inr ⟨_, hl, q⟩))).wI (b := z 3 k) (Or.inr (Or.inl rfl)) 4 _) ((wI_ne n63).trans (f.i n6 1)) ((wI_ne n63).trans ((f.i n6 3).trans ?_)) (by rw [List.length_set]; exact hR.1.2.1.2.2.2) (fun c hc => List.getElem?_set_ne (Ne.symm hc)) (fun C' hC' => ?_)
  · rw [List.length_set]; exact hR.1.2.1.2.2.1
  · rw [List.getElem?_set_self hkl] at hC'
    cases hC'
    obtain ⟨⟨⟨c1, c2, c3, c4⟩, c5, c6⟩, ok⟩ := hR.2.1.2 k C hC
    have w3 : ∀ j, j ≠ 4 → jv_I (jv_wI h1 (z 3 k) 4 (nI ((mc_l C).length + 1))) (z 3 k) j = jv_I h (z 3 k) j := fun j q => (oI_o ..).trans ((if_neg q).trans (f.i n3 j))
    have el : (mc_l (mc_add C U)).length = (mc_l C).length + 1 := by show (mc_l C ++ [U]).length = _; rw [List.length_append, List.length_singleton]
    refine ⟨⟨⟨(congrFun f.1 _).trans c1, (w3 0 (by decide)).trans c2, (w3 1 (by decide)).trans c3, (w3 2 (by decide)).trans c4⟩, by rw [el]; exact jv_I_self _ _ _ _, fun j V hV => ?_⟩, ok.1, ok.2.1, ok.2.2.1, ok.2.2.2.1, by rw [el]; omega, fun u hu => ?_⟩
    · have hV : (mc_l C ++ [U])[j]? = some V := hV
      have hj := jv_ltGet hV
      rw [List.length_append, List.length_singleton] at hj
      have w5 : ∀ i, jv_I (jv_wI h1 (z 3 k) 4 (nI ((mc_l C).length + 1))) (z 5 (20 * k + j)) i = jv_I h1 (z 5 (20 * k + j)) i := fun i => wI_ne (sh_no (s5 _ (by omega)) c1 (by intro q; cases q))
      by_cases q : j = (mc_l C).length
      · rw [q, List.getElem?_append_right (Nat.le_refl _), Nat.sub_self] at hV
        cases hV
        rw [← q] at hu
        obtain ⟨⟨u1, u2, u3, u4, u5, u6, u7⟩, u8⟩ := hu
        exact ⟨⟨u1, (w5 0).trans u2, (w5 1).trans u3, (w5 2).trans u4, (w5 3).trans u5, (w5 4).trans u6, (w5 5).trans u7⟩, u8⟩
      · rw [List.getElem?_append_left (by omega)] at hV
        obtain ⟨⟨u1, u2, u3, u4, u5, u6, u7⟩, u8⟩ := c6 j V hV
        have n5 : z 5 (20 * k + j) ≠ z 5 (20 * k + (mc_l C).length) := fun y => by
          have := hR.2.2.2.2.2.2.2.2.1 _ _ (by omega) (by omega) y; omega
        exact ⟨⟨(congrFun f.1 _).trans u1, (w5 0).trans ((f.i n5 0).trans u2), (w5 1).trans ((f.i n5 1).trans u3), (w5 2).trans ((f.i n5 2).trans u4), (w5 3).trans ((f.i n5 3).trans u5), (w5 4).trans ((f.i n5 4).trans u6), (w5 5).trans ((f.i n5 5).trans u7)⟩, u8⟩
    · have hu : u ∈ mc_l C ++ [U] := hu
      rcases List.mem_append.mp hu with q | q
      · exact ok.2.2.2.2.2 u q
      · rw [List.mem_singleton.mp q]; exact hU
end US
set_option maxHeartbeats 4000000 in
set_option maxRecDepth 100000 in
theorem k_use {lA : Launch} (hlt : lA.stackTraces = false) {D : jv_D} {base : Nat} {z : Nat → Nat → Nat} {T : Nat → Nat} {N : Nat → Nat → Nat} {tO : Nat → Nat} {h : jv_H} {M : mA} (hR : cl_R z T N tO h M) {p0 : Int32} {p1 : Int32} {p2 : Int32} {p3 : Int32} {p4 : Int32} {p5 : Int32} : jv_Met lA D base yX7_use (.code yX7_use cX7_use 9 (some .int)) 7 2 12 [.ref (z 6 0), .int p0, .int p1, .int p2, .int p3, .int p4, .int p5] h (pC z tO h (m_us M p0 p1 p2 p3 p4 p5)) (pX z tO h ["java/lang/IndexOutOfBoundsException", "java/lang/IllegalArgumentException", "java/lang/UnsupportedOperationException"] (m_us M p0 p1 p2 p3 p4 p5)) := by
  refine jv_ofV (lo := [(0, .ref (z 6 0)), (1, .int p0), (2, .int p1), (3, .int p2), (4, .int p3), (5, .int p4), (6, .int p5)]) hlt (by decide) (Nat.le_of_ble_eq_true rfl) rfl (fun E hEl hEd hEz Z G hr ht hnm => ?_)
  subst hEl; subst hEd; subst hEz
  have hl8 := hR.1.2.1.2.1; have hl12 := hR.1.2.1.2.2.2
  refine jv_aload_n (q := 1) G 0 dX7_use_0 rfl rfl rfl ?_
  refine jv_iload_n (q := 2) G 1 dX7_use_1 rfl rfl rfl ?_
  refine jv_callV (q := 5) (As := [.int p0]) (rest := []) G Z ml_X7_190 (k_callerAt hlt hR) hR.1.1.1 dX7_use_2 rfl (by decide) (by decide) (by decide) (by decide) (Nat.le_of_ble_eq_true rfl) rfl rfl (fun v2 h1 y3 => ?_) (fun cx hx yx => jv_out G ht (Nat.le_of_ble_eq_true rfl) (Nat.le_of_ble_eq_true rfl) (by obtain ⟨y1, y2, rfl⟩ := yx; exact pX_o (o' := (1, 0, M)) (us_e y1) ⟨(show ¬ (1 : Nat) = 0 by decide), y2, ⟨_, _, hR⟩, .rf⟩))
  obtain ⟨u0, hu0, rfl, zu0, rfl, rfl⟩ := y3
  show jv_V E 9 h (0 + 1) (0 + 6) (jv_Q E (pC z tO h (m_us M (nI u0) p1 p2 p3 p4 p5)) (pX z tO h ["java/lang/IndexOutOfBoundsException", "java/lang/IllegalArgumentException", "java/lang/UnsupportedOperationException"] (m_us M (nI u0) p1 p2 p3 p4 p5)) 2 12) 5 [(0, .ref (z 6 0)), (1, .int (nI u0)), (2, .int p1), (3, .int p2), (4, .int p3), (5, .int p4), (6, .int p5)] [.ref (z 3 u0)]
  have q8u0 : u0 < 12 := by omega
  obtain ⟨C, hC⟩ := jv_getLt (l := M.2) hu0
  obtain ⟨⟨ca1, ca2, ca3⟩, cok⟩ := hR.2.1.2 u0 C hC
  have lc := hR.2.1.1 u0 q8u0
  have l20 := cok.2.2.2.2.1; have ce8 : mc_e C < 8 := by have := cok.1; omega
  have soC := (hR.1.2.2.2 (mc_e C) ce8).2.2 cok.2.1
  refine jv_astore (q := 7) (lo' := [(7, .ref (z 3 u0)), (0, .ref (z 6 0)), (1, .int (nI u0)), (2, .int p1), (3, .int p2), (4, .int p3), (5, .int p4), (6, .int p5)]) G dX7_use_5 (by decide) rfl rfl ?_
  refine jv_iload_n (q := 8) G 3 dX7_use_7 rfl rfl rfl ?_
  refine jv_bipush (q := 10) (v := nI 6) G dX7_use_8 (by decide) rfl ?_
  refine jv_callS_I (q := 13) (h1 := h) (As := [.int p1, .int (nI 6)]) (rest := []) (ce' := 0 + 1) (sl' := 0 + 6) (r := jv_bI (rr_lt p1 6)) G Z ml_X7_66 (k_isBelow hlt) dX7_use_10 rfl (by decide) (by decide) (by decide) (by decide) (Nat.le_of_ble_eq_true rfl) rfl rfl rfl rfl ?_
  refine jv_if_neB (q := 16) (tgt := 26) G dX7_use_13 (by decide) rfl (fun c4 => ?_) (fun c4 => ?_)
  · obtain ⟨n1, hn1, en1, zn1⟩ := rr_lt_t (by decide) c4
    subst en1
    refine jv_aload (q := 28) G 0 dX7_use_26 rfl rfl ?_
    refine jv_getI (q := 31) G dX7_use_28 fl_X7_196 rfl lc.1 ca2 rfl ?_
    refine jv_bipush (q := 33) (v := nI 20) G dX7_use_31 (by decide) rfl ?_
    refine jv_icmp_ltN (q := 36) (tgt := 46) G dX7_use_33 (by decide) rfl (by omega) (by omega) (fun c5 => ?_) (fun c5 => ?_)
    · refine jv_aload (q := 48) G 0 dX7_use_46 rfl rfl ?_
      refine jv_getQ (q := 51) G dX7_use_48 fl_X7_201 rfl lc.1 lc.2.1 rfl ?_
      refine jv_aload (q := 53) G 0 dX7_use_51 rfl rfl ?_
      refine jv_getI (q := 56) G dX7_use_53 fl_X7_196 rfl lc.1 ca2 rfl ?_
      refine jv_aaldQ (q := 57) G dX7_use_56 lc.2.2.1 rfl (by omega) (by decide) (lc.2.2.2 _ (by omega)) rfl ?_
      refine jv_astore (q := 59) (lo' := [(8, .ref (z 5 (20 * u0 + (mc_l C).length))), (7, .ref (z 3 u0)), (0, .ref (z 6 0)), (1, .int (nI u0)), (2, .int (nI n1)), (3, .int p2), (4, .int p3), (5, .int p4), (6, .int p5)]) G dX7_use_57 (by decide) rfl rfl ?_
      refine jv_aload (q := 61) G 0 dX7_use_59 rfl rfl ?_
      refine jv_iload_n (q := 62) G 4 dX7_use_61 rfl rfl rfl ?_
      refine jv_iload_n (q := 63) G 5 dX7_use_62 rfl rfl rfl ?_
      refine jv_iload (q := 65) G 6 dX7_use_63 rfl rfl ?_
      refine jv_iload (q := 67) G 7 dX7_use_65 rfl rfl ?_
      refine jv_callS_I (q := 70) (h1 := h) (As := [.int p3, .int p4]) (rest := [.int p2, .int (nI n1), .ref (z 5 (20 * u0 + (mc_l C).length))]) (ce' := 0 + 1) (sl' := 0 + 6) (r := jv_oN (ky p3 p4)) G Z ml_X7_116 (k_keyOf hlt) dX7_use_67 rfl (by decide) (by decide) (by decide) (by decide) (Nat.le_of_ble_eq_true rfl) rfl rfl rfl rfl ?_
      refine jv_iload (q := 72) G 8 dX7_use_70 rfl rfl ?_
      have n35 : z 3 u0 ≠ z 5 (20 * u0 + (mc_l C).length) := sh_no lc.1 (hR.2.2.2.2.2.2.2.2.2.1 _ (by omega)) (by intro q; cases q)
      have hEc := (hR.1.2.2.1 (mc_e C) ce8).1
      have hUc := (hR.1.2.2.1 (mc_e C) ce8).2.2.2 cok.2.1
      refine jv_callV (q := 75) (As := [.int (nI n1), .int p2, .int (jv_oN (ky p3 p4)), .int p5]) (rest := []) G Z ml_X7_205 (k_uBegin (kd := n1) (ty := p2) (rc := p5) (ko := ky p3 p4) hlt (hR.2.2.2.2.2.2.2.2.2.1 (20 * u0 + (mc_l C).length) (by omega))) (hR.2.2.2.2.2.2.2.2.2.1 (20 * u0 + (mc_l C).length) (by omega)) dX7_use_72 rfl (by decide) (by decide) (by decide) (by decide) (Nat.le_of_ble_eq_true rfl) rfl rfl (fun v7 h6 y8 => ?_) (fun _ _ hx => hx.elim)
      obtain ⟨rfl, hF1, hV1⟩ := y8
      show jv_V E 9 h6 (0 + 1) (0 + 6) (jv_Q E (pC z tO h (m_us M (nI u0) (nI n1) p2 p3 p4 p5)) (pX z tO h ["java/lang/IndexOutOfBoundsException", "java/lang/IllegalArgumentException", "java/lang/UnsupportedOperationException"] (m_us M (nI u0) (nI n1) p2 p3 p4 p5)) 2 12) 75 [(8, .ref (z 5 (20 * u0 + (mc_l C).length))), (7, .ref (z 3 u0)), (0, .ref (z 6 0)), (1, .int (nI u0)), (2, .int (nI n1)), (3, .int p2), (4, .int p3), (5, .int p4), (6, .int p5)] []
      have g1 := f5_us hR q8u0 (by omega) hF1
      refine jv_aload (q := 77) G 0 dX7_use_75 rfl rfl ?_
      refine jv_aload_n (q := 78) G 2 dX7_use_77 rfl rfl rfl ?_
      refine jv_getQ (q := 81) G dX7_use_78 fl_X7_11 rfl ((congrFun hF1.1 _).trans hR.1.1.1) ((hF1.p _ _).trans hR.1.1.2.1) rfl ?_
      refine jv_aload (q := 83) G 1 dX7_use_81 rfl rfl ?_
      refine jv_getI (q := 86) G dX7_use_83 fl_X7_210 rfl ((congrFun hF1.1 _).trans lc.1) ((hF1.i n35 0).trans ca1.2.1) rfl ?_
      refine jv_aaldQ (q := 87) G dX7_use_86 ((congrFun hF1.1 _).trans hR.1.1.2.2.1) rfl (by omega) (by decide) ((hF1.p _ _).trans (hR.1.1.2.2.2.2.2.2.2.2.2.1 (mc_e C) ce8)) rfl ?_
      refine jv_callV (q := 90) (As := [.ref (z 0 (mc_e C))]) (rest := []) G Z ml_X7_213 (k_rememberOwn hlt (g1.E us_es hEc) (g1.U us_es hEc hUc) hV1 hn1 (ky_64 p3 p4) rfl rfl) ((congrFun hF1.1 _).trans (hR.2.2.2.2.2.2.2.2.2.1 (20 * u0 + (mc_l C).length) (by omega))) dX7_use_87 rfl (by decide) (by decide) (by decide) (by decide) (Nat.le_of_ble_eq_true rfl) rfl rfl (fun v10 h9 y11 => ?_) (fun _ _ hx => hx.elim)
      obtain ⟨rfl, hF2, hV2⟩ := y11
      show jv_V E 9 h9 (0 + 1) (0 + 6) (jv_Q E (pC z tO h (m_us M (nI u0) (nI n1) p2 p3 p4 p5)) (pX z tO h ["java/lang/IndexOutOfBoundsException", "java/lang/IllegalArgumentException", "java/lang/UnsupportedOperationException"] (m_us M (nI u0) (nI n1) p2 p3 p4 p5)) 2 12) 90 [(8, .ref (z 5 (20 * u0 + (mc_l C).length))), (7, .ref (z 3 u0)), (0, .ref (z 6 0)), (1, .int (nI u0)), (2, .int (nI n1)), (3, .int p2), (4, .int p3), (5, .int p4), (6, .int p5)] []
      have f2 := hF1.tr hF2
      have g2 := f5_us hR q8u0 (by omega) f2
      refine jv_aload (q := 92) G 1 dX7_use_90 rfl rfl ?_
      refine jv_aload (q := 94) G 0 dX7_use_92 rfl rfl ?_
      refine jv_aload_n (q := 95) G 2 dX7_use_94 rfl rfl rfl ?_
      refine jv_getQ (q := 98) G dX7_use_95 fl_X7_11 rfl ((congrFun f2.1 _).trans hR.1.1.1) ((f2.p _ _).trans hR.1.1.2.1) rfl ?_
      refine jv_aload (q := 100) G 1 dX7_use_98 rfl rfl ?_
      refine jv_getI (q := 103) G dX7_use_100 fl_X7_210 rfl ((congrFun f2.1 _).trans lc.1) ((f2.i n35 0).trans ca1.2.1) rfl ?_
      refine jv_aaldQ (q := 104) G dX7_use_103 ((congrFun f2.1 _).trans hR.1.1.2.2.1) rfl (by omega) (by decide) ((f2.p _ _).trans (hR.1.1.2.2.2.2.2.2.2.2.2.1 (mc_e C) ce8)) rfl ?_
      have mu1 := (mu_eq (U := (n1, p2, p3, p4, p5)) soC soC cok.2.2.2.1 hn1).1
      have hb : c_mx (decide (mc_e C = mc_e C)) (ma_t M (mc_e C)) (m_Us (ma_t M (mc_e C))) (mc_p C) (mc_u C) (c_U M C (n1, p2, p3, p4, p5)) < 10 := me_lt _ _ _ _ _ _ _ _ _ _ _
      have cav : cv_ca h9 (z 3 u0) (mc_e C) (mc_p C) (mc_u C) := ⟨(congrFun f2.1 _).trans ca1.1, (f2.i n35 0).trans ca1.2.1, (f2.i n35 1).trans ca1.2.2.1, (f2.i n35 2).trans ca1.2.2.2⟩
      refine jv_callV_I (q := 107) (h1 := h9) (As := [.ref (z 5 (20 * u0 + (mc_l C).length)), .ref (z 0 (mc_e C))]) (rest := []) (ce' := 0 + 1) (sl' := 0 + 6) (r := nI (c_mx (decide (mc_e C = mc_e C)) (ma_t M (mc_e C)) (m_Us (ma_t M (mc_e C))) (mc_p C) (mc_u C) (c_U M C (n1, p2, p3, p4, p5)))) G Z ml_X7_216 (k_meeting hlt (g2.E us_es hEc) (g2.U us_es hEc hUc) hV2 hn1 (ky_64 p3 p4) cav cok.2.2.1 ce8 ce8) ((congrFun f2.1 _).trans lc.1) dX7_use_104 rfl (by decide) (by decide) (by decide) (by decide) (Nat.le_of_ble_eq_true rfl) rfl rfl rfl rfl ?_
      refine jv_if_eqN (q := 110) (tgt := 112) G dX7_use_107 (by decide) rfl (by omega) (fun c12 => ?_) (fun c12 => ?_)
      · refine jv_aload (q := 114) G 1 dX7_use_112 rfl rfl ?_
        refine jv_dup (q := 115) G dX7_use_114 rfl rfl ?_
        refine jv_getI (q := 118) G dX7_use_115 fl_X7_196 rfl ((congrFun f2.1 _).trans lc.1) ((f2.i n35 4).trans ca2) rfl ?_
        refine jv_iconst (q := 119) (v := nI 1) G dX7_use_118 (by decide) rfl ?_
        refine jv_iaddN (q := 120) G dX7_use_119 rfl ?_
        refine jv_putI (q := 123) G dX7_use_120 fl_X7_196 rfl ((congrFun f2.1 _).trans lc.1) rfl ?_
        refine jv_aload (q := 125) G 1 dX7_use_123 rfl rfl ?_
        refine jv_getI (q := 128) G dX7_use_125 fl_X7_196 rfl ((congrFun f2.1 _).trans lc.1) (jv_I_self _ _ _ _) rfl ?_
        refine jv_iconst (q := 129) (v := nI 1) G dX7_use_128 (by decide) rfl ?_
        refine jv_isubN (q := 130) G dX7_use_129 (by omega) rfl ?_
        refine jv_iret G hr dX7_use_130 (Nat.le_of_ble_eq_true rfl) (Nat.le_of_ble_eq_true rfl) ?_
        obtain ⟨hRn, sfn⟩ := hR.usY (U := (n1, p2, p3, p4, p5)) hC (by omega) hn1 f2 ⟨hV2, hn1, ky_64 p3 p4⟩ rfl
        refine pC_o (o' := (0, nI (mc_l C).length, M.1, M.2.set u0 (mc_add C (n1, p2, p3, p4, p5)))) (us_y zu0 hC c4 hn1 (by omega) (by rw [mu1]; omega)) ⟨rfl, ?_, ⟨_, _, hRn⟩, sfn⟩
        rw [show (mc_l C).length + 1 - 1 = (mc_l C).length by omega]
      · refine jv_iconst (q := 111) (v := (-1)) G dX7_use_110 (by decide) rfl ?_
        refine jv_iret G hr dX7_use_111 (Nat.le_of_ble_eq_true rfl) (Nat.le_of_ble_eq_true rfl) ?_
        obtain ⟨hRn, sfn⟩ := hR.usN hC (by omega) f2
        exact pC_o (o' := (0, -1, M)) (us_n zu0 hC c4 hn1 (by omega) (by rw [mu1]; omega)) ⟨rfl, rfl, ⟨_, _, hRn⟩, sfn⟩
    · refine jv_throwS (text := "the caller has all its uses") G Z ht th_88 (by decide) (by decide) dX7_use_36 dX7_use_39 dX7_use_40 dX7_use_42 dX7_use_45 (Nat.le_of_ble_eq_true rfl) (by decide) (by decide) ?_
      exact pX_o (o' := (3, 0, M)) (us_f zu0 hC c4 (by omega)) ⟨(show ¬ (3 : Nat) = 0 by decide), rfl, ⟨_, _, hR⟩, .rf⟩
  · refine jv_throwS (text := "no such kind") G Z ht th_70 (by decide) (by decide) dX7_use_16 dX7_use_19 dX7_use_20 dX7_use_22 dX7_use_25 (Nat.le_of_ble_eq_true rfl) (by decide) (by decide) ?_
    exact pX_o (o' := (2, 0, M)) (us_k zu0 hC c4) ⟨(show ¬ (2 : Nat) = 0 by decide), rfl, ⟨_, _, hR⟩, .rf⟩
