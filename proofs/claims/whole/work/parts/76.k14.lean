theorem oI_N {o : Option Nat} (h : ∀ u, o = some u → u < 2 ^ 31) : m_oI (jv_oN o) = o := by
  cases o with
  | none => rfl
  | some u =>
    unfold m_oI
    rw [if_neg (show ¬ jv_oN (some u) = -1 from jv_nI_m1 (h u rfl))]
    exact congrArg some (nI_clamp (h u rfl))
theorem tyN_self {t : mT} (ho : mt_ok t) (hia : mt_i t = true → mt_a t = true) : m_tyN (nI (mt_n t)) (mt_i t) (mt_i t || mt_a t) (nI (mt_k t)) (mt_p t) (jv_oN (mt_u t)) = m_tM (m_tF t []) [] := by
  unfold m_tyN m_tM m_tF
  have h1 := ho.1
  have h2 := ho.2.1
  rw [nI_clamp (by omega), nI_clamp (by omega), oI_N (fun u hu => by have := (ho.2.2.1 u hu).1; omega)]
  have h3 : (mt_i t || mt_a t) = mt_a t := by
    cases hi : mt_i t with
    | false => rfl
    | true => rw [hia hi]; rfl
  rw [h3]; rfl
theorem cv_T.f0 {z : Nat → Nat → Nat} {N : Nat → Nat → Nat} {h h1 : jv_H} {a : Nat} {t : mT} (r : cv_T z N h a (m_tM (m_tF t []) [])) (hI : ∀ k, jv_I h1 a k = jv_I h a k) (hL : ∀ k, jv_L h1 a k = jv_L h a k) : cv_T z N h1 a (m_tM (m_tF t []) []) := ⟨(hI 0).trans r.1, (hI 1).trans r.2.1, (hI 2).trans r.2.2.1, (hI 3).trans r.2.2.2.1, (hI 4).trans r.2.2.2.2.1, (hI 5).trans r.2.2.2.2.2.1, (hI 7).trans r.2.2.2.2.2.2.1, (hI 9).trans r.2.2.2.2.2.2.2.1, (hL 10).trans r.2.2.2.2.2.2.2.2.1, (hL 11).trans r.2.2.2.2.2.2.2.2.2.1, fun j v e => by simp [m_tM, m_tF, mt_f] at e, fun j v e => by simp [m_tM, mt_m] at e⟩
set_option maxHeartbeats 4000000 in
set_option maxRecDepth 100000 in
theorem k_tf1 {E : jv_E} {Q : State → Prop} {z : Nat → Nat → Nat} {N : Nat → Nat → Nat} {tO : Nat → Nat} {h : jv_H} {a c : Nat} {t : mT} (tla : cl_t z N h a) (tlc : cl_t z N h c) (oa : cl_o z N tO a) (oc : cl_o z N tO c) (hac : a ≠ c) (hv : cv_T z N h c t) (ho : mt_ok t) (G : jv_C E cX5_takeFrom RX5 3) (hk : ∀ h2, cF (fun b => tO b = a) h h2 → cv_T z N h2 a (m_tM (m_tF t []) []) → (∀ (j v : Nat), j < (mt_f t).length → (mt_f t)[j]? = some v → jv_I h2 (z 8 a) j = nI v) → jv_V E 3 h2 0 0 Q 56 [(0, .ref a), (1, .ref c)] []) : ∀ (n i : Nat) (h1 : jv_H), i + n = (mt_f t).length → cF (fun b => tO b = a) h h1 → cv_T z N h1 a (m_tM (m_tF t []) []) → (∀ (j v : Nat), j < i → (mt_f t)[j]? = some v → jv_I h1 (z 8 a) j = nI v) → jv_V E 3 h1 0 0 Q 30 [(2, .int (nI i)), (0, .ref a), (1, .ref c)] [] := by
  intro n
  induction n with
  | zero =>
    intro i h1 hn hF hr hj
    have nc : ∀ b, tO b = c → ¬ (tO b = a) := fun b e1 e2 => hac (e2.symm.trans e1)
    have tla1 := hF.t tla; have tlc1 := hF.t tlc
    have hl3 := ho.2.2.2.1; have hl6 := ho.2.2.2.2.2.1
    refine jv_iload_n (q := 31) G 0 dX5_takeFrom_30 rfl rfl rfl ?_
    refine jv_aload_n (q := 32) G 2 dX5_takeFrom_31 rfl rfl rfl ?_
    refine jv_getI (q := 35) G dX5_takeFrom_32 fl_X5_45 rfl tlc1.1 ((hF.i (nc c oc.1) 7).trans (ct_7 hv)) rfl ?_
    refine jv_icmp_geN (q := 38) (tgt := 56) G dX5_takeFrom_35 (by decide) rfl (by omega) (by omega) (fun c1 => ?_) (fun c1 => ?_)
    · refine jv_lo [1, 2] (lo' := [(0, .ref a), (1, .ref c)]) rfl ?_
      exact hk _ hF hr (fun j v hj2 => hj j v (by omega))
    · omega
  | succ n ih =>
    intro i h1 hn hF hr hj
    have nc : ∀ b, tO b = c → ¬ (tO b = a) := fun b e1 e2 => hac (e2.symm.trans e1)
    have tla1 := hF.t tla; have tlc1 := hF.t tlc
    have hl3 := ho.2.2.2.1; have hl6 := ho.2.2.2.2.2.1
    obtain ⟨v, hv1⟩ := jv_getLt (l := mt_f t) (k := i) (by omega)
    have hfv := (hF.i (nc _ oc.2.1) i).trans (ct_f hv hv1)
    refine jv_iload_n (q := 31) G 0 dX5_takeFrom_30 rfl rfl rfl ?_
    refine jv_aload_n (q := 32) G 2 dX5_takeFrom_31 rfl rfl rfl ?_
    refine jv_getI (q := 35) G dX5_takeFrom_32 fl_X5_45 rfl tlc1.1 ((hF.i (nc c oc.1) 7).trans (ct_7 hv)) rfl ?_
    refine jv_icmp_geN (q := 38) (tgt := 56) G dX5_takeFrom_35 (by decide) rfl (by omega) (by omega) (fun c1 => ?_) (fun c1 => ?_)
    · omega
    · refine jv_aload_n (q := 39) G 1 dX5_takeFrom_38 rfl rfl rfl ?_
      refine jv_getQ (q := 42) G dX5_takeFrom_39 fl_X5_9 rfl tla1.1 tla1.2.1 rfl ?_
      refine jv_iload_n (q := 43) G 0 dX5_takeFrom_42 rfl rfl rfl ?_
      refine jv_aload_n (q := 44) G 2 dX5_takeFrom_43 rfl rfl rfl ?_
      refine jv_getQ (q := 47) G dX5_takeFrom_44 fl_X5_9 rfl tlc1.1 tlc1.2.1 rfl ?_
      refine jv_iload_n (q := 48) G 0 dX5_takeFrom_47 rfl rfl rfl ?_
      refine jv_iald (q := 49) G dX5_takeFrom_48 tlc1.2.2.1 rfl (by omega) (by decide) hfv rfl ?_
      refine jv_iast (q := 50) G dX5_takeFrom_49 tla1.2.2.1 rfl (by omega) (by decide) rfl ?_
      refine jv_iinc (q := 53) (lo' := [(2, .int (nI (i + 1))), (0, .ref a), (1, .ref c)]) (v := nI (i + 1)) G 0 dX5_takeFrom_50 rfl (nI_1 i) (by decide) rfl rfl ?_
      refine jv_goto (q := 30) G dX5_takeFrom_53 (by decide) ?_
      refine jv_lo [0, 1, 2] (lo' := [(2, .int (nI (i + 1))), (0, .ref a), (1, .ref c)]) rfl ?_
      have h8 := ne_8 tla
      refine ih (i + 1) _ (by omega) (hF.wI oa.2.1 _ _) (hr.f0 (fun k => by rw [jv_I_wI, if_neg (fun e => h8 e.1.symm)]) (fun k => rfl)) (fun j y hj2 hy => ?_)
      rw [oI_o]
      by_cases e : j = i
      · subst e; cases hv1.symm.trans hy; rw [if_pos rfl]
      · rw [if_neg e]; exact hj j y (by omega) hy
set_option maxHeartbeats 4000000 in
set_option maxRecDepth 100000 in
theorem k_tf2 {E : jv_E} {Q : State → Prop} {h0 : jv_H} {z : Nat → Nat → Nat} {N : Nat → Nat → Nat} {tO : Nat → Nat} {h : jv_H} {a c : Nat} {t : mT} (tla : cl_t z N h a) (tlc : cl_t z N h c) (oa : cl_o z N tO a) (oc : cl_o z N tO c) (hac : a ≠ c) (hv : cv_T z N h c t) (ho : mt_ok t) (hlt : (jv_l E).stackTraces = false) (G : jv_C E cX5_takeFrom RX5 3) (Z : jv_rm E = jv_room 3 0 0) (hk : ∀ h2, cF (fun b => tO b = a) h h2 → (∀ j, jv_I h2 a j = jv_I h0 a j) → (∀ j, jv_L h2 a j = jv_L h0 a j) → (∀ j, jv_I h2 (z 8 a) j = jv_I h0 (z 8 a) j) → (∀ (j : Nat) m, j < (mt_m t).length → (mt_m t)[j]? = some m → cv_M h2 (N a j) m) → jv_V E 3 h2 0 0 Q 95 [(0, .ref a), (1, .ref c)] []) : ∀ (n i : Nat) (h1 : jv_H), i + n = (mt_m t).length → cF (fun b => tO b = a) h h1 → (∀ j, jv_I h1 a j = jv_I h0 a j) → (∀ j, jv_L h1 a j = jv_L h0 a j) → (∀ j, jv_I h1 (z 8 a) j = jv_I h0 (z 8 a) j) → (∀ (j : Nat) m, j < i → (mt_m t)[j]? = some m → cv_M h1 (N a j) m) → jv_V E 3 h1 0 0 Q 66 [(2, .int (nI i)), (0, .ref a), (1, .ref c)] [] := by
  intro n
  induction n with
  | zero =>
    intro i h1 hn hF hI hL h8 hj
    have nc : ∀ b, tO b = c → ¬ (tO b = a) := fun b e1 e2 => hac (e2.symm.trans e1)
    have tla1 := hF.t tla; have tlc1 := hF.t tlc
    have hl3 := ho.2.2.2.1; have hl6 := ho.2.2.2.2.2.1
    refine jv_iload_n (q := 67) G 0 dX5_takeFrom_66 rfl rfl rfl ?_
    refine jv_aload_n (q := 68) G 2 dX5_takeFrom_67 rfl rfl rfl ?_
    refine jv_getI (q := 71) G dX5_takeFrom_68 fl_X5_48 rfl tlc1.1 ((hF.i (nc c oc.1) 9).trans (ct_9 hv)) rfl ?_
    refine jv_icmp_geN (q := 74) (tgt := 95) G dX5_takeFrom_71 (by decide) rfl (by omega) (by omega) (fun c1 => ?_) (fun c1 => ?_)
    · refine jv_lo [1, 2] (lo' := [(0, .ref a), (1, .ref c)]) rfl ?_
      exact hk _ hF hI hL h8 (fun j m hj2 => hj j m (by omega))
    · omega
  | succ n ih =>
    intro i h1 hn hF hI hL h8 hj
    have nc : ∀ b, tO b = c → ¬ (tO b = a) := fun b e1 e2 => hac (e2.symm.trans e1)
    have tla1 := hF.t tla; have tlc1 := hF.t tlc
    have hl3 := ho.2.2.2.1; have hl6 := ho.2.2.2.2.2.1
    obtain ⟨m, hm⟩ := jv_getLt (l := mt_m t) (k := i) (by omega)
    have hi6 : i < 6 := by omega
    have hne : N c i ≠ N a i := fun e => hac ((oa.2.2.2.2.1 i hi6).symm.trans ((congrArg tO e.symm).trans (oc.2.2.2.2.1 i hi6)))
    have hMc := hF.M (nc _ (oc.2.2.2.2.1 i hi6)) (ct_m hv hm)
    refine jv_iload_n (q := 67) G 0 dX5_takeFrom_66 rfl rfl rfl ?_
    refine jv_aload_n (q := 68) G 2 dX5_takeFrom_67 rfl rfl rfl ?_
    refine jv_getI (q := 71) G dX5_takeFrom_68 fl_X5_48 rfl tlc1.1 ((hF.i (nc c oc.1) 9).trans (ct_9 hv)) rfl ?_
    refine jv_icmp_geN (q := 74) (tgt := 95) G dX5_takeFrom_71 (by decide) rfl (by omega) (by omega) (fun c1 => ?_) (fun c1 => ?_)
    · omega
    · refine jv_aload_n (q := 75) G 1 dX5_takeFrom_74 rfl rfl rfl ?_
      refine jv_getQ (q := 78) G dX5_takeFrom_75 fl_X5_17 rfl tla1.1 tla1.2.2.2.1 rfl ?_
      refine jv_iload_n (q := 79) G 0 dX5_takeFrom_78 rfl rfl rfl ?_
      refine jv_aaldQ (q := 80) G dX5_takeFrom_79 tla1.2.2.2.2.1 rfl (by omega) (by decide) (tla1.2.2.2.2.2.2.2 i hi6).1 rfl ?_
      refine jv_aload_n (q := 81) G 2 dX5_takeFrom_80 rfl rfl rfl ?_
      refine jv_getQ (q := 84) G dX5_takeFrom_81 fl_X5_17 rfl tlc1.1 tlc1.2.2.2.1 rfl ?_
      refine jv_iload_n (q := 85) G 0 dX5_takeFrom_84 rfl rfl rfl ?_
      refine jv_aaldQ (q := 86) G dX5_takeFrom_85 tlc1.2.2.2.2.1 rfl (by omega) (by decide) (tlc1.2.2.2.2.2.2.2 i hi6).1 rfl ?_
      refine jv_callV (q := 89) (As := [.ref (N c i)]) (rest := []) G Z ml_X5_65 (k_mTake hlt (tla1.2.2.2.2.2.2.2 i hi6).2 (tlc1.2.2.2.2.2.2.2 i hi6).2 hne hMc) (tla1.2.2.2.2.2.2.2 i hi6).2 dX5_takeFrom_86 rfl (by decide) (by decide) (by decide) (by decide) (Nat.le_of_ble_eq_true rfl) rfl rfl (fun v3 h2 y4 => ?_) (fun _ _ hx => hx.elim)
      obtain ⟨rfl, hFm, hMm⟩ := y4
      show jv_V E 3 h2 0 0 Q 89 [(2, .int (nI i)), (0, .ref a), (1, .ref c)] []
      refine jv_iinc (q := 92) (lo' := [(2, .int (nI (i + 1))), (0, .ref a), (1, .ref c)]) (v := nI (i + 1)) G 0 dX5_takeFrom_89 rfl (nI_1 i) (by decide) rfl rfl ?_
      refine jv_goto (q := 66) G dX5_takeFrom_92 (by decide) ?_
      refine jv_lo [0, 1, 2] (lo' := [(2, .int (nI (i + 1))), (0, .ref a), (1, .ref c)]) rfl ?_
      have na : ¬ (a = N a i) := fun e => ne_N tla hi6 e.symm
      have n8 : ¬ (z 8 a = N a i) := fun e => ne_N8 tla hi6 e.symm
      refine ih (i + 1) _ (by omega) (hF.tr (hFm.mono (S' := (fun b => tO b = a)) (fun b e => by rw [e]; exact oa.2.2.2.2.1 i hi6))) (fun j => (hFm.i na j).trans (hI j)) (fun j => (hFm.l na j).trans (hL j)) (fun j => (hFm.i n8 j).trans (h8 j)) (fun j m' hj2 hm' => ?_)
      by_cases e : j = i
      · subst e; cases hm.symm.trans hm'; exact hMm
      · have hj6 : j < 6 := by omega
        exact hFm.M (fun e2 => e (oa.2.2.2.2.2 j i hj6 hi6 e2)) (hj j m' (by omega) hm')
set_option maxHeartbeats 4000000 in
set_option maxRecDepth 100000 in
theorem k_tTake {lA : Launch} (hlt : lA.stackTraces = false) {D : jv_D} {base : Nat} {z : Nat → Nat → Nat} {N : Nat → Nat → Nat} {tO : Nat → Nat} {h : jv_H} {a c : Nat} {t : mT} (tla : cl_t z N h a) (tlc : cl_t z N h c) (oa : cl_o z N tO a) (oc : cl_o z N tO c) (hac : a ≠ c) (hv : cv_T z N h c t) (ho : mt_ok t) (hia : mt_i t = true → mt_a t = true) : jv_Met lA D base yX5_takeFrom (.code yX5_takeFrom cX5_takeFrom 3 none) 3 0 0 [.ref a, .ref c] h (fun y h' => y = none ∧ cF (fun b => tO b = a) h h' ∧ cv_T z N h' a t) jv_no := by
  refine jv_ofV (lo := [(0, .ref a), (1, .ref c)]) hlt (by decide) (Nat.le_of_ble_eq_true rfl) rfl (fun E hEl hEd hEz Z G hr ht hnm => ?_)
  subst hEl; subst hEd; subst hEz
  have hl3 := ho.2.2.2.1; have hl6 := ho.2.2.2.2.2.1; have hn1 := ho.1; have hk1 := ho.2.1
  refine jv_aload_n (q := 1) G 0 dX5_takeFrom_0 rfl rfl rfl ?_
  refine jv_aload_n (q := 2) G 1 dX5_takeFrom_1 rfl rfl rfl ?_
  refine jv_getI (q := 5) G dX5_takeFrom_2 fl_X5_25 rfl tlc.1 (ct_0 hv) rfl ?_
  refine jv_aload_n (q := 6) G 1 dX5_takeFrom_5 rfl rfl rfl ?_
  refine jv_getZ (q := 9) G dX5_takeFrom_6 fl_X5_29 rfl tlc.1 (ct_1 hv) rfl ?_
  refine jv_aload_n (q := 10) G 1 dX5_takeFrom_9 rfl rfl rfl ?_
  refine jv_getZ (q := 13) G dX5_takeFrom_10 fl_X5_33 rfl tlc.1 (ct_2 hv) rfl ?_
  refine jv_aload_n (q := 14) G 1 dX5_takeFrom_13 rfl rfl rfl ?_
  refine jv_getI (q := 17) G dX5_takeFrom_14 fl_X5_36 rfl tlc.1 (ct_3 hv) rfl ?_
  refine jv_aload_n (q := 18) G 1 dX5_takeFrom_17 rfl rfl rfl ?_
  refine jv_getZ (q := 21) G dX5_takeFrom_18 fl_X5_39 rfl tlc.1 (ct_4 hv) rfl ?_
  refine jv_aload_n (q := 22) G 1 dX5_takeFrom_21 rfl rfl rfl ?_
  refine jv_getI (q := 25) G dX5_takeFrom_22 fl_X5_42 rfl tlc.1 (ct_5 hv) rfl ?_
  refine jv_callV (q := 28) (As := [.int (nI (mt_n t)), .int (jv_bI (mt_i t)), .int (jv_bI (mt_a t)), .int (nI (mt_k t)), .int (jv_bI (mt_p t)), .int (jv_oN (mt_u t))]) (rest := []) G Z ml_X5_61 (k_tBegin (z := z) (N := N) hlt tla.1 ⟨by rw [nI_clamp (by omega)]; omega, by rw [nI_clamp (by omega)]⟩ ⟨by rw [nI_clamp (by omega)]; omega, by rw [nI_clamp (by omega)]⟩ ⟨by rw [oI_N (fun u hu => by have := (ho.2.2.1 u hu).1; omega)], trivial⟩) tla.1 dX5_takeFrom_25 rfl (by decide) (by decide) (by decide) (by decide) (Nat.le_of_ble_eq_true rfl) rfl rfl (fun v2 h1 y3 => ?_) (fun _ _ hx => hx.elim)
  obtain ⟨rfl, hFb, hrr, h13, h14⟩ := y3
  show jv_V E 3 h1 0 0 (jv_Q E (fun y h' => y = none ∧ cF (fun b => tO b = a) h h' ∧ cv_T z N h' a t) jv_no 0 0) 28 [(0, .ref a), (1, .ref c)] []
  rw [tyN_self ho hia] at hrr
  have hF : cF (fun b => tO b = a) h h1 := hFb.mono (fun b e => by rw [e]; exact oa.1)
  have nc : ∀ b, tO b = c → ¬ (tO b = a) := fun b e1 e2 => hac (e2.symm.trans e1)
  have tla1 := hF.t tla; have tlc1 := hF.t tlc
  have hl3 := ho.2.2.2.1; have hl6 := ho.2.2.2.2.2.1
  refine jv_iconst (q := 29) (v := nI 0) G dX5_takeFrom_28 (by decide) rfl ?_
  refine jv_istore_n (q := 30) (lo' := [(2, .int (nI 0)), (0, .ref a), (1, .ref c)]) G dX5_takeFrom_29 rfl (by decide) rfl rfl ?_
  refine jv_lo [0, 1, 2] (lo' := [(2, .int (nI 0)), (0, .ref a), (1, .ref c)]) rfl ?_
  refine k_tf1 tla tlc oa oc hac hv ho G (fun h2 hF hrr hj => ?_) (mt_f t).length 0 _ (by omega) hF hrr (fun j v hj => by omega)
  have nc : ∀ b, tO b = c → ¬ (tO b = a) := fun b e1 e2 => hac (e2.symm.trans e1)
  have tla1 := hF.t tla; have tlc1 := hF.t tlc
  have hl3 := ho.2.2.2.1; have hl6 := ho.2.2.2.2.2.1
  refine jv_aload_n (q := 57) G 0 dX5_takeFrom_56 rfl rfl rfl ?_
  refine jv_aload_n (q := 58) G 1 dX5_takeFrom_57 rfl rfl rfl ?_
  refine jv_getI (q := 61) G dX5_takeFrom_58 fl_X5_45 rfl tlc1.1 ((hF.i (nc c oc.1) 7).trans (ct_7 hv)) rfl ?_
  refine jv_putI (q := 64) G dX5_takeFrom_61 fl_X5_45 rfl tla1.1 rfl ?_
  refine jv_iconst (q := 65) (v := nI 0) G dX5_takeFrom_64 (by decide) rfl ?_
  refine jv_istore_n (q := 66) (lo' := [(2, .int (nI 0)), (0, .ref a), (1, .ref c)]) G dX5_takeFrom_65 rfl (by decide) rfl rfl ?_
  refine jv_lo [0, 1, 2] (lo' := [(2, .int (nI 0)), (0, .ref a), (1, .ref c)]) rfl ?_
  refine k_tf2 (h0 := jv_wI h2 a 7 (nI ((mt_f t).length))) tla tlc oa oc hac hv ho hlt G Z (fun h3 hF3 hI3 hL3 h83 hj3 => ?_) (mt_m t).length 0 _ (by omega) (hF.wI oa.1 _ _) (fun j => rfl) (fun j => rfl) (fun j => rfl) (fun j m hj => by omega)
  have h8 := ne_8 tla
  clear tla1 tlc1
  have tla1 := hF3.t tla; have tlc1 := hF3.t tlc
  refine jv_aload_n (q := 96) G 0 dX5_takeFrom_95 rfl rfl rfl ?_
  refine jv_aload_n (q := 97) G 1 dX5_takeFrom_96 rfl rfl rfl ?_
  refine jv_getI (q := 100) G dX5_takeFrom_97 fl_X5_48 rfl tlc1.1 ((hF3.i (nc c oc.1) 9).trans (ct_9 hv)) rfl ?_
  refine jv_putI (q := 103) G dX5_takeFrom_100 fl_X5_48 rfl tla1.1 rfl ?_
  refine jv_aload_n (q := 104) G 0 dX5_takeFrom_103 rfl rfl rfl ?_
  refine jv_aload_n (q := 105) G 1 dX5_takeFrom_104 rfl rfl rfl ?_
  refine jv_getL (q := 108) G dX5_takeFrom_105 fl_X5_51 rfl tlc1.1 ((hF3.l (nc c oc.1) 10).trans (ct_10 hv)) rfl ?_
  refine jv_putL (q := 111) G dX5_takeFrom_108 fl_X5_51 rfl tla1.1 rfl ?_
  refine jv_aload_n (q := 112) G 0 dX5_takeFrom_111 rfl rfl rfl ?_
  refine jv_aload_n (q := 113) G 1 dX5_takeFrom_112 rfl rfl rfl ?_
  refine jv_getL (q := 116) G dX5_takeFrom_113 fl_X5_55 rfl tlc1.1 ((jv_L_wL _ _ _ _ _ _).trans ((if_neg (fun e => hac e.1.symm)).trans ((hF3.l (nc c oc.1) 11).trans (ct_11 hv)))) rfl ?_
  refine jv_putL (q := 119) G dX5_takeFrom_116 fl_X5_55 rfl tla1.1 rfl ?_
  refine jv_vret G hr dX5_takeFrom_119 (Nat.le_of_ble_eq_true rfl) (Nat.le_of_ble_eq_true rfl) ?_
  have hF4 : cF (fun b => tO b = a) h (jv_wL (jv_wL (jv_wI h3 a 9 (nI ((mt_m t).length))) a 10 (lN (m_ks false (mt_m t)))) a 11 (lN (m_ks true (mt_m t)))) := ((hF3.wI oa.1 9 _).wL oa.1 10 _).wL oa.1 11 _
  refine ⟨rfl, hF4, ?_⟩
  have hI4 : ∀ k, k ≠ 9 → jv_I (jv_wL (jv_wL (jv_wI h3 a 9 (nI ((mt_m t).length))) a 10 (lN (m_ks false (mt_m t)))) a 11 (lN (m_ks true (mt_m t)))) a k = jv_I (jv_wI h2 a 7 (nI ((mt_f t).length))) a k := fun k hk => by
    rw [jv_I_wL, jv_I_wL, oI_o, if_neg hk, hI3]
  have e8 : ∀ j, jv_I (jv_wL (jv_wL (jv_wI h3 a 9 (nI ((mt_m t).length))) a 10 (lN (m_ks false (mt_m t)))) a 11 (lN (m_ks true (mt_m t)))) (z 8 a) j = jv_I h2 (z 8 a) j := fun j => by
    rw [jv_I_wL, jv_I_wL, jv_I_wI, if_neg (fun e => h8 e.1), h83, jv_I_wI, if_neg (fun e => h8 e.1)]
  refine cv_T.of (t := (m_tM (m_tF t []) [])) (fs := mt_f t) (ms := mt_m t) hrr (fun k hk => ?_) ?_ ?_ ?_ ?_ (fun j v e => ?_) (fun j m e => ?_)
  · rw [hI4 k (by omega), oI_o, if_neg (by omega)]
  · rw [hI4 7 (by decide), oI_o, if_pos rfl]
  · rw [jv_I_wL, jv_I_wL, oI_o, if_pos rfl]
  · rw [oL_o, if_neg (by decide), oL_o, if_pos rfl]
  · rw [oL_o, if_pos rfl]
  · rw [e8]; exact hj j v (jv_ltGet e) e
  · have hj6 : j < 6 := by have := jv_ltGet e; omega
    have na : N a j ≠ a := ne_N tla hj6
    have r := hj3 j m (jv_ltGet e) e
    have q : ∀ k, jv_I (jv_wL (jv_wL (jv_wI h3 a 9 (nI ((mt_m t).length))) a 10 (lN (m_ks false (mt_m t)))) a 11 (lN (m_ks true (mt_m t)))) (N a j) k = jv_I h3 (N a j) k := fun k => by rw [jv_I_wL, jv_I_wL, jv_I_wI, if_neg (fun e => na e.1)]
    exact ⟨(q 0).trans r.1, (q 1).trans r.2.1, (q 2).trans r.2.2.1, (q 3).trans r.2.2.2.1, (q 4).trans r.2.2.2.2.1, (q 5).trans r.2.2.2.2.2⟩
