set_option maxHeartbeats 4000000 in
set_option maxRecDepth 100000 in
theorem k_uBegin {lA : Launch} (hlt : lA.stackTraces = false) {D : jv_D} {base : Nat} {h : jv_H} {u kd : Nat} {ty rc : Int32} {ko : Option Nat} (hs : jv_sh h u = some (.inl 6)) : jv_Met lA D base yX6_begin (.code yX6_begin cX6_begin 5 none) 1 0 0 [.ref u, .int (nI kd), .int ty, .int (jv_oN ko), .int rc] h (fun y h' => y = none ∧ cF (fun c => c = u) h h' ∧ cv_use h' u kd ty ko rc (-1) (-1)) jv_no := by
  refine jv_ofV (lo := [(0, .ref u), (1, .int (nI kd)), (2, .int ty), (3, .int (jv_oN ko)), (4, .int rc)]) hlt (by decide) (Nat.le_of_ble_eq_true rfl) rfl (fun E hEl hEd hEz Z G hr ht hnm => ?_)
  subst hEl; subst hEd; subst hEz
  refine jv_aload_n (q := 1) G 0 dX6_begin_0 rfl rfl rfl ?_
  refine jv_iload_n (q := 2) G 1 dX6_begin_1 rfl rfl rfl ?_
  refine jv_putI (q := 5) G dX6_begin_2 fl_X6_9 rfl hs rfl ?_
  refine jv_aload_n (q := 6) G 0 dX6_begin_5 rfl rfl rfl ?_
  refine jv_iload_n (q := 7) G 2 dX6_begin_6 rfl rfl rfl ?_
  refine jv_putI (q := 10) G dX6_begin_7 fl_X6_15 rfl hs rfl ?_
  refine jv_aload_n (q := 11) G 0 dX6_begin_10 rfl rfl rfl ?_
  refine jv_iload_n (q := 12) G 3 dX6_begin_11 rfl rfl rfl ?_
  refine jv_putI (q := 15) G dX6_begin_12 fl_X6_18 rfl hs rfl ?_
  refine jv_aload_n (q := 16) G 0 dX6_begin_15 rfl rfl rfl ?_
  refine jv_iload (q := 18) G 4 dX6_begin_16 rfl rfl ?_
  refine jv_putI (q := 21) G dX6_begin_18 fl_X6_21 rfl hs rfl ?_
  refine jv_aload_n (q := 22) G 0 dX6_begin_21 rfl rfl rfl ?_
  refine jv_iconst (q := 23) (v := (-1)) G dX6_begin_22 (by decide) rfl ?_
  refine jv_putI (q := 26) G dX6_begin_23 fl_X6_24 rfl hs rfl ?_
  refine jv_aload_n (q := 27) G 0 dX6_begin_26 rfl rfl rfl ?_
  refine jv_iconst (q := 28) (v := (-1)) G dX6_begin_27 (by decide) rfl ?_
  refine jv_putI (q := 31) G dX6_begin_28 fl_X6_27 rfl hs rfl ?_
  refine jv_vret G hr dX6_begin_31 (Nat.le_of_ble_eq_true rfl) (Nat.le_of_ble_eq_true rfl) ?_
  refine ⟨rfl, show cF (fun c => c = u) h (jv_wI (jv_wI (jv_wI (jv_wI (jv_wI (jv_wI h u 0 (nI kd)) u 1 ty) u 2 (jv_oN ko)) u 3 rc) u 4 (-1)) u 5 (-1)) from (((((((cF.rf (S := (fun c => c = u))).wI rfl 0 (nI kd)).wI rfl 1 ty).wI rfl 2 (jv_oN ko)).wI rfl 3 rc).wI rfl 4 (-1)).wI rfl 5 (-1)), hs, ?_, ?_, ?_, ?_, ?_, ?_⟩ <;> simp [oI_o]
set_option maxHeartbeats 4000000 in
set_option maxRecDepth 100000 in
theorem k_cBegin {lA : Launch} (hlt : lA.stackTraces = false) {D : jv_D} {base : Nat} {h : jv_H} {c ec p : Nat} {su : Option Nat} (hs : jv_sh h c = some (.inl 0)) : jv_Met lA D base yX0_begin (.code yX0_begin cX0_begin 4 none) 1 0 0 [.ref c, .int (nI ec), .int (nI p), .int (jv_oN su)] h (fun y h' => y = none ∧ cF (fun b => b = c) h h' ∧ cv_ca h' c ec p su ∧ jv_I h' c 4 = nI 0) jv_no := by
  refine jv_ofV (lo := [(0, .ref c), (1, .int (nI ec)), (2, .int (nI p)), (3, .int (jv_oN su))]) hlt (by decide) (Nat.le_of_ble_eq_true rfl) rfl (fun E hEl hEd hEz Z G hr ht hnm => ?_)
  subst hEl; subst hEd; subst hEz
  refine jv_aload_n (q := 1) G 0 dX0_begin_0 rfl rfl rfl ?_
  refine jv_iload_n (q := 2) G 1 dX0_begin_1 rfl rfl rfl ?_
  refine jv_putI (q := 5) G dX0_begin_2 fl_X0_18 rfl hs rfl ?_
  refine jv_aload_n (q := 6) G 0 dX0_begin_5 rfl rfl rfl ?_
  refine jv_iload_n (q := 7) G 2 dX0_begin_6 rfl rfl rfl ?_
  refine jv_putI (q := 10) G dX0_begin_7 fl_X0_22 rfl hs rfl ?_
  refine jv_aload_n (q := 11) G 0 dX0_begin_10 rfl rfl rfl ?_
  refine jv_iload_n (q := 12) G 3 dX0_begin_11 rfl rfl rfl ?_
  refine jv_putI (q := 15) G dX0_begin_12 fl_X0_25 rfl hs rfl ?_
  refine jv_aload_n (q := 16) G 0 dX0_begin_15 rfl rfl rfl ?_
  refine jv_iconst (q := 17) (v := nI 0) G dX0_begin_16 (by decide) rfl ?_
  refine jv_putI (q := 20) G dX0_begin_17 fl_X0_28 rfl hs rfl ?_
  refine jv_vret G hr dX0_begin_20 (Nat.le_of_ble_eq_true rfl) (Nat.le_of_ble_eq_true rfl) ?_
  refine ⟨rfl, show cF (fun b => b = c) h (jv_wI (jv_wI (jv_wI (jv_wI h c 0 (nI ec)) c 1 (nI p)) c 2 (jv_oN su)) c 4 (nI 0)) from (((((cF.rf (S := (fun b => b = c))).wI rfl 0 (nI ec)).wI rfl 1 (nI p)).wI rfl 2 (jv_oN su)).wI rfl 4 (nI 0)), ⟨hs, ?_, ?_, ?_⟩, ?_⟩ <;> simp [oI_o]
def c_cv (ts : List mT) (Us : Nat → List Nat) (kd : Nat) (ty : Int32) (ko : Option Nat) : Int32 := if kd = 1 then c_ci ts (c_ho ts Us kd ty ko) ko else -1
def c_ow (ts : List mT) (Us : Nat → List Nat) (kd : Nat) (ty rc : Int32) (ko : Option Nat) : Int32 := if m_rv kd then c_nm ts (c_rn ts Us (c_ho ts Us kd ty ko) ko rc) else -1
set_option maxHeartbeats 4000000 in
set_option maxRecDepth 100000 in
theorem k_rememberOwn {lA : Launch} (hlt : lA.stackTraces = false) {D : jv_D} {base : Nat} {z : Nat → Nat → Nat} {T : Nat → Nat} {N : Nat → Nat → Nat} {h : jv_H} {e : Nat} {ts : List mT} (hE : cv_E z T N h e ts) {Us : Nat → List Nat} (hU : cv_Us z T h e ts Us) {u kd : Nat} {ty rc cv ow : Int32} {ko : Option Nat} (hu : cv_use h u kd ty ko rc cv ow) (hkd : kd < 6) (hK : ∀ K, ko = some K → K < 64) (hcv : cv = -1) (how : ow = -1) : jv_Met lA D base yX6_rememberOwn (.code yX6_rememberOwn cX6_rememberOwn 3 none) 6 0 0 [.ref u, .ref (z 0 e)] h (fun y h' => y = none ∧ cF (fun c => c = u) h h' ∧ cv_use h' u kd ty ko rc (c_cv ts Us kd ty ko) (c_ow ts Us kd ty rc ko)) jv_no := by
  refine jv_ofV (lo := [(0, .ref u), (1, .ref (z 0 e))]) hlt (by decide) (Nat.le_of_ble_eq_true rfl) rfl (fun E hEl hEd hEz Z G hr ht hnm => ?_)
  subst hEl; subst hEd; subst hEz
  refine jv_aload_n (q := 1) G 0 dX6_rememberOwn_0 rfl rfl rfl ?_
  refine jv_aload_n (q := 2) G 1 dX6_rememberOwn_1 rfl rfl rfl ?_
  refine jv_callV_R (q := 5) (h1 := h) (As := [.ref (z 0 e)]) (rest := []) (ce' := 0) (sl' := 0) (r := ((c_ho ts Us kd ty ko).map (fun k => T (10 * e + k)))) G Z ml_X6_51 (k_holder hlt hE hU hu hkd hK) hu.1 dX6_rememberOwn_2 rfl (by decide) (by decide) (by decide) (by decide) (Nat.le_of_ble_eq_true rfl) rfl rfl rfl rfl ?_
  rcases Option.eq_none_or_eq_some (c_ho ts Us kd ty ko) with hk3 | ⟨k1, hk3⟩
  · refine jv_topR (y := none) (by rw [hk3]; rfl) ?_
    refine jv_astore_nR (q := 6) (lo' := [(2, va_rf none), (0, .ref u), (1, .ref (z 0 e))]) (x := none) G dX6_rememberOwn_5 rfl (by decide) rfl rfl ?_
    refine jv_aload_n (q := 7) G 1 dX6_rememberOwn_6 rfl rfl rfl ?_
    refine jv_getI (q := 10) G dX6_rememberOwn_7 fl_X6_9 rfl hu.1 hu.2.1 rfl ?_
    refine jv_iconst (q := 11) (v := nI 1) G dX6_rememberOwn_10 (by decide) rfl ?_
    refine jv_icmp_neN (q := 14) (tgt := 23) G dX6_rememberOwn_11 (by decide) rfl (by omega) (by omega) (fun c4 => ?_) (fun c4 => ?_)
    · refine jv_aload_n (q := 24) G 1 dX6_rememberOwn_23 rfl rfl rfl ?_
      refine jv_callV_I (q := 27) (h1 := h) (As := []) (rest := []) (ce' := 0) (sl' := 0) (r := jv_bI (m_rv kd)) G Z ml_X6_59 (k_hasReceiver hlt hu hkd) hu.1 dX6_rememberOwn_24 rfl (by decide) (by decide) (by decide) (by decide) (Nat.le_of_ble_eq_true rfl) rfl rfl rfl rfl ?_
      refine jv_if_eqB (q := 30) (tgt := 43) G dX6_rememberOwn_27 (by decide) rfl (fun c5 => ?_) (fun c5 => ?_)
      · refine jv_vret G hr dX6_rememberOwn_43 (Nat.le_of_ble_eq_true rfl) (Nat.le_of_ble_eq_true rfl) ?_
        have ecv : c_cv ts Us kd ty ko = -1 := by unfold c_cv; rw [if_neg c4]
        have eow : c_ow ts Us kd ty rc ko = -1 := by unfold c_ow; rw [if_neg (by rw [c5]; decide)]
        refine ⟨rfl, cF.rf, hu.1, ?_, ?_, ?_, ?_, ?_, ?_⟩
        all_goals first
          | (simp [oI_o, hu.2.1, hu.2.2.1, hu.2.2.2.1, hu.2.2.2.2.1, hu.2.2.2.2.2.1, hu.2.2.2.2.2.2, ecv, eow, hcv, how]; done)
      · refine jv_aload_n (q := 31) G 1 dX6_rememberOwn_30 rfl rfl rfl ?_
        refine jv_aload_n (q := 32) G 1 dX6_rememberOwn_31 rfl rfl rfl ?_
        refine jv_aload_n (q := 33) G 2 dX6_rememberOwn_32 rfl rfl rfl ?_
        refine jv_aload_nR (q := 34) G 0 dX6_rememberOwn_33 rfl rfl rfl ?_
        refine jv_callV_R (q := 37) (h1 := h) (As := [.ref (z 0 e), va_rf none]) (rest := [.ref u]) (ce' := 0) (sl' := 0) (r := ((c_rn ts Us none ko rc).map (fun k => T (10 * e + k)))) G Z ml_X6_62 (k_runner0 hlt hE hU hu hkd hK) hu.1 dX6_rememberOwn_34 rfl (by decide) (by decide) (by decide) (by decide) (Nat.le_of_ble_eq_true rfl) rfl rfl rfl rfl ?_
        rcases Option.eq_none_or_eq_some (c_rn ts Us none ko rc) with hk8 | ⟨k6, hk8⟩
        · refine jv_topR (y := none) (by rw [hk8]; rfl) ?_
          refine jv_callSN_I (q := 40) (h1 := h) (As := [va_rf none]) (rest := [.ref u]) (ce' := 0) (sl' := 0) (r := (-1)) G Z ml_X6_66 (jv_p1 757 (by decide +kernel) rfl) (k_nameOf0 hlt) dX6_rememberOwn_37 rfl (by decide) (by decide) (by decide) (by decide) (Nat.le_of_ble_eq_true rfl) rfl rfl rfl rfl ?_
          refine jv_putI (q := 43) G dX6_rememberOwn_40 fl_X6_27 rfl hu.1 rfl ?_
          refine jv_vret G hr dX6_rememberOwn_43 (Nat.le_of_ble_eq_true rfl) (Nat.le_of_ble_eq_true rfl) ?_
          have ecv : c_cv ts Us kd ty ko = -1 := by unfold c_cv; rw [if_neg c4]
          have eow : c_ow ts Us kd ty rc ko = -1 := by unfold c_ow; rw [if_pos c5, hk3, hk8]; exact rfl
          refine ⟨rfl, show cF (fun c => c = u) h (jv_wI h u 5 (-1)) from ((cF.rf (S := (fun c => c = u))).wI rfl 5 (-1)), hu.1, ?_, ?_, ?_, ?_, ?_, ?_⟩
          all_goals first
            | (simp [oI_o, hu.2.1, hu.2.2.1, hu.2.2.2.1, hu.2.2.2.2.1, hu.2.2.2.2.2.1, hu.2.2.2.2.2.2, ecv, eow, hcv, how]; done)
        · refine jv_topR (y := (some (T (10 * e + k6)))) (by rw [hk8]; rfl) ?_
          obtain ⟨t7, ht7, nt7⟩ := rn_get hk8
          have lt7 := jv_ltGet ht7
          have k10t7 : k6 < 10 := by have := hE.2.2.2.1; omega
          have Ot7 := (hE.2.2.2.2.1 k6 t7 ht7).2
          have Vt7 := (hE.2.2.2.2.1 k6 t7 ht7).1
          have Yt7 := hE.2.1 k6 k10t7
          have bt7n := Ot7.1; have bt7k := Ot7.2.1
          refine jv_callSN_I (q := 40) (h1 := h) (As := [.ref (T (10 * e + k6))]) (rest := [.ref u]) (ce' := 0) (sl' := 0) (r := nI (mt_n t7)) G Z ml_X6_66 (jv_p1 757 (by decide +kernel) rfl) (k_nameOf1 hlt Yt7.1 (ct_0 Vt7)) dX6_rememberOwn_37 rfl (by decide) (by decide) (by decide) (by decide) (Nat.le_of_ble_eq_true rfl) rfl rfl rfl rfl ?_
          refine jv_putI (q := 43) G dX6_rememberOwn_40 fl_X6_27 rfl hu.1 rfl ?_
          refine jv_vret G hr dX6_rememberOwn_43 (Nat.le_of_ble_eq_true rfl) (Nat.le_of_ble_eq_true rfl) ?_
          have ecv : c_cv ts Us kd ty ko = -1 := by unfold c_cv; rw [if_neg c4]
          have eow : c_ow ts Us kd ty rc ko = nI (mt_n t7) := by unfold c_ow; rw [if_pos c5, hk3, hk8]; exact (show c_nm ts (some k6) = nI (mt_n t7) by unfold c_nm; rw [Option.bind_some, ht7]; rfl)
          refine ⟨rfl, show cF (fun c => c = u) h (jv_wI h u 5 (nI (mt_n t7))) from ((cF.rf (S := (fun c => c = u))).wI rfl 5 (nI (mt_n t7))), hu.1, ?_, ?_, ?_, ?_, ?_, ?_⟩
          all_goals first
            | (simp [oI_o, hu.2.1, hu.2.2.1, hu.2.2.2.1, hu.2.2.2.2.1, hu.2.2.2.2.2.1, hu.2.2.2.2.2.2, ecv, eow, hcv, how]; done)
    · have hk1 := c4
      refine jv_aload_n (q := 15) G 1 dX6_rememberOwn_14 rfl rfl rfl ?_
      refine jv_aload_n (q := 16) G 1 dX6_rememberOwn_15 rfl rfl rfl ?_
      refine jv_aload_nR (q := 17) G 0 dX6_rememberOwn_16 rfl rfl rfl ?_
      refine jv_callV_I (q := 20) (h1 := h) (As := [va_rf none]) (rest := [.ref u]) (ce' := 0) (sl' := 0) (r := (c_ci ts none ko)) G Z ml_X6_55 (k_constantIn0 hlt hE hu hkd hK) hu.1 dX6_rememberOwn_17 rfl (by decide) (by decide) (by decide) (by decide) (Nat.le_of_ble_eq_true rfl) rfl rfl rfl rfl ?_
      refine jv_putI (q := 23) G dX6_rememberOwn_20 fl_X6_24 rfl hu.1 rfl ?_
      have hu2 : cv_use (jv_wI h u 4 (c_ci ts none ko)) u kd ty ko rc _ ow := ⟨hu.1, (oI_o _ _ _ _ _).trans ((if_neg (by decide)).trans hu.2.1), (oI_o _ _ _ _ _).trans ((if_neg (by decide)).trans hu.2.2.1), (oI_o _ _ _ _ _).trans ((if_neg (by decide)).trans hu.2.2.2.1), (oI_o _ _ _ _ _).trans ((if_neg (by decide)).trans hu.2.2.2.2.1), jv_I_self _ _ _ _, (oI_o _ _ _ _ _).trans ((if_neg (by decide)).trans hu.2.2.2.2.2.2)⟩
      refine jv_aload_n (q := 24) G 1 dX6_rememberOwn_23 rfl rfl rfl ?_
      refine jv_callV_I (q := 27) (h1 := jv_wI h u 4 (c_ci ts none ko)) (As := []) (rest := []) (ce' := 0) (sl' := 0) (r := jv_bI (m_rv kd)) G Z ml_X6_59 (k_hasReceiver hlt hu2 hkd) hu.1 dX6_rememberOwn_24 rfl (by decide) (by decide) (by decide) (by decide) (Nat.le_of_ble_eq_true rfl) rfl rfl rfl rfl ?_
      refine jv_if_eqB (q := 30) (tgt := 43) G dX6_rememberOwn_27 (by decide) rfl (fun c9 => ?_) (fun c9 => ?_)
      · refine jv_vret G hr dX6_rememberOwn_43 (Nat.le_of_ble_eq_true rfl) (Nat.le_of_ble_eq_true rfl) ?_
        have ecv : c_cv ts Us kd ty ko = c_ci ts none ko := by unfold c_cv; rw [if_pos hk1, hk3]
        have eow : c_ow ts Us kd ty rc ko = -1 := by unfold c_ow; rw [if_neg (by rw [c9]; decide)]
        refine ⟨rfl, show cF (fun c => c = u) h (jv_wI h u 4 (c_ci ts none ko)) from ((cF.rf (S := (fun c => c = u))).wI rfl 4 (c_ci ts none ko)), hu.1, ?_, ?_, ?_, ?_, ?_, ?_⟩
        all_goals first
          | (simp [oI_o, hu.2.1, hu.2.2.1, hu.2.2.2.1, hu.2.2.2.2.1, hu.2.2.2.2.2.1, hu.2.2.2.2.2.2, ecv, eow, hcv, how]; done)
      · rw [hk1] at c9; cases c9
  · refine jv_topR (y := (some (T (10 * e + k1)))) (by rw [hk3]; rfl) ?_
    obtain ⟨t2, ht2, nt2⟩ := ho_get hk3
    have lt2 := jv_ltGet ht2
    have k10t2 : k1 < 10 := by have := hE.2.2.2.1; omega
    have Ot2 := (hE.2.2.2.2.1 k1 t2 ht2).2
    have Vt2 := (hE.2.2.2.2.1 k1 t2 ht2).1
    have Yt2 := hE.2.1 k1 k10t2
    have bt2n := Ot2.1; have bt2k := Ot2.2.1
    refine jv_astore_n (q := 6) (lo' := [(2, .ref (T (10 * e + k1))), (0, .ref u), (1, .ref (z 0 e))]) G dX6_rememberOwn_5 rfl (by decide) rfl rfl ?_
    refine jv_aload_n (q := 7) G 1 dX6_rememberOwn_6 rfl rfl rfl ?_
    refine jv_getI (q := 10) G dX6_rememberOwn_7 fl_X6_9 rfl hu.1 hu.2.1 rfl ?_
    refine jv_iconst (q := 11) (v := nI 1) G dX6_rememberOwn_10 (by decide) rfl ?_
    refine jv_icmp_neN (q := 14) (tgt := 23) G dX6_rememberOwn_11 (by decide) rfl (by omega) (by omega) (fun c10 => ?_) (fun c10 => ?_)
    · refine jv_aload_n (q := 24) G 1 dX6_rememberOwn_23 rfl rfl rfl ?_
      refine jv_callV_I (q := 27) (h1 := h) (As := []) (rest := []) (ce' := 0) (sl' := 0) (r := jv_bI (m_rv kd)) G Z ml_X6_59 (k_hasReceiver hlt hu hkd) hu.1 dX6_rememberOwn_24 rfl (by decide) (by decide) (by decide) (by decide) (Nat.le_of_ble_eq_true rfl) rfl rfl rfl rfl ?_
      refine jv_if_eqB (q := 30) (tgt := 43) G dX6_rememberOwn_27 (by decide) rfl (fun c11 => ?_) (fun c11 => ?_)
      · refine jv_vret G hr dX6_rememberOwn_43 (Nat.le_of_ble_eq_true rfl) (Nat.le_of_ble_eq_true rfl) ?_
        have ecv : c_cv ts Us kd ty ko = -1 := by unfold c_cv; rw [if_neg c10]
        have eow : c_ow ts Us kd ty rc ko = -1 := by unfold c_ow; rw [if_neg (by rw [c11]; decide)]
        refine ⟨rfl, cF.rf, hu.1, ?_, ?_, ?_, ?_, ?_, ?_⟩
        all_goals first
          | (simp [oI_o, hu.2.1, hu.2.2.1, hu.2.2.2.1, hu.2.2.2.2.1, hu.2.2.2.2.2.1, hu.2.2.2.2.2.2, ecv, eow, hcv, how]; done)
      · refine jv_aload_n (q := 31) G 1 dX6_rememberOwn_30 rfl rfl rfl ?_
        refine jv_aload_n (q := 32) G 1 dX6_rememberOwn_31 rfl rfl rfl ?_
        refine jv_aload_n (q := 33) G 2 dX6_rememberOwn_32 rfl rfl rfl ?_
        refine jv_aload_n (q := 34) G 0 dX6_rememberOwn_33 rfl rfl rfl ?_
        refine jv_callV_R (q := 37) (h1 := h) (As := [.ref (z 0 e), .ref (T (10 * e + k1))]) (rest := [.ref u]) (ce' := 0) (sl' := 0) (r := ((c_rn ts Us (some k1) ko rc).map (fun k => T (10 * e + k)))) G Z ml_X6_62 (k_runner1 hlt hE hU hu hkd hK ht2) hu.1 dX6_rememberOwn_34 rfl (by decide) (by decide) (by decide) (by decide) (Nat.le_of_ble_eq_true rfl) rfl rfl rfl rfl ?_
        rcases Option.eq_none_or_eq_some (c_rn ts Us (some k1) ko rc) with hk14 | ⟨k12, hk14⟩
        · refine jv_topR (y := none) (by rw [hk14]; rfl) ?_
          refine jv_callSN_I (q := 40) (h1 := h) (As := [va_rf none]) (rest := [.ref u]) (ce' := 0) (sl' := 0) (r := (-1)) G Z ml_X6_66 (jv_p1 757 (by decide +kernel) rfl) (k_nameOf0 hlt) dX6_rememberOwn_37 rfl (by decide) (by decide) (by decide) (by decide) (Nat.le_of_ble_eq_true rfl) rfl rfl rfl rfl ?_
          refine jv_putI (q := 43) G dX6_rememberOwn_40 fl_X6_27 rfl hu.1 rfl ?_
          refine jv_vret G hr dX6_rememberOwn_43 (Nat.le_of_ble_eq_true rfl) (Nat.le_of_ble_eq_true rfl) ?_
          have ecv : c_cv ts Us kd ty ko = -1 := by unfold c_cv; rw [if_neg c10]
          have eow : c_ow ts Us kd ty rc ko = -1 := by unfold c_ow; rw [if_pos c11, hk3, hk14]; exact rfl
          refine ⟨rfl, show cF (fun c => c = u) h (jv_wI h u 5 (-1)) from ((cF.rf (S := (fun c => c = u))).wI rfl 5 (-1)), hu.1, ?_, ?_, ?_, ?_, ?_, ?_⟩
          all_goals first
            | (simp [oI_o, hu.2.1, hu.2.2.1, hu.2.2.2.1, hu.2.2.2.2.1, hu.2.2.2.2.2.1, hu.2.2.2.2.2.2, ecv, eow, hcv, how]; done)
        · refine jv_topR (y := (some (T (10 * e + k12)))) (by rw [hk14]; rfl) ?_
          obtain ⟨t13, ht13, nt13⟩ := rn_get hk14
          have lt13 := jv_ltGet ht13
          have k10t13 : k12 < 10 := by have := hE.2.2.2.1; omega
          have Ot13 := (hE.2.2.2.2.1 k12 t13 ht13).2
          have Vt13 := (hE.2.2.2.2.1 k12 t13 ht13).1
          have Yt13 := hE.2.1 k12 k10t13
          have bt13n := Ot13.1; have bt13k := Ot13.2.1
          refine jv_callSN_I (q := 40) (h1 := h) (As := [.ref (T (10 * e + k12))]) (rest := [.ref u]) (ce' := 0) (sl' := 0) (r := nI (mt_n t13)) G Z ml_X6_66 (jv_p1 757 (by decide +kernel) rfl) (k_nameOf1 hlt Yt13.1 (ct_0 Vt13)) dX6_rememberOwn_37 rfl (by decide) (by decide) (by decide) (by decide) (Nat.le_of_ble_eq_true rfl) rfl rfl rfl rfl ?_
          refine jv_putI (q := 43) G dX6_rememberOwn_40 fl_X6_27 rfl hu.1 rfl ?_
          refine jv_vret G hr dX6_rememberOwn_43 (Nat.le_of_ble_eq_true rfl) (Nat.le_of_ble_eq_true rfl) ?_
          have ecv : c_cv ts Us kd ty ko = -1 := by unfold c_cv; rw [if_neg c10]
          have eow : c_ow ts Us kd ty rc ko = nI (mt_n t13) := by unfold c_ow; rw [if_pos c11, hk3, hk14]; exact (show c_nm ts (some k12) = nI (mt_n t13) by unfold c_nm; rw [Option.bind_some, ht13]; rfl)
          refine ⟨rfl, show cF (fun c => c = u) h (jv_wI h u 5 (nI (mt_n t13))) from ((cF.rf (S := (fun c => c = u))).wI rfl 5 (nI (mt_n t13))), hu.1, ?_, ?_, ?_, ?_, ?_, ?_⟩
          all_goals first
            | (simp [oI_o, hu.2.1, hu.2.2.1, hu.2.2.2.1, hu.2.2.2.2.1, hu.2.2.2.2.2.1, hu.2.2.2.2.2.2, ecv, eow, hcv, how]; done)
    · have hk1 := c10
      refine jv_aload_n (q := 15) G 1 dX6_rememberOwn_14 rfl rfl rfl ?_
      refine jv_aload_n (q := 16) G 1 dX6_rememberOwn_15 rfl rfl rfl ?_
      refine jv_aload_n (q := 17) G 0 dX6_rememberOwn_16 rfl rfl rfl ?_
      refine jv_callV_I (q := 20) (h1 := h) (As := [.ref (T (10 * e + k1))]) (rest := [.ref u]) (ce' := 0) (sl' := 0) (r := (c_ci ts (some k1) ko)) G Z ml_X6_55 (k_constantIn1 hlt hE hu hkd hK ht2) hu.1 dX6_rememberOwn_17 rfl (by decide) (by decide) (by decide) (by decide) (Nat.le_of_ble_eq_true rfl) rfl rfl rfl rfl ?_
      refine jv_putI (q := 23) G dX6_rememberOwn_20 fl_X6_24 rfl hu.1 rfl ?_
      have hu2 : cv_use (jv_wI h u 4 (c_ci ts (some k1) ko)) u kd ty ko rc _ ow := ⟨hu.1, (oI_o _ _ _ _ _).trans ((if_neg (by decide)).trans hu.2.1), (oI_o _ _ _ _ _).trans ((if_neg (by decide)).trans hu.2.2.1), (oI_o _ _ _ _ _).trans ((if_neg (by decide)).trans hu.2.2.2.1), (oI_o _ _ _ _ _).trans ((if_neg (by decide)).trans hu.2.2.2.2.1), jv_I_self _ _ _ _, (oI_o _ _ _ _ _).trans ((if_neg (by decide)).trans hu.2.2.2.2.2.2)⟩
      refine jv_aload_n (q := 24) G 1 dX6_rememberOwn_23 rfl rfl rfl ?_
      refine jv_callV_I (q := 27) (h1 := jv_wI h u 4 (c_ci ts (some k1) ko)) (As := []) (rest := []) (ce' := 0) (sl' := 0) (r := jv_bI (m_rv kd)) G Z ml_X6_59 (k_hasReceiver hlt hu2 hkd) hu.1 dX6_rememberOwn_24 rfl (by decide) (by decide) (by decide) (by decide) (Nat.le_of_ble_eq_true rfl) rfl rfl rfl rfl ?_
      refine jv_if_eqB (q := 30) (tgt := 43) G dX6_rememberOwn_27 (by decide) rfl (fun c15 => ?_) (fun c15 => ?_)
      · refine jv_vret G hr dX6_rememberOwn_43 (Nat.le_of_ble_eq_true rfl) (Nat.le_of_ble_eq_true rfl) ?_
        have ecv : c_cv ts Us kd ty ko = c_ci ts (some k1) ko := by unfold c_cv; rw [if_pos hk1, hk3]
        have eow : c_ow ts Us kd ty rc ko = -1 := by unfold c_ow; rw [if_neg (by rw [c15]; decide)]
        refine ⟨rfl, show cF (fun c => c = u) h (jv_wI h u 4 (c_ci ts (some k1) ko)) from ((cF.rf (S := (fun c => c = u))).wI rfl 4 (c_ci ts (some k1) ko)), hu.1, ?_, ?_, ?_, ?_, ?_, ?_⟩
        all_goals first
          | (simp [oI_o, hu.2.1, hu.2.2.1, hu.2.2.2.1, hu.2.2.2.2.1, hu.2.2.2.2.2.1, hu.2.2.2.2.2.2, ecv, eow, hcv, how]; done)
      · rw [hk1] at c15; cases c15
