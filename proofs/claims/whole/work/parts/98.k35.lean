def m_okf (t : mT) (m : mM) : Nat := if mm_w m then (if mm_t m then 3 else if mt_i t then 4 else 2) else (if mm_t m then 1 else 0)
def c_kf (ts : List mT) (w : Bool) (g : Nat) (U : List Nat) : Nat → Nat
  | 0 => g
  | j + 1 => c_kf ts w g U j ||| (match (U[j]?).bind (fun v => m_ty1 ts v) with | none => 0 | some t => m_ks w (mt_m t))
set_option maxHeartbeats 4000000 in
set_option maxRecDepth 100000 in
theorem k_onlyKindFor {lA : Launch} (hlt : lA.stackTraces = false) {D : jv_D} {base : Nat} {z : Nat → Nat → Nat} {N : Nat → Nat → Nat} {h : jv_H} {a c : Nat} {t : mT} {m : mM} (tl : cl_t z N h a) (hv : cv_T z N h a t) (hs : jv_sh h c = some (.inl 3)) (hm : cv_M h c m) : jv_Met lA D base yX4_onlyKindFor (.code yX4_onlyKindFor cX4_onlyKindFor 2 (some .int)) 1 0 0 [.ref a, .ref c] h (jv_rI (nI (m_okf t m)) h) jv_no := by
  refine jv_ofV (lo := [(0, .ref a), (1, .ref c)]) hlt (by decide) (Nat.le_of_ble_eq_true rfl) rfl (fun E hEl hEd hEz Z G hr ht hnm => ?_)
  subst hEl; subst hEd; subst hEz
  refine jv_aload_n (q := 1) G 1 dX4_onlyKindFor_0 rfl rfl rfl ?_
  refine jv_getZ (q := 4) G dX4_onlyKindFor_1 fl_X4_101 rfl hs hm.1 rfl ?_
  refine jv_if_neB (q := 7) (tgt := 20) G dX4_onlyKindFor_4 (by decide) rfl (fun c1 => ?_) (fun c1 => ?_)
  · refine jv_aload_n (q := 21) G 1 dX4_onlyKindFor_20 rfl rfl rfl ?_
    refine jv_getZ (q := 24) G dX4_onlyKindFor_21 fl_X4_104 rfl hs hm.2.2.1 rfl ?_
    refine jv_if_eqB (q := 27) (tgt := 29) G dX4_onlyKindFor_24 (by decide) rfl (fun c2 => ?_) (fun c2 => ?_)
    · refine jv_aload_n (q := 30) G 0 dX4_onlyKindFor_29 rfl rfl rfl ?_
      refine jv_getZ (q := 33) G dX4_onlyKindFor_30 fl_X4_107 rfl tl.1 (ct_1 hv) rfl ?_
      refine jv_if_eqB (q := 36) (tgt := 40) G dX4_onlyKindFor_33 (by decide) rfl (fun c3 => ?_) (fun c3 => ?_)
      · refine jv_iconst (q := 41) (v := nI 2) G dX4_onlyKindFor_40 (by decide) rfl ?_
        refine jv_iret G hr dX4_onlyKindFor_41 (Nat.le_of_ble_eq_true rfl) (Nat.le_of_ble_eq_true rfl) ?_
        refine ⟨?_, rfl⟩; unfold m_okf; simp [c1, c2, c3]
      · refine jv_iconst (q := 37) (v := nI 4) G dX4_onlyKindFor_36 (by decide) rfl ?_
        refine jv_goto (q := 41) G dX4_onlyKindFor_37 (by decide) ?_
        refine jv_iret G hr dX4_onlyKindFor_41 (Nat.le_of_ble_eq_true rfl) (Nat.le_of_ble_eq_true rfl) ?_
        refine ⟨?_, rfl⟩; unfold m_okf; simp [c1, c2, c3]
    · refine jv_iconst (q := 28) (v := nI 3) G dX4_onlyKindFor_27 (by decide) rfl ?_
      refine jv_iret G hr dX4_onlyKindFor_28 (Nat.le_of_ble_eq_true rfl) (Nat.le_of_ble_eq_true rfl) ?_
      refine ⟨?_, rfl⟩; unfold m_okf; simp [c1, c2]
  · refine jv_aload_n (q := 8) G 1 dX4_onlyKindFor_7 rfl rfl rfl ?_
    refine jv_getZ (q := 11) G dX4_onlyKindFor_8 fl_X4_104 rfl hs hm.2.2.1 rfl ?_
    refine jv_if_eqB (q := 14) (tgt := 18) G dX4_onlyKindFor_11 (by decide) rfl (fun c4 => ?_) (fun c4 => ?_)
    · refine jv_iconst (q := 19) (v := nI 0) G dX4_onlyKindFor_18 (by decide) rfl ?_
      refine jv_iret G hr dX4_onlyKindFor_19 (Nat.le_of_ble_eq_true rfl) (Nat.le_of_ble_eq_true rfl) ?_
      refine ⟨?_, rfl⟩; unfold m_okf; simp [c1, c4]
    · refine jv_iconst (q := 15) (v := nI 1) G dX4_onlyKindFor_14 (by decide) rfl ?_
      refine jv_goto (q := 19) G dX4_onlyKindFor_15 (by decide) ?_
      refine jv_iret G hr dX4_onlyKindFor_19 (Nat.le_of_ble_eq_true rfl) (Nat.le_of_ble_eq_true rfl) ?_
      refine ⟨?_, rfl⟩; unfold m_okf; simp [c1, c4]
set_option maxHeartbeats 4000000 in
set_option maxRecDepth 100000 in
theorem k_kf_loop {E : jv_E} {z : Nat → Nat → Nat} {T : Nat → Nat} {N : Nat → Nat → Nat} {h : jv_H} {e : Nat} {ts : List mT} (hE : cv_E z T N h e ts) {Us : Nat → List Nat} (hU : cv_Us z T h e ts Us) {k0 : Nat} {t0 : mT} (ht0 : ts[k0]? = some t0) {w : Bool} (hlt : (jv_l E).stackTraces = false) (G : jv_C E cX4_keysFrom RX4 7) (Z : jv_rm E = jv_room 2 0 0) (hr : (jv_mt E).sig.returnType = some .long) : ∀ (n i : Nat), i + n = (Us k0).length → jv_V E 7 h 0 0 (jv_Q E (jv_rL (lN (c_kf ts w (m_ks w (mt_m t0)) (Us k0) (Us k0).length)) h) jv_no 0 0) 9 [(5, .int (nI i)), (3, .long (lN (c_kf ts w (m_ks w (mt_m t0)) (Us k0) i))), (0, .ref (z 0 e)), (1, .ref (T (10 * e + k0))), (2, .int (jv_bI w))] [] := by
  intro n
  induction n with
  | zero =>
    intro i hn
    have lt0 := jv_ltGet ht0
    have k10t0 : k0 < 10 := by have := hE.2.2.2.1; omega
    have Ot0 := (hE.2.2.2.2.1 k0 t0 ht0).2
    have Vt0 := (hE.2.2.2.2.1 k0 t0 ht0).1
    have Yt0 := hE.2.1 k0 k10t0
    have bt0n := Ot0.1; have bt0k := Ot0.2.1
    have Ut0 := hU k0 lt0
    have umt0 := um_lt Ut0.2.2
    have ult0 := Ut0.2.1
    refine jv_iload (q := 11) G 0 dX4_keysFrom_9 rfl rfl ?_
    refine jv_aload_n (q := 12) G 3 dX4_keysFrom_11 rfl rfl rfl ?_
    refine jv_getI (q := 15) G dX4_keysFrom_12 fl_X4_90 rfl (hE.2.1 k0 k10t0).1 Ut0.1.1 rfl ?_
    refine jv_icmp_geN (q := 18) (tgt := 51) G dX4_keysFrom_15 (by decide) rfl (by omega) (by omega) (fun c1 => ?_) (fun c1 => ?_)
    · refine jv_lload_n (q := 52) G 1 dX4_keysFrom_51 rfl rfl rfl ?_
      refine jv_lret G hr dX4_keysFrom_52 (Nat.le_of_ble_eq_true rfl) (Nat.le_of_ble_eq_true rfl) ?_
      rw [show i = (Us k0).length by omega]; exact ⟨rfl, rfl⟩
    · omega
  | succ n ih =>
    intro i hn
    have lt0 := jv_ltGet ht0
    have k10t0 : k0 < 10 := by have := hE.2.2.2.1; omega
    have Ot0 := (hE.2.2.2.2.1 k0 t0 ht0).2
    have Vt0 := (hE.2.2.2.2.1 k0 t0 ht0).1
    have Yt0 := hE.2.1 k0 k10t0
    have bt0n := Ot0.1; have bt0k := Ot0.2.1
    have Ut0 := hU k0 lt0
    have umt0 := um_lt Ut0.2.2
    have ult0 := Ut0.2.1
    obtain ⟨v, hv⟩ := jv_getLt (l := Us k0) (k := i) (by omega)
    have hf := Ut0.1.2.2 i v hv
    refine jv_iload (q := 11) G 0 dX4_keysFrom_9 rfl rfl ?_
    refine jv_aload_n (q := 12) G 3 dX4_keysFrom_11 rfl rfl rfl ?_
    refine jv_getI (q := 15) G dX4_keysFrom_12 fl_X4_90 rfl (hE.2.1 k0 k10t0).1 Ut0.1.1 rfl ?_
    refine jv_icmp_geN (q := 18) (tgt := 51) G dX4_keysFrom_15 (by decide) rfl (by omega) (by omega) (fun c1 => ?_) (fun c1 => ?_)
    · omega
    · refine jv_aload_n (q := 19) G 2 dX4_keysFrom_18 rfl rfl rfl ?_
      refine jv_aload_n (q := 20) G 3 dX4_keysFrom_19 rfl rfl rfl ?_
      refine jv_getQ (q := 23) G dX4_keysFrom_20 fl_X4_93 rfl (hE.2.1 k0 k10t0).1 (hE.2.1 k0 k10t0).2.2.2.2.2.1 rfl ?_
      refine jv_iload (q := 25) G 0 dX4_keysFrom_23 rfl rfl ?_
      refine jv_iald (q := 26) G dX4_keysFrom_25 (hE.2.1 k0 k10t0).2.2.2.2.2.2.1 rfl (by omega) (by decide) hf rfl ?_
      refine jv_callV_R (q := 29) (h1 := h) (As := [.int (nI v)]) (rest := []) (ce' := 0) (sl' := 0) (r := ((m_at ts (nI v)).map (fun k => T (10 * e + k)))) G Z ml_X4_97 (k_named hlt hE) hE.1.1 dX4_keysFrom_26 rfl (by decide) (by decide) (by decide) (by decide) (Nat.le_of_ble_eq_true rfl) rfl rfl rfl rfl ?_
      rcases Option.eq_none_or_eq_some (m_at ts (nI v)) with hk4 | ⟨k2, hk4⟩
      · refine jv_topR (y := none) (by rw [hk4]; rfl) ?_
        refine jv_astoreR (q := 31) (lo' := [(6, va_rf none), (5, .int (nI i)), (3, .long (lN (c_kf ts w (m_ks w (mt_m t0)) (Us k0) i))), (0, .ref (z 0 e)), (1, .ref (T (10 * e + k0))), (2, .int (jv_bI w))]) (x := none) G dX4_keysFrom_29 (by decide) rfl rfl ?_
        refine jv_aloadR (q := 33) G 0 dX4_keysFrom_31 rfl rfl ?_
        refine jv_ifnull (q := 36) (tgt := 45) (x := none) G dX4_keysFrom_33 (by decide) rfl (fun c5 => ?_) (fun a6 c5 => ?_)
        · refine jv_iinc (q := 48) (lo' := [(5, .int (nI (i + 1))), (6, va_rf none), (3, .long (lN (c_kf ts w (m_ks w (mt_m t0)) (Us k0) i))), (0, .ref (z 0 e)), (1, .ref (T (10 * e + k0))), (2, .int (jv_bI w))]) (v := nI (i + 1)) G 1 dX4_keysFrom_45 rfl (nI_1 i) (by decide) rfl rfl ?_
          refine jv_goto (q := 9) G dX4_keysFrom_48 (by decide) ?_
          refine jv_lo [0, 2, 3, 4, 5] (lo' := [(5, .int (nI (i + 1))), (3, .long (lN (c_kf ts w (m_ks w (mt_m t0)) (Us k0) i))), (0, .ref (z 0 e)), (1, .ref (T (10 * e + k0))), (2, .int (jv_bI w))]) rfl ?_
          have ec : (c_kf ts w (m_ks w (mt_m t0)) (Us k0) i) = (c_kf ts w (m_ks w (mt_m t0)) (Us k0) (i + 1)) := by
            rw [c_kf, hv, Option.bind_some, ty1_n hk4]; exact (Nat.or_zero _).symm
          rw [ec]; exact ih (i + 1) (by omega)
        · cases c5
      · refine jv_topR (y := (some (T (10 * e + k2)))) (by rw [hk4]; rfl) ?_
        obtain ⟨t3, ht3, nt3⟩ := m_at_get hk4
        have lt3 := jv_ltGet ht3
        have k10t3 : k2 < 10 := by have := hE.2.2.2.1; omega
        have Ot3 := (hE.2.2.2.2.1 k2 t3 ht3).2
        have Vt3 := (hE.2.2.2.2.1 k2 t3 ht3).1
        have Yt3 := hE.2.1 k2 k10t3
        have bt3n := Ot3.1; have bt3k := Ot3.2.1
        refine jv_astore (q := 31) (lo' := [(6, .ref (T (10 * e + k2))), (5, .int (nI i)), (3, .long (lN (c_kf ts w (m_ks w (mt_m t0)) (Us k0) i))), (0, .ref (z 0 e)), (1, .ref (T (10 * e + k0))), (2, .int (jv_bI w))]) G dX4_keysFrom_29 (by decide) rfl rfl ?_
        refine jv_aload (q := 33) G 0 dX4_keysFrom_31 rfl rfl ?_
        refine jv_ifnull (q := 36) (tgt := 45) (x := (some (T (10 * e + k2)))) G dX4_keysFrom_33 (by decide) rfl (fun c7 => ?_) (fun a8 c7 => ?_)
        · cases c7
        · refine jv_lload_n (q := 37) G 2 dX4_keysFrom_36 rfl rfl rfl ?_
          refine jv_aload (q := 39) G 0 dX4_keysFrom_37 rfl rfl ?_
          refine jv_iload_n (q := 40) G 5 dX4_keysFrom_39 rfl rfl rfl ?_
          refine jv_callV_L (q := 43) (h1 := h) (As := [.int (jv_bI w)]) (rest := [.long (lN (c_kf ts w (m_ks w (mt_m t0)) (Us k0) i))]) (ce' := 0) (sl' := 0) G Z ml_X4_86 (k_keys hlt Yt3 Vt3 Ot3) (hE.2.1 k2 k10t3).1 dX4_keysFrom_40 rfl (by decide) (by decide) (by decide) (by decide) (Nat.le_of_ble_eq_true rfl) rfl rfl rfl rfl ?_
          refine jv_lor (q := 44) G dX4_keysFrom_43 rfl ?_
          refine jv_topL (y := lN ((c_kf ts w (m_ks w (mt_m t0)) (Us k0) i) ||| m_ks w (mt_m t3))) (fb_orN _ _) ?_
          refine jv_lstore_n (q := 45) (lo' := [(3, .long (lN ((c_kf ts w (m_ks w (mt_m t0)) (Us k0) i) ||| m_ks w (mt_m t3)))), (6, .ref (T (10 * e + k2))), (5, .int (nI i)), (0, .ref (z 0 e)), (1, .ref (T (10 * e + k0))), (2, .int (jv_bI w))]) G dX4_keysFrom_44 rfl (by decide) rfl rfl ?_
          refine jv_iinc (q := 48) (lo' := [(5, .int (nI (i + 1))), (3, .long (lN ((c_kf ts w (m_ks w (mt_m t0)) (Us k0) i) ||| m_ks w (mt_m t3)))), (6, .ref (T (10 * e + k2))), (0, .ref (z 0 e)), (1, .ref (T (10 * e + k0))), (2, .int (jv_bI w))]) (v := nI (i + 1)) G 2 dX4_keysFrom_45 rfl (nI_1 i) (by decide) rfl rfl ?_
          refine jv_goto (q := 9) G dX4_keysFrom_48 (by decide) ?_
          refine jv_lo [0, 1, 3, 4, 5] (lo' := [(5, .int (nI (i + 1))), (3, .long (lN ((c_kf ts w (m_ks w (mt_m t0)) (Us k0) i) ||| m_ks w (mt_m t3)))), (0, .ref (z 0 e)), (1, .ref (T (10 * e + k0))), (2, .int (jv_bI w))]) rfl ?_
          have ec : ((c_kf ts w (m_ks w (mt_m t0)) (Us k0) i) ||| m_ks w (mt_m t3)) = (c_kf ts w (m_ks w (mt_m t0)) (Us k0) (i + 1)) := by
            rw [c_kf, hv, Option.bind_some, ty1_s hk4 ht3]
          rw [ec]; exact ih (i + 1) (by omega)
set_option maxHeartbeats 4000000 in
set_option maxRecDepth 100000 in
theorem k_keysFrom {lA : Launch} (hlt : lA.stackTraces = false) {D : jv_D} {base : Nat} {z : Nat → Nat → Nat} {T : Nat → Nat} {N : Nat → Nat → Nat} {h : jv_H} {e : Nat} {ts : List mT} (hE : cv_E z T N h e ts) {Us : Nat → List Nat} (hU : cv_Us z T h e ts Us) {k0 : Nat} {t0 : mT} (ht0 : ts[k0]? = some t0) {w : Bool} : jv_Met lA D base yX4_keysFrom (.code yX4_keysFrom cX4_keysFrom 7 (some .long)) 2 0 0 [.ref (z 0 e), .ref (T (10 * e + k0)), .int (jv_bI w)] h (jv_rL (lN (c_kf ts w (m_ks w (mt_m t0)) (Us k0) (Us k0).length)) h) jv_no := by
  refine jv_ofV (lo := [(0, .ref (z 0 e)), (1, .ref (T (10 * e + k0))), (2, .int (jv_bI w))]) hlt (by decide) (Nat.le_of_ble_eq_true rfl) rfl (fun E hEl hEd hEz Z G hr ht hnm => ?_)
  subst hEl; subst hEd; subst hEz
  have lt0 := jv_ltGet ht0
  have k10t0 : k0 < 10 := by have := hE.2.2.2.1; omega
  have Ot0 := (hE.2.2.2.2.1 k0 t0 ht0).2
  have Vt0 := (hE.2.2.2.2.1 k0 t0 ht0).1
  have Yt0 := hE.2.1 k0 k10t0
  have bt0n := Ot0.1; have bt0k := Ot0.2.1
  refine jv_aload_n (q := 1) G 1 dX4_keysFrom_0 rfl rfl rfl ?_
  refine jv_iload_n (q := 2) G 2 dX4_keysFrom_1 rfl rfl rfl ?_
  refine jv_callV_L (q := 5) (h1 := h) (As := [.int (jv_bI w)]) (rest := []) (ce' := 0) (sl' := 0) G Z ml_X4_86 (k_keys hlt Yt0 Vt0 Ot0) (hE.2.1 k0 k10t0).1 dX4_keysFrom_2 rfl (by decide) (by decide) (by decide) (by decide) (Nat.le_of_ble_eq_true rfl) rfl rfl rfl rfl ?_
  refine jv_lstore_n (q := 6) (lo' := [(3, .long (lN (m_ks w (mt_m t0)))), (0, .ref (z 0 e)), (1, .ref (T (10 * e + k0))), (2, .int (jv_bI w))]) G dX4_keysFrom_5 rfl (by decide) rfl rfl ?_
  refine jv_iconst (q := 7) (v := nI 0) G dX4_keysFrom_6 (by decide) rfl ?_
  refine jv_istore (q := 9) (lo' := [(5, .int (nI 0)), (3, .long (lN (m_ks w (mt_m t0)))), (0, .ref (z 0 e)), (1, .ref (T (10 * e + k0))), (2, .int (jv_bI w))]) G dX4_keysFrom_7 (by decide) rfl rfl ?_
  show jv_V E 7 h 0 0 (jv_Q E (jv_rL (lN (c_kf ts w (m_ks w (mt_m t0)) (Us k0) (Us k0).length)) h) jv_no 0 0) 9 [(5, .int (nI 0)), (3, .long (lN (c_kf ts w (m_ks w (mt_m t0)) (Us k0) 0))), (0, .ref (z 0 e)), (1, .ref (T (10 * e + k0))), (2, .int (jv_bI w))] []
  exact k_kf_loop hE hU ht0 hlt G Z hr (Us k0).length 0 (by omega)
