theorem iN_bit {n k : Nat} (hn : n < 2 ^ 31) (hk : k < 32) : (((nI n).toUInt32 >>> ((nI k).toUInt32 &&& Int32.toUInt32 31)).toInt32 &&& nI 1) = 0 ↔ n.testBit k = false := by
  have hk2 : ((nI k).toUInt32 &&& Int32.toUInt32 31).toNat = k := by
    have h2 : (nI k).toUInt32.toNat = k := by
      show (UInt32.ofNat k).toNat = k
      rw [UInt32.toNat_ofNat']
      omega
    rw [UInt32.toNat_and, h2]
    have h3 : (Int32.toUInt32 31).toNat = 2 ^ 5 - 1 := by decide
    rw [h3, Nat.and_two_pow_sub_one_eq_mod]
    omega
  have hn2 : (nI n).toUInt32.toNat = n := by
    show (UInt32.ofNat n).toNat = _
    rw [UInt32.toNat_ofNat']
    omega
  have key : (((nI n).toUInt32 >>> ((nI k).toUInt32 &&& Int32.toUInt32 31)).toInt32 &&& nI 1).toUInt32.toNat = (n >>> k) % 2 := by
    show (((nI n).toUInt32 >>> ((nI k).toUInt32 &&& Int32.toUInt32 31)) &&& 1).toNat = _
    rw [UInt32.toNat_and, UInt32.toNat_shiftRight, hk2, hn2, Nat.mod_eq_of_lt hk]
    have h4 : (1 : UInt32).toNat = 2 ^ 1 - 1 := by decide
    rw [h4, Nat.and_two_pow_sub_one_eq_mod]
  have inj : ∀ a b : Int32, a.toUInt32.toNat = b.toUInt32.toNat → a = b := fun a b e => by
    cases a; cases b
    exact congrArg Int32.ofUInt32 (UInt32.toNat_inj.mp e)
  have hz : ((((nI n).toUInt32 >>> ((nI k).toUInt32 &&& Int32.toUInt32 31)).toInt32 &&& nI 1) = 0) ↔ (n >>> k) % 2 = 0 := by
    rw [← key]
    exact ⟨fun e => by rw [e]; rfl, fun e => inj _ _ e⟩
  rw [hz, Nat.testBit_eq_decide_div_mod_eq, Nat.shiftRight_eq_div_pow]
  simp
theorem iN_bf {n k : Nat} (hn : n < 2 ^ 31) (hk : k < 32) (h : ¬ (((nI n).toUInt32 >>> ((nI k).toUInt32 &&& Int32.toUInt32 31)).toInt32 &&& nI 1) = 0) : n.testBit k = true := by
  cases hb : n.testBit k with
  | true => rfl
  | false => exact absurd ((iN_bit hn hk).mpr hb) h
def m_has (t : mT) (w : Bool) (ko : Option Nat) : Bool := ko.any (fun K => (m_ks w (mt_m t)).testBit K)
set_option maxHeartbeats 4000000 in
set_option maxRecDepth 100000 in
theorem k_keys {lA : Launch} (hlt : lA.stackTraces = false) {D : jv_D} {base : Nat} {z : Nat → Nat → Nat} {N : Nat → Nat → Nat} {h : jv_H} {a : Nat} {t : mT} (tl : cl_t z N h a) (hv : cv_T z N h a t) (ho : mt_ok t) {w : Bool} : jv_Met lA D base yX5_keys (.code yX5_keys cX5_keys 2 (some .long)) 1 0 0 [.ref a, .int (jv_bI w)] h (jv_rL (lN (m_ks w (mt_m t))) h) jv_no := by
  refine jv_ofV (lo := [(0, .ref a), (1, .int (jv_bI w))]) hlt (by decide) (Nat.le_of_ble_eq_true rfl) rfl (fun E hEl hEd hEz Z G hr ht hnm => ?_)
  subst hEl; subst hEd; subst hEz
  refine jv_iload_n (q := 1) G 1 dX5_keys_0 rfl rfl rfl ?_
  refine jv_if_eqB (q := 4) (tgt := 11) G dX5_keys_1 (by decide) rfl (fun c1 => ?_) (fun c1 => ?_)
  · refine jv_aload_n (q := 12) G 0 dX5_keys_11 rfl rfl rfl ?_
    refine jv_getL (q := 15) G dX5_keys_12 fl_X5_51 rfl tl.1 (ct_10 hv) rfl ?_
    refine jv_lret G hr dX5_keys_15 (Nat.le_of_ble_eq_true rfl) (Nat.le_of_ble_eq_true rfl) ?_
    refine ⟨?_, rfl⟩; rw [c1]
  · refine jv_aload_n (q := 5) G 0 dX5_keys_4 rfl rfl rfl ?_
    refine jv_getL (q := 8) G dX5_keys_5 fl_X5_55 rfl tl.1 (ct_11 hv) rfl ?_
    refine jv_goto (q := 15) G dX5_keys_8 (by decide) ?_
    refine jv_lret G hr dX5_keys_15 (Nat.le_of_ble_eq_true rfl) (Nat.le_of_ble_eq_true rfl) ?_
    refine ⟨?_, rfl⟩; rw [c1]
set_option maxHeartbeats 4000000 in
set_option maxRecDepth 100000 in
theorem k_has {lA : Launch} (hlt : lA.stackTraces = false) {D : jv_D} {base : Nat} {z : Nat → Nat → Nat} {N : Nat → Nat → Nat} {h : jv_H} {a : Nat} {t : mT} (tl : cl_t z N h a) (hv : cv_T z N h a t) (ho : mt_ok t) {w : Bool} {ko : Option Nat} (hK : ∀ K, ko = some K → K < 64) : jv_Met lA D base yX5_has (.code yX5_has cX5_has 3 (some .boolean)) 1 0 0 [.ref a, .int (jv_bI w), .int (jv_oN ko)] h (jv_rI (jv_bI (m_has t w ko)) h) jv_no := by
  refine jv_ofV (lo := [(0, .ref a), (1, .int (jv_bI w)), (2, .int (jv_oN ko))]) hlt (by decide) (Nat.le_of_ble_eq_true rfl) rfl (fun E hEl hEd hEz Z G hr ht hnm => ?_)
  subst hEl; subst hEd; subst hEz
  cases ko with
  | none =>
    show jv_V E 3 h 0 0 (jv_Q E (jv_rI (jv_bI (m_has t w none)) h) jv_no 0 0) 0 [(0, .ref a), (1, .int (jv_bI w)), (2, .int (-1))] []
    refine jv_iload_n (q := 1) G 2 dX5_has_0 rfl rfl rfl ?_
    refine jv_iconst (q := 2) (v := (-1)) G dX5_has_1 (by decide) rfl ?_
    refine jv_icmp_eq (q := 5) (tgt := 33) G dX5_has_2 (by decide) rfl (fun c1 => ?_) (fun c1 => ?_)
    · refine jv_iconst (q := 34) (v := nI 0) G dX5_has_33 (by decide) rfl ?_
      refine jv_topI (y := jv_bI false) rfl ?_
      refine jv_zret G hr dX5_has_34 (Nat.le_of_ble_eq_true rfl) (Nat.le_of_ble_eq_true rfl) ?_
      exact ⟨rfl, rfl⟩
    · exact absurd rfl c1
  | some K =>
    have hK64 := hK K rfl
    show jv_V E 3 h 0 0 (jv_Q E (jv_rI (jv_bI (m_has t w (some K))) h) jv_no 0 0) 0 [(0, .ref a), (1, .int (jv_bI w)), (2, .int (nI K))] []
    refine jv_iload_n (q := 1) G 2 dX5_has_0 rfl rfl rfl ?_
    refine jv_iconst (q := 2) (v := (-1)) G dX5_has_1 (by decide) rfl ?_
    refine jv_icmp_eq (q := 5) (tgt := 33) G dX5_has_2 (by decide) rfl (fun c2 => ?_) (fun c2 => ?_)
    · exact absurd c2 (jv_nI_m1 (by omega))
    · refine jv_iload_n (q := 6) G 1 dX5_has_5 rfl rfl rfl ?_
      refine jv_if_eqB (q := 9) (tgt := 16) G dX5_has_6 (by decide) rfl (fun c3 => ?_) (fun c3 => ?_)
      · refine jv_aload_n (q := 17) G 0 dX5_has_16 rfl rfl rfl ?_
        refine jv_getL (q := 20) G dX5_has_17 fl_X5_51 rfl tl.1 (ct_10 hv) rfl ?_
        refine jv_iload_n (q := 21) G 2 dX5_has_20 rfl rfl rfl ?_
        refine jv_lushr (q := 22) G dX5_has_21 rfl rfl ?_
        refine jv_lconst (q := 23) (v := 1) G dX5_has_22 (by decide) rfl ?_
        refine jv_land (q := 24) G dX5_has_23 rfl ?_
        refine jv_lconst (q := 25) (v := 0) G dX5_has_24 (by decide) rfl ?_
        refine jv_lcmp (q := 26) G dX5_has_25 rfl rfl ?_
        refine jv_if_eq (q := 29) (tgt := 33) G dX5_has_26 (by decide) rfl (fun c4 => ?_) (fun c4 => ?_)
        · have hb := lg_bt hK64 c4
          refine jv_iconst (q := 34) (v := nI 0) G dX5_has_33 (by decide) rfl ?_
          refine jv_topI (y := jv_bI false) rfl ?_
          refine jv_zret G hr dX5_has_34 (Nat.le_of_ble_eq_true rfl) (Nat.le_of_ble_eq_true rfl) ?_
          refine ⟨?_, rfl⟩; show _ = some (Value.int (jv_bI ((m_ks w (mt_m t)).testBit K))); rw [c3, hb]
        · have hb := lg_bf hK64 c4
          refine jv_iconst (q := 30) (v := nI 1) G dX5_has_29 (by decide) rfl ?_
          refine jv_goto (q := 34) G dX5_has_30 (by decide) ?_
          refine jv_topI (y := jv_bI true) rfl ?_
          refine jv_zret G hr dX5_has_34 (Nat.le_of_ble_eq_true rfl) (Nat.le_of_ble_eq_true rfl) ?_
          refine ⟨?_, rfl⟩; show _ = some (Value.int (jv_bI ((m_ks w (mt_m t)).testBit K))); rw [c3, hb]
      · refine jv_aload_n (q := 10) G 0 dX5_has_9 rfl rfl rfl ?_
        refine jv_getL (q := 13) G dX5_has_10 fl_X5_55 rfl tl.1 (ct_11 hv) rfl ?_
        refine jv_goto (q := 20) G dX5_has_13 (by decide) ?_
        refine jv_iload_n (q := 21) G 2 dX5_has_20 rfl rfl rfl ?_
        refine jv_lushr (q := 22) G dX5_has_21 rfl rfl ?_
        refine jv_lconst (q := 23) (v := 1) G dX5_has_22 (by decide) rfl ?_
        refine jv_land (q := 24) G dX5_has_23 rfl ?_
        refine jv_lconst (q := 25) (v := 0) G dX5_has_24 (by decide) rfl ?_
        refine jv_lcmp (q := 26) G dX5_has_25 rfl rfl ?_
        refine jv_if_eq (q := 29) (tgt := 33) G dX5_has_26 (by decide) rfl (fun c5 => ?_) (fun c5 => ?_)
        · have hb := lg_bt hK64 c5
          refine jv_iconst (q := 34) (v := nI 0) G dX5_has_33 (by decide) rfl ?_
          refine jv_topI (y := jv_bI false) rfl ?_
          refine jv_zret G hr dX5_has_34 (Nat.le_of_ble_eq_true rfl) (Nat.le_of_ble_eq_true rfl) ?_
          refine ⟨?_, rfl⟩; show _ = some (Value.int (jv_bI ((m_ks w (mt_m t)).testBit K))); rw [c3, hb]
        · have hb := lg_bf hK64 c5
          refine jv_iconst (q := 30) (v := nI 1) G dX5_has_29 (by decide) rfl ?_
          refine jv_goto (q := 34) G dX5_has_30 (by decide) ?_
          refine jv_topI (y := jv_bI true) rfl ?_
          refine jv_zret G hr dX5_has_34 (Nat.le_of_ble_eq_true rfl) (Nat.le_of_ble_eq_true rfl) ?_
          refine ⟨?_, rfl⟩; show _ = some (Value.int (jv_bI ((m_ks w (mt_m t)).testBit K))); rw [c3, hb]
set_option maxHeartbeats 4000000 in
set_option maxRecDepth 100000 in
theorem k_own_loop {E : jv_E} {z : Nat → Nat → Nat} {N : Nat → Nat → Nat} {h : jv_H} {a : Nat} {t : mT} (tl : cl_t z N h a) (hv : cv_T z N h a t) (ho : mt_ok t) {w : Bool} {ko : Option Nat} (hK : ∀ K, ko = some K → K < 64) (G : jv_C E cX5_own RX5 4) (hr : (jv_mt E).sig.returnType = some (.object "LinkArchive$Member")) : ∀ (n j : Nat), j + n = (mt_m t).length → (∀ v, v < j → (fun j => ((mt_m t)[j]?).any (fun m => decide (mm_w m = w ∧ some (4 * mm_n m + mm_s m) = ko))) v = false) → jv_V E 4 h 0 0 (jv_Q E (jv_rR ((m_oc t w ko).map (N a)) h) jv_no 0 0) 2 [(3, .int (nI j)), (0, .ref a), (1, .int (jv_bI w)), (2, .int (jv_oN ko))] [] := by
  have hl6 := ho.2.2.2.2.2.1; have hl3 := ho.2.2.2.1
  intro n
  induction n with
  | zero =>
    intro j hn hp
    refine jv_iload_n (q := 3) G 0 dX5_own_2 rfl rfl rfl ?_
    refine jv_aload_n (q := 4) G 1 dX5_own_3 rfl rfl rfl ?_
    refine jv_getI (q := 7) G dX5_own_4 fl_X5_48 rfl tl.1 (ct_9 hv) rfl ?_
    refine jv_icmp_geN (q := 10) (tgt := 49) G dX5_own_7 (by decide) rfl (by omega) (by omega) (fun c1 => ?_) (fun c1 => ?_)
    · refine jv_null (q := 50) G dX5_own_49 rfl ?_
      refine jv_aretN G hr dX5_own_50 (Nat.le_of_ble_eq_true rfl) (Nat.le_of_ble_eq_true rfl) ?_
      refine ⟨?_, rfl⟩
      rw [show m_oc t w ko = none from sf_none.mpr (fun v _ hv2 => hp v (by omega))]; rfl
    · omega
  | succ n ih =>
    intro j hn hp
    obtain ⟨m, hm⟩ := jv_getLt (l := mt_m t) (k := j) (by omega)
    have hj6 : j < 6 := by omega
    have hM := ct_m hv hm
    have hO := ho.2.2.2.2.2.2 m (List.mem_of_getElem? hm)
    have h16 := hO.1; have h4 := hO.2.1
    refine jv_iload_n (q := 3) G 0 dX5_own_2 rfl rfl rfl ?_
    refine jv_aload_n (q := 4) G 1 dX5_own_3 rfl rfl rfl ?_
    refine jv_getI (q := 7) G dX5_own_4 fl_X5_48 rfl tl.1 (ct_9 hv) rfl ?_
    refine jv_icmp_geN (q := 10) (tgt := 49) G dX5_own_7 (by decide) rfl (by omega) (by omega) (fun c1 => ?_) (fun c1 => ?_)
    · omega
    · refine jv_aload_n (q := 11) G 1 dX5_own_10 rfl rfl rfl ?_
      refine jv_getQ (q := 14) G dX5_own_11 fl_X5_17 rfl tl.1 tl.2.2.2.1 rfl ?_
      refine jv_iload_n (q := 15) G 0 dX5_own_14 rfl rfl rfl ?_
      refine jv_aaldQ (q := 16) G dX5_own_15 tl.2.2.2.2.1 rfl (by omega) (by decide) (tl.2.2.2.2.2.2.2 j hj6).1 rfl ?_
      refine jv_getI (q := 19) G dX5_own_16 fl_X5_80 rfl (tl.2.2.2.2.2.2.2 j hj6).2 hM.2.2.2.1 rfl ?_
      refine jv_iload_n (q := 20) G 3 dX5_own_19 rfl rfl rfl ?_
      refine jv_icmp_ne (q := 23) (tgt := 43) G dX5_own_20 (by decide) rfl (fun c2 => ?_) (fun c2 => ?_)
      · have ek : (some (4 * mm_n m + mm_s m) = ko) = False := eq_false (fun e => c2 ((jv_oN_inj (a := some (4 * mm_n m + mm_s m)) (fun k e => by cases e; omega) (fun k e => by have := hK k e; omega)).mpr e))
        refine jv_iinc (q := 46) (lo' := [(3, .int (nI (j + 1))), (0, .ref a), (1, .int (jv_bI w)), (2, .int (jv_oN ko))]) (v := nI (j + 1)) G 0 dX5_own_43 rfl (nI_1 j) (by decide) rfl rfl ?_
        refine jv_goto (q := 2) G dX5_own_46 (by decide) ?_
        refine jv_lo [0, 1, 2, 3] (lo' := [(3, .int (nI (j + 1))), (0, .ref a), (1, .int (jv_bI w)), (2, .int (jv_oN ko))]) rfl ?_
        refine ih (j + 1) (by omega) (fun v hv2 => ?_)
        by_cases e : v = j
        · subst e
          show Option.any _ _ = false
          rw [hm]
          simp [ek]
        · exact hp v (by omega)
      · have ek : (some (4 * mm_n m + mm_s m) = ko) = True := eq_true ((jv_oN_inj (a := some (4 * mm_n m + mm_s m)) (fun k e => by cases e; omega) (fun k e => by have := hK k e; omega)).mp c2)
        refine jv_aload_n (q := 24) G 1 dX5_own_23 rfl rfl rfl ?_
        refine jv_getQ (q := 27) G dX5_own_24 fl_X5_17 rfl tl.1 tl.2.2.2.1 rfl ?_
        refine jv_iload_n (q := 28) G 0 dX5_own_27 rfl rfl rfl ?_
        refine jv_aaldQ (q := 29) G dX5_own_28 tl.2.2.2.2.1 rfl (by omega) (by decide) (tl.2.2.2.2.2.2.2 j hj6).1 rfl ?_
        refine jv_getZ (q := 32) G dX5_own_29 fl_X5_83 rfl (tl.2.2.2.2.2.2.2 j hj6).2 hM.1 rfl ?_
        refine jv_iload_n (q := 33) G 2 dX5_own_32 rfl rfl rfl ?_
        refine jv_icmp_neB (q := 36) (tgt := 43) G dX5_own_33 (by decide) rfl (fun c3 => ?_) (fun c3 => ?_)
        · refine jv_iinc (q := 46) (lo' := [(3, .int (nI (j + 1))), (0, .ref a), (1, .int (jv_bI w)), (2, .int (jv_oN ko))]) (v := nI (j + 1)) G 0 dX5_own_43 rfl (nI_1 j) (by decide) rfl rfl ?_
          refine jv_goto (q := 2) G dX5_own_46 (by decide) ?_
          refine jv_lo [0, 1, 2, 3] (lo' := [(3, .int (nI (j + 1))), (0, .ref a), (1, .int (jv_bI w)), (2, .int (jv_oN ko))]) rfl ?_
          refine ih (j + 1) (by omega) (fun v hv2 => ?_)
          by_cases e : v = j
          · subst e
            show Option.any _ _ = false
            rw [hm]
            simp [ek, c3]
          · exact hp v (by omega)
        · refine jv_aload_n (q := 37) G 1 dX5_own_36 rfl rfl rfl ?_
          refine jv_getQ (q := 40) G dX5_own_37 fl_X5_17 rfl tl.1 tl.2.2.2.1 rfl ?_
          refine jv_iload_n (q := 41) G 0 dX5_own_40 rfl rfl rfl ?_
          refine jv_aaldQ (q := 42) G dX5_own_41 tl.2.2.2.2.1 rfl (by omega) (by decide) (tl.2.2.2.2.2.2.2 j hj6).1 rfl ?_
          refine jv_aretQ G hr dX5_own_42 (Nat.le_of_ble_eq_true rfl) (Nat.le_of_ble_eq_true rfl) ?_
          refine ⟨?_, rfl⟩
          have hp2 : (fun j => ((mt_m t)[j]?).any (fun m => decide (mm_w m = w ∧ some (4 * mm_n m + mm_s m) = ko))) j = true := by
            show Option.any _ _ = true
            rw [hm]; simp [ek, c3]
          rw [show m_oc t w ko = some j from sf_first (by omega) hp2 hp]; rfl
set_option maxHeartbeats 4000000 in
set_option maxRecDepth 100000 in
theorem k_own {lA : Launch} (hlt : lA.stackTraces = false) {D : jv_D} {base : Nat} {z : Nat → Nat → Nat} {N : Nat → Nat → Nat} {h : jv_H} {a : Nat} {t : mT} (tl : cl_t z N h a) (hv : cv_T z N h a t) (ho : mt_ok t) {w : Bool} {ko : Option Nat} (hK : ∀ K, ko = some K → K < 64) : jv_Met lA D base yX5_own (.code yX5_own cX5_own 4 (some (.object "LinkArchive$Member"))) 1 0 0 [.ref a, .int (jv_bI w), .int (jv_oN ko)] h (jv_rR ((m_oc t w ko).map (N a)) h) jv_no := by
  refine jv_ofV (lo := [(0, .ref a), (1, .int (jv_bI w)), (2, .int (jv_oN ko))]) hlt (by decide) (Nat.le_of_ble_eq_true rfl) rfl (fun E hEl hEd hEz Z G hr ht hnm => ?_)
  subst hEl; subst hEd; subst hEz
  refine jv_iconst (q := 1) (v := nI 0) G dX5_own_0 (by decide) rfl ?_
  refine jv_istore_n (q := 2) (lo' := [(3, .int (nI 0)), (0, .ref a), (1, .int (jv_bI w)), (2, .int (jv_oN ko))]) G dX5_own_1 rfl (by decide) rfl rfl ?_
  refine jv_lo [0, 1, 2, 3] (lo' := [(3, .int (nI 0)), (0, .ref a), (1, .int (jv_bI w)), (2, .int (jv_oN ko))]) rfl ?_
  exact k_own_loop tl hv ho hK G hr (mt_m t).length 0 (by omega) (fun v hv2 => by omega)
set_option maxHeartbeats 4000000 in
set_option maxRecDepth 100000 in
theorem k_loi_loop {E : jv_E} {z : Nat → Nat → Nat} {N : Nat → Nat → Nat} {h : jv_H} {a : Nat} {t : mT} (tl : cl_t z N h a) (hv : cv_T z N h a t) (ho : mt_ok t) {v : Int32} (G : jv_C E cX5_leansOnInterface RX5 3) (hr : (jv_mt E).sig.returnType = some .boolean) : ∀ (n j : Nat), j + n = (mt_f t).length → (∀ (j' : Nat) y, j' < j → (mt_f t)[j']? = some y → ¬ nI y = v) → jv_V E 3 h 0 0 (jv_Q E (jv_rI (jv_bI (m_fi t v)) h) jv_no 0 0) 2 [(2, .int (nI j)), (0, .ref a), (1, .int v)] [] := by
  have hl6 := ho.2.2.2.2.2.1; have hl3 := ho.2.2.2.1
  intro n
  induction n with
  | zero =>
    intro j hn hp
    refine jv_iload_n (q := 3) G 0 dX5_leansOnInterface_2 rfl rfl rfl ?_
    refine jv_aload_n (q := 4) G 1 dX5_leansOnInterface_3 rfl rfl rfl ?_
    refine jv_getI (q := 7) G dX5_leansOnInterface_4 fl_X5_45 rfl tl.1 (ct_7 hv) rfl ?_
    refine jv_icmp_geN (q := 10) (tgt := 28) G dX5_leansOnInterface_7 (by decide) rfl (by omega) (by omega) (fun c1 => ?_) (fun c1 => ?_)
    · refine jv_iconst (q := 29) (v := nI 0) G dX5_leansOnInterface_28 (by decide) rfl ?_
      refine jv_topI (y := jv_bI false) rfl ?_
      refine jv_zret G hr dX5_leansOnInterface_29 (Nat.le_of_ble_eq_true rfl) (Nat.le_of_ble_eq_true rfl) ?_
      refine ⟨?_, rfl⟩; rw [m_fi_n (fun j' y' hy' => hp j' y' (by have := jv_ltGet hy'; omega) hy')]
    · omega
  | succ n ih =>
    intro j hn hp
    obtain ⟨y, hy⟩ := jv_getLt (l := mt_f t) (k := j) (by omega)
    have hf := ct_f hv hy
    refine jv_iload_n (q := 3) G 0 dX5_leansOnInterface_2 rfl rfl rfl ?_
    refine jv_aload_n (q := 4) G 1 dX5_leansOnInterface_3 rfl rfl rfl ?_
    refine jv_getI (q := 7) G dX5_leansOnInterface_4 fl_X5_45 rfl tl.1 (ct_7 hv) rfl ?_
    refine jv_icmp_geN (q := 10) (tgt := 28) G dX5_leansOnInterface_7 (by decide) rfl (by omega) (by omega) (fun c1 => ?_) (fun c1 => ?_)
    · omega
    · refine jv_aload_n (q := 11) G 1 dX5_leansOnInterface_10 rfl rfl rfl ?_
      refine jv_getQ (q := 14) G dX5_leansOnInterface_11 fl_X5_9 rfl tl.1 tl.2.1 rfl ?_
      refine jv_iload_n (q := 15) G 0 dX5_leansOnInterface_14 rfl rfl rfl ?_
      refine jv_iald (q := 16) G dX5_leansOnInterface_15 tl.2.2.1 rfl (by omega) (by decide) hf rfl ?_
      refine jv_iload_n (q := 17) G 2 dX5_leansOnInterface_16 rfl rfl rfl ?_
      refine jv_icmp_ne (q := 20) (tgt := 22) G dX5_leansOnInterface_17 (by decide) rfl (fun c2 => ?_) (fun c2 => ?_)
      · refine jv_iinc (q := 25) (lo' := [(2, .int (nI (j + 1))), (0, .ref a), (1, .int v)]) (v := nI (j + 1)) G 0 dX5_leansOnInterface_22 rfl (nI_1 j) (by decide) rfl rfl ?_
        refine jv_goto (q := 2) G dX5_leansOnInterface_25 (by decide) ?_
        refine jv_lo [0, 1, 2] (lo' := [(2, .int (nI (j + 1))), (0, .ref a), (1, .int v)]) rfl ?_
        refine ih (j + 1) (by omega) (fun j' y' hj' hy' => ?_)
        by_cases e : j' = j
        · subst e; cases hy.symm.trans hy'; exact c2
        · exact hp j' y' (by omega) hy'
      · refine jv_iconst (q := 21) (v := nI 1) G dX5_leansOnInterface_20 (by decide) rfl ?_
        refine jv_topI (y := jv_bI true) rfl ?_
        refine jv_zret G hr dX5_leansOnInterface_21 (Nat.le_of_ble_eq_true rfl) (Nat.le_of_ble_eq_true rfl) ?_
        refine ⟨?_, rfl⟩; rw [m_fi_y hy c2]
set_option maxHeartbeats 4000000 in
set_option maxRecDepth 100000 in
theorem k_leansOn {lA : Launch} (hlt : lA.stackTraces = false) {D : jv_D} {base : Nat} {z : Nat → Nat → Nat} {N : Nat → Nat → Nat} {h : jv_H} {a : Nat} {t : mT} (tl : cl_t z N h a) (hv : cv_T z N h a t) (ho : mt_ok t) {v : Int32} : jv_Met lA D base yX5_leansOnInterface (.code yX5_leansOnInterface cX5_leansOnInterface 3 (some .boolean)) 1 0 0 [.ref a, .int v] h (jv_rI (jv_bI (m_fi t v)) h) jv_no := by
  refine jv_ofV (lo := [(0, .ref a), (1, .int v)]) hlt (by decide) (Nat.le_of_ble_eq_true rfl) rfl (fun E hEl hEd hEz Z G hr ht hnm => ?_)
  subst hEl; subst hEd; subst hEz
  refine jv_iconst (q := 1) (v := nI 0) G dX5_leansOnInterface_0 (by decide) rfl ?_
  refine jv_istore_n (q := 2) (lo' := [(2, .int (nI 0)), (0, .ref a), (1, .int v)]) G dX5_leansOnInterface_1 rfl (by decide) rfl rfl ?_
  refine jv_lo [0, 1, 2] (lo' := [(2, .int (nI 0)), (0, .ref a), (1, .int v)]) rfl ?_
  exact k_loi_loop tl hv ho G hr (mt_f t).length 0 (by omega) (fun j' y hj => by omega)
set_option maxHeartbeats 4000000 in
set_option maxRecDepth 100000 in
theorem k_inm_loop {E : jv_E} {Q : State → Prop} {z : Nat → Nat → Nat} {N : Nat → Nat → Nat} {h : jv_H} {a : Nat} {t : mT} (tl : cl_t z N h a) (hv : cv_T z N h a t) (ho : mt_ok t) (G : jv_C E cX5_interfaceNames RX5 3) (hK : jv_V E 3 h 0 0 Q 29 [(1, .int (nI (m_mk (mt_f t) (mt_f t).length)))] []) : ∀ (n j : Nat), j + n = (mt_f t).length → jv_V E 3 h 0 0 Q 4 [(2, .int (nI j)), (1, .int (nI (m_mk (mt_f t) j))), (0, .ref a)] [] := by
  have hl6 := ho.2.2.2.2.2.1; have hl3 := ho.2.2.2.1
  intro n
  induction n with
  | zero =>
    intro j hn
    refine jv_iload_n (q := 5) G 0 dX5_interfaceNames_4 rfl rfl rfl ?_
    refine jv_aload_n (q := 6) G 2 dX5_interfaceNames_5 rfl rfl rfl ?_
    refine jv_getI (q := 9) G dX5_interfaceNames_6 fl_X5_45 rfl tl.1 (ct_7 hv) rfl ?_
    refine jv_icmp_geN (q := 12) (tgt := 29) G dX5_interfaceNames_9 (by decide) rfl (by omega) (by omega) (fun c1 => ?_) (fun c1 => ?_)
    · refine jv_lo [1] (lo' := [(1, .int (nI (m_mk (mt_f t) j)))]) rfl ?_
      rw [show j = (mt_f t).length by omega]; exact hK
    · omega
  | succ n ih =>
    intro j hn
    obtain ⟨y, hy⟩ := jv_getLt (l := mt_f t) (k := j) (by omega)
    have hf := ct_f hv hy
    have hy16 := ho.2.2.2.2.1 y (List.mem_of_getElem? hy)
    refine jv_iload_n (q := 5) G 0 dX5_interfaceNames_4 rfl rfl rfl ?_
    refine jv_aload_n (q := 6) G 2 dX5_interfaceNames_5 rfl rfl rfl ?_
    refine jv_getI (q := 9) G dX5_interfaceNames_6 fl_X5_45 rfl tl.1 (ct_7 hv) rfl ?_
    refine jv_icmp_geN (q := 12) (tgt := 29) G dX5_interfaceNames_9 (by decide) rfl (by omega) (by omega) (fun c1 => ?_) (fun c1 => ?_)
    · omega
    · refine jv_iload_n (q := 13) G 1 dX5_interfaceNames_12 rfl rfl rfl ?_
      refine jv_iconst (q := 14) (v := nI 1) G dX5_interfaceNames_13 (by decide) rfl ?_
      refine jv_aload_n (q := 15) G 2 dX5_interfaceNames_14 rfl rfl rfl ?_
      refine jv_getQ (q := 18) G dX5_interfaceNames_15 fl_X5_9 rfl tl.1 tl.2.1 rfl ?_
      refine jv_iload_n (q := 19) G 0 dX5_interfaceNames_18 rfl rfl rfl ?_
      refine jv_iald (q := 20) G dX5_interfaceNames_19 tl.2.2.1 rfl (by omega) (by decide) hf rfl ?_
      refine jv_ishlN (q := 21) G dX5_interfaceNames_20 (by omega) rfl ?_
      refine jv_iorN (q := 22) G dX5_interfaceNames_21 rfl ?_
      refine jv_istore_n (q := 23) (lo' := [(1, .int (nI ((m_mk (mt_f t) j) ||| (2 ^ y)))), (2, .int (nI j)), (0, .ref a)]) G dX5_interfaceNames_22 rfl (by decide) rfl rfl ?_
      refine jv_iinc (q := 26) (lo' := [(2, .int (nI (j + 1))), (1, .int (nI ((m_mk (mt_f t) j) ||| (2 ^ y)))), (0, .ref a)]) (v := nI (j + 1)) G 1 dX5_interfaceNames_23 rfl (nI_1 j) (by decide) rfl rfl ?_
      refine jv_goto (q := 4) G dX5_interfaceNames_26 (by decide) ?_
      refine jv_lo [0, 1, 2] (lo' := [(2, .int (nI (j + 1))), (1, .int (nI ((m_mk (mt_f t) j) ||| (2 ^ y)))), (0, .ref a)]) rfl ?_
      have ea : m_mk (mt_f t) j ||| 2 ^ y = m_mk (mt_f t) (j + 1) := by rw [m_mk, hy]; rfl
      rw [ea]; exact ih (j + 1) (by omega)
set_option maxHeartbeats 4000000 in
set_option maxRecDepth 100000 in
theorem k_interfaceNames {lA : Launch} (hlt : lA.stackTraces = false) {D : jv_D} {base : Nat} {z : Nat → Nat → Nat} {N : Nat → Nat → Nat} {h : jv_H} {a : Nat} {t : mT} (tl : cl_t z N h a) (hv : cv_T z N h a t) (ho : mt_ok t) : jv_Met lA D base yX5_interfaceNames (.code yX5_interfaceNames cX5_interfaceNames 3 (some .int)) 1 0 0 [.ref a] h (jv_rI (nI (m_mk (mt_f t) (mt_f t).length)) h) jv_no := by
  refine jv_ofV (lo := [(0, .ref a)]) hlt (by decide) (Nat.le_of_ble_eq_true rfl) rfl (fun E hEl hEd hEz Z G hr ht hnm => ?_)
  subst hEl; subst hEd; subst hEz
  refine jv_iconst (q := 1) (v := nI 0) G dX5_interfaceNames_0 (by decide) rfl ?_
  refine jv_istore_n (q := 2) (lo' := [(1, .int (nI 0)), (0, .ref a)]) G dX5_interfaceNames_1 rfl (by decide) rfl rfl ?_
  refine jv_iconst (q := 3) (v := nI 0) G dX5_interfaceNames_2 (by decide) rfl ?_
  refine jv_istore_n (q := 4) (lo' := [(2, .int (nI 0)), (1, .int (nI 0)), (0, .ref a)]) G dX5_interfaceNames_3 rfl (by decide) rfl rfl ?_
  show jv_V E 3 h 0 0 (jv_Q E (jv_rI (nI (m_mk (mt_f t) (mt_f t).length)) h) jv_no 0 0) 4 [(2, .int (nI 0)), (1, .int (nI (m_mk (mt_f t) 0))), (0, .ref a)] []
  refine k_inm_loop tl hv ho G ?_ (mt_f t).length 0 (by omega)
  refine jv_iload_n (q := 30) G 0 dX5_interfaceNames_29 rfl rfl rfl ?_
  refine jv_iret G hr dX5_interfaceNames_30 (Nat.le_of_ble_eq_true rfl) (Nat.le_of_ble_eq_true rfl) ?_
  exact ⟨rfl, rfl⟩
set_option maxHeartbeats 4000000 in
set_option maxRecDepth 100000 in
theorem k_isUnder {lA : Launch} (hlt : lA.stackTraces = false) {D : jv_D} {base : Nat} {h : jv_H} {a n k : Nat} (h5 : jv_sh h a = some (.inl 5)) (h14 : jv_I h a 14 = nI n) (hn : n < 2 ^ 16) (hk : k < 16) : jv_Met lA D base yX5_isUnder (.code yX5_isUnder cX5_isUnder 2 (some .boolean)) 1 0 0 [.ref a, .int (nI k)] h (jv_rI (jv_bI (n.testBit k)) h) jv_no := by
  refine jv_ofV (lo := [(0, .ref a), (1, .int (nI k))]) hlt (by decide) (Nat.le_of_ble_eq_true rfl) rfl (fun E hEl hEd hEz Z G hr ht hnm => ?_)
  subst hEl; subst hEd; subst hEz
  refine jv_aload_n (q := 1) G 0 dX5_isUnder_0 rfl rfl rfl ?_
  refine jv_getI (q := 4) G dX5_isUnder_1 fl_X5_89 rfl h5 h14 rfl ?_
  refine jv_iload_n (q := 5) G 1 dX5_isUnder_4 rfl rfl rfl ?_
  refine jv_iushr (q := 6) G dX5_isUnder_5 rfl rfl ?_
  refine jv_iconst (q := 7) (v := nI 1) G dX5_isUnder_6 (by decide) rfl ?_
  refine jv_iand (q := 8) G dX5_isUnder_7 rfl ?_
  refine jv_if_eq (q := 11) (tgt := 15) G dX5_isUnder_8 (by decide) rfl (fun c1 => ?_) (fun c1 => ?_)
  · have hb : n.testBit k = false := (iN_bit (by omega) (by omega)).mp c1
    refine jv_iconst (q := 16) (v := nI 0) G dX5_isUnder_15 (by decide) rfl ?_
    refine jv_topI (y := jv_bI false) rfl ?_
    refine jv_zret G hr dX5_isUnder_16 (Nat.le_of_ble_eq_true rfl) (Nat.le_of_ble_eq_true rfl) ?_
    refine ⟨?_, rfl⟩; rw [hb]
  · have hb : n.testBit k = true := iN_bf (by omega) (by omega) c1
    refine jv_iconst (q := 12) (v := nI 1) G dX5_isUnder_11 (by decide) rfl ?_
    refine jv_goto (q := 16) G dX5_isUnder_12 (by decide) ?_
    refine jv_topI (y := jv_bI true) rfl ?_
    refine jv_zret G hr dX5_isUnder_16 (Nat.le_of_ble_eq_true rfl) (Nat.le_of_ble_eq_true rfl) ?_
    refine ⟨?_, rfl⟩; rw [hb]
