theorem lg_0 {x y : Int64} : lg_cmp x y = 0 ↔ x = y := by
  unfold lg_cmp
  by_cases h1 : x > y
  · rw [if_pos h1]
    exact ⟨fun e => absurd e (by decide), fun e => by subst e; exact absurd h1 (fun z => Int64.lt_irrefl z)⟩
  · rw [if_neg h1]
    by_cases h2 : x = y
    · rw [if_pos h2]; exact ⟨fun _ => h2, fun _ => rfl⟩
    · rw [if_neg h2]; exact ⟨fun e => absurd e (by decide), fun e => absurd e h2⟩
theorem lg_bt {n k : Nat} (hk : k < 64) (h : lg_cmp (((lN n).toUInt64 >>> ((nI k).toInt64.toUInt64 &&& Int64.toUInt64 63)).toInt64 &&& (1 : Int64)) (0 : Int64) = 0) : n.testBit k = false := (lN_bit hk).mp (lg_0.mp h)
theorem lg_bf {n k : Nat} (hk : k < 64) (h : ¬ lg_cmp (((lN n).toUInt64 >>> ((nI k).toInt64.toUInt64 &&& Int64.toUInt64 63)).toInt64 &&& (1 : Int64)) (0 : Int64) = 0) : n.testBit k = true := by
  cases hb : n.testBit k with
  | true => rfl
  | false => exact absurd (lg_0.mpr ((lN_bit hk).mpr hb)) h
def cb (a b : Int32) : Bool := !decide (a < 0) && !decide (b ≤ a)
theorem cb_lt {a : Int32} {n : Nat} : cb a (nI n) = rr_lt a n := rfl
/-- a key out of a name and a sort -/
def ky (n s : Int32) : Option Nat := match m_ix1 16 n, m_ix1 4 s with
  | some i, some j => some (4 * i + j)
  | _, _ => none
theorem ky_lt {n s : Int32} {K : Nat} (h : ky n s = some K) : K < 64 := by
  unfold ky at h
  cases h1 : rr_lt n 16 with
  | false => rw [rr_lt_f h1] at h; cases h
  | true =>
    obtain ⟨i, hi, -, e⟩ := rr_lt_t (by decide) h1
    cases h2 : rr_lt s 4 with
    | false => rw [rr_lt_f h2, e] at h; cases h
    | true =>
      obtain ⟨j, hj, -, e2⟩ := rr_lt_t (by decide) h2
      rw [e, e2] at h
      cases h
      omega
def m_oc (t : mT) (w : Bool) (ko : Option Nat) : Option Nat := sf (fun j => ((mt_m t)[j]?).any (fun m => decide (mm_w m = w ∧ some (4 * mm_n m + mm_s m) = ko))) (mt_m t).length 0
theorem oc_some {t : mT} {w : Bool} {ko : Option Nat} {j : Nat} (h : m_oc t w ko = some j) : ∃ m, (mt_m t)[j]? = some m ∧ mm_w m = w ∧ some (4 * mm_n m + mm_s m) = ko := by
  obtain ⟨-, h2, h3, -⟩ := sf_some h
  have h2 : j < (mt_m t).length := by omega
  refine ⟨(mt_m t)[j], List.getElem?_eq_getElem h2, ?_⟩
  rw [List.getElem?_eq_getElem h2] at h3
  simpa using h3
set_option maxHeartbeats 4000000 in
set_option maxRecDepth 100000 in
theorem k_isBelow {lA : Launch} (hlt : lA.stackTraces = false) {D : jv_D} {base : Nat} {h : jv_H} {a b : Int32} : jv_Met lA D base yX7_isBelow (.code yX7_isBelow cX7_isBelow 2 (some .boolean)) 1 0 0 [.int a, .int b] h (jv_rI (jv_bI (cb a b)) h) jv_no := by
  refine jv_ofV (lo := [(0, .int a), (1, .int b)]) hlt (by decide) (Nat.le_of_ble_eq_true rfl) rfl (fun E hEl hEd hEz Z G hr ht hnm => ?_)
  subst hEl; subst hEd; subst hEz
  refine jv_iload_n (q := 1) G 0 dX7_isBelow_0 rfl rfl rfl ?_
  refine jv_if_lt (q := 4) (tgt := 13) G dX7_isBelow_1 (by decide) rfl (fun c1 => ?_) (fun c1 => ?_)
  · refine jv_iconst (q := 14) (v := nI 0) G dX7_isBelow_13 (by decide) rfl ?_
    refine jv_topI (y := jv_bI false) rfl ?_
    refine jv_zret G hr dX7_isBelow_14 (Nat.le_of_ble_eq_true rfl) (Nat.le_of_ble_eq_true rfl) ?_
    refine ⟨?_, rfl⟩; unfold cb; simp only [*, decide_true, decide_false, Bool.not_true, Bool.not_false, Bool.and_true, Bool.true_and, Bool.and_false, Bool.false_and]
  · refine jv_iload_n (q := 5) G 0 dX7_isBelow_4 rfl rfl rfl ?_
    refine jv_iload_n (q := 6) G 1 dX7_isBelow_5 rfl rfl rfl ?_
    refine jv_icmp_ge (q := 9) (tgt := 13) G dX7_isBelow_6 (by decide) rfl (fun c2 => ?_) (fun c2 => ?_)
    · refine jv_iconst (q := 14) (v := nI 0) G dX7_isBelow_13 (by decide) rfl ?_
      refine jv_topI (y := jv_bI false) rfl ?_
      refine jv_zret G hr dX7_isBelow_14 (Nat.le_of_ble_eq_true rfl) (Nat.le_of_ble_eq_true rfl) ?_
      refine ⟨?_, rfl⟩; unfold cb; simp only [*, decide_true, decide_false, Bool.not_true, Bool.not_false, Bool.and_true, Bool.true_and, Bool.and_false, Bool.false_and]
    · refine jv_iconst (q := 10) (v := nI 1) G dX7_isBelow_9 (by decide) rfl ?_
      refine jv_goto (q := 14) G dX7_isBelow_10 (by decide) ?_
      refine jv_topI (y := jv_bI true) rfl ?_
      refine jv_zret G hr dX7_isBelow_14 (Nat.le_of_ble_eq_true rfl) (Nat.le_of_ble_eq_true rfl) ?_
      refine ⟨?_, rfl⟩; unfold cb; simp only [*, decide_true, decide_false, Bool.not_true, Bool.not_false, Bool.and_true, Bool.true_and, Bool.and_false, Bool.false_and]
set_option maxHeartbeats 4000000 in
set_option maxRecDepth 100000 in
theorem k_isName {lA : Launch} (hlt : lA.stackTraces = false) {D : jv_D} {base : Nat} {h : jv_H} {a : Int32} : jv_Met lA D base yX7_isName (.code yX7_isName cX7_isName 1 (some .boolean)) 2 0 0 [.int a] h (jv_rI (jv_bI (rr_lt a 16)) h) jv_no := by
  refine jv_ofV (lo := [(0, .int a)]) hlt (by decide) (Nat.le_of_ble_eq_true rfl) rfl (fun E hEl hEd hEz Z G hr ht hnm => ?_)
  subst hEl; subst hEd; subst hEz
  refine jv_iload_n (q := 1) G 0 dX7_isName_0 rfl rfl rfl ?_
  refine jv_bipush (q := 3) (v := nI 16) G dX7_isName_1 (by decide) rfl ?_
  refine jv_callS_I (q := 6) (h1 := h) (As := [.int a, .int (nI 16)]) (rest := []) (ce' := 0) (sl' := 0) (r := jv_bI (cb a (nI 16))) G Z ml_X7_66 (k_isBelow hlt) dX7_isName_3 rfl (by decide) (by decide) (by decide) (by decide) (Nat.le_of_ble_eq_true rfl) rfl rfl rfl rfl ?_
  refine jv_zret G hr dX7_isName_6 (Nat.le_of_ble_eq_true rfl) (Nat.le_of_ble_eq_true rfl) ?_
  exact ⟨rfl, rfl⟩
set_option maxHeartbeats 4000000 in
set_option maxRecDepth 100000 in
theorem k_keyOf {lA : Launch} (hlt : lA.stackTraces = false) {D : jv_D} {base : Nat} {h : jv_H} {n s : Int32} : jv_Met lA D base yX7_keyOf (.code yX7_keyOf cX7_keyOf 2 (some .int)) 3 0 0 [.int n, .int s] h (jv_rI (jv_oN (ky n s)) h) jv_no := by
  refine jv_ofV (lo := [(0, .int n), (1, .int s)]) hlt (by decide) (Nat.le_of_ble_eq_true rfl) rfl (fun E hEl hEd hEz Z G hr ht hnm => ?_)
  subst hEl; subst hEd; subst hEz
  refine jv_iload_n (q := 1) G 0 dX7_keyOf_0 rfl rfl rfl ?_
  refine jv_callS_I (q := 4) (h1 := h) (As := [.int n]) (rest := []) (ce' := 0) (sl' := 0) (r := jv_bI (rr_lt n 16)) G Z ml_X7_62 (k_isName hlt) dX7_keyOf_1 rfl (by decide) (by decide) (by decide) (by decide) (Nat.le_of_ble_eq_true rfl) rfl rfl rfl rfl ?_
  refine jv_if_eqB (q := 7) (tgt := 23) G dX7_keyOf_4 (by decide) rfl (fun c1 => ?_) (fun c1 => ?_)
  · have zn := rr_lt_f c1
    refine jv_iconst (q := 24) (v := (-1)) G dX7_keyOf_23 (by decide) rfl ?_
    refine jv_iret G hr dX7_keyOf_24 (Nat.le_of_ble_eq_true rfl) (Nat.le_of_ble_eq_true rfl) ?_
    refine ⟨?_, rfl⟩; unfold ky; simp only [*]; first | rfl | (exact congrArg (fun z => some (Value.int z)) (congrArg nI (by omega))) | (cases m_ix1 4 s <;> rfl) | (cases m_ix1 16 n <;> rfl)
  · obtain ⟨k_n, h_n, e_n, zn⟩ := rr_lt_t (by decide) c1
    subst e_n
    refine jv_iload_n (q := 8) G 1 dX7_keyOf_7 rfl rfl rfl ?_
    refine jv_iconst (q := 9) (v := nI 4) G dX7_keyOf_8 (by decide) rfl ?_
    refine jv_callS_I (q := 12) (h1 := h) (As := [.int s, .int (nI 4)]) (rest := []) (ce' := 0) (sl' := 0) (r := jv_bI (rr_lt s 4)) G Z ml_X7_66 (k_isBelow hlt) dX7_keyOf_9 rfl (by decide) (by decide) (by decide) (by decide) (Nat.le_of_ble_eq_true rfl) rfl rfl rfl rfl ?_
    refine jv_if_eqB (q := 15) (tgt := 23) G dX7_keyOf_12 (by decide) rfl (fun c2 => ?_) (fun c2 => ?_)
    · have zs := rr_lt_f c2
      refine jv_iconst (q := 24) (v := (-1)) G dX7_keyOf_23 (by decide) rfl ?_
      refine jv_iret G hr dX7_keyOf_24 (Nat.le_of_ble_eq_true rfl) (Nat.le_of_ble_eq_true rfl) ?_
      refine ⟨?_, rfl⟩; unfold ky; simp only [*]; first | rfl | (exact congrArg (fun z => some (Value.int z)) (congrArg nI (by omega))) | (cases m_ix1 4 s <;> rfl) | (cases m_ix1 16 n <;> rfl)
    · obtain ⟨k_s, h_s, e_s, zs⟩ := rr_lt_t (by decide) c2
      subst e_s
      refine jv_iload_n (q := 16) G 0 dX7_keyOf_15 rfl rfl rfl ?_
      refine jv_iconst (q := 17) (v := nI 4) G dX7_keyOf_16 (by decide) rfl ?_
      refine jv_imulN (q := 18) G dX7_keyOf_17 rfl ?_
      refine jv_iload_n (q := 19) G 1 dX7_keyOf_18 rfl rfl rfl ?_
      refine jv_iaddN (q := 20) G dX7_keyOf_19 rfl ?_
      refine jv_goto (q := 24) G dX7_keyOf_20 (by decide) ?_
      refine jv_iret G hr dX7_keyOf_24 (Nat.le_of_ble_eq_true rfl) (Nat.le_of_ble_eq_true rfl) ?_
      refine ⟨?_, rfl⟩; unfold ky; simp only [*]; first | rfl | (exact congrArg (fun z => some (Value.int z)) (congrArg nI (by omega))) | (cases m_ix1 4 s <;> rfl) | (cases m_ix1 16 n <;> rfl)
set_option maxHeartbeats 4000000 in
set_option maxRecDepth 100000 in
theorem k_hasBit {lA : Launch} (hlt : lA.stackTraces = false) {D : jv_D} {base : Nat} {h : jv_H} {n k : Nat} (hk : k < 64) : jv_Met lA D base yX7_hasBit (.code yX7_hasBit cX7_hasBit 3 (some .boolean)) 1 0 0 [.long (lN n), .int (nI k)] h (jv_rI (jv_bI (n.testBit k)) h) jv_no := by
  refine jv_ofV (lo := [(0, .long (lN n)), (2, .int (nI k))]) hlt (by decide) (Nat.le_of_ble_eq_true rfl) rfl (fun E hEl hEd hEz Z G hr ht hnm => ?_)
  subst hEl; subst hEd; subst hEz
  refine jv_lload_n (q := 1) G 0 dX7_hasBit_0 rfl rfl rfl ?_
  refine jv_iload_n (q := 2) G 1 dX7_hasBit_1 rfl rfl rfl ?_
  refine jv_lushr (q := 3) G dX7_hasBit_2 rfl rfl ?_
  refine jv_lconst (q := 4) (v := 1) G dX7_hasBit_3 (by decide) rfl ?_
  refine jv_land (q := 5) G dX7_hasBit_4 rfl ?_
  refine jv_lconst (q := 6) (v := 0) G dX7_hasBit_5 (by decide) rfl ?_
  refine jv_lcmp (q := 7) G dX7_hasBit_6 rfl rfl ?_
  refine jv_if_eq (q := 10) (tgt := 14) G dX7_hasBit_7 (by decide) rfl (fun c1 => ?_) (fun c1 => ?_)
  · have hb := lg_bt hk c1
    refine jv_iconst (q := 15) (v := nI 0) G dX7_hasBit_14 (by decide) rfl ?_
    refine jv_topI (y := jv_bI false) rfl ?_
    refine jv_zret G hr dX7_hasBit_15 (Nat.le_of_ble_eq_true rfl) (Nat.le_of_ble_eq_true rfl) ?_
    refine ⟨?_, rfl⟩; rw [hb]
  · have hb := lg_bf hk c1
    refine jv_iconst (q := 11) (v := nI 1) G dX7_hasBit_10 (by decide) rfl ?_
    refine jv_goto (q := 15) G dX7_hasBit_11 (by decide) ?_
    refine jv_topI (y := jv_bI true) rfl ?_
    refine jv_zret G hr dX7_hasBit_15 (Nat.le_of_ble_eq_true rfl) (Nat.le_of_ble_eq_true rfl) ?_
    refine ⟨?_, rfl⟩; rw [hb]
set_option maxHeartbeats 4000000 in
set_option maxRecDepth 100000 in
theorem k_nameOf0 {lA : Launch} (hlt : lA.stackTraces = false) {D : jv_D} {base : Nat} {h : jv_H} : jv_Met lA D base yX7_nameOf (.code yX7_nameOf cX7_nameOf 1 (some .int)) 1 0 0 [va_rf none] h (jv_rI (-1) h) jv_no := by
  refine jv_ofV (lo := [(0, va_rf none)]) hlt (by decide) (Nat.le_of_ble_eq_true rfl) rfl (fun E hEl hEd hEz Z G hr ht hnm => ?_)
  subst hEl; subst hEd; subst hEz
  refine jv_aload_nR (q := 1) G 0 dX7_nameOf_0 rfl rfl rfl ?_
  refine jv_ifnonnull (q := 4) (tgt := 8) (x := none) G dX7_nameOf_1 (by decide) rfl (fun a2 c1 => ?_) (fun c1 => ?_)
  · cases c1
  · refine jv_iconst (q := 5) (v := (-1)) G dX7_nameOf_4 (by decide) rfl ?_
    refine jv_goto (q := 12) G dX7_nameOf_5 (by decide) ?_
    refine jv_iret G hr dX7_nameOf_12 (Nat.le_of_ble_eq_true rfl) (Nat.le_of_ble_eq_true rfl) ?_
    exact ⟨rfl, rfl⟩
set_option maxHeartbeats 4000000 in
set_option maxRecDepth 100000 in
theorem k_nameOf1 {lA : Launch} (hlt : lA.stackTraces = false) {D : jv_D} {base : Nat} {h : jv_H} {a : Nat} {v : Int32} (h5 : jv_sh h a = some (.inl 5)) (h0 : jv_I h a 0 = v) : jv_Met lA D base yX7_nameOf (.code yX7_nameOf cX7_nameOf 1 (some .int)) 1 0 0 [.ref a] h (jv_rI v h) jv_no := by
  refine jv_ofV (lo := [(0, .ref a)]) hlt (by decide) (Nat.le_of_ble_eq_true rfl) rfl (fun E hEl hEd hEz Z G hr ht hnm => ?_)
  subst hEl; subst hEd; subst hEz
  refine jv_aload_n (q := 1) G 0 dX7_nameOf_0 rfl rfl rfl ?_
  refine jv_ifnonnull (q := 4) (tgt := 8) (x := (some a)) G dX7_nameOf_1 (by decide) rfl (fun a2 c1 => ?_) (fun c1 => ?_)
  · refine jv_aload_n (q := 9) G 0 dX7_nameOf_8 rfl rfl rfl ?_
    refine jv_getI (q := 12) G dX7_nameOf_9 fl_X7_304 rfl h5 h0 rfl ?_
    refine jv_iret G hr dX7_nameOf_12 (Nat.le_of_ble_eq_true rfl) (Nat.le_of_ble_eq_true rfl) ?_
    exact ⟨rfl, rfl⟩
  · cases c1
def m_abs (m : mM) : Bool := mm_w m && decide (mm_b m = -1)
def m_hd (m : mM) : Bool := !mm_t m && !decide (mm_a m = 0)
def m_sb (m o : mM) : Bool := decide (mm_b m = mm_b o) && decide (mm_c m = mm_c o)
def m_lk (m o : mM) : Bool := decide (mm_w m = mm_w o) && decide (4 * mm_n m + mm_s m = 4 * mm_n o + mm_s o) && decide (mm_t m = mm_t o) && m_sb m o
set_option maxHeartbeats 4000000 in
set_option maxRecDepth 100000 in
theorem k_isAbstract {lA : Launch} (hlt : lA.stackTraces = false) {D : jv_D} {base : Nat} {h : jv_H} {b : Nat} {m : mM} (hb : jv_sh h b = some (.inl 3)) (hm : cv_M h b m) : jv_Met lA D base yX3_isAbstract (.code yX3_isAbstract cX3_isAbstract 1 (some .boolean)) 1 0 0 [.ref b] h (jv_rI (jv_bI (m_abs m)) h) jv_no := by
  refine jv_ofV (lo := [(0, .ref b)]) hlt (by decide) (Nat.le_of_ble_eq_true rfl) rfl (fun E hEl hEd hEz Z G hr ht hnm => ?_)
  subst hEl; subst hEd; subst hEz
  refine jv_aload_n (q := 1) G 0 dX3_isAbstract_0 rfl rfl rfl ?_
  refine jv_getZ (q := 4) G dX3_isAbstract_1 fl_X3_9 rfl hb hm.1 rfl ?_
  refine jv_if_eqB (q := 7) (tgt := 19) G dX3_isAbstract_4 (by decide) rfl (fun c1 => ?_) (fun c1 => ?_)
  · refine jv_iconst (q := 20) (v := nI 0) G dX3_isAbstract_19 (by decide) rfl ?_
    refine jv_topI (y := jv_bI false) rfl ?_
    refine jv_zret G hr dX3_isAbstract_20 (Nat.le_of_ble_eq_true rfl) (Nat.le_of_ble_eq_true rfl) ?_
    refine ⟨?_, rfl⟩; unfold m_abs; simp only [*, decide_true, decide_false, Bool.not_true, Bool.not_false, Bool.and_true, Bool.true_and, Bool.and_false, Bool.false_and]
  · refine jv_aload_n (q := 8) G 0 dX3_isAbstract_7 rfl rfl rfl ?_
    refine jv_getI (q := 11) G dX3_isAbstract_8 fl_X3_28 rfl hb hm.2.2.2.2.2 rfl ?_
    refine jv_iconst (q := 12) (v := (-1)) G dX3_isAbstract_11 (by decide) rfl ?_
    refine jv_icmp_ne (q := 15) (tgt := 19) G dX3_isAbstract_12 (by decide) rfl (fun c2 => ?_) (fun c2 => ?_)
    · refine jv_iconst (q := 20) (v := nI 0) G dX3_isAbstract_19 (by decide) rfl ?_
      refine jv_topI (y := jv_bI false) rfl ?_
      refine jv_zret G hr dX3_isAbstract_20 (Nat.le_of_ble_eq_true rfl) (Nat.le_of_ble_eq_true rfl) ?_
      refine ⟨?_, rfl⟩; unfold m_abs; simp only [*, decide_true, decide_false, Bool.not_true, Bool.not_false, Bool.and_true, Bool.true_and, Bool.and_false, Bool.false_and]
    · refine jv_iconst (q := 16) (v := nI 1) G dX3_isAbstract_15 (by decide) rfl ?_
      refine jv_goto (q := 20) G dX3_isAbstract_16 (by decide) ?_
      refine jv_topI (y := jv_bI true) rfl ?_
      refine jv_zret G hr dX3_isAbstract_20 (Nat.le_of_ble_eq_true rfl) (Nat.le_of_ble_eq_true rfl) ?_
      refine ⟨?_, rfl⟩; unfold m_abs; simp only [*, decide_true, decide_false, Bool.not_true, Bool.not_false, Bool.and_true, Bool.true_and, Bool.and_false, Bool.false_and]
set_option maxHeartbeats 4000000 in
set_option maxRecDepth 100000 in
theorem k_isHanded {lA : Launch} (hlt : lA.stackTraces = false) {D : jv_D} {base : Nat} {h : jv_H} {b : Nat} {m : mM} (hb : jv_sh h b = some (.inl 3)) (hm : cv_M h b m) (hok : mm_ok m) : jv_Met lA D base yX3_isHandedDown (.code yX3_isHandedDown cX3_isHandedDown 1 (some .boolean)) 1 0 0 [.ref b] h (jv_rI (jv_bI (m_hd m)) h) jv_no := by
  refine jv_ofV (lo := [(0, .ref b)]) hlt (by decide) (Nat.le_of_ble_eq_true rfl) rfl (fun E hEl hEd hEz Z G hr ht hnm => ?_)
  subst hEl; subst hEd; subst hEz
  have ha4 := hok.2.2.1
  refine jv_aload_n (q := 1) G 0 dX3_isHandedDown_0 rfl rfl rfl ?_
  refine jv_getZ (q := 4) G dX3_isHandedDown_1 fl_X3_25 rfl hb hm.2.2.1 rfl ?_
  refine jv_if_neB (q := 7) (tgt := 18) G dX3_isHandedDown_4 (by decide) rfl (fun c1 => ?_) (fun c1 => ?_)
  · refine jv_iconst (q := 19) (v := nI 0) G dX3_isHandedDown_18 (by decide) rfl ?_
    refine jv_topI (y := jv_bI false) rfl ?_
    refine jv_zret G hr dX3_isHandedDown_19 (Nat.le_of_ble_eq_true rfl) (Nat.le_of_ble_eq_true rfl) ?_
    refine ⟨?_, rfl⟩; unfold m_hd; simp only [*, decide_true, decide_false, Bool.not_true, Bool.not_false, Bool.and_true, Bool.true_and, Bool.and_false, Bool.false_and]
  · refine jv_aload_n (q := 8) G 0 dX3_isHandedDown_7 rfl rfl rfl ?_
    refine jv_getI (q := 11) G dX3_isHandedDown_8 fl_X3_22 rfl hb hm.2.2.2.2.1 rfl ?_
    refine jv_if_eqN (q := 14) (tgt := 18) G dX3_isHandedDown_11 (by decide) rfl (by omega) (fun c2 => ?_) (fun c2 => ?_)
    · refine jv_iconst (q := 19) (v := nI 0) G dX3_isHandedDown_18 (by decide) rfl ?_
      refine jv_topI (y := jv_bI false) rfl ?_
      refine jv_zret G hr dX3_isHandedDown_19 (Nat.le_of_ble_eq_true rfl) (Nat.le_of_ble_eq_true rfl) ?_
      refine ⟨?_, rfl⟩; unfold m_hd; simp only [*, decide_true, decide_false, Bool.not_true, Bool.not_false, Bool.and_true, Bool.true_and, Bool.and_false, Bool.false_and]
    · refine jv_iconst (q := 15) (v := nI 1) G dX3_isHandedDown_14 (by decide) rfl ?_
      refine jv_goto (q := 19) G dX3_isHandedDown_15 (by decide) ?_
      refine jv_topI (y := jv_bI true) rfl ?_
      refine jv_zret G hr dX3_isHandedDown_19 (Nat.le_of_ble_eq_true rfl) (Nat.le_of_ble_eq_true rfl) ?_
      refine ⟨?_, rfl⟩; unfold m_hd; simp only [*, decide_true, decide_false, Bool.not_true, Bool.not_false, Bool.and_true, Bool.true_and, Bool.and_false, Bool.false_and]
set_option maxHeartbeats 4000000 in
set_option maxRecDepth 100000 in
theorem k_sameBody {lA : Launch} (hlt : lA.stackTraces = false) {D : jv_D} {base : Nat} {h : jv_H} {b : Nat} {m : mM} (hb : jv_sh h b = some (.inl 3)) (hm : cv_M h b m) {c : Nat} {o : mM} (hc : jv_sh h c = some (.inl 3)) (ho : cv_M h c o) : jv_Met lA D base yX3_hasSameBody (.code yX3_hasSameBody cX3_hasSameBody 2 (some .boolean)) 1 0 0 [.ref b, .ref c] h (jv_rI (jv_bI (m_sb m o)) h) jv_no := by
  refine jv_ofV (lo := [(0, .ref b), (1, .ref c)]) hlt (by decide) (Nat.le_of_ble_eq_true rfl) rfl (fun E hEl hEd hEz Z G hr ht hnm => ?_)
  subst hEl; subst hEd; subst hEz
  refine jv_aload_n (q := 1) G 0 dX3_hasSameBody_0 rfl rfl rfl ?_
  refine jv_getI (q := 4) G dX3_hasSameBody_1 fl_X3_28 rfl hb hm.2.2.2.2.2 rfl ?_
  refine jv_aload_n (q := 5) G 1 dX3_hasSameBody_4 rfl rfl rfl ?_
  refine jv_getI (q := 8) G dX3_hasSameBody_5 fl_X3_28 rfl hc ho.2.2.2.2.2 rfl ?_
  refine jv_icmp_ne (q := 11) (tgt := 26) G dX3_hasSameBody_8 (by decide) rfl (fun c1 => ?_) (fun c1 => ?_)
  · refine jv_iconst (q := 27) (v := nI 0) G dX3_hasSameBody_26 (by decide) rfl ?_
    refine jv_topI (y := jv_bI false) rfl ?_
    refine jv_zret G hr dX3_hasSameBody_27 (Nat.le_of_ble_eq_true rfl) (Nat.le_of_ble_eq_true rfl) ?_
    refine ⟨?_, rfl⟩; unfold m_sb; simp only [*, decide_true, decide_false, Bool.not_true, Bool.not_false, Bool.and_true, Bool.true_and, Bool.and_false, Bool.false_and]
  · refine jv_aload_n (q := 12) G 0 dX3_hasSameBody_11 rfl rfl rfl ?_
    refine jv_getZ (q := 15) G dX3_hasSameBody_12 fl_X3_15 rfl hb hm.2.1 rfl ?_
    refine jv_aload_n (q := 16) G 1 dX3_hasSameBody_15 rfl rfl rfl ?_
    refine jv_getZ (q := 19) G dX3_hasSameBody_16 fl_X3_15 rfl hc ho.2.1 rfl ?_
    refine jv_icmp_neB (q := 22) (tgt := 26) G dX3_hasSameBody_19 (by decide) rfl (fun c2 => ?_) (fun c2 => ?_)
    · refine jv_iconst (q := 27) (v := nI 0) G dX3_hasSameBody_26 (by decide) rfl ?_
      refine jv_topI (y := jv_bI false) rfl ?_
      refine jv_zret G hr dX3_hasSameBody_27 (Nat.le_of_ble_eq_true rfl) (Nat.le_of_ble_eq_true rfl) ?_
      refine ⟨?_, rfl⟩; unfold m_sb; simp only [*, decide_true, decide_false, Bool.not_true, Bool.not_false, Bool.and_true, Bool.true_and, Bool.and_false, Bool.false_and]
    · refine jv_iconst (q := 23) (v := nI 1) G dX3_hasSameBody_22 (by decide) rfl ?_
      refine jv_goto (q := 27) G dX3_hasSameBody_23 (by decide) ?_
      refine jv_topI (y := jv_bI true) rfl ?_
      refine jv_zret G hr dX3_hasSameBody_27 (Nat.le_of_ble_eq_true rfl) (Nat.le_of_ble_eq_true rfl) ?_
      refine ⟨?_, rfl⟩; unfold m_sb; simp only [*, decide_true, decide_false, Bool.not_true, Bool.not_false, Bool.and_true, Bool.true_and, Bool.and_false, Bool.false_and]
set_option maxHeartbeats 4000000 in
set_option maxRecDepth 100000 in
theorem k_isLike {lA : Launch} (hlt : lA.stackTraces = false) {D : jv_D} {base : Nat} {h : jv_H} {b : Nat} {m : mM} (hb : jv_sh h b = some (.inl 3)) (hm : cv_M h b m) {c : Nat} {o : mM} (hc : jv_sh h c = some (.inl 3)) (ho : cv_M h c o) (hok : mm_ok m) (hok2 : mm_ok o) : jv_Met lA D base yX3_isLike (.code yX3_isLike cX3_isLike 2 (some .boolean)) 2 0 0 [.ref b, .ref c] h (jv_rI (jv_bI (m_lk m o)) h) jv_no := by
  refine jv_ofV (lo := [(0, .ref b), (1, .ref c)]) hlt (by decide) (Nat.le_of_ble_eq_true rfl) rfl (fun E hEl hEd hEz Z G hr ht hnm => ?_)
  subst hEl; subst hEd; subst hEz
  have h1 := hok.1; have h2 := hok.2.1; have h3 := hok2.1; have h4 := hok2.2.1
  refine jv_aload_n (q := 1) G 0 dX3_isLike_0 rfl rfl rfl ?_
  refine jv_getZ (q := 4) G dX3_isLike_1 fl_X3_9 rfl hb hm.1 rfl ?_
  refine jv_aload_n (q := 5) G 1 dX3_isLike_4 rfl rfl rfl ?_
  refine jv_getZ (q := 8) G dX3_isLike_5 fl_X3_9 rfl hc ho.1 rfl ?_
  refine jv_icmp_neB (q := 11) (tgt := 45) G dX3_isLike_8 (by decide) rfl (fun c1 => ?_) (fun c1 => ?_)
  · refine jv_iconst (q := 46) (v := nI 0) G dX3_isLike_45 (by decide) rfl ?_
    refine jv_topI (y := jv_bI false) rfl ?_
    refine jv_zret G hr dX3_isLike_46 (Nat.le_of_ble_eq_true rfl) (Nat.le_of_ble_eq_true rfl) ?_
    refine ⟨?_, rfl⟩; unfold m_lk; simp only [*, decide_true, decide_false, Bool.not_true, Bool.not_false, Bool.and_true, Bool.true_and, Bool.and_false, Bool.false_and]
  · refine jv_aload_n (q := 12) G 0 dX3_isLike_11 rfl rfl rfl ?_
    refine jv_getI (q := 15) G dX3_isLike_12 fl_X3_18 rfl hb hm.2.2.2.1 rfl ?_
    refine jv_aload_n (q := 16) G 1 dX3_isLike_15 rfl rfl rfl ?_
    refine jv_getI (q := 19) G dX3_isLike_16 fl_X3_18 rfl hc ho.2.2.2.1 rfl ?_
    refine jv_icmp_neN (q := 22) (tgt := 45) G dX3_isLike_19 (by decide) rfl (by omega) (by omega) (fun c2 => ?_) (fun c2 => ?_)
    · refine jv_iconst (q := 46) (v := nI 0) G dX3_isLike_45 (by decide) rfl ?_
      refine jv_topI (y := jv_bI false) rfl ?_
      refine jv_zret G hr dX3_isLike_46 (Nat.le_of_ble_eq_true rfl) (Nat.le_of_ble_eq_true rfl) ?_
      refine ⟨?_, rfl⟩; unfold m_lk; simp only [*, decide_true, decide_false, Bool.not_true, Bool.not_false, Bool.and_true, Bool.true_and, Bool.and_false, Bool.false_and]
    · refine jv_aload_n (q := 23) G 0 dX3_isLike_22 rfl rfl rfl ?_
      refine jv_getZ (q := 26) G dX3_isLike_23 fl_X3_25 rfl hb hm.2.2.1 rfl ?_
      refine jv_aload_n (q := 27) G 1 dX3_isLike_26 rfl rfl rfl ?_
      refine jv_getZ (q := 30) G dX3_isLike_27 fl_X3_25 rfl hc ho.2.2.1 rfl ?_
      refine jv_icmp_neB (q := 33) (tgt := 45) G dX3_isLike_30 (by decide) rfl (fun c3 => ?_) (fun c3 => ?_)
      · refine jv_iconst (q := 46) (v := nI 0) G dX3_isLike_45 (by decide) rfl ?_
        refine jv_topI (y := jv_bI false) rfl ?_
        refine jv_zret G hr dX3_isLike_46 (Nat.le_of_ble_eq_true rfl) (Nat.le_of_ble_eq_true rfl) ?_
        refine ⟨?_, rfl⟩; unfold m_lk; simp only [*, decide_true, decide_false, Bool.not_true, Bool.not_false, Bool.and_true, Bool.true_and, Bool.and_false, Bool.false_and]
      · refine jv_aload_n (q := 34) G 0 dX3_isLike_33 rfl rfl rfl ?_
        refine jv_aload_n (q := 35) G 1 dX3_isLike_34 rfl rfl rfl ?_
        refine jv_callV_I (q := 38) (h1 := h) (As := [.ref c]) (rest := []) (ce' := 0) (sl' := 0) (r := jv_bI (m_sb m o)) G Z ml_X3_31 (k_sameBody hlt hb hm hc ho) hb dX3_isLike_35 rfl (by decide) (by decide) (by decide) (by decide) (Nat.le_of_ble_eq_true rfl) rfl rfl rfl rfl ?_
        refine jv_if_eqB (q := 41) (tgt := 45) G dX3_isLike_38 (by decide) rfl (fun c4 => ?_) (fun c4 => ?_)
        · refine jv_iconst (q := 46) (v := nI 0) G dX3_isLike_45 (by decide) rfl ?_
          refine jv_topI (y := jv_bI false) rfl ?_
          refine jv_zret G hr dX3_isLike_46 (Nat.le_of_ble_eq_true rfl) (Nat.le_of_ble_eq_true rfl) ?_
          refine ⟨?_, rfl⟩; unfold m_lk; simp only [*, decide_true, decide_false, Bool.not_true, Bool.not_false, Bool.and_true, Bool.true_and, Bool.and_false, Bool.false_and]
        · refine jv_iconst (q := 42) (v := nI 1) G dX3_isLike_41 (by decide) rfl ?_
          refine jv_goto (q := 46) G dX3_isLike_42 (by decide) ?_
          refine jv_topI (y := jv_bI true) rfl ?_
          refine jv_zret G hr dX3_isLike_46 (Nat.le_of_ble_eq_true rfl) (Nat.le_of_ble_eq_true rfl) ?_
          refine ⟨?_, rfl⟩; unfold m_lk; simp only [*, decide_true, decide_false, Bool.not_true, Bool.not_false, Bool.and_true, Bool.true_and, Bool.and_false, Bool.false_and]
