def rr_in (a : Int32) (lo hi : Int32) : Bool := !decide (a < lo) && !decide (hi < a)
set_option maxHeartbeats 4000000 in
set_option maxRecDepth 100000 in
theorem r_isIn {lA : Launch} (hlt : lA.stackTraces = false) {D : jv_D} {base : Nat} {v lo hi : Int32} {h : jv_H} : jv_Met lA D base yX8_isIn (.code yX8_isIn cX8_isIn 3 (some .boolean)) 1 0 0 [.int v, .int lo, .int hi] h (jv_rI (jv_bI (rr_in v lo hi)) h) jv_no := by
  refine jv_ofV (lo := [(0, .int v), (1, .int lo), (2, .int hi)]) hlt (by decide) (Nat.le_of_ble_eq_true rfl) rfl (fun E hEl hEd hEz Z G hr ht hnm => ?_)
  subst hEl; subst hEd; subst hEz
  refine jv_iload_n (q := 1) G 0 dX8_isIn_0 rfl rfl rfl ?_
  refine jv_iload_n (q := 2) G 1 dX8_isIn_1 rfl rfl rfl ?_
  refine jv_icmp_lt (q := 5) (tgt := 14) G dX8_isIn_2 (by decide) rfl (fun c1 => ?_) (fun c1 => ?_)
  · refine jv_iconst (q := 15) (v := nI 0) G dX8_isIn_14 (by decide) rfl ?_
    refine jv_topI (y := jv_bI false) rfl ?_
    refine jv_zret G hr dX8_isIn_15 (Nat.le_of_ble_eq_true rfl) (Nat.le_of_ble_eq_true rfl) ?_
    refine ⟨?_, rfl⟩; simp only [rr_in]; simp [*]
  · refine jv_iload_n (q := 6) G 0 dX8_isIn_5 rfl rfl rfl ?_
    refine jv_iload_n (q := 7) G 2 dX8_isIn_6 rfl rfl rfl ?_
    refine jv_icmp_gt (q := 10) (tgt := 14) G dX8_isIn_7 (by decide) rfl (fun c2 => ?_) (fun c2 => ?_)
    · refine jv_iconst (q := 15) (v := nI 0) G dX8_isIn_14 (by decide) rfl ?_
      refine jv_topI (y := jv_bI false) rfl ?_
      refine jv_zret G hr dX8_isIn_15 (Nat.le_of_ble_eq_true rfl) (Nat.le_of_ble_eq_true rfl) ?_
      refine ⟨?_, rfl⟩; simp only [rr_in]; simp [*]
    · refine jv_iconst (q := 11) (v := nI 1) G dX8_isIn_10 (by decide) rfl ?_
      refine jv_goto (q := 15) G dX8_isIn_11 (by decide) ?_
      refine jv_topI (y := jv_bI true) rfl ?_
      refine jv_zret G hr dX8_isIn_15 (Nat.le_of_ble_eq_true rfl) (Nat.le_of_ble_eq_true rfl) ?_
      refine ⟨?_, rfl⟩; simp only [rr_in]; simp [*]
def rr_lt (a : Int32) (n : Nat) : Bool := !decide (a < 0) && !decide (nI n ≤ a)
set_option maxHeartbeats 4000000 in
set_option maxRecDepth 100000 in
theorem r_isEdition {lA : Launch} (hlt : lA.stackTraces = false) {D : jv_D} {base : Nat} {x : Nat} {q : Nat → Nat} {h : jv_H} {n : Nat} {e : Int32} (hS : rf_S x q h) (hn : jv_I h x 1 = nI n) : jv_Met lA D base yX8_isEdition (.code yX8_isEdition cX8_isEdition 2 (some .boolean)) 1 0 0 [.ref x, .int e] h (jv_rI (jv_bI (rr_lt e n)) h) jv_no := by
  refine jv_ofV (lo := [(0, .ref x), (1, .int e)]) hlt (by decide) (Nat.le_of_ble_eq_true rfl) rfl (fun E hEl hEd hEz Z G hr ht hnm => ?_)
  subst hEl; subst hEd; subst hEz
  refine jv_iload_n (q := 1) G 1 dX8_isEdition_0 rfl rfl rfl ?_
  refine jv_if_lt (q := 4) (tgt := 16) G dX8_isEdition_1 (by decide) rfl (fun c1 => ?_) (fun c1 => ?_)
  · refine jv_iconst (q := 17) (v := nI 0) G dX8_isEdition_16 (by decide) rfl ?_
    refine jv_topI (y := jv_bI false) rfl ?_
    refine jv_zret G hr dX8_isEdition_17 (Nat.le_of_ble_eq_true rfl) (Nat.le_of_ble_eq_true rfl) ?_
    refine ⟨?_, rfl⟩; simp only [rr_lt]; simp [*]
  · refine jv_iload_n (q := 5) G 1 dX8_isEdition_4 rfl rfl rfl ?_
    refine jv_aload_n (q := 6) G 0 dX8_isEdition_5 rfl rfl rfl ?_
    refine jv_getI (q := 9) G dX8_isEdition_6 fl_X8_126 rfl hS.1 hn rfl ?_
    refine jv_icmp_ge (q := 12) (tgt := 16) G dX8_isEdition_9 (by decide) rfl (fun c2 => ?_) (fun c2 => ?_)
    · refine jv_iconst (q := 17) (v := nI 0) G dX8_isEdition_16 (by decide) rfl ?_
      refine jv_topI (y := jv_bI false) rfl ?_
      refine jv_zret G hr dX8_isEdition_17 (Nat.le_of_ble_eq_true rfl) (Nat.le_of_ble_eq_true rfl) ?_
      refine ⟨?_, rfl⟩; simp only [rr_lt]; simp [*]
    · refine jv_iconst (q := 13) (v := nI 1) G dX8_isEdition_12 (by decide) rfl ?_
      refine jv_goto (q := 17) G dX8_isEdition_13 (by decide) ?_
      refine jv_topI (y := jv_bI true) rfl ?_
      refine jv_zret G hr dX8_isEdition_17 (Nat.le_of_ble_eq_true rfl) (Nat.le_of_ble_eq_true rfl) ?_
      refine ⟨?_, rfl⟩; simp only [rr_lt]; simp [*]
set_option maxHeartbeats 4000000 in
set_option maxRecDepth 100000 in
theorem r_isCaller {lA : Launch} (hlt : lA.stackTraces = false) {D : jv_D} {base : Nat} {x : Nat} {q : Nat → Nat} {h : jv_H} {n : Nat} {e : Int32} (hS : rf_S x q h) (hn : jv_I h x 21 = nI n) : jv_Met lA D base yX8_isCaller (.code yX8_isCaller cX8_isCaller 2 (some .boolean)) 1 0 0 [.ref x, .int e] h (jv_rI (jv_bI (rr_lt e n)) h) jv_no := by
  refine jv_ofV (lo := [(0, .ref x), (1, .int e)]) hlt (by decide) (Nat.le_of_ble_eq_true rfl) rfl (fun E hEl hEd hEz Z G hr ht hnm => ?_)
  subst hEl; subst hEd; subst hEz
  refine jv_iload_n (q := 1) G 1 dX8_isCaller_0 rfl rfl rfl ?_
  refine jv_if_lt (q := 4) (tgt := 16) G dX8_isCaller_1 (by decide) rfl (fun c1 => ?_) (fun c1 => ?_)
  · refine jv_iconst (q := 17) (v := nI 0) G dX8_isCaller_16 (by decide) rfl ?_
    refine jv_topI (y := jv_bI false) rfl ?_
    refine jv_zret G hr dX8_isCaller_17 (Nat.le_of_ble_eq_true rfl) (Nat.le_of_ble_eq_true rfl) ?_
    refine ⟨?_, rfl⟩; simp only [rr_lt]; simp [*]
  · refine jv_iload_n (q := 5) G 1 dX8_isCaller_4 rfl rfl rfl ?_
    refine jv_aload_n (q := 6) G 0 dX8_isCaller_5 rfl rfl rfl ?_
    refine jv_getI (q := 9) G dX8_isCaller_6 fl_X8_129 rfl hS.1 hn rfl ?_
    refine jv_icmp_ge (q := 12) (tgt := 16) G dX8_isCaller_9 (by decide) rfl (fun c2 => ?_) (fun c2 => ?_)
    · refine jv_iconst (q := 17) (v := nI 0) G dX8_isCaller_16 (by decide) rfl ?_
      refine jv_topI (y := jv_bI false) rfl ?_
      refine jv_zret G hr dX8_isCaller_17 (Nat.le_of_ble_eq_true rfl) (Nat.le_of_ble_eq_true rfl) ?_
      refine ⟨?_, rfl⟩; simp only [rr_lt]; simp [*]
    · refine jv_iconst (q := 13) (v := nI 1) G dX8_isCaller_12 (by decide) rfl ?_
      refine jv_goto (q := 17) G dX8_isCaller_13 (by decide) ?_
      refine jv_topI (y := jv_bI true) rfl ?_
      refine jv_zret G hr dX8_isCaller_17 (Nat.le_of_ble_eq_true rfl) (Nat.le_of_ble_eq_true rfl) ?_
      refine ⟨?_, rfl⟩; simp only [rr_lt]; simp [*]
set_option maxHeartbeats 4000000 in
set_option maxRecDepth 100000 in
theorem r_typeOf {lA : Launch} (hlt : lA.stackTraces = false) {D : jv_D} {base : Nat} {h : jv_H} {m : Nat} (hm : m < 480) : jv_Met lA D base yX8_typeOf (.code yX8_typeOf cX8_typeOf 1 (some .int)) 1 0 0 [.int (nI m)] h (jv_rI (nI (m / 6)) h) jv_no := by
  refine jv_ofV (lo := [(0, .int (nI m))]) hlt (by decide) (Nat.le_of_ble_eq_true rfl) rfl (fun E hEl hEd hEz Z G hr ht hnm => ?_)
  subst hEl; subst hEd; subst hEz
  refine jv_iload_n (q := 1) G 0 dX8_typeOf_0 rfl rfl rfl ?_
  refine jv_bipush (q := 3) (v := nI 6) G dX8_typeOf_1 (by decide) rfl ?_
  refine jv_idivN (q := 4) G dX8_typeOf_3 (by omega) (by omega) (by omega) rfl ?_
  refine jv_iret G hr dX8_typeOf_4 (Nat.le_of_ble_eq_true rfl) (Nat.le_of_ble_eq_true rfl) ?_
  exact ⟨rfl, rfl⟩
set_option maxHeartbeats 4000000 in
set_option maxRecDepth 100000 in
theorem r_thrown {lA : Launch} (hlt : lA.stackTraces = false) {D : jv_D} {base : Nat} {x : Nat} {q : Nat → Nat} {h : jv_H} {v : Int32} (hS : rf_S x q h) (hv : jv_I h x 0 = v) : jv_Met lA D base yX8_thrown (.code yX8_thrown cX8_thrown 1 (some .int)) 1 0 0 [.ref x] h (jv_rI v h) jv_no := by
  refine jv_ofV (lo := [(0, .ref x)]) hlt (by decide) (Nat.le_of_ble_eq_true rfl) rfl (fun E hEl hEd hEz Z G hr ht hnm => ?_)
  subst hEl; subst hEd; subst hEz
  refine jv_aload_n (q := 1) G 0 dX8_thrown_0 rfl rfl rfl ?_
  refine jv_getI (q := 4) G dX8_thrown_1 fl_X8_122 rfl hS.1 hv rfl ?_
  refine jv_iret G hr dX8_thrown_4 (Nat.le_of_ble_eq_true rfl) (Nat.le_of_ble_eq_true rfl) ?_
  exact ⟨rfl, rfl⟩
def rr_at (ts : List mT) (e : Nat) (n : Int32) (m k : Nat) : Int32 := jv_oN ((sf (fun k => (ts[k]?).any (fun t => decide (nI (mt_n t) = n))) m k).map (fun k => 10 * e + k))
set_option maxHeartbeats 4000000 in
set_option maxRecDepth 100000 in
theorem r_at_loop {E : jv_E} {x : Nat} {q : Nat → Nat} {h : jv_H} {e : Nat} {n : Int32} {ts : List mT} (G : jv_C E cX8_at RX8 4) (hr : (jv_mt E).sig.returnType = some .int) (hS : rf_S x q h) (he : e < 8) (hE : rf_E q h e ts) : ∀ (m k : Nat), k + m = ts.length → jv_V E 4 h 0 0 (jv_Q E (jv_rI (rr_at ts e n m k) h) jv_no 0 0) 2 [(3, .int (nI k)), (0, .ref x), (1, .int (nI e)), (2, .int n)] [] := by
  have hlen := hE.2.1
  intro m
  induction m with
  | zero =>
    intro k hk
    refine jv_iload_n (q := 3) G 0 dX8_at_2 rfl rfl rfl ?_
    refine jv_aload_n (q := 4) G 1 dX8_at_3 rfl rfl rfl ?_
    refine jv_getQ (q := 7) G dX8_at_4 fl_X8_13 rfl hS.1 (rf_p3 hS) rfl ?_
    refine jv_iload_n (q := 8) G 2 dX8_at_7 rfl rfl rfl ?_
    refine jv_iald (q := 9) G dX8_at_8 (rf_a3 hS) rfl (by omega) (by decide) hE.1 rfl ?_
    refine jv_icmp_geN (q := 12) (tgt := 40) G dX8_at_9 (by decide) rfl (by omega) (by omega) (fun c1 => ?_) (fun c1 => ?_)
    · refine jv_iconst (q := 41) (v := (-1)) G dX8_at_40 (by decide) rfl ?_
      refine jv_iret G hr dX8_at_41 (Nat.le_of_ble_eq_true rfl) (Nat.le_of_ble_eq_true rfl) ?_
      exact ⟨rfl, rfl⟩
    · omega
  | succ m ih =>
    intro k hk
    obtain ⟨t, ht⟩ := jv_getLt (l := ts) (k := k) (by omega)
    have hT := (hE.2.2 k t ht).1
    refine jv_iload_n (q := 3) G 0 dX8_at_2 rfl rfl rfl ?_
    refine jv_aload_n (q := 4) G 1 dX8_at_3 rfl rfl rfl ?_
    refine jv_getQ (q := 7) G dX8_at_4 fl_X8_13 rfl hS.1 (rf_p3 hS) rfl ?_
    refine jv_iload_n (q := 8) G 2 dX8_at_7 rfl rfl rfl ?_
    refine jv_iald (q := 9) G dX8_at_8 (rf_a3 hS) rfl (by omega) (by decide) hE.1 rfl ?_
    refine jv_icmp_geN (q := 12) (tgt := 40) G dX8_at_9 (by decide) rfl (by omega) (by omega) (fun c1 => ?_) (fun c1 => ?_)
    · omega
    · refine jv_aload_n (q := 13) G 1 dX8_at_12 rfl rfl rfl ?_
      refine jv_getQ (q := 16) G dX8_at_13 fl_X8_17 rfl hS.1 (rf_p4 hS) rfl ?_
      refine jv_bipush (q := 18) (v := nI 10) G dX8_at_16 (by decide) rfl ?_
      refine jv_iload_n (q := 19) G 2 dX8_at_18 rfl rfl rfl ?_
      refine jv_imulN (q := 20) G dX8_at_19 rfl ?_
      refine jv_iload_n (q := 21) G 0 dX8_at_20 rfl rfl rfl ?_
      refine jv_iaddN (q := 22) G dX8_at_21 rfl ?_
      refine jv_iald (q := 23) G dX8_at_22 (rf_a4 hS) rfl (by omega) (by decide) (rt_4 hT) rfl ?_
      refine jv_iload_n (q := 24) G 3 dX8_at_23 rfl rfl rfl ?_
      refine jv_icmp_ne (q := 27) (tgt := 34) G dX8_at_24 (by decide) rfl (fun c2 => ?_) (fun c2 => ?_)
      · refine jv_iinc (q := 37) (lo' := [(3, .int (nI (k + 1))), (0, .ref x), (1, .int (nI e)), (2, .int n)]) (v := nI (k + 1)) G 0 dX8_at_34 rfl (nI_1 k) (by decide) rfl rfl ?_
        refine jv_goto (q := 2) G dX8_at_37 (by decide) ?_
        refine jv_lo [0, 1, 2, 3] (lo' := [(3, .int (nI (k + 1))), (0, .ref x), (1, .int (nI e)), (2, .int n)]) rfl ?_
        have e1 : rr_at ts e n (m + 1) k = rr_at ts e n m (k + 1) := by
          unfold rr_at; rw [sf, if_neg (by rw [ht]; simpa using c2)]
        rw [e1]; exact ih (k + 1) (by omega)
      · refine jv_bipush (q := 29) (v := nI 10) G dX8_at_27 (by decide) rfl ?_
        refine jv_iload_n (q := 30) G 2 dX8_at_29 rfl rfl rfl ?_
        refine jv_imulN (q := 31) G dX8_at_30 rfl ?_
        refine jv_iload_n (q := 32) G 0 dX8_at_31 rfl rfl rfl ?_
        refine jv_iaddN (q := 33) G dX8_at_32 rfl ?_
        refine jv_iret G hr dX8_at_33 (Nat.le_of_ble_eq_true rfl) (Nat.le_of_ble_eq_true rfl) ?_
        refine ⟨?_, rfl⟩
        unfold rr_at; rw [sf, if_pos (by rw [ht]; simpa using c2)]; rfl
set_option maxHeartbeats 4000000 in
set_option maxRecDepth 100000 in
theorem r_at {lA : Launch} (hlt : lA.stackTraces = false) {D : jv_D} {base : Nat} {x : Nat} {q : Nat → Nat} {h : jv_H} {e : Nat} {n : Int32} {ts : List mT} (hS : rf_S x q h) (he : e < 8) (hE : rf_E q h e ts) : jv_Met lA D base yX8_at (.code yX8_at cX8_at 4 (some .int)) 1 0 0 [.ref x, .int (nI e), .int n] h (jv_rI (jv_oN ((m_at ts n).map (fun k => 10 * e + k))) h) jv_no := by
  refine jv_ofV (lo := [(0, .ref x), (1, .int (nI e)), (2, .int n)]) hlt (by decide) (Nat.le_of_ble_eq_true rfl) rfl (fun E hEl hEd hEz Z G hr ht hnm => ?_)
  subst hEl; subst hEd; subst hEz
  refine jv_iconst (q := 1) (v := nI 0) G dX8_at_0 (by decide) rfl ?_
  refine jv_istore_n (q := 2) (lo' := [(3, .int (nI 0)), (0, .ref x), (1, .int (nI e)), (2, .int n)]) G dX8_at_1 rfl (by decide) rfl rfl ?_
  exact r_at_loop G hr hS he hE ts.length 0 (by omega)
def rr_own (t : mT) (i : Nat) (wt n s : Int32) (m j : Nat) : Int32 := jv_oN ((sf (fun j => ((mt_m t)[j]?).any (m_ownT wt n s)) m j).map (fun j => 6 * i + j))
set_option maxHeartbeats 4000000 in
set_option maxRecDepth 100000 in
theorem r_own_loop {E : jv_E} {x : Nat} {q : Nat → Nat} {h : jv_H} {i : Nat} {wt n s : Int32} {t : mT} (G : jv_C E cX8_own RX8 6) (hr : (jv_mt E).sig.returnType = some .int) (hS : rf_S x q h) (hi : i < 80) (hT : rf_T q h i t) (hok : mt_ok t) : ∀ (m j : Nat), j + m = (mt_m t).length → jv_V E 6 h 0 0 (jv_Q E (jv_rI (rr_own t i wt n s m j) h) jv_no 0 0) 6 [(5, .int (nI (6 * i + j))), (0, .ref x), (1, .int (nI i)), (2, .int wt), (3, .int n), (4, .int s)] [] := by
  have hlen : (mt_m t).length ≤ 6 := hok.2.2.2.2.2.1
  intro m
  induction m with
  | zero =>
    intro j hj
    refine jv_iload (q := 8) G 0 dX8_own_6 rfl rfl ?_
    refine jv_bipush (q := 10) (v := nI 6) G dX8_own_8 (by decide) rfl ?_
    refine jv_iload_n (q := 11) G 2 dX8_own_10 rfl rfl rfl ?_
    refine jv_imulN (q := 12) G dX8_own_11 rfl ?_
    refine jv_aload_n (q := 13) G 1 dX8_own_12 rfl rfl rfl ?_
    refine jv_getQ (q := 16) G dX8_own_13 fl_X8_41 rfl hS.1 (rf_p12 hS) rfl ?_
    refine jv_iload_n (q := 17) G 2 dX8_own_16 rfl rfl rfl ?_
    refine jv_iald (q := 18) G dX8_own_17 (rf_a12 hS) rfl (by omega) (by decide) (rt_12 hT) rfl ?_
    refine jv_iaddN (q := 19) G dX8_own_18 rfl ?_
    refine jv_icmp_geN (q := 22) (tgt := 65) G dX8_own_19 (by decide) rfl (by omega) (by omega) (fun c1 => ?_) (fun c1 => ?_)
    · refine jv_iconst (q := 66) (v := (-1)) G dX8_own_65 (by decide) rfl ?_
      refine jv_iret G hr dX8_own_66 (Nat.le_of_ble_eq_true rfl) (Nat.le_of_ble_eq_true rfl) ?_
      exact ⟨rfl, rfl⟩
    · omega
  | succ m ih =>
    intro j hj
    obtain ⟨mm, hmm⟩ := jv_getLt (l := mt_m t) (k := j) (by omega)
    have hM := rt_m hT hmm
    refine jv_iload (q := 8) G 0 dX8_own_6 rfl rfl ?_
    refine jv_bipush (q := 10) (v := nI 6) G dX8_own_8 (by decide) rfl ?_
    refine jv_iload_n (q := 11) G 2 dX8_own_10 rfl rfl rfl ?_
    refine jv_imulN (q := 12) G dX8_own_11 rfl ?_
    refine jv_aload_n (q := 13) G 1 dX8_own_12 rfl rfl rfl ?_
    refine jv_getQ (q := 16) G dX8_own_13 fl_X8_41 rfl hS.1 (rf_p12 hS) rfl ?_
    refine jv_iload_n (q := 17) G 2 dX8_own_16 rfl rfl rfl ?_
    refine jv_iald (q := 18) G dX8_own_17 (rf_a12 hS) rfl (by omega) (by decide) (rt_12 hT) rfl ?_
    refine jv_iaddN (q := 19) G dX8_own_18 rfl ?_
    refine jv_icmp_geN (q := 22) (tgt := 65) G dX8_own_19 (by decide) rfl (by omega) (by omega) (fun c1 => ?_) (fun c1 => ?_)
    · omega
    · refine jv_aload_n (q := 23) G 1 dX8_own_22 rfl rfl rfl ?_
      refine jv_getQ (q := 26) G dX8_own_23 fl_X8_44 rfl hS.1 (rf_p13 hS) rfl ?_
      refine jv_iload (q := 28) G 0 dX8_own_26 rfl rfl ?_
      refine jv_iald (q := 29) G dX8_own_28 (rf_a13 hS) rfl (by omega) (by decide) hM.1 rfl ?_
      refine jv_iload_n (q := 30) G 3 dX8_own_29 rfl rfl rfl ?_
      refine jv_icmp_ne (q := 33) (tgt := 59) G dX8_own_30 (by decide) rfl (fun c2 => ?_) (fun c2 => ?_)
      · refine jv_iinc (q := 62) (lo' := [(5, .int (nI (6 * i + j + 1))), (0, .ref x), (1, .int (nI i)), (2, .int wt), (3, .int n), (4, .int s)]) (v := nI (6 * i + j + 1)) G 0 dX8_own_59 rfl (nI_1 (6 * i + j)) (by decide) rfl rfl ?_
        refine jv_goto (q := 6) G dX8_own_62 (by decide) ?_
        show jv_V E 6 h 0 0 (jv_Q E (jv_rI (rr_own t i wt n s (m + 1) j) h) jv_no 0 0) 6 [(5, .int (nI (6 * i + (j + 1)))), (0, .ref x), (1, .int (nI i)), (2, .int wt), (3, .int n), (4, .int s)] []
        refine jv_lo [0, 1, 2, 3, 4, 5] (lo' := [(5, .int (nI (6 * i + (j + 1)))), (0, .ref x), (1, .int (nI i)), (2, .int wt), (3, .int n), (4, .int s)]) rfl ?_
        have e1 : rr_own t i wt n s (m + 1) j = rr_own t i wt n s m (j + 1) := by
          unfold rr_own; rw [sf, if_neg (by rw [hmm]; simp [m_ownT]; simp [*])]
        rw [e1]; exact ih (j + 1) (by omega)
      · refine jv_aload_n (q := 34) G 1 dX8_own_33 rfl rfl rfl ?_
        refine jv_getQ (q := 37) G dX8_own_34 fl_X8_47 rfl hS.1 (rf_p14 hS) rfl ?_
        refine jv_iload (q := 39) G 0 dX8_own_37 rfl rfl ?_
        refine jv_iald (q := 40) G dX8_own_39 (rf_a14 hS) rfl (by omega) (by decide) hM.2.1 rfl ?_
        refine jv_iload_n (q := 41) G 4 dX8_own_40 rfl rfl rfl ?_
        refine jv_icmp_ne (q := 44) (tgt := 59) G dX8_own_41 (by decide) rfl (fun c3 => ?_) (fun c3 => ?_)
        · refine jv_iinc (q := 62) (lo' := [(5, .int (nI (6 * i + j + 1))), (0, .ref x), (1, .int (nI i)), (2, .int wt), (3, .int n), (4, .int s)]) (v := nI (6 * i + j + 1)) G 0 dX8_own_59 rfl (nI_1 (6 * i + j)) (by decide) rfl rfl ?_
          refine jv_goto (q := 6) G dX8_own_62 (by decide) ?_
          show jv_V E 6 h 0 0 (jv_Q E (jv_rI (rr_own t i wt n s (m + 1) j) h) jv_no 0 0) 6 [(5, .int (nI (6 * i + (j + 1)))), (0, .ref x), (1, .int (nI i)), (2, .int wt), (3, .int n), (4, .int s)] []
          refine jv_lo [0, 1, 2, 3, 4, 5] (lo' := [(5, .int (nI (6 * i + (j + 1)))), (0, .ref x), (1, .int (nI i)), (2, .int wt), (3, .int n), (4, .int s)]) rfl ?_
          have e1 : rr_own t i wt n s (m + 1) j = rr_own t i wt n s m (j + 1) := by
            unfold rr_own; rw [sf, if_neg (by rw [hmm]; simp [m_ownT]; simp [*])]
          rw [e1]; exact ih (j + 1) (by omega)
        · refine jv_aload_n (q := 45) G 1 dX8_own_44 rfl rfl rfl ?_
          refine jv_getQ (q := 48) G dX8_own_45 fl_X8_50 rfl hS.1 (rf_p15 hS) rfl ?_
          refine jv_iload (q := 50) G 0 dX8_own_48 rfl rfl ?_
          refine jv_iald (q := 51) G dX8_own_50 (rf_a15 hS) rfl (by omega) (by decide) hM.2.2.1 rfl ?_
          refine jv_iload (q := 53) G 5 dX8_own_51 rfl rfl ?_
          refine jv_icmp_ne (q := 56) (tgt := 59) G dX8_own_53 (by decide) rfl (fun c4 => ?_) (fun c4 => ?_)
          · refine jv_iinc (q := 62) (lo' := [(5, .int (nI (6 * i + j + 1))), (0, .ref x), (1, .int (nI i)), (2, .int wt), (3, .int n), (4, .int s)]) (v := nI (6 * i + j + 1)) G 0 dX8_own_59 rfl (nI_1 (6 * i + j)) (by decide) rfl rfl ?_
            refine jv_goto (q := 6) G dX8_own_62 (by decide) ?_
            show jv_V E 6 h 0 0 (jv_Q E (jv_rI (rr_own t i wt n s (m + 1) j) h) jv_no 0 0) 6 [(5, .int (nI (6 * i + (j + 1)))), (0, .ref x), (1, .int (nI i)), (2, .int wt), (3, .int n), (4, .int s)] []
            refine jv_lo [0, 1, 2, 3, 4, 5] (lo' := [(5, .int (nI (6 * i + (j + 1)))), (0, .ref x), (1, .int (nI i)), (2, .int wt), (3, .int n), (4, .int s)]) rfl ?_
            have e1 : rr_own t i wt n s (m + 1) j = rr_own t i wt n s m (j + 1) := by
              unfold rr_own; rw [sf, if_neg (by rw [hmm]; simp [m_ownT]; simp [*])]
            rw [e1]; exact ih (j + 1) (by omega)
          · refine jv_iload (q := 58) G 0 dX8_own_56 rfl rfl ?_
            refine jv_iret G hr dX8_own_58 (Nat.le_of_ble_eq_true rfl) (Nat.le_of_ble_eq_true rfl) ?_
            refine ⟨?_, rfl⟩
            unfold rr_own; rw [sf, if_pos (by rw [hmm]; simp [m_ownT]; simp [*])]; rfl
set_option maxHeartbeats 4000000 in
set_option maxRecDepth 100000 in
theorem r_own {lA : Launch} (hlt : lA.stackTraces = false) {D : jv_D} {base : Nat} {x : Nat} {q : Nat → Nat} {h : jv_H} {i : Nat} {wt n s : Int32} {t : mT} (hS : rf_S x q h) (hi : i < 80) (hT : rf_T q h i t) (hok : mt_ok t) : jv_Met lA D base yX8_own (.code yX8_own cX8_own 6 (some .int)) 1 0 0 [.ref x, .int (nI i), .int wt, .int n, .int s] h (jv_rI (jv_oN ((m_own t wt n s).map (fun j => 6 * i + j))) h) jv_no := by
  refine jv_ofV (lo := [(0, .ref x), (1, .int (nI i)), (2, .int wt), (3, .int n), (4, .int s)]) hlt (by decide) (Nat.le_of_ble_eq_true rfl) rfl (fun E hEl hEd hEz Z G hr ht hnm => ?_)
  subst hEl; subst hEd; subst hEz
  refine jv_bipush (q := 2) (v := nI 6) G dX8_own_0 (by decide) rfl ?_
  refine jv_iload_n (q := 3) G 1 dX8_own_2 rfl rfl rfl ?_
  refine jv_imulN (q := 4) G dX8_own_3 rfl ?_
  refine jv_istore (q := 6) (lo' := [(5, .int (nI (6 * i))), (0, .ref x), (1, .int (nI i)), (2, .int wt), (3, .int n), (4, .int s)]) G dX8_own_4 (by decide) rfl rfl ?_
  show jv_V E 6 h 0 0 (jv_Q E (jv_rI (jv_oN ((m_own t wt n s).map (fun j => 6 * i + j))) h) jv_no 0 0) 6 [(5, .int (nI (6 * i + 0))), (0, .ref x), (1, .int (nI i)), (2, .int wt), (3, .int n), (4, .int s)] []
  exact r_own_loop G hr hS hi hT hok (mt_m t).length 0 (by omega)
