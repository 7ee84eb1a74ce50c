def rr_at (q : Nat → Nat) (h : jv_H) (c e : Nat) (n : Int32) (m k : Nat) : Int32 := jv_oN ((sf (fun k => decide (jv_I h (q 4) (10 * e + k) = n)) m k).map (fun k => 10 * e + k))
set_option maxHeartbeats 4000000 in
set_option maxRecDepth 100000 in
theorem r_at_loop {E : jv_E} {x : Nat} {q : Nat → Nat} {h : jv_H} {c e : Nat} {n : Int32} (G : jv_C E cX8_at RX8 4) (hr : (jv_mt E).sig.returnType = some .int) (hS : rf_S x q h) (he : e < 8) (hc : jv_I h (q 3) e = nI c) (hc10 : c ≤ 10) : ∀ (m k : Nat), k + m = c → jv_V E 4 h 0 0 (jv_Q E (jv_rI (rr_at q h c e n m k) h) jv_no 0 0) 2 [(3, .int (nI k)), (0, .ref x), (1, .int (nI e)), (2, .int n)] [] := by
  intro m
  induction m with
  | zero =>
    intro k hk
    refine jv_iload_n (q := 3) G 0 dX8_at_2 rfl rfl rfl ?_
    refine jv_aload_n (q := 4) G 1 dX8_at_3 rfl rfl rfl ?_
    refine jv_getQ (q := 7) G dX8_at_4 fl_X8_13 rfl hS.1 (rf_p3 hS) rfl ?_
    refine jv_iload_n (q := 8) G 2 dX8_at_7 rfl rfl rfl ?_
    refine jv_iald (q := 9) G dX8_at_8 (rf_a3 hS) rfl (by omega) (by decide) hc rfl ?_
    refine jv_icmp_geN (q := 12) (tgt := 40) G dX8_at_9 (by decide) rfl (by omega) (by omega) (fun c1 => ?_) (fun c1 => ?_)
    · refine jv_iconst (q := 41) (v := (-1)) G dX8_at_40 (by decide) rfl ?_
      refine jv_iret G hr dX8_at_41 (Nat.le_of_ble_eq_true rfl) (Nat.le_of_ble_eq_true rfl) ?_
      exact ⟨rfl, rfl⟩
    · omega
  | succ m ih =>
    intro k hk
    refine jv_iload_n (q := 3) G 0 dX8_at_2 rfl rfl rfl ?_
    refine jv_aload_n (q := 4) G 1 dX8_at_3 rfl rfl rfl ?_
    refine jv_getQ (q := 7) G dX8_at_4 fl_X8_13 rfl hS.1 (rf_p3 hS) rfl ?_
    refine jv_iload_n (q := 8) G 2 dX8_at_7 rfl rfl rfl ?_
    refine jv_iald (q := 9) G dX8_at_8 (rf_a3 hS) rfl (by omega) (by decide) hc rfl ?_
    refine jv_icmp_geN (q := 12) (tgt := 40) G dX8_at_9 (by decide) rfl (by omega) (by omega) (fun c1 => ?_) (fun c1 => ?_)
    · omega
    · refine jv_aload_n (q := 13) G 1 dX8_at_12 rfl rfl rfl ?_
      refine jv_getQ (q := 16) G dX8_at_13 fl_X8_17 rfl hS.1 (rf_p4 hS) rfl ?_
      refine jv_bipush (q := 18) (v := nI 10) G dX8_at_16 (by decide) rfl ?_
      refine jv_iload_n (q := 19) G 2 dX8_at_18 rfl rfl rfl ?_
      refine jv_imulN (q := 20) G dX8_at_19 rfl ?_
      refine jv_iload_n (q := 21) G 0 dX8_at_20 rfl rfl rfl ?_
      refine jv_iaddN (q := 22) G dX8_at_21 rfl ?_
      refine jv_iald (q := 23) G dX8_at_22 (rf_a4 hS) rfl (by omega) (by decide) rfl rfl ?_
      refine jv_iload_n (q := 24) G 3 dX8_at_23 rfl rfl rfl ?_
      refine jv_icmp_ne (q := 27) (tgt := 34) G dX8_at_24 (by decide) rfl (fun c2 => ?_) (fun c2 => ?_)
      · refine jv_iinc (q := 37) (lo' := [(3, .int (nI (k + 1))), (0, .ref x), (1, .int (nI e)), (2, .int n)]) (v := nI (k + 1)) G 0 dX8_at_34 rfl (nI_1 k) (by decide) rfl rfl ?_
        refine jv_goto (q := 2) G dX8_at_37 (by decide) ?_
        refine jv_lo [0, 1, 2, 3] (lo' := [(3, .int (nI (k + 1))), (0, .ref x), (1, .int (nI e)), (2, .int n)]) rfl ?_
        have e1 : rr_at q h c e n (m + 1) k = rr_at q h c e n m (k + 1) := by
          unfold rr_at; rw [sf, if_neg (by simpa using c2)]
        rw [e1]; exact ih (k + 1) (by omega)
      · refine jv_bipush (q := 29) (v := nI 10) G dX8_at_27 (by decide) rfl ?_
        refine jv_iload_n (q := 30) G 2 dX8_at_29 rfl rfl rfl ?_
        refine jv_imulN (q := 31) G dX8_at_30 rfl ?_
        refine jv_iload_n (q := 32) G 0 dX8_at_31 rfl rfl rfl ?_
        refine jv_iaddN (q := 33) G dX8_at_32 rfl ?_
        refine jv_iret G hr dX8_at_33 (Nat.le_of_ble_eq_true rfl) (Nat.le_of_ble_eq_true rfl) ?_
        refine ⟨?_, rfl⟩
        unfold rr_at; rw [sf, if_pos (by simpa using c2)]; rfl
set_option maxHeartbeats 4000000 in
set_option maxRecDepth 100000 in
theorem r_at {l : Launch} (hlt : l.stackTraces = false) {D : jv_D} {base : Nat} {x : Nat} {q : Nat → Nat} {h : jv_H} {c e : Nat} {n : Int32} (hS : rf_S x q h) (he : e < 8) (hc : jv_I h (q 3) e = nI c) (hc10 : c ≤ 10) : jv_Met l D base yX8_at (.code yX8_at cX8_at 4 (some .int)) 1 0 0 [.ref x, .int (nI e), .int n] h (jv_rI (rr_at q h c e n c 0) h) jv_no := by
  refine jv_ofV (lo := [(0, .ref x), (1, .int (nI e)), (2, .int n)]) hlt (by decide) (Nat.le_of_ble_eq_true rfl) rfl (fun E hEl hEd hEz Z G hr ht hnm => ?_)
  subst hEl; subst hEd; subst hEz
  refine jv_iconst (q := 1) (v := nI 0) G dX8_at_0 (by decide) rfl ?_
  refine jv_istore_n (q := 2) (lo' := [(3, .int (nI 0)), (0, .ref x), (1, .int (nI e)), (2, .int n)]) G dX8_at_1 rfl (by decide) rfl rfl ?_
  exact r_at_loop G hr hS he hc hc10 c 0 (by omega)
