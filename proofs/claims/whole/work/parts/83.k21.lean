abbrev cU : Type := Nat × Int32 × Option Nat × Int32 × Int32 × Int32
def cv_us (h : jv_H) (u : Nat) (x : cU) : Prop := cv_use h u x.1 x.2.1 x.2.2.1 x.2.2.2.1 x.2.2.2.2.1 x.2.2.2.2.2 ∧ x.1 < 6 ∧ ∀ K, x.2.2.1 = some K → K < 64
def c_mx (same : Bool) (ts : List mT) (Us : Nat → List Nat) (p : Nat) (su : Option Nat) (x : cU) : Nat := c_me same ts Us p su x.1 x.2.1 x.2.2.2.1 x.2.2.1 x.2.2.2.2.1 x.2.2.2.2.2
def c_hm (same : Bool) (ts : List mT) (Us : Nat → List Nat) (p : Nat) (su : Option Nat) (us : List cU) (w : Int32) (j : Nat) : Bool := (us[j]?).any (fun x => decide (nI (c_mx same ts Us p su x) = w))
set_option maxHeartbeats 4000000 in
set_option maxRecDepth 100000 in
theorem k_hm_loop {E : jv_E} {Q : State → Prop} {z : Nat → Nat → Nat} {T : Nat → Nat} {N : Nat → Nat → Nat} {h : jv_H} {e : Nat} {ts : List mT} (hE : cv_E z T N h e ts) {Us : Nat → List Nat} (hU : cv_Us z T h e ts Us) {c ec p : Nat} {su : Option Nat} {us : List cU} (lc : cl_c z h c) (hc : cv_ca h (z 3 c) ec p su) (hp : p < 5) (he : e < 8) (hec : ec < 8) (h4 : jv_I h (z 3 c) 4 = nI us.length) (hl : us.length ≤ 20) (hus : ∀ (j : Nat) x, us[j]? = some x → cv_us h (z 5 (20 * c + j)) x) {w : Int32} (hlt : (jv_l E).stackTraces = false) (G : jv_C E cX0_howManyMeet RX0 5) (Z : jv_rm E = jv_room 7 0 0) (hk : jv_V E 5 h 0 0 Q 39 [(3, .int (nI (fb_ct (c_hm (decide (e = ec)) ts Us p su us w) us.length)))] []) : ∀ (n j : Nat), j + n = us.length → jv_V E 5 h 0 0 Q 5 [(4, .int (nI j)), (3, .int (nI (fb_ct (c_hm (decide (e = ec)) ts Us p su us w) j))), (0, .ref (z 3 c)), (1, .ref (z 0 e)), (2, .int w)] [] := by
  intro n
  induction n with
  | zero =>
    intro j hn
    refine jv_iload (q := 7) G 0 dX0_howManyMeet_5 rfl rfl ?_
    refine jv_aload_n (q := 8) G 2 dX0_howManyMeet_7 rfl rfl rfl ?_
    refine jv_getI (q := 11) G dX0_howManyMeet_8 fl_X0_28 rfl lc.1 h4 rfl ?_
    refine jv_icmp_geN (q := 14) (tgt := 39) G dX0_howManyMeet_11 (by decide) rfl (by omega) (by omega) (fun c1 => ?_) (fun c1 => ?_)
    · refine jv_lo [1] (lo' := [(3, .int (nI (fb_ct (c_hm (decide (e = ec)) ts Us p su us w) j)))]) rfl ?_
      rw [show j = us.length by omega]; exact hk
    · omega
  | succ n ih =>
    intro j hn
    obtain ⟨x, hx⟩ := jv_getLt (l := us) (k := j) (by omega)
    obtain ⟨hu, hkd, hK⟩ := hus j x hx
    have hj20 : j < 20 := by omega
    have hb := me_lt (decide (e = ec)) ts Us p su x.1 x.2.1 x.2.2.2.1 x.2.2.1 x.2.2.2.2.1 x.2.2.2.2.2
    refine jv_iload (q := 7) G 0 dX0_howManyMeet_5 rfl rfl ?_
    refine jv_aload_n (q := 8) G 2 dX0_howManyMeet_7 rfl rfl rfl ?_
    refine jv_getI (q := 11) G dX0_howManyMeet_8 fl_X0_28 rfl lc.1 h4 rfl ?_
    refine jv_icmp_geN (q := 14) (tgt := 39) G dX0_howManyMeet_11 (by decide) rfl (by omega) (by omega) (fun c1 => ?_) (fun c1 => ?_)
    · omega
    · refine jv_aload_n (q := 15) G 2 dX0_howManyMeet_14 rfl rfl rfl ?_
      refine jv_aload_n (q := 16) G 2 dX0_howManyMeet_15 rfl rfl rfl ?_
      refine jv_getQ (q := 19) G dX0_howManyMeet_16 fl_X0_11 rfl lc.1 lc.2.1 rfl ?_
      refine jv_iload (q := 21) G 0 dX0_howManyMeet_19 rfl rfl ?_
      refine jv_aaldQ (q := 22) G dX0_howManyMeet_21 lc.2.2.1 rfl (by omega) (by decide) (lc.2.2.2 j hj20) rfl ?_
      refine jv_aload_n (q := 23) G 3 dX0_howManyMeet_22 rfl rfl rfl ?_
      refine jv_callV_I (q := 26) (h1 := h) (As := [.ref (z 5 (20 * c + j)), .ref (z 0 e)]) (rest := []) (ce' := 0) (sl' := 0) (r := nI (c_mx (decide (e = ec)) ts Us p su x)) G Z ml_X0_88 (k_meeting hlt hE hU hu hkd hK hc hp he hec) lc.1 dX0_howManyMeet_23 rfl (by decide) (by decide) (by decide) (by decide) (Nat.le_of_ble_eq_true rfl) rfl rfl rfl rfl ?_
      refine jv_iload_n (q := 27) G 4 dX0_howManyMeet_26 rfl rfl rfl ?_
      refine jv_icmp_ne (q := 30) (tgt := 33) G dX0_howManyMeet_27 (by decide) rfl (fun c2 => ?_) (fun c2 => ?_)
      · refine jv_iinc (q := 36) (lo' := [(4, .int (nI (j + 1))), (3, .int (nI (fb_ct (c_hm (decide (e = ec)) ts Us p su us w) j))), (0, .ref (z 3 c)), (1, .ref (z 0 e)), (2, .int w)]) (v := nI (j + 1)) G 0 dX0_howManyMeet_33 rfl (nI_1 j) (by decide) rfl rfl ?_
        refine jv_goto (q := 5) G dX0_howManyMeet_36 (by decide) ?_
        refine jv_lo [0, 1, 2, 3, 4] (lo' := [(4, .int (nI (j + 1))), (3, .int (nI (fb_ct (c_hm (decide (e = ec)) ts Us p su us w) j))), (0, .ref (z 3 c)), (1, .ref (z 0 e)), (2, .int w)]) rfl ?_
        have ea : fb_ct (c_hm (decide (e = ec)) ts Us p su us w) j = fb_ct (c_hm (decide (e = ec)) ts Us p su us w) (j + 1) := by
          rw [fb_ct_succ, if_neg (by unfold c_hm; rw [hx]; simp [c2])]; rfl
        rw [ea]; exact ih (j + 1) (by omega)
      · refine jv_iinc (q := 33) (lo' := [(3, .int (nI (fb_ct (c_hm (decide (e = ec)) ts Us p su us w) j + 1))), (4, .int (nI j)), (0, .ref (z 3 c)), (1, .ref (z 0 e)), (2, .int w)]) (v := nI (fb_ct (c_hm (decide (e = ec)) ts Us p su us w) j + 1)) G 1 dX0_howManyMeet_30 rfl (nI_1 (fb_ct (c_hm (decide (e = ec)) ts Us p su us w) j)) (by decide) rfl rfl ?_
        refine jv_iinc (q := 36) (lo' := [(4, .int (nI (j + 1))), (3, .int (nI (fb_ct (c_hm (decide (e = ec)) ts Us p su us w) j + 1))), (0, .ref (z 3 c)), (1, .ref (z 0 e)), (2, .int w)]) (v := nI (j + 1)) G 1 dX0_howManyMeet_33 rfl (nI_1 j) (by decide) rfl rfl ?_
        refine jv_goto (q := 5) G dX0_howManyMeet_36 (by decide) ?_
        refine jv_lo [0, 1, 2, 3, 4] (lo' := [(4, .int (nI (j + 1))), (3, .int (nI (fb_ct (c_hm (decide (e = ec)) ts Us p su us w) j + 1))), (0, .ref (z 3 c)), (1, .ref (z 0 e)), (2, .int w)]) rfl ?_
        have ea : fb_ct (c_hm (decide (e = ec)) ts Us p su us w) j + 1 = fb_ct (c_hm (decide (e = ec)) ts Us p su us w) (j + 1) := by
          rw [fb_ct_succ, if_pos (by unfold c_hm; rw [hx]; simp [c2])]
        rw [ea]; exact ih (j + 1) (by omega)
set_option maxHeartbeats 4000000 in
set_option maxRecDepth 100000 in
theorem k_howMany {lA : Launch} (hlt : lA.stackTraces = false) {D : jv_D} {base : Nat} {z : Nat → Nat → Nat} {T : Nat → Nat} {N : Nat → Nat → Nat} {h : jv_H} {e : Nat} {ts : List mT} (hE : cv_E z T N h e ts) {Us : Nat → List Nat} (hU : cv_Us z T h e ts Us) {c ec p : Nat} {su : Option Nat} {us : List cU} (lc : cl_c z h c) (hc : cv_ca h (z 3 c) ec p su) (hp : p < 5) (he : e < 8) (hec : ec < 8) (h4 : jv_I h (z 3 c) 4 = nI us.length) (hl : us.length ≤ 20) (hus : ∀ (j : Nat) x, us[j]? = some x → cv_us h (z 5 (20 * c + j)) x) {w : Int32} : jv_Met lA D base yX0_howManyMeet (.code yX0_howManyMeet cX0_howManyMeet 5 (some .int)) 7 0 0 [.ref (z 3 c), .ref (z 0 e), .int w] h (jv_rI (nI (fb_ct (c_hm (decide (e = ec)) ts Us p su us w) us.length)) h) jv_no := by
  refine jv_ofV (lo := [(0, .ref (z 3 c)), (1, .ref (z 0 e)), (2, .int w)]) hlt (by decide) (Nat.le_of_ble_eq_true rfl) rfl (fun E hEl hEd hEz Z G hr ht hnm => ?_)
  subst hEl; subst hEd; subst hEz
  refine jv_iconst (q := 1) (v := nI 0) G dX0_howManyMeet_0 (by decide) rfl ?_
  refine jv_istore_n (q := 2) (lo' := [(3, .int (nI 0)), (0, .ref (z 3 c)), (1, .ref (z 0 e)), (2, .int w)]) G dX0_howManyMeet_1 rfl (by decide) rfl rfl ?_
  refine jv_iconst (q := 3) (v := nI 0) G dX0_howManyMeet_2 (by decide) rfl ?_
  refine jv_istore (q := 5) (lo' := [(4, .int (nI 0)), (3, .int (nI 0)), (0, .ref (z 3 c)), (1, .ref (z 0 e)), (2, .int w)]) G dX0_howManyMeet_3 (by decide) rfl rfl ?_
  show jv_V E 5 h 0 0 (jv_Q E (jv_rI (nI (fb_ct (c_hm (decide (e = ec)) ts Us p su us w) us.length)) h) jv_no 0 0) 5 [(4, .int (nI 0)), (3, .int (nI (fb_ct (c_hm (decide (e = ec)) ts Us p su us w) 0))), (0, .ref (z 3 c)), (1, .ref (z 0 e)), (2, .int w)] []
  refine k_hm_loop hE hU lc hc hp he hec h4 hl hus hlt G Z ?_ us.length 0 (by omega)
  refine jv_iload_n (q := 40) G 0 dX0_howManyMeet_39 rfl rfl rfl ?_
  refine jv_iret G hr dX0_howManyMeet_40 (Nat.le_of_ble_eq_true rfl) (Nat.le_of_ble_eq_true rfl) ?_
  exact ⟨rfl, rfl⟩
