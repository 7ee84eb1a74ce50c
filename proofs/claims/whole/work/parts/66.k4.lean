theorem um_lt {U : List Nat} (h : ∀ v ∈ U, v < 16) : m_um U < 2 ^ 16 := by
  induction U with
  | nil => decide
  | cons v U ih =>
    rw [m_um]
    exact Nat.or_lt_two_pow (Nat.pow_lt_pow_right (by decide) (h v (by simp))) (ih (fun u hu => h u (by simp [hu])))
theorem um_bit {U : List Nat} {v : Nat} : (m_um U).testBit v = decide (v ∈ U) := by
  induction U with
  | nil => rw [m_um]; simp
  | cons u U ih =>
    rw [m_um, Nat.testBit_or, ih, Nat.testBit_two_pow]
    by_cases h1 : u = v
    · subst h1; simp
    · rw [decide_eq_false h1, Bool.false_or, decide_eq_decide]
      simp [Ne.symm h1]
/-- a sealed edition's uppers -/
def cv_Us (z : Nat → Nat → Nat) (T : Nat → Nat) (h : jv_H) (e : Nat) (ts : List mT) (Us : Nat → List Nat) : Prop := ∀ k, k < ts.length → cv_U z h (T (10 * e + k)) (Us k) ∧ (Us k).length ≤ 10 ∧ ∀ v ∈ Us k, v < 16
theorem lu_n {ts : List mT} {t : mT} {u : Nat} (hu : mt_u t = some u) (h : m_cn ts (nI u) false = none) : m_lu ts t = false := by
  unfold m_lu
  rw [hu]; dsimp only
  cases hm : m_at ts (nI u) with
  | none => rfl
  | some k =>
    obtain ⟨s, h1, -⟩ := m_at_get hm
    dsimp only
    rw [h1]
    cases hi : mt_i s with
    | true => simp [hi]
    | false => rw [m_cn_yes hm h1 hi] at h; cases h
theorem lu_y {ts : List mT} {t : mT} {u k : Nat} (hu : mt_u t = some u) (h : m_cn ts (nI u) false = some k) : m_lu ts t = true := by
  obtain ⟨h1, h2⟩ := m_cn_at h
  obtain ⟨s, h3, -, h4⟩ := m_cn_get h
  unfold m_lu
  rw [hu]; dsimp only
  rw [h1]; dsimp only
  rw [h3]
  simp [h4]
theorem lf_n {ts : List mT} {v : Nat} (h : m_cn ts (nI v) true = none) : m_lf ts v = false := by
  unfold m_lf
  cases hm : m_at ts (nI v) with
  | none => rfl
  | some k =>
    obtain ⟨s, h1, -⟩ := m_at_get hm
    dsimp only
    rw [h1]
    cases hi : mt_i s with
    | false => simp [hi]
    | true => rw [m_cn_yes hm h1 hi] at h; cases h
theorem lf_y {ts : List mT} {v k : Nat} (h : m_cn ts (nI v) true = some k) : m_lf ts v = true := by
  obtain ⟨h1, h2⟩ := m_cn_at h
  obtain ⟨s, h3, -, h4⟩ := m_cn_get h
  unfold m_lf
  rw [h1]; dsimp only
  rw [h3]
  simp [h4]
def c_ha (ts : List mT) (Us : Nat → List Nat) (u l : Int32) : Bool := match m_at ts l with
  | none => false
  | some k => match m_at ts u with
    | none => false
    | some j => (ts[j]?).any (fun y => decide (mt_n y ∈ Us k))
def c_hl (ts : List mT) (ko : Option Nat) (v : Nat) : Option Nat := match m_at ts (nI v) with
  | none => none
  | some j => if (ts[j]?).any (fun y => m_has y false ko) then some j else none
def c_hf (ts : List mT) (Us : Nat → List Nat) (k : Nat) (ko : Option Nat) : Option Nat := if (ts[k]?).any (fun y => m_has y false ko) then some k else (Us k).findSome? (c_hl ts ko)
def c_nw (ts : List mT) (ko : Option Nat) : Nat → Option Nat → Option Nat
  | 0, _ => none
  | _ + 1, none => none
  | n + 1, some k => match ts[k]? with
    | none => none
    | some t => if m_has t true ko then some k else c_nw ts ko n (m_at ts (jv_oN (mt_u t)))
theorem drop_get {α : Type} {l : List α} {i : Nat} {v : α} (h : l[i]? = some v) : l.drop i = v :: l.drop (i + 1) := by
  obtain ⟨h1, h2⟩ := List.getElem?_eq_some_iff.mp h
  rw [List.drop_eq_getElem_cons h1, h2]
set_option maxHeartbeats 4000000 in
set_option maxRecDepth 100000 in
theorem k_lr_loop {E : jv_E} {z : Nat → Nat → Nat} {T : Nat → Nat} {N : Nat → Nat → Nat} {h : jv_H} {e : Nat} {ts : List mT} (hE : cv_E z T N h e ts) {k0 : Nat} {t0 : mT} (ht0 : ts[k0]? = some t0) (hlt : (jv_l E).stackTraces = false) (G : jv_C E cX2_leansRight RX2 3) (Z : jv_rm E = jv_room 3 0 0) (hr : (jv_mt E).sig.returnType = some .boolean) (hlu : m_lu ts t0 = true) : ∀ (n j : Nat), j + n = (mt_f t0).length → (∀ (j' : Nat) v, j' < j → (mt_f t0)[j']? = some v → m_lf ts v = true) → jv_V E 3 h 0 0 (jv_Q E (jv_rI (jv_bI (m_lr ts t0)) h) jv_no 0 0) 23 [(2, .int (nI j)), (0, .ref (z 0 e)), (1, .ref (T (10 * e + k0)))] [] := by
  intro n
  induction n with
  | zero =>
    intro j hn hj
    have lt0 := jv_ltGet ht0
    have k10t0 : k0 < 10 := by have := hE.2.2.2.1; omega
    have Ot0 := (hE.2.2.2.2.1 k0 t0 ht0).2
    have Vt0 := (hE.2.2.2.2.1 k0 t0 ht0).1
    have Yt0 := hE.2.1 k0 k10t0
    have bt0n := Ot0.1; have bt0k := Ot0.2.1
    have hl3 := Ot0.2.2.2.1
    refine jv_iload_n (q := 24) G 0 dX2_leansRight_23 rfl rfl rfl ?_
    refine jv_aload_n (q := 25) G 2 dX2_leansRight_24 rfl rfl rfl ?_
    refine jv_getI (q := 28) G dX2_leansRight_25 fl_X2_60 rfl (hE.2.1 k0 k10t0).1 (ct_7 (hE.2.2.2.2.1 k0 t0 ht0).1) rfl ?_
    refine jv_icmp_geN (q := 31) (tgt := 52) G dX2_leansRight_28 (by decide) rfl (by omega) (by omega) (fun c1 => ?_) (fun c1 => ?_)
    · refine jv_iconst (q := 53) (v := nI 1) G dX2_leansRight_52 (by decide) rfl ?_
      refine jv_topI (y := jv_bI true) rfl ?_
      refine jv_zret G hr dX2_leansRight_53 (Nat.le_of_ble_eq_true rfl) (Nat.le_of_ble_eq_true rfl) ?_
      refine ⟨?_, rfl⟩
      rw [show m_lr ts t0 = true from by
        unfold m_lr
        rw [hlu, Bool.true_and, List.all_eq_true]
        intro v hv
        obtain ⟨j', hj'⟩ := List.getElem?_of_mem hv
        exact hj j' v (by have := jv_ltGet hj'; omega) hj']
    · omega
  | succ n ih =>
    intro j hn hj
    have lt0 := jv_ltGet ht0
    have k10t0 : k0 < 10 := by have := hE.2.2.2.1; omega
    have Ot0 := (hE.2.2.2.2.1 k0 t0 ht0).2
    have Vt0 := (hE.2.2.2.2.1 k0 t0 ht0).1
    have Yt0 := hE.2.1 k0 k10t0
    have bt0n := Ot0.1; have bt0k := Ot0.2.1
    have hl3 := Ot0.2.2.2.1
    obtain ⟨v, hv⟩ := jv_getLt (l := mt_f t0) (k := j) (by omega)
    have hf := ct_f Vt0 hv
    refine jv_iload_n (q := 24) G 0 dX2_leansRight_23 rfl rfl rfl ?_
    refine jv_aload_n (q := 25) G 2 dX2_leansRight_24 rfl rfl rfl ?_
    refine jv_getI (q := 28) G dX2_leansRight_25 fl_X2_60 rfl (hE.2.1 k0 k10t0).1 (ct_7 (hE.2.2.2.2.1 k0 t0 ht0).1) rfl ?_
    refine jv_icmp_geN (q := 31) (tgt := 52) G dX2_leansRight_28 (by decide) rfl (by omega) (by omega) (fun c1 => ?_) (fun c1 => ?_)
    · omega
    · refine jv_aload_n (q := 32) G 1 dX2_leansRight_31 rfl rfl rfl ?_
      refine jv_aload_n (q := 33) G 2 dX2_leansRight_32 rfl rfl rfl ?_
      refine jv_getQ (q := 36) G dX2_leansRight_33 fl_X2_63 rfl (hE.2.1 k0 k10t0).1 (hE.2.1 k0 k10t0).2.1 rfl ?_
      refine jv_iload_n (q := 37) G 0 dX2_leansRight_36 rfl rfl rfl ?_
      refine jv_iald (q := 38) G dX2_leansRight_37 (hE.2.1 k0 k10t0).2.2.1 rfl (by omega) (by decide) hf rfl ?_
      refine jv_callV_R (q := 41) (h1 := h) (As := [.int (nI v)]) (rest := []) (ce' := 0) (sl' := 0) (r := ((m_cn ts (nI v) true).map (fun k => T (10 * e + k)))) G Z ml_X2_67 (k_interfaceNamed hlt hE) hE.1.1 dX2_leansRight_38 rfl (by decide) (by decide) (by decide) (by decide) (Nat.le_of_ble_eq_true rfl) rfl rfl rfl rfl ?_
      rcases Option.eq_none_or_eq_some (m_cn ts (nI v) true) with hk4 | ⟨k2, hk4⟩
      · refine jv_topR (y := none) (by rw [hk4]; rfl) ?_
        refine jv_ifnonnull (q := 44) (tgt := 46) (x := none) G dX2_leansRight_41 (by decide) rfl (fun a6 c5 => ?_) (fun c5 => ?_)
        · cases c5
        · refine jv_iconst (q := 45) (v := nI 0) G dX2_leansRight_44 (by decide) rfl ?_
          refine jv_topI (y := jv_bI false) rfl ?_
          refine jv_zret G hr dX2_leansRight_45 (Nat.le_of_ble_eq_true rfl) (Nat.le_of_ble_eq_true rfl) ?_
          refine ⟨?_, rfl⟩
          rw [show m_lr ts t0 = false from by
            unfold m_lr
            rw [hlu, Bool.true_and, List.all_eq_false]
            exact ⟨v, List.mem_of_getElem? hv, by rw [lf_n hk4]; decide⟩]
      · refine jv_topR (y := (some (T (10 * e + k2)))) (by rw [hk4]; rfl) ?_
        obtain ⟨t3, ht3, nt3⟩ := m_cn_get hk4
        have lt3 := jv_ltGet ht3
        have k10t3 : k2 < 10 := by have := hE.2.2.2.1; omega
        have Ot3 := (hE.2.2.2.2.1 k2 t3 ht3).2
        have Vt3 := (hE.2.2.2.2.1 k2 t3 ht3).1
        have Yt3 := hE.2.1 k2 k10t3
        have bt3n := Ot3.1; have bt3k := Ot3.2.1
        refine jv_ifnonnull (q := 44) (tgt := 46) (x := (some (T (10 * e + k2)))) G dX2_leansRight_41 (by decide) rfl (fun a8 c7 => ?_) (fun c7 => ?_)
        · refine jv_iinc (q := 49) (lo' := [(2, .int (nI (j + 1))), (0, .ref (z 0 e)), (1, .ref (T (10 * e + k0)))]) (v := nI (j + 1)) G 0 dX2_leansRight_46 rfl (nI_1 j) (by decide) rfl rfl ?_
          refine jv_goto (q := 23) G dX2_leansRight_49 (by decide) ?_
          refine jv_lo [0, 1, 2] (lo' := [(2, .int (nI (j + 1))), (0, .ref (z 0 e)), (1, .ref (T (10 * e + k0)))]) rfl ?_
          refine ih (j + 1) (by omega) (fun j' v' hj' hv' => ?_)
          by_cases e1 : j' = j
          · subst e1; cases hv.symm.trans hv'; exact lf_y hk4
          · exact hj j' v' (by omega) hv'
        · cases c7
set_option maxHeartbeats 4000000 in
set_option maxRecDepth 100000 in
theorem k_leansRight {lA : Launch} (hlt : lA.stackTraces = false) {D : jv_D} {base : Nat} {z : Nat → Nat → Nat} {T : Nat → Nat} {N : Nat → Nat → Nat} {h : jv_H} {e : Nat} {ts : List mT} (hE : cv_E z T N h e ts) {k0 : Nat} {t0 : mT} (ht0 : ts[k0]? = some t0) : jv_Met lA D base yX2_leansRight (.code yX2_leansRight cX2_leansRight 3 (some .boolean)) 3 0 0 [.ref (z 0 e), .ref (T (10 * e + k0))] h (jv_rI (jv_bI (m_lr ts t0)) h) jv_no := by
  refine jv_ofV (lo := [(0, .ref (z 0 e)), (1, .ref (T (10 * e + k0)))]) hlt (by decide) (Nat.le_of_ble_eq_true rfl) rfl (fun E hEl hEd hEz Z G hr ht hnm => ?_)
  subst hEl; subst hEd; subst hEz
  have lt0 := jv_ltGet ht0
  have k10t0 : k0 < 10 := by have := hE.2.2.2.1; omega
  have Ot0 := (hE.2.2.2.2.1 k0 t0 ht0).2
  have Vt0 := (hE.2.2.2.2.1 k0 t0 ht0).1
  have Yt0 := hE.2.1 k0 k10t0
  have bt0n := Ot0.1; have bt0k := Ot0.2.1
  have hl3 := Ot0.2.2.2.1
  cases hu : mt_u t0 with
  | none =>
    refine jv_aload_n (q := 1) G 1 dX2_leansRight_0 rfl rfl rfl ?_
    refine jv_getI (q := 4) G dX2_leansRight_1 fl_X2_54 rfl (hE.2.1 k0 k10t0).1 ((ct_5 Vt0).trans (congrArg jv_oN hu)) rfl ?_
    refine jv_iconst (q := 5) (v := (-1)) G dX2_leansRight_4 (by decide) rfl ?_
    refine jv_icmp_eq (q := 8) (tgt := 21) G dX2_leansRight_5 (by decide) rfl (fun c1 => ?_) (fun c1 => ?_)
    · refine jv_iconst (q := 22) (v := nI 0) G dX2_leansRight_21 (by decide) rfl ?_
      refine jv_istore_n (q := 23) (lo' := [(2, .int (nI 0)), (0, .ref (z 0 e)), (1, .ref (T (10 * e + k0)))]) G dX2_leansRight_22 rfl (by decide) rfl rfl ?_
      refine jv_lo [0, 1, 2] (lo' := [(2, .int (nI 0)), (0, .ref (z 0 e)), (1, .ref (T (10 * e + k0)))]) rfl ?_
      exact k_lr_loop hE ht0 hlt G Z hr (show m_lu ts t0 = true by unfold m_lu; rw [hu]) (mt_f t0).length 0 (by omega) (fun j' v hj => by omega)
    · exact absurd rfl c1
  | some u =>
    have hu16 := (Ot0.2.2.1 u hu).1
    refine jv_aload_n (q := 1) G 1 dX2_leansRight_0 rfl rfl rfl ?_
    refine jv_getI (q := 4) G dX2_leansRight_1 fl_X2_54 rfl (hE.2.1 k0 k10t0).1 ((ct_5 Vt0).trans (congrArg jv_oN hu)) rfl ?_
    refine jv_iconst (q := 5) (v := (-1)) G dX2_leansRight_4 (by decide) rfl ?_
    refine jv_icmp_eq (q := 8) (tgt := 21) G dX2_leansRight_5 (by decide) rfl (fun c2 => ?_) (fun c2 => ?_)
    · exact absurd c2 (jv_nI_m1 (by omega))
    · refine jv_aload_n (q := 9) G 0 dX2_leansRight_8 rfl rfl rfl ?_
      refine jv_aload_n (q := 10) G 1 dX2_leansRight_9 rfl rfl rfl ?_
      refine jv_getI (q := 13) G dX2_leansRight_10 fl_X2_54 rfl (hE.2.1 k0 k10t0).1 ((ct_5 Vt0).trans (congrArg jv_oN hu)) rfl ?_
      refine jv_callV_R (q := 16) (h1 := h) (As := [.int (nI u)]) (rest := []) (ce' := 0) (sl' := 0) (r := ((m_cn ts (nI u) false).map (fun k => T (10 * e + k)))) G Z ml_X2_57 (k_classNamed hlt hE) hE.1.1 dX2_leansRight_13 rfl (by decide) (by decide) (by decide) (by decide) (Nat.le_of_ble_eq_true rfl) rfl rfl rfl rfl ?_
      rcases Option.eq_none_or_eq_some (m_cn ts (nI u) false) with hk5 | ⟨k3, hk5⟩
      · refine jv_topR (y := none) (by rw [hk5]; rfl) ?_
        refine jv_ifnonnull (q := 19) (tgt := 21) (x := none) G dX2_leansRight_16 (by decide) rfl (fun a7 c6 => ?_) (fun c6 => ?_)
        · cases c6
        · refine jv_iconst (q := 20) (v := nI 0) G dX2_leansRight_19 (by decide) rfl ?_
          refine jv_topI (y := jv_bI false) rfl ?_
          refine jv_zret G hr dX2_leansRight_20 (Nat.le_of_ble_eq_true rfl) (Nat.le_of_ble_eq_true rfl) ?_
          refine ⟨?_, rfl⟩
          rw [show m_lr ts t0 = false from by unfold m_lr; rw [lu_n hu hk5, Bool.false_and]]
      · refine jv_topR (y := (some (T (10 * e + k3)))) (by rw [hk5]; rfl) ?_
        obtain ⟨t4, ht4, nt4⟩ := m_cn_get hk5
        have lt4 := jv_ltGet ht4
        have k10t4 : k3 < 10 := by have := hE.2.2.2.1; omega
        have Ot4 := (hE.2.2.2.2.1 k3 t4 ht4).2
        have Vt4 := (hE.2.2.2.2.1 k3 t4 ht4).1
        have Yt4 := hE.2.1 k3 k10t4
        have bt4n := Ot4.1; have bt4k := Ot4.2.1
        refine jv_ifnonnull (q := 19) (tgt := 21) (x := (some (T (10 * e + k3)))) G dX2_leansRight_16 (by decide) rfl (fun a9 c8 => ?_) (fun c8 => ?_)
        · refine jv_iconst (q := 22) (v := nI 0) G dX2_leansRight_21 (by decide) rfl ?_
          refine jv_istore_n (q := 23) (lo' := [(2, .int (nI 0)), (0, .ref (z 0 e)), (1, .ref (T (10 * e + k0)))]) G dX2_leansRight_22 rfl (by decide) rfl rfl ?_
          refine jv_lo [0, 1, 2] (lo' := [(2, .int (nI 0)), (0, .ref (z 0 e)), (1, .ref (T (10 * e + k0)))]) rfl ?_
          exact k_lr_loop hE ht0 hlt G Z hr (lu_y hu hk5) (mt_f t0).length 0 (by omega) (fun j' v hj => by omega)
        · cases c8
set_option maxHeartbeats 4000000 in
set_option maxRecDepth 100000 in
theorem k_flw_loop {E : jv_E} {z : Nat → Nat → Nat} {T : Nat → Nat} {N : Nat → Nat → Nat} {h : jv_H} {e : Nat} {ts : List mT} (hE : cv_E z T N h e ts) (hlt : (jv_l E).stackTraces = false) (G : jv_C E cX2_firstThatLeansWrong RX2 2) (Z : jv_rm E = jv_room 4 0 0) (hr : (jv_mt E).sig.returnType = some .int) : ∀ (n k : Nat), k + n = ts.length → (∀ (j : Nat) t', j < k → ts[j]? = some t' → (!m_lr ts t') = false) → jv_V E 2 h 0 0 (jv_Q E (jv_rI (jv_oN (m_fn (fun t => !m_lr ts t) ts)) h) jv_no 0 0) 2 [(1, .int (nI k)), (0, .ref (z 0 e))] [] := by
  have hl10 := hE.2.2.2.1
  intro n
  induction n with
  | zero =>
    intro k hn hb
    refine jv_iload_n (q := 3) G 0 dX2_firstThatLeansWrong_2 rfl rfl rfl ?_
    refine jv_aload_n (q := 4) G 1 dX2_firstThatLeansWrong_3 rfl rfl rfl ?_
    refine jv_getI (q := 7) G dX2_firstThatLeansWrong_4 fl_X2_33 rfl hE.1.1 hE.2.2.1 rfl ?_
    refine jv_icmp_geN (q := 10) (tgt := 39) G dX2_firstThatLeansWrong_7 (by decide) rfl (by omega) (by omega) (fun c1 => ?_) (fun c1 => ?_)
    · refine jv_iconst (q := 40) (v := (-1)) G dX2_firstThatLeansWrong_39 (by decide) rfl ?_
      refine jv_iret G hr dX2_firstThatLeansWrong_40 (Nat.le_of_ble_eq_true rfl) (Nat.le_of_ble_eq_true rfl) ?_
      refine ⟨?_, rfl⟩
      rw [fn_none (p := (fun t => !m_lr ts t)) (fun t' ht' => by
        obtain ⟨j, hj⟩ := List.getElem?_of_mem ht'
        exact hb j t' (by have := jv_ltGet hj; omega) hj)]; rfl
    · omega
  | succ n ih =>
    intro k hn hb
    obtain ⟨t, ht⟩ := jv_getLt (l := ts) (k := k) (by omega)
    have lt := jv_ltGet ht
    have k10t : k < 10 := by have := hE.2.2.2.1; omega
    have Ot := (hE.2.2.2.2.1 k t ht).2
    have Vt := (hE.2.2.2.2.1 k t ht).1
    have Yt := hE.2.1 k k10t
    have btn := Ot.1; have btk := Ot.2.1
    refine jv_iload_n (q := 3) G 0 dX2_firstThatLeansWrong_2 rfl rfl rfl ?_
    refine jv_aload_n (q := 4) G 1 dX2_firstThatLeansWrong_3 rfl rfl rfl ?_
    refine jv_getI (q := 7) G dX2_firstThatLeansWrong_4 fl_X2_33 rfl hE.1.1 hE.2.2.1 rfl ?_
    refine jv_icmp_geN (q := 10) (tgt := 39) G dX2_firstThatLeansWrong_7 (by decide) rfl (by omega) (by omega) (fun c1 => ?_) (fun c1 => ?_)
    · omega
    · refine jv_aload_n (q := 11) G 1 dX2_firstThatLeansWrong_10 rfl rfl rfl ?_
      refine jv_aload_n (q := 12) G 1 dX2_firstThatLeansWrong_11 rfl rfl rfl ?_
      refine jv_getQ (q := 15) G dX2_firstThatLeansWrong_12 fl_X2_11 rfl hE.1.1 hE.1.2.1 rfl ?_
      refine jv_iload_n (q := 16) G 0 dX2_firstThatLeansWrong_15 rfl rfl rfl ?_
      refine jv_aaldQ (q := 17) G dX2_firstThatLeansWrong_16 hE.1.2.2.1 rfl (by omega) (by decide) (hE.1.2.2.2.2.2.2 k k10t) rfl ?_
      refine jv_callV_I (q := 20) (h1 := h) (As := [.ref (T (10 * e + k))]) (rest := []) (ce' := 0) (sl' := 0) (r := jv_bI (m_lr ts t)) G Z ml_X2_50 (k_leansRight hlt hE ht) hE.1.1 dX2_firstThatLeansWrong_17 rfl (by decide) (by decide) (by decide) (by decide) (Nat.le_of_ble_eq_true rfl) rfl rfl rfl rfl ?_
      refine jv_if_neB (q := 23) (tgt := 33) G dX2_firstThatLeansWrong_20 (by decide) rfl (fun c2 => ?_) (fun c2 => ?_)
      · refine jv_iinc (q := 36) (lo' := [(1, .int (nI (k + 1))), (0, .ref (z 0 e))]) (v := nI (k + 1)) G 0 dX2_firstThatLeansWrong_33 rfl (nI_1 k) (by decide) rfl rfl ?_
        refine jv_goto (q := 2) G dX2_firstThatLeansWrong_36 (by decide) ?_
        refine jv_lo [0, 1] (lo' := [(1, .int (nI (k + 1))), (0, .ref (z 0 e))]) rfl ?_
        refine ih (k + 1) (by omega) (fun j t' hj ht' => ?_)
        by_cases e1 : j = k
        · subst e1; cases ht.symm.trans ht'; rw [c2]; rfl
        · exact hb j t' (by omega) ht'
      · refine jv_aload_n (q := 24) G 1 dX2_firstThatLeansWrong_23 rfl rfl rfl ?_
        refine jv_getQ (q := 27) G dX2_firstThatLeansWrong_24 fl_X2_11 rfl hE.1.1 hE.1.2.1 rfl ?_
        refine jv_iload_n (q := 28) G 0 dX2_firstThatLeansWrong_27 rfl rfl rfl ?_
        refine jv_aaldQ (q := 29) G dX2_firstThatLeansWrong_28 hE.1.2.2.1 rfl (by omega) (by decide) (hE.1.2.2.2.2.2.2 k k10t) rfl ?_
        refine jv_getI (q := 32) G dX2_firstThatLeansWrong_29 fl_X2_40 rfl (hE.2.1 k k10t).1 (ct_0 (hE.2.2.2.2.1 k t ht).1) rfl ?_
        refine jv_iret G hr dX2_firstThatLeansWrong_32 (Nat.le_of_ble_eq_true rfl) (Nat.le_of_ble_eq_true rfl) ?_
        refine ⟨?_, rfl⟩
        rw [fn_some (p := (fun t => !m_lr ts t)) ht (by rw [c2]; rfl) hb]; rfl
set_option maxHeartbeats 4000000 in
set_option maxRecDepth 100000 in
theorem k_firstWrong {lA : Launch} (hlt : lA.stackTraces = false) {D : jv_D} {base : Nat} {z : Nat → Nat → Nat} {T : Nat → Nat} {N : Nat → Nat → Nat} {h : jv_H} {e : Nat} {ts : List mT} (hE : cv_E z T N h e ts) : jv_Met lA D base yX2_firstThatLeansWrong (.code yX2_firstThatLeansWrong cX2_firstThatLeansWrong 2 (some .int)) 4 0 0 [.ref (z 0 e)] h (jv_rI (jv_oN (m_fn (fun t => !m_lr ts t) ts)) h) jv_no := by
  refine jv_ofV (lo := [(0, .ref (z 0 e))]) hlt (by decide) (Nat.le_of_ble_eq_true rfl) rfl (fun E hEl hEd hEz Z G hr ht hnm => ?_)
  subst hEl; subst hEd; subst hEz
  refine jv_iconst (q := 1) (v := nI 0) G dX2_firstThatLeansWrong_0 (by decide) rfl ?_
  refine jv_istore_n (q := 2) (lo' := [(1, .int (nI 0)), (0, .ref (z 0 e))]) G dX2_firstThatLeansWrong_1 rfl (by decide) rfl rfl ?_
  refine jv_lo [0, 1] (lo' := [(1, .int (nI 0)), (0, .ref (z 0 e))]) rfl ?_
  exact k_flw_loop hE hlt G Z hr ts.length 0 (by omega) (fun j t' hj => by omega)
set_option maxHeartbeats 4000000 in
set_option maxRecDepth 100000 in
theorem k_hasAbove {lA : Launch} (hlt : lA.stackTraces = false) {D : jv_D} {base : Nat} {z : Nat → Nat → Nat} {T : Nat → Nat} {N : Nat → Nat → Nat} {h : jv_H} {e : Nat} {ts : List mT} (hE : cv_E z T N h e ts) {Us : Nat → List Nat} (hU : cv_Us z T h e ts Us) {u l : Int32} : jv_Met lA D base yX2_hasAbove (.code yX2_hasAbove cX2_hasAbove 4 (some .boolean)) 2 0 0 [.ref (z 0 e), .int u, .int l] h (jv_rI (jv_bI (c_ha ts Us u l)) h) jv_no := by
  refine jv_ofV (lo := [(0, .ref (z 0 e)), (1, .int u), (2, .int l)]) hlt (by decide) (Nat.le_of_ble_eq_true rfl) rfl (fun E hEl hEd hEz Z G hr ht hnm => ?_)
  subst hEl; subst hEd; subst hEz
  refine jv_aload_n (q := 1) G 0 dX2_hasAbove_0 rfl rfl rfl ?_
  refine jv_iload_n (q := 2) G 2 dX2_hasAbove_1 rfl rfl rfl ?_
  refine jv_callV_R (q := 5) (h1 := h) (As := [.int l]) (rest := []) (ce' := 0) (sl' := 0) (r := ((m_at ts l).map (fun k => T (10 * e + k)))) G Z ml_X2_25 (k_named hlt hE) hE.1.1 dX2_hasAbove_2 rfl (by decide) (by decide) (by decide) (by decide) (Nat.le_of_ble_eq_true rfl) rfl rfl rfl rfl ?_
  rcases Option.eq_none_or_eq_some (m_at ts l) with hk3 | ⟨k1, hk3⟩
  · refine jv_topR (y := none) (by rw [hk3]; rfl) ?_
    refine jv_astore_nR (q := 6) (lo' := [(3, va_rf none), (0, .ref (z 0 e)), (1, .int u), (2, .int l)]) (x := none) G dX2_hasAbove_5 rfl (by decide) rfl rfl ?_
    refine jv_aload_nR (q := 7) G 0 dX2_hasAbove_6 rfl rfl rfl ?_
    refine jv_ifnull (q := 10) (tgt := 30) (x := none) G dX2_hasAbove_7 (by decide) rfl (fun c4 => ?_) (fun a5 c4 => ?_)
    · refine jv_iconst (q := 31) (v := nI 0) G dX2_hasAbove_30 (by decide) rfl ?_
      refine jv_topI (y := jv_bI false) rfl ?_
      refine jv_zret G hr dX2_hasAbove_31 (Nat.le_of_ble_eq_true rfl) (Nat.le_of_ble_eq_true rfl) ?_
      refine ⟨?_, rfl⟩; unfold c_ha; rw [hk3]
    · cases c4
  · refine jv_topR (y := (some (T (10 * e + k1)))) (by rw [hk3]; rfl) ?_
    obtain ⟨t2, ht2, nt2⟩ := m_at_get hk3
    have lt2 := jv_ltGet ht2
    have k10t2 : k1 < 10 := by have := hE.2.2.2.1; omega
    have Ot2 := (hE.2.2.2.2.1 k1 t2 ht2).2
    have Vt2 := (hE.2.2.2.2.1 k1 t2 ht2).1
    have Yt2 := hE.2.1 k1 k10t2
    have bt2n := Ot2.1; have bt2k := Ot2.2.1
    refine jv_astore_n (q := 6) (lo' := [(3, .ref (T (10 * e + k1))), (0, .ref (z 0 e)), (1, .int u), (2, .int l)]) G dX2_hasAbove_5 rfl (by decide) rfl rfl ?_
    refine jv_aload_n (q := 7) G 0 dX2_hasAbove_6 rfl rfl rfl ?_
    refine jv_ifnull (q := 10) (tgt := 30) (x := (some (T (10 * e + k1)))) G dX2_hasAbove_7 (by decide) rfl (fun c6 => ?_) (fun a7 c6 => ?_)
    · cases c6
    · refine jv_aload_n (q := 11) G 1 dX2_hasAbove_10 rfl rfl rfl ?_
      refine jv_iload_n (q := 12) G 2 dX2_hasAbove_11 rfl rfl rfl ?_
      refine jv_callV_R (q := 15) (h1 := h) (As := [.int u]) (rest := []) (ce' := 0) (sl' := 0) (r := ((m_at ts u).map (fun k => T (10 * e + k)))) G Z ml_X2_25 (k_named hlt hE) hE.1.1 dX2_hasAbove_12 rfl (by decide) (by decide) (by decide) (by decide) (Nat.le_of_ble_eq_true rfl) rfl rfl rfl rfl ?_
      rcases Option.eq_none_or_eq_some (m_at ts u) with hk10 | ⟨k8, hk10⟩
      · refine jv_topR (y := none) (by rw [hk10]; rfl) ?_
        refine jv_ifnull (q := 18) (tgt := 30) (x := none) G dX2_hasAbove_15 (by decide) rfl (fun c11 => ?_) (fun a12 c11 => ?_)
        · refine jv_iconst (q := 31) (v := nI 0) G dX2_hasAbove_30 (by decide) rfl ?_
          refine jv_topI (y := jv_bI false) rfl ?_
          refine jv_zret G hr dX2_hasAbove_31 (Nat.le_of_ble_eq_true rfl) (Nat.le_of_ble_eq_true rfl) ?_
          refine ⟨?_, rfl⟩; unfold c_ha; rw [hk3]; dsimp only; rw [hk10]
        · cases c11
      · refine jv_topR (y := (some (T (10 * e + k8)))) (by rw [hk10]; rfl) ?_
        obtain ⟨t9, ht9, nt9⟩ := m_at_get hk10
        have lt9 := jv_ltGet ht9
        have k10t9 : k8 < 10 := by have := hE.2.2.2.1; omega
        have Ot9 := (hE.2.2.2.2.1 k8 t9 ht9).2
        have Vt9 := (hE.2.2.2.2.1 k8 t9 ht9).1
        have Yt9 := hE.2.1 k8 k10t9
        have bt9n := Ot9.1; have bt9k := Ot9.2.1
        refine jv_ifnull (q := 18) (tgt := 30) (x := (some (T (10 * e + k8)))) G dX2_hasAbove_15 (by decide) rfl (fun c13 => ?_) (fun a14 c13 => ?_)
        · cases c13
        · rw [← nt9]
          show jv_V E 4 h 0 0 (jv_Q E (jv_rI (jv_bI (c_ha ts Us (nI (mt_n t9)) l)) h) jv_no 0 0) 18 [(3, .ref (T (10 * e + k1))), (0, .ref (z 0 e)), (1, .int (nI (mt_n t9))), (2, .int l)] []
          refine jv_aload_n (q := 19) G 0 dX2_hasAbove_18 rfl rfl rfl ?_
          refine jv_iload_n (q := 20) G 2 dX2_hasAbove_19 rfl rfl rfl ?_
          have Ut2 := hU k1 lt2
          have umt2 := um_lt Ut2.2.2
          refine jv_callV_I (q := 23) (h1 := h) (As := [.int (nI (mt_n t9))]) (rest := []) (ce' := 0) (sl' := 0) (r := jv_bI ((m_um (Us k1)).testBit (mt_n t9))) G Z ml_X2_77 (k_isUnder hlt Yt2.1 Ut2.1.2.1 umt2 bt9n) (hE.2.1 k1 k10t2).1 dX2_hasAbove_20 rfl (by decide) (by decide) (by decide) (by decide) (Nat.le_of_ble_eq_true rfl) rfl rfl rfl rfl ?_
          refine jv_if_eqB (q := 26) (tgt := 30) G dX2_hasAbove_23 (by decide) rfl (fun c15 => ?_) (fun c15 => ?_)
          · refine jv_iconst (q := 31) (v := nI 0) G dX2_hasAbove_30 (by decide) rfl ?_
            refine jv_topI (y := jv_bI false) rfl ?_
            refine jv_zret G hr dX2_hasAbove_31 (Nat.le_of_ble_eq_true rfl) (Nat.le_of_ble_eq_true rfl) ?_
            refine ⟨?_, rfl⟩; unfold c_ha; rw [hk3]; dsimp only; rw [nt9, hk10]; dsimp only; rw [ht9]; dsimp only [Option.any_some]; rw [← um_bit, c15]
          · refine jv_iconst (q := 27) (v := nI 1) G dX2_hasAbove_26 (by decide) rfl ?_
            refine jv_goto (q := 31) G dX2_hasAbove_27 (by decide) ?_
            refine jv_topI (y := jv_bI true) rfl ?_
            refine jv_zret G hr dX2_hasAbove_31 (Nat.le_of_ble_eq_true rfl) (Nat.le_of_ble_eq_true rfl) ?_
            refine ⟨?_, rfl⟩; unfold c_ha; rw [hk3]; dsimp only; rw [nt9, hk10]; dsimp only; rw [ht9]; dsimp only [Option.any_some]; rw [← um_bit, c15]
