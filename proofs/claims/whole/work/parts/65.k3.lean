theorem jv_topR {E : jv_E} {nL : Nat} {h : jv_H} {ce sl : Nat} {Q : State → Prop} {pc : Nat} {lo : List (Nat × Value)} {st : List Value} {x y : Option Nat} (e : x = y) (k : jv_V E nL h ce sl Q pc lo (va_rf y :: st)) : jv_V E nL h ce sl Q pc lo (va_rf x :: st) := by rw [e]; exact k
/-- an edition's values -/
def cv_E (z : Nat → Nat → Nat) (T : Nat → Nat) (N : Nat → Nat → Nat) (h : jv_H) (e : Nat) (ts : List mT) : Prop := cl_e z T h e ∧ (∀ k, k < 10 → cl_t z N h (T (10 * e + k))) ∧ jv_I h (z 0 e) 3 = nI ts.length ∧ ts.length ≤ 10 ∧ (∀ (k : Nat) t, ts[k]? = some t → cv_T z N h (T (10 * e + k)) t ∧ mt_ok t) ∧ ∀ n, n < 16 → jv_P h (z 2 e) n = (m_at ts (nI n)).map (fun k => T (10 * e + k))
theorem m_at_get {ts : List mT} {n : Int32} {k : Nat} (h : m_at ts n = some k) : ∃ t, ts[k]? = some t ∧ nI (mt_n t) = n := by
  obtain ⟨t, h1, h2, -⟩ := m_at_some h
  exact ⟨t, h1, h2⟩
theorem m_at_out {ts : List mT} {n : Int32} (hb : ∀ t ∈ ts, mt_n t < 16) (h : n < 0 ∨ nI 16 ≤ n) : m_at ts n = none := by
  cases hm : m_at ts n with
  | none => rfl
  | some k =>
    obtain ⟨t, h1, h2⟩ := m_at_get hm
    have h3 := hb t (List.mem_of_getElem? h1)
    rw [← h2] at h
    rcases h with h | h
    · exact absurd h (nI_pos (by omega))
    · rw [nI_leI (by decide) (by omega)] at h
      omega
theorem cv_E.n16 {z : Nat → Nat → Nat} {T : Nat → Nat} {N : Nat → Nat → Nat} {h : jv_H} {e : Nat} {ts : List mT} (hE : cv_E z T N h e ts) : ∀ t ∈ ts, mt_n t < 16 := fun t ht => by
  obtain ⟨k, hk⟩ := List.getElem?_of_mem ht
  exact (hE.2.2.2.2.1 k t hk).2.1
def m_cn (ts : List mT) (n : Int32) (b : Bool) : Option Nat := match m_at ts n with
  | none => none
  | some k => if (ts[k]?).any (fun t => mt_i t == b) then some k else none
theorem m_cn_at {ts : List mT} {n : Int32} {b : Bool} {k : Nat} (h : m_cn ts n b = some k) : m_at ts n = some k ∧ (ts[k]?).any (fun t => mt_i t == b) = true := by
  unfold m_cn at h
  cases hm : m_at ts n with
  | none => rw [hm] at h; cases h
  | some j =>
    rw [hm] at h
    dsimp only at h
    split at h
    · cases h; exact ⟨rfl, by assumption⟩
    · cases h
theorem m_cn_get {ts : List mT} {n : Int32} {b : Bool} {k : Nat} (h : m_cn ts n b = some k) : ∃ t, ts[k]? = some t ∧ nI (mt_n t) = n ∧ mt_i t = b := by
  obtain ⟨h1, h2⟩ := m_cn_at h
  obtain ⟨t, h3, h4⟩ := m_at_get h1
  rw [h3] at h2
  exact ⟨t, h3, h4, by simpa using h2⟩
theorem m_cn_no {ts : List mT} {n : Int32} {b : Bool} {k : Nat} {t : mT} (h : m_at ts n = some k) (ht : ts[k]? = some t) (hb : ¬ mt_i t = b) : m_cn ts n b = none := by
  unfold m_cn
  rw [h]; dsimp only
  rw [ht, if_neg (by simpa using hb)]
theorem m_cn_yes {ts : List mT} {n : Int32} {b : Bool} {k : Nat} {t : mT} (h : m_at ts n = some k) (ht : ts[k]? = some t) (hb : mt_i t = b) : m_cn ts n b = some k := by
  unfold m_cn
  rw [h]; dsimp only
  rw [ht, if_pos (by simpa using hb)]
theorem m_cn_n {ts : List mT} {n : Int32} {b : Bool} (h : m_at ts n = none) : m_cn ts n b = none := by
  unfold m_cn
  rw [h]
set_option maxHeartbeats 4000000 in
set_option maxRecDepth 100000 in
theorem k_named {lA : Launch} (hlt : lA.stackTraces = false) {D : jv_D} {base : Nat} {z : Nat → Nat → Nat} {T : Nat → Nat} {N : Nat → Nat → Nat} {h : jv_H} {e : Nat} {ts : List mT} (hE : cv_E z T N h e ts) {n : Int32} : jv_Met lA D base yX2_named (.code yX2_named cX2_named 2 (some (.object "LinkArchive$Type"))) 1 0 0 [.ref (z 0 e), .int n] h (jv_rR ((m_at ts n).map (fun k => T (10 * e + k))) h) jv_no := by
  refine jv_ofV (lo := [(0, .ref (z 0 e)), (1, .int n)]) hlt (by decide) (Nat.le_of_ble_eq_true rfl) rfl (fun E hEl hEd hEz Z G hr ht hnm => ?_)
  subst hEl; subst hEd; subst hEz
  refine jv_iload_n (q := 1) G 1 dX2_named_0 rfl rfl rfl ?_
  refine jv_if_lt (q := 4) (tgt := 19) G dX2_named_1 (by decide) rfl (fun c1 => ?_) (fun c1 => ?_)
  · refine jv_null (q := 20) G dX2_named_19 rfl ?_
    refine jv_aretN G hr dX2_named_20 (Nat.le_of_ble_eq_true rfl) (Nat.le_of_ble_eq_true rfl) ?_
    refine ⟨?_, rfl⟩; rw [m_at_out hE.n16 (Or.inl c1)]; rfl
  · refine jv_iload_n (q := 5) G 1 dX2_named_4 rfl rfl rfl ?_
    refine jv_bipush (q := 7) (v := nI 16) G dX2_named_5 (by decide) rfl ?_
    refine jv_icmp_ge (q := 10) (tgt := 19) G dX2_named_7 (by decide) rfl (fun c2 => ?_) (fun c2 => ?_)
    · refine jv_null (q := 20) G dX2_named_19 rfl ?_
      refine jv_aretN G hr dX2_named_20 (Nat.le_of_ble_eq_true rfl) (Nat.le_of_ble_eq_true rfl) ?_
      refine ⟨?_, rfl⟩; rw [m_at_out hE.n16 (Or.inr c2)]; rfl
    · obtain ⟨k, hk, ek, -⟩ := ix_in (n := 16) (by decide) c1 (i_lt c2)
      subst ek
      refine jv_aload_n (q := 11) G 0 dX2_named_10 rfl rfl rfl ?_
      refine jv_getQ (q := 14) G dX2_named_11 fl_X2_17 rfl hE.1.1 hE.1.2.2.2.1 rfl ?_
      refine jv_iload_n (q := 15) G 1 dX2_named_14 rfl rfl rfl ?_
      refine jv_aald (q := 16) G dX2_named_15 hE.1.2.2.2.2.1 rfl (by omega) (by decide) (hE.2.2.2.2.2 k hk) rfl ?_
      refine jv_goto (q := 20) G dX2_named_16 (by decide) ?_
      refine jv_aret G hr dX2_named_20 (Nat.le_of_ble_eq_true rfl) (Nat.le_of_ble_eq_true rfl) ?_
      exact ⟨rfl, rfl⟩
set_option maxHeartbeats 4000000 in
set_option maxRecDepth 100000 in
theorem k_classNamed {lA : Launch} (hlt : lA.stackTraces = false) {D : jv_D} {base : Nat} {z : Nat → Nat → Nat} {T : Nat → Nat} {N : Nat → Nat → Nat} {h : jv_H} {e : Nat} {ts : List mT} (hE : cv_E z T N h e ts) {n : Int32} : jv_Met lA D base yX2_classNamed (.code yX2_classNamed cX2_classNamed 3 (some (.object "LinkArchive$Type"))) 2 0 0 [.ref (z 0 e), .int n] h (jv_rR ((m_cn ts n false).map (fun k => T (10 * e + k))) h) jv_no := by
  refine jv_ofV (lo := [(0, .ref (z 0 e)), (1, .int n)]) hlt (by decide) (Nat.le_of_ble_eq_true rfl) rfl (fun E hEl hEd hEz Z G hr ht hnm => ?_)
  subst hEl; subst hEd; subst hEz
  refine jv_aload_n (q := 1) G 0 dX2_classNamed_0 rfl rfl rfl ?_
  refine jv_iload_n (q := 2) G 1 dX2_classNamed_1 rfl rfl rfl ?_
  refine jv_callV_R (q := 5) (h1 := h) (As := [.int n]) (rest := []) (ce' := 0) (sl' := 0) (r := ((m_at ts n).map (fun k => T (10 * e + k)))) G Z ml_X2_25 (k_named hlt hE) hE.1.1 dX2_classNamed_2 rfl (by decide) (by decide) (by decide) (by decide) (Nat.le_of_ble_eq_true rfl) rfl rfl rfl rfl ?_
  rcases Option.eq_none_or_eq_some (m_at ts n) with hk3 | ⟨k1, hk3⟩
  · refine jv_topR (y := none) (by rw [hk3]; rfl) ?_
    refine jv_astore_nR (q := 6) (lo' := [(2, va_rf none), (0, .ref (z 0 e)), (1, .int n)]) (x := none) G dX2_classNamed_5 rfl (by decide) rfl rfl ?_
    refine jv_aload_nR (q := 7) G 0 dX2_classNamed_6 rfl rfl rfl ?_
    refine jv_ifnull (q := 10) (tgt := 17) (x := none) G dX2_classNamed_7 (by decide) rfl (fun c4 => ?_) (fun a5 c4 => ?_)
    · refine jv_null (q := 18) G dX2_classNamed_17 rfl ?_
      refine jv_goto (q := 22) G dX2_classNamed_18 (by decide) ?_
      refine jv_aretN G hr dX2_classNamed_22 (Nat.le_of_ble_eq_true rfl) (Nat.le_of_ble_eq_true rfl) ?_
      refine ⟨?_, rfl⟩; rw [m_cn_n hk3]; rfl
    · cases c4
  · refine jv_topR (y := (some (T (10 * e + k1)))) (by rw [hk3]; rfl) ?_
    obtain ⟨t2, ht2, nt2⟩ := m_at_get hk3
    have lt2 := jv_ltGet ht2
    have k10t2 : k1 < 10 := by have := hE.2.2.2.1; omega
    have Ot2 := (hE.2.2.2.2.1 k1 t2 ht2).2
    have Vt2 := (hE.2.2.2.2.1 k1 t2 ht2).1
    have Yt2 := hE.2.1 k1 k10t2
    have bt2n := Ot2.1; have bt2k := Ot2.2.1
    refine jv_astore_n (q := 6) (lo' := [(2, .ref (T (10 * e + k1))), (0, .ref (z 0 e)), (1, .int n)]) G dX2_classNamed_5 rfl (by decide) rfl rfl ?_
    refine jv_aload_n (q := 7) G 0 dX2_classNamed_6 rfl rfl rfl ?_
    refine jv_ifnull (q := 10) (tgt := 17) (x := (some (T (10 * e + k1)))) G dX2_classNamed_7 (by decide) rfl (fun c6 => ?_) (fun a7 c6 => ?_)
    · cases c6
    · refine jv_aload_n (q := 11) G 0 dX2_classNamed_10 rfl rfl rfl ?_
      refine jv_getZ (q := 14) G dX2_classNamed_11 fl_X2_29 rfl (hE.2.1 k1 k10t2).1 (ct_1 (hE.2.2.2.2.1 k1 t2 ht2).1) rfl ?_
      refine jv_if_eqB (q := 17) (tgt := 21) G dX2_classNamed_14 (by decide) rfl (fun c8 => ?_) (fun c8 => ?_)
      · refine jv_aload_n (q := 22) G 0 dX2_classNamed_21 rfl rfl rfl ?_
        refine jv_aretQ G hr dX2_classNamed_22 (Nat.le_of_ble_eq_true rfl) (Nat.le_of_ble_eq_true rfl) ?_
        refine ⟨?_, rfl⟩; rw [m_cn_yes hk3 ht2 c8]; rfl
      · refine jv_null (q := 18) G dX2_classNamed_17 rfl ?_
        refine jv_goto (q := 22) G dX2_classNamed_18 (by decide) ?_
        refine jv_aretN G hr dX2_classNamed_22 (Nat.le_of_ble_eq_true rfl) (Nat.le_of_ble_eq_true rfl) ?_
        refine ⟨?_, rfl⟩; rw [m_cn_no hk3 ht2 (by rw [c8]; decide)]; rfl
set_option maxHeartbeats 4000000 in
set_option maxRecDepth 100000 in
theorem k_interfaceNamed {lA : Launch} (hlt : lA.stackTraces = false) {D : jv_D} {base : Nat} {z : Nat → Nat → Nat} {T : Nat → Nat} {N : Nat → Nat → Nat} {h : jv_H} {e : Nat} {ts : List mT} (hE : cv_E z T N h e ts) {n : Int32} : jv_Met lA D base yX2_interfaceNamed (.code yX2_interfaceNamed cX2_interfaceNamed 3 (some (.object "LinkArchive$Type"))) 2 0 0 [.ref (z 0 e), .int n] h (jv_rR ((m_cn ts n true).map (fun k => T (10 * e + k))) h) jv_no := by
  refine jv_ofV (lo := [(0, .ref (z 0 e)), (1, .int n)]) hlt (by decide) (Nat.le_of_ble_eq_true rfl) rfl (fun E hEl hEd hEz Z G hr ht hnm => ?_)
  subst hEl; subst hEd; subst hEz
  refine jv_aload_n (q := 1) G 0 dX2_interfaceNamed_0 rfl rfl rfl ?_
  refine jv_iload_n (q := 2) G 1 dX2_interfaceNamed_1 rfl rfl rfl ?_
  refine jv_callV_R (q := 5) (h1 := h) (As := [.int n]) (rest := []) (ce' := 0) (sl' := 0) (r := ((m_at ts n).map (fun k => T (10 * e + k)))) G Z ml_X2_25 (k_named hlt hE) hE.1.1 dX2_interfaceNamed_2 rfl (by decide) (by decide) (by decide) (by decide) (Nat.le_of_ble_eq_true rfl) rfl rfl rfl rfl ?_
  rcases Option.eq_none_or_eq_some (m_at ts n) with hk3 | ⟨k1, hk3⟩
  · refine jv_topR (y := none) (by rw [hk3]; rfl) ?_
    refine jv_astore_nR (q := 6) (lo' := [(2, va_rf none), (0, .ref (z 0 e)), (1, .int n)]) (x := none) G dX2_interfaceNamed_5 rfl (by decide) rfl rfl ?_
    refine jv_aload_nR (q := 7) G 0 dX2_interfaceNamed_6 rfl rfl rfl ?_
    refine jv_ifnull (q := 10) (tgt := 17) (x := none) G dX2_interfaceNamed_7 (by decide) rfl (fun c4 => ?_) (fun a5 c4 => ?_)
    · refine jv_null (q := 18) G dX2_interfaceNamed_17 rfl ?_
      refine jv_goto (q := 22) G dX2_interfaceNamed_18 (by decide) ?_
      refine jv_aretN G hr dX2_interfaceNamed_22 (Nat.le_of_ble_eq_true rfl) (Nat.le_of_ble_eq_true rfl) ?_
      refine ⟨?_, rfl⟩; rw [m_cn_n hk3]; rfl
    · cases c4
  · refine jv_topR (y := (some (T (10 * e + k1)))) (by rw [hk3]; rfl) ?_
    obtain ⟨t2, ht2, nt2⟩ := m_at_get hk3
    have lt2 := jv_ltGet ht2
    have k10t2 : k1 < 10 := by have := hE.2.2.2.1; omega
    have Ot2 := (hE.2.2.2.2.1 k1 t2 ht2).2
    have Vt2 := (hE.2.2.2.2.1 k1 t2 ht2).1
    have Yt2 := hE.2.1 k1 k10t2
    have bt2n := Ot2.1; have bt2k := Ot2.2.1
    refine jv_astore_n (q := 6) (lo' := [(2, .ref (T (10 * e + k1))), (0, .ref (z 0 e)), (1, .int n)]) G dX2_interfaceNamed_5 rfl (by decide) rfl rfl ?_
    refine jv_aload_n (q := 7) G 0 dX2_interfaceNamed_6 rfl rfl rfl ?_
    refine jv_ifnull (q := 10) (tgt := 17) (x := (some (T (10 * e + k1)))) G dX2_interfaceNamed_7 (by decide) rfl (fun c6 => ?_) (fun a7 c6 => ?_)
    · cases c6
    · refine jv_aload_n (q := 11) G 0 dX2_interfaceNamed_10 rfl rfl rfl ?_
      refine jv_getZ (q := 14) G dX2_interfaceNamed_11 fl_X2_29 rfl (hE.2.1 k1 k10t2).1 (ct_1 (hE.2.2.2.2.1 k1 t2 ht2).1) rfl ?_
      refine jv_if_neB (q := 17) (tgt := 21) G dX2_interfaceNamed_14 (by decide) rfl (fun c8 => ?_) (fun c8 => ?_)
      · refine jv_aload_n (q := 22) G 0 dX2_interfaceNamed_21 rfl rfl rfl ?_
        refine jv_aretQ G hr dX2_interfaceNamed_22 (Nat.le_of_ble_eq_true rfl) (Nat.le_of_ble_eq_true rfl) ?_
        refine ⟨?_, rfl⟩; rw [m_cn_yes hk3 ht2 c8]; rfl
      · refine jv_null (q := 18) G dX2_interfaceNamed_17 rfl ?_
        refine jv_goto (q := 22) G dX2_interfaceNamed_18 (by decide) ?_
        refine jv_aretN G hr dX2_interfaceNamed_22 (Nat.le_of_ble_eq_true rfl) (Nat.le_of_ble_eq_true rfl) ?_
        refine ⟨?_, rfl⟩; rw [m_cn_no hk3 ht2 (by rw [c8]; decide)]; rfl
set_option maxHeartbeats 4000000 in
set_option maxRecDepth 100000 in
theorem k_cm_loop {E : jv_E} {Q : State → Prop} {z : Nat → Nat → Nat} {T : Nat → Nat} {N : Nat → Nat → Nat} {h : jv_H} {e : Nat} {ts : List mT} (hE : cv_E z T N h e ts) (G : jv_C E cX2_countMembers RX2 3) (hK : jv_V E 3 h 0 0 Q 30 [(1, .int (nI (m_sm (m_ml ts) ts.length)))] []) : ∀ (n k : Nat), k + n = ts.length → jv_V E 3 h 0 0 Q 4 [(2, .int (nI k)), (1, .int (nI (m_sm (m_ml ts) k))), (0, .ref (z 0 e))] [] := by
  have hl10 := hE.2.2.2.1
  intro n
  induction n with
  | zero =>
    intro k hn
    refine jv_iload_n (q := 5) G 0 dX2_countMembers_4 rfl rfl rfl ?_
    refine jv_aload_n (q := 6) G 2 dX2_countMembers_5 rfl rfl rfl ?_
    refine jv_getI (q := 9) G dX2_countMembers_6 fl_X2_33 rfl hE.1.1 hE.2.2.1 rfl ?_
    refine jv_icmp_geN (q := 12) (tgt := 30) G dX2_countMembers_9 (by decide) rfl (by omega) (by omega) (fun c1 => ?_) (fun c1 => ?_)
    · refine jv_lo [1] (lo' := [(1, .int (nI (m_sm (m_ml ts) k)))]) rfl ?_
      rw [show k = ts.length by omega]; exact hK
    · omega
  | succ n ih =>
    intro k hn
    obtain ⟨t, ht⟩ := jv_getLt (l := ts) (k := k) (by omega)
    have lt := jv_ltGet ht
    have k10t : k < 10 := by have := hE.2.2.2.1; omega
    have Ot := (hE.2.2.2.2.1 k t ht).2
    have Vt := (hE.2.2.2.2.1 k t ht).1
    have Yt := hE.2.1 k k10t
    have btn := Ot.1; have btk := Ot.2.1
    refine jv_iload_n (q := 5) G 0 dX2_countMembers_4 rfl rfl rfl ?_
    refine jv_aload_n (q := 6) G 2 dX2_countMembers_5 rfl rfl rfl ?_
    refine jv_getI (q := 9) G dX2_countMembers_6 fl_X2_33 rfl hE.1.1 hE.2.2.1 rfl ?_
    refine jv_icmp_geN (q := 12) (tgt := 30) G dX2_countMembers_9 (by decide) rfl (by omega) (by omega) (fun c1 => ?_) (fun c1 => ?_)
    · omega
    · refine jv_iload_n (q := 13) G 1 dX2_countMembers_12 rfl rfl rfl ?_
      refine jv_aload_n (q := 14) G 2 dX2_countMembers_13 rfl rfl rfl ?_
      refine jv_getQ (q := 17) G dX2_countMembers_14 fl_X2_11 rfl hE.1.1 hE.1.2.1 rfl ?_
      refine jv_iload_n (q := 18) G 0 dX2_countMembers_17 rfl rfl rfl ?_
      refine jv_aaldQ (q := 19) G dX2_countMembers_18 hE.1.2.2.1 rfl (by omega) (by decide) (hE.1.2.2.2.2.2.2 k k10t) rfl ?_
      refine jv_getI (q := 22) G dX2_countMembers_19 fl_X2_47 rfl (hE.2.1 k k10t).1 (ct_9 (hE.2.2.2.2.1 k t ht).1) rfl ?_
      refine jv_iaddN (q := 23) G dX2_countMembers_22 rfl ?_
      refine jv_istore_n (q := 24) (lo' := [(1, .int (nI ((m_sm (m_ml ts) k) + ((mt_m t).length)))), (2, .int (nI k)), (0, .ref (z 0 e))]) G dX2_countMembers_23 rfl (by decide) rfl rfl ?_
      refine jv_iinc (q := 27) (lo' := [(2, .int (nI (k + 1))), (1, .int (nI ((m_sm (m_ml ts) k) + ((mt_m t).length)))), (0, .ref (z 0 e))]) (v := nI (k + 1)) G 1 dX2_countMembers_24 rfl (nI_1 k) (by decide) rfl rfl ?_
      refine jv_goto (q := 4) G dX2_countMembers_27 (by decide) ?_
      refine jv_lo [0, 1, 2] (lo' := [(2, .int (nI (k + 1))), (1, .int (nI ((m_sm (m_ml ts) k) + ((mt_m t).length)))), (0, .ref (z 0 e))]) rfl ?_
      have ea : m_sm (m_ml ts) k + (mt_m t).length = m_sm (m_ml ts) (k + 1) := by
        rw [m_sm, show m_ml ts k = (mt_m t).length from by unfold m_ml; rw [ht]; rfl]
      rw [ea]; exact ih (k + 1) (by omega)
set_option maxHeartbeats 4000000 in
set_option maxRecDepth 100000 in
theorem k_countMembers {lA : Launch} (hlt : lA.stackTraces = false) {D : jv_D} {base : Nat} {z : Nat → Nat → Nat} {T : Nat → Nat} {N : Nat → Nat → Nat} {h : jv_H} {e : Nat} {ts : List mT} (hE : cv_E z T N h e ts) : jv_Met lA D base yX2_countMembers (.code yX2_countMembers cX2_countMembers 3 (some .int)) 1 0 0 [.ref (z 0 e)] h (jv_rI (nI (m_sm (m_ml ts) ts.length)) h) jv_no := by
  refine jv_ofV (lo := [(0, .ref (z 0 e))]) hlt (by decide) (Nat.le_of_ble_eq_true rfl) rfl (fun E hEl hEd hEz Z G hr ht hnm => ?_)
  subst hEl; subst hEd; subst hEz
  refine jv_iconst (q := 1) (v := nI 0) G dX2_countMembers_0 (by decide) rfl ?_
  refine jv_istore_n (q := 2) (lo' := [(1, .int (nI 0)), (0, .ref (z 0 e))]) G dX2_countMembers_1 rfl (by decide) rfl rfl ?_
  refine jv_iconst (q := 3) (v := nI 0) G dX2_countMembers_2 (by decide) rfl ?_
  refine jv_istore_n (q := 4) (lo' := [(2, .int (nI 0)), (1, .int (nI 0)), (0, .ref (z 0 e))]) G dX2_countMembers_3 rfl (by decide) rfl rfl ?_
  show jv_V E 3 h 0 0 (jv_Q E (jv_rI (nI (m_sm (m_ml ts) ts.length)) h) jv_no 0 0) 4 [(2, .int (nI 0)), (1, .int (nI (m_sm (m_ml ts) 0))), (0, .ref (z 0 e))] []
  refine k_cm_loop hE G ?_ ts.length 0 (by omega)
  refine jv_iload_n (q := 31) G 0 dX2_countMembers_30 rfl rfl rfl ?_
  refine jv_iret G hr dX2_countMembers_31 (Nat.le_of_ble_eq_true rfl) (Nat.le_of_ble_eq_true rfl) ?_
  exact ⟨rfl, rfl⟩
def m_sf (t t2 : mT) (m : mM) : Bool := decide (mt_n t = mt_n t2) || decide (1 < mm_a m) || decide (mt_k t = mt_k t2)
set_option maxHeartbeats 4000000 in
set_option maxRecDepth 100000 in
theorem k_standsFor {lA : Launch} (hlt : lA.stackTraces = false) {D : jv_D} {base : Nat} {z : Nat → Nat → Nat} {N : Nat → Nat → Nat} {h : jv_H} {a : Nat} {t : mT} (tl : cl_t z N h a) (hv : cv_T z N h a t) (ho : mt_ok t) {c : Nat} {t2 : mT} (tl2 : cl_t z N h c) (hv2 : cv_T z N h c t2) (ho2 : mt_ok t2) {b : Nat} {m : mM} (hb : jv_sh h b = some (.inl 3)) (hm : cv_M h b m) (hom : mm_ok m) : jv_Met lA D base yX2_standsFor (.code yX2_standsFor cX2_standsFor 3 (some .boolean)) 1 0 0 [.ref a, .ref c, .ref b] h (jv_rI (jv_bI (m_sf t t2 m)) h) jv_no := by
  refine jv_ofV (lo := [(0, .ref a), (1, .ref c), (2, .ref b)]) hlt (by decide) (Nat.le_of_ble_eq_true rfl) rfl (fun E hEl hEd hEz Z G hr ht hnm => ?_)
  subst hEl; subst hEd; subst hEz
  have h1 := ho.1; have h2 := ho2.1; have h3 := ho.2.1; have h4 := ho2.2.1; have h5 := hom.2.2.1
  refine jv_aload_n (q := 1) G 0 dX2_standsFor_0 rfl rfl rfl ?_
  refine jv_getI (q := 4) G dX2_standsFor_1 fl_X2_40 rfl tl.1 (ct_0 hv) rfl ?_
  refine jv_aload_n (q := 5) G 1 dX2_standsFor_4 rfl rfl rfl ?_
  refine jv_getI (q := 8) G dX2_standsFor_5 fl_X2_40 rfl tl2.1 (ct_0 hv2) rfl ?_
  refine jv_icmp_eqN (q := 11) (tgt := 30) G dX2_standsFor_8 (by decide) rfl (by omega) (by omega) (fun c1 => ?_) (fun c1 => ?_)
  · refine jv_iconst (q := 31) (v := nI 1) G dX2_standsFor_30 (by decide) rfl ?_
    refine jv_goto (q := 35) G dX2_standsFor_31 (by decide) ?_
    refine jv_topI (y := jv_bI true) rfl ?_
    refine jv_zret G hr dX2_standsFor_35 (Nat.le_of_ble_eq_true rfl) (Nat.le_of_ble_eq_true rfl) ?_
    refine ⟨?_, rfl⟩; unfold m_sf; first | (simp [*]; done) | (rw [decide_eq_false (p := mt_n t = mt_n t2) (by omega), decide_eq_false (p := 1 < mm_a m) (by omega), decide_eq_false (p := mt_k t = mt_k t2) (by omega)]; rfl)
  · refine jv_aload_n (q := 12) G 2 dX2_standsFor_11 rfl rfl rfl ?_
    refine jv_getI (q := 15) G dX2_standsFor_12 fl_X2_137 rfl hb hm.2.2.2.2.1 rfl ?_
    refine jv_iconst (q := 16) (v := nI 1) G dX2_standsFor_15 (by decide) rfl ?_
    refine jv_icmp_gtN (q := 19) (tgt := 30) G dX2_standsFor_16 (by decide) rfl (by omega) (by omega) (fun c2 => ?_) (fun c2 => ?_)
    · refine jv_iconst (q := 31) (v := nI 1) G dX2_standsFor_30 (by decide) rfl ?_
      refine jv_goto (q := 35) G dX2_standsFor_31 (by decide) ?_
      refine jv_topI (y := jv_bI true) rfl ?_
      refine jv_zret G hr dX2_standsFor_35 (Nat.le_of_ble_eq_true rfl) (Nat.le_of_ble_eq_true rfl) ?_
      refine ⟨?_, rfl⟩; unfold m_sf; first | (simp [*]; done) | (rw [decide_eq_false (p := mt_n t = mt_n t2) (by omega), decide_eq_false (p := 1 < mm_a m) (by omega), decide_eq_false (p := mt_k t = mt_k t2) (by omega)]; rfl)
    · refine jv_aload_n (q := 20) G 0 dX2_standsFor_19 rfl rfl rfl ?_
      refine jv_getI (q := 23) G dX2_standsFor_20 fl_X2_144 rfl tl.1 (ct_3 hv) rfl ?_
      refine jv_aload_n (q := 24) G 1 dX2_standsFor_23 rfl rfl rfl ?_
      refine jv_getI (q := 27) G dX2_standsFor_24 fl_X2_144 rfl tl2.1 (ct_3 hv2) rfl ?_
      refine jv_icmp_neN (q := 30) (tgt := 34) G dX2_standsFor_27 (by decide) rfl (by omega) (by omega) (fun c3 => ?_) (fun c3 => ?_)
      · refine jv_iconst (q := 35) (v := nI 0) G dX2_standsFor_34 (by decide) rfl ?_
        refine jv_topI (y := jv_bI false) rfl ?_
        refine jv_zret G hr dX2_standsFor_35 (Nat.le_of_ble_eq_true rfl) (Nat.le_of_ble_eq_true rfl) ?_
        refine ⟨?_, rfl⟩; unfold m_sf; first | (simp [*]; done) | (rw [decide_eq_false (p := mt_n t = mt_n t2) (by omega), decide_eq_false (p := 1 < mm_a m) (by omega), decide_eq_false (p := mt_k t = mt_k t2) (by omega)]; rfl)
      · refine jv_iconst (q := 31) (v := nI 1) G dX2_standsFor_30 (by decide) rfl ?_
        refine jv_goto (q := 35) G dX2_standsFor_31 (by decide) ?_
        refine jv_topI (y := jv_bI true) rfl ?_
        refine jv_zret G hr dX2_standsFor_35 (Nat.le_of_ble_eq_true rfl) (Nat.le_of_ble_eq_true rfl) ?_
        refine ⟨?_, rfl⟩; unfold m_sf; first | (simp [*]; done) | (rw [decide_eq_false (p := mt_n t = mt_n t2) (by omega), decide_eq_false (p := 1 < mm_a m) (by omega), decide_eq_false (p := mt_k t = mt_k t2) (by omega)]; rfl)
